set_option maxHeartbeats 4000000 in
set_option maxRecDepth 100000 in
theorem law_9 {p : Program} {e : Env} {s : State} {m : MethodId} {below : List Frame} {meth : Method} {c : Code} (l : Launch) {b : Nat} {xs : Nat → Int32} {A : Nat → Prop} {dC : Nat → ClassId} {dI : Nat → Nat → Nat} (C0 : lw_At p s m meth c b 6 xs) (hA : ∀ q : Nat, s.heap.size ≤ q → A q) (hbA : ¬ A b) (hAl : ∀ q : Nat, A q → s.heap.size ≤ q) (hE : EnvOK s) {y1 : Int32} (ey1 : xs (Int32.toNatClampNeg 1) = y1) {y2 : Int32} (ey2 : xs (Int32.toNatClampNeg 2) = y2) {x0 : Nat} {q1111 : Nat} {q1112 : Nat} {q1113 : Nat} {q1114 : Nat} {q1115 : Nat} {q1116 : Nat} {q1117 : Nat} {q1118 : Nat} {q1119 : Nat} {q1120 : Nat} {q1121 : Nat} {q1122 : Nat} {q1123 : Nat} {q1162 : Nat} {q1163 : Nat} {q1164 : Nat} {q1165 : Nat} {q1166 : Nat} {q1167 : Nat} {m0 : Nat} {q2712 : Nat} {q2713 : Nat} {q2714 : Nat} {q2715 : Nat} {q2716 : Nat} {q2717 : Nat} {q2718 : Nat} {q2719 : Nat} {q2720 : Nat} {q2721 : Nat} {q2722 : Nat} {q2723 : Nat} {q2724 : Nat} {q2725 : Nat} {q2726 : Nat} {q2727 : Nat} {q2728 : Nat} {q2729 : Nat} {q2730 : Nat} {q2731 : Nat} {q2732 : Nat} {q2733 : Nat} {q2734 : Nat} {q2735 : Nat} {q2736 : Nat} {q2737 : Nat} {q2738 : Nat} {q2739 : Nat} {q2740 : Nat} {q2741 : Nat} {q2742 : Nat} {q2743 : Nat} {q2744 : Nat} {q2745 : Nat} {q2746 : Nat} {q2747 : Nat} {q2748 : Nat} {q2749 : Nat} {q2750 : Nat} {q2751 : Nat} {q2752 : Nat} {q2753 : Nat} {q2754 : Nat} {q2755 : Nat} {q2756 : Nat} {H : Heap} {locs : List Loc} {ls : Array Slot} (hK : va_K (dC, dI) vwCl [] s) (hP : va_P (dC, dI) vwCl [(x0, .inr (11, [.ref q1111, .ref q1112, .int 0, .int (-1), .ref q1113, .ref q1114, .ref q1115, .ref q1116, .ref q1117, .ref q1118, .ref q1119, .int 0, .ref q1120, .int 0, .ref q1121, .ref q1122, .ref q1123])), (q1117, .inr (3, [.int 0, .ref q1162, .ref q1163, .ref q1164, .ref q1165, .ref q1166, .ref q1167])), (m0, .inr (12, (.ref q2712 :: .int 0 :: .int 0 :: .int 0 :: .int 0 :: .int 0 :: .int 0 :: .int 0 :: .int (-1) :: .int 0 :: .ref q2713 :: .ref q2714 :: .ref q2715 :: .ref q2716 :: .ref q2717 :: .ref q2718 :: .ref q2719 :: .ref q2720 :: .ref q2721 :: .ref q2722 :: .ref q2723 :: .ref q2724 :: .ref q2725 :: .int 0 :: .ref q2726 :: .ref q2727 :: .ref q2728 :: .int 0 :: .ref q2729 :: .ref q2730 :: .int 0 :: .ref q2731 :: .ref q2732 :: .ref q2733 :: .int 0 :: .int 0 :: .int 0 :: .ref q2734 :: .ref q2735 :: .int 0 :: .ref q2736 :: .ref q2737 :: .ref q2738 :: .ref q2739 :: .int 0 :: .ref q2740 :: .ref q2741 :: .int 0 :: .int 0 :: .ref q2742 :: .ref q2743 :: .int 0 :: .ref q2744 :: .ref q2745 :: .ref q2746 :: .ref q2747 :: .int 0 :: .ref q2748 :: .ref q2749 :: .int 0 :: .ref q2750 :: .ref q2751 :: .int 0 :: .ref q2752 :: .ref q2753 :: .int 0 :: .int 0 :: .ref q2754 :: .ref q2755 :: .ref q2756 :: .int 0 :: [])))] H) (hD : va_D A [(x0, .inr (11, [.ref q1111, .ref q1112, .int 0, .int (-1), .ref q1113, .ref q1114, .ref q1115, .ref q1116, .ref q1117, .ref q1118, .ref q1119, .int 0, .ref q1120, .int 0, .ref q1121, .ref q1122, .ref q1123])), (q1117, .inr (3, [.int 0, .ref q1162, .ref q1163, .ref q1164, .ref q1165, .ref q1166, .ref q1167])), (m0, .inr (12, (.ref q2712 :: .int 0 :: .int 0 :: .int 0 :: .int 0 :: .int 0 :: .int 0 :: .int 0 :: .int (-1) :: .int 0 :: .ref q2713 :: .ref q2714 :: .ref q2715 :: .ref q2716 :: .ref q2717 :: .ref q2718 :: .ref q2719 :: .ref q2720 :: .ref q2721 :: .ref q2722 :: .ref q2723 :: .ref q2724 :: .ref q2725 :: .int 0 :: .ref q2726 :: .ref q2727 :: .ref q2728 :: .int 0 :: .ref q2729 :: .ref q2730 :: .int 0 :: .ref q2731 :: .ref q2732 :: .ref q2733 :: .int 0 :: .int 0 :: .int 0 :: .ref q2734 :: .ref q2735 :: .int 0 :: .ref q2736 :: .ref q2737 :: .ref q2738 :: .ref q2739 :: .int 0 :: .ref q2740 :: .ref q2741 :: .int 0 :: .int 0 :: .ref q2742 :: .ref q2743 :: .int 0 :: .ref q2744 :: .ref q2745 :: .ref q2746 :: .ref q2747 :: .int 0 :: .ref q2748 :: .ref q2749 :: .int 0 :: .ref q2750 :: .ref q2751 :: .int 0 :: .ref q2752 :: .ref q2753 :: .int 0 :: .int 0 :: .ref q2754 :: .ref q2755 :: .ref q2756 :: .int 0 :: [])))]) (hS : va_S A s.heap H locs) (hl : lv_has ls 4 [(3, .int 0), (2, .ref m0), (1, .ref x0), (0, .ref b)]) : W p l e room_1 s m #[Value.ref b] below meth c H locs 126 277922 (lw_Z below #[Value.ref b] s) (F0 m 425 ls []) := by
  obtain ⟨hx, hb, hr, hml, hown, hts, hX, hbl, hlocks, hgv⟩ := C0
  have hts := fun w h => hts w (wmL_law_in w h)
  have hS : va_S A s.heap H locs := hS
  refine lv_aload_n hx hb dL_law_425 rfl (lv_at hl 2 rfl) ?_
  refine lv_aload_n hx hb dL_law_426 rfl (lv_at hl 3 rfl) ?_
  refine lv_iload_n hx hb dL_law_427 rfl (lv_at hl 0 rfl) ?_
  refine lv_iconst (v := 1) hx hb dL_law_428 (by decide +kernel) ?_
  refine lv_iadd hx hb dL_law_429 ?_
  refine lv_topi (fun x4215 ex4215 => ?_)
  obtain rfl : x4215 = 1 := ex4215.trans (by decide +kernel)
  refine va_sld hx hb hX hbl hbA hS (by unfold vp_in; decide) dL_law_430 ?_
  refine lv_topi (fun x4216 ex4216 => ?_)
  obtain rfl : y1 = x4216 := (ex4216.trans ey1).symm
  refine lv_aload_n hx hb dL_law_431 rfl (lv_at hl 3 rfl) ?_
  refine lv_iload_n hx hb dL_law_432 rfl (lv_at hl 0 rfl) ?_
  refine lv_iconst (v := 2) hx hb dL_law_433 (by decide +kernel) ?_
  refine lv_iadd hx hb dL_law_434 ?_
  refine lv_topi (fun x4217 ex4217 => ?_)
  obtain rfl : x4217 = 2 := ex4217.trans (by decide +kernel)
  refine va_sld hx hb hX hbl hbA hS (by unfold vp_in; decide) dL_law_435 ?_
  refine lv_topi (fun x4218 ex4218 => ?_)
  obtain rfl : y2 = x4218 := (ex4218.trans ey2).symm
  have hPc := hP.sub (ws' := [(x0, .inr (11, [.ref q1111, .ref q1112, .int 0, .int (-1), .ref q1113, .ref q1114, .ref q1115, .ref q1116, .ref q1117, .ref q1118, .ref q1119, .int 0, .ref q1120, .int 0, .ref q1121, .ref q1122, .ref q1123])), (q1117, .inr (3, [.int 0, .ref q1162, .ref q1163, .ref q1164, .ref q1165, .ref q1166, .ref q1167]))]) [0, 1] rfl
  have hDc := hD.sub (ws' := [(x0, .inr (11, [.ref q1111, .ref q1112, .int 0, .int (-1), .ref q1113, .ref q1114, .ref q1115, .ref q1116, .ref q1117, .ref q1118, .ref q1119, .int 0, .ref q1120, .int 0, .ref q1121, .ref q1122, .ref q1123])), (q1117, .inr (3, [.int 0, .ref q1162, .ref q1163, .ref q1164, .ref q1165, .ref q1166, .ref q1167]))]) [0, 1] (by decide +kernel) rfl
  have hKc := hK.sub (tys' := []) [] rfl
  have hFc := va_free (wc := [(x0, .inr (11, [.ref q1111, .ref q1112, .int 0, .int (-1), .ref q1113, .ref q1114, .ref q1115, .ref q1116, .ref q1117, .ref q1118, .ref q1119, .int 0, .ref q1120, .int 0, .ref q1121, .ref q1122, .ref q1123])), (q1117, .inr (3, [.int 0, .ref q1162, .ref q1163, .ref q1164, .ref q1165, .ref q1166, .ref q1167]))]) hD hS hA [0, 1] rfl
  refine va_calli (va_runV (As := [.int y1, .int y2]) (rest := []) ⟨hx, hb, hml, hown, hts⟩ (c_X11_parting_0 l dC dI H.size x0 q1111 q1112 q1113 q1114 q1115 q1116 q1117 q1118 q1119 q1120 q1121 q1122 q1123 q1162 q1163 q1164 q1165 q1166 q1167 y1 y2) (cwV 2 hts gv_L_law_X11_parting_52 rfl rfl rfl (by decide +kernel) ⟨Nat.le_of_ble_eq_true rfl, Nat.le_of_ble_eq_true rfl⟩) ⟨fun a U g mk q => by obtain ⟨q0, q1, qP, qK, qD⟩ := q; exact ⟨q0, q1, qP, va_K.moved (u := U) (U := U.calling g mk a) (Vm.Alike.refl U.vm) qK, qD⟩, va_recv hKc hPc (ci := 11) (q0 := 0) rfl rfl, fun U hU hW => ⟨rfl, by rw [hU], by rw [hU]; exact hPc, va_K.moved hW.alike hKc, hDc.weaken (fun _ _ _ _ => trivial)⟩⟩ rfl rfl hl.1 rfl (lv_room (Nat.le_of_ble_eq_true rfl)) dL_law_436 ⟨Nat.le_of_ble_eq_true rfl, Nat.le_of_ble_eq_true rfl⟩) hS (fun q _ h => hFc q h) hFc (fun r4221 u t H1 locs ht hvm hw hB hz1 hk1 hS => ?_)
  obtain ⟨hP1, hK1, hD1⟩ := hB
  rw [ht] at hP1
  have hK1 := va_K.moved hvm.symm hK1
  obtain ⟨hP, hD⟩ := va_join (wr := [(m0, .inr (12, (.ref q2712 :: .int 0 :: .int 0 :: .int 0 :: .int 0 :: .int 0 :: .int 0 :: .int 0 :: .int (-1) :: .int 0 :: .ref q2713 :: .ref q2714 :: .ref q2715 :: .ref q2716 :: .ref q2717 :: .ref q2718 :: .ref q2719 :: .ref q2720 :: .ref q2721 :: .ref q2722 :: .ref q2723 :: .ref q2724 :: .ref q2725 :: .int 0 :: .ref q2726 :: .ref q2727 :: .ref q2728 :: .int 0 :: .ref q2729 :: .ref q2730 :: .int 0 :: .ref q2731 :: .ref q2732 :: .ref q2733 :: .int 0 :: .int 0 :: .int 0 :: .ref q2734 :: .ref q2735 :: .int 0 :: .ref q2736 :: .ref q2737 :: .ref q2738 :: .ref q2739 :: .int 0 :: .ref q2740 :: .ref q2741 :: .int 0 :: .int 0 :: .ref q2742 :: .ref q2743 :: .int 0 :: .ref q2744 :: .ref q2745 :: .ref q2746 :: .ref q2747 :: .int 0 :: .ref q2748 :: .ref q2749 :: .int 0 :: .ref q2750 :: .ref q2751 :: .int 0 :: .ref q2752 :: .ref q2753 :: .int 0 :: .int 0 :: .ref q2754 :: .ref q2755 :: .ref q2756 :: .int 0 :: [])))]) (w1 := []) hP hD [0, 1] [2] rfl rfl (by decide +kernel) (by decide +kernel) hk1 hFc hP1 hD1
  have hK := (hK.sub (tys' := []) [] rfl).app hK1
  generalize H1 = H at hP hS ⊢
  have hK : va_K (dC, dI) vwCl [] s := hK
  have hP : va_P (dC, dI) vwCl [(m0, .inr (12, (.ref q2712 :: .int 0 :: .int 0 :: .int 0 :: .int 0 :: .int 0 :: .int 0 :: .int 0 :: .int (-1) :: .int 0 :: .ref q2713 :: .ref q2714 :: .ref q2715 :: .ref q2716 :: .ref q2717 :: .ref q2718 :: .ref q2719 :: .ref q2720 :: .ref q2721 :: .ref q2722 :: .ref q2723 :: .ref q2724 :: .ref q2725 :: .int 0 :: .ref q2726 :: .ref q2727 :: .ref q2728 :: .int 0 :: .ref q2729 :: .ref q2730 :: .int 0 :: .ref q2731 :: .ref q2732 :: .ref q2733 :: .int 0 :: .int 0 :: .int 0 :: .ref q2734 :: .ref q2735 :: .int 0 :: .ref q2736 :: .ref q2737 :: .ref q2738 :: .ref q2739 :: .int 0 :: .ref q2740 :: .ref q2741 :: .int 0 :: .int 0 :: .ref q2742 :: .ref q2743 :: .int 0 :: .ref q2744 :: .ref q2745 :: .ref q2746 :: .ref q2747 :: .int 0 :: .ref q2748 :: .ref q2749 :: .int 0 :: .ref q2750 :: .ref q2751 :: .int 0 :: .ref q2752 :: .ref q2753 :: .int 0 :: .int 0 :: .ref q2754 :: .ref q2755 :: .ref q2756 :: .int 0 :: [])))] H := hP
  have hD : va_D A [(m0, .inr (12, (.ref q2712 :: .int 0 :: .int 0 :: .int 0 :: .int 0 :: .int 0 :: .int 0 :: .int 0 :: .int (-1) :: .int 0 :: .ref q2713 :: .ref q2714 :: .ref q2715 :: .ref q2716 :: .ref q2717 :: .ref q2718 :: .ref q2719 :: .ref q2720 :: .ref q2721 :: .ref q2722 :: .ref q2723 :: .ref q2724 :: .ref q2725 :: .int 0 :: .ref q2726 :: .ref q2727 :: .ref q2728 :: .int 0 :: .ref q2729 :: .ref q2730 :: .int 0 :: .ref q2731 :: .ref q2732 :: .ref q2733 :: .int 0 :: .int 0 :: .int 0 :: .ref q2734 :: .ref q2735 :: .int 0 :: .ref q2736 :: .ref q2737 :: .ref q2738 :: .ref q2739 :: .int 0 :: .ref q2740 :: .ref q2741 :: .int 0 :: .int 0 :: .ref q2742 :: .ref q2743 :: .int 0 :: .ref q2744 :: .ref q2745 :: .ref q2746 :: .ref q2747 :: .int 0 :: .ref q2748 :: .ref q2749 :: .int 0 :: .ref q2750 :: .ref q2751 :: .int 0 :: .ref q2752 :: .ref q2753 :: .int 0 :: .int 0 :: .ref q2754 :: .ref q2755 :: .ref q2756 :: .int 0 :: [])))] := hD
  obtain rfl : r4221 = (-1) := hw
  refine lv_aload_n hx hb dL_law_439 rfl (lv_at hl 1 rfl) ?_
  refine lv_aload_n hx hb dL_law_440 rfl (lv_at hl 3 rfl) ?_
  refine lv_iload_n hx hb dL_law_441 rfl (lv_at hl 0 rfl) ?_
  refine lv_iconst (v := 1) hx hb dL_law_442 (by decide +kernel) ?_
  refine lv_iadd hx hb dL_law_443 ?_
  refine lv_topi (fun x4222 ex4222 => ?_)
  obtain rfl : x4222 = 1 := ex4222.trans (by decide +kernel)
  refine va_sld hx hb hX hbl hbA hS (by unfold vp_in; decide) dL_law_444 ?_
  refine lv_topi (fun x4223 ex4223 => ?_)
  obtain rfl : y1 = x4223 := (ex4223.trans ey1).symm
  refine lv_aload_n hx hb dL_law_445 rfl (lv_at hl 3 rfl) ?_
  refine lv_iload_n hx hb dL_law_446 rfl (lv_at hl 0 rfl) ?_
  refine lv_iconst (v := 2) hx hb dL_law_447 (by decide +kernel) ?_
  refine lv_iadd hx hb dL_law_448 ?_
  refine lv_topi (fun x4224 ex4224 => ?_)
  obtain rfl : x4224 = 2 := ex4224.trans (by decide +kernel)
  refine va_sld hx hb hX hbl hbA hS (by unfold vp_in; decide) dL_law_449 ?_
  refine lv_topi (fun x4225 ex4225 => ?_)
  obtain rfl : y2 = x4225 := (ex4225.trans ey2).symm
  have hPc := hP.sub (ws' := [(m0, .inr (12, (.ref q2712 :: .int 0 :: .int 0 :: .int 0 :: .int 0 :: .int 0 :: .int 0 :: .int 0 :: .int (-1) :: .int 0 :: .ref q2713 :: .ref q2714 :: .ref q2715 :: .ref q2716 :: .ref q2717 :: .ref q2718 :: .ref q2719 :: .ref q2720 :: .ref q2721 :: .ref q2722 :: .ref q2723 :: .ref q2724 :: .ref q2725 :: .int 0 :: .ref q2726 :: .ref q2727 :: .ref q2728 :: .int 0 :: .ref q2729 :: .ref q2730 :: .int 0 :: .ref q2731 :: .ref q2732 :: .ref q2733 :: .int 0 :: .int 0 :: .int 0 :: .ref q2734 :: .ref q2735 :: .int 0 :: .ref q2736 :: .ref q2737 :: .ref q2738 :: .ref q2739 :: .int 0 :: .ref q2740 :: .ref q2741 :: .int 0 :: .int 0 :: .ref q2742 :: .ref q2743 :: .int 0 :: .ref q2744 :: .ref q2745 :: .ref q2746 :: .ref q2747 :: .int 0 :: .ref q2748 :: .ref q2749 :: .int 0 :: .ref q2750 :: .ref q2751 :: .int 0 :: .ref q2752 :: .ref q2753 :: .int 0 :: .int 0 :: .ref q2754 :: .ref q2755 :: .ref q2756 :: .int 0 :: [])))]) [0] rfl
  have hDc := hD.sub (ws' := [(m0, .inr (12, (.ref q2712 :: .int 0 :: .int 0 :: .int 0 :: .int 0 :: .int 0 :: .int 0 :: .int 0 :: .int (-1) :: .int 0 :: .ref q2713 :: .ref q2714 :: .ref q2715 :: .ref q2716 :: .ref q2717 :: .ref q2718 :: .ref q2719 :: .ref q2720 :: .ref q2721 :: .ref q2722 :: .ref q2723 :: .ref q2724 :: .ref q2725 :: .int 0 :: .ref q2726 :: .ref q2727 :: .ref q2728 :: .int 0 :: .ref q2729 :: .ref q2730 :: .int 0 :: .ref q2731 :: .ref q2732 :: .ref q2733 :: .int 0 :: .int 0 :: .int 0 :: .ref q2734 :: .ref q2735 :: .int 0 :: .ref q2736 :: .ref q2737 :: .ref q2738 :: .ref q2739 :: .int 0 :: .ref q2740 :: .ref q2741 :: .int 0 :: .int 0 :: .ref q2742 :: .ref q2743 :: .int 0 :: .ref q2744 :: .ref q2745 :: .ref q2746 :: .ref q2747 :: .int 0 :: .ref q2748 :: .ref q2749 :: .int 0 :: .ref q2750 :: .ref q2751 :: .int 0 :: .ref q2752 :: .ref q2753 :: .int 0 :: .int 0 :: .ref q2754 :: .ref q2755 :: .ref q2756 :: .int 0 :: [])))]) [0] (by decide +kernel) rfl
  have hKc := hK.sub (tys' := []) [] rfl
  have hFc := va_free (wc := [(m0, .inr (12, (.ref q2712 :: .int 0 :: .int 0 :: .int 0 :: .int 0 :: .int 0 :: .int 0 :: .int 0 :: .int (-1) :: .int 0 :: .ref q2713 :: .ref q2714 :: .ref q2715 :: .ref q2716 :: .ref q2717 :: .ref q2718 :: .ref q2719 :: .ref q2720 :: .ref q2721 :: .ref q2722 :: .ref q2723 :: .ref q2724 :: .ref q2725 :: .int 0 :: .ref q2726 :: .ref q2727 :: .ref q2728 :: .int 0 :: .ref q2729 :: .ref q2730 :: .int 0 :: .ref q2731 :: .ref q2732 :: .ref q2733 :: .int 0 :: .int 0 :: .int 0 :: .ref q2734 :: .ref q2735 :: .int 0 :: .ref q2736 :: .ref q2737 :: .ref q2738 :: .ref q2739 :: .int 0 :: .ref q2740 :: .ref q2741 :: .int 0 :: .int 0 :: .ref q2742 :: .ref q2743 :: .int 0 :: .ref q2744 :: .ref q2745 :: .ref q2746 :: .ref q2747 :: .int 0 :: .ref q2748 :: .ref q2749 :: .int 0 :: .ref q2750 :: .ref q2751 :: .int 0 :: .ref q2752 :: .ref q2753 :: .int 0 :: .int 0 :: .ref q2754 :: .ref q2755 :: .ref q2756 :: .int 0 :: [])))]) hD hS hA [0] rfl
  refine va_calli (va_runV (As := [.int y1, .int y2]) (rest := [.int (-1)]) ⟨hx, hb, hml, hown, hts⟩ (c_X12_parting_0 l dC dI H.size m0 q2712 q2713 q2714 q2715 q2716 q2717 q2718 q2719 q2720 q2721 q2722 q2723 q2724 q2725 q2726 q2727 q2728 q2729 q2730 q2731 q2732 q2733 q2734 q2735 q2736 q2737 q2738 q2739 q2740 q2741 q2742 q2743 q2744 q2745 q2746 q2747 q2748 q2749 q2750 q2751 q2752 q2753 q2754 q2755 q2756 y1 y2) (cwV 2 hts gv_L_law_X12_parting_55 rfl rfl rfl (by decide +kernel) ⟨Nat.le_of_ble_eq_true rfl, Nat.le_of_ble_eq_true rfl⟩) ⟨fun a U g mk q => by obtain ⟨q0, q1, qP, qK, qD⟩ := q; exact ⟨q0, q1, qP, va_K.moved (u := U) (U := U.calling g mk a) (Vm.Alike.refl U.vm) qK, qD⟩, va_recv hKc hPc (ci := 12) (q0 := 0) rfl rfl, fun U hU hW => ⟨rfl, by rw [hU], by rw [hU]; exact hPc, va_K.moved hW.alike hKc, hDc.weaken (fun _ _ _ _ => trivial)⟩⟩ rfl rfl hl.1 rfl (lv_room (Nat.le_of_ble_eq_true rfl)) dL_law_450 ⟨Nat.le_of_ble_eq_true rfl, Nat.le_of_ble_eq_true rfl⟩) hS (fun q _ h => hFc q h) hFc (fun r4229 u t H1 locs ht hvm hw hB hz1 hk1 hS => ?_)
  obtain ⟨hP1, hK1, hD1⟩ := hB
  rw [ht] at hP1
  have hK1 := va_K.moved hvm.symm hK1
  obtain ⟨hP, hD⟩ := va_join (wr := []) (w1 := []) hP hD [0] [] rfl rfl (by decide +kernel) (by decide +kernel) hk1 hFc hP1 hD1
  have hK := (hK.sub (tys' := []) [] rfl).app hK1
  generalize H1 = H at hP hS ⊢
  have hK : va_K (dC, dI) vwCl [] s := hK
  have hP : va_P (dC, dI) vwCl [] H := hP
  have hD : va_D A [] := hD
  obtain rfl : r4229 = (-1) := hw
  refine lv_icmp_eq (tgt := 833) hx hb dL_law_453 (by decide +kernel) (fun _ => ?_) (fun h => absurd (by decide +kernel) h)
  refine lv_iinc (v := 6) (lv' := [(3, .int 6), (2, .ref m0), (1, .ref x0), (0, .ref b)]) hx hb dL_law_833 hl (k := 0) rfl (by decide +kernel) (by decide +kernel) rfl (fun ls hl => ?_)
  refine lv_goto (tgt := 18) hx hb dL_law_836 (by decide +kernel) ?_
  refine lv_iload_n hx hb dL_law_18 rfl (lv_at hl 0 rfl) ?_
  refine lv_aload_n hx hb dL_law_19 rfl (lv_at hl 3 rfl) ?_
  refine va_slen hx hb hX hbl hbA hS dL_law_20 ?_
  refine lv_topi (fun x4230 ex4230 => ?_)
  obtain rfl : x4230 = 6 := ex4230.trans (by decide +kernel)
  refine lv_bipush (v := 6) hx hb dL_law_21 (by decide +kernel) ?_
  refine lv_isub hx hb dL_law_23 ?_
  refine lv_topi (fun x4231 ex4231 => ?_)
  obtain rfl : x4231 = 0 := ex4231.trans (by decide +kernel)
  refine lv_icmp_gt (tgt := 839) hx hb dL_law_24 (by decide +kernel) (fun _ => ?_) (fun h => absurd (by decide +kernel) h)
  refine lv_iconst (v := 1) hx hb dL_law_839 (by decide +kernel) ?_
  refine va_forget (fun q hq => hAl _ (hS.2.2 q hq)) ?_
  refine W.widen (k := 600000) (n := 7302250) (by omega) (by omega) ?_
  exact lw_ret hx hb hr hlocks dL_law_840
set_option maxHeartbeats 4000000 in
set_option maxRecDepth 100000 in
theorem law_10 {p : Program} {e : Env} {s : State} {m : MethodId} {below : List Frame} {meth : Method} {c : Code} (l : Launch) {b : Nat} {xs : Nat → Int32} {A : Nat → Prop} {dC : Nat → ClassId} {dI : Nat → Nat → Nat} (C0 : lw_At p s m meth c b 6 xs) (hA : ∀ q : Nat, s.heap.size ≤ q → A q) (hbA : ¬ A b) (hAl : ∀ q : Nat, A q → s.heap.size ≤ q) (hE : EnvOK s) {x0 : Nat} {q1111 : Nat} {q1112 : Nat} {q1113 : Nat} {q1114 : Nat} {q1115 : Nat} {q1116 : Nat} {q1117 : Nat} {q1118 : Nat} {q1119 : Nat} {q1120 : Nat} {q1121 : Nat} {q1122 : Nat} {q1123 : Nat} {q1124 : Nat} {m0 : Nat} {q2712 : Nat} {q2713 : Nat} {q2714 : Nat} {q2715 : Nat} {q2716 : Nat} {q2717 : Nat} {q2718 : Nat} {q2719 : Nat} {q2720 : Nat} {q2721 : Nat} {q2722 : Nat} {q2723 : Nat} {q2724 : Nat} {q2725 : Nat} {q2726 : Nat} {q2727 : Nat} {q2728 : Nat} {q2729 : Nat} {q2730 : Nat} {q2731 : Nat} {q2732 : Nat} {q2733 : Nat} {q2734 : Nat} {q2735 : Nat} {q2736 : Nat} {q2737 : Nat} {q2738 : Nat} {q2739 : Nat} {q2740 : Nat} {q2741 : Nat} {q2742 : Nat} {q2743 : Nat} {q2744 : Nat} {q2745 : Nat} {q2746 : Nat} {q2747 : Nat} {q2748 : Nat} {q2749 : Nat} {q2750 : Nat} {q2751 : Nat} {q2752 : Nat} {q2753 : Nat} {q2754 : Nat} {q2755 : Nat} {q2756 : Nat} {H : Heap} {locs : List Loc} {ls : Array Slot} (hK : va_K (dC, dI) vwCl [] s) (hP : va_P (dC, dI) vwCl [(x0, .inr (11, [.ref q1111, .ref q1112, .int 0, .int (-1), .ref q1113, .ref q1114, .ref q1115, .ref q1116, .ref q1117, .ref q1118, .ref q1119, .int 0, .ref q1120, .int 0, .ref q1121, .ref q1122, .ref q1123])), (q1111, .inr (7, [.ref q1124, .int 0])), (m0, .inr (12, (.ref q2712 :: .int 0 :: .int 0 :: .int 0 :: .int 0 :: .int 0 :: .int 0 :: .int 0 :: .int (-1) :: .int 0 :: .ref q2713 :: .ref q2714 :: .ref q2715 :: .ref q2716 :: .ref q2717 :: .ref q2718 :: .ref q2719 :: .ref q2720 :: .ref q2721 :: .ref q2722 :: .ref q2723 :: .ref q2724 :: .ref q2725 :: .int 0 :: .ref q2726 :: .ref q2727 :: .ref q2728 :: .int 0 :: .ref q2729 :: .ref q2730 :: .int 0 :: .ref q2731 :: .ref q2732 :: .ref q2733 :: .int 0 :: .int 0 :: .int 0 :: .ref q2734 :: .ref q2735 :: .int 0 :: .ref q2736 :: .ref q2737 :: .ref q2738 :: .ref q2739 :: .int 0 :: .ref q2740 :: .ref q2741 :: .int 0 :: .int 0 :: .ref q2742 :: .ref q2743 :: .int 0 :: .ref q2744 :: .ref q2745 :: .ref q2746 :: .ref q2747 :: .int 0 :: .ref q2748 :: .ref q2749 :: .int 0 :: .ref q2750 :: .ref q2751 :: .int 0 :: .ref q2752 :: .ref q2753 :: .int 0 :: .int 0 :: .ref q2754 :: .ref q2755 :: .ref q2756 :: .int 0 :: [])))] H) (hD : va_D A [(x0, .inr (11, [.ref q1111, .ref q1112, .int 0, .int (-1), .ref q1113, .ref q1114, .ref q1115, .ref q1116, .ref q1117, .ref q1118, .ref q1119, .int 0, .ref q1120, .int 0, .ref q1121, .ref q1122, .ref q1123])), (q1111, .inr (7, [.ref q1124, .int 0])), (m0, .inr (12, (.ref q2712 :: .int 0 :: .int 0 :: .int 0 :: .int 0 :: .int 0 :: .int 0 :: .int 0 :: .int (-1) :: .int 0 :: .ref q2713 :: .ref q2714 :: .ref q2715 :: .ref q2716 :: .ref q2717 :: .ref q2718 :: .ref q2719 :: .ref q2720 :: .ref q2721 :: .ref q2722 :: .ref q2723 :: .ref q2724 :: .ref q2725 :: .int 0 :: .ref q2726 :: .ref q2727 :: .ref q2728 :: .int 0 :: .ref q2729 :: .ref q2730 :: .int 0 :: .ref q2731 :: .ref q2732 :: .ref q2733 :: .int 0 :: .int 0 :: .int 0 :: .ref q2734 :: .ref q2735 :: .int 0 :: .ref q2736 :: .ref q2737 :: .ref q2738 :: .ref q2739 :: .int 0 :: .ref q2740 :: .ref q2741 :: .int 0 :: .int 0 :: .ref q2742 :: .ref q2743 :: .int 0 :: .ref q2744 :: .ref q2745 :: .ref q2746 :: .ref q2747 :: .int 0 :: .ref q2748 :: .ref q2749 :: .int 0 :: .ref q2750 :: .ref q2751 :: .int 0 :: .ref q2752 :: .ref q2753 :: .int 0 :: .int 0 :: .ref q2754 :: .ref q2755 :: .ref q2756 :: .int 0 :: [])))]) (hS : va_S A s.heap H locs) (hl : lv_has ls 4 [(3, .int 0), (2, .ref m0), (1, .ref x0), (0, .ref b)]) : W p l e room_1 s m #[Value.ref b] below meth c H locs 126 277922 (lw_Z below #[Value.ref b] s) (F0 m 458 ls []) := by
  obtain ⟨hx, hb, hr, hml, hown, hts, hX, hbl, hlocks, hgv⟩ := C0
  have hts := fun w h => hts w (wmL_law_in w h)
  have hS : va_S A s.heap H locs := hS
  refine lv_aload_n hx hb dL_law_458 rfl (lv_at hl 2 rfl) ?_
  have hPc := hP.sub (ws' := [(x0, .inr (11, [.ref q1111, .ref q1112, .int 0, .int (-1), .ref q1113, .ref q1114, .ref q1115, .ref q1116, .ref q1117, .ref q1118, .ref q1119, .int 0, .ref q1120, .int 0, .ref q1121, .ref q1122, .ref q1123])), (q1111, .inr (7, [.ref q1124, .int 0]))]) [0, 1] rfl
  have hDc := hD.sub (ws' := [(x0, .inr (11, [.ref q1111, .ref q1112, .int 0, .int (-1), .ref q1113, .ref q1114, .ref q1115, .ref q1116, .ref q1117, .ref q1118, .ref q1119, .int 0, .ref q1120, .int 0, .ref q1121, .ref q1122, .ref q1123])), (q1111, .inr (7, [.ref q1124, .int 0]))]) [0, 1] (by decide +kernel) rfl
  have hKc := hK.sub (tys' := []) [] rfl
  have hFc := va_free (wc := [(x0, .inr (11, [.ref q1111, .ref q1112, .int 0, .int (-1), .ref q1113, .ref q1114, .ref q1115, .ref q1116, .ref q1117, .ref q1118, .ref q1119, .int 0, .ref q1120, .int 0, .ref q1121, .ref q1122, .ref q1123])), (q1111, .inr (7, [.ref q1124, .int 0]))]) hD hS hA [0, 1] rfl
  refine va_calli (va_runV (As := []) (rest := []) ⟨hx, hb, hml, hown, hts⟩ (c_X11_learn_0 l dC dI H.size x0 q1111 q1112 q1113 q1114 q1115 q1116 q1117 q1118 q1119 q1120 q1121 q1122 q1123 q1124) (cwV 0 hts gv_L_law_X11_learn_56 rfl rfl rfl (by decide +kernel) ⟨Nat.le_of_ble_eq_true rfl, Nat.le_of_ble_eq_true rfl⟩) ⟨fun a U g mk q => by obtain ⟨q0, q1, qP, qK, qD⟩ := q; exact ⟨q0, q1, qP, va_K.moved (u := U) (U := U.calling g mk a) (Vm.Alike.refl U.vm) qK, qD⟩, va_recv hKc hPc (ci := 11) (q0 := 0) rfl rfl, fun U hU hW => ⟨rfl, by rw [hU], by rw [hU]; exact hPc, va_K.moved hW.alike hKc, hDc.weaken (fun _ _ _ _ => trivial)⟩⟩ rfl rfl hl.1 rfl (lv_room (Nat.le_of_ble_eq_true rfl)) dL_law_459 ⟨Nat.le_of_ble_eq_true rfl, Nat.le_of_ble_eq_true rfl⟩) hS (fun q _ h => hFc q h) hFc (fun r4232 u t H1 locs ht hvm hw hB hz1 hk1 hS => ?_)
  obtain ⟨hP1, hK1, hD1⟩ := hB
  rw [ht] at hP1
  have hK1 := va_K.moved hvm.symm hK1
  obtain ⟨hP, hD⟩ := va_join (wr := [(m0, .inr (12, (.ref q2712 :: .int 0 :: .int 0 :: .int 0 :: .int 0 :: .int 0 :: .int 0 :: .int 0 :: .int (-1) :: .int 0 :: .ref q2713 :: .ref q2714 :: .ref q2715 :: .ref q2716 :: .ref q2717 :: .ref q2718 :: .ref q2719 :: .ref q2720 :: .ref q2721 :: .ref q2722 :: .ref q2723 :: .ref q2724 :: .ref q2725 :: .int 0 :: .ref q2726 :: .ref q2727 :: .ref q2728 :: .int 0 :: .ref q2729 :: .ref q2730 :: .int 0 :: .ref q2731 :: .ref q2732 :: .ref q2733 :: .int 0 :: .int 0 :: .int 0 :: .ref q2734 :: .ref q2735 :: .int 0 :: .ref q2736 :: .ref q2737 :: .ref q2738 :: .ref q2739 :: .int 0 :: .ref q2740 :: .ref q2741 :: .int 0 :: .int 0 :: .ref q2742 :: .ref q2743 :: .int 0 :: .ref q2744 :: .ref q2745 :: .ref q2746 :: .ref q2747 :: .int 0 :: .ref q2748 :: .ref q2749 :: .int 0 :: .ref q2750 :: .ref q2751 :: .int 0 :: .ref q2752 :: .ref q2753 :: .int 0 :: .int 0 :: .ref q2754 :: .ref q2755 :: .ref q2756 :: .int 0 :: [])))]) (w1 := []) hP hD [0, 1] [2] rfl rfl (by decide +kernel) (by decide +kernel) hk1 hFc hP1 hD1
  have hK := (hK.sub (tys' := []) [] rfl).app hK1
  generalize H1 = H at hP hS ⊢
  have hK : va_K (dC, dI) vwCl [] s := hK
  have hP : va_P (dC, dI) vwCl [(m0, .inr (12, (.ref q2712 :: .int 0 :: .int 0 :: .int 0 :: .int 0 :: .int 0 :: .int 0 :: .int 0 :: .int (-1) :: .int 0 :: .ref q2713 :: .ref q2714 :: .ref q2715 :: .ref q2716 :: .ref q2717 :: .ref q2718 :: .ref q2719 :: .ref q2720 :: .ref q2721 :: .ref q2722 :: .ref q2723 :: .ref q2724 :: .ref q2725 :: .int 0 :: .ref q2726 :: .ref q2727 :: .ref q2728 :: .int 0 :: .ref q2729 :: .ref q2730 :: .int 0 :: .ref q2731 :: .ref q2732 :: .ref q2733 :: .int 0 :: .int 0 :: .int 0 :: .ref q2734 :: .ref q2735 :: .int 0 :: .ref q2736 :: .ref q2737 :: .ref q2738 :: .ref q2739 :: .int 0 :: .ref q2740 :: .ref q2741 :: .int 0 :: .int 0 :: .ref q2742 :: .ref q2743 :: .int 0 :: .ref q2744 :: .ref q2745 :: .ref q2746 :: .ref q2747 :: .int 0 :: .ref q2748 :: .ref q2749 :: .int 0 :: .ref q2750 :: .ref q2751 :: .int 0 :: .ref q2752 :: .ref q2753 :: .int 0 :: .int 0 :: .ref q2754 :: .ref q2755 :: .ref q2756 :: .int 0 :: [])))] H := hP
  have hD : va_D A [(m0, .inr (12, (.ref q2712 :: .int 0 :: .int 0 :: .int 0 :: .int 0 :: .int 0 :: .int 0 :: .int 0 :: .int (-1) :: .int 0 :: .ref q2713 :: .ref q2714 :: .ref q2715 :: .ref q2716 :: .ref q2717 :: .ref q2718 :: .ref q2719 :: .ref q2720 :: .ref q2721 :: .ref q2722 :: .ref q2723 :: .ref q2724 :: .ref q2725 :: .int 0 :: .ref q2726 :: .ref q2727 :: .ref q2728 :: .int 0 :: .ref q2729 :: .ref q2730 :: .int 0 :: .ref q2731 :: .ref q2732 :: .ref q2733 :: .int 0 :: .int 0 :: .int 0 :: .ref q2734 :: .ref q2735 :: .int 0 :: .ref q2736 :: .ref q2737 :: .ref q2738 :: .ref q2739 :: .int 0 :: .ref q2740 :: .ref q2741 :: .int 0 :: .int 0 :: .ref q2742 :: .ref q2743 :: .int 0 :: .ref q2744 :: .ref q2745 :: .ref q2746 :: .ref q2747 :: .int 0 :: .ref q2748 :: .ref q2749 :: .int 0 :: .ref q2750 :: .ref q2751 :: .int 0 :: .ref q2752 :: .ref q2753 :: .int 0 :: .int 0 :: .ref q2754 :: .ref q2755 :: .ref q2756 :: .int 0 :: [])))] := hD
  obtain rfl : r4232 = (-2) := hw
  refine lv_aload_n hx hb dL_law_462 rfl (lv_at hl 1 rfl) ?_
  have hPc := hP.sub (ws' := [(m0, .inr (12, (.ref q2712 :: .int 0 :: .int 0 :: .int 0 :: .int 0 :: .int 0 :: .int 0 :: .int 0 :: .int (-1) :: .int 0 :: .ref q2713 :: .ref q2714 :: .ref q2715 :: .ref q2716 :: .ref q2717 :: .ref q2718 :: .ref q2719 :: .ref q2720 :: .ref q2721 :: .ref q2722 :: .ref q2723 :: .ref q2724 :: .ref q2725 :: .int 0 :: .ref q2726 :: .ref q2727 :: .ref q2728 :: .int 0 :: .ref q2729 :: .ref q2730 :: .int 0 :: .ref q2731 :: .ref q2732 :: .ref q2733 :: .int 0 :: .int 0 :: .int 0 :: .ref q2734 :: .ref q2735 :: .int 0 :: .ref q2736 :: .ref q2737 :: .ref q2738 :: .ref q2739 :: .int 0 :: .ref q2740 :: .ref q2741 :: .int 0 :: .int 0 :: .ref q2742 :: .ref q2743 :: .int 0 :: .ref q2744 :: .ref q2745 :: .ref q2746 :: .ref q2747 :: .int 0 :: .ref q2748 :: .ref q2749 :: .int 0 :: .ref q2750 :: .ref q2751 :: .int 0 :: .ref q2752 :: .ref q2753 :: .int 0 :: .int 0 :: .ref q2754 :: .ref q2755 :: .ref q2756 :: .int 0 :: [])))]) [0] rfl
  have hDc := hD.sub (ws' := [(m0, .inr (12, (.ref q2712 :: .int 0 :: .int 0 :: .int 0 :: .int 0 :: .int 0 :: .int 0 :: .int 0 :: .int (-1) :: .int 0 :: .ref q2713 :: .ref q2714 :: .ref q2715 :: .ref q2716 :: .ref q2717 :: .ref q2718 :: .ref q2719 :: .ref q2720 :: .ref q2721 :: .ref q2722 :: .ref q2723 :: .ref q2724 :: .ref q2725 :: .int 0 :: .ref q2726 :: .ref q2727 :: .ref q2728 :: .int 0 :: .ref q2729 :: .ref q2730 :: .int 0 :: .ref q2731 :: .ref q2732 :: .ref q2733 :: .int 0 :: .int 0 :: .int 0 :: .ref q2734 :: .ref q2735 :: .int 0 :: .ref q2736 :: .ref q2737 :: .ref q2738 :: .ref q2739 :: .int 0 :: .ref q2740 :: .ref q2741 :: .int 0 :: .int 0 :: .ref q2742 :: .ref q2743 :: .int 0 :: .ref q2744 :: .ref q2745 :: .ref q2746 :: .ref q2747 :: .int 0 :: .ref q2748 :: .ref q2749 :: .int 0 :: .ref q2750 :: .ref q2751 :: .int 0 :: .ref q2752 :: .ref q2753 :: .int 0 :: .int 0 :: .ref q2754 :: .ref q2755 :: .ref q2756 :: .int 0 :: [])))]) [0] (by decide +kernel) rfl
  have hKc := hK.sub (tys' := []) [] rfl
  have hFc := va_free (wc := [(m0, .inr (12, (.ref q2712 :: .int 0 :: .int 0 :: .int 0 :: .int 0 :: .int 0 :: .int 0 :: .int 0 :: .int (-1) :: .int 0 :: .ref q2713 :: .ref q2714 :: .ref q2715 :: .ref q2716 :: .ref q2717 :: .ref q2718 :: .ref q2719 :: .ref q2720 :: .ref q2721 :: .ref q2722 :: .ref q2723 :: .ref q2724 :: .ref q2725 :: .int 0 :: .ref q2726 :: .ref q2727 :: .ref q2728 :: .int 0 :: .ref q2729 :: .ref q2730 :: .int 0 :: .ref q2731 :: .ref q2732 :: .ref q2733 :: .int 0 :: .int 0 :: .int 0 :: .ref q2734 :: .ref q2735 :: .int 0 :: .ref q2736 :: .ref q2737 :: .ref q2738 :: .ref q2739 :: .int 0 :: .ref q2740 :: .ref q2741 :: .int 0 :: .int 0 :: .ref q2742 :: .ref q2743 :: .int 0 :: .ref q2744 :: .ref q2745 :: .ref q2746 :: .ref q2747 :: .int 0 :: .ref q2748 :: .ref q2749 :: .int 0 :: .ref q2750 :: .ref q2751 :: .int 0 :: .ref q2752 :: .ref q2753 :: .int 0 :: .int 0 :: .ref q2754 :: .ref q2755 :: .ref q2756 :: .int 0 :: [])))]) hD hS hA [0] rfl
  refine va_calli (va_runV (As := []) (rest := [.int (-2)]) ⟨hx, hb, hml, hown, hts⟩ (c_X12_learn_0 l dC dI H.size m0 q2712 q2713 q2714 q2715 q2716 q2717 q2718 q2719 q2720 q2721 q2722 q2723 q2724 q2725 q2726 q2727 q2728 q2729 q2730 q2731 q2732 q2733 q2734 q2735 q2736 q2737 q2738 q2739 q2740 q2741 q2742 q2743 q2744 q2745 q2746 q2747 q2748 q2749 q2750 q2751 q2752 q2753 q2754 q2755 q2756) (cwV 0 hts gv_L_law_X12_learn_60 rfl rfl rfl (by decide +kernel) ⟨Nat.le_of_ble_eq_true rfl, Nat.le_of_ble_eq_true rfl⟩) ⟨fun a U g mk q => by obtain ⟨q0, q1, qP, qK, qD⟩ := q; exact ⟨q0, q1, qP, va_K.moved (u := U) (U := U.calling g mk a) (Vm.Alike.refl U.vm) qK, qD⟩, va_recv hKc hPc (ci := 12) (q0 := 0) rfl rfl, fun U hU hW => ⟨rfl, by rw [hU], by rw [hU]; exact hPc, va_K.moved hW.alike hKc, hDc.weaken (fun _ _ _ _ => trivial)⟩⟩ rfl rfl hl.1 rfl (lv_room (Nat.le_of_ble_eq_true rfl)) dL_law_463 ⟨Nat.le_of_ble_eq_true rfl, Nat.le_of_ble_eq_true rfl⟩) hS (fun q _ h => hFc q h) hFc (fun r4233 u t H1 locs ht hvm hw hB hz1 hk1 hS => ?_)
  obtain ⟨hP1, hK1, hD1⟩ := hB
  rw [ht] at hP1
  have hK1 := va_K.moved hvm.symm hK1
  obtain ⟨hP, hD⟩ := va_join (wr := []) (w1 := []) hP hD [0] [] rfl rfl (by decide +kernel) (by decide +kernel) hk1 hFc hP1 hD1
  have hK := (hK.sub (tys' := []) [] rfl).app hK1
  generalize H1 = H at hP hS ⊢
  have hK : va_K (dC, dI) vwCl [] s := hK
  have hP : va_P (dC, dI) vwCl [] H := hP
  have hD : va_D A [] := hD
  obtain rfl : r4233 = (-2) := hw
  refine lv_icmp_eq (tgt := 833) hx hb dL_law_466 (by decide +kernel) (fun _ => ?_) (fun h => absurd (by decide +kernel) h)
  refine lv_iinc (v := 6) (lv' := [(3, .int 6), (2, .ref m0), (1, .ref x0), (0, .ref b)]) hx hb dL_law_833 hl (k := 0) rfl (by decide +kernel) (by decide +kernel) rfl (fun ls hl => ?_)
  refine lv_goto (tgt := 18) hx hb dL_law_836 (by decide +kernel) ?_
  refine lv_iload_n hx hb dL_law_18 rfl (lv_at hl 0 rfl) ?_
  refine lv_aload_n hx hb dL_law_19 rfl (lv_at hl 3 rfl) ?_
  refine va_slen hx hb hX hbl hbA hS dL_law_20 ?_
  refine lv_topi (fun x4234 ex4234 => ?_)
  obtain rfl : x4234 = 6 := ex4234.trans (by decide +kernel)
  refine lv_bipush (v := 6) hx hb dL_law_21 (by decide +kernel) ?_
  refine lv_isub hx hb dL_law_23 ?_
  refine lv_topi (fun x4235 ex4235 => ?_)
  obtain rfl : x4235 = 0 := ex4235.trans (by decide +kernel)
  refine lv_icmp_gt (tgt := 839) hx hb dL_law_24 (by decide +kernel) (fun _ => ?_) (fun h => absurd (by decide +kernel) h)
  refine lv_iconst (v := 1) hx hb dL_law_839 (by decide +kernel) ?_
  refine va_forget (fun q hq => hAl _ (hS.2.2 q hq)) ?_
  refine W.widen (k := 600000) (n := 7302250) (by omega) (by omega) ?_
  exact lw_ret hx hb hr hlocks dL_law_840
set_option maxHeartbeats 4000000 in
set_option maxRecDepth 100000 in
theorem law_11 {p : Program} {e : Env} {s : State} {m : MethodId} {below : List Frame} {meth : Method} {c : Code} (l : Launch) {b : Nat} {xs : Nat → Int32} {A : Nat → Prop} {dC : Nat → ClassId} {dI : Nat → Nat → Nat} (C0 : lw_At p s m meth c b 6 xs) (hA : ∀ q : Nat, s.heap.size ≤ q → A q) (hbA : ¬ A b) (hAl : ∀ q : Nat, A q → s.heap.size ≤ q) (hE : EnvOK s) {y1 : Int32} (ey1 : xs (Int32.toNatClampNeg 1) = y1) {y2 : Int32} (ey2 : xs (Int32.toNatClampNeg 2) = y2) {x0 : Nat} {q1111 : Nat} {q1112 : Nat} {q1113 : Nat} {q1114 : Nat} {q1115 : Nat} {q1116 : Nat} {q1117 : Nat} {q1118 : Nat} {q1119 : Nat} {q1120 : Nat} {q1121 : Nat} {q1122 : Nat} {q1123 : Nat} {q1168 : Nat} {q1169 : Nat} {q1170 : Nat} {q1171 : Nat} {q1172 : Nat} {q1173 : Nat} {q1174 : Nat} {q1175 : Nat} {m0 : Nat} {q2712 : Nat} {q2713 : Nat} {q2714 : Nat} {q2715 : Nat} {q2716 : Nat} {q2717 : Nat} {q2718 : Nat} {q2719 : Nat} {q2720 : Nat} {q2721 : Nat} {q2722 : Nat} {q2723 : Nat} {q2724 : Nat} {q2725 : Nat} {q2726 : Nat} {q2727 : Nat} {q2728 : Nat} {q2729 : Nat} {q2730 : Nat} {q2731 : Nat} {q2732 : Nat} {q2733 : Nat} {q2734 : Nat} {q2735 : Nat} {q2736 : Nat} {q2737 : Nat} {q2738 : Nat} {q2739 : Nat} {q2740 : Nat} {q2741 : Nat} {q2742 : Nat} {q2743 : Nat} {q2744 : Nat} {q2745 : Nat} {q2746 : Nat} {q2747 : Nat} {q2748 : Nat} {q2749 : Nat} {q2750 : Nat} {q2751 : Nat} {q2752 : Nat} {q2753 : Nat} {q2754 : Nat} {q2755 : Nat} {q2756 : Nat} {H : Heap} {locs : List Loc} {ls : Array Slot} (hK : va_K (dC, dI) vwCl [] s) (hP : va_P (dC, dI) vwCl [(x0, .inr (11, [.ref q1111, .ref q1112, .int 0, .int (-1), .ref q1113, .ref q1114, .ref q1115, .ref q1116, .ref q1117, .ref q1118, .ref q1119, .int 0, .ref q1120, .int 0, .ref q1121, .ref q1122, .ref q1123])), (q1118, .inr (0, [.ref q1168, .ref q1169, .ref q1170, .ref q1171, .ref q1172, .ref q1173])), (q1168, .inr (10, [.int 24, .ref q1174, .ref q1175, .int 0])), (m0, .inr (12, (.ref q2712 :: .int 0 :: .int 0 :: .int 0 :: .int 0 :: .int 0 :: .int 0 :: .int 0 :: .int (-1) :: .int 0 :: .ref q2713 :: .ref q2714 :: .ref q2715 :: .ref q2716 :: .ref q2717 :: .ref q2718 :: .ref q2719 :: .ref q2720 :: .ref q2721 :: .ref q2722 :: .ref q2723 :: .ref q2724 :: .ref q2725 :: .int 0 :: .ref q2726 :: .ref q2727 :: .ref q2728 :: .int 0 :: .ref q2729 :: .ref q2730 :: .int 0 :: .ref q2731 :: .ref q2732 :: .ref q2733 :: .int 0 :: .int 0 :: .int 0 :: .ref q2734 :: .ref q2735 :: .int 0 :: .ref q2736 :: .ref q2737 :: .ref q2738 :: .ref q2739 :: .int 0 :: .ref q2740 :: .ref q2741 :: .int 0 :: .int 0 :: .ref q2742 :: .ref q2743 :: .int 0 :: .ref q2744 :: .ref q2745 :: .ref q2746 :: .ref q2747 :: .int 0 :: .ref q2748 :: .ref q2749 :: .int 0 :: .ref q2750 :: .ref q2751 :: .int 0 :: .ref q2752 :: .ref q2753 :: .int 0 :: .int 0 :: .ref q2754 :: .ref q2755 :: .ref q2756 :: .int 0 :: [])))] H) (hD : va_D A [(x0, .inr (11, [.ref q1111, .ref q1112, .int 0, .int (-1), .ref q1113, .ref q1114, .ref q1115, .ref q1116, .ref q1117, .ref q1118, .ref q1119, .int 0, .ref q1120, .int 0, .ref q1121, .ref q1122, .ref q1123])), (q1118, .inr (0, [.ref q1168, .ref q1169, .ref q1170, .ref q1171, .ref q1172, .ref q1173])), (q1168, .inr (10, [.int 24, .ref q1174, .ref q1175, .int 0])), (m0, .inr (12, (.ref q2712 :: .int 0 :: .int 0 :: .int 0 :: .int 0 :: .int 0 :: .int 0 :: .int 0 :: .int (-1) :: .int 0 :: .ref q2713 :: .ref q2714 :: .ref q2715 :: .ref q2716 :: .ref q2717 :: .ref q2718 :: .ref q2719 :: .ref q2720 :: .ref q2721 :: .ref q2722 :: .ref q2723 :: .ref q2724 :: .ref q2725 :: .int 0 :: .ref q2726 :: .ref q2727 :: .ref q2728 :: .int 0 :: .ref q2729 :: .ref q2730 :: .int 0 :: .ref q2731 :: .ref q2732 :: .ref q2733 :: .int 0 :: .int 0 :: .int 0 :: .ref q2734 :: .ref q2735 :: .int 0 :: .ref q2736 :: .ref q2737 :: .ref q2738 :: .ref q2739 :: .int 0 :: .ref q2740 :: .ref q2741 :: .int 0 :: .int 0 :: .ref q2742 :: .ref q2743 :: .int 0 :: .ref q2744 :: .ref q2745 :: .ref q2746 :: .ref q2747 :: .int 0 :: .ref q2748 :: .ref q2749 :: .int 0 :: .ref q2750 :: .ref q2751 :: .int 0 :: .ref q2752 :: .ref q2753 :: .int 0 :: .int 0 :: .ref q2754 :: .ref q2755 :: .ref q2756 :: .int 0 :: [])))]) (hS : va_S A s.heap H locs) (hl : lv_has ls 4 [(3, .int 0), (2, .ref m0), (1, .ref x0), (0, .ref b)]) : W p l e room_1 s m #[Value.ref b] below meth c H locs 126 277922 (lw_Z below #[Value.ref b] s) (F0 m 471 ls []) := by
  obtain ⟨hx, hb, hr, hml, hown, hts, hX, hbl, hlocks, hgv⟩ := C0
  have hts := fun w h => hts w (wmL_law_in w h)
  have hS : va_S A s.heap H locs := hS
  refine lv_aload_n hx hb dL_law_471 rfl (lv_at hl 2 rfl) ?_
  refine lv_aload_n hx hb dL_law_472 rfl (lv_at hl 3 rfl) ?_
  refine lv_iload_n hx hb dL_law_473 rfl (lv_at hl 0 rfl) ?_
  refine lv_iconst (v := 1) hx hb dL_law_474 (by decide +kernel) ?_
  refine lv_iadd hx hb dL_law_475 ?_
  refine lv_topi (fun x4236 ex4236 => ?_)
  obtain rfl : x4236 = 1 := ex4236.trans (by decide +kernel)
  refine va_sld hx hb hX hbl hbA hS (by unfold vp_in; decide) dL_law_476 ?_
  refine lv_topi (fun x4237 ex4237 => ?_)
  obtain rfl : y1 = x4237 := (ex4237.trans ey1).symm
  refine lv_aload_n hx hb dL_law_477 rfl (lv_at hl 3 rfl) ?_
  refine lv_iload_n hx hb dL_law_478 rfl (lv_at hl 0 rfl) ?_
  refine lv_iconst (v := 2) hx hb dL_law_479 (by decide +kernel) ?_
  refine lv_iadd hx hb dL_law_480 ?_
  refine lv_topi (fun x4238 ex4238 => ?_)
  obtain rfl : x4238 = 2 := ex4238.trans (by decide +kernel)
  refine va_sld hx hb hX hbl hbA hS (by unfold vp_in; decide) dL_law_481 ?_
  refine lv_topi (fun x4239 ex4239 => ?_)
  obtain rfl : y2 = x4239 := (ex4239.trans ey2).symm
  have hPc := hP.sub (ws' := [(x0, .inr (11, [.ref q1111, .ref q1112, .int 0, .int (-1), .ref q1113, .ref q1114, .ref q1115, .ref q1116, .ref q1117, .ref q1118, .ref q1119, .int 0, .ref q1120, .int 0, .ref q1121, .ref q1122, .ref q1123])), (q1118, .inr (0, [.ref q1168, .ref q1169, .ref q1170, .ref q1171, .ref q1172, .ref q1173])), (q1168, .inr (10, [.int 24, .ref q1174, .ref q1175, .int 0]))]) [0, 1, 2] rfl
  have hDc := hD.sub (ws' := [(x0, .inr (11, [.ref q1111, .ref q1112, .int 0, .int (-1), .ref q1113, .ref q1114, .ref q1115, .ref q1116, .ref q1117, .ref q1118, .ref q1119, .int 0, .ref q1120, .int 0, .ref q1121, .ref q1122, .ref q1123])), (q1118, .inr (0, [.ref q1168, .ref q1169, .ref q1170, .ref q1171, .ref q1172, .ref q1173])), (q1168, .inr (10, [.int 24, .ref q1174, .ref q1175, .int 0]))]) [0, 1, 2] (by decide +kernel) rfl
  have hKc := hK.sub (tys' := []) [] rfl
  have hFc := va_free (wc := [(x0, .inr (11, [.ref q1111, .ref q1112, .int 0, .int (-1), .ref q1113, .ref q1114, .ref q1115, .ref q1116, .ref q1117, .ref q1118, .ref q1119, .int 0, .ref q1120, .int 0, .ref q1121, .ref q1122, .ref q1123])), (q1118, .inr (0, [.ref q1168, .ref q1169, .ref q1170, .ref q1171, .ref q1172, .ref q1173])), (q1168, .inr (10, [.int 24, .ref q1174, .ref q1175, .int 0]))]) hD hS hA [0, 1, 2] rfl
  refine va_calli (va_runV (As := [.int y1, .int y2]) (rest := []) ⟨hx, hb, hml, hown, hts⟩ (c_X11_word_0 l dC dI H.size x0 q1111 q1112 q1113 q1114 q1115 q1116 q1117 q1118 q1119 q1120 q1121 q1122 q1123 q1168 q1169 q1170 q1171 q1172 q1173 q1174 q1175 y1 y2) (cwV 2 hts gv_L_law_X11_word_61 rfl rfl rfl (by decide +kernel) ⟨Nat.le_of_ble_eq_true rfl, Nat.le_of_ble_eq_true rfl⟩) ⟨fun a U g mk q => by obtain ⟨q0, q1, qP, qK, qD⟩ := q; exact ⟨q0, q1, qP, va_K.moved (u := U) (U := U.calling g mk a) (Vm.Alike.refl U.vm) qK, qD⟩, va_recv hKc hPc (ci := 11) (q0 := 0) rfl rfl, fun U hU hW => ⟨rfl, by rw [hU], by rw [hU]; exact hPc, va_K.moved hW.alike hKc, hDc.weaken (fun _ _ _ _ => trivial)⟩⟩ rfl rfl hl.1 rfl (lv_room (Nat.le_of_ble_eq_true rfl)) dL_law_482 ⟨Nat.le_of_ble_eq_true rfl, Nat.le_of_ble_eq_true rfl⟩) hS (fun q _ h => hFc q h) hFc (fun r4242 u t H1 locs ht hvm hw hB hz1 hk1 hS => ?_)
  obtain ⟨hP1, hK1, hD1⟩ := hB
  rw [ht] at hP1
  have hK1 := va_K.moved hvm.symm hK1
  obtain ⟨hP, hD⟩ := va_join (wr := [(m0, .inr (12, (.ref q2712 :: .int 0 :: .int 0 :: .int 0 :: .int 0 :: .int 0 :: .int 0 :: .int 0 :: .int (-1) :: .int 0 :: .ref q2713 :: .ref q2714 :: .ref q2715 :: .ref q2716 :: .ref q2717 :: .ref q2718 :: .ref q2719 :: .ref q2720 :: .ref q2721 :: .ref q2722 :: .ref q2723 :: .ref q2724 :: .ref q2725 :: .int 0 :: .ref q2726 :: .ref q2727 :: .ref q2728 :: .int 0 :: .ref q2729 :: .ref q2730 :: .int 0 :: .ref q2731 :: .ref q2732 :: .ref q2733 :: .int 0 :: .int 0 :: .int 0 :: .ref q2734 :: .ref q2735 :: .int 0 :: .ref q2736 :: .ref q2737 :: .ref q2738 :: .ref q2739 :: .int 0 :: .ref q2740 :: .ref q2741 :: .int 0 :: .int 0 :: .ref q2742 :: .ref q2743 :: .int 0 :: .ref q2744 :: .ref q2745 :: .ref q2746 :: .ref q2747 :: .int 0 :: .ref q2748 :: .ref q2749 :: .int 0 :: .ref q2750 :: .ref q2751 :: .int 0 :: .ref q2752 :: .ref q2753 :: .int 0 :: .int 0 :: .ref q2754 :: .ref q2755 :: .ref q2756 :: .int 0 :: [])))]) (w1 := []) hP hD [0, 1, 2] [3] rfl rfl (by decide +kernel) (by decide +kernel) hk1 hFc hP1 hD1
  have hK := (hK.sub (tys' := []) [] rfl).app hK1
  generalize H1 = H at hP hS ⊢
  have hK : va_K (dC, dI) vwCl [] s := hK
  have hP : va_P (dC, dI) vwCl [(m0, .inr (12, (.ref q2712 :: .int 0 :: .int 0 :: .int 0 :: .int 0 :: .int 0 :: .int 0 :: .int 0 :: .int (-1) :: .int 0 :: .ref q2713 :: .ref q2714 :: .ref q2715 :: .ref q2716 :: .ref q2717 :: .ref q2718 :: .ref q2719 :: .ref q2720 :: .ref q2721 :: .ref q2722 :: .ref q2723 :: .ref q2724 :: .ref q2725 :: .int 0 :: .ref q2726 :: .ref q2727 :: .ref q2728 :: .int 0 :: .ref q2729 :: .ref q2730 :: .int 0 :: .ref q2731 :: .ref q2732 :: .ref q2733 :: .int 0 :: .int 0 :: .int 0 :: .ref q2734 :: .ref q2735 :: .int 0 :: .ref q2736 :: .ref q2737 :: .ref q2738 :: .ref q2739 :: .int 0 :: .ref q2740 :: .ref q2741 :: .int 0 :: .int 0 :: .ref q2742 :: .ref q2743 :: .int 0 :: .ref q2744 :: .ref q2745 :: .ref q2746 :: .ref q2747 :: .int 0 :: .ref q2748 :: .ref q2749 :: .int 0 :: .ref q2750 :: .ref q2751 :: .int 0 :: .ref q2752 :: .ref q2753 :: .int 0 :: .int 0 :: .ref q2754 :: .ref q2755 :: .ref q2756 :: .int 0 :: [])))] H := hP
  have hD : va_D A [(m0, .inr (12, (.ref q2712 :: .int 0 :: .int 0 :: .int 0 :: .int 0 :: .int 0 :: .int 0 :: .int 0 :: .int (-1) :: .int 0 :: .ref q2713 :: .ref q2714 :: .ref q2715 :: .ref q2716 :: .ref q2717 :: .ref q2718 :: .ref q2719 :: .ref q2720 :: .ref q2721 :: .ref q2722 :: .ref q2723 :: .ref q2724 :: .ref q2725 :: .int 0 :: .ref q2726 :: .ref q2727 :: .ref q2728 :: .int 0 :: .ref q2729 :: .ref q2730 :: .int 0 :: .ref q2731 :: .ref q2732 :: .ref q2733 :: .int 0 :: .int 0 :: .int 0 :: .ref q2734 :: .ref q2735 :: .int 0 :: .ref q2736 :: .ref q2737 :: .ref q2738 :: .ref q2739 :: .int 0 :: .ref q2740 :: .ref q2741 :: .int 0 :: .int 0 :: .ref q2742 :: .ref q2743 :: .int 0 :: .ref q2744 :: .ref q2745 :: .ref q2746 :: .ref q2747 :: .int 0 :: .ref q2748 :: .ref q2749 :: .int 0 :: .ref q2750 :: .ref q2751 :: .int 0 :: .ref q2752 :: .ref q2753 :: .int 0 :: .int 0 :: .ref q2754 :: .ref q2755 :: .ref q2756 :: .int 0 :: [])))] := hD
  obtain rfl : r4242 = (-1) := hw
  refine lv_aload_n hx hb dL_law_485 rfl (lv_at hl 1 rfl) ?_
  refine lv_aload_n hx hb dL_law_486 rfl (lv_at hl 3 rfl) ?_
  refine lv_iload_n hx hb dL_law_487 rfl (lv_at hl 0 rfl) ?_
  refine lv_iconst (v := 1) hx hb dL_law_488 (by decide +kernel) ?_
  refine lv_iadd hx hb dL_law_489 ?_
  refine lv_topi (fun x4243 ex4243 => ?_)
  obtain rfl : x4243 = 1 := ex4243.trans (by decide +kernel)
  refine va_sld hx hb hX hbl hbA hS (by unfold vp_in; decide) dL_law_490 ?_
  refine lv_topi (fun x4244 ex4244 => ?_)
  obtain rfl : y1 = x4244 := (ex4244.trans ey1).symm
  refine lv_aload_n hx hb dL_law_491 rfl (lv_at hl 3 rfl) ?_
  refine lv_iload_n hx hb dL_law_492 rfl (lv_at hl 0 rfl) ?_
  refine lv_iconst (v := 2) hx hb dL_law_493 (by decide +kernel) ?_
  refine lv_iadd hx hb dL_law_494 ?_
  refine lv_topi (fun x4245 ex4245 => ?_)
  obtain rfl : x4245 = 2 := ex4245.trans (by decide +kernel)
  refine va_sld hx hb hX hbl hbA hS (by unfold vp_in; decide) dL_law_495 ?_
  refine lv_topi (fun x4246 ex4246 => ?_)
  obtain rfl : y2 = x4246 := (ex4246.trans ey2).symm
  have hPc := hP.sub (ws' := [(m0, .inr (12, (.ref q2712 :: .int 0 :: .int 0 :: .int 0 :: .int 0 :: .int 0 :: .int 0 :: .int 0 :: .int (-1) :: .int 0 :: .ref q2713 :: .ref q2714 :: .ref q2715 :: .ref q2716 :: .ref q2717 :: .ref q2718 :: .ref q2719 :: .ref q2720 :: .ref q2721 :: .ref q2722 :: .ref q2723 :: .ref q2724 :: .ref q2725 :: .int 0 :: .ref q2726 :: .ref q2727 :: .ref q2728 :: .int 0 :: .ref q2729 :: .ref q2730 :: .int 0 :: .ref q2731 :: .ref q2732 :: .ref q2733 :: .int 0 :: .int 0 :: .int 0 :: .ref q2734 :: .ref q2735 :: .int 0 :: .ref q2736 :: .ref q2737 :: .ref q2738 :: .ref q2739 :: .int 0 :: .ref q2740 :: .ref q2741 :: .int 0 :: .int 0 :: .ref q2742 :: .ref q2743 :: .int 0 :: .ref q2744 :: .ref q2745 :: .ref q2746 :: .ref q2747 :: .int 0 :: .ref q2748 :: .ref q2749 :: .int 0 :: .ref q2750 :: .ref q2751 :: .int 0 :: .ref q2752 :: .ref q2753 :: .int 0 :: .int 0 :: .ref q2754 :: .ref q2755 :: .ref q2756 :: .int 0 :: [])))]) [0] rfl
  have hDc := hD.sub (ws' := [(m0, .inr (12, (.ref q2712 :: .int 0 :: .int 0 :: .int 0 :: .int 0 :: .int 0 :: .int 0 :: .int 0 :: .int (-1) :: .int 0 :: .ref q2713 :: .ref q2714 :: .ref q2715 :: .ref q2716 :: .ref q2717 :: .ref q2718 :: .ref q2719 :: .ref q2720 :: .ref q2721 :: .ref q2722 :: .ref q2723 :: .ref q2724 :: .ref q2725 :: .int 0 :: .ref q2726 :: .ref q2727 :: .ref q2728 :: .int 0 :: .ref q2729 :: .ref q2730 :: .int 0 :: .ref q2731 :: .ref q2732 :: .ref q2733 :: .int 0 :: .int 0 :: .int 0 :: .ref q2734 :: .ref q2735 :: .int 0 :: .ref q2736 :: .ref q2737 :: .ref q2738 :: .ref q2739 :: .int 0 :: .ref q2740 :: .ref q2741 :: .int 0 :: .int 0 :: .ref q2742 :: .ref q2743 :: .int 0 :: .ref q2744 :: .ref q2745 :: .ref q2746 :: .ref q2747 :: .int 0 :: .ref q2748 :: .ref q2749 :: .int 0 :: .ref q2750 :: .ref q2751 :: .int 0 :: .ref q2752 :: .ref q2753 :: .int 0 :: .int 0 :: .ref q2754 :: .ref q2755 :: .ref q2756 :: .int 0 :: [])))]) [0] (by decide +kernel) rfl
  have hKc := hK.sub (tys' := []) [] rfl
  have hFc := va_free (wc := [(m0, .inr (12, (.ref q2712 :: .int 0 :: .int 0 :: .int 0 :: .int 0 :: .int 0 :: .int 0 :: .int 0 :: .int (-1) :: .int 0 :: .ref q2713 :: .ref q2714 :: .ref q2715 :: .ref q2716 :: .ref q2717 :: .ref q2718 :: .ref q2719 :: .ref q2720 :: .ref q2721 :: .ref q2722 :: .ref q2723 :: .ref q2724 :: .ref q2725 :: .int 0 :: .ref q2726 :: .ref q2727 :: .ref q2728 :: .int 0 :: .ref q2729 :: .ref q2730 :: .int 0 :: .ref q2731 :: .ref q2732 :: .ref q2733 :: .int 0 :: .int 0 :: .int 0 :: .ref q2734 :: .ref q2735 :: .int 0 :: .ref q2736 :: .ref q2737 :: .ref q2738 :: .ref q2739 :: .int 0 :: .ref q2740 :: .ref q2741 :: .int 0 :: .int 0 :: .ref q2742 :: .ref q2743 :: .int 0 :: .ref q2744 :: .ref q2745 :: .ref q2746 :: .ref q2747 :: .int 0 :: .ref q2748 :: .ref q2749 :: .int 0 :: .ref q2750 :: .ref q2751 :: .int 0 :: .ref q2752 :: .ref q2753 :: .int 0 :: .int 0 :: .ref q2754 :: .ref q2755 :: .ref q2756 :: .int 0 :: [])))]) hD hS hA [0] rfl
  refine va_calli (va_runV (As := [.int y1, .int y2]) (rest := [.int (-1)]) ⟨hx, hb, hml, hown, hts⟩ (c_X12_word_0 l dC dI H.size m0 q2712 q2713 q2714 q2715 q2716 q2717 q2718 q2719 q2720 q2721 q2722 q2723 q2724 q2725 q2726 q2727 q2728 q2729 q2730 q2731 q2732 q2733 q2734 q2735 q2736 q2737 q2738 q2739 q2740 q2741 q2742 q2743 q2744 q2745 q2746 q2747 q2748 q2749 q2750 q2751 q2752 q2753 q2754 q2755 q2756 y1 y2) (cwV 2 hts gv_L_law_X12_word_64 rfl rfl rfl (by decide +kernel) ⟨Nat.le_of_ble_eq_true rfl, Nat.le_of_ble_eq_true rfl⟩) ⟨fun a U g mk q => by obtain ⟨q0, q1, qP, qK, qD⟩ := q; exact ⟨q0, q1, qP, va_K.moved (u := U) (U := U.calling g mk a) (Vm.Alike.refl U.vm) qK, qD⟩, va_recv hKc hPc (ci := 12) (q0 := 0) rfl rfl, fun U hU hW => ⟨rfl, by rw [hU], by rw [hU]; exact hPc, va_K.moved hW.alike hKc, hDc.weaken (fun _ _ _ _ => trivial)⟩⟩ rfl rfl hl.1 rfl (lv_room (Nat.le_of_ble_eq_true rfl)) dL_law_496 ⟨Nat.le_of_ble_eq_true rfl, Nat.le_of_ble_eq_true rfl⟩) hS (fun q _ h => hFc q h) hFc (fun r4250 u t H1 locs ht hvm hw hB hz1 hk1 hS => ?_)
  obtain ⟨hP1, hK1, hD1⟩ := hB
  rw [ht] at hP1
  have hK1 := va_K.moved hvm.symm hK1
  obtain ⟨hP, hD⟩ := va_join (wr := []) (w1 := []) hP hD [0] [] rfl rfl (by decide +kernel) (by decide +kernel) hk1 hFc hP1 hD1
  have hK := (hK.sub (tys' := []) [] rfl).app hK1
  generalize H1 = H at hP hS ⊢
  have hK : va_K (dC, dI) vwCl [] s := hK
  have hP : va_P (dC, dI) vwCl [] H := hP
  have hD : va_D A [] := hD
  obtain rfl : r4250 = (-1) := hw
  refine lv_icmp_eq (tgt := 833) hx hb dL_law_499 (by decide +kernel) (fun _ => ?_) (fun h => absurd (by decide +kernel) h)
  refine lv_iinc (v := 6) (lv' := [(3, .int 6), (2, .ref m0), (1, .ref x0), (0, .ref b)]) hx hb dL_law_833 hl (k := 0) rfl (by decide +kernel) (by decide +kernel) rfl (fun ls hl => ?_)
  refine lv_goto (tgt := 18) hx hb dL_law_836 (by decide +kernel) ?_
  refine lv_iload_n hx hb dL_law_18 rfl (lv_at hl 0 rfl) ?_
  refine lv_aload_n hx hb dL_law_19 rfl (lv_at hl 3 rfl) ?_
  refine va_slen hx hb hX hbl hbA hS dL_law_20 ?_
  refine lv_topi (fun x4251 ex4251 => ?_)
  obtain rfl : x4251 = 6 := ex4251.trans (by decide +kernel)
  refine lv_bipush (v := 6) hx hb dL_law_21 (by decide +kernel) ?_
  refine lv_isub hx hb dL_law_23 ?_
  refine lv_topi (fun x4252 ex4252 => ?_)
  obtain rfl : x4252 = 0 := ex4252.trans (by decide +kernel)
  refine lv_icmp_gt (tgt := 839) hx hb dL_law_24 (by decide +kernel) (fun _ => ?_) (fun h => absurd (by decide +kernel) h)
  refine lv_iconst (v := 1) hx hb dL_law_839 (by decide +kernel) ?_
  refine va_forget (fun q hq => hAl _ (hS.2.2 q hq)) ?_
  refine W.widen (k := 600000) (n := 7302250) (by omega) (by omega) ?_
  exact lw_ret hx hb hr hlocks dL_law_840
set_option maxHeartbeats 4000000 in
set_option maxRecDepth 100000 in
theorem law_12 {p : Program} {e : Env} {s : State} {m : MethodId} {below : List Frame} {meth : Method} {c : Code} (l : Launch) {b : Nat} {xs : Nat → Int32} {A : Nat → Prop} {dC : Nat → ClassId} {dI : Nat → Nat → Nat} (C0 : lw_At p s m meth c b 6 xs) (hA : ∀ q : Nat, s.heap.size ≤ q → A q) (hbA : ¬ A b) (hAl : ∀ q : Nat, A q → s.heap.size ≤ q) (hE : EnvOK s) {y1 : Int32} (ey1 : xs (Int32.toNatClampNeg 1) = y1) {x0 : Nat} {q1111 : Nat} {q1112 : Nat} {q1113 : Nat} {q1114 : Nat} {q1115 : Nat} {q1116 : Nat} {q1117 : Nat} {q1118 : Nat} {q1119 : Nat} {q1120 : Nat} {q1121 : Nat} {q1122 : Nat} {q1123 : Nat} {q1124 : Nat} {m0 : Nat} {q2712 : Nat} {q2713 : Nat} {q2714 : Nat} {q2715 : Nat} {q2716 : Nat} {q2717 : Nat} {q2718 : Nat} {q2719 : Nat} {q2720 : Nat} {q2721 : Nat} {q2722 : Nat} {q2723 : Nat} {q2724 : Nat} {q2725 : Nat} {q2726 : Nat} {q2727 : Nat} {q2728 : Nat} {q2729 : Nat} {q2730 : Nat} {q2731 : Nat} {q2732 : Nat} {q2733 : Nat} {q2734 : Nat} {q2735 : Nat} {q2736 : Nat} {q2737 : Nat} {q2738 : Nat} {q2739 : Nat} {q2740 : Nat} {q2741 : Nat} {q2742 : Nat} {q2743 : Nat} {q2744 : Nat} {q2745 : Nat} {q2746 : Nat} {q2747 : Nat} {q2748 : Nat} {q2749 : Nat} {q2750 : Nat} {q2751 : Nat} {q2752 : Nat} {q2753 : Nat} {q2754 : Nat} {q2755 : Nat} {q2756 : Nat} {H : Heap} {locs : List Loc} {ls : Array Slot} (hK : va_K (dC, dI) vwCl [] s) (hP : va_P (dC, dI) vwCl [(x0, .inr (11, [.ref q1111, .ref q1112, .int 0, .int (-1), .ref q1113, .ref q1114, .ref q1115, .ref q1116, .ref q1117, .ref q1118, .ref q1119, .int 0, .ref q1120, .int 0, .ref q1121, .ref q1122, .ref q1123])), (q1111, .inr (7, [.ref q1124, .int 0])), (m0, .inr (12, (.ref q2712 :: .int 0 :: .int 0 :: .int 0 :: .int 0 :: .int 0 :: .int 0 :: .int 0 :: .int (-1) :: .int 0 :: .ref q2713 :: .ref q2714 :: .ref q2715 :: .ref q2716 :: .ref q2717 :: .ref q2718 :: .ref q2719 :: .ref q2720 :: .ref q2721 :: .ref q2722 :: .ref q2723 :: .ref q2724 :: .ref q2725 :: .int 0 :: .ref q2726 :: .ref q2727 :: .ref q2728 :: .int 0 :: .ref q2729 :: .ref q2730 :: .int 0 :: .ref q2731 :: .ref q2732 :: .ref q2733 :: .int 0 :: .int 0 :: .int 0 :: .ref q2734 :: .ref q2735 :: .int 0 :: .ref q2736 :: .ref q2737 :: .ref q2738 :: .ref q2739 :: .int 0 :: .ref q2740 :: .ref q2741 :: .int 0 :: .int 0 :: .ref q2742 :: .ref q2743 :: .int 0 :: .ref q2744 :: .ref q2745 :: .ref q2746 :: .ref q2747 :: .int 0 :: .ref q2748 :: .ref q2749 :: .int 0 :: .ref q2750 :: .ref q2751 :: .int 0 :: .ref q2752 :: .ref q2753 :: .int 0 :: .int 0 :: .ref q2754 :: .ref q2755 :: .ref q2756 :: .int 0 :: [])))] H) (hD : va_D A [(x0, .inr (11, [.ref q1111, .ref q1112, .int 0, .int (-1), .ref q1113, .ref q1114, .ref q1115, .ref q1116, .ref q1117, .ref q1118, .ref q1119, .int 0, .ref q1120, .int 0, .ref q1121, .ref q1122, .ref q1123])), (q1111, .inr (7, [.ref q1124, .int 0])), (m0, .inr (12, (.ref q2712 :: .int 0 :: .int 0 :: .int 0 :: .int 0 :: .int 0 :: .int 0 :: .int 0 :: .int (-1) :: .int 0 :: .ref q2713 :: .ref q2714 :: .ref q2715 :: .ref q2716 :: .ref q2717 :: .ref q2718 :: .ref q2719 :: .ref q2720 :: .ref q2721 :: .ref q2722 :: .ref q2723 :: .ref q2724 :: .ref q2725 :: .int 0 :: .ref q2726 :: .ref q2727 :: .ref q2728 :: .int 0 :: .ref q2729 :: .ref q2730 :: .int 0 :: .ref q2731 :: .ref q2732 :: .ref q2733 :: .int 0 :: .int 0 :: .int 0 :: .ref q2734 :: .ref q2735 :: .int 0 :: .ref q2736 :: .ref q2737 :: .ref q2738 :: .ref q2739 :: .int 0 :: .ref q2740 :: .ref q2741 :: .int 0 :: .int 0 :: .ref q2742 :: .ref q2743 :: .int 0 :: .ref q2744 :: .ref q2745 :: .ref q2746 :: .ref q2747 :: .int 0 :: .ref q2748 :: .ref q2749 :: .int 0 :: .ref q2750 :: .ref q2751 :: .int 0 :: .ref q2752 :: .ref q2753 :: .int 0 :: .int 0 :: .ref q2754 :: .ref q2755 :: .ref q2756 :: .int 0 :: [])))]) (hS : va_S A s.heap H locs) (hl : lv_has ls 4 [(3, .int 0), (2, .ref m0), (1, .ref x0), (0, .ref b)]) : W p l e room_1 s m #[Value.ref b] below meth c H locs 126 277922 (lw_Z below #[Value.ref b] s) (F0 m 504 ls []) := by
  obtain ⟨hx, hb, hr, hml, hown, hts, hX, hbl, hlocks, hgv⟩ := C0
  have hts := fun w h => hts w (wmL_law_in w h)
  have hS : va_S A s.heap H locs := hS
  refine lv_aload_n hx hb dL_law_504 rfl (lv_at hl 2 rfl) ?_
  refine lv_aload_n hx hb dL_law_505 rfl (lv_at hl 3 rfl) ?_
  refine lv_iload_n hx hb dL_law_506 rfl (lv_at hl 0 rfl) ?_
  refine lv_iconst (v := 1) hx hb dL_law_507 (by decide +kernel) ?_
  refine lv_iadd hx hb dL_law_508 ?_
  refine lv_topi (fun x4253 ex4253 => ?_)
  obtain rfl : x4253 = 1 := ex4253.trans (by decide +kernel)
  refine va_sld hx hb hX hbl hbA hS (by unfold vp_in; decide) dL_law_509 ?_
  refine lv_topi (fun x4254 ex4254 => ?_)
  obtain rfl : y1 = x4254 := (ex4254.trans ey1).symm
  have hPc := hP.sub (ws' := [(x0, .inr (11, [.ref q1111, .ref q1112, .int 0, .int (-1), .ref q1113, .ref q1114, .ref q1115, .ref q1116, .ref q1117, .ref q1118, .ref q1119, .int 0, .ref q1120, .int 0, .ref q1121, .ref q1122, .ref q1123])), (q1111, .inr (7, [.ref q1124, .int 0]))]) [0, 1] rfl
  have hDc := hD.sub (ws' := [(x0, .inr (11, [.ref q1111, .ref q1112, .int 0, .int (-1), .ref q1113, .ref q1114, .ref q1115, .ref q1116, .ref q1117, .ref q1118, .ref q1119, .int 0, .ref q1120, .int 0, .ref q1121, .ref q1122, .ref q1123])), (q1111, .inr (7, [.ref q1124, .int 0]))]) [0, 1] (by decide +kernel) rfl
  have hKc := hK.sub (tys' := []) [] rfl
  have hFc := va_free (wc := [(x0, .inr (11, [.ref q1111, .ref q1112, .int 0, .int (-1), .ref q1113, .ref q1114, .ref q1115, .ref q1116, .ref q1117, .ref q1118, .ref q1119, .int 0, .ref q1120, .int 0, .ref q1121, .ref q1122, .ref q1123])), (q1111, .inr (7, [.ref q1124, .int 0]))]) hD hS hA [0, 1] rfl
  refine va_calli (va_runV (As := [.int y1]) (rest := []) ⟨hx, hb, hml, hown, hts⟩ (c_X11_back_0 l dC dI H.size x0 q1111 q1112 q1113 q1114 q1115 q1116 q1117 q1118 q1119 q1120 q1121 q1122 q1123 q1124 y1) (cwV 1 hts gv_L_law_X11_back_65 rfl rfl rfl (by decide +kernel) ⟨Nat.le_of_ble_eq_true rfl, Nat.le_of_ble_eq_true rfl⟩) ⟨fun a U g mk q => by obtain ⟨q0, q1, qP, qK, qD⟩ := q; exact ⟨q0, q1, qP, va_K.moved (u := U) (U := U.calling g mk a) (Vm.Alike.refl U.vm) qK, qD⟩, va_recv hKc hPc (ci := 11) (q0 := 0) rfl rfl, fun U hU hW => ⟨rfl, by rw [hU], by rw [hU]; exact hPc, va_K.moved hW.alike hKc, hDc.weaken (fun _ _ _ _ => trivial)⟩⟩ rfl rfl hl.1 rfl (lv_room (Nat.le_of_ble_eq_true rfl)) dL_law_510 ⟨Nat.le_of_ble_eq_true rfl, Nat.le_of_ble_eq_true rfl⟩) hS (fun q _ h => hFc q h) hFc (fun r4262 u t H1 locs ht hvm hw hB hz1 hk1 hS => ?_)
  obtain ⟨hP1, hK1, hD1⟩ := hB
  rw [ht] at hP1
  have hK1 := va_K.moved hvm.symm hK1
  obtain ⟨hP, hD⟩ := va_join (wr := [(m0, .inr (12, (.ref q2712 :: .int 0 :: .int 0 :: .int 0 :: .int 0 :: .int 0 :: .int 0 :: .int 0 :: .int (-1) :: .int 0 :: .ref q2713 :: .ref q2714 :: .ref q2715 :: .ref q2716 :: .ref q2717 :: .ref q2718 :: .ref q2719 :: .ref q2720 :: .ref q2721 :: .ref q2722 :: .ref q2723 :: .ref q2724 :: .ref q2725 :: .int 0 :: .ref q2726 :: .ref q2727 :: .ref q2728 :: .int 0 :: .ref q2729 :: .ref q2730 :: .int 0 :: .ref q2731 :: .ref q2732 :: .ref q2733 :: .int 0 :: .int 0 :: .int 0 :: .ref q2734 :: .ref q2735 :: .int 0 :: .ref q2736 :: .ref q2737 :: .ref q2738 :: .ref q2739 :: .int 0 :: .ref q2740 :: .ref q2741 :: .int 0 :: .int 0 :: .ref q2742 :: .ref q2743 :: .int 0 :: .ref q2744 :: .ref q2745 :: .ref q2746 :: .ref q2747 :: .int 0 :: .ref q2748 :: .ref q2749 :: .int 0 :: .ref q2750 :: .ref q2751 :: .int 0 :: .ref q2752 :: .ref q2753 :: .int 0 :: .int 0 :: .ref q2754 :: .ref q2755 :: .ref q2756 :: .int 0 :: [])))]) (w1 := []) hP hD [0, 1] [2] rfl rfl (by decide +kernel) (by decide +kernel) hk1 hFc hP1 hD1
  have hK := (hK.sub (tys' := []) [] rfl).app hK1
  generalize H1 = H at hP hS ⊢
  have hK : va_K (dC, dI) vwCl [] s := hK
  have hP : va_P (dC, dI) vwCl [(m0, .inr (12, (.ref q2712 :: .int 0 :: .int 0 :: .int 0 :: .int 0 :: .int 0 :: .int 0 :: .int 0 :: .int (-1) :: .int 0 :: .ref q2713 :: .ref q2714 :: .ref q2715 :: .ref q2716 :: .ref q2717 :: .ref q2718 :: .ref q2719 :: .ref q2720 :: .ref q2721 :: .ref q2722 :: .ref q2723 :: .ref q2724 :: .ref q2725 :: .int 0 :: .ref q2726 :: .ref q2727 :: .ref q2728 :: .int 0 :: .ref q2729 :: .ref q2730 :: .int 0 :: .ref q2731 :: .ref q2732 :: .ref q2733 :: .int 0 :: .int 0 :: .int 0 :: .ref q2734 :: .ref q2735 :: .int 0 :: .ref q2736 :: .ref q2737 :: .ref q2738 :: .ref q2739 :: .int 0 :: .ref q2740 :: .ref q2741 :: .int 0 :: .int 0 :: .ref q2742 :: .ref q2743 :: .int 0 :: .ref q2744 :: .ref q2745 :: .ref q2746 :: .ref q2747 :: .int 0 :: .ref q2748 :: .ref q2749 :: .int 0 :: .ref q2750 :: .ref q2751 :: .int 0 :: .ref q2752 :: .ref q2753 :: .int 0 :: .int 0 :: .ref q2754 :: .ref q2755 :: .ref q2756 :: .int 0 :: [])))] H := hP
  have hD : va_D A [(m0, .inr (12, (.ref q2712 :: .int 0 :: .int 0 :: .int 0 :: .int 0 :: .int 0 :: .int 0 :: .int 0 :: .int (-1) :: .int 0 :: .ref q2713 :: .ref q2714 :: .ref q2715 :: .ref q2716 :: .ref q2717 :: .ref q2718 :: .ref q2719 :: .ref q2720 :: .ref q2721 :: .ref q2722 :: .ref q2723 :: .ref q2724 :: .ref q2725 :: .int 0 :: .ref q2726 :: .ref q2727 :: .ref q2728 :: .int 0 :: .ref q2729 :: .ref q2730 :: .int 0 :: .ref q2731 :: .ref q2732 :: .ref q2733 :: .int 0 :: .int 0 :: .int 0 :: .ref q2734 :: .ref q2735 :: .int 0 :: .ref q2736 :: .ref q2737 :: .ref q2738 :: .ref q2739 :: .int 0 :: .ref q2740 :: .ref q2741 :: .int 0 :: .int 0 :: .ref q2742 :: .ref q2743 :: .int 0 :: .ref q2744 :: .ref q2745 :: .ref q2746 :: .ref q2747 :: .int 0 :: .ref q2748 :: .ref q2749 :: .int 0 :: .ref q2750 :: .ref q2751 :: .int 0 :: .ref q2752 :: .ref q2753 :: .int 0 :: .int 0 :: .ref q2754 :: .ref q2755 :: .ref q2756 :: .int 0 :: [])))] := hD
  obtain rfl : r4262 = (-2) := hw
  refine lv_aload_n hx hb dL_law_513 rfl (lv_at hl 1 rfl) ?_
  refine lv_aload_n hx hb dL_law_514 rfl (lv_at hl 3 rfl) ?_
  refine lv_iload_n hx hb dL_law_515 rfl (lv_at hl 0 rfl) ?_
  refine lv_iconst (v := 1) hx hb dL_law_516 (by decide +kernel) ?_
  refine lv_iadd hx hb dL_law_517 ?_
  refine lv_topi (fun x4263 ex4263 => ?_)
  obtain rfl : x4263 = 1 := ex4263.trans (by decide +kernel)
  refine va_sld hx hb hX hbl hbA hS (by unfold vp_in; decide) dL_law_518 ?_
  refine lv_topi (fun x4264 ex4264 => ?_)
  obtain rfl : y1 = x4264 := (ex4264.trans ey1).symm
  have hPc := hP.sub (ws' := [(m0, .inr (12, (.ref q2712 :: .int 0 :: .int 0 :: .int 0 :: .int 0 :: .int 0 :: .int 0 :: .int 0 :: .int (-1) :: .int 0 :: .ref q2713 :: .ref q2714 :: .ref q2715 :: .ref q2716 :: .ref q2717 :: .ref q2718 :: .ref q2719 :: .ref q2720 :: .ref q2721 :: .ref q2722 :: .ref q2723 :: .ref q2724 :: .ref q2725 :: .int 0 :: .ref q2726 :: .ref q2727 :: .ref q2728 :: .int 0 :: .ref q2729 :: .ref q2730 :: .int 0 :: .ref q2731 :: .ref q2732 :: .ref q2733 :: .int 0 :: .int 0 :: .int 0 :: .ref q2734 :: .ref q2735 :: .int 0 :: .ref q2736 :: .ref q2737 :: .ref q2738 :: .ref q2739 :: .int 0 :: .ref q2740 :: .ref q2741 :: .int 0 :: .int 0 :: .ref q2742 :: .ref q2743 :: .int 0 :: .ref q2744 :: .ref q2745 :: .ref q2746 :: .ref q2747 :: .int 0 :: .ref q2748 :: .ref q2749 :: .int 0 :: .ref q2750 :: .ref q2751 :: .int 0 :: .ref q2752 :: .ref q2753 :: .int 0 :: .int 0 :: .ref q2754 :: .ref q2755 :: .ref q2756 :: .int 0 :: [])))]) [0] rfl
  have hDc := hD.sub (ws' := [(m0, .inr (12, (.ref q2712 :: .int 0 :: .int 0 :: .int 0 :: .int 0 :: .int 0 :: .int 0 :: .int 0 :: .int (-1) :: .int 0 :: .ref q2713 :: .ref q2714 :: .ref q2715 :: .ref q2716 :: .ref q2717 :: .ref q2718 :: .ref q2719 :: .ref q2720 :: .ref q2721 :: .ref q2722 :: .ref q2723 :: .ref q2724 :: .ref q2725 :: .int 0 :: .ref q2726 :: .ref q2727 :: .ref q2728 :: .int 0 :: .ref q2729 :: .ref q2730 :: .int 0 :: .ref q2731 :: .ref q2732 :: .ref q2733 :: .int 0 :: .int 0 :: .int 0 :: .ref q2734 :: .ref q2735 :: .int 0 :: .ref q2736 :: .ref q2737 :: .ref q2738 :: .ref q2739 :: .int 0 :: .ref q2740 :: .ref q2741 :: .int 0 :: .int 0 :: .ref q2742 :: .ref q2743 :: .int 0 :: .ref q2744 :: .ref q2745 :: .ref q2746 :: .ref q2747 :: .int 0 :: .ref q2748 :: .ref q2749 :: .int 0 :: .ref q2750 :: .ref q2751 :: .int 0 :: .ref q2752 :: .ref q2753 :: .int 0 :: .int 0 :: .ref q2754 :: .ref q2755 :: .ref q2756 :: .int 0 :: [])))]) [0] (by decide +kernel) rfl
  have hKc := hK.sub (tys' := []) [] rfl
  have hFc := va_free (wc := [(m0, .inr (12, (.ref q2712 :: .int 0 :: .int 0 :: .int 0 :: .int 0 :: .int 0 :: .int 0 :: .int 0 :: .int (-1) :: .int 0 :: .ref q2713 :: .ref q2714 :: .ref q2715 :: .ref q2716 :: .ref q2717 :: .ref q2718 :: .ref q2719 :: .ref q2720 :: .ref q2721 :: .ref q2722 :: .ref q2723 :: .ref q2724 :: .ref q2725 :: .int 0 :: .ref q2726 :: .ref q2727 :: .ref q2728 :: .int 0 :: .ref q2729 :: .ref q2730 :: .int 0 :: .ref q2731 :: .ref q2732 :: .ref q2733 :: .int 0 :: .int 0 :: .int 0 :: .ref q2734 :: .ref q2735 :: .int 0 :: .ref q2736 :: .ref q2737 :: .ref q2738 :: .ref q2739 :: .int 0 :: .ref q2740 :: .ref q2741 :: .int 0 :: .int 0 :: .ref q2742 :: .ref q2743 :: .int 0 :: .ref q2744 :: .ref q2745 :: .ref q2746 :: .ref q2747 :: .int 0 :: .ref q2748 :: .ref q2749 :: .int 0 :: .ref q2750 :: .ref q2751 :: .int 0 :: .ref q2752 :: .ref q2753 :: .int 0 :: .int 0 :: .ref q2754 :: .ref q2755 :: .ref q2756 :: .int 0 :: [])))]) hD hS hA [0] rfl
  refine va_calli (va_runV (As := [.int y1]) (rest := [.int (-2)]) ⟨hx, hb, hml, hown, hts⟩ (c_X12_back_0 l dC dI H.size m0 q2712 q2713 q2714 q2715 q2716 q2717 q2718 q2719 q2720 q2721 q2722 q2723 q2724 q2725 q2726 q2727 q2728 q2729 q2730 q2731 q2732 q2733 q2734 q2735 q2736 q2737 q2738 q2739 q2740 q2741 q2742 q2743 q2744 q2745 q2746 q2747 q2748 q2749 q2750 q2751 q2752 q2753 q2754 q2755 q2756 y1) (cwV 1 hts gv_L_law_X12_back_68 rfl rfl rfl (by decide +kernel) ⟨Nat.le_of_ble_eq_true rfl, Nat.le_of_ble_eq_true rfl⟩) ⟨fun a U g mk q => by obtain ⟨q0, q1, qP, qK, qD⟩ := q; exact ⟨q0, q1, qP, va_K.moved (u := U) (U := U.calling g mk a) (Vm.Alike.refl U.vm) qK, qD⟩, va_recv hKc hPc (ci := 12) (q0 := 0) rfl rfl, fun U hU hW => ⟨rfl, by rw [hU], by rw [hU]; exact hPc, va_K.moved hW.alike hKc, hDc.weaken (fun _ _ _ _ => trivial)⟩⟩ rfl rfl hl.1 rfl (lv_room (Nat.le_of_ble_eq_true rfl)) dL_law_519 ⟨Nat.le_of_ble_eq_true rfl, Nat.le_of_ble_eq_true rfl⟩) hS (fun q _ h => hFc q h) hFc (fun r4265 u t H1 locs ht hvm hw hB hz1 hk1 hS => ?_)
  obtain ⟨hP1, hK1, hD1⟩ := hB
  rw [ht] at hP1
  have hK1 := va_K.moved hvm.symm hK1
  obtain ⟨hP, hD⟩ := va_join (wr := []) (w1 := []) hP hD [0] [] rfl rfl (by decide +kernel) (by decide +kernel) hk1 hFc hP1 hD1
  have hK := (hK.sub (tys' := []) [] rfl).app hK1
  generalize H1 = H at hP hS ⊢
  have hK : va_K (dC, dI) vwCl [] s := hK
  have hP : va_P (dC, dI) vwCl [] H := hP
  have hD : va_D A [] := hD
  obtain rfl : r4265 = (-2) := hw
  refine lv_icmp_eq (tgt := 833) hx hb dL_law_522 (by decide +kernel) (fun _ => ?_) (fun h => absurd (by decide +kernel) h)
  refine lv_iinc (v := 6) (lv' := [(3, .int 6), (2, .ref m0), (1, .ref x0), (0, .ref b)]) hx hb dL_law_833 hl (k := 0) rfl (by decide +kernel) (by decide +kernel) rfl (fun ls hl => ?_)
  refine lv_goto (tgt := 18) hx hb dL_law_836 (by decide +kernel) ?_
  refine lv_iload_n hx hb dL_law_18 rfl (lv_at hl 0 rfl) ?_
  refine lv_aload_n hx hb dL_law_19 rfl (lv_at hl 3 rfl) ?_
  refine va_slen hx hb hX hbl hbA hS dL_law_20 ?_
  refine lv_topi (fun x4266 ex4266 => ?_)
  obtain rfl : x4266 = 6 := ex4266.trans (by decide +kernel)
  refine lv_bipush (v := 6) hx hb dL_law_21 (by decide +kernel) ?_
  refine lv_isub hx hb dL_law_23 ?_
  refine lv_topi (fun x4267 ex4267 => ?_)
  obtain rfl : x4267 = 0 := ex4267.trans (by decide +kernel)
  refine lv_icmp_gt (tgt := 839) hx hb dL_law_24 (by decide +kernel) (fun _ => ?_) (fun h => absurd (by decide +kernel) h)
  refine lv_iconst (v := 1) hx hb dL_law_839 (by decide +kernel) ?_
  refine va_forget (fun q hq => hAl _ (hS.2.2 q hq)) ?_
  refine W.widen (k := 600000) (n := 7302250) (by omega) (by omega) ?_
  exact lw_ret hx hb hr hlocks dL_law_840
set_option maxHeartbeats 4000000 in
set_option maxRecDepth 100000 in
theorem law_13 {p : Program} {e : Env} {s : State} {m : MethodId} {below : List Frame} {meth : Method} {c : Code} (l : Launch) {b : Nat} {xs : Nat → Int32} {A : Nat → Prop} {dC : Nat → ClassId} {dI : Nat → Nat → Nat} (C0 : lw_At p s m meth c b 6 xs) (hA : ∀ q : Nat, s.heap.size ≤ q → A q) (hbA : ¬ A b) (hAl : ∀ q : Nat, A q → s.heap.size ≤ q) (hE : EnvOK s) {y1 : Int32} (ey1 : xs (Int32.toNatClampNeg 1) = y1) {x0 : Nat} {q1111 : Nat} {q1112 : Nat} {q1113 : Nat} {q1114 : Nat} {q1115 : Nat} {q1116 : Nat} {q1117 : Nat} {q1118 : Nat} {q1119 : Nat} {q1120 : Nat} {q1121 : Nat} {q1122 : Nat} {q1123 : Nat} {m0 : Nat} {q2712 : Nat} {q2713 : Nat} {q2714 : Nat} {q2715 : Nat} {q2716 : Nat} {q2717 : Nat} {q2718 : Nat} {q2719 : Nat} {q2720 : Nat} {q2721 : Nat} {q2722 : Nat} {q2723 : Nat} {q2724 : Nat} {q2725 : Nat} {q2726 : Nat} {q2727 : Nat} {q2728 : Nat} {q2729 : Nat} {q2730 : Nat} {q2731 : Nat} {q2732 : Nat} {q2733 : Nat} {q2734 : Nat} {q2735 : Nat} {q2736 : Nat} {q2737 : Nat} {q2738 : Nat} {q2739 : Nat} {q2740 : Nat} {q2741 : Nat} {q2742 : Nat} {q2743 : Nat} {q2744 : Nat} {q2745 : Nat} {q2746 : Nat} {q2747 : Nat} {q2748 : Nat} {q2749 : Nat} {q2750 : Nat} {q2751 : Nat} {q2752 : Nat} {q2753 : Nat} {q2754 : Nat} {q2755 : Nat} {q2756 : Nat} {H : Heap} {locs : List Loc} {ls : Array Slot} (hK : va_K (dC, dI) vwCl [] s) (hP : va_P (dC, dI) vwCl [(x0, .inr (11, [.ref q1111, .ref q1112, .int 0, .int (-1), .ref q1113, .ref q1114, .ref q1115, .ref q1116, .ref q1117, .ref q1118, .ref q1119, .int 0, .ref q1120, .int 0, .ref q1121, .ref q1122, .ref q1123])), (m0, .inr (12, (.ref q2712 :: .int 0 :: .int 0 :: .int 0 :: .int 0 :: .int 0 :: .int 0 :: .int 0 :: .int (-1) :: .int 0 :: .ref q2713 :: .ref q2714 :: .ref q2715 :: .ref q2716 :: .ref q2717 :: .ref q2718 :: .ref q2719 :: .ref q2720 :: .ref q2721 :: .ref q2722 :: .ref q2723 :: .ref q2724 :: .ref q2725 :: .int 0 :: .ref q2726 :: .ref q2727 :: .ref q2728 :: .int 0 :: .ref q2729 :: .ref q2730 :: .int 0 :: .ref q2731 :: .ref q2732 :: .ref q2733 :: .int 0 :: .int 0 :: .int 0 :: .ref q2734 :: .ref q2735 :: .int 0 :: .ref q2736 :: .ref q2737 :: .ref q2738 :: .ref q2739 :: .int 0 :: .ref q2740 :: .ref q2741 :: .int 0 :: .int 0 :: .ref q2742 :: .ref q2743 :: .int 0 :: .ref q2744 :: .ref q2745 :: .ref q2746 :: .ref q2747 :: .int 0 :: .ref q2748 :: .ref q2749 :: .int 0 :: .ref q2750 :: .ref q2751 :: .int 0 :: .ref q2752 :: .ref q2753 :: .int 0 :: .int 0 :: .ref q2754 :: .ref q2755 :: .ref q2756 :: .int 0 :: [])))] H) (hD : va_D A [(x0, .inr (11, [.ref q1111, .ref q1112, .int 0, .int (-1), .ref q1113, .ref q1114, .ref q1115, .ref q1116, .ref q1117, .ref q1118, .ref q1119, .int 0, .ref q1120, .int 0, .ref q1121, .ref q1122, .ref q1123])), (m0, .inr (12, (.ref q2712 :: .int 0 :: .int 0 :: .int 0 :: .int 0 :: .int 0 :: .int 0 :: .int 0 :: .int (-1) :: .int 0 :: .ref q2713 :: .ref q2714 :: .ref q2715 :: .ref q2716 :: .ref q2717 :: .ref q2718 :: .ref q2719 :: .ref q2720 :: .ref q2721 :: .ref q2722 :: .ref q2723 :: .ref q2724 :: .ref q2725 :: .int 0 :: .ref q2726 :: .ref q2727 :: .ref q2728 :: .int 0 :: .ref q2729 :: .ref q2730 :: .int 0 :: .ref q2731 :: .ref q2732 :: .ref q2733 :: .int 0 :: .int 0 :: .int 0 :: .ref q2734 :: .ref q2735 :: .int 0 :: .ref q2736 :: .ref q2737 :: .ref q2738 :: .ref q2739 :: .int 0 :: .ref q2740 :: .ref q2741 :: .int 0 :: .int 0 :: .ref q2742 :: .ref q2743 :: .int 0 :: .ref q2744 :: .ref q2745 :: .ref q2746 :: .ref q2747 :: .int 0 :: .ref q2748 :: .ref q2749 :: .int 0 :: .ref q2750 :: .ref q2751 :: .int 0 :: .ref q2752 :: .ref q2753 :: .int 0 :: .int 0 :: .ref q2754 :: .ref q2755 :: .ref q2756 :: .int 0 :: [])))]) (hS : va_S A s.heap H locs) (hl : lv_has ls 4 [(3, .int 0), (2, .ref m0), (1, .ref x0), (0, .ref b)]) : W p l e room_1 s m #[Value.ref b] below meth c H locs 126 277922 (lw_Z below #[Value.ref b] s) (F0 m 527 ls []) := by
  obtain ⟨hx, hb, hr, hml, hown, hts, hX, hbl, hlocks, hgv⟩ := C0
  have hts := fun w h => hts w (wmL_law_in w h)
  have hS : va_S A s.heap H locs := hS
  refine lv_aload_n hx hb dL_law_527 rfl (lv_at hl 2 rfl) ?_
  refine lv_aload_n hx hb dL_law_528 rfl (lv_at hl 3 rfl) ?_
  refine lv_iload_n hx hb dL_law_529 rfl (lv_at hl 0 rfl) ?_
  refine lv_iconst (v := 1) hx hb dL_law_530 (by decide +kernel) ?_
  refine lv_iadd hx hb dL_law_531 ?_
  refine lv_topi (fun x4268 ex4268 => ?_)
  obtain rfl : x4268 = 1 := ex4268.trans (by decide +kernel)
  refine va_sld hx hb hX hbl hbA hS (by unfold vp_in; decide) dL_law_532 ?_
  refine lv_topi (fun x4269 ex4269 => ?_)
  obtain rfl : y1 = x4269 := (ex4269.trans ey1).symm
  have hPc := hP.sub (ws' := [(x0, .inr (11, [.ref q1111, .ref q1112, .int 0, .int (-1), .ref q1113, .ref q1114, .ref q1115, .ref q1116, .ref q1117, .ref q1118, .ref q1119, .int 0, .ref q1120, .int 0, .ref q1121, .ref q1122, .ref q1123]))]) [0] rfl
  have hDc := hD.sub (ws' := [(x0, .inr (11, [.ref q1111, .ref q1112, .int 0, .int (-1), .ref q1113, .ref q1114, .ref q1115, .ref q1116, .ref q1117, .ref q1118, .ref q1119, .int 0, .ref q1120, .int 0, .ref q1121, .ref q1122, .ref q1123]))]) [0] (by decide +kernel) rfl
  have hKc := hK.sub (tys' := []) [] rfl
  have hFc := va_free (wc := [(x0, .inr (11, [.ref q1111, .ref q1112, .int 0, .int (-1), .ref q1113, .ref q1114, .ref q1115, .ref q1116, .ref q1117, .ref q1118, .ref q1119, .int 0, .ref q1120, .int 0, .ref q1121, .ref q1122, .ref q1123]))]) hD hS hA [0] rfl
  refine va_calli (va_runV (As := [.int y1]) (rest := []) ⟨hx, hb, hml, hown, hts⟩ (c_X11_old_0 l dC dI H.size x0 q1111 q1112 q1113 q1114 q1115 q1116 q1117 q1118 q1119 q1120 q1121 q1122 q1123 y1) (cwV 1 hts gv_L_law_X11_old_69 rfl rfl rfl (by decide +kernel) ⟨Nat.le_of_ble_eq_true rfl, Nat.le_of_ble_eq_true rfl⟩) ⟨fun a U g mk q => by obtain ⟨q0, q1, qP, qK, qD⟩ := q; exact ⟨q0, q1, qP, va_K.moved (u := U) (U := U.calling g mk a) (Vm.Alike.refl U.vm) qK, qD⟩, va_recv hKc hPc (ci := 11) (q0 := 0) rfl rfl, fun U hU hW => ⟨rfl, by rw [hU], by rw [hU]; exact hPc, va_K.moved hW.alike hKc, hDc.weaken (fun _ _ _ _ => trivial)⟩⟩ rfl rfl hl.1 rfl (lv_room (Nat.le_of_ble_eq_true rfl)) dL_law_533 ⟨Nat.le_of_ble_eq_true rfl, Nat.le_of_ble_eq_true rfl⟩) hS (fun q _ h => hFc q h) hFc (fun r4272 u t H1 locs ht hvm hw hB hz1 hk1 hS => ?_)
  obtain ⟨hP1, hK1, hD1⟩ := hB
  rw [ht] at hP1
  have hK1 := va_K.moved hvm.symm hK1
  obtain ⟨hP, hD⟩ := va_join (wr := [(m0, .inr (12, (.ref q2712 :: .int 0 :: .int 0 :: .int 0 :: .int 0 :: .int 0 :: .int 0 :: .int 0 :: .int (-1) :: .int 0 :: .ref q2713 :: .ref q2714 :: .ref q2715 :: .ref q2716 :: .ref q2717 :: .ref q2718 :: .ref q2719 :: .ref q2720 :: .ref q2721 :: .ref q2722 :: .ref q2723 :: .ref q2724 :: .ref q2725 :: .int 0 :: .ref q2726 :: .ref q2727 :: .ref q2728 :: .int 0 :: .ref q2729 :: .ref q2730 :: .int 0 :: .ref q2731 :: .ref q2732 :: .ref q2733 :: .int 0 :: .int 0 :: .int 0 :: .ref q2734 :: .ref q2735 :: .int 0 :: .ref q2736 :: .ref q2737 :: .ref q2738 :: .ref q2739 :: .int 0 :: .ref q2740 :: .ref q2741 :: .int 0 :: .int 0 :: .ref q2742 :: .ref q2743 :: .int 0 :: .ref q2744 :: .ref q2745 :: .ref q2746 :: .ref q2747 :: .int 0 :: .ref q2748 :: .ref q2749 :: .int 0 :: .ref q2750 :: .ref q2751 :: .int 0 :: .ref q2752 :: .ref q2753 :: .int 0 :: .int 0 :: .ref q2754 :: .ref q2755 :: .ref q2756 :: .int 0 :: [])))]) (w1 := []) hP hD [0] [1] rfl rfl (by decide +kernel) (by decide +kernel) hk1 hFc hP1 hD1
  have hK := (hK.sub (tys' := []) [] rfl).app hK1
  generalize H1 = H at hP hS ⊢
  have hK : va_K (dC, dI) vwCl [] s := hK
  have hP : va_P (dC, dI) vwCl [(m0, .inr (12, (.ref q2712 :: .int 0 :: .int 0 :: .int 0 :: .int 0 :: .int 0 :: .int 0 :: .int 0 :: .int (-1) :: .int 0 :: .ref q2713 :: .ref q2714 :: .ref q2715 :: .ref q2716 :: .ref q2717 :: .ref q2718 :: .ref q2719 :: .ref q2720 :: .ref q2721 :: .ref q2722 :: .ref q2723 :: .ref q2724 :: .ref q2725 :: .int 0 :: .ref q2726 :: .ref q2727 :: .ref q2728 :: .int 0 :: .ref q2729 :: .ref q2730 :: .int 0 :: .ref q2731 :: .ref q2732 :: .ref q2733 :: .int 0 :: .int 0 :: .int 0 :: .ref q2734 :: .ref q2735 :: .int 0 :: .ref q2736 :: .ref q2737 :: .ref q2738 :: .ref q2739 :: .int 0 :: .ref q2740 :: .ref q2741 :: .int 0 :: .int 0 :: .ref q2742 :: .ref q2743 :: .int 0 :: .ref q2744 :: .ref q2745 :: .ref q2746 :: .ref q2747 :: .int 0 :: .ref q2748 :: .ref q2749 :: .int 0 :: .ref q2750 :: .ref q2751 :: .int 0 :: .ref q2752 :: .ref q2753 :: .int 0 :: .int 0 :: .ref q2754 :: .ref q2755 :: .ref q2756 :: .int 0 :: [])))] H := hP
  have hD : va_D A [(m0, .inr (12, (.ref q2712 :: .int 0 :: .int 0 :: .int 0 :: .int 0 :: .int 0 :: .int 0 :: .int 0 :: .int (-1) :: .int 0 :: .ref q2713 :: .ref q2714 :: .ref q2715 :: .ref q2716 :: .ref q2717 :: .ref q2718 :: .ref q2719 :: .ref q2720 :: .ref q2721 :: .ref q2722 :: .ref q2723 :: .ref q2724 :: .ref q2725 :: .int 0 :: .ref q2726 :: .ref q2727 :: .ref q2728 :: .int 0 :: .ref q2729 :: .ref q2730 :: .int 0 :: .ref q2731 :: .ref q2732 :: .ref q2733 :: .int 0 :: .int 0 :: .int 0 :: .ref q2734 :: .ref q2735 :: .int 0 :: .ref q2736 :: .ref q2737 :: .ref q2738 :: .ref q2739 :: .int 0 :: .ref q2740 :: .ref q2741 :: .int 0 :: .int 0 :: .ref q2742 :: .ref q2743 :: .int 0 :: .ref q2744 :: .ref q2745 :: .ref q2746 :: .ref q2747 :: .int 0 :: .ref q2748 :: .ref q2749 :: .int 0 :: .ref q2750 :: .ref q2751 :: .int 0 :: .ref q2752 :: .ref q2753 :: .int 0 :: .int 0 :: .ref q2754 :: .ref q2755 :: .ref q2756 :: .int 0 :: [])))] := hD
  obtain rfl : r4272 = (-1) := hw
  refine lv_aload_n hx hb dL_law_536 rfl (lv_at hl 1 rfl) ?_
  refine lv_aload_n hx hb dL_law_537 rfl (lv_at hl 3 rfl) ?_
  refine lv_iload_n hx hb dL_law_538 rfl (lv_at hl 0 rfl) ?_
  refine lv_iconst (v := 1) hx hb dL_law_539 (by decide +kernel) ?_
  refine lv_iadd hx hb dL_law_540 ?_
  refine lv_topi (fun x4273 ex4273 => ?_)
  obtain rfl : x4273 = 1 := ex4273.trans (by decide +kernel)
  refine va_sld hx hb hX hbl hbA hS (by unfold vp_in; decide) dL_law_541 ?_
  refine lv_topi (fun x4274 ex4274 => ?_)
  obtain rfl : y1 = x4274 := (ex4274.trans ey1).symm
  have hPc := hP.sub (ws' := [(m0, .inr (12, (.ref q2712 :: .int 0 :: .int 0 :: .int 0 :: .int 0 :: .int 0 :: .int 0 :: .int 0 :: .int (-1) :: .int 0 :: .ref q2713 :: .ref q2714 :: .ref q2715 :: .ref q2716 :: .ref q2717 :: .ref q2718 :: .ref q2719 :: .ref q2720 :: .ref q2721 :: .ref q2722 :: .ref q2723 :: .ref q2724 :: .ref q2725 :: .int 0 :: .ref q2726 :: .ref q2727 :: .ref q2728 :: .int 0 :: .ref q2729 :: .ref q2730 :: .int 0 :: .ref q2731 :: .ref q2732 :: .ref q2733 :: .int 0 :: .int 0 :: .int 0 :: .ref q2734 :: .ref q2735 :: .int 0 :: .ref q2736 :: .ref q2737 :: .ref q2738 :: .ref q2739 :: .int 0 :: .ref q2740 :: .ref q2741 :: .int 0 :: .int 0 :: .ref q2742 :: .ref q2743 :: .int 0 :: .ref q2744 :: .ref q2745 :: .ref q2746 :: .ref q2747 :: .int 0 :: .ref q2748 :: .ref q2749 :: .int 0 :: .ref q2750 :: .ref q2751 :: .int 0 :: .ref q2752 :: .ref q2753 :: .int 0 :: .int 0 :: .ref q2754 :: .ref q2755 :: .ref q2756 :: .int 0 :: [])))]) [0] rfl
  have hDc := hD.sub (ws' := [(m0, .inr (12, (.ref q2712 :: .int 0 :: .int 0 :: .int 0 :: .int 0 :: .int 0 :: .int 0 :: .int 0 :: .int (-1) :: .int 0 :: .ref q2713 :: .ref q2714 :: .ref q2715 :: .ref q2716 :: .ref q2717 :: .ref q2718 :: .ref q2719 :: .ref q2720 :: .ref q2721 :: .ref q2722 :: .ref q2723 :: .ref q2724 :: .ref q2725 :: .int 0 :: .ref q2726 :: .ref q2727 :: .ref q2728 :: .int 0 :: .ref q2729 :: .ref q2730 :: .int 0 :: .ref q2731 :: .ref q2732 :: .ref q2733 :: .int 0 :: .int 0 :: .int 0 :: .ref q2734 :: .ref q2735 :: .int 0 :: .ref q2736 :: .ref q2737 :: .ref q2738 :: .ref q2739 :: .int 0 :: .ref q2740 :: .ref q2741 :: .int 0 :: .int 0 :: .ref q2742 :: .ref q2743 :: .int 0 :: .ref q2744 :: .ref q2745 :: .ref q2746 :: .ref q2747 :: .int 0 :: .ref q2748 :: .ref q2749 :: .int 0 :: .ref q2750 :: .ref q2751 :: .int 0 :: .ref q2752 :: .ref q2753 :: .int 0 :: .int 0 :: .ref q2754 :: .ref q2755 :: .ref q2756 :: .int 0 :: [])))]) [0] (by decide +kernel) rfl
  have hKc := hK.sub (tys' := []) [] rfl
  have hFc := va_free (wc := [(m0, .inr (12, (.ref q2712 :: .int 0 :: .int 0 :: .int 0 :: .int 0 :: .int 0 :: .int 0 :: .int 0 :: .int (-1) :: .int 0 :: .ref q2713 :: .ref q2714 :: .ref q2715 :: .ref q2716 :: .ref q2717 :: .ref q2718 :: .ref q2719 :: .ref q2720 :: .ref q2721 :: .ref q2722 :: .ref q2723 :: .ref q2724 :: .ref q2725 :: .int 0 :: .ref q2726 :: .ref q2727 :: .ref q2728 :: .int 0 :: .ref q2729 :: .ref q2730 :: .int 0 :: .ref q2731 :: .ref q2732 :: .ref q2733 :: .int 0 :: .int 0 :: .int 0 :: .ref q2734 :: .ref q2735 :: .int 0 :: .ref q2736 :: .ref q2737 :: .ref q2738 :: .ref q2739 :: .int 0 :: .ref q2740 :: .ref q2741 :: .int 0 :: .int 0 :: .ref q2742 :: .ref q2743 :: .int 0 :: .ref q2744 :: .ref q2745 :: .ref q2746 :: .ref q2747 :: .int 0 :: .ref q2748 :: .ref q2749 :: .int 0 :: .ref q2750 :: .ref q2751 :: .int 0 :: .ref q2752 :: .ref q2753 :: .int 0 :: .int 0 :: .ref q2754 :: .ref q2755 :: .ref q2756 :: .int 0 :: [])))]) hD hS hA [0] rfl
  refine va_calli (va_runV (As := [.int y1]) (rest := [.int (-1)]) ⟨hx, hb, hml, hown, hts⟩ (c_X12_old_0 l dC dI H.size m0 q2712 q2713 q2714 q2715 q2716 q2717 q2718 q2719 q2720 q2721 q2722 q2723 q2724 q2725 q2726 q2727 q2728 q2729 q2730 q2731 q2732 q2733 q2734 q2735 q2736 q2737 q2738 q2739 q2740 q2741 q2742 q2743 q2744 q2745 q2746 q2747 q2748 q2749 q2750 q2751 q2752 q2753 q2754 q2755 q2756 y1) (cwV 1 hts gv_L_law_X12_old_72 rfl rfl rfl (by decide +kernel) ⟨Nat.le_of_ble_eq_true rfl, Nat.le_of_ble_eq_true rfl⟩) ⟨fun a U g mk q => by obtain ⟨q0, q1, qP, qK, qD⟩ := q; exact ⟨q0, q1, qP, va_K.moved (u := U) (U := U.calling g mk a) (Vm.Alike.refl U.vm) qK, qD⟩, va_recv hKc hPc (ci := 12) (q0 := 0) rfl rfl, fun U hU hW => ⟨rfl, by rw [hU], by rw [hU]; exact hPc, va_K.moved hW.alike hKc, hDc.weaken (fun _ _ _ _ => trivial)⟩⟩ rfl rfl hl.1 rfl (lv_room (Nat.le_of_ble_eq_true rfl)) dL_law_542 ⟨Nat.le_of_ble_eq_true rfl, Nat.le_of_ble_eq_true rfl⟩) hS (fun q _ h => hFc q h) hFc (fun r4278 u t H1 locs ht hvm hw hB hz1 hk1 hS => ?_)
  obtain ⟨hP1, hK1, hD1⟩ := hB
  rw [ht] at hP1
  have hK1 := va_K.moved hvm.symm hK1
  obtain ⟨hP, hD⟩ := va_join (wr := []) (w1 := []) hP hD [0] [] rfl rfl (by decide +kernel) (by decide +kernel) hk1 hFc hP1 hD1
  have hK := (hK.sub (tys' := []) [] rfl).app hK1
  generalize H1 = H at hP hS ⊢
  have hK : va_K (dC, dI) vwCl [] s := hK
  have hP : va_P (dC, dI) vwCl [] H := hP
  have hD : va_D A [] := hD
  obtain rfl : r4278 = (-1) := hw
  refine lv_icmp_eq (tgt := 833) hx hb dL_law_545 (by decide +kernel) (fun _ => ?_) (fun h => absurd (by decide +kernel) h)
  refine lv_iinc (v := 6) (lv' := [(3, .int 6), (2, .ref m0), (1, .ref x0), (0, .ref b)]) hx hb dL_law_833 hl (k := 0) rfl (by decide +kernel) (by decide +kernel) rfl (fun ls hl => ?_)
  refine lv_goto (tgt := 18) hx hb dL_law_836 (by decide +kernel) ?_
  refine lv_iload_n hx hb dL_law_18 rfl (lv_at hl 0 rfl) ?_
  refine lv_aload_n hx hb dL_law_19 rfl (lv_at hl 3 rfl) ?_
  refine va_slen hx hb hX hbl hbA hS dL_law_20 ?_
  refine lv_topi (fun x4279 ex4279 => ?_)
  obtain rfl : x4279 = 6 := ex4279.trans (by decide +kernel)
  refine lv_bipush (v := 6) hx hb dL_law_21 (by decide +kernel) ?_
  refine lv_isub hx hb dL_law_23 ?_
  refine lv_topi (fun x4280 ex4280 => ?_)
  obtain rfl : x4280 = 0 := ex4280.trans (by decide +kernel)
  refine lv_icmp_gt (tgt := 839) hx hb dL_law_24 (by decide +kernel) (fun _ => ?_) (fun h => absurd (by decide +kernel) h)
  refine lv_iconst (v := 1) hx hb dL_law_839 (by decide +kernel) ?_
  refine va_forget (fun q hq => hAl _ (hS.2.2 q hq)) ?_
  refine W.widen (k := 600000) (n := 7302250) (by omega) (by omega) ?_
  exact lw_ret hx hb hr hlocks dL_law_840
set_option maxHeartbeats 4000000 in
set_option maxRecDepth 100000 in
theorem law_14 {p : Program} {e : Env} {s : State} {m : MethodId} {below : List Frame} {meth : Method} {c : Code} (l : Launch) {b : Nat} {xs : Nat → Int32} {A : Nat → Prop} {dC : Nat → ClassId} {dI : Nat → Nat → Nat} (C0 : lw_At p s m meth c b 6 xs) (hA : ∀ q : Nat, s.heap.size ≤ q → A q) (hbA : ¬ A b) (hAl : ∀ q : Nat, A q → s.heap.size ≤ q) (hE : EnvOK s) {y1 : Int32} (ey1 : xs (Int32.toNatClampNeg 1) = y1) {k1176 : ClassId} {x0 : Nat} {q1111 : Nat} {q1112 : Nat} {q1113 : Nat} {q1114 : Nat} {q1115 : Nat} {q1116 : Nat} {q1117 : Nat} {q1118 : Nat} {q1119 : Nat} {q1120 : Nat} {q1121 : Nat} {q1122 : Nat} {q1123 : Nat} {q1168 : Nat} {q1169 : Nat} {q1170 : Nat} {q1171 : Nat} {q1172 : Nat} {q1173 : Nat} {q1174 : Nat} {q1175 : Nat} {m0 : Nat} {q2712 : Nat} {q2713 : Nat} {q2714 : Nat} {q2715 : Nat} {q2716 : Nat} {q2717 : Nat} {q2718 : Nat} {q2719 : Nat} {q2720 : Nat} {q2721 : Nat} {q2722 : Nat} {q2723 : Nat} {q2724 : Nat} {q2725 : Nat} {q2726 : Nat} {q2727 : Nat} {q2728 : Nat} {q2729 : Nat} {q2730 : Nat} {q2731 : Nat} {q2732 : Nat} {q2733 : Nat} {q2734 : Nat} {q2735 : Nat} {q2736 : Nat} {q2737 : Nat} {q2738 : Nat} {q2739 : Nat} {q2740 : Nat} {q2741 : Nat} {q2742 : Nat} {q2743 : Nat} {q2744 : Nat} {q2745 : Nat} {q2746 : Nat} {q2747 : Nat} {q2748 : Nat} {q2749 : Nat} {q2750 : Nat} {q2751 : Nat} {q2752 : Nat} {q2753 : Nat} {q2754 : Nat} {q2755 : Nat} {q2756 : Nat} {H : Heap} {locs : List Loc} {ls : Array Slot} (hK : va_K (dC, dI) vwCl [(k1176, .int)] s) (hP : va_P (dC, dI) vwCl [(x0, .inr (11, [.ref q1111, .ref q1112, .int 0, .int (-1), .ref q1113, .ref q1114, .ref q1115, .ref q1116, .ref q1117, .ref q1118, .ref q1119, .int 0, .ref q1120, .int 0, .ref q1121, .ref q1122, .ref q1123])), (q1118, .inr (0, [.ref q1168, .ref q1169, .ref q1170, .ref q1171, .ref q1172, .ref q1173])), (q1171, .inl (k1176, 7, .inl (fun _ => 0))), (q1168, .inr (10, [.int 24, .ref q1174, .ref q1175, .int 0])), (m0, .inr (12, (.ref q2712 :: .int 0 :: .int 0 :: .int 0 :: .int 0 :: .int 0 :: .int 0 :: .int 0 :: .int (-1) :: .int 0 :: .ref q2713 :: .ref q2714 :: .ref q2715 :: .ref q2716 :: .ref q2717 :: .ref q2718 :: .ref q2719 :: .ref q2720 :: .ref q2721 :: .ref q2722 :: .ref q2723 :: .ref q2724 :: .ref q2725 :: .int 0 :: .ref q2726 :: .ref q2727 :: .ref q2728 :: .int 0 :: .ref q2729 :: .ref q2730 :: .int 0 :: .ref q2731 :: .ref q2732 :: .ref q2733 :: .int 0 :: .int 0 :: .int 0 :: .ref q2734 :: .ref q2735 :: .int 0 :: .ref q2736 :: .ref q2737 :: .ref q2738 :: .ref q2739 :: .int 0 :: .ref q2740 :: .ref q2741 :: .int 0 :: .int 0 :: .ref q2742 :: .ref q2743 :: .int 0 :: .ref q2744 :: .ref q2745 :: .ref q2746 :: .ref q2747 :: .int 0 :: .ref q2748 :: .ref q2749 :: .int 0 :: .ref q2750 :: .ref q2751 :: .int 0 :: .ref q2752 :: .ref q2753 :: .int 0 :: .int 0 :: .ref q2754 :: .ref q2755 :: .ref q2756 :: .int 0 :: [])))] H) (hD : va_D A [(x0, .inr (11, [.ref q1111, .ref q1112, .int 0, .int (-1), .ref q1113, .ref q1114, .ref q1115, .ref q1116, .ref q1117, .ref q1118, .ref q1119, .int 0, .ref q1120, .int 0, .ref q1121, .ref q1122, .ref q1123])), (q1118, .inr (0, [.ref q1168, .ref q1169, .ref q1170, .ref q1171, .ref q1172, .ref q1173])), (q1171, .inl (k1176, 7, .inl (fun _ => 0))), (q1168, .inr (10, [.int 24, .ref q1174, .ref q1175, .int 0])), (m0, .inr (12, (.ref q2712 :: .int 0 :: .int 0 :: .int 0 :: .int 0 :: .int 0 :: .int 0 :: .int 0 :: .int (-1) :: .int 0 :: .ref q2713 :: .ref q2714 :: .ref q2715 :: .ref q2716 :: .ref q2717 :: .ref q2718 :: .ref q2719 :: .ref q2720 :: .ref q2721 :: .ref q2722 :: .ref q2723 :: .ref q2724 :: .ref q2725 :: .int 0 :: .ref q2726 :: .ref q2727 :: .ref q2728 :: .int 0 :: .ref q2729 :: .ref q2730 :: .int 0 :: .ref q2731 :: .ref q2732 :: .ref q2733 :: .int 0 :: .int 0 :: .int 0 :: .ref q2734 :: .ref q2735 :: .int 0 :: .ref q2736 :: .ref q2737 :: .ref q2738 :: .ref q2739 :: .int 0 :: .ref q2740 :: .ref q2741 :: .int 0 :: .int 0 :: .ref q2742 :: .ref q2743 :: .int 0 :: .ref q2744 :: .ref q2745 :: .ref q2746 :: .ref q2747 :: .int 0 :: .ref q2748 :: .ref q2749 :: .int 0 :: .ref q2750 :: .ref q2751 :: .int 0 :: .ref q2752 :: .ref q2753 :: .int 0 :: .int 0 :: .ref q2754 :: .ref q2755 :: .ref q2756 :: .int 0 :: [])))]) (hS : va_S A s.heap H locs) (hl : lv_has ls 4 [(3, .int 0), (2, .ref m0), (1, .ref x0), (0, .ref b)]) : W p l e room_1 s m #[Value.ref b] below meth c H locs 126 277922 (lw_Z below #[Value.ref b] s) (F0 m 550 ls []) := by
  obtain ⟨hx, hb, hr, hml, hown, hts, hX, hbl, hlocks, hgv⟩ := C0
  have hts := fun w h => hts w (wmL_law_in w h)
  have hS : va_S A s.heap H locs := hS
  refine lv_aload_n hx hb dL_law_550 rfl (lv_at hl 2 rfl) ?_
  refine lv_aload_n hx hb dL_law_551 rfl (lv_at hl 3 rfl) ?_
  refine lv_iload_n hx hb dL_law_552 rfl (lv_at hl 0 rfl) ?_
  refine lv_iconst (v := 1) hx hb dL_law_553 (by decide +kernel) ?_
  refine lv_iadd hx hb dL_law_554 ?_
  refine lv_topi (fun x4281 ex4281 => ?_)
  obtain rfl : x4281 = 1 := ex4281.trans (by decide +kernel)
  refine va_sld hx hb hX hbl hbA hS (by unfold vp_in; decide) dL_law_555 ?_
  refine lv_topi (fun x4282 ex4282 => ?_)
  obtain rfl : y1 = x4282 := (ex4282.trans ey1).symm
  have hPc := hP.sub (ws' := [(x0, .inr (11, [.ref q1111, .ref q1112, .int 0, .int (-1), .ref q1113, .ref q1114, .ref q1115, .ref q1116, .ref q1117, .ref q1118, .ref q1119, .int 0, .ref q1120, .int 0, .ref q1121, .ref q1122, .ref q1123])), (q1118, .inr (0, [.ref q1168, .ref q1169, .ref q1170, .ref q1171, .ref q1172, .ref q1173])), (q1171, .inl (k1176, 7, .inl (fun _ => 0))), (q1168, .inr (10, [.int 24, .ref q1174, .ref q1175, .int 0]))]) [0, 1, 2, 3] rfl
  have hDc := hD.sub (ws' := [(x0, .inr (11, [.ref q1111, .ref q1112, .int 0, .int (-1), .ref q1113, .ref q1114, .ref q1115, .ref q1116, .ref q1117, .ref q1118, .ref q1119, .int 0, .ref q1120, .int 0, .ref q1121, .ref q1122, .ref q1123])), (q1118, .inr (0, [.ref q1168, .ref q1169, .ref q1170, .ref q1171, .ref q1172, .ref q1173])), (q1171, .inl (k1176, 7, .inl (fun _ => 0))), (q1168, .inr (10, [.int 24, .ref q1174, .ref q1175, .int 0]))]) [0, 1, 2, 3] (by decide +kernel) rfl
  have hKc := hK.sub (tys' := [(k1176, .int)]) [0] rfl
  have hFc := va_free (wc := [(x0, .inr (11, [.ref q1111, .ref q1112, .int 0, .int (-1), .ref q1113, .ref q1114, .ref q1115, .ref q1116, .ref q1117, .ref q1118, .ref q1119, .int 0, .ref q1120, .int 0, .ref q1121, .ref q1122, .ref q1123])), (q1118, .inr (0, [.ref q1168, .ref q1169, .ref q1170, .ref q1171, .ref q1172, .ref q1173])), (q1171, .inl (k1176, 7, .inl (fun _ => 0))), (q1168, .inr (10, [.int 24, .ref q1174, .ref q1175, .int 0]))]) hD hS hA [0, 1, 2, 3] rfl
  refine va_calli (va_runV (As := [.int y1]) (rest := []) ⟨hx, hb, hml, hown, hts⟩ (c_X11_collisions_0 l dC dI H.size x0 q1111 q1112 q1113 q1114 q1115 q1116 q1117 q1118 q1119 q1120 q1121 q1122 q1123 q1168 q1169 q1170 q1171 q1172 q1173 q1174 q1175 k1176 y1) (cwV 1 hts gv_L_law_X11_collisions_73 rfl rfl rfl (by decide +kernel) ⟨Nat.le_of_ble_eq_true rfl, Nat.le_of_ble_eq_true rfl⟩) ⟨fun a U g mk q => by obtain ⟨q0, q1, qP, qK, qD⟩ := q; exact ⟨q0, q1, qP, va_K.moved (u := U) (U := U.calling g mk a) (Vm.Alike.refl U.vm) qK, qD⟩, va_recv hKc hPc (ci := 11) (q0 := 0) rfl rfl, fun U hU hW => ⟨rfl, by rw [hU], by rw [hU]; exact hPc, va_K.moved hW.alike hKc, hDc.weaken (fun _ _ _ _ => trivial)⟩⟩ rfl rfl hl.1 rfl (lv_room (Nat.le_of_ble_eq_true rfl)) dL_law_556 ⟨Nat.le_of_ble_eq_true rfl, Nat.le_of_ble_eq_true rfl⟩) hS (fun q _ h => hFc q h) hFc (fun r4292 u t H1 locs ht hvm hw hB hz1 hk1 hS => ?_)
  obtain ⟨hP1, hK1, hD1⟩ := hB
  rw [ht] at hP1
  have hK1 := va_K.moved hvm.symm hK1
  obtain ⟨hP, hD⟩ := va_join (wr := [(m0, .inr (12, (.ref q2712 :: .int 0 :: .int 0 :: .int 0 :: .int 0 :: .int 0 :: .int 0 :: .int 0 :: .int (-1) :: .int 0 :: .ref q2713 :: .ref q2714 :: .ref q2715 :: .ref q2716 :: .ref q2717 :: .ref q2718 :: .ref q2719 :: .ref q2720 :: .ref q2721 :: .ref q2722 :: .ref q2723 :: .ref q2724 :: .ref q2725 :: .int 0 :: .ref q2726 :: .ref q2727 :: .ref q2728 :: .int 0 :: .ref q2729 :: .ref q2730 :: .int 0 :: .ref q2731 :: .ref q2732 :: .ref q2733 :: .int 0 :: .int 0 :: .int 0 :: .ref q2734 :: .ref q2735 :: .int 0 :: .ref q2736 :: .ref q2737 :: .ref q2738 :: .ref q2739 :: .int 0 :: .ref q2740 :: .ref q2741 :: .int 0 :: .int 0 :: .ref q2742 :: .ref q2743 :: .int 0 :: .ref q2744 :: .ref q2745 :: .ref q2746 :: .ref q2747 :: .int 0 :: .ref q2748 :: .ref q2749 :: .int 0 :: .ref q2750 :: .ref q2751 :: .int 0 :: .ref q2752 :: .ref q2753 :: .int 0 :: .int 0 :: .ref q2754 :: .ref q2755 :: .ref q2756 :: .int 0 :: [])))]) (w1 := []) hP hD [0, 1, 2, 3] [4] rfl rfl (by decide +kernel) (by decide +kernel) hk1 hFc hP1 hD1
  have hK := (hK.sub (tys' := [(k1176, .int)]) [0] rfl).app hK1
  generalize H1 = H at hP hS ⊢
  have hK : va_K (dC, dI) vwCl [(k1176, .int)] s := hK
  have hP : va_P (dC, dI) vwCl [(m0, .inr (12, (.ref q2712 :: .int 0 :: .int 0 :: .int 0 :: .int 0 :: .int 0 :: .int 0 :: .int 0 :: .int (-1) :: .int 0 :: .ref q2713 :: .ref q2714 :: .ref q2715 :: .ref q2716 :: .ref q2717 :: .ref q2718 :: .ref q2719 :: .ref q2720 :: .ref q2721 :: .ref q2722 :: .ref q2723 :: .ref q2724 :: .ref q2725 :: .int 0 :: .ref q2726 :: .ref q2727 :: .ref q2728 :: .int 0 :: .ref q2729 :: .ref q2730 :: .int 0 :: .ref q2731 :: .ref q2732 :: .ref q2733 :: .int 0 :: .int 0 :: .int 0 :: .ref q2734 :: .ref q2735 :: .int 0 :: .ref q2736 :: .ref q2737 :: .ref q2738 :: .ref q2739 :: .int 0 :: .ref q2740 :: .ref q2741 :: .int 0 :: .int 0 :: .ref q2742 :: .ref q2743 :: .int 0 :: .ref q2744 :: .ref q2745 :: .ref q2746 :: .ref q2747 :: .int 0 :: .ref q2748 :: .ref q2749 :: .int 0 :: .ref q2750 :: .ref q2751 :: .int 0 :: .ref q2752 :: .ref q2753 :: .int 0 :: .int 0 :: .ref q2754 :: .ref q2755 :: .ref q2756 :: .int 0 :: [])))] H := hP
  have hD : va_D A [(m0, .inr (12, (.ref q2712 :: .int 0 :: .int 0 :: .int 0 :: .int 0 :: .int 0 :: .int 0 :: .int 0 :: .int (-1) :: .int 0 :: .ref q2713 :: .ref q2714 :: .ref q2715 :: .ref q2716 :: .ref q2717 :: .ref q2718 :: .ref q2719 :: .ref q2720 :: .ref q2721 :: .ref q2722 :: .ref q2723 :: .ref q2724 :: .ref q2725 :: .int 0 :: .ref q2726 :: .ref q2727 :: .ref q2728 :: .int 0 :: .ref q2729 :: .ref q2730 :: .int 0 :: .ref q2731 :: .ref q2732 :: .ref q2733 :: .int 0 :: .int 0 :: .int 0 :: .ref q2734 :: .ref q2735 :: .int 0 :: .ref q2736 :: .ref q2737 :: .ref q2738 :: .ref q2739 :: .int 0 :: .ref q2740 :: .ref q2741 :: .int 0 :: .int 0 :: .ref q2742 :: .ref q2743 :: .int 0 :: .ref q2744 :: .ref q2745 :: .ref q2746 :: .ref q2747 :: .int 0 :: .ref q2748 :: .ref q2749 :: .int 0 :: .ref q2750 :: .ref q2751 :: .int 0 :: .ref q2752 :: .ref q2753 :: .int 0 :: .int 0 :: .ref q2754 :: .ref q2755 :: .ref q2756 :: .int 0 :: [])))] := hD
  rcases hw with ⟨c4293, hw⟩ | ⟨c4294, c4295, hw⟩ | ⟨c4296, c4297, hw⟩
  · skip
    obtain rfl : r4292 = (-2) := hw
    refine lv_aload_n hx hb dL_law_559 rfl (lv_at hl 1 rfl) ?_
    refine lv_aload_n hx hb dL_law_560 rfl (lv_at hl 3 rfl) ?_
    refine lv_iload_n hx hb dL_law_561 rfl (lv_at hl 0 rfl) ?_
    refine lv_iconst (v := 1) hx hb dL_law_562 (by decide +kernel) ?_
    refine lv_iadd hx hb dL_law_563 ?_
    refine lv_topi (fun x4298 ex4298 => ?_)
    obtain rfl : x4298 = 1 := ex4298.trans (by decide +kernel)
    refine va_sld hx hb hX hbl hbA hS (by unfold vp_in; decide) dL_law_564 ?_
    refine lv_topi (fun x4299 ex4299 => ?_)
    obtain rfl : y1 = x4299 := (ex4299.trans ey1).symm
    have hPc := hP.sub (ws' := [(m0, .inr (12, (.ref q2712 :: .int 0 :: .int 0 :: .int 0 :: .int 0 :: .int 0 :: .int 0 :: .int 0 :: .int (-1) :: .int 0 :: .ref q2713 :: .ref q2714 :: .ref q2715 :: .ref q2716 :: .ref q2717 :: .ref q2718 :: .ref q2719 :: .ref q2720 :: .ref q2721 :: .ref q2722 :: .ref q2723 :: .ref q2724 :: .ref q2725 :: .int 0 :: .ref q2726 :: .ref q2727 :: .ref q2728 :: .int 0 :: .ref q2729 :: .ref q2730 :: .int 0 :: .ref q2731 :: .ref q2732 :: .ref q2733 :: .int 0 :: .int 0 :: .int 0 :: .ref q2734 :: .ref q2735 :: .int 0 :: .ref q2736 :: .ref q2737 :: .ref q2738 :: .ref q2739 :: .int 0 :: .ref q2740 :: .ref q2741 :: .int 0 :: .int 0 :: .ref q2742 :: .ref q2743 :: .int 0 :: .ref q2744 :: .ref q2745 :: .ref q2746 :: .ref q2747 :: .int 0 :: .ref q2748 :: .ref q2749 :: .int 0 :: .ref q2750 :: .ref q2751 :: .int 0 :: .ref q2752 :: .ref q2753 :: .int 0 :: .int 0 :: .ref q2754 :: .ref q2755 :: .ref q2756 :: .int 0 :: [])))]) [0] rfl
    have hDc := hD.sub (ws' := [(m0, .inr (12, (.ref q2712 :: .int 0 :: .int 0 :: .int 0 :: .int 0 :: .int 0 :: .int 0 :: .int 0 :: .int (-1) :: .int 0 :: .ref q2713 :: .ref q2714 :: .ref q2715 :: .ref q2716 :: .ref q2717 :: .ref q2718 :: .ref q2719 :: .ref q2720 :: .ref q2721 :: .ref q2722 :: .ref q2723 :: .ref q2724 :: .ref q2725 :: .int 0 :: .ref q2726 :: .ref q2727 :: .ref q2728 :: .int 0 :: .ref q2729 :: .ref q2730 :: .int 0 :: .ref q2731 :: .ref q2732 :: .ref q2733 :: .int 0 :: .int 0 :: .int 0 :: .ref q2734 :: .ref q2735 :: .int 0 :: .ref q2736 :: .ref q2737 :: .ref q2738 :: .ref q2739 :: .int 0 :: .ref q2740 :: .ref q2741 :: .int 0 :: .int 0 :: .ref q2742 :: .ref q2743 :: .int 0 :: .ref q2744 :: .ref q2745 :: .ref q2746 :: .ref q2747 :: .int 0 :: .ref q2748 :: .ref q2749 :: .int 0 :: .ref q2750 :: .ref q2751 :: .int 0 :: .ref q2752 :: .ref q2753 :: .int 0 :: .int 0 :: .ref q2754 :: .ref q2755 :: .ref q2756 :: .int 0 :: [])))]) [0] (by decide +kernel) rfl
    have hKc := hK.sub (tys' := []) [] rfl
    have hFc := va_free (wc := [(m0, .inr (12, (.ref q2712 :: .int 0 :: .int 0 :: .int 0 :: .int 0 :: .int 0 :: .int 0 :: .int 0 :: .int (-1) :: .int 0 :: .ref q2713 :: .ref q2714 :: .ref q2715 :: .ref q2716 :: .ref q2717 :: .ref q2718 :: .ref q2719 :: .ref q2720 :: .ref q2721 :: .ref q2722 :: .ref q2723 :: .ref q2724 :: .ref q2725 :: .int 0 :: .ref q2726 :: .ref q2727 :: .ref q2728 :: .int 0 :: .ref q2729 :: .ref q2730 :: .int 0 :: .ref q2731 :: .ref q2732 :: .ref q2733 :: .int 0 :: .int 0 :: .int 0 :: .ref q2734 :: .ref q2735 :: .int 0 :: .ref q2736 :: .ref q2737 :: .ref q2738 :: .ref q2739 :: .int 0 :: .ref q2740 :: .ref q2741 :: .int 0 :: .int 0 :: .ref q2742 :: .ref q2743 :: .int 0 :: .ref q2744 :: .ref q2745 :: .ref q2746 :: .ref q2747 :: .int 0 :: .ref q2748 :: .ref q2749 :: .int 0 :: .ref q2750 :: .ref q2751 :: .int 0 :: .ref q2752 :: .ref q2753 :: .int 0 :: .int 0 :: .ref q2754 :: .ref q2755 :: .ref q2756 :: .int 0 :: [])))]) hD hS hA [0] rfl
    refine va_calli (va_runV (As := [.int y1]) (rest := [.int (-2)]) ⟨hx, hb, hml, hown, hts⟩ (c_X12_collisions_0 l dC dI H.size m0 q2712 q2713 q2714 q2715 q2716 q2717 q2718 q2719 q2720 q2721 q2722 q2723 q2724 q2725 q2726 q2727 q2728 q2729 q2730 q2731 q2732 q2733 q2734 q2735 q2736 q2737 q2738 q2739 q2740 q2741 q2742 q2743 q2744 q2745 q2746 q2747 q2748 q2749 q2750 q2751 q2752 q2753 q2754 q2755 q2756 y1) (cwV 1 hts gv_L_law_X12_collisions_76 rfl rfl rfl (by decide +kernel) ⟨Nat.le_of_ble_eq_true rfl, Nat.le_of_ble_eq_true rfl⟩) ⟨fun a U g mk q => by obtain ⟨q0, q1, qP, qK, qD⟩ := q; exact ⟨q0, q1, qP, va_K.moved (u := U) (U := U.calling g mk a) (Vm.Alike.refl U.vm) qK, qD⟩, va_recv hKc hPc (ci := 12) (q0 := 0) rfl rfl, fun U hU hW => ⟨rfl, by rw [hU], by rw [hU]; exact hPc, va_K.moved hW.alike hKc, hDc.weaken (fun _ _ _ _ => trivial)⟩⟩ rfl rfl hl.1 rfl (lv_room (Nat.le_of_ble_eq_true rfl)) dL_law_565 ⟨Nat.le_of_ble_eq_true rfl, Nat.le_of_ble_eq_true rfl⟩) hS (fun q _ h => hFc q h) hFc (fun r4312 u t H1 locs ht hvm hw hB hz1 hk1 hS => ?_)
    obtain ⟨hP1, hK1, hD1⟩ := hB
    rw [ht] at hP1
    have hK1 := va_K.moved hvm.symm hK1
    obtain ⟨hP, hD⟩ := va_join (wr := []) (w1 := []) hP hD [0] [] rfl rfl (by decide +kernel) (by decide +kernel) hk1 hFc hP1 hD1
    have hK := (hK.sub (tys' := [(k1176, .int)]) [0] rfl).app hK1
    generalize H1 = H at hP hS ⊢
    have hK : va_K (dC, dI) vwCl [(k1176, .int)] s := hK
    have hP : va_P (dC, dI) vwCl [] H := hP
    have hD : va_D A [] := hD
    rcases hw with ⟨c4313, hw⟩ | ⟨c4314, c4315, hw⟩ | ⟨c4316, c4317, hw⟩
    · skip
      obtain rfl : r4312 = (-2) := hw
      refine lv_icmp_eq (tgt := 833) hx hb dL_law_568 (by decide +kernel) (fun _ => ?_) (fun h => absurd (by decide +kernel) h)
      refine lv_iinc (v := 6) (lv' := [(3, .int 6), (2, .ref m0), (1, .ref x0), (0, .ref b)]) hx hb dL_law_833 hl (k := 0) rfl (by decide +kernel) (by decide +kernel) rfl (fun ls hl => ?_)
      refine lv_goto (tgt := 18) hx hb dL_law_836 (by decide +kernel) ?_
      refine lv_iload_n hx hb dL_law_18 rfl (lv_at hl 0 rfl) ?_
      refine lv_aload_n hx hb dL_law_19 rfl (lv_at hl 3 rfl) ?_
      refine va_slen hx hb hX hbl hbA hS dL_law_20 ?_
      refine lv_topi (fun x4318 ex4318 => ?_)
      obtain rfl : x4318 = 6 := ex4318.trans (by decide +kernel)
      refine lv_bipush (v := 6) hx hb dL_law_21 (by decide +kernel) ?_
      refine lv_isub hx hb dL_law_23 ?_
      refine lv_topi (fun x4319 ex4319 => ?_)
      obtain rfl : x4319 = 0 := ex4319.trans (by decide +kernel)
      refine lv_icmp_gt (tgt := 839) hx hb dL_law_24 (by decide +kernel) (fun _ => ?_) (fun h => absurd (by decide +kernel) h)
      refine lv_iconst (v := 1) hx hb dL_law_839 (by decide +kernel) ?_
      refine va_forget (fun q hq => hAl _ (hS.2.2 q hq)) ?_
      refine W.widen (k := 600000) (n := 7302250) (by omega) (by omega) ?_
      exact lw_ret hx hb hr hlocks dL_law_840
    · skip
      obtain rfl : r4312 = (-2) := hw
      exfalso
      simp only [z_lt, z_le, z_eqi, zl_m2, zl_m1, zl_0, zl_1, zl_2, zl_50, zl_100000] at c4293 c4314 c4315
      omega
    · skip
      obtain rfl : r4312 = 0 := hw
      exfalso
      simp only [z_lt, z_le, z_eqi, zl_m2, zl_m1, zl_0, zl_1, zl_2, zl_50, zl_100000] at c4293 c4316 c4317
      omega
  · skip
    obtain rfl : r4292 = (-2) := hw
    refine lv_aload_n hx hb dL_law_559 rfl (lv_at hl 1 rfl) ?_
    refine lv_aload_n hx hb dL_law_560 rfl (lv_at hl 3 rfl) ?_
    refine lv_iload_n hx hb dL_law_561 rfl (lv_at hl 0 rfl) ?_
    refine lv_iconst (v := 1) hx hb dL_law_562 (by decide +kernel) ?_
    refine lv_iadd hx hb dL_law_563 ?_
    refine lv_topi (fun x4320 ex4320 => ?_)
    obtain rfl : x4320 = 1 := ex4320.trans (by decide +kernel)
    refine va_sld hx hb hX hbl hbA hS (by unfold vp_in; decide) dL_law_564 ?_
    refine lv_topi (fun x4321 ex4321 => ?_)
    obtain rfl : y1 = x4321 := (ex4321.trans ey1).symm
    have hPc := hP.sub (ws' := [(m0, .inr (12, (.ref q2712 :: .int 0 :: .int 0 :: .int 0 :: .int 0 :: .int 0 :: .int 0 :: .int 0 :: .int (-1) :: .int 0 :: .ref q2713 :: .ref q2714 :: .ref q2715 :: .ref q2716 :: .ref q2717 :: .ref q2718 :: .ref q2719 :: .ref q2720 :: .ref q2721 :: .ref q2722 :: .ref q2723 :: .ref q2724 :: .ref q2725 :: .int 0 :: .ref q2726 :: .ref q2727 :: .ref q2728 :: .int 0 :: .ref q2729 :: .ref q2730 :: .int 0 :: .ref q2731 :: .ref q2732 :: .ref q2733 :: .int 0 :: .int 0 :: .int 0 :: .ref q2734 :: .ref q2735 :: .int 0 :: .ref q2736 :: .ref q2737 :: .ref q2738 :: .ref q2739 :: .int 0 :: .ref q2740 :: .ref q2741 :: .int 0 :: .int 0 :: .ref q2742 :: .ref q2743 :: .int 0 :: .ref q2744 :: .ref q2745 :: .ref q2746 :: .ref q2747 :: .int 0 :: .ref q2748 :: .ref q2749 :: .int 0 :: .ref q2750 :: .ref q2751 :: .int 0 :: .ref q2752 :: .ref q2753 :: .int 0 :: .int 0 :: .ref q2754 :: .ref q2755 :: .ref q2756 :: .int 0 :: [])))]) [0] rfl
    have hDc := hD.sub (ws' := [(m0, .inr (12, (.ref q2712 :: .int 0 :: .int 0 :: .int 0 :: .int 0 :: .int 0 :: .int 0 :: .int 0 :: .int (-1) :: .int 0 :: .ref q2713 :: .ref q2714 :: .ref q2715 :: .ref q2716 :: .ref q2717 :: .ref q2718 :: .ref q2719 :: .ref q2720 :: .ref q2721 :: .ref q2722 :: .ref q2723 :: .ref q2724 :: .ref q2725 :: .int 0 :: .ref q2726 :: .ref q2727 :: .ref q2728 :: .int 0 :: .ref q2729 :: .ref q2730 :: .int 0 :: .ref q2731 :: .ref q2732 :: .ref q2733 :: .int 0 :: .int 0 :: .int 0 :: .ref q2734 :: .ref q2735 :: .int 0 :: .ref q2736 :: .ref q2737 :: .ref q2738 :: .ref q2739 :: .int 0 :: .ref q2740 :: .ref q2741 :: .int 0 :: .int 0 :: .ref q2742 :: .ref q2743 :: .int 0 :: .ref q2744 :: .ref q2745 :: .ref q2746 :: .ref q2747 :: .int 0 :: .ref q2748 :: .ref q2749 :: .int 0 :: .ref q2750 :: .ref q2751 :: .int 0 :: .ref q2752 :: .ref q2753 :: .int 0 :: .int 0 :: .ref q2754 :: .ref q2755 :: .ref q2756 :: .int 0 :: [])))]) [0] (by decide +kernel) rfl
    have hKc := hK.sub (tys' := []) [] rfl
    have hFc := va_free (wc := [(m0, .inr (12, (.ref q2712 :: .int 0 :: .int 0 :: .int 0 :: .int 0 :: .int 0 :: .int 0 :: .int 0 :: .int (-1) :: .int 0 :: .ref q2713 :: .ref q2714 :: .ref q2715 :: .ref q2716 :: .ref q2717 :: .ref q2718 :: .ref q2719 :: .ref q2720 :: .ref q2721 :: .ref q2722 :: .ref q2723 :: .ref q2724 :: .ref q2725 :: .int 0 :: .ref q2726 :: .ref q2727 :: .ref q2728 :: .int 0 :: .ref q2729 :: .ref q2730 :: .int 0 :: .ref q2731 :: .ref q2732 :: .ref q2733 :: .int 0 :: .int 0 :: .int 0 :: .ref q2734 :: .ref q2735 :: .int 0 :: .ref q2736 :: .ref q2737 :: .ref q2738 :: .ref q2739 :: .int 0 :: .ref q2740 :: .ref q2741 :: .int 0 :: .int 0 :: .ref q2742 :: .ref q2743 :: .int 0 :: .ref q2744 :: .ref q2745 :: .ref q2746 :: .ref q2747 :: .int 0 :: .ref q2748 :: .ref q2749 :: .int 0 :: .ref q2750 :: .ref q2751 :: .int 0 :: .ref q2752 :: .ref q2753 :: .int 0 :: .int 0 :: .ref q2754 :: .ref q2755 :: .ref q2756 :: .int 0 :: [])))]) hD hS hA [0] rfl
    refine va_calli (va_runV (As := [.int y1]) (rest := [.int (-2)]) ⟨hx, hb, hml, hown, hts⟩ (c_X12_collisions_0 l dC dI H.size m0 q2712 q2713 q2714 q2715 q2716 q2717 q2718 q2719 q2720 q2721 q2722 q2723 q2724 q2725 q2726 q2727 q2728 q2729 q2730 q2731 q2732 q2733 q2734 q2735 q2736 q2737 q2738 q2739 q2740 q2741 q2742 q2743 q2744 q2745 q2746 q2747 q2748 q2749 q2750 q2751 q2752 q2753 q2754 q2755 q2756 y1) (cwV 1 hts gv_L_law_X12_collisions_76 rfl rfl rfl (by decide +kernel) ⟨Nat.le_of_ble_eq_true rfl, Nat.le_of_ble_eq_true rfl⟩) ⟨fun a U g mk q => by obtain ⟨q0, q1, qP, qK, qD⟩ := q; exact ⟨q0, q1, qP, va_K.moved (u := U) (U := U.calling g mk a) (Vm.Alike.refl U.vm) qK, qD⟩, va_recv hKc hPc (ci := 12) (q0 := 0) rfl rfl, fun U hU hW => ⟨rfl, by rw [hU], by rw [hU]; exact hPc, va_K.moved hW.alike hKc, hDc.weaken (fun _ _ _ _ => trivial)⟩⟩ rfl rfl hl.1 rfl (lv_room (Nat.le_of_ble_eq_true rfl)) dL_law_565 ⟨Nat.le_of_ble_eq_true rfl, Nat.le_of_ble_eq_true rfl⟩) hS (fun q _ h => hFc q h) hFc (fun r4334 u t H1 locs ht hvm hw hB hz1 hk1 hS => ?_)
    obtain ⟨hP1, hK1, hD1⟩ := hB
    rw [ht] at hP1
    have hK1 := va_K.moved hvm.symm hK1
    obtain ⟨hP, hD⟩ := va_join (wr := []) (w1 := []) hP hD [0] [] rfl rfl (by decide +kernel) (by decide +kernel) hk1 hFc hP1 hD1
    have hK := (hK.sub (tys' := [(k1176, .int)]) [0] rfl).app hK1
    generalize H1 = H at hP hS ⊢
    have hK : va_K (dC, dI) vwCl [(k1176, .int)] s := hK
    have hP : va_P (dC, dI) vwCl [] H := hP
    have hD : va_D A [] := hD
    rcases hw with ⟨c4335, hw⟩ | ⟨c4336, c4337, hw⟩ | ⟨c4338, c4339, hw⟩
    · skip
      obtain rfl : r4334 = (-2) := hw
      exfalso
      simp only [z_lt, z_le, z_eqi, zl_m2, zl_m1, zl_0, zl_1, zl_2, zl_50, zl_100000] at c4294 c4295 c4335
      omega
    · skip
      obtain rfl : r4334 = (-2) := hw
      refine lv_icmp_eq (tgt := 833) hx hb dL_law_568 (by decide +kernel) (fun _ => ?_) (fun h => absurd (by decide +kernel) h)
      refine lv_iinc (v := 6) (lv' := [(3, .int 6), (2, .ref m0), (1, .ref x0), (0, .ref b)]) hx hb dL_law_833 hl (k := 0) rfl (by decide +kernel) (by decide +kernel) rfl (fun ls hl => ?_)
      refine lv_goto (tgt := 18) hx hb dL_law_836 (by decide +kernel) ?_
      refine lv_iload_n hx hb dL_law_18 rfl (lv_at hl 0 rfl) ?_
      refine lv_aload_n hx hb dL_law_19 rfl (lv_at hl 3 rfl) ?_
      refine va_slen hx hb hX hbl hbA hS dL_law_20 ?_
      refine lv_topi (fun x4340 ex4340 => ?_)
      obtain rfl : x4340 = 6 := ex4340.trans (by decide +kernel)
      refine lv_bipush (v := 6) hx hb dL_law_21 (by decide +kernel) ?_
      refine lv_isub hx hb dL_law_23 ?_
      refine lv_topi (fun x4341 ex4341 => ?_)
      obtain rfl : x4341 = 0 := ex4341.trans (by decide +kernel)
      refine lv_icmp_gt (tgt := 839) hx hb dL_law_24 (by decide +kernel) (fun _ => ?_) (fun h => absurd (by decide +kernel) h)
      refine lv_iconst (v := 1) hx hb dL_law_839 (by decide +kernel) ?_
      refine va_forget (fun q hq => hAl _ (hS.2.2 q hq)) ?_
      refine W.widen (k := 600000) (n := 7302250) (by omega) (by omega) ?_
      exact lw_ret hx hb hr hlocks dL_law_840
    · skip
      obtain rfl : r4334 = 0 := hw
      exfalso
      simp only [z_lt, z_le, z_eqi, zl_m2, zl_m1, zl_0, zl_1, zl_2, zl_50, zl_100000] at c4294 c4295 c4338 c4339
      omega
  · skip
    obtain rfl : r4292 = 0 := hw
    obtain rfl : y1 = 0 := z_e (by simp only [z_lt, z_le, z_eqi, zl_m2, zl_m1, zl_0, zl_1, zl_2, zl_50, zl_100000] at c4296 c4297 ⊢; omega)
    refine lv_aload_n hx hb dL_law_559 rfl (lv_at hl 1 rfl) ?_
    refine lv_aload_n hx hb dL_law_560 rfl (lv_at hl 3 rfl) ?_
    refine lv_iload_n hx hb dL_law_561 rfl (lv_at hl 0 rfl) ?_
    refine lv_iconst (v := 1) hx hb dL_law_562 (by decide +kernel) ?_
    refine lv_iadd hx hb dL_law_563 ?_
    refine lv_topi (fun x4342 ex4342 => ?_)
    obtain rfl : x4342 = 1 := ex4342.trans (by decide +kernel)
    refine va_sld hx hb hX hbl hbA hS (by unfold vp_in; decide) dL_law_564 ?_
    refine lv_topi (fun x4343 ex4343 => ?_)
    obtain rfl : 0 = x4343 := (ex4343.trans ey1).symm
    have hPc := hP.sub (ws' := [(m0, .inr (12, (.ref q2712 :: .int 0 :: .int 0 :: .int 0 :: .int 0 :: .int 0 :: .int 0 :: .int 0 :: .int (-1) :: .int 0 :: .ref q2713 :: .ref q2714 :: .ref q2715 :: .ref q2716 :: .ref q2717 :: .ref q2718 :: .ref q2719 :: .ref q2720 :: .ref q2721 :: .ref q2722 :: .ref q2723 :: .ref q2724 :: .ref q2725 :: .int 0 :: .ref q2726 :: .ref q2727 :: .ref q2728 :: .int 0 :: .ref q2729 :: .ref q2730 :: .int 0 :: .ref q2731 :: .ref q2732 :: .ref q2733 :: .int 0 :: .int 0 :: .int 0 :: .ref q2734 :: .ref q2735 :: .int 0 :: .ref q2736 :: .ref q2737 :: .ref q2738 :: .ref q2739 :: .int 0 :: .ref q2740 :: .ref q2741 :: .int 0 :: .int 0 :: .ref q2742 :: .ref q2743 :: .int 0 :: .ref q2744 :: .ref q2745 :: .ref q2746 :: .ref q2747 :: .int 0 :: .ref q2748 :: .ref q2749 :: .int 0 :: .ref q2750 :: .ref q2751 :: .int 0 :: .ref q2752 :: .ref q2753 :: .int 0 :: .int 0 :: .ref q2754 :: .ref q2755 :: .ref q2756 :: .int 0 :: [])))]) [0] rfl
    have hDc := hD.sub (ws' := [(m0, .inr (12, (.ref q2712 :: .int 0 :: .int 0 :: .int 0 :: .int 0 :: .int 0 :: .int 0 :: .int 0 :: .int (-1) :: .int 0 :: .ref q2713 :: .ref q2714 :: .ref q2715 :: .ref q2716 :: .ref q2717 :: .ref q2718 :: .ref q2719 :: .ref q2720 :: .ref q2721 :: .ref q2722 :: .ref q2723 :: .ref q2724 :: .ref q2725 :: .int 0 :: .ref q2726 :: .ref q2727 :: .ref q2728 :: .int 0 :: .ref q2729 :: .ref q2730 :: .int 0 :: .ref q2731 :: .ref q2732 :: .ref q2733 :: .int 0 :: .int 0 :: .int 0 :: .ref q2734 :: .ref q2735 :: .int 0 :: .ref q2736 :: .ref q2737 :: .ref q2738 :: .ref q2739 :: .int 0 :: .ref q2740 :: .ref q2741 :: .int 0 :: .int 0 :: .ref q2742 :: .ref q2743 :: .int 0 :: .ref q2744 :: .ref q2745 :: .ref q2746 :: .ref q2747 :: .int 0 :: .ref q2748 :: .ref q2749 :: .int 0 :: .ref q2750 :: .ref q2751 :: .int 0 :: .ref q2752 :: .ref q2753 :: .int 0 :: .int 0 :: .ref q2754 :: .ref q2755 :: .ref q2756 :: .int 0 :: [])))]) [0] (by decide +kernel) rfl
    have hKc := hK.sub (tys' := []) [] rfl
    have hFc := va_free (wc := [(m0, .inr (12, (.ref q2712 :: .int 0 :: .int 0 :: .int 0 :: .int 0 :: .int 0 :: .int 0 :: .int 0 :: .int (-1) :: .int 0 :: .ref q2713 :: .ref q2714 :: .ref q2715 :: .ref q2716 :: .ref q2717 :: .ref q2718 :: .ref q2719 :: .ref q2720 :: .ref q2721 :: .ref q2722 :: .ref q2723 :: .ref q2724 :: .ref q2725 :: .int 0 :: .ref q2726 :: .ref q2727 :: .ref q2728 :: .int 0 :: .ref q2729 :: .ref q2730 :: .int 0 :: .ref q2731 :: .ref q2732 :: .ref q2733 :: .int 0 :: .int 0 :: .int 0 :: .ref q2734 :: .ref q2735 :: .int 0 :: .ref q2736 :: .ref q2737 :: .ref q2738 :: .ref q2739 :: .int 0 :: .ref q2740 :: .ref q2741 :: .int 0 :: .int 0 :: .ref q2742 :: .ref q2743 :: .int 0 :: .ref q2744 :: .ref q2745 :: .ref q2746 :: .ref q2747 :: .int 0 :: .ref q2748 :: .ref q2749 :: .int 0 :: .ref q2750 :: .ref q2751 :: .int 0 :: .ref q2752 :: .ref q2753 :: .int 0 :: .int 0 :: .ref q2754 :: .ref q2755 :: .ref q2756 :: .int 0 :: [])))]) hD hS hA [0] rfl
    refine va_calli (va_runV (As := [.int 0]) (rest := [.int 0]) ⟨hx, hb, hml, hown, hts⟩ (c_X12_collisions_1 l dC dI H.size m0 q2712 q2713 q2714 q2715 q2716 q2717 q2718 q2719 q2720 q2721 q2722 q2723 q2724 q2725 q2726 q2727 q2728 q2729 q2730 q2731 q2732 q2733 q2734 q2735 q2736 q2737 q2738 q2739 q2740 q2741 q2742 q2743 q2744 q2745 q2746 q2747 q2748 q2749 q2750 q2751 q2752 q2753 q2754 q2755 q2756) (cwV 1 hts gv_L_law_X12_collisions_76 rfl rfl rfl (by decide +kernel) ⟨Nat.le_of_ble_eq_true rfl, Nat.le_of_ble_eq_true rfl⟩) ⟨fun a U g mk q => by obtain ⟨q0, q1, qP, qK, qD⟩ := q; exact ⟨q0, q1, qP, va_K.moved (u := U) (U := U.calling g mk a) (Vm.Alike.refl U.vm) qK, qD⟩, va_recv hKc hPc (ci := 12) (q0 := 0) rfl rfl, fun U hU hW => ⟨rfl, by rw [hU], by rw [hU]; exact hPc, va_K.moved hW.alike hKc, hDc.weaken (fun _ _ _ _ => trivial)⟩⟩ rfl rfl hl.1 rfl (lv_room (Nat.le_of_ble_eq_true rfl)) dL_law_565 ⟨Nat.le_of_ble_eq_true rfl, Nat.le_of_ble_eq_true rfl⟩) hS (fun q _ h => hFc q h) hFc (fun r4347 u t H1 locs ht hvm hw hB hz1 hk1 hS => ?_)
    obtain ⟨hP1, hK1, hD1⟩ := hB
    rw [ht] at hP1
    have hK1 := va_K.moved hvm.symm hK1
    obtain ⟨hP, hD⟩ := va_join (wr := []) (w1 := []) hP hD [0] [] rfl rfl (by decide +kernel) (by decide +kernel) hk1 hFc hP1 hD1
    have hK := (hK.sub (tys' := [(k1176, .int)]) [0] rfl).app hK1
    generalize H1 = H at hP hS ⊢
    have hK : va_K (dC, dI) vwCl [(k1176, .int)] s := hK
    have hP : va_P (dC, dI) vwCl [] H := hP
    have hD : va_D A [] := hD
    obtain rfl : r4347 = 0 := hw
    refine lv_icmp_eq (tgt := 833) hx hb dL_law_568 (by decide +kernel) (fun _ => ?_) (fun h => absurd (by decide +kernel) h)
    refine lv_iinc (v := 6) (lv' := [(3, .int 6), (2, .ref m0), (1, .ref x0), (0, .ref b)]) hx hb dL_law_833 hl (k := 0) rfl (by decide +kernel) (by decide +kernel) rfl (fun ls hl => ?_)
    refine lv_goto (tgt := 18) hx hb dL_law_836 (by decide +kernel) ?_
    refine lv_iload_n hx hb dL_law_18 rfl (lv_at hl 0 rfl) ?_
    refine lv_aload_n hx hb dL_law_19 rfl (lv_at hl 3 rfl) ?_
    refine va_slen hx hb hX hbl hbA hS dL_law_20 ?_
    refine lv_topi (fun x4348 ex4348 => ?_)
    obtain rfl : x4348 = 6 := ex4348.trans (by decide +kernel)
    refine lv_bipush (v := 6) hx hb dL_law_21 (by decide +kernel) ?_
    refine lv_isub hx hb dL_law_23 ?_
    refine lv_topi (fun x4349 ex4349 => ?_)
    obtain rfl : x4349 = 0 := ex4349.trans (by decide +kernel)
    refine lv_icmp_gt (tgt := 839) hx hb dL_law_24 (by decide +kernel) (fun _ => ?_) (fun h => absurd (by decide +kernel) h)
    refine lv_iconst (v := 1) hx hb dL_law_839 (by decide +kernel) ?_
    refine va_forget (fun q hq => hAl _ (hS.2.2 q hq)) ?_
    refine W.widen (k := 600000) (n := 7302250) (by omega) (by omega) ?_
    exact lw_ret hx hb hr hlocks dL_law_840
set_option maxHeartbeats 4000000 in
set_option maxRecDepth 100000 in
theorem law_15 {p : Program} {e : Env} {s : State} {m : MethodId} {below : List Frame} {meth : Method} {c : Code} (l : Launch) {b : Nat} {xs : Nat → Int32} {A : Nat → Prop} {dC : Nat → ClassId} {dI : Nat → Nat → Nat} (C0 : lw_At p s m meth c b 6 xs) (hA : ∀ q : Nat, s.heap.size ≤ q → A q) (hbA : ¬ A b) (hAl : ∀ q : Nat, A q → s.heap.size ≤ q) (hE : EnvOK s) {y1 : Int32} (ey1 : xs (Int32.toNatClampNeg 1) = y1) {x0 : Nat} {q1111 : Nat} {q1112 : Nat} {q1113 : Nat} {q1114 : Nat} {q1115 : Nat} {q1116 : Nat} {q1117 : Nat} {q1118 : Nat} {q1119 : Nat} {q1120 : Nat} {q1121 : Nat} {q1122 : Nat} {q1123 : Nat} {m0 : Nat} {q2712 : Nat} {q2713 : Nat} {q2714 : Nat} {q2715 : Nat} {q2716 : Nat} {q2717 : Nat} {q2718 : Nat} {q2719 : Nat} {q2720 : Nat} {q2721 : Nat} {q2722 : Nat} {q2723 : Nat} {q2724 : Nat} {q2725 : Nat} {q2726 : Nat} {q2727 : Nat} {q2728 : Nat} {q2729 : Nat} {q2730 : Nat} {q2731 : Nat} {q2732 : Nat} {q2733 : Nat} {q2734 : Nat} {q2735 : Nat} {q2736 : Nat} {q2737 : Nat} {q2738 : Nat} {q2739 : Nat} {q2740 : Nat} {q2741 : Nat} {q2742 : Nat} {q2743 : Nat} {q2744 : Nat} {q2745 : Nat} {q2746 : Nat} {q2747 : Nat} {q2748 : Nat} {q2749 : Nat} {q2750 : Nat} {q2751 : Nat} {q2752 : Nat} {q2753 : Nat} {q2754 : Nat} {q2755 : Nat} {q2756 : Nat} {H : Heap} {locs : List Loc} {ls : Array Slot} (hK : va_K (dC, dI) vwCl [] s) (hP : va_P (dC, dI) vwCl [(x0, .inr (11, [.ref q1111, .ref q1112, .int 0, .int (-1), .ref q1113, .ref q1114, .ref q1115, .ref q1116, .ref q1117, .ref q1118, .ref q1119, .int 0, .ref q1120, .int 0, .ref q1121, .ref q1122, .ref q1123])), (m0, .inr (12, (.ref q2712 :: .int 0 :: .int 0 :: .int 0 :: .int 0 :: .int 0 :: .int 0 :: .int 0 :: .int (-1) :: .int 0 :: .ref q2713 :: .ref q2714 :: .ref q2715 :: .ref q2716 :: .ref q2717 :: .ref q2718 :: .ref q2719 :: .ref q2720 :: .ref q2721 :: .ref q2722 :: .ref q2723 :: .ref q2724 :: .ref q2725 :: .int 0 :: .ref q2726 :: .ref q2727 :: .ref q2728 :: .int 0 :: .ref q2729 :: .ref q2730 :: .int 0 :: .ref q2731 :: .ref q2732 :: .ref q2733 :: .int 0 :: .int 0 :: .int 0 :: .ref q2734 :: .ref q2735 :: .int 0 :: .ref q2736 :: .ref q2737 :: .ref q2738 :: .ref q2739 :: .int 0 :: .ref q2740 :: .ref q2741 :: .int 0 :: .int 0 :: .ref q2742 :: .ref q2743 :: .int 0 :: .ref q2744 :: .ref q2745 :: .ref q2746 :: .ref q2747 :: .int 0 :: .ref q2748 :: .ref q2749 :: .int 0 :: .ref q2750 :: .ref q2751 :: .int 0 :: .ref q2752 :: .ref q2753 :: .int 0 :: .int 0 :: .ref q2754 :: .ref q2755 :: .ref q2756 :: .int 0 :: [])))] H) (hD : va_D A [(x0, .inr (11, [.ref q1111, .ref q1112, .int 0, .int (-1), .ref q1113, .ref q1114, .ref q1115, .ref q1116, .ref q1117, .ref q1118, .ref q1119, .int 0, .ref q1120, .int 0, .ref q1121, .ref q1122, .ref q1123])), (m0, .inr (12, (.ref q2712 :: .int 0 :: .int 0 :: .int 0 :: .int 0 :: .int 0 :: .int 0 :: .int 0 :: .int (-1) :: .int 0 :: .ref q2713 :: .ref q2714 :: .ref q2715 :: .ref q2716 :: .ref q2717 :: .ref q2718 :: .ref q2719 :: .ref q2720 :: .ref q2721 :: .ref q2722 :: .ref q2723 :: .ref q2724 :: .ref q2725 :: .int 0 :: .ref q2726 :: .ref q2727 :: .ref q2728 :: .int 0 :: .ref q2729 :: .ref q2730 :: .int 0 :: .ref q2731 :: .ref q2732 :: .ref q2733 :: .int 0 :: .int 0 :: .int 0 :: .ref q2734 :: .ref q2735 :: .int 0 :: .ref q2736 :: .ref q2737 :: .ref q2738 :: .ref q2739 :: .int 0 :: .ref q2740 :: .ref q2741 :: .int 0 :: .int 0 :: .ref q2742 :: .ref q2743 :: .int 0 :: .ref q2744 :: .ref q2745 :: .ref q2746 :: .ref q2747 :: .int 0 :: .ref q2748 :: .ref q2749 :: .int 0 :: .ref q2750 :: .ref q2751 :: .int 0 :: .ref q2752 :: .ref q2753 :: .int 0 :: .int 0 :: .ref q2754 :: .ref q2755 :: .ref q2756 :: .int 0 :: [])))]) (hS : va_S A s.heap H locs) (hl : lv_has ls 4 [(3, .int 0), (2, .ref m0), (1, .ref x0), (0, .ref b)]) : W p l e room_1 s m #[Value.ref b] below meth c H locs 126 277922 (lw_Z below #[Value.ref b] s) (F0 m 573 ls []) := by
  obtain ⟨hx, hb, hr, hml, hown, hts, hX, hbl, hlocks, hgv⟩ := C0
  have hts := fun w h => hts w (wmL_law_in w h)
  have hS : va_S A s.heap H locs := hS
  refine lv_aload_n hx hb dL_law_573 rfl (lv_at hl 2 rfl) ?_
  refine lv_aload_n hx hb dL_law_574 rfl (lv_at hl 3 rfl) ?_
  refine lv_iload_n hx hb dL_law_575 rfl (lv_at hl 0 rfl) ?_
  refine lv_iconst (v := 1) hx hb dL_law_576 (by decide +kernel) ?_
  refine lv_iadd hx hb dL_law_577 ?_
  refine lv_topi (fun x4350 ex4350 => ?_)
  obtain rfl : x4350 = 1 := ex4350.trans (by decide +kernel)
  refine va_sld hx hb hX hbl hbA hS (by unfold vp_in; decide) dL_law_578 ?_
  refine lv_topi (fun x4351 ex4351 => ?_)
  obtain rfl : y1 = x4351 := (ex4351.trans ey1).symm
  have hPc := hP.sub (ws' := [(x0, .inr (11, [.ref q1111, .ref q1112, .int 0, .int (-1), .ref q1113, .ref q1114, .ref q1115, .ref q1116, .ref q1117, .ref q1118, .ref q1119, .int 0, .ref q1120, .int 0, .ref q1121, .ref q1122, .ref q1123]))]) [0] rfl
  have hDc := hD.sub (ws' := [(x0, .inr (11, [.ref q1111, .ref q1112, .int 0, .int (-1), .ref q1113, .ref q1114, .ref q1115, .ref q1116, .ref q1117, .ref q1118, .ref q1119, .int 0, .ref q1120, .int 0, .ref q1121, .ref q1122, .ref q1123]))]) [0] (by decide +kernel) rfl
  have hKc := hK.sub (tys' := []) [] rfl
  have hFc := va_free (wc := [(x0, .inr (11, [.ref q1111, .ref q1112, .int 0, .int (-1), .ref q1113, .ref q1114, .ref q1115, .ref q1116, .ref q1117, .ref q1118, .ref q1119, .int 0, .ref q1120, .int 0, .ref q1121, .ref q1122, .ref q1123]))]) hD hS hA [0] rfl
  refine va_calli (va_runV (As := [.int y1]) (rest := []) ⟨hx, hb, hml, hown, hts⟩ (c_X11_collision_0 l dC dI H.size x0 q1111 q1112 q1113 q1114 q1115 q1116 q1117 q1118 q1119 q1120 q1121 q1122 q1123 y1) (cwV 1 hts gv_L_law_X11_collision_77 rfl rfl rfl (by decide +kernel) ⟨Nat.le_of_ble_eq_true rfl, Nat.le_of_ble_eq_true rfl⟩) ⟨fun a U g mk q => by obtain ⟨q0, q1, qP, qK, qD⟩ := q; exact ⟨q0, q1, qP, va_K.moved (u := U) (U := U.calling g mk a) (Vm.Alike.refl U.vm) qK, qD⟩, va_recv hKc hPc (ci := 11) (q0 := 0) rfl rfl, fun U hU hW => ⟨rfl, by rw [hU], by rw [hU]; exact hPc, va_K.moved hW.alike hKc, hDc.weaken (fun _ _ _ _ => trivial)⟩⟩ rfl rfl hl.1 rfl (lv_room (Nat.le_of_ble_eq_true rfl)) dL_law_579 ⟨Nat.le_of_ble_eq_true rfl, Nat.le_of_ble_eq_true rfl⟩) hS (fun q _ h => hFc q h) hFc (fun r4354 u t H1 locs ht hvm hw hB hz1 hk1 hS => ?_)
  obtain ⟨hP1, hK1, hD1⟩ := hB
  rw [ht] at hP1
  have hK1 := va_K.moved hvm.symm hK1
  obtain ⟨hP, hD⟩ := va_join (wr := [(m0, .inr (12, (.ref q2712 :: .int 0 :: .int 0 :: .int 0 :: .int 0 :: .int 0 :: .int 0 :: .int 0 :: .int (-1) :: .int 0 :: .ref q2713 :: .ref q2714 :: .ref q2715 :: .ref q2716 :: .ref q2717 :: .ref q2718 :: .ref q2719 :: .ref q2720 :: .ref q2721 :: .ref q2722 :: .ref q2723 :: .ref q2724 :: .ref q2725 :: .int 0 :: .ref q2726 :: .ref q2727 :: .ref q2728 :: .int 0 :: .ref q2729 :: .ref q2730 :: .int 0 :: .ref q2731 :: .ref q2732 :: .ref q2733 :: .int 0 :: .int 0 :: .int 0 :: .ref q2734 :: .ref q2735 :: .int 0 :: .ref q2736 :: .ref q2737 :: .ref q2738 :: .ref q2739 :: .int 0 :: .ref q2740 :: .ref q2741 :: .int 0 :: .int 0 :: .ref q2742 :: .ref q2743 :: .int 0 :: .ref q2744 :: .ref q2745 :: .ref q2746 :: .ref q2747 :: .int 0 :: .ref q2748 :: .ref q2749 :: .int 0 :: .ref q2750 :: .ref q2751 :: .int 0 :: .ref q2752 :: .ref q2753 :: .int 0 :: .int 0 :: .ref q2754 :: .ref q2755 :: .ref q2756 :: .int 0 :: [])))]) (w1 := []) hP hD [0] [1] rfl rfl (by decide +kernel) (by decide +kernel) hk1 hFc hP1 hD1
  have hK := (hK.sub (tys' := []) [] rfl).app hK1
  generalize H1 = H at hP hS ⊢
  have hK : va_K (dC, dI) vwCl [] s := hK
  have hP : va_P (dC, dI) vwCl [(m0, .inr (12, (.ref q2712 :: .int 0 :: .int 0 :: .int 0 :: .int 0 :: .int 0 :: .int 0 :: .int 0 :: .int (-1) :: .int 0 :: .ref q2713 :: .ref q2714 :: .ref q2715 :: .ref q2716 :: .ref q2717 :: .ref q2718 :: .ref q2719 :: .ref q2720 :: .ref q2721 :: .ref q2722 :: .ref q2723 :: .ref q2724 :: .ref q2725 :: .int 0 :: .ref q2726 :: .ref q2727 :: .ref q2728 :: .int 0 :: .ref q2729 :: .ref q2730 :: .int 0 :: .ref q2731 :: .ref q2732 :: .ref q2733 :: .int 0 :: .int 0 :: .int 0 :: .ref q2734 :: .ref q2735 :: .int 0 :: .ref q2736 :: .ref q2737 :: .ref q2738 :: .ref q2739 :: .int 0 :: .ref q2740 :: .ref q2741 :: .int 0 :: .int 0 :: .ref q2742 :: .ref q2743 :: .int 0 :: .ref q2744 :: .ref q2745 :: .ref q2746 :: .ref q2747 :: .int 0 :: .ref q2748 :: .ref q2749 :: .int 0 :: .ref q2750 :: .ref q2751 :: .int 0 :: .ref q2752 :: .ref q2753 :: .int 0 :: .int 0 :: .ref q2754 :: .ref q2755 :: .ref q2756 :: .int 0 :: [])))] H := hP
  have hD : va_D A [(m0, .inr (12, (.ref q2712 :: .int 0 :: .int 0 :: .int 0 :: .int 0 :: .int 0 :: .int 0 :: .int 0 :: .int (-1) :: .int 0 :: .ref q2713 :: .ref q2714 :: .ref q2715 :: .ref q2716 :: .ref q2717 :: .ref q2718 :: .ref q2719 :: .ref q2720 :: .ref q2721 :: .ref q2722 :: .ref q2723 :: .ref q2724 :: .ref q2725 :: .int 0 :: .ref q2726 :: .ref q2727 :: .ref q2728 :: .int 0 :: .ref q2729 :: .ref q2730 :: .int 0 :: .ref q2731 :: .ref q2732 :: .ref q2733 :: .int 0 :: .int 0 :: .int 0 :: .ref q2734 :: .ref q2735 :: .int 0 :: .ref q2736 :: .ref q2737 :: .ref q2738 :: .ref q2739 :: .int 0 :: .ref q2740 :: .ref q2741 :: .int 0 :: .int 0 :: .ref q2742 :: .ref q2743 :: .int 0 :: .ref q2744 :: .ref q2745 :: .ref q2746 :: .ref q2747 :: .int 0 :: .ref q2748 :: .ref q2749 :: .int 0 :: .ref q2750 :: .ref q2751 :: .int 0 :: .ref q2752 :: .ref q2753 :: .int 0 :: .int 0 :: .ref q2754 :: .ref q2755 :: .ref q2756 :: .int 0 :: [])))] := hD
  obtain rfl : r4354 = (-1) := hw
  refine lv_aload_n hx hb dL_law_582 rfl (lv_at hl 1 rfl) ?_
  refine lv_aload_n hx hb dL_law_583 rfl (lv_at hl 3 rfl) ?_
  refine lv_iload_n hx hb dL_law_584 rfl (lv_at hl 0 rfl) ?_
  refine lv_iconst (v := 1) hx hb dL_law_585 (by decide +kernel) ?_
  refine lv_iadd hx hb dL_law_586 ?_
  refine lv_topi (fun x4355 ex4355 => ?_)
  obtain rfl : x4355 = 1 := ex4355.trans (by decide +kernel)
  refine va_sld hx hb hX hbl hbA hS (by unfold vp_in; decide) dL_law_587 ?_
  refine lv_topi (fun x4356 ex4356 => ?_)
  obtain rfl : y1 = x4356 := (ex4356.trans ey1).symm
  have hPc := hP.sub (ws' := [(m0, .inr (12, (.ref q2712 :: .int 0 :: .int 0 :: .int 0 :: .int 0 :: .int 0 :: .int 0 :: .int 0 :: .int (-1) :: .int 0 :: .ref q2713 :: .ref q2714 :: .ref q2715 :: .ref q2716 :: .ref q2717 :: .ref q2718 :: .ref q2719 :: .ref q2720 :: .ref q2721 :: .ref q2722 :: .ref q2723 :: .ref q2724 :: .ref q2725 :: .int 0 :: .ref q2726 :: .ref q2727 :: .ref q2728 :: .int 0 :: .ref q2729 :: .ref q2730 :: .int 0 :: .ref q2731 :: .ref q2732 :: .ref q2733 :: .int 0 :: .int 0 :: .int 0 :: .ref q2734 :: .ref q2735 :: .int 0 :: .ref q2736 :: .ref q2737 :: .ref q2738 :: .ref q2739 :: .int 0 :: .ref q2740 :: .ref q2741 :: .int 0 :: .int 0 :: .ref q2742 :: .ref q2743 :: .int 0 :: .ref q2744 :: .ref q2745 :: .ref q2746 :: .ref q2747 :: .int 0 :: .ref q2748 :: .ref q2749 :: .int 0 :: .ref q2750 :: .ref q2751 :: .int 0 :: .ref q2752 :: .ref q2753 :: .int 0 :: .int 0 :: .ref q2754 :: .ref q2755 :: .ref q2756 :: .int 0 :: [])))]) [0] rfl
  have hDc := hD.sub (ws' := [(m0, .inr (12, (.ref q2712 :: .int 0 :: .int 0 :: .int 0 :: .int 0 :: .int 0 :: .int 0 :: .int 0 :: .int (-1) :: .int 0 :: .ref q2713 :: .ref q2714 :: .ref q2715 :: .ref q2716 :: .ref q2717 :: .ref q2718 :: .ref q2719 :: .ref q2720 :: .ref q2721 :: .ref q2722 :: .ref q2723 :: .ref q2724 :: .ref q2725 :: .int 0 :: .ref q2726 :: .ref q2727 :: .ref q2728 :: .int 0 :: .ref q2729 :: .ref q2730 :: .int 0 :: .ref q2731 :: .ref q2732 :: .ref q2733 :: .int 0 :: .int 0 :: .int 0 :: .ref q2734 :: .ref q2735 :: .int 0 :: .ref q2736 :: .ref q2737 :: .ref q2738 :: .ref q2739 :: .int 0 :: .ref q2740 :: .ref q2741 :: .int 0 :: .int 0 :: .ref q2742 :: .ref q2743 :: .int 0 :: .ref q2744 :: .ref q2745 :: .ref q2746 :: .ref q2747 :: .int 0 :: .ref q2748 :: .ref q2749 :: .int 0 :: .ref q2750 :: .ref q2751 :: .int 0 :: .ref q2752 :: .ref q2753 :: .int 0 :: .int 0 :: .ref q2754 :: .ref q2755 :: .ref q2756 :: .int 0 :: [])))]) [0] (by decide +kernel) rfl
  have hKc := hK.sub (tys' := []) [] rfl
  have hFc := va_free (wc := [(m0, .inr (12, (.ref q2712 :: .int 0 :: .int 0 :: .int 0 :: .int 0 :: .int 0 :: .int 0 :: .int 0 :: .int (-1) :: .int 0 :: .ref q2713 :: .ref q2714 :: .ref q2715 :: .ref q2716 :: .ref q2717 :: .ref q2718 :: .ref q2719 :: .ref q2720 :: .ref q2721 :: .ref q2722 :: .ref q2723 :: .ref q2724 :: .ref q2725 :: .int 0 :: .ref q2726 :: .ref q2727 :: .ref q2728 :: .int 0 :: .ref q2729 :: .ref q2730 :: .int 0 :: .ref q2731 :: .ref q2732 :: .ref q2733 :: .int 0 :: .int 0 :: .int 0 :: .ref q2734 :: .ref q2735 :: .int 0 :: .ref q2736 :: .ref q2737 :: .ref q2738 :: .ref q2739 :: .int 0 :: .ref q2740 :: .ref q2741 :: .int 0 :: .int 0 :: .ref q2742 :: .ref q2743 :: .int 0 :: .ref q2744 :: .ref q2745 :: .ref q2746 :: .ref q2747 :: .int 0 :: .ref q2748 :: .ref q2749 :: .int 0 :: .ref q2750 :: .ref q2751 :: .int 0 :: .ref q2752 :: .ref q2753 :: .int 0 :: .int 0 :: .ref q2754 :: .ref q2755 :: .ref q2756 :: .int 0 :: [])))]) hD hS hA [0] rfl
  refine va_calli (va_runV (As := [.int y1]) (rest := [.int (-1)]) ⟨hx, hb, hml, hown, hts⟩ (c_X12_collision_0 l dC dI H.size m0 q2712 q2713 q2714 q2715 q2716 q2717 q2718 q2719 q2720 q2721 q2722 q2723 q2724 q2725 q2726 q2727 q2728 q2729 q2730 q2731 q2732 q2733 q2734 q2735 q2736 q2737 q2738 q2739 q2740 q2741 q2742 q2743 q2744 q2745 q2746 q2747 q2748 q2749 q2750 q2751 q2752 q2753 q2754 q2755 q2756 y1) (cwV 1 hts gv_L_law_X12_collision_80 rfl rfl rfl (by decide +kernel) ⟨Nat.le_of_ble_eq_true rfl, Nat.le_of_ble_eq_true rfl⟩) ⟨fun a U g mk q => by obtain ⟨q0, q1, qP, qK, qD⟩ := q; exact ⟨q0, q1, qP, va_K.moved (u := U) (U := U.calling g mk a) (Vm.Alike.refl U.vm) qK, qD⟩, va_recv hKc hPc (ci := 12) (q0 := 0) rfl rfl, fun U hU hW => ⟨rfl, by rw [hU], by rw [hU]; exact hPc, va_K.moved hW.alike hKc, hDc.weaken (fun _ _ _ _ => trivial)⟩⟩ rfl rfl hl.1 rfl (lv_room (Nat.le_of_ble_eq_true rfl)) dL_law_588 ⟨Nat.le_of_ble_eq_true rfl, Nat.le_of_ble_eq_true rfl⟩) hS (fun q _ h => hFc q h) hFc (fun r4360 u t H1 locs ht hvm hw hB hz1 hk1 hS => ?_)
  obtain ⟨hP1, hK1, hD1⟩ := hB
  rw [ht] at hP1
  have hK1 := va_K.moved hvm.symm hK1
  obtain ⟨hP, hD⟩ := va_join (wr := []) (w1 := []) hP hD [0] [] rfl rfl (by decide +kernel) (by decide +kernel) hk1 hFc hP1 hD1
  have hK := (hK.sub (tys' := []) [] rfl).app hK1
  generalize H1 = H at hP hS ⊢
  have hK : va_K (dC, dI) vwCl [] s := hK
  have hP : va_P (dC, dI) vwCl [] H := hP
  have hD : va_D A [] := hD
  obtain rfl : r4360 = (-1) := hw
  refine lv_icmp_eq (tgt := 833) hx hb dL_law_591 (by decide +kernel) (fun _ => ?_) (fun h => absurd (by decide +kernel) h)
  refine lv_iinc (v := 6) (lv' := [(3, .int 6), (2, .ref m0), (1, .ref x0), (0, .ref b)]) hx hb dL_law_833 hl (k := 0) rfl (by decide +kernel) (by decide +kernel) rfl (fun ls hl => ?_)
  refine lv_goto (tgt := 18) hx hb dL_law_836 (by decide +kernel) ?_
  refine lv_iload_n hx hb dL_law_18 rfl (lv_at hl 0 rfl) ?_
  refine lv_aload_n hx hb dL_law_19 rfl (lv_at hl 3 rfl) ?_
  refine va_slen hx hb hX hbl hbA hS dL_law_20 ?_
  refine lv_topi (fun x4361 ex4361 => ?_)
  obtain rfl : x4361 = 6 := ex4361.trans (by decide +kernel)
  refine lv_bipush (v := 6) hx hb dL_law_21 (by decide +kernel) ?_
  refine lv_isub hx hb dL_law_23 ?_
  refine lv_topi (fun x4362 ex4362 => ?_)
  obtain rfl : x4362 = 0 := ex4362.trans (by decide +kernel)
  refine lv_icmp_gt (tgt := 839) hx hb dL_law_24 (by decide +kernel) (fun _ => ?_) (fun h => absurd (by decide +kernel) h)
  refine lv_iconst (v := 1) hx hb dL_law_839 (by decide +kernel) ?_
  refine va_forget (fun q hq => hAl _ (hS.2.2 q hq)) ?_
  refine W.widen (k := 600000) (n := 7302250) (by omega) (by omega) ?_
  exact lw_ret hx hb hr hlocks dL_law_840
set_option maxHeartbeats 4000000 in
set_option maxRecDepth 100000 in
theorem law_16 {p : Program} {e : Env} {s : State} {m : MethodId} {below : List Frame} {meth : Method} {c : Code} (l : Launch) {b : Nat} {xs : Nat → Int32} {A : Nat → Prop} {dC : Nat → ClassId} {dI : Nat → Nat → Nat} (C0 : lw_At p s m meth c b 6 xs) (hA : ∀ q : Nat, s.heap.size ≤ q → A q) (hbA : ¬ A b) (hAl : ∀ q : Nat, A q → s.heap.size ≤ q) (hE : EnvOK s) {y1 : Int32} (ey1 : xs (Int32.toNatClampNeg 1) = y1) {k1176 : ClassId} {x0 : Nat} {q1111 : Nat} {q1112 : Nat} {q1113 : Nat} {q1114 : Nat} {q1115 : Nat} {q1116 : Nat} {q1117 : Nat} {q1118 : Nat} {q1119 : Nat} {q1120 : Nat} {q1121 : Nat} {q1122 : Nat} {q1123 : Nat} {q1168 : Nat} {q1169 : Nat} {q1170 : Nat} {q1171 : Nat} {q1172 : Nat} {q1173 : Nat} {q1174 : Nat} {q1175 : Nat} {m0 : Nat} {q2712 : Nat} {q2713 : Nat} {q2714 : Nat} {q2715 : Nat} {q2716 : Nat} {q2717 : Nat} {q2718 : Nat} {q2719 : Nat} {q2720 : Nat} {q2721 : Nat} {q2722 : Nat} {q2723 : Nat} {q2724 : Nat} {q2725 : Nat} {q2726 : Nat} {q2727 : Nat} {q2728 : Nat} {q2729 : Nat} {q2730 : Nat} {q2731 : Nat} {q2732 : Nat} {q2733 : Nat} {q2734 : Nat} {q2735 : Nat} {q2736 : Nat} {q2737 : Nat} {q2738 : Nat} {q2739 : Nat} {q2740 : Nat} {q2741 : Nat} {q2742 : Nat} {q2743 : Nat} {q2744 : Nat} {q2745 : Nat} {q2746 : Nat} {q2747 : Nat} {q2748 : Nat} {q2749 : Nat} {q2750 : Nat} {q2751 : Nat} {q2752 : Nat} {q2753 : Nat} {q2754 : Nat} {q2755 : Nat} {q2756 : Nat} {H : Heap} {locs : List Loc} {ls : Array Slot} (hK : va_K (dC, dI) vwCl [(k1176, .int)] s) (hP : va_P (dC, dI) vwCl [(x0, .inr (11, [.ref q1111, .ref q1112, .int 0, .int (-1), .ref q1113, .ref q1114, .ref q1115, .ref q1116, .ref q1117, .ref q1118, .ref q1119, .int 0, .ref q1120, .int 0, .ref q1121, .ref q1122, .ref q1123])), (q1118, .inr (0, [.ref q1168, .ref q1169, .ref q1170, .ref q1171, .ref q1172, .ref q1173])), (q1171, .inl (k1176, 7, .inl (fun _ => 0))), (q1168, .inr (10, [.int 24, .ref q1174, .ref q1175, .int 0])), (m0, .inr (12, (.ref q2712 :: .int 0 :: .int 0 :: .int 0 :: .int 0 :: .int 0 :: .int 0 :: .int 0 :: .int (-1) :: .int 0 :: .ref q2713 :: .ref q2714 :: .ref q2715 :: .ref q2716 :: .ref q2717 :: .ref q2718 :: .ref q2719 :: .ref q2720 :: .ref q2721 :: .ref q2722 :: .ref q2723 :: .ref q2724 :: .ref q2725 :: .int 0 :: .ref q2726 :: .ref q2727 :: .ref q2728 :: .int 0 :: .ref q2729 :: .ref q2730 :: .int 0 :: .ref q2731 :: .ref q2732 :: .ref q2733 :: .int 0 :: .int 0 :: .int 0 :: .ref q2734 :: .ref q2735 :: .int 0 :: .ref q2736 :: .ref q2737 :: .ref q2738 :: .ref q2739 :: .int 0 :: .ref q2740 :: .ref q2741 :: .int 0 :: .int 0 :: .ref q2742 :: .ref q2743 :: .int 0 :: .ref q2744 :: .ref q2745 :: .ref q2746 :: .ref q2747 :: .int 0 :: .ref q2748 :: .ref q2749 :: .int 0 :: .ref q2750 :: .ref q2751 :: .int 0 :: .ref q2752 :: .ref q2753 :: .int 0 :: .int 0 :: .ref q2754 :: .ref q2755 :: .ref q2756 :: .int 0 :: [])))] H) (hD : va_D A [(x0, .inr (11, [.ref q1111, .ref q1112, .int 0, .int (-1), .ref q1113, .ref q1114, .ref q1115, .ref q1116, .ref q1117, .ref q1118, .ref q1119, .int 0, .ref q1120, .int 0, .ref q1121, .ref q1122, .ref q1123])), (q1118, .inr (0, [.ref q1168, .ref q1169, .ref q1170, .ref q1171, .ref q1172, .ref q1173])), (q1171, .inl (k1176, 7, .inl (fun _ => 0))), (q1168, .inr (10, [.int 24, .ref q1174, .ref q1175, .int 0])), (m0, .inr (12, (.ref q2712 :: .int 0 :: .int 0 :: .int 0 :: .int 0 :: .int 0 :: .int 0 :: .int 0 :: .int (-1) :: .int 0 :: .ref q2713 :: .ref q2714 :: .ref q2715 :: .ref q2716 :: .ref q2717 :: .ref q2718 :: .ref q2719 :: .ref q2720 :: .ref q2721 :: .ref q2722 :: .ref q2723 :: .ref q2724 :: .ref q2725 :: .int 0 :: .ref q2726 :: .ref q2727 :: .ref q2728 :: .int 0 :: .ref q2729 :: .ref q2730 :: .int 0 :: .ref q2731 :: .ref q2732 :: .ref q2733 :: .int 0 :: .int 0 :: .int 0 :: .ref q2734 :: .ref q2735 :: .int 0 :: .ref q2736 :: .ref q2737 :: .ref q2738 :: .ref q2739 :: .int 0 :: .ref q2740 :: .ref q2741 :: .int 0 :: .int 0 :: .ref q2742 :: .ref q2743 :: .int 0 :: .ref q2744 :: .ref q2745 :: .ref q2746 :: .ref q2747 :: .int 0 :: .ref q2748 :: .ref q2749 :: .int 0 :: .ref q2750 :: .ref q2751 :: .int 0 :: .ref q2752 :: .ref q2753 :: .int 0 :: .int 0 :: .ref q2754 :: .ref q2755 :: .ref q2756 :: .int 0 :: [])))]) (hS : va_S A s.heap H locs) (hl : lv_has ls 4 [(3, .int 0), (2, .ref m0), (1, .ref x0), (0, .ref b)]) : W p l e room_1 s m #[Value.ref b] below meth c H locs 126 277922 (lw_Z below #[Value.ref b] s) (F0 m 596 ls []) := by
  obtain ⟨hx, hb, hr, hml, hown, hts, hX, hbl, hlocks, hgv⟩ := C0
  have hts := fun w h => hts w (wmL_law_in w h)
  have hS : va_S A s.heap H locs := hS
  refine lv_aload_n hx hb dL_law_596 rfl (lv_at hl 2 rfl) ?_
  refine lv_aload_n hx hb dL_law_597 rfl (lv_at hl 3 rfl) ?_
  refine lv_iload_n hx hb dL_law_598 rfl (lv_at hl 0 rfl) ?_
  refine lv_iconst (v := 1) hx hb dL_law_599 (by decide +kernel) ?_
  refine lv_iadd hx hb dL_law_600 ?_
  refine lv_topi (fun x4363 ex4363 => ?_)
  obtain rfl : x4363 = 1 := ex4363.trans (by decide +kernel)
  refine va_sld hx hb hX hbl hbA hS (by unfold vp_in; decide) dL_law_601 ?_
  refine lv_topi (fun x4364 ex4364 => ?_)
  obtain rfl : y1 = x4364 := (ex4364.trans ey1).symm
  have hPc := hP.sub (ws' := [(x0, .inr (11, [.ref q1111, .ref q1112, .int 0, .int (-1), .ref q1113, .ref q1114, .ref q1115, .ref q1116, .ref q1117, .ref q1118, .ref q1119, .int 0, .ref q1120, .int 0, .ref q1121, .ref q1122, .ref q1123])), (q1118, .inr (0, [.ref q1168, .ref q1169, .ref q1170, .ref q1171, .ref q1172, .ref q1173])), (q1171, .inl (k1176, 7, .inl (fun _ => 0))), (q1168, .inr (10, [.int 24, .ref q1174, .ref q1175, .int 0]))]) [0, 1, 2, 3] rfl
  have hDc := hD.sub (ws' := [(x0, .inr (11, [.ref q1111, .ref q1112, .int 0, .int (-1), .ref q1113, .ref q1114, .ref q1115, .ref q1116, .ref q1117, .ref q1118, .ref q1119, .int 0, .ref q1120, .int 0, .ref q1121, .ref q1122, .ref q1123])), (q1118, .inr (0, [.ref q1168, .ref q1169, .ref q1170, .ref q1171, .ref q1172, .ref q1173])), (q1171, .inl (k1176, 7, .inl (fun _ => 0))), (q1168, .inr (10, [.int 24, .ref q1174, .ref q1175, .int 0]))]) [0, 1, 2, 3] (by decide +kernel) rfl
  have hKc := hK.sub (tys' := [(k1176, .int)]) [0] rfl
  have hFc := va_free (wc := [(x0, .inr (11, [.ref q1111, .ref q1112, .int 0, .int (-1), .ref q1113, .ref q1114, .ref q1115, .ref q1116, .ref q1117, .ref q1118, .ref q1119, .int 0, .ref q1120, .int 0, .ref q1121, .ref q1122, .ref q1123])), (q1118, .inr (0, [.ref q1168, .ref q1169, .ref q1170, .ref q1171, .ref q1172, .ref q1173])), (q1171, .inl (k1176, 7, .inl (fun _ => 0))), (q1168, .inr (10, [.int 24, .ref q1174, .ref q1175, .int 0]))]) hD hS hA [0, 1, 2, 3] rfl
  refine va_calli (va_runV (As := [.int y1]) (rest := []) ⟨hx, hb, hml, hown, hts⟩ (c_X11_rhymes_0 l dC dI H.size x0 q1111 q1112 q1113 q1114 q1115 q1116 q1117 q1118 q1119 q1120 q1121 q1122 q1123 q1168 q1169 q1170 q1171 q1172 q1173 q1174 q1175 k1176 y1) (cwV 1 hts gv_L_law_X11_rhymes_81 rfl rfl rfl (by decide +kernel) ⟨Nat.le_of_ble_eq_true rfl, Nat.le_of_ble_eq_true rfl⟩) ⟨fun a U g mk q => by obtain ⟨q0, q1, qP, qK, qD⟩ := q; exact ⟨q0, q1, qP, va_K.moved (u := U) (U := U.calling g mk a) (Vm.Alike.refl U.vm) qK, qD⟩, va_recv hKc hPc (ci := 11) (q0 := 0) rfl rfl, fun U hU hW => ⟨rfl, by rw [hU], by rw [hU]; exact hPc, va_K.moved hW.alike hKc, hDc.weaken (fun _ _ _ _ => trivial)⟩⟩ rfl rfl hl.1 rfl (lv_room (Nat.le_of_ble_eq_true rfl)) dL_law_602 ⟨Nat.le_of_ble_eq_true rfl, Nat.le_of_ble_eq_true rfl⟩) hS (fun q _ h => hFc q h) hFc (fun r4374 u t H1 locs ht hvm hw hB hz1 hk1 hS => ?_)
  obtain ⟨hP1, hK1, hD1⟩ := hB
  rw [ht] at hP1
  have hK1 := va_K.moved hvm.symm hK1
  obtain ⟨hP, hD⟩ := va_join (wr := [(m0, .inr (12, (.ref q2712 :: .int 0 :: .int 0 :: .int 0 :: .int 0 :: .int 0 :: .int 0 :: .int 0 :: .int (-1) :: .int 0 :: .ref q2713 :: .ref q2714 :: .ref q2715 :: .ref q2716 :: .ref q2717 :: .ref q2718 :: .ref q2719 :: .ref q2720 :: .ref q2721 :: .ref q2722 :: .ref q2723 :: .ref q2724 :: .ref q2725 :: .int 0 :: .ref q2726 :: .ref q2727 :: .ref q2728 :: .int 0 :: .ref q2729 :: .ref q2730 :: .int 0 :: .ref q2731 :: .ref q2732 :: .ref q2733 :: .int 0 :: .int 0 :: .int 0 :: .ref q2734 :: .ref q2735 :: .int 0 :: .ref q2736 :: .ref q2737 :: .ref q2738 :: .ref q2739 :: .int 0 :: .ref q2740 :: .ref q2741 :: .int 0 :: .int 0 :: .ref q2742 :: .ref q2743 :: .int 0 :: .ref q2744 :: .ref q2745 :: .ref q2746 :: .ref q2747 :: .int 0 :: .ref q2748 :: .ref q2749 :: .int 0 :: .ref q2750 :: .ref q2751 :: .int 0 :: .ref q2752 :: .ref q2753 :: .int 0 :: .int 0 :: .ref q2754 :: .ref q2755 :: .ref q2756 :: .int 0 :: [])))]) (w1 := []) hP hD [0, 1, 2, 3] [4] rfl rfl (by decide +kernel) (by decide +kernel) hk1 hFc hP1 hD1
  have hK := (hK.sub (tys' := [(k1176, .int)]) [0] rfl).app hK1
  generalize H1 = H at hP hS ⊢
  have hK : va_K (dC, dI) vwCl [(k1176, .int)] s := hK
  have hP : va_P (dC, dI) vwCl [(m0, .inr (12, (.ref q2712 :: .int 0 :: .int 0 :: .int 0 :: .int 0 :: .int 0 :: .int 0 :: .int 0 :: .int (-1) :: .int 0 :: .ref q2713 :: .ref q2714 :: .ref q2715 :: .ref q2716 :: .ref q2717 :: .ref q2718 :: .ref q2719 :: .ref q2720 :: .ref q2721 :: .ref q2722 :: .ref q2723 :: .ref q2724 :: .ref q2725 :: .int 0 :: .ref q2726 :: .ref q2727 :: .ref q2728 :: .int 0 :: .ref q2729 :: .ref q2730 :: .int 0 :: .ref q2731 :: .ref q2732 :: .ref q2733 :: .int 0 :: .int 0 :: .int 0 :: .ref q2734 :: .ref q2735 :: .int 0 :: .ref q2736 :: .ref q2737 :: .ref q2738 :: .ref q2739 :: .int 0 :: .ref q2740 :: .ref q2741 :: .int 0 :: .int 0 :: .ref q2742 :: .ref q2743 :: .int 0 :: .ref q2744 :: .ref q2745 :: .ref q2746 :: .ref q2747 :: .int 0 :: .ref q2748 :: .ref q2749 :: .int 0 :: .ref q2750 :: .ref q2751 :: .int 0 :: .ref q2752 :: .ref q2753 :: .int 0 :: .int 0 :: .ref q2754 :: .ref q2755 :: .ref q2756 :: .int 0 :: [])))] H := hP
  have hD : va_D A [(m0, .inr (12, (.ref q2712 :: .int 0 :: .int 0 :: .int 0 :: .int 0 :: .int 0 :: .int 0 :: .int 0 :: .int (-1) :: .int 0 :: .ref q2713 :: .ref q2714 :: .ref q2715 :: .ref q2716 :: .ref q2717 :: .ref q2718 :: .ref q2719 :: .ref q2720 :: .ref q2721 :: .ref q2722 :: .ref q2723 :: .ref q2724 :: .ref q2725 :: .int 0 :: .ref q2726 :: .ref q2727 :: .ref q2728 :: .int 0 :: .ref q2729 :: .ref q2730 :: .int 0 :: .ref q2731 :: .ref q2732 :: .ref q2733 :: .int 0 :: .int 0 :: .int 0 :: .ref q2734 :: .ref q2735 :: .int 0 :: .ref q2736 :: .ref q2737 :: .ref q2738 :: .ref q2739 :: .int 0 :: .ref q2740 :: .ref q2741 :: .int 0 :: .int 0 :: .ref q2742 :: .ref q2743 :: .int 0 :: .ref q2744 :: .ref q2745 :: .ref q2746 :: .ref q2747 :: .int 0 :: .ref q2748 :: .ref q2749 :: .int 0 :: .ref q2750 :: .ref q2751 :: .int 0 :: .ref q2752 :: .ref q2753 :: .int 0 :: .int 0 :: .ref q2754 :: .ref q2755 :: .ref q2756 :: .int 0 :: [])))] := hD
  rcases hw with ⟨c4375, hw⟩ | ⟨c4376, c4377, hw⟩ | ⟨c4378, c4379, hw⟩
  · skip
    obtain rfl : r4374 = (-2) := hw
    refine lv_aload_n hx hb dL_law_605 rfl (lv_at hl 1 rfl) ?_
    refine lv_aload_n hx hb dL_law_606 rfl (lv_at hl 3 rfl) ?_
    refine lv_iload_n hx hb dL_law_607 rfl (lv_at hl 0 rfl) ?_
    refine lv_iconst (v := 1) hx hb dL_law_608 (by decide +kernel) ?_
    refine lv_iadd hx hb dL_law_609 ?_
    refine lv_topi (fun x4380 ex4380 => ?_)
    obtain rfl : x4380 = 1 := ex4380.trans (by decide +kernel)
    refine va_sld hx hb hX hbl hbA hS (by unfold vp_in; decide) dL_law_610 ?_
    refine lv_topi (fun x4381 ex4381 => ?_)
    obtain rfl : y1 = x4381 := (ex4381.trans ey1).symm
    have hPc := hP.sub (ws' := [(m0, .inr (12, (.ref q2712 :: .int 0 :: .int 0 :: .int 0 :: .int 0 :: .int 0 :: .int 0 :: .int 0 :: .int (-1) :: .int 0 :: .ref q2713 :: .ref q2714 :: .ref q2715 :: .ref q2716 :: .ref q2717 :: .ref q2718 :: .ref q2719 :: .ref q2720 :: .ref q2721 :: .ref q2722 :: .ref q2723 :: .ref q2724 :: .ref q2725 :: .int 0 :: .ref q2726 :: .ref q2727 :: .ref q2728 :: .int 0 :: .ref q2729 :: .ref q2730 :: .int 0 :: .ref q2731 :: .ref q2732 :: .ref q2733 :: .int 0 :: .int 0 :: .int 0 :: .ref q2734 :: .ref q2735 :: .int 0 :: .ref q2736 :: .ref q2737 :: .ref q2738 :: .ref q2739 :: .int 0 :: .ref q2740 :: .ref q2741 :: .int 0 :: .int 0 :: .ref q2742 :: .ref q2743 :: .int 0 :: .ref q2744 :: .ref q2745 :: .ref q2746 :: .ref q2747 :: .int 0 :: .ref q2748 :: .ref q2749 :: .int 0 :: .ref q2750 :: .ref q2751 :: .int 0 :: .ref q2752 :: .ref q2753 :: .int 0 :: .int 0 :: .ref q2754 :: .ref q2755 :: .ref q2756 :: .int 0 :: [])))]) [0] rfl
    have hDc := hD.sub (ws' := [(m0, .inr (12, (.ref q2712 :: .int 0 :: .int 0 :: .int 0 :: .int 0 :: .int 0 :: .int 0 :: .int 0 :: .int (-1) :: .int 0 :: .ref q2713 :: .ref q2714 :: .ref q2715 :: .ref q2716 :: .ref q2717 :: .ref q2718 :: .ref q2719 :: .ref q2720 :: .ref q2721 :: .ref q2722 :: .ref q2723 :: .ref q2724 :: .ref q2725 :: .int 0 :: .ref q2726 :: .ref q2727 :: .ref q2728 :: .int 0 :: .ref q2729 :: .ref q2730 :: .int 0 :: .ref q2731 :: .ref q2732 :: .ref q2733 :: .int 0 :: .int 0 :: .int 0 :: .ref q2734 :: .ref q2735 :: .int 0 :: .ref q2736 :: .ref q2737 :: .ref q2738 :: .ref q2739 :: .int 0 :: .ref q2740 :: .ref q2741 :: .int 0 :: .int 0 :: .ref q2742 :: .ref q2743 :: .int 0 :: .ref q2744 :: .ref q2745 :: .ref q2746 :: .ref q2747 :: .int 0 :: .ref q2748 :: .ref q2749 :: .int 0 :: .ref q2750 :: .ref q2751 :: .int 0 :: .ref q2752 :: .ref q2753 :: .int 0 :: .int 0 :: .ref q2754 :: .ref q2755 :: .ref q2756 :: .int 0 :: [])))]) [0] (by decide +kernel) rfl
    have hKc := hK.sub (tys' := []) [] rfl
    have hFc := va_free (wc := [(m0, .inr (12, (.ref q2712 :: .int 0 :: .int 0 :: .int 0 :: .int 0 :: .int 0 :: .int 0 :: .int 0 :: .int (-1) :: .int 0 :: .ref q2713 :: .ref q2714 :: .ref q2715 :: .ref q2716 :: .ref q2717 :: .ref q2718 :: .ref q2719 :: .ref q2720 :: .ref q2721 :: .ref q2722 :: .ref q2723 :: .ref q2724 :: .ref q2725 :: .int 0 :: .ref q2726 :: .ref q2727 :: .ref q2728 :: .int 0 :: .ref q2729 :: .ref q2730 :: .int 0 :: .ref q2731 :: .ref q2732 :: .ref q2733 :: .int 0 :: .int 0 :: .int 0 :: .ref q2734 :: .ref q2735 :: .int 0 :: .ref q2736 :: .ref q2737 :: .ref q2738 :: .ref q2739 :: .int 0 :: .ref q2740 :: .ref q2741 :: .int 0 :: .int 0 :: .ref q2742 :: .ref q2743 :: .int 0 :: .ref q2744 :: .ref q2745 :: .ref q2746 :: .ref q2747 :: .int 0 :: .ref q2748 :: .ref q2749 :: .int 0 :: .ref q2750 :: .ref q2751 :: .int 0 :: .ref q2752 :: .ref q2753 :: .int 0 :: .int 0 :: .ref q2754 :: .ref q2755 :: .ref q2756 :: .int 0 :: [])))]) hD hS hA [0] rfl
    refine va_calli (va_runV (As := [.int y1]) (rest := [.int (-2)]) ⟨hx, hb, hml, hown, hts⟩ (c_X12_rhymes_0 l dC dI H.size m0 q2712 q2713 q2714 q2715 q2716 q2717 q2718 q2719 q2720 q2721 q2722 q2723 q2724 q2725 q2726 q2727 q2728 q2729 q2730 q2731 q2732 q2733 q2734 q2735 q2736 q2737 q2738 q2739 q2740 q2741 q2742 q2743 q2744 q2745 q2746 q2747 q2748 q2749 q2750 q2751 q2752 q2753 q2754 q2755 q2756 y1) (cwV 1 hts gv_L_law_X12_rhymes_84 rfl rfl rfl (by decide +kernel) ⟨Nat.le_of_ble_eq_true rfl, Nat.le_of_ble_eq_true rfl⟩) ⟨fun a U g mk q => by obtain ⟨q0, q1, qP, qK, qD⟩ := q; exact ⟨q0, q1, qP, va_K.moved (u := U) (U := U.calling g mk a) (Vm.Alike.refl U.vm) qK, qD⟩, va_recv hKc hPc (ci := 12) (q0 := 0) rfl rfl, fun U hU hW => ⟨rfl, by rw [hU], by rw [hU]; exact hPc, va_K.moved hW.alike hKc, hDc.weaken (fun _ _ _ _ => trivial)⟩⟩ rfl rfl hl.1 rfl (lv_room (Nat.le_of_ble_eq_true rfl)) dL_law_611 ⟨Nat.le_of_ble_eq_true rfl, Nat.le_of_ble_eq_true rfl⟩) hS (fun q _ h => hFc q h) hFc (fun r4394 u t H1 locs ht hvm hw hB hz1 hk1 hS => ?_)
    obtain ⟨hP1, hK1, hD1⟩ := hB
    rw [ht] at hP1
    have hK1 := va_K.moved hvm.symm hK1
    obtain ⟨hP, hD⟩ := va_join (wr := []) (w1 := []) hP hD [0] [] rfl rfl (by decide +kernel) (by decide +kernel) hk1 hFc hP1 hD1
    have hK := (hK.sub (tys' := [(k1176, .int)]) [0] rfl).app hK1
    generalize H1 = H at hP hS ⊢
    have hK : va_K (dC, dI) vwCl [(k1176, .int)] s := hK
    have hP : va_P (dC, dI) vwCl [] H := hP
    have hD : va_D A [] := hD
    rcases hw with ⟨c4395, hw⟩ | ⟨c4396, c4397, hw⟩ | ⟨c4398, c4399, hw⟩
    · skip
      obtain rfl : r4394 = (-2) := hw
      refine lv_icmp_eq (tgt := 833) hx hb dL_law_614 (by decide +kernel) (fun _ => ?_) (fun h => absurd (by decide +kernel) h)
      refine lv_iinc (v := 6) (lv' := [(3, .int 6), (2, .ref m0), (1, .ref x0), (0, .ref b)]) hx hb dL_law_833 hl (k := 0) rfl (by decide +kernel) (by decide +kernel) rfl (fun ls hl => ?_)
      refine lv_goto (tgt := 18) hx hb dL_law_836 (by decide +kernel) ?_
      refine lv_iload_n hx hb dL_law_18 rfl (lv_at hl 0 rfl) ?_
      refine lv_aload_n hx hb dL_law_19 rfl (lv_at hl 3 rfl) ?_
      refine va_slen hx hb hX hbl hbA hS dL_law_20 ?_
      refine lv_topi (fun x4400 ex4400 => ?_)
      obtain rfl : x4400 = 6 := ex4400.trans (by decide +kernel)
      refine lv_bipush (v := 6) hx hb dL_law_21 (by decide +kernel) ?_
      refine lv_isub hx hb dL_law_23 ?_
      refine lv_topi (fun x4401 ex4401 => ?_)
      obtain rfl : x4401 = 0 := ex4401.trans (by decide +kernel)
      refine lv_icmp_gt (tgt := 839) hx hb dL_law_24 (by decide +kernel) (fun _ => ?_) (fun h => absurd (by decide +kernel) h)
      refine lv_iconst (v := 1) hx hb dL_law_839 (by decide +kernel) ?_
      refine va_forget (fun q hq => hAl _ (hS.2.2 q hq)) ?_
      refine W.widen (k := 600000) (n := 7302250) (by omega) (by omega) ?_
      exact lw_ret hx hb hr hlocks dL_law_840
    · skip
      obtain rfl : r4394 = (-2) := hw
      exfalso
      simp only [z_lt, z_le, z_eqi, zl_m2, zl_m1, zl_0, zl_1, zl_2, zl_50, zl_100000] at c4375 c4396 c4397
      omega
    · skip
      obtain rfl : r4394 = 0 := hw
      exfalso
      simp only [z_lt, z_le, z_eqi, zl_m2, zl_m1, zl_0, zl_1, zl_2, zl_50, zl_100000] at c4375 c4398 c4399
      omega
  · skip
    obtain rfl : r4374 = (-2) := hw
    refine lv_aload_n hx hb dL_law_605 rfl (lv_at hl 1 rfl) ?_
    refine lv_aload_n hx hb dL_law_606 rfl (lv_at hl 3 rfl) ?_
    refine lv_iload_n hx hb dL_law_607 rfl (lv_at hl 0 rfl) ?_
    refine lv_iconst (v := 1) hx hb dL_law_608 (by decide +kernel) ?_
    refine lv_iadd hx hb dL_law_609 ?_
    refine lv_topi (fun x4402 ex4402 => ?_)
    obtain rfl : x4402 = 1 := ex4402.trans (by decide +kernel)
    refine va_sld hx hb hX hbl hbA hS (by unfold vp_in; decide) dL_law_610 ?_
    refine lv_topi (fun x4403 ex4403 => ?_)
    obtain rfl : y1 = x4403 := (ex4403.trans ey1).symm
    have hPc := hP.sub (ws' := [(m0, .inr (12, (.ref q2712 :: .int 0 :: .int 0 :: .int 0 :: .int 0 :: .int 0 :: .int 0 :: .int 0 :: .int (-1) :: .int 0 :: .ref q2713 :: .ref q2714 :: .ref q2715 :: .ref q2716 :: .ref q2717 :: .ref q2718 :: .ref q2719 :: .ref q2720 :: .ref q2721 :: .ref q2722 :: .ref q2723 :: .ref q2724 :: .ref q2725 :: .int 0 :: .ref q2726 :: .ref q2727 :: .ref q2728 :: .int 0 :: .ref q2729 :: .ref q2730 :: .int 0 :: .ref q2731 :: .ref q2732 :: .ref q2733 :: .int 0 :: .int 0 :: .int 0 :: .ref q2734 :: .ref q2735 :: .int 0 :: .ref q2736 :: .ref q2737 :: .ref q2738 :: .ref q2739 :: .int 0 :: .ref q2740 :: .ref q2741 :: .int 0 :: .int 0 :: .ref q2742 :: .ref q2743 :: .int 0 :: .ref q2744 :: .ref q2745 :: .ref q2746 :: .ref q2747 :: .int 0 :: .ref q2748 :: .ref q2749 :: .int 0 :: .ref q2750 :: .ref q2751 :: .int 0 :: .ref q2752 :: .ref q2753 :: .int 0 :: .int 0 :: .ref q2754 :: .ref q2755 :: .ref q2756 :: .int 0 :: [])))]) [0] rfl
    have hDc := hD.sub (ws' := [(m0, .inr (12, (.ref q2712 :: .int 0 :: .int 0 :: .int 0 :: .int 0 :: .int 0 :: .int 0 :: .int 0 :: .int (-1) :: .int 0 :: .ref q2713 :: .ref q2714 :: .ref q2715 :: .ref q2716 :: .ref q2717 :: .ref q2718 :: .ref q2719 :: .ref q2720 :: .ref q2721 :: .ref q2722 :: .ref q2723 :: .ref q2724 :: .ref q2725 :: .int 0 :: .ref q2726 :: .ref q2727 :: .ref q2728 :: .int 0 :: .ref q2729 :: .ref q2730 :: .int 0 :: .ref q2731 :: .ref q2732 :: .ref q2733 :: .int 0 :: .int 0 :: .int 0 :: .ref q2734 :: .ref q2735 :: .int 0 :: .ref q2736 :: .ref q2737 :: .ref q2738 :: .ref q2739 :: .int 0 :: .ref q2740 :: .ref q2741 :: .int 0 :: .int 0 :: .ref q2742 :: .ref q2743 :: .int 0 :: .ref q2744 :: .ref q2745 :: .ref q2746 :: .ref q2747 :: .int 0 :: .ref q2748 :: .ref q2749 :: .int 0 :: .ref q2750 :: .ref q2751 :: .int 0 :: .ref q2752 :: .ref q2753 :: .int 0 :: .int 0 :: .ref q2754 :: .ref q2755 :: .ref q2756 :: .int 0 :: [])))]) [0] (by decide +kernel) rfl
    have hKc := hK.sub (tys' := []) [] rfl
    have hFc := va_free (wc := [(m0, .inr (12, (.ref q2712 :: .int 0 :: .int 0 :: .int 0 :: .int 0 :: .int 0 :: .int 0 :: .int 0 :: .int (-1) :: .int 0 :: .ref q2713 :: .ref q2714 :: .ref q2715 :: .ref q2716 :: .ref q2717 :: .ref q2718 :: .ref q2719 :: .ref q2720 :: .ref q2721 :: .ref q2722 :: .ref q2723 :: .ref q2724 :: .ref q2725 :: .int 0 :: .ref q2726 :: .ref q2727 :: .ref q2728 :: .int 0 :: .ref q2729 :: .ref q2730 :: .int 0 :: .ref q2731 :: .ref q2732 :: .ref q2733 :: .int 0 :: .int 0 :: .int 0 :: .ref q2734 :: .ref q2735 :: .int 0 :: .ref q2736 :: .ref q2737 :: .ref q2738 :: .ref q2739 :: .int 0 :: .ref q2740 :: .ref q2741 :: .int 0 :: .int 0 :: .ref q2742 :: .ref q2743 :: .int 0 :: .ref q2744 :: .ref q2745 :: .ref q2746 :: .ref q2747 :: .int 0 :: .ref q2748 :: .ref q2749 :: .int 0 :: .ref q2750 :: .ref q2751 :: .int 0 :: .ref q2752 :: .ref q2753 :: .int 0 :: .int 0 :: .ref q2754 :: .ref q2755 :: .ref q2756 :: .int 0 :: [])))]) hD hS hA [0] rfl
    refine va_calli (va_runV (As := [.int y1]) (rest := [.int (-2)]) ⟨hx, hb, hml, hown, hts⟩ (c_X12_rhymes_0 l dC dI H.size m0 q2712 q2713 q2714 q2715 q2716 q2717 q2718 q2719 q2720 q2721 q2722 q2723 q2724 q2725 q2726 q2727 q2728 q2729 q2730 q2731 q2732 q2733 q2734 q2735 q2736 q2737 q2738 q2739 q2740 q2741 q2742 q2743 q2744 q2745 q2746 q2747 q2748 q2749 q2750 q2751 q2752 q2753 q2754 q2755 q2756 y1) (cwV 1 hts gv_L_law_X12_rhymes_84 rfl rfl rfl (by decide +kernel) ⟨Nat.le_of_ble_eq_true rfl, Nat.le_of_ble_eq_true rfl⟩) ⟨fun a U g mk q => by obtain ⟨q0, q1, qP, qK, qD⟩ := q; exact ⟨q0, q1, qP, va_K.moved (u := U) (U := U.calling g mk a) (Vm.Alike.refl U.vm) qK, qD⟩, va_recv hKc hPc (ci := 12) (q0 := 0) rfl rfl, fun U hU hW => ⟨rfl, by rw [hU], by rw [hU]; exact hPc, va_K.moved hW.alike hKc, hDc.weaken (fun _ _ _ _ => trivial)⟩⟩ rfl rfl hl.1 rfl (lv_room (Nat.le_of_ble_eq_true rfl)) dL_law_611 ⟨Nat.le_of_ble_eq_true rfl, Nat.le_of_ble_eq_true rfl⟩) hS (fun q _ h => hFc q h) hFc (fun r4416 u t H1 locs ht hvm hw hB hz1 hk1 hS => ?_)
    obtain ⟨hP1, hK1, hD1⟩ := hB
    rw [ht] at hP1
    have hK1 := va_K.moved hvm.symm hK1
    obtain ⟨hP, hD⟩ := va_join (wr := []) (w1 := []) hP hD [0] [] rfl rfl (by decide +kernel) (by decide +kernel) hk1 hFc hP1 hD1
    have hK := (hK.sub (tys' := [(k1176, .int)]) [0] rfl).app hK1
    generalize H1 = H at hP hS ⊢
    have hK : va_K (dC, dI) vwCl [(k1176, .int)] s := hK
    have hP : va_P (dC, dI) vwCl [] H := hP
    have hD : va_D A [] := hD
    rcases hw with ⟨c4417, hw⟩ | ⟨c4418, c4419, hw⟩ | ⟨c4420, c4421, hw⟩
    · skip
      obtain rfl : r4416 = (-2) := hw
      exfalso
      simp only [z_lt, z_le, z_eqi, zl_m2, zl_m1, zl_0, zl_1, zl_2, zl_50, zl_100000] at c4376 c4377 c4417
      omega
    · skip
      obtain rfl : r4416 = (-2) := hw
      refine lv_icmp_eq (tgt := 833) hx hb dL_law_614 (by decide +kernel) (fun _ => ?_) (fun h => absurd (by decide +kernel) h)
      refine lv_iinc (v := 6) (lv' := [(3, .int 6), (2, .ref m0), (1, .ref x0), (0, .ref b)]) hx hb dL_law_833 hl (k := 0) rfl (by decide +kernel) (by decide +kernel) rfl (fun ls hl => ?_)
      refine lv_goto (tgt := 18) hx hb dL_law_836 (by decide +kernel) ?_
      refine lv_iload_n hx hb dL_law_18 rfl (lv_at hl 0 rfl) ?_
      refine lv_aload_n hx hb dL_law_19 rfl (lv_at hl 3 rfl) ?_
      refine va_slen hx hb hX hbl hbA hS dL_law_20 ?_
      refine lv_topi (fun x4422 ex4422 => ?_)
      obtain rfl : x4422 = 6 := ex4422.trans (by decide +kernel)
      refine lv_bipush (v := 6) hx hb dL_law_21 (by decide +kernel) ?_
      refine lv_isub hx hb dL_law_23 ?_
      refine lv_topi (fun x4423 ex4423 => ?_)
      obtain rfl : x4423 = 0 := ex4423.trans (by decide +kernel)
      refine lv_icmp_gt (tgt := 839) hx hb dL_law_24 (by decide +kernel) (fun _ => ?_) (fun h => absurd (by decide +kernel) h)
      refine lv_iconst (v := 1) hx hb dL_law_839 (by decide +kernel) ?_
      refine va_forget (fun q hq => hAl _ (hS.2.2 q hq)) ?_
      refine W.widen (k := 600000) (n := 7302250) (by omega) (by omega) ?_
      exact lw_ret hx hb hr hlocks dL_law_840
    · skip
      obtain rfl : r4416 = 0 := hw
      exfalso
      simp only [z_lt, z_le, z_eqi, zl_m2, zl_m1, zl_0, zl_1, zl_2, zl_50, zl_100000] at c4376 c4377 c4420 c4421
      omega
  · skip
    obtain rfl : r4374 = 0 := hw
    obtain rfl : y1 = 0 := z_e (by simp only [z_lt, z_le, z_eqi, zl_m2, zl_m1, zl_0, zl_1, zl_2, zl_50, zl_100000] at c4378 c4379 ⊢; omega)
    refine lv_aload_n hx hb dL_law_605 rfl (lv_at hl 1 rfl) ?_
    refine lv_aload_n hx hb dL_law_606 rfl (lv_at hl 3 rfl) ?_
    refine lv_iload_n hx hb dL_law_607 rfl (lv_at hl 0 rfl) ?_
    refine lv_iconst (v := 1) hx hb dL_law_608 (by decide +kernel) ?_
    refine lv_iadd hx hb dL_law_609 ?_
    refine lv_topi (fun x4424 ex4424 => ?_)
    obtain rfl : x4424 = 1 := ex4424.trans (by decide +kernel)
    refine va_sld hx hb hX hbl hbA hS (by unfold vp_in; decide) dL_law_610 ?_
    refine lv_topi (fun x4425 ex4425 => ?_)
    obtain rfl : 0 = x4425 := (ex4425.trans ey1).symm
    have hPc := hP.sub (ws' := [(m0, .inr (12, (.ref q2712 :: .int 0 :: .int 0 :: .int 0 :: .int 0 :: .int 0 :: .int 0 :: .int 0 :: .int (-1) :: .int 0 :: .ref q2713 :: .ref q2714 :: .ref q2715 :: .ref q2716 :: .ref q2717 :: .ref q2718 :: .ref q2719 :: .ref q2720 :: .ref q2721 :: .ref q2722 :: .ref q2723 :: .ref q2724 :: .ref q2725 :: .int 0 :: .ref q2726 :: .ref q2727 :: .ref q2728 :: .int 0 :: .ref q2729 :: .ref q2730 :: .int 0 :: .ref q2731 :: .ref q2732 :: .ref q2733 :: .int 0 :: .int 0 :: .int 0 :: .ref q2734 :: .ref q2735 :: .int 0 :: .ref q2736 :: .ref q2737 :: .ref q2738 :: .ref q2739 :: .int 0 :: .ref q2740 :: .ref q2741 :: .int 0 :: .int 0 :: .ref q2742 :: .ref q2743 :: .int 0 :: .ref q2744 :: .ref q2745 :: .ref q2746 :: .ref q2747 :: .int 0 :: .ref q2748 :: .ref q2749 :: .int 0 :: .ref q2750 :: .ref q2751 :: .int 0 :: .ref q2752 :: .ref q2753 :: .int 0 :: .int 0 :: .ref q2754 :: .ref q2755 :: .ref q2756 :: .int 0 :: [])))]) [0] rfl
    have hDc := hD.sub (ws' := [(m0, .inr (12, (.ref q2712 :: .int 0 :: .int 0 :: .int 0 :: .int 0 :: .int 0 :: .int 0 :: .int 0 :: .int (-1) :: .int 0 :: .ref q2713 :: .ref q2714 :: .ref q2715 :: .ref q2716 :: .ref q2717 :: .ref q2718 :: .ref q2719 :: .ref q2720 :: .ref q2721 :: .ref q2722 :: .ref q2723 :: .ref q2724 :: .ref q2725 :: .int 0 :: .ref q2726 :: .ref q2727 :: .ref q2728 :: .int 0 :: .ref q2729 :: .ref q2730 :: .int 0 :: .ref q2731 :: .ref q2732 :: .ref q2733 :: .int 0 :: .int 0 :: .int 0 :: .ref q2734 :: .ref q2735 :: .int 0 :: .ref q2736 :: .ref q2737 :: .ref q2738 :: .ref q2739 :: .int 0 :: .ref q2740 :: .ref q2741 :: .int 0 :: .int 0 :: .ref q2742 :: .ref q2743 :: .int 0 :: .ref q2744 :: .ref q2745 :: .ref q2746 :: .ref q2747 :: .int 0 :: .ref q2748 :: .ref q2749 :: .int 0 :: .ref q2750 :: .ref q2751 :: .int 0 :: .ref q2752 :: .ref q2753 :: .int 0 :: .int 0 :: .ref q2754 :: .ref q2755 :: .ref q2756 :: .int 0 :: [])))]) [0] (by decide +kernel) rfl
    have hKc := hK.sub (tys' := []) [] rfl
    have hFc := va_free (wc := [(m0, .inr (12, (.ref q2712 :: .int 0 :: .int 0 :: .int 0 :: .int 0 :: .int 0 :: .int 0 :: .int 0 :: .int (-1) :: .int 0 :: .ref q2713 :: .ref q2714 :: .ref q2715 :: .ref q2716 :: .ref q2717 :: .ref q2718 :: .ref q2719 :: .ref q2720 :: .ref q2721 :: .ref q2722 :: .ref q2723 :: .ref q2724 :: .ref q2725 :: .int 0 :: .ref q2726 :: .ref q2727 :: .ref q2728 :: .int 0 :: .ref q2729 :: .ref q2730 :: .int 0 :: .ref q2731 :: .ref q2732 :: .ref q2733 :: .int 0 :: .int 0 :: .int 0 :: .ref q2734 :: .ref q2735 :: .int 0 :: .ref q2736 :: .ref q2737 :: .ref q2738 :: .ref q2739 :: .int 0 :: .ref q2740 :: .ref q2741 :: .int 0 :: .int 0 :: .ref q2742 :: .ref q2743 :: .int 0 :: .ref q2744 :: .ref q2745 :: .ref q2746 :: .ref q2747 :: .int 0 :: .ref q2748 :: .ref q2749 :: .int 0 :: .ref q2750 :: .ref q2751 :: .int 0 :: .ref q2752 :: .ref q2753 :: .int 0 :: .int 0 :: .ref q2754 :: .ref q2755 :: .ref q2756 :: .int 0 :: [])))]) hD hS hA [0] rfl
    refine va_calli (va_runV (As := [.int 0]) (rest := [.int 0]) ⟨hx, hb, hml, hown, hts⟩ (c_X12_rhymes_1 l dC dI H.size m0 q2712 q2713 q2714 q2715 q2716 q2717 q2718 q2719 q2720 q2721 q2722 q2723 q2724 q2725 q2726 q2727 q2728 q2729 q2730 q2731 q2732 q2733 q2734 q2735 q2736 q2737 q2738 q2739 q2740 q2741 q2742 q2743 q2744 q2745 q2746 q2747 q2748 q2749 q2750 q2751 q2752 q2753 q2754 q2755 q2756) (cwV 1 hts gv_L_law_X12_rhymes_84 rfl rfl rfl (by decide +kernel) ⟨Nat.le_of_ble_eq_true rfl, Nat.le_of_ble_eq_true rfl⟩) ⟨fun a U g mk q => by obtain ⟨q0, q1, qP, qK, qD⟩ := q; exact ⟨q0, q1, qP, va_K.moved (u := U) (U := U.calling g mk a) (Vm.Alike.refl U.vm) qK, qD⟩, va_recv hKc hPc (ci := 12) (q0 := 0) rfl rfl, fun U hU hW => ⟨rfl, by rw [hU], by rw [hU]; exact hPc, va_K.moved hW.alike hKc, hDc.weaken (fun _ _ _ _ => trivial)⟩⟩ rfl rfl hl.1 rfl (lv_room (Nat.le_of_ble_eq_true rfl)) dL_law_611 ⟨Nat.le_of_ble_eq_true rfl, Nat.le_of_ble_eq_true rfl⟩) hS (fun q _ h => hFc q h) hFc (fun r4428 u t H1 locs ht hvm hw hB hz1 hk1 hS => ?_)
    obtain ⟨hP1, hK1, hD1⟩ := hB
    rw [ht] at hP1
    have hK1 := va_K.moved hvm.symm hK1
    obtain ⟨hP, hD⟩ := va_join (wr := []) (w1 := []) hP hD [0] [] rfl rfl (by decide +kernel) (by decide +kernel) hk1 hFc hP1 hD1
    have hK := (hK.sub (tys' := [(k1176, .int)]) [0] rfl).app hK1
    generalize H1 = H at hP hS ⊢
    have hK : va_K (dC, dI) vwCl [(k1176, .int)] s := hK
    have hP : va_P (dC, dI) vwCl [] H := hP
    have hD : va_D A [] := hD
    obtain rfl : r4428 = 0 := hw
    refine lv_icmp_eq (tgt := 833) hx hb dL_law_614 (by decide +kernel) (fun _ => ?_) (fun h => absurd (by decide +kernel) h)
    refine lv_iinc (v := 6) (lv' := [(3, .int 6), (2, .ref m0), (1, .ref x0), (0, .ref b)]) hx hb dL_law_833 hl (k := 0) rfl (by decide +kernel) (by decide +kernel) rfl (fun ls hl => ?_)
    refine lv_goto (tgt := 18) hx hb dL_law_836 (by decide +kernel) ?_
    refine lv_iload_n hx hb dL_law_18 rfl (lv_at hl 0 rfl) ?_
    refine lv_aload_n hx hb dL_law_19 rfl (lv_at hl 3 rfl) ?_
    refine va_slen hx hb hX hbl hbA hS dL_law_20 ?_
    refine lv_topi (fun x4429 ex4429 => ?_)
    obtain rfl : x4429 = 6 := ex4429.trans (by decide +kernel)
    refine lv_bipush (v := 6) hx hb dL_law_21 (by decide +kernel) ?_
    refine lv_isub hx hb dL_law_23 ?_
    refine lv_topi (fun x4430 ex4430 => ?_)
    obtain rfl : x4430 = 0 := ex4430.trans (by decide +kernel)
    refine lv_icmp_gt (tgt := 839) hx hb dL_law_24 (by decide +kernel) (fun _ => ?_) (fun h => absurd (by decide +kernel) h)
    refine lv_iconst (v := 1) hx hb dL_law_839 (by decide +kernel) ?_
    refine va_forget (fun q hq => hAl _ (hS.2.2 q hq)) ?_
    refine W.widen (k := 600000) (n := 7302250) (by omega) (by omega) ?_
    exact lw_ret hx hb hr hlocks dL_law_840
set_option maxHeartbeats 4000000 in
set_option maxRecDepth 100000 in
theorem law_17 {p : Program} {e : Env} {s : State} {m : MethodId} {below : List Frame} {meth : Method} {c : Code} (l : Launch) {b : Nat} {xs : Nat → Int32} {A : Nat → Prop} {dC : Nat → ClassId} {dI : Nat → Nat → Nat} (C0 : lw_At p s m meth c b 6 xs) (hA : ∀ q : Nat, s.heap.size ≤ q → A q) (hbA : ¬ A b) (hAl : ∀ q : Nat, A q → s.heap.size ≤ q) (hE : EnvOK s) {y1 : Int32} (ey1 : xs (Int32.toNatClampNeg 1) = y1) {y2 : Int32} (ey2 : xs (Int32.toNatClampNeg 2) = y2) {k1176 : ClassId} {x0 : Nat} {q1111 : Nat} {q1112 : Nat} {q1113 : Nat} {q1114 : Nat} {q1115 : Nat} {q1116 : Nat} {q1117 : Nat} {q1118 : Nat} {q1119 : Nat} {q1120 : Nat} {q1121 : Nat} {q1122 : Nat} {q1123 : Nat} {q1168 : Nat} {q1169 : Nat} {q1170 : Nat} {q1171 : Nat} {q1172 : Nat} {q1173 : Nat} {q1174 : Nat} {q1175 : Nat} {m0 : Nat} {q2712 : Nat} {q2713 : Nat} {q2714 : Nat} {q2715 : Nat} {q2716 : Nat} {q2717 : Nat} {q2718 : Nat} {q2719 : Nat} {q2720 : Nat} {q2721 : Nat} {q2722 : Nat} {q2723 : Nat} {q2724 : Nat} {q2725 : Nat} {q2726 : Nat} {q2727 : Nat} {q2728 : Nat} {q2729 : Nat} {q2730 : Nat} {q2731 : Nat} {q2732 : Nat} {q2733 : Nat} {q2734 : Nat} {q2735 : Nat} {q2736 : Nat} {q2737 : Nat} {q2738 : Nat} {q2739 : Nat} {q2740 : Nat} {q2741 : Nat} {q2742 : Nat} {q2743 : Nat} {q2744 : Nat} {q2745 : Nat} {q2746 : Nat} {q2747 : Nat} {q2748 : Nat} {q2749 : Nat} {q2750 : Nat} {q2751 : Nat} {q2752 : Nat} {q2753 : Nat} {q2754 : Nat} {q2755 : Nat} {q2756 : Nat} {H : Heap} {locs : List Loc} {ls : Array Slot} (hK : va_K (dC, dI) vwCl [(k1176, .int)] s) (hP : va_P (dC, dI) vwCl [(x0, .inr (11, [.ref q1111, .ref q1112, .int 0, .int (-1), .ref q1113, .ref q1114, .ref q1115, .ref q1116, .ref q1117, .ref q1118, .ref q1119, .int 0, .ref q1120, .int 0, .ref q1121, .ref q1122, .ref q1123])), (q1118, .inr (0, [.ref q1168, .ref q1169, .ref q1170, .ref q1171, .ref q1172, .ref q1173])), (q1171, .inl (k1176, 7, .inl (fun _ => 0))), (q1168, .inr (10, [.int 24, .ref q1174, .ref q1175, .int 0])), (m0, .inr (12, (.ref q2712 :: .int 0 :: .int 0 :: .int 0 :: .int 0 :: .int 0 :: .int 0 :: .int 0 :: .int (-1) :: .int 0 :: .ref q2713 :: .ref q2714 :: .ref q2715 :: .ref q2716 :: .ref q2717 :: .ref q2718 :: .ref q2719 :: .ref q2720 :: .ref q2721 :: .ref q2722 :: .ref q2723 :: .ref q2724 :: .ref q2725 :: .int 0 :: .ref q2726 :: .ref q2727 :: .ref q2728 :: .int 0 :: .ref q2729 :: .ref q2730 :: .int 0 :: .ref q2731 :: .ref q2732 :: .ref q2733 :: .int 0 :: .int 0 :: .int 0 :: .ref q2734 :: .ref q2735 :: .int 0 :: .ref q2736 :: .ref q2737 :: .ref q2738 :: .ref q2739 :: .int 0 :: .ref q2740 :: .ref q2741 :: .int 0 :: .int 0 :: .ref q2742 :: .ref q2743 :: .int 0 :: .ref q2744 :: .ref q2745 :: .ref q2746 :: .ref q2747 :: .int 0 :: .ref q2748 :: .ref q2749 :: .int 0 :: .ref q2750 :: .ref q2751 :: .int 0 :: .ref q2752 :: .ref q2753 :: .int 0 :: .int 0 :: .ref q2754 :: .ref q2755 :: .ref q2756 :: .int 0 :: [])))] H) (hD : va_D A [(x0, .inr (11, [.ref q1111, .ref q1112, .int 0, .int (-1), .ref q1113, .ref q1114, .ref q1115, .ref q1116, .ref q1117, .ref q1118, .ref q1119, .int 0, .ref q1120, .int 0, .ref q1121, .ref q1122, .ref q1123])), (q1118, .inr (0, [.ref q1168, .ref q1169, .ref q1170, .ref q1171, .ref q1172, .ref q1173])), (q1171, .inl (k1176, 7, .inl (fun _ => 0))), (q1168, .inr (10, [.int 24, .ref q1174, .ref q1175, .int 0])), (m0, .inr (12, (.ref q2712 :: .int 0 :: .int 0 :: .int 0 :: .int 0 :: .int 0 :: .int 0 :: .int 0 :: .int (-1) :: .int 0 :: .ref q2713 :: .ref q2714 :: .ref q2715 :: .ref q2716 :: .ref q2717 :: .ref q2718 :: .ref q2719 :: .ref q2720 :: .ref q2721 :: .ref q2722 :: .ref q2723 :: .ref q2724 :: .ref q2725 :: .int 0 :: .ref q2726 :: .ref q2727 :: .ref q2728 :: .int 0 :: .ref q2729 :: .ref q2730 :: .int 0 :: .ref q2731 :: .ref q2732 :: .ref q2733 :: .int 0 :: .int 0 :: .int 0 :: .ref q2734 :: .ref q2735 :: .int 0 :: .ref q2736 :: .ref q2737 :: .ref q2738 :: .ref q2739 :: .int 0 :: .ref q2740 :: .ref q2741 :: .int 0 :: .int 0 :: .ref q2742 :: .ref q2743 :: .int 0 :: .ref q2744 :: .ref q2745 :: .ref q2746 :: .ref q2747 :: .int 0 :: .ref q2748 :: .ref q2749 :: .int 0 :: .ref q2750 :: .ref q2751 :: .int 0 :: .ref q2752 :: .ref q2753 :: .int 0 :: .int 0 :: .ref q2754 :: .ref q2755 :: .ref q2756 :: .int 0 :: [])))]) (hS : va_S A s.heap H locs) (hl : lv_has ls 4 [(3, .int 0), (2, .ref m0), (1, .ref x0), (0, .ref b)]) : W p l e room_1 s m #[Value.ref b] below meth c H locs 126 277922 (lw_Z below #[Value.ref b] s) (F0 m 619 ls []) := by
  obtain ⟨hx, hb, hr, hml, hown, hts, hX, hbl, hlocks, hgv⟩ := C0
  have hts := fun w h => hts w (wmL_law_in w h)
  have hS : va_S A s.heap H locs := hS
  refine lv_aload_n hx hb dL_law_619 rfl (lv_at hl 2 rfl) ?_
  refine lv_aload_n hx hb dL_law_620 rfl (lv_at hl 3 rfl) ?_
  refine lv_iload_n hx hb dL_law_621 rfl (lv_at hl 0 rfl) ?_
  refine lv_iconst (v := 1) hx hb dL_law_622 (by decide +kernel) ?_
  refine lv_iadd hx hb dL_law_623 ?_
  refine lv_topi (fun x4431 ex4431 => ?_)
  obtain rfl : x4431 = 1 := ex4431.trans (by decide +kernel)
  refine va_sld hx hb hX hbl hbA hS (by unfold vp_in; decide) dL_law_624 ?_
  refine lv_topi (fun x4432 ex4432 => ?_)
  obtain rfl : y1 = x4432 := (ex4432.trans ey1).symm
  refine lv_aload_n hx hb dL_law_625 rfl (lv_at hl 3 rfl) ?_
  refine lv_iload_n hx hb dL_law_626 rfl (lv_at hl 0 rfl) ?_
  refine lv_iconst (v := 2) hx hb dL_law_627 (by decide +kernel) ?_
  refine lv_iadd hx hb dL_law_628 ?_
  refine lv_topi (fun x4433 ex4433 => ?_)
  obtain rfl : x4433 = 2 := ex4433.trans (by decide +kernel)
  refine va_sld hx hb hX hbl hbA hS (by unfold vp_in; decide) dL_law_629 ?_
  refine lv_topi (fun x4434 ex4434 => ?_)
  obtain rfl : y2 = x4434 := (ex4434.trans ey2).symm
  have hPc := hP.sub (ws' := [(x0, .inr (11, [.ref q1111, .ref q1112, .int 0, .int (-1), .ref q1113, .ref q1114, .ref q1115, .ref q1116, .ref q1117, .ref q1118, .ref q1119, .int 0, .ref q1120, .int 0, .ref q1121, .ref q1122, .ref q1123])), (q1118, .inr (0, [.ref q1168, .ref q1169, .ref q1170, .ref q1171, .ref q1172, .ref q1173])), (q1171, .inl (k1176, 7, .inl (fun _ => 0))), (q1168, .inr (10, [.int 24, .ref q1174, .ref q1175, .int 0]))]) [0, 1, 2, 3] rfl
  have hDc := hD.sub (ws' := [(x0, .inr (11, [.ref q1111, .ref q1112, .int 0, .int (-1), .ref q1113, .ref q1114, .ref q1115, .ref q1116, .ref q1117, .ref q1118, .ref q1119, .int 0, .ref q1120, .int 0, .ref q1121, .ref q1122, .ref q1123])), (q1118, .inr (0, [.ref q1168, .ref q1169, .ref q1170, .ref q1171, .ref q1172, .ref q1173])), (q1171, .inl (k1176, 7, .inl (fun _ => 0))), (q1168, .inr (10, [.int 24, .ref q1174, .ref q1175, .int 0]))]) [0, 1, 2, 3] (by decide +kernel) rfl
  have hKc := hK.sub (tys' := [(k1176, .int)]) [0] rfl
  have hFc := va_free (wc := [(x0, .inr (11, [.ref q1111, .ref q1112, .int 0, .int (-1), .ref q1113, .ref q1114, .ref q1115, .ref q1116, .ref q1117, .ref q1118, .ref q1119, .int 0, .ref q1120, .int 0, .ref q1121, .ref q1122, .ref q1123])), (q1118, .inr (0, [.ref q1168, .ref q1169, .ref q1170, .ref q1171, .ref q1172, .ref q1173])), (q1171, .inl (k1176, 7, .inl (fun _ => 0))), (q1168, .inr (10, [.int 24, .ref q1174, .ref q1175, .int 0]))]) hD hS hA [0, 1, 2, 3] rfl
  refine va_calli (va_runV (As := [.int y1, .int y2]) (rest := []) ⟨hx, hb, hml, hown, hts⟩ (c_X11_tell_0 l dC dI H.size x0 q1111 q1112 q1113 q1114 q1115 q1116 q1117 q1118 q1119 q1120 q1121 q1122 q1123 q1168 q1169 q1170 q1171 q1172 q1173 q1174 q1175 k1176 y1 y2) (cwV 2 hts gv_L_law_X11_tell_85 rfl rfl rfl (by decide +kernel) ⟨Nat.le_of_ble_eq_true rfl, Nat.le_of_ble_eq_true rfl⟩) ⟨fun a U g mk q => by obtain ⟨q0, q1, qP, qK, qD⟩ := q; exact ⟨q0, q1, qP, va_K.moved (u := U) (U := U.calling g mk a) (Vm.Alike.refl U.vm) qK, qD⟩, va_recv hKc hPc (ci := 11) (q0 := 0) rfl rfl, fun U hU hW => ⟨rfl, by rw [hU], by rw [hU]; exact hPc, va_K.moved hW.alike hKc, hDc.weaken (fun _ _ _ _ => trivial)⟩⟩ rfl rfl hl.1 rfl (lv_room (Nat.le_of_ble_eq_true rfl)) dL_law_630 ⟨Nat.le_of_ble_eq_true rfl, Nat.le_of_ble_eq_true rfl⟩) hS (fun q _ h => hFc q h) hFc (fun r4446 u t H1 locs ht hvm hw hB hz1 hk1 hS => ?_)
  obtain ⟨hP1, hK1, hD1⟩ := hB
  rw [ht] at hP1
  have hK1 := va_K.moved hvm.symm hK1
  obtain ⟨hP, hD⟩ := va_join (wr := [(m0, .inr (12, (.ref q2712 :: .int 0 :: .int 0 :: .int 0 :: .int 0 :: .int 0 :: .int 0 :: .int 0 :: .int (-1) :: .int 0 :: .ref q2713 :: .ref q2714 :: .ref q2715 :: .ref q2716 :: .ref q2717 :: .ref q2718 :: .ref q2719 :: .ref q2720 :: .ref q2721 :: .ref q2722 :: .ref q2723 :: .ref q2724 :: .ref q2725 :: .int 0 :: .ref q2726 :: .ref q2727 :: .ref q2728 :: .int 0 :: .ref q2729 :: .ref q2730 :: .int 0 :: .ref q2731 :: .ref q2732 :: .ref q2733 :: .int 0 :: .int 0 :: .int 0 :: .ref q2734 :: .ref q2735 :: .int 0 :: .ref q2736 :: .ref q2737 :: .ref q2738 :: .ref q2739 :: .int 0 :: .ref q2740 :: .ref q2741 :: .int 0 :: .int 0 :: .ref q2742 :: .ref q2743 :: .int 0 :: .ref q2744 :: .ref q2745 :: .ref q2746 :: .ref q2747 :: .int 0 :: .ref q2748 :: .ref q2749 :: .int 0 :: .ref q2750 :: .ref q2751 :: .int 0 :: .ref q2752 :: .ref q2753 :: .int 0 :: .int 0 :: .ref q2754 :: .ref q2755 :: .ref q2756 :: .int 0 :: [])))]) (w1 := []) hP hD [0, 1, 2, 3] [4] rfl rfl (by decide +kernel) (by decide +kernel) hk1 hFc hP1 hD1
  have hK := (hK.sub (tys' := [(k1176, .int)]) [0] rfl).app hK1
  generalize H1 = H at hP hS ⊢
  have hK : va_K (dC, dI) vwCl [(k1176, .int)] s := hK
  have hP : va_P (dC, dI) vwCl [(m0, .inr (12, (.ref q2712 :: .int 0 :: .int 0 :: .int 0 :: .int 0 :: .int 0 :: .int 0 :: .int 0 :: .int (-1) :: .int 0 :: .ref q2713 :: .ref q2714 :: .ref q2715 :: .ref q2716 :: .ref q2717 :: .ref q2718 :: .ref q2719 :: .ref q2720 :: .ref q2721 :: .ref q2722 :: .ref q2723 :: .ref q2724 :: .ref q2725 :: .int 0 :: .ref q2726 :: .ref q2727 :: .ref q2728 :: .int 0 :: .ref q2729 :: .ref q2730 :: .int 0 :: .ref q2731 :: .ref q2732 :: .ref q2733 :: .int 0 :: .int 0 :: .int 0 :: .ref q2734 :: .ref q2735 :: .int 0 :: .ref q2736 :: .ref q2737 :: .ref q2738 :: .ref q2739 :: .int 0 :: .ref q2740 :: .ref q2741 :: .int 0 :: .int 0 :: .ref q2742 :: .ref q2743 :: .int 0 :: .ref q2744 :: .ref q2745 :: .ref q2746 :: .ref q2747 :: .int 0 :: .ref q2748 :: .ref q2749 :: .int 0 :: .ref q2750 :: .ref q2751 :: .int 0 :: .ref q2752 :: .ref q2753 :: .int 0 :: .int 0 :: .ref q2754 :: .ref q2755 :: .ref q2756 :: .int 0 :: [])))] H := hP
  have hD : va_D A [(m0, .inr (12, (.ref q2712 :: .int 0 :: .int 0 :: .int 0 :: .int 0 :: .int 0 :: .int 0 :: .int 0 :: .int (-1) :: .int 0 :: .ref q2713 :: .ref q2714 :: .ref q2715 :: .ref q2716 :: .ref q2717 :: .ref q2718 :: .ref q2719 :: .ref q2720 :: .ref q2721 :: .ref q2722 :: .ref q2723 :: .ref q2724 :: .ref q2725 :: .int 0 :: .ref q2726 :: .ref q2727 :: .ref q2728 :: .int 0 :: .ref q2729 :: .ref q2730 :: .int 0 :: .ref q2731 :: .ref q2732 :: .ref q2733 :: .int 0 :: .int 0 :: .int 0 :: .ref q2734 :: .ref q2735 :: .int 0 :: .ref q2736 :: .ref q2737 :: .ref q2738 :: .ref q2739 :: .int 0 :: .ref q2740 :: .ref q2741 :: .int 0 :: .int 0 :: .ref q2742 :: .ref q2743 :: .int 0 :: .ref q2744 :: .ref q2745 :: .ref q2746 :: .ref q2747 :: .int 0 :: .ref q2748 :: .ref q2749 :: .int 0 :: .ref q2750 :: .ref q2751 :: .int 0 :: .ref q2752 :: .ref q2753 :: .int 0 :: .int 0 :: .ref q2754 :: .ref q2755 :: .ref q2756 :: .int 0 :: [])))] := hD
  rcases hw with ⟨c4447, hw⟩ | ⟨c4448, c4449, hw⟩ | ⟨c4450, c4451, c4452, hw⟩ | ⟨c4453, c4454, c4455, c4456, hw⟩ | ⟨c4457, c4458, c4459, c4460, hw⟩
  · skip
    obtain rfl : r4446 = (-2) := hw
    refine lv_aload_n hx hb dL_law_633 rfl (lv_at hl 1 rfl) ?_
    refine lv_aload_n hx hb dL_law_634 rfl (lv_at hl 3 rfl) ?_
    refine lv_iload_n hx hb dL_law_635 rfl (lv_at hl 0 rfl) ?_
    refine lv_iconst (v := 1) hx hb dL_law_636 (by decide +kernel) ?_
    refine lv_iadd hx hb dL_law_637 ?_
    refine lv_topi (fun x4461 ex4461 => ?_)
    obtain rfl : x4461 = 1 := ex4461.trans (by decide +kernel)
    refine va_sld hx hb hX hbl hbA hS (by unfold vp_in; decide) dL_law_638 ?_
    refine lv_topi (fun x4462 ex4462 => ?_)
    obtain rfl : y1 = x4462 := (ex4462.trans ey1).symm
    refine lv_aload_n hx hb dL_law_639 rfl (lv_at hl 3 rfl) ?_
    refine lv_iload_n hx hb dL_law_640 rfl (lv_at hl 0 rfl) ?_
    refine lv_iconst (v := 2) hx hb dL_law_641 (by decide +kernel) ?_
    refine lv_iadd hx hb dL_law_642 ?_
    refine lv_topi (fun x4463 ex4463 => ?_)
    obtain rfl : x4463 = 2 := ex4463.trans (by decide +kernel)
    refine va_sld hx hb hX hbl hbA hS (by unfold vp_in; decide) dL_law_643 ?_
    refine lv_topi (fun x4464 ex4464 => ?_)
    obtain rfl : y2 = x4464 := (ex4464.trans ey2).symm
    have hPc := hP.sub (ws' := [(m0, .inr (12, (.ref q2712 :: .int 0 :: .int 0 :: .int 0 :: .int 0 :: .int 0 :: .int 0 :: .int 0 :: .int (-1) :: .int 0 :: .ref q2713 :: .ref q2714 :: .ref q2715 :: .ref q2716 :: .ref q2717 :: .ref q2718 :: .ref q2719 :: .ref q2720 :: .ref q2721 :: .ref q2722 :: .ref q2723 :: .ref q2724 :: .ref q2725 :: .int 0 :: .ref q2726 :: .ref q2727 :: .ref q2728 :: .int 0 :: .ref q2729 :: .ref q2730 :: .int 0 :: .ref q2731 :: .ref q2732 :: .ref q2733 :: .int 0 :: .int 0 :: .int 0 :: .ref q2734 :: .ref q2735 :: .int 0 :: .ref q2736 :: .ref q2737 :: .ref q2738 :: .ref q2739 :: .int 0 :: .ref q2740 :: .ref q2741 :: .int 0 :: .int 0 :: .ref q2742 :: .ref q2743 :: .int 0 :: .ref q2744 :: .ref q2745 :: .ref q2746 :: .ref q2747 :: .int 0 :: .ref q2748 :: .ref q2749 :: .int 0 :: .ref q2750 :: .ref q2751 :: .int 0 :: .ref q2752 :: .ref q2753 :: .int 0 :: .int 0 :: .ref q2754 :: .ref q2755 :: .ref q2756 :: .int 0 :: [])))]) [0] rfl
    have hDc := hD.sub (ws' := [(m0, .inr (12, (.ref q2712 :: .int 0 :: .int 0 :: .int 0 :: .int 0 :: .int 0 :: .int 0 :: .int 0 :: .int (-1) :: .int 0 :: .ref q2713 :: .ref q2714 :: .ref q2715 :: .ref q2716 :: .ref q2717 :: .ref q2718 :: .ref q2719 :: .ref q2720 :: .ref q2721 :: .ref q2722 :: .ref q2723 :: .ref q2724 :: .ref q2725 :: .int 0 :: .ref q2726 :: .ref q2727 :: .ref q2728 :: .int 0 :: .ref q2729 :: .ref q2730 :: .int 0 :: .ref q2731 :: .ref q2732 :: .ref q2733 :: .int 0 :: .int 0 :: .int 0 :: .ref q2734 :: .ref q2735 :: .int 0 :: .ref q2736 :: .ref q2737 :: .ref q2738 :: .ref q2739 :: .int 0 :: .ref q2740 :: .ref q2741 :: .int 0 :: .int 0 :: .ref q2742 :: .ref q2743 :: .int 0 :: .ref q2744 :: .ref q2745 :: .ref q2746 :: .ref q2747 :: .int 0 :: .ref q2748 :: .ref q2749 :: .int 0 :: .ref q2750 :: .ref q2751 :: .int 0 :: .ref q2752 :: .ref q2753 :: .int 0 :: .int 0 :: .ref q2754 :: .ref q2755 :: .ref q2756 :: .int 0 :: [])))]) [0] (by decide +kernel) rfl
    have hKc := hK.sub (tys' := []) [] rfl
    have hFc := va_free (wc := [(m0, .inr (12, (.ref q2712 :: .int 0 :: .int 0 :: .int 0 :: .int 0 :: .int 0 :: .int 0 :: .int 0 :: .int (-1) :: .int 0 :: .ref q2713 :: .ref q2714 :: .ref q2715 :: .ref q2716 :: .ref q2717 :: .ref q2718 :: .ref q2719 :: .ref q2720 :: .ref q2721 :: .ref q2722 :: .ref q2723 :: .ref q2724 :: .ref q2725 :: .int 0 :: .ref q2726 :: .ref q2727 :: .ref q2728 :: .int 0 :: .ref q2729 :: .ref q2730 :: .int 0 :: .ref q2731 :: .ref q2732 :: .ref q2733 :: .int 0 :: .int 0 :: .int 0 :: .ref q2734 :: .ref q2735 :: .int 0 :: .ref q2736 :: .ref q2737 :: .ref q2738 :: .ref q2739 :: .int 0 :: .ref q2740 :: .ref q2741 :: .int 0 :: .int 0 :: .ref q2742 :: .ref q2743 :: .int 0 :: .ref q2744 :: .ref q2745 :: .ref q2746 :: .ref q2747 :: .int 0 :: .ref q2748 :: .ref q2749 :: .int 0 :: .ref q2750 :: .ref q2751 :: .int 0 :: .ref q2752 :: .ref q2753 :: .int 0 :: .int 0 :: .ref q2754 :: .ref q2755 :: .ref q2756 :: .int 0 :: [])))]) hD hS hA [0] rfl
    refine va_calli (va_runV (As := [.int y1, .int y2]) (rest := [.int (-2)]) ⟨hx, hb, hml, hown, hts⟩ (c_X12_tell_0 l dC dI H.size m0 q2712 q2713 q2714 q2715 q2716 q2717 q2718 q2719 q2720 q2721 q2722 q2723 q2724 q2725 q2726 q2727 q2728 q2729 q2730 q2731 q2732 q2733 q2734 q2735 q2736 q2737 q2738 q2739 q2740 q2741 q2742 q2743 q2744 q2745 q2746 q2747 q2748 q2749 q2750 q2751 q2752 q2753 q2754 q2755 q2756 y1 y2) (cwV 2 hts gv_L_law_X12_tell_88 rfl rfl rfl (by decide +kernel) ⟨Nat.le_of_ble_eq_true rfl, Nat.le_of_ble_eq_true rfl⟩) ⟨fun a U g mk q => by obtain ⟨q0, q1, qP, qK, qD⟩ := q; exact ⟨q0, q1, qP, va_K.moved (u := U) (U := U.calling g mk a) (Vm.Alike.refl U.vm) qK, qD⟩, va_recv hKc hPc (ci := 12) (q0 := 0) rfl rfl, fun U hU hW => ⟨rfl, by rw [hU], by rw [hU]; exact hPc, va_K.moved hW.alike hKc, hDc.weaken (fun _ _ _ _ => trivial)⟩⟩ rfl rfl hl.1 rfl (lv_room (Nat.le_of_ble_eq_true rfl)) dL_law_644 ⟨Nat.le_of_ble_eq_true rfl, Nat.le_of_ble_eq_true rfl⟩) hS (fun q _ h => hFc q h) hFc (fun r4484 u t H1 locs ht hvm hw hB hz1 hk1 hS => ?_)
    obtain ⟨hP1, hK1, hD1⟩ := hB
    rw [ht] at hP1
    have hK1 := va_K.moved hvm.symm hK1
    obtain ⟨hP, hD⟩ := va_join (wr := []) (w1 := []) hP hD [0] [] rfl rfl (by decide +kernel) (by decide +kernel) hk1 hFc hP1 hD1
    have hK := (hK.sub (tys' := [(k1176, .int)]) [0] rfl).app hK1
    generalize H1 = H at hP hS ⊢
    have hK : va_K (dC, dI) vwCl [(k1176, .int)] s := hK
    have hP : va_P (dC, dI) vwCl [] H := hP
    have hD : va_D A [] := hD
    rcases hw with ⟨c4485, hw⟩ | ⟨c4486, c4487, hw⟩ | ⟨c4488, c4489, c4490, hw⟩ | ⟨c4491, c4492, c4493, c4494, hw⟩ | ⟨c4495, c4496, c4497, c4498, hw⟩
    · skip
      obtain rfl : r4484 = (-2) := hw
      refine lv_icmp_eq (tgt := 833) hx hb dL_law_647 (by decide +kernel) (fun _ => ?_) (fun h => absurd (by decide +kernel) h)
      refine lv_iinc (v := 6) (lv' := [(3, .int 6), (2, .ref m0), (1, .ref x0), (0, .ref b)]) hx hb dL_law_833 hl (k := 0) rfl (by decide +kernel) (by decide +kernel) rfl (fun ls hl => ?_)
      refine lv_goto (tgt := 18) hx hb dL_law_836 (by decide +kernel) ?_
      refine lv_iload_n hx hb dL_law_18 rfl (lv_at hl 0 rfl) ?_
      refine lv_aload_n hx hb dL_law_19 rfl (lv_at hl 3 rfl) ?_
      refine va_slen hx hb hX hbl hbA hS dL_law_20 ?_
      refine lv_topi (fun x4499 ex4499 => ?_)
      obtain rfl : x4499 = 6 := ex4499.trans (by decide +kernel)
      refine lv_bipush (v := 6) hx hb dL_law_21 (by decide +kernel) ?_
      refine lv_isub hx hb dL_law_23 ?_
      refine lv_topi (fun x4500 ex4500 => ?_)
      obtain rfl : x4500 = 0 := ex4500.trans (by decide +kernel)
      refine lv_icmp_gt (tgt := 839) hx hb dL_law_24 (by decide +kernel) (fun _ => ?_) (fun h => absurd (by decide +kernel) h)
      refine lv_iconst (v := 1) hx hb dL_law_839 (by decide +kernel) ?_
      refine va_forget (fun q hq => hAl _ (hS.2.2 q hq)) ?_
      refine W.widen (k := 600000) (n := 7302250) (by omega) (by omega) ?_
      exact lw_ret hx hb hr hlocks dL_law_840
    · skip
      obtain rfl : r4484 = (-2) := hw
      exfalso
      simp only [z_lt, z_le, z_eqi, zl_m2, zl_m1, zl_0, zl_1, zl_2, zl_50, zl_100000] at c4447 c4486 c4487
      omega
    · skip
      obtain rfl : r4484 = (-2) := hw
      exfalso
      simp only [z_lt, z_le, z_eqi, zl_m2, zl_m1, zl_0, zl_1, zl_2, zl_50, zl_100000] at c4447 c4488 c4489
      omega
    · skip
      obtain rfl : r4484 = (-2) := hw
      exfalso
      simp only [z_lt, z_le, z_eqi, zl_m2, zl_m1, zl_0, zl_1, zl_2, zl_50, zl_100000] at c4447 c4491 c4492
      omega
    · skip
      obtain rfl : r4484 = 0 := hw
      exfalso
      simp only [z_lt, z_le, z_eqi, zl_m2, zl_m1, zl_0, zl_1, zl_2, zl_50, zl_100000] at c4447 c4495 c4496
      omega
  · skip
    obtain rfl : r4446 = (-2) := hw
    refine lv_aload_n hx hb dL_law_633 rfl (lv_at hl 1 rfl) ?_
    refine lv_aload_n hx hb dL_law_634 rfl (lv_at hl 3 rfl) ?_
    refine lv_iload_n hx hb dL_law_635 rfl (lv_at hl 0 rfl) ?_
    refine lv_iconst (v := 1) hx hb dL_law_636 (by decide +kernel) ?_
    refine lv_iadd hx hb dL_law_637 ?_
    refine lv_topi (fun x4501 ex4501 => ?_)
    obtain rfl : x4501 = 1 := ex4501.trans (by decide +kernel)
    refine va_sld hx hb hX hbl hbA hS (by unfold vp_in; decide) dL_law_638 ?_
    refine lv_topi (fun x4502 ex4502 => ?_)
    obtain rfl : y1 = x4502 := (ex4502.trans ey1).symm
    refine lv_aload_n hx hb dL_law_639 rfl (lv_at hl 3 rfl) ?_
    refine lv_iload_n hx hb dL_law_640 rfl (lv_at hl 0 rfl) ?_
    refine lv_iconst (v := 2) hx hb dL_law_641 (by decide +kernel) ?_
    refine lv_iadd hx hb dL_law_642 ?_
    refine lv_topi (fun x4503 ex4503 => ?_)
    obtain rfl : x4503 = 2 := ex4503.trans (by decide +kernel)
    refine va_sld hx hb hX hbl hbA hS (by unfold vp_in; decide) dL_law_643 ?_
    refine lv_topi (fun x4504 ex4504 => ?_)
    obtain rfl : y2 = x4504 := (ex4504.trans ey2).symm
    have hPc := hP.sub (ws' := [(m0, .inr (12, (.ref q2712 :: .int 0 :: .int 0 :: .int 0 :: .int 0 :: .int 0 :: .int 0 :: .int 0 :: .int (-1) :: .int 0 :: .ref q2713 :: .ref q2714 :: .ref q2715 :: .ref q2716 :: .ref q2717 :: .ref q2718 :: .ref q2719 :: .ref q2720 :: .ref q2721 :: .ref q2722 :: .ref q2723 :: .ref q2724 :: .ref q2725 :: .int 0 :: .ref q2726 :: .ref q2727 :: .ref q2728 :: .int 0 :: .ref q2729 :: .ref q2730 :: .int 0 :: .ref q2731 :: .ref q2732 :: .ref q2733 :: .int 0 :: .int 0 :: .int 0 :: .ref q2734 :: .ref q2735 :: .int 0 :: .ref q2736 :: .ref q2737 :: .ref q2738 :: .ref q2739 :: .int 0 :: .ref q2740 :: .ref q2741 :: .int 0 :: .int 0 :: .ref q2742 :: .ref q2743 :: .int 0 :: .ref q2744 :: .ref q2745 :: .ref q2746 :: .ref q2747 :: .int 0 :: .ref q2748 :: .ref q2749 :: .int 0 :: .ref q2750 :: .ref q2751 :: .int 0 :: .ref q2752 :: .ref q2753 :: .int 0 :: .int 0 :: .ref q2754 :: .ref q2755 :: .ref q2756 :: .int 0 :: [])))]) [0] rfl
    have hDc := hD.sub (ws' := [(m0, .inr (12, (.ref q2712 :: .int 0 :: .int 0 :: .int 0 :: .int 0 :: .int 0 :: .int 0 :: .int 0 :: .int (-1) :: .int 0 :: .ref q2713 :: .ref q2714 :: .ref q2715 :: .ref q2716 :: .ref q2717 :: .ref q2718 :: .ref q2719 :: .ref q2720 :: .ref q2721 :: .ref q2722 :: .ref q2723 :: .ref q2724 :: .ref q2725 :: .int 0 :: .ref q2726 :: .ref q2727 :: .ref q2728 :: .int 0 :: .ref q2729 :: .ref q2730 :: .int 0 :: .ref q2731 :: .ref q2732 :: .ref q2733 :: .int 0 :: .int 0 :: .int 0 :: .ref q2734 :: .ref q2735 :: .int 0 :: .ref q2736 :: .ref q2737 :: .ref q2738 :: .ref q2739 :: .int 0 :: .ref q2740 :: .ref q2741 :: .int 0 :: .int 0 :: .ref q2742 :: .ref q2743 :: .int 0 :: .ref q2744 :: .ref q2745 :: .ref q2746 :: .ref q2747 :: .int 0 :: .ref q2748 :: .ref q2749 :: .int 0 :: .ref q2750 :: .ref q2751 :: .int 0 :: .ref q2752 :: .ref q2753 :: .int 0 :: .int 0 :: .ref q2754 :: .ref q2755 :: .ref q2756 :: .int 0 :: [])))]) [0] (by decide +kernel) rfl
    have hKc := hK.sub (tys' := []) [] rfl
    have hFc := va_free (wc := [(m0, .inr (12, (.ref q2712 :: .int 0 :: .int 0 :: .int 0 :: .int 0 :: .int 0 :: .int 0 :: .int 0 :: .int (-1) :: .int 0 :: .ref q2713 :: .ref q2714 :: .ref q2715 :: .ref q2716 :: .ref q2717 :: .ref q2718 :: .ref q2719 :: .ref q2720 :: .ref q2721 :: .ref q2722 :: .ref q2723 :: .ref q2724 :: .ref q2725 :: .int 0 :: .ref q2726 :: .ref q2727 :: .ref q2728 :: .int 0 :: .ref q2729 :: .ref q2730 :: .int 0 :: .ref q2731 :: .ref q2732 :: .ref q2733 :: .int 0 :: .int 0 :: .int 0 :: .ref q2734 :: .ref q2735 :: .int 0 :: .ref q2736 :: .ref q2737 :: .ref q2738 :: .ref q2739 :: .int 0 :: .ref q2740 :: .ref q2741 :: .int 0 :: .int 0 :: .ref q2742 :: .ref q2743 :: .int 0 :: .ref q2744 :: .ref q2745 :: .ref q2746 :: .ref q2747 :: .int 0 :: .ref q2748 :: .ref q2749 :: .int 0 :: .ref q2750 :: .ref q2751 :: .int 0 :: .ref q2752 :: .ref q2753 :: .int 0 :: .int 0 :: .ref q2754 :: .ref q2755 :: .ref q2756 :: .int 0 :: [])))]) hD hS hA [0] rfl
    refine va_calli (va_runV (As := [.int y1, .int y2]) (rest := [.int (-2)]) ⟨hx, hb, hml, hown, hts⟩ (c_X12_tell_0 l dC dI H.size m0 q2712 q2713 q2714 q2715 q2716 q2717 q2718 q2719 q2720 q2721 q2722 q2723 q2724 q2725 q2726 q2727 q2728 q2729 q2730 q2731 q2732 q2733 q2734 q2735 q2736 q2737 q2738 q2739 q2740 q2741 q2742 q2743 q2744 q2745 q2746 q2747 q2748 q2749 q2750 q2751 q2752 q2753 q2754 q2755 q2756 y1 y2) (cwV 2 hts gv_L_law_X12_tell_88 rfl rfl rfl (by decide +kernel) ⟨Nat.le_of_ble_eq_true rfl, Nat.le_of_ble_eq_true rfl⟩) ⟨fun a U g mk q => by obtain ⟨q0, q1, qP, qK, qD⟩ := q; exact ⟨q0, q1, qP, va_K.moved (u := U) (U := U.calling g mk a) (Vm.Alike.refl U.vm) qK, qD⟩, va_recv hKc hPc (ci := 12) (q0 := 0) rfl rfl, fun U hU hW => ⟨rfl, by rw [hU], by rw [hU]; exact hPc, va_K.moved hW.alike hKc, hDc.weaken (fun _ _ _ _ => trivial)⟩⟩ rfl rfl hl.1 rfl (lv_room (Nat.le_of_ble_eq_true rfl)) dL_law_644 ⟨Nat.le_of_ble_eq_true rfl, Nat.le_of_ble_eq_true rfl⟩) hS (fun q _ h => hFc q h) hFc (fun r4524 u t H1 locs ht hvm hw hB hz1 hk1 hS => ?_)
    obtain ⟨hP1, hK1, hD1⟩ := hB
    rw [ht] at hP1
    have hK1 := va_K.moved hvm.symm hK1
    obtain ⟨hP, hD⟩ := va_join (wr := []) (w1 := []) hP hD [0] [] rfl rfl (by decide +kernel) (by decide +kernel) hk1 hFc hP1 hD1
    have hK := (hK.sub (tys' := [(k1176, .int)]) [0] rfl).app hK1
    generalize H1 = H at hP hS ⊢
    have hK : va_K (dC, dI) vwCl [(k1176, .int)] s := hK
    have hP : va_P (dC, dI) vwCl [] H := hP
    have hD : va_D A [] := hD
    rcases hw with ⟨c4525, hw⟩ | ⟨c4526, c4527, hw⟩ | ⟨c4528, c4529, c4530, hw⟩ | ⟨c4531, c4532, c4533, c4534, hw⟩ | ⟨c4535, c4536, c4537, c4538, hw⟩
    · skip
      obtain rfl : r4524 = (-2) := hw
      exfalso
      simp only [z_lt, z_le, z_eqi, zl_m2, zl_m1, zl_0, zl_1, zl_2, zl_50, zl_100000] at c4448 c4449 c4525
      omega
    · skip
      obtain rfl : r4524 = (-2) := hw
      refine lv_icmp_eq (tgt := 833) hx hb dL_law_647 (by decide +kernel) (fun _ => ?_) (fun h => absurd (by decide +kernel) h)
      refine lv_iinc (v := 6) (lv' := [(3, .int 6), (2, .ref m0), (1, .ref x0), (0, .ref b)]) hx hb dL_law_833 hl (k := 0) rfl (by decide +kernel) (by decide +kernel) rfl (fun ls hl => ?_)
      refine lv_goto (tgt := 18) hx hb dL_law_836 (by decide +kernel) ?_
      refine lv_iload_n hx hb dL_law_18 rfl (lv_at hl 0 rfl) ?_
      refine lv_aload_n hx hb dL_law_19 rfl (lv_at hl 3 rfl) ?_
      refine va_slen hx hb hX hbl hbA hS dL_law_20 ?_
      refine lv_topi (fun x4539 ex4539 => ?_)
      obtain rfl : x4539 = 6 := ex4539.trans (by decide +kernel)
      refine lv_bipush (v := 6) hx hb dL_law_21 (by decide +kernel) ?_
      refine lv_isub hx hb dL_law_23 ?_
      refine lv_topi (fun x4540 ex4540 => ?_)
      obtain rfl : x4540 = 0 := ex4540.trans (by decide +kernel)
      refine lv_icmp_gt (tgt := 839) hx hb dL_law_24 (by decide +kernel) (fun _ => ?_) (fun h => absurd (by decide +kernel) h)
      refine lv_iconst (v := 1) hx hb dL_law_839 (by decide +kernel) ?_
      refine va_forget (fun q hq => hAl _ (hS.2.2 q hq)) ?_
      refine W.widen (k := 600000) (n := 7302250) (by omega) (by omega) ?_
      exact lw_ret hx hb hr hlocks dL_law_840
    · skip
      obtain rfl : r4524 = (-2) := hw
      exfalso
      simp only [z_lt, z_le, z_eqi, zl_m2, zl_m1, zl_0, zl_1, zl_2, zl_50, zl_100000] at c4448 c4449 c4528 c4529
      omega
    · skip
      obtain rfl : r4524 = (-2) := hw
      exfalso
      simp only [z_lt, z_le, z_eqi, zl_m2, zl_m1, zl_0, zl_1, zl_2, zl_50, zl_100000] at c4448 c4449 c4531 c4532
      omega
    · skip
      obtain rfl : r4524 = 0 := hw
      exfalso
      simp only [z_lt, z_le, z_eqi, zl_m2, zl_m1, zl_0, zl_1, zl_2, zl_50, zl_100000] at c4448 c4449 c4535 c4536
      omega
  · skip
    obtain rfl : r4446 = (-2) := hw
    obtain rfl : y1 = 0 := z_e (by simp only [z_lt, z_le, z_eqi, zl_m2, zl_m1, zl_0, zl_1, zl_2, zl_50, zl_100000] at c4450 c4451 ⊢; omega)
    refine lv_aload_n hx hb dL_law_633 rfl (lv_at hl 1 rfl) ?_
    refine lv_aload_n hx hb dL_law_634 rfl (lv_at hl 3 rfl) ?_
    refine lv_iload_n hx hb dL_law_635 rfl (lv_at hl 0 rfl) ?_
    refine lv_iconst (v := 1) hx hb dL_law_636 (by decide +kernel) ?_
    refine lv_iadd hx hb dL_law_637 ?_
    refine lv_topi (fun x4541 ex4541 => ?_)
    obtain rfl : x4541 = 1 := ex4541.trans (by decide +kernel)
    refine va_sld hx hb hX hbl hbA hS (by unfold vp_in; decide) dL_law_638 ?_
    refine lv_topi (fun x4542 ex4542 => ?_)
    obtain rfl : 0 = x4542 := (ex4542.trans ey1).symm
    refine lv_aload_n hx hb dL_law_639 rfl (lv_at hl 3 rfl) ?_
    refine lv_iload_n hx hb dL_law_640 rfl (lv_at hl 0 rfl) ?_
    refine lv_iconst (v := 2) hx hb dL_law_641 (by decide +kernel) ?_
    refine lv_iadd hx hb dL_law_642 ?_
    refine lv_topi (fun x4543 ex4543 => ?_)
    obtain rfl : x4543 = 2 := ex4543.trans (by decide +kernel)
    refine va_sld hx hb hX hbl hbA hS (by unfold vp_in; decide) dL_law_643 ?_
    refine lv_topi (fun x4544 ex4544 => ?_)
    obtain rfl : y2 = x4544 := (ex4544.trans ey2).symm
    have hPc := hP.sub (ws' := [(m0, .inr (12, (.ref q2712 :: .int 0 :: .int 0 :: .int 0 :: .int 0 :: .int 0 :: .int 0 :: .int 0 :: .int (-1) :: .int 0 :: .ref q2713 :: .ref q2714 :: .ref q2715 :: .ref q2716 :: .ref q2717 :: .ref q2718 :: .ref q2719 :: .ref q2720 :: .ref q2721 :: .ref q2722 :: .ref q2723 :: .ref q2724 :: .ref q2725 :: .int 0 :: .ref q2726 :: .ref q2727 :: .ref q2728 :: .int 0 :: .ref q2729 :: .ref q2730 :: .int 0 :: .ref q2731 :: .ref q2732 :: .ref q2733 :: .int 0 :: .int 0 :: .int 0 :: .ref q2734 :: .ref q2735 :: .int 0 :: .ref q2736 :: .ref q2737 :: .ref q2738 :: .ref q2739 :: .int 0 :: .ref q2740 :: .ref q2741 :: .int 0 :: .int 0 :: .ref q2742 :: .ref q2743 :: .int 0 :: .ref q2744 :: .ref q2745 :: .ref q2746 :: .ref q2747 :: .int 0 :: .ref q2748 :: .ref q2749 :: .int 0 :: .ref q2750 :: .ref q2751 :: .int 0 :: .ref q2752 :: .ref q2753 :: .int 0 :: .int 0 :: .ref q2754 :: .ref q2755 :: .ref q2756 :: .int 0 :: [])))]) [0] rfl
    have hDc := hD.sub (ws' := [(m0, .inr (12, (.ref q2712 :: .int 0 :: .int 0 :: .int 0 :: .int 0 :: .int 0 :: .int 0 :: .int 0 :: .int (-1) :: .int 0 :: .ref q2713 :: .ref q2714 :: .ref q2715 :: .ref q2716 :: .ref q2717 :: .ref q2718 :: .ref q2719 :: .ref q2720 :: .ref q2721 :: .ref q2722 :: .ref q2723 :: .ref q2724 :: .ref q2725 :: .int 0 :: .ref q2726 :: .ref q2727 :: .ref q2728 :: .int 0 :: .ref q2729 :: .ref q2730 :: .int 0 :: .ref q2731 :: .ref q2732 :: .ref q2733 :: .int 0 :: .int 0 :: .int 0 :: .ref q2734 :: .ref q2735 :: .int 0 :: .ref q2736 :: .ref q2737 :: .ref q2738 :: .ref q2739 :: .int 0 :: .ref q2740 :: .ref q2741 :: .int 0 :: .int 0 :: .ref q2742 :: .ref q2743 :: .int 0 :: .ref q2744 :: .ref q2745 :: .ref q2746 :: .ref q2747 :: .int 0 :: .ref q2748 :: .ref q2749 :: .int 0 :: .ref q2750 :: .ref q2751 :: .int 0 :: .ref q2752 :: .ref q2753 :: .int 0 :: .int 0 :: .ref q2754 :: .ref q2755 :: .ref q2756 :: .int 0 :: [])))]) [0] (by decide +kernel) rfl
    have hKc := hK.sub (tys' := []) [] rfl
    have hFc := va_free (wc := [(m0, .inr (12, (.ref q2712 :: .int 0 :: .int 0 :: .int 0 :: .int 0 :: .int 0 :: .int 0 :: .int 0 :: .int (-1) :: .int 0 :: .ref q2713 :: .ref q2714 :: .ref q2715 :: .ref q2716 :: .ref q2717 :: .ref q2718 :: .ref q2719 :: .ref q2720 :: .ref q2721 :: .ref q2722 :: .ref q2723 :: .ref q2724 :: .ref q2725 :: .int 0 :: .ref q2726 :: .ref q2727 :: .ref q2728 :: .int 0 :: .ref q2729 :: .ref q2730 :: .int 0 :: .ref q2731 :: .ref q2732 :: .ref q2733 :: .int 0 :: .int 0 :: .int 0 :: .ref q2734 :: .ref q2735 :: .int 0 :: .ref q2736 :: .ref q2737 :: .ref q2738 :: .ref q2739 :: .int 0 :: .ref q2740 :: .ref q2741 :: .int 0 :: .int 0 :: .ref q2742 :: .ref q2743 :: .int 0 :: .ref q2744 :: .ref q2745 :: .ref q2746 :: .ref q2747 :: .int 0 :: .ref q2748 :: .ref q2749 :: .int 0 :: .ref q2750 :: .ref q2751 :: .int 0 :: .ref q2752 :: .ref q2753 :: .int 0 :: .int 0 :: .ref q2754 :: .ref q2755 :: .ref q2756 :: .int 0 :: [])))]) hD hS hA [0] rfl
    refine va_calli (va_runV (As := [.int 0, .int y2]) (rest := [.int (-2)]) ⟨hx, hb, hml, hown, hts⟩ (c_X12_tell_1 l dC dI H.size m0 q2712 q2713 q2714 q2715 q2716 q2717 q2718 q2719 q2720 q2721 q2722 q2723 q2724 q2725 q2726 q2727 q2728 q2729 q2730 q2731 q2732 q2733 q2734 q2735 q2736 q2737 q2738 q2739 q2740 q2741 q2742 q2743 q2744 q2745 q2746 q2747 q2748 q2749 q2750 q2751 q2752 q2753 q2754 q2755 q2756 y2) (cwV 2 hts gv_L_law_X12_tell_88 rfl rfl rfl (by decide +kernel) ⟨Nat.le_of_ble_eq_true rfl, Nat.le_of_ble_eq_true rfl⟩) ⟨fun a U g mk q => by obtain ⟨q0, q1, qP, qK, qD⟩ := q; exact ⟨q0, q1, qP, va_K.moved (u := U) (U := U.calling g mk a) (Vm.Alike.refl U.vm) qK, qD⟩, va_recv hKc hPc (ci := 12) (q0 := 0) rfl rfl, fun U hU hW => ⟨rfl, by rw [hU], by rw [hU]; exact hPc, va_K.moved hW.alike hKc, hDc.weaken (fun _ _ _ _ => trivial)⟩⟩ rfl rfl hl.1 rfl (lv_room (Nat.le_of_ble_eq_true rfl)) dL_law_644 ⟨Nat.le_of_ble_eq_true rfl, Nat.le_of_ble_eq_true rfl⟩) hS (fun q _ h => hFc q h) hFc (fun r4569 u t H1 locs ht hvm hw hB hz1 hk1 hS => ?_)
    obtain ⟨hP1, hK1, hD1⟩ := hB
    rw [ht] at hP1
    have hK1 := va_K.moved hvm.symm hK1
    obtain ⟨hP, hD⟩ := va_join (wr := []) (w1 := []) hP hD [0] [] rfl rfl (by decide +kernel) (by decide +kernel) hk1 hFc hP1 hD1
    have hK := (hK.sub (tys' := [(k1176, .int)]) [0] rfl).app hK1
    generalize H1 = H at hP hS ⊢
    have hK : va_K (dC, dI) vwCl [(k1176, .int)] s := hK
    have hP : va_P (dC, dI) vwCl [] H := hP
    have hD : va_D A [] := hD
    rcases hw with ⟨c4570, hw⟩ | ⟨c4571, c4572, hw⟩ | ⟨c4573, c4574, hw⟩
    · skip
      obtain rfl : r4569 = (-2) := hw
      refine lv_icmp_eq (tgt := 833) hx hb dL_law_647 (by decide +kernel) (fun _ => ?_) (fun h => absurd (by decide +kernel) h)
      refine lv_iinc (v := 6) (lv' := [(3, .int 6), (2, .ref m0), (1, .ref x0), (0, .ref b)]) hx hb dL_law_833 hl (k := 0) rfl (by decide +kernel) (by decide +kernel) rfl (fun ls hl => ?_)
      refine lv_goto (tgt := 18) hx hb dL_law_836 (by decide +kernel) ?_
      refine lv_iload_n hx hb dL_law_18 rfl (lv_at hl 0 rfl) ?_
      refine lv_aload_n hx hb dL_law_19 rfl (lv_at hl 3 rfl) ?_
      refine va_slen hx hb hX hbl hbA hS dL_law_20 ?_
      refine lv_topi (fun x4575 ex4575 => ?_)
      obtain rfl : x4575 = 6 := ex4575.trans (by decide +kernel)
      refine lv_bipush (v := 6) hx hb dL_law_21 (by decide +kernel) ?_
      refine lv_isub hx hb dL_law_23 ?_
      refine lv_topi (fun x4576 ex4576 => ?_)
      obtain rfl : x4576 = 0 := ex4576.trans (by decide +kernel)
      refine lv_icmp_gt (tgt := 839) hx hb dL_law_24 (by decide +kernel) (fun _ => ?_) (fun h => absurd (by decide +kernel) h)
      refine lv_iconst (v := 1) hx hb dL_law_839 (by decide +kernel) ?_
      refine va_forget (fun q hq => hAl _ (hS.2.2 q hq)) ?_
      refine W.widen (k := 600000) (n := 7302250) (by omega) (by omega) ?_
      exact lw_ret hx hb hr hlocks dL_law_840
    · skip
      obtain rfl : r4569 = (-2) := hw
      exfalso
      simp only [z_lt, z_le, z_eqi, zl_m2, zl_m1, zl_0, zl_1, zl_2, zl_50, zl_100000] at c4452 c4571 c4572
      omega
    · skip
      obtain rfl : r4569 = 0 := hw
      exfalso
      simp only [z_lt, z_le, z_eqi, zl_m2, zl_m1, zl_0, zl_1, zl_2, zl_50, zl_100000] at c4452 c4573 c4574
      omega
  · skip
    obtain rfl : r4446 = 0 := hw
    obtain rfl : y1 = 0 := z_e (by simp only [z_lt, z_le, z_eqi, zl_m2, zl_m1, zl_0, zl_1, zl_2, zl_50, zl_100000] at c4453 c4454 ⊢; omega)
    refine lv_aload_n hx hb dL_law_633 rfl (lv_at hl 1 rfl) ?_
    refine lv_aload_n hx hb dL_law_634 rfl (lv_at hl 3 rfl) ?_
    refine lv_iload_n hx hb dL_law_635 rfl (lv_at hl 0 rfl) ?_
    refine lv_iconst (v := 1) hx hb dL_law_636 (by decide +kernel) ?_
    refine lv_iadd hx hb dL_law_637 ?_
    refine lv_topi (fun x4577 ex4577 => ?_)
    obtain rfl : x4577 = 1 := ex4577.trans (by decide +kernel)
    refine va_sld hx hb hX hbl hbA hS (by unfold vp_in; decide) dL_law_638 ?_
    refine lv_topi (fun x4578 ex4578 => ?_)
    obtain rfl : 0 = x4578 := (ex4578.trans ey1).symm
    refine lv_aload_n hx hb dL_law_639 rfl (lv_at hl 3 rfl) ?_
    refine lv_iload_n hx hb dL_law_640 rfl (lv_at hl 0 rfl) ?_
    refine lv_iconst (v := 2) hx hb dL_law_641 (by decide +kernel) ?_
    refine lv_iadd hx hb dL_law_642 ?_
    refine lv_topi (fun x4579 ex4579 => ?_)
    obtain rfl : x4579 = 2 := ex4579.trans (by decide +kernel)
    refine va_sld hx hb hX hbl hbA hS (by unfold vp_in; decide) dL_law_643 ?_
    refine lv_topi (fun x4580 ex4580 => ?_)
    obtain rfl : y2 = x4580 := (ex4580.trans ey2).symm
    have hPc := hP.sub (ws' := [(m0, .inr (12, (.ref q2712 :: .int 0 :: .int 0 :: .int 0 :: .int 0 :: .int 0 :: .int 0 :: .int 0 :: .int (-1) :: .int 0 :: .ref q2713 :: .ref q2714 :: .ref q2715 :: .ref q2716 :: .ref q2717 :: .ref q2718 :: .ref q2719 :: .ref q2720 :: .ref q2721 :: .ref q2722 :: .ref q2723 :: .ref q2724 :: .ref q2725 :: .int 0 :: .ref q2726 :: .ref q2727 :: .ref q2728 :: .int 0 :: .ref q2729 :: .ref q2730 :: .int 0 :: .ref q2731 :: .ref q2732 :: .ref q2733 :: .int 0 :: .int 0 :: .int 0 :: .ref q2734 :: .ref q2735 :: .int 0 :: .ref q2736 :: .ref q2737 :: .ref q2738 :: .ref q2739 :: .int 0 :: .ref q2740 :: .ref q2741 :: .int 0 :: .int 0 :: .ref q2742 :: .ref q2743 :: .int 0 :: .ref q2744 :: .ref q2745 :: .ref q2746 :: .ref q2747 :: .int 0 :: .ref q2748 :: .ref q2749 :: .int 0 :: .ref q2750 :: .ref q2751 :: .int 0 :: .ref q2752 :: .ref q2753 :: .int 0 :: .int 0 :: .ref q2754 :: .ref q2755 :: .ref q2756 :: .int 0 :: [])))]) [0] rfl
    have hDc := hD.sub (ws' := [(m0, .inr (12, (.ref q2712 :: .int 0 :: .int 0 :: .int 0 :: .int 0 :: .int 0 :: .int 0 :: .int 0 :: .int (-1) :: .int 0 :: .ref q2713 :: .ref q2714 :: .ref q2715 :: .ref q2716 :: .ref q2717 :: .ref q2718 :: .ref q2719 :: .ref q2720 :: .ref q2721 :: .ref q2722 :: .ref q2723 :: .ref q2724 :: .ref q2725 :: .int 0 :: .ref q2726 :: .ref q2727 :: .ref q2728 :: .int 0 :: .ref q2729 :: .ref q2730 :: .int 0 :: .ref q2731 :: .ref q2732 :: .ref q2733 :: .int 0 :: .int 0 :: .int 0 :: .ref q2734 :: .ref q2735 :: .int 0 :: .ref q2736 :: .ref q2737 :: .ref q2738 :: .ref q2739 :: .int 0 :: .ref q2740 :: .ref q2741 :: .int 0 :: .int 0 :: .ref q2742 :: .ref q2743 :: .int 0 :: .ref q2744 :: .ref q2745 :: .ref q2746 :: .ref q2747 :: .int 0 :: .ref q2748 :: .ref q2749 :: .int 0 :: .ref q2750 :: .ref q2751 :: .int 0 :: .ref q2752 :: .ref q2753 :: .int 0 :: .int 0 :: .ref q2754 :: .ref q2755 :: .ref q2756 :: .int 0 :: [])))]) [0] (by decide +kernel) rfl
    have hKc := hK.sub (tys' := []) [] rfl
    have hFc := va_free (wc := [(m0, .inr (12, (.ref q2712 :: .int 0 :: .int 0 :: .int 0 :: .int 0 :: .int 0 :: .int 0 :: .int 0 :: .int (-1) :: .int 0 :: .ref q2713 :: .ref q2714 :: .ref q2715 :: .ref q2716 :: .ref q2717 :: .ref q2718 :: .ref q2719 :: .ref q2720 :: .ref q2721 :: .ref q2722 :: .ref q2723 :: .ref q2724 :: .ref q2725 :: .int 0 :: .ref q2726 :: .ref q2727 :: .ref q2728 :: .int 0 :: .ref q2729 :: .ref q2730 :: .int 0 :: .ref q2731 :: .ref q2732 :: .ref q2733 :: .int 0 :: .int 0 :: .int 0 :: .ref q2734 :: .ref q2735 :: .int 0 :: .ref q2736 :: .ref q2737 :: .ref q2738 :: .ref q2739 :: .int 0 :: .ref q2740 :: .ref q2741 :: .int 0 :: .int 0 :: .ref q2742 :: .ref q2743 :: .int 0 :: .ref q2744 :: .ref q2745 :: .ref q2746 :: .ref q2747 :: .int 0 :: .ref q2748 :: .ref q2749 :: .int 0 :: .ref q2750 :: .ref q2751 :: .int 0 :: .ref q2752 :: .ref q2753 :: .int 0 :: .int 0 :: .ref q2754 :: .ref q2755 :: .ref q2756 :: .int 0 :: [])))]) hD hS hA [0] rfl
    refine va_calli (va_runV (As := [.int 0, .int y2]) (rest := [.int 0]) ⟨hx, hb, hml, hown, hts⟩ (c_X12_tell_1 l dC dI H.size m0 q2712 q2713 q2714 q2715 q2716 q2717 q2718 q2719 q2720 q2721 q2722 q2723 q2724 q2725 q2726 q2727 q2728 q2729 q2730 q2731 q2732 q2733 q2734 q2735 q2736 q2737 q2738 q2739 q2740 q2741 q2742 q2743 q2744 q2745 q2746 q2747 q2748 q2749 q2750 q2751 q2752 q2753 q2754 q2755 q2756 y2) (cwV 2 hts gv_L_law_X12_tell_88 rfl rfl rfl (by decide +kernel) ⟨Nat.le_of_ble_eq_true rfl, Nat.le_of_ble_eq_true rfl⟩) ⟨fun a U g mk q => by obtain ⟨q0, q1, qP, qK, qD⟩ := q; exact ⟨q0, q1, qP, va_K.moved (u := U) (U := U.calling g mk a) (Vm.Alike.refl U.vm) qK, qD⟩, va_recv hKc hPc (ci := 12) (q0 := 0) rfl rfl, fun U hU hW => ⟨rfl, by rw [hU], by rw [hU]; exact hPc, va_K.moved hW.alike hKc, hDc.weaken (fun _ _ _ _ => trivial)⟩⟩ rfl rfl hl.1 rfl (lv_room (Nat.le_of_ble_eq_true rfl)) dL_law_644 ⟨Nat.le_of_ble_eq_true rfl, Nat.le_of_ble_eq_true rfl⟩) hS (fun q _ h => hFc q h) hFc (fun r4588 u t H1 locs ht hvm hw hB hz1 hk1 hS => ?_)
    obtain ⟨hP1, hK1, hD1⟩ := hB
    rw [ht] at hP1
    have hK1 := va_K.moved hvm.symm hK1
    obtain ⟨hP, hD⟩ := va_join (wr := []) (w1 := []) hP hD [0] [] rfl rfl (by decide +kernel) (by decide +kernel) hk1 hFc hP1 hD1
    have hK := (hK.sub (tys' := [(k1176, .int)]) [0] rfl).app hK1
    generalize H1 = H at hP hS ⊢
    have hK : va_K (dC, dI) vwCl [(k1176, .int)] s := hK
    have hP : va_P (dC, dI) vwCl [] H := hP
    have hD : va_D A [] := hD
    rcases hw with ⟨c4589, hw⟩ | ⟨c4590, c4591, hw⟩ | ⟨c4592, c4593, hw⟩
    · skip
      obtain rfl : r4588 = (-2) := hw
      exfalso
      simp only [z_lt, z_le, z_eqi, zl_m2, zl_m1, zl_0, zl_1, zl_2, zl_50, zl_100000] at c4455 c4456 c4589
      omega
    · skip
      obtain rfl : r4588 = (-2) := hw
      exfalso
      simp only [z_lt, z_le, z_eqi, zl_m2, zl_m1, zl_0, zl_1, zl_2, zl_50, zl_100000] at c4455 c4456 c4590 c4591
      omega
    · skip
      obtain rfl : r4588 = 0 := hw
      refine lv_icmp_eq (tgt := 833) hx hb dL_law_647 (by decide +kernel) (fun _ => ?_) (fun h => absurd (by decide +kernel) h)
      refine lv_iinc (v := 6) (lv' := [(3, .int 6), (2, .ref m0), (1, .ref x0), (0, .ref b)]) hx hb dL_law_833 hl (k := 0) rfl (by decide +kernel) (by decide +kernel) rfl (fun ls hl => ?_)
      refine lv_goto (tgt := 18) hx hb dL_law_836 (by decide +kernel) ?_
      refine lv_iload_n hx hb dL_law_18 rfl (lv_at hl 0 rfl) ?_
      refine lv_aload_n hx hb dL_law_19 rfl (lv_at hl 3 rfl) ?_
      refine va_slen hx hb hX hbl hbA hS dL_law_20 ?_
      refine lv_topi (fun x4594 ex4594 => ?_)
      obtain rfl : x4594 = 6 := ex4594.trans (by decide +kernel)
      refine lv_bipush (v := 6) hx hb dL_law_21 (by decide +kernel) ?_
      refine lv_isub hx hb dL_law_23 ?_
      refine lv_topi (fun x4595 ex4595 => ?_)
      obtain rfl : x4595 = 0 := ex4595.trans (by decide +kernel)
      refine lv_icmp_gt (tgt := 839) hx hb dL_law_24 (by decide +kernel) (fun _ => ?_) (fun h => absurd (by decide +kernel) h)
      refine lv_iconst (v := 1) hx hb dL_law_839 (by decide +kernel) ?_
      refine va_forget (fun q hq => hAl _ (hS.2.2 q hq)) ?_
      refine W.widen (k := 600000) (n := 7302250) (by omega) (by omega) ?_
      exact lw_ret hx hb hr hlocks dL_law_840
  · skip
    obtain rfl : r4446 = (-2) := hw
    obtain rfl : y1 = 0 := z_e (by simp only [z_lt, z_le, z_eqi, zl_m2, zl_m1, zl_0, zl_1, zl_2, zl_50, zl_100000] at c4457 c4458 ⊢; omega)
    refine lv_aload_n hx hb dL_law_633 rfl (lv_at hl 1 rfl) ?_
    refine lv_aload_n hx hb dL_law_634 rfl (lv_at hl 3 rfl) ?_
    refine lv_iload_n hx hb dL_law_635 rfl (lv_at hl 0 rfl) ?_
    refine lv_iconst (v := 1) hx hb dL_law_636 (by decide +kernel) ?_
    refine lv_iadd hx hb dL_law_637 ?_
    refine lv_topi (fun x4596 ex4596 => ?_)
    obtain rfl : x4596 = 1 := ex4596.trans (by decide +kernel)
    refine va_sld hx hb hX hbl hbA hS (by unfold vp_in; decide) dL_law_638 ?_
    refine lv_topi (fun x4597 ex4597 => ?_)
    obtain rfl : 0 = x4597 := (ex4597.trans ey1).symm
    refine lv_aload_n hx hb dL_law_639 rfl (lv_at hl 3 rfl) ?_
    refine lv_iload_n hx hb dL_law_640 rfl (lv_at hl 0 rfl) ?_
    refine lv_iconst (v := 2) hx hb dL_law_641 (by decide +kernel) ?_
    refine lv_iadd hx hb dL_law_642 ?_
    refine lv_topi (fun x4598 ex4598 => ?_)
    obtain rfl : x4598 = 2 := ex4598.trans (by decide +kernel)
    refine va_sld hx hb hX hbl hbA hS (by unfold vp_in; decide) dL_law_643 ?_
    refine lv_topi (fun x4599 ex4599 => ?_)
    obtain rfl : y2 = x4599 := (ex4599.trans ey2).symm
    have hPc := hP.sub (ws' := [(m0, .inr (12, (.ref q2712 :: .int 0 :: .int 0 :: .int 0 :: .int 0 :: .int 0 :: .int 0 :: .int 0 :: .int (-1) :: .int 0 :: .ref q2713 :: .ref q2714 :: .ref q2715 :: .ref q2716 :: .ref q2717 :: .ref q2718 :: .ref q2719 :: .ref q2720 :: .ref q2721 :: .ref q2722 :: .ref q2723 :: .ref q2724 :: .ref q2725 :: .int 0 :: .ref q2726 :: .ref q2727 :: .ref q2728 :: .int 0 :: .ref q2729 :: .ref q2730 :: .int 0 :: .ref q2731 :: .ref q2732 :: .ref q2733 :: .int 0 :: .int 0 :: .int 0 :: .ref q2734 :: .ref q2735 :: .int 0 :: .ref q2736 :: .ref q2737 :: .ref q2738 :: .ref q2739 :: .int 0 :: .ref q2740 :: .ref q2741 :: .int 0 :: .int 0 :: .ref q2742 :: .ref q2743 :: .int 0 :: .ref q2744 :: .ref q2745 :: .ref q2746 :: .ref q2747 :: .int 0 :: .ref q2748 :: .ref q2749 :: .int 0 :: .ref q2750 :: .ref q2751 :: .int 0 :: .ref q2752 :: .ref q2753 :: .int 0 :: .int 0 :: .ref q2754 :: .ref q2755 :: .ref q2756 :: .int 0 :: [])))]) [0] rfl
    have hDc := hD.sub (ws' := [(m0, .inr (12, (.ref q2712 :: .int 0 :: .int 0 :: .int 0 :: .int 0 :: .int 0 :: .int 0 :: .int 0 :: .int (-1) :: .int 0 :: .ref q2713 :: .ref q2714 :: .ref q2715 :: .ref q2716 :: .ref q2717 :: .ref q2718 :: .ref q2719 :: .ref q2720 :: .ref q2721 :: .ref q2722 :: .ref q2723 :: .ref q2724 :: .ref q2725 :: .int 0 :: .ref q2726 :: .ref q2727 :: .ref q2728 :: .int 0 :: .ref q2729 :: .ref q2730 :: .int 0 :: .ref q2731 :: .ref q2732 :: .ref q2733 :: .int 0 :: .int 0 :: .int 0 :: .ref q2734 :: .ref q2735 :: .int 0 :: .ref q2736 :: .ref q2737 :: .ref q2738 :: .ref q2739 :: .int 0 :: .ref q2740 :: .ref q2741 :: .int 0 :: .int 0 :: .ref q2742 :: .ref q2743 :: .int 0 :: .ref q2744 :: .ref q2745 :: .ref q2746 :: .ref q2747 :: .int 0 :: .ref q2748 :: .ref q2749 :: .int 0 :: .ref q2750 :: .ref q2751 :: .int 0 :: .ref q2752 :: .ref q2753 :: .int 0 :: .int 0 :: .ref q2754 :: .ref q2755 :: .ref q2756 :: .int 0 :: [])))]) [0] (by decide +kernel) rfl
    have hKc := hK.sub (tys' := []) [] rfl
    have hFc := va_free (wc := [(m0, .inr (12, (.ref q2712 :: .int 0 :: .int 0 :: .int 0 :: .int 0 :: .int 0 :: .int 0 :: .int 0 :: .int (-1) :: .int 0 :: .ref q2713 :: .ref q2714 :: .ref q2715 :: .ref q2716 :: .ref q2717 :: .ref q2718 :: .ref q2719 :: .ref q2720 :: .ref q2721 :: .ref q2722 :: .ref q2723 :: .ref q2724 :: .ref q2725 :: .int 0 :: .ref q2726 :: .ref q2727 :: .ref q2728 :: .int 0 :: .ref q2729 :: .ref q2730 :: .int 0 :: .ref q2731 :: .ref q2732 :: .ref q2733 :: .int 0 :: .int 0 :: .int 0 :: .ref q2734 :: .ref q2735 :: .int 0 :: .ref q2736 :: .ref q2737 :: .ref q2738 :: .ref q2739 :: .int 0 :: .ref q2740 :: .ref q2741 :: .int 0 :: .int 0 :: .ref q2742 :: .ref q2743 :: .int 0 :: .ref q2744 :: .ref q2745 :: .ref q2746 :: .ref q2747 :: .int 0 :: .ref q2748 :: .ref q2749 :: .int 0 :: .ref q2750 :: .ref q2751 :: .int 0 :: .ref q2752 :: .ref q2753 :: .int 0 :: .int 0 :: .ref q2754 :: .ref q2755 :: .ref q2756 :: .int 0 :: [])))]) hD hS hA [0] rfl
    refine va_calli (va_runV (As := [.int 0, .int y2]) (rest := [.int (-2)]) ⟨hx, hb, hml, hown, hts⟩ (c_X12_tell_1 l dC dI H.size m0 q2712 q2713 q2714 q2715 q2716 q2717 q2718 q2719 q2720 q2721 q2722 q2723 q2724 q2725 q2726 q2727 q2728 q2729 q2730 q2731 q2732 q2733 q2734 q2735 q2736 q2737 q2738 q2739 q2740 q2741 q2742 q2743 q2744 q2745 q2746 q2747 q2748 q2749 q2750 q2751 q2752 q2753 q2754 q2755 q2756 y2) (cwV 2 hts gv_L_law_X12_tell_88 rfl rfl rfl (by decide +kernel) ⟨Nat.le_of_ble_eq_true rfl, Nat.le_of_ble_eq_true rfl⟩) ⟨fun a U g mk q => by obtain ⟨q0, q1, qP, qK, qD⟩ := q; exact ⟨q0, q1, qP, va_K.moved (u := U) (U := U.calling g mk a) (Vm.Alike.refl U.vm) qK, qD⟩, va_recv hKc hPc (ci := 12) (q0 := 0) rfl rfl, fun U hU hW => ⟨rfl, by rw [hU], by rw [hU]; exact hPc, va_K.moved hW.alike hKc, hDc.weaken (fun _ _ _ _ => trivial)⟩⟩ rfl rfl hl.1 rfl (lv_room (Nat.le_of_ble_eq_true rfl)) dL_law_644 ⟨Nat.le_of_ble_eq_true rfl, Nat.le_of_ble_eq_true rfl⟩) hS (fun q _ h => hFc q h) hFc (fun r4607 u t H1 locs ht hvm hw hB hz1 hk1 hS => ?_)
    obtain ⟨hP1, hK1, hD1⟩ := hB
    rw [ht] at hP1
    have hK1 := va_K.moved hvm.symm hK1
    obtain ⟨hP, hD⟩ := va_join (wr := []) (w1 := []) hP hD [0] [] rfl rfl (by decide +kernel) (by decide +kernel) hk1 hFc hP1 hD1
    have hK := (hK.sub (tys' := [(k1176, .int)]) [0] rfl).app hK1
    generalize H1 = H at hP hS ⊢
    have hK : va_K (dC, dI) vwCl [(k1176, .int)] s := hK
    have hP : va_P (dC, dI) vwCl [] H := hP
    have hD : va_D A [] := hD
    rcases hw with ⟨c4608, hw⟩ | ⟨c4609, c4610, hw⟩ | ⟨c4611, c4612, hw⟩
    · skip
      obtain rfl : r4607 = (-2) := hw
      exfalso
      simp only [z_lt, z_le, z_eqi, zl_m2, zl_m1, zl_0, zl_1, zl_2, zl_50, zl_100000] at c4459 c4460 c4608
      omega
    · skip
      obtain rfl : r4607 = (-2) := hw
      refine lv_icmp_eq (tgt := 833) hx hb dL_law_647 (by decide +kernel) (fun _ => ?_) (fun h => absurd (by decide +kernel) h)
      refine lv_iinc (v := 6) (lv' := [(3, .int 6), (2, .ref m0), (1, .ref x0), (0, .ref b)]) hx hb dL_law_833 hl (k := 0) rfl (by decide +kernel) (by decide +kernel) rfl (fun ls hl => ?_)
      refine lv_goto (tgt := 18) hx hb dL_law_836 (by decide +kernel) ?_
      refine lv_iload_n hx hb dL_law_18 rfl (lv_at hl 0 rfl) ?_
      refine lv_aload_n hx hb dL_law_19 rfl (lv_at hl 3 rfl) ?_
      refine va_slen hx hb hX hbl hbA hS dL_law_20 ?_
      refine lv_topi (fun x4613 ex4613 => ?_)
      obtain rfl : x4613 = 6 := ex4613.trans (by decide +kernel)
      refine lv_bipush (v := 6) hx hb dL_law_21 (by decide +kernel) ?_
      refine lv_isub hx hb dL_law_23 ?_
      refine lv_topi (fun x4614 ex4614 => ?_)
      obtain rfl : x4614 = 0 := ex4614.trans (by decide +kernel)
      refine lv_icmp_gt (tgt := 839) hx hb dL_law_24 (by decide +kernel) (fun _ => ?_) (fun h => absurd (by decide +kernel) h)
      refine lv_iconst (v := 1) hx hb dL_law_839 (by decide +kernel) ?_
      refine va_forget (fun q hq => hAl _ (hS.2.2 q hq)) ?_
      refine W.widen (k := 600000) (n := 7302250) (by omega) (by omega) ?_
      exact lw_ret hx hb hr hlocks dL_law_840
    · skip
      obtain rfl : r4607 = 0 := hw
      exfalso
      simp only [z_lt, z_le, z_eqi, zl_m2, zl_m1, zl_0, zl_1, zl_2, zl_50, zl_100000] at c4459 c4460 c4611 c4612
      omega
