theorem inL11 : ∀ w ∈ u_ws RX11 TX11 17, w ∈ wL := fun w h => List.mem_append_right _ (List.mem_append_right _ (List.mem_append_right _ (List.mem_append_right _ (List.mem_append_right _ (List.mem_append_right _ (List.mem_append_right _ (List.mem_append_right _ (List.mem_append_right _ (List.mem_append_right _ (List.mem_append_right _ (List.mem_append_right _ (List.mem_append_right _ (List.mem_append_right _ (List.mem_append_left _ h))))))))))))))
theorem inL12 : ∀ w ∈ u_ws RX12 TX12 71, w ∈ wL := tX12L
def g0 : Nat → Int32 := fun i => if i = 8 then -1 else 0
def F0z : Nat → Nat → Int32 := fun _ _ => 0
theorem m_start : MS g0 F0z 0 := ⟨⟨⟨by decide, by decide⟩, ⟨by decide, by decide⟩, ⟨by decide, by decide⟩, ⟨by decide, by decide⟩, ⟨by decide, by decide⟩, ⟨by decide, by decide⟩, ⟨by decide, by decide⟩, ⟨by decide, by decide⟩, ⟨by decide, by decide⟩, ⟨by decide, by decide⟩, ⟨by decide, by decide⟩, ⟨by decide, by decide⟩, ⟨by decide, by decide⟩, ⟨by decide, by decide⟩, ⟨by decide, by decide⟩, ⟨by decide, by decide⟩, ⟨by decide, by decide⟩, ⟨by decide, by decide⟩, ⟨by decide, by decide⟩, ⟨by decide, by decide⟩, ⟨by decide, by decide⟩, ⟨by decide, by decide⟩, ⟨by decide, by decide⟩, ⟨by decide, by decide⟩, ⟨by decide, by decide⟩, (fun _ => ⟨(show (0 : Int) ≤ (0 : Int32).toInt by decide), (show (0 : Int32).toInt ≤ (40 : Int) by decide)⟩), (fun _ => ⟨(show (0 : Int) ≤ (0 : Int32).toInt by decide), (show (0 : Int32).toInt ≤ (40 : Int) by decide)⟩), (fun _ => ⟨(show (0 : Int) ≤ (0 : Int32).toInt by decide), (show (0 : Int32).toInt ≤ (40 : Int) by decide)⟩), (fun _ => ⟨(show (-1 : Int) ≤ (0 : Int32).toInt by decide), (show (0 : Int32).toInt ≤ (16 : Int) by decide)⟩), (fun _ => ⟨(show (-1 : Int) ≤ (0 : Int32).toInt by decide), (show (0 : Int32).toInt ≤ (16 : Int) by decide)⟩), (fun _ => ⟨(show (-1 : Int) ≤ (0 : Int32).toInt by decide), (show (0 : Int32).toInt ≤ (16 : Int) by decide)⟩), (fun _ => ⟨(show (0 : Int) ≤ (0 : Int32).toInt by decide), (show (0 : Int32).toInt ≤ (24 : Int) by decide)⟩), (fun _ => ⟨(show (0 : Int) ≤ (0 : Int32).toInt by decide), (show (0 : Int32).toInt ≤ (24 : Int) by decide)⟩), (fun _ => ⟨(show (0 : Int) ≤ (0 : Int32).toInt by decide), (show (0 : Int32).toInt ≤ (24 : Int) by decide)⟩), (fun _ => ⟨(show (0 : Int) ≤ (0 : Int32).toInt by decide), (show (0 : Int32).toInt ≤ (24 : Int) by decide)⟩), (fun _ => ⟨(show (0 : Int) ≤ (0 : Int32).toInt by decide), (show (0 : Int32).toInt ≤ (24 : Int) by decide)⟩), (fun _ => ⟨(show (0 : Int) ≤ (0 : Int32).toInt by decide), (show (0 : Int32).toInt ≤ (24 : Int) by decide)⟩), (fun _ => ⟨(show (0 : Int) ≤ (0 : Int32).toInt by decide), (show (0 : Int32).toInt ≤ (24 : Int) by decide)⟩), (fun _ => ⟨(show (0 : Int) ≤ (0 : Int32).toInt by decide), (show (0 : Int32).toInt ≤ (24 : Int) by decide)⟩), (fun _ => ⟨(show (0 : Int) ≤ (0 : Int32).toInt by decide), (show (0 : Int32).toInt ≤ (24 : Int) by decide)⟩), (fun _ => ⟨(show (0 : Int) ≤ (0 : Int32).toInt by decide), (show (0 : Int32).toInt ≤ (24 : Int) by decide)⟩), (fun _ => ⟨(show (0 : Int) ≤ (0 : Int32).toInt by decide), (show (0 : Int32).toInt ≤ (24 : Int) by decide)⟩), (fun _ => ⟨(show (0 : Int) ≤ (0 : Int32).toInt by decide), (show (0 : Int32).toInt ≤ (12 : Int) by decide)⟩), fun r j _ hj => absurd hj (by have z : (F0z 11 r).toInt = 0 := (by decide : (0 : Int32).toInt = 0); omega)⟩, by decide⟩
set_option maxHeartbeats 8000000 in
set_option maxRecDepth 100000 in
theorem law_new {p : Program} {e : Env} {s : State} {m : MethodId} {below : List Frame} {meth : Method} {c : Code} (l : Launch) {b L : Nat} {xs : Nat → Int32} {A : Nat → Prop} {dC : Nat → ClassId} {dI : Nat → Nat → Nat} {kk : Nat → ClassId} {adK adV : Nat → Nat} (hL : L ≤ 3072) (C0 : lw_At p s m meth c b L xs) (hA : ∀ q : Nat, s.heap.size ≤ q → A q) (hbA : ¬ A b) (hAl : ∀ q : Nat, A q → s.heap.size ≤ q) (hE : EnvOK s) (hSE : SE adK adV A s) (hK : va_K (dC, dI) vwCl (cT kk) s) {H : Heap} {ls : Array Slot} (hP : va_P (dC, dI) vwCl [] H) (hD : va_D A []) (hS : va_S A s.heap H []) (hl : lv_has ls 4 [(0, .ref b)]) : W p l e room_1 s m #[Value.ref b] below meth c H [] 0 0 (lw_Z below #[Value.ref b] s) (F0 m 0 ls []) := by
  obtain ⟨hx, hb, hr9, hml, hown, hts0, hX, hbl, hlocks, hgv⟩ := id C0
  have hts := fun w h => hts0 w (wL_tb w h)
  refine va_new (ci := 11) (fs := [.null, .null, .int 0, .int 0, .null, .null, .null, .null, .null, .null, .null, .int 0, .null, .int 0, .null, .null, .null]) (C := RX11) (T := TX11) (N := 17) hx hb hts inL11 tyX11 tyX11_ok hown (hts (.classLink RL 7 RX11) iw_0) (hts (.instantiable RX11 17) iw_1) (hts (.initialized RX11) iw_2) hK hP hD hS hA rfl (fun j hj => match j, hj with | 0, _ => rfl | 1, _ => rfl | 2, _ => rfl | 3, _ => rfl | 4, _ => rfl | 5, _ => rfl | 6, _ => rfl | 7, _ => rfl | 8, _ => rfl | 9, _ => rfl | 10, _ => rfl | 11, _ => rfl | 12, _ => rfl | 13, _ => rfl | 14, _ => rfl | 15, _ => rfl | 16, _ => rfl | j + 17, hj => absurd hj (by omega)) (Nat.le_of_ble_eq_true rfl) (Nat.le_of_ble_eq_true rfl) dL_law_0 (fun x0 H hP hD hS => ?_)
  obtain ⟨G1, P1, U1, V1, X1, O1, kd1, ln1, cnt1, ad1, hr, hW, hT, hE1, hk0, ha0⟩ := newcS (ws := []) (ad := fun _ => 0) (kk := kk) (A := A) (q := x0) (e1 := .inr (11, [.null, .null, .int 0, .int 0, .null, .null, .null, .null, .null, .null, .null, .int 0, .null, .int 0, .null, .null, .null])) ir_eq ⟨fun a ha => absurd rfl ha, fun a b ha => absurd rfl ha⟩ ⟨fun f a b h => (by cases h), fun r a i b h => (by cases h), fun a i => rfl, fun a _ => rfl⟩ hD (by decide) (fun _ => rfl)
  obtain ⟨uc, us, hr, hu1, hu2⟩ : ∃ uc us : Nat, f_X11_init G1 P1 U1 V1 X1 O1 kd1 ln1 cnt1 0 = some ((iG, iP, iU, iV, iX, iO, iK, iL, iC), uc, us) ∧ uc ≤ 200 ∧ us ≤ 100000 := ⟨_, _, hr, iu1, iu2⟩
  refine lv_dup hx hb dL_law_3 rfl ?_
  subst ha0
  have hFc := va_fr2 (a := []) (b := [(ad1 0, .inr (11, [.null, .null, .int 0, .int 0, .null, .null, .null, .null, .null, .null, .null, .int 0, .null, .int 0, .null, .null, .null]))]) hD hS hA
  refine va_callv (va_runI (As := []) (rest := [.ref (ad1 0)]) ⟨hx, hb, hml, hown, hts⟩ (m_X11_init l dC dI kk ad1 H.size _ G1 P1 U1 V1 X1 O1 kd1 ln1 cnt1 0 hk0 hW hT iG iP iU iV iX iO iK iL iC uc us hr) (cwI 0 hts gl_X11_init rfl rfl rfl (hts (.initialized RX11) iw_2) (hts (.methodLink RL 9 yX11_init) iw_6) (hts (.instanceMethod yX11_init) iw_7) rfl (by decide +kernel) ⟨Nat.le_of_ble_eq_true rfl, Nat.le_of_ble_eq_true rfl⟩) ⟨fun a U g mk q => by obtain ⟨q0, q1, qP, qK, qD, qE⟩ := q; exact ⟨q0, q1, qP, va_K.moved (u := U) (U := U.calling g mk a) (Vm.Alike.refl U.vm) qK, qD, en_call qE⟩, fun U hU hW => ⟨rfl, by rw [hU], by rw [hU]; exact hP, va_K.moved hW.alike hK, hD.weaken (fun _ _ _ _ => trivial), en_warm hW hE⟩⟩ rfl rfl hl.1 rfl (lv_room (Nat.le_of_ble_eq_true rfl)) dL_law_4 ⟨by show _ ≤ (600000 : Nat); omega, by show _ ≤ (7302250 : Nat); omega⟩) hS (fun q _ h => hFc q h) hFc (fun w t H1 locs ht1 hvm hw hB hz1 hk1 hS => ?_)
  obtain ⟨w, nad⟩ := w
  dsimp only at hw hB
  obtain ⟨hW1, hT1, hE2⟩ := hw
  obtain ⟨hP1, hK1, hD1⟩ := hB
  rw [ht1] at hP1
  obtain ⟨hP, hD⟩ := va_join2 (a := []) hP hD hk1 hFc hP1 hD1
  replace hP : va_P (dC, dI) vwCl w H1 := hP
  replace hD : va_D A w := hD
  have hxa : ad1 0 = nad 0 := (hE2.1 0 (by rw [hk0]; decide)).symm
  rw [hxa]
  clear hFc hk1 hz1 hvm ht1 hP1 hD1 hK1
  generalize H1 = H at hP hS ⊢
  have hC : CS kk w (nad 0) 0 0 := ⟨nad, iK, wd0, iG, iP, iU, iV, iX, iO, iK, iL, iC, 0, tp0, bk0, fl0, rfl, hW1, hT1, i_inv, i_x, i_x, i_tp, i_bk, i_fl, i_tape, i_s7⟩
  refine lv_astore_n (lv' := [(1, .ref (nad 0)), (0, .ref b)]) hx hb dL_law_7 rfl hl (by decide +kernel) rfl (fun ls hl => ?_)
  refine va_new (ci := 12) (fs := (.null :: .int 0 :: .int 0 :: .int 0 :: .int 0 :: .int 0 :: .int 0 :: .int 0 :: .int 0 :: .int 0 :: .null :: .null :: .null :: .null :: .null :: .null :: .null :: .null :: .null :: .null :: .null :: .null :: .null :: .int 0 :: .null :: .null :: .null :: .int 0 :: .null :: .null :: .int 0 :: .null :: .null :: .null :: .int 0 :: .int 0 :: .int 0 :: .null :: .null :: .int 0 :: .null :: .null :: .null :: .null :: .int 0 :: .null :: .null :: .int 0 :: .int 0 :: .null :: .null :: .int 0 :: .null :: .null :: .null :: .null :: .int 0 :: .null :: .null :: .int 0 :: .null :: .null :: .int 0 :: .null :: .null :: .int 0 :: .int 0 :: .null :: .null :: .null :: .int 0 :: [])) (C := RX12) (T := TX12) (N := 71) hx hb hts inL12 tyX12 tyX12_ok hown (hts (.classLink RL 10 RX12) iw_3) (hts (.instantiable RX12 71) iw_4) (hts (.initialized RX12) iw_5) hK hP hD hS hA rfl (fun j hj => match j, hj with | 0, _ => rfl | 1, _ => rfl | 2, _ => rfl | 3, _ => rfl | 4, _ => rfl | 5, _ => rfl | 6, _ => rfl | 7, _ => rfl | 8, _ => rfl | 9, _ => rfl | 10, _ => rfl | 11, _ => rfl | 12, _ => rfl | 13, _ => rfl | 14, _ => rfl | 15, _ => rfl | 16, _ => rfl | 17, _ => rfl | 18, _ => rfl | 19, _ => rfl | 20, _ => rfl | 21, _ => rfl | 22, _ => rfl | 23, _ => rfl | 24, _ => rfl | 25, _ => rfl | 26, _ => rfl | 27, _ => rfl | 28, _ => rfl | 29, _ => rfl | 30, _ => rfl | 31, _ => rfl | 32, _ => rfl | 33, _ => rfl | 34, _ => rfl | 35, _ => rfl | 36, _ => rfl | 37, _ => rfl | 38, _ => rfl | 39, _ => rfl | 40, _ => rfl | 41, _ => rfl | 42, _ => rfl | 43, _ => rfl | 44, _ => rfl | 45, _ => rfl | 46, _ => rfl | 47, _ => rfl | 48, _ => rfl | 49, _ => rfl | 50, _ => rfl | 51, _ => rfl | 52, _ => rfl | 53, _ => rfl | 54, _ => rfl | 55, _ => rfl | 56, _ => rfl | 57, _ => rfl | 58, _ => rfl | 59, _ => rfl | 60, _ => rfl | 61, _ => rfl | 62, _ => rfl | 63, _ => rfl | 64, _ => rfl | 65, _ => rfl | 66, _ => rfl | 67, _ => rfl | 68, _ => rfl | 69, _ => rfl | 70, _ => rfl | j + 71, hj => absurd hj (by omega)) (by show _ ≤ (600000 : Nat); omega) (by show _ ≤ (7302250 : Nat); omega) dL_law_8 (fun h0 H hP hD hS => ?_)
  refine lv_dup hx hb dL_law_11 rfl ?_
  have hFc := va_fr2 hD hS hA
  have hPc := va_Pr hP
  have hDc := va_Drr hD
  refine va_callv (va_runI (As := []) (rest := [.ref h0]) ⟨hx, hb, hml, hown, hts⟩ (c_X12i l dC dI H.size h0) (cwI 0 hts g_x12i rfl rfl rfl (hts (.initialized RX12) iw_5) (hts (.methodLink RL 12 yX12_init) iw_9) (hts (.instanceMethod yX12_init) iw_10) rfl (by decide +kernel) ⟨Nat.le_of_ble_eq_true rfl, Nat.le_of_ble_eq_true rfl⟩) ⟨fun a U g mk q => by obtain ⟨q0, q1, qP, qK, qD⟩ := q; exact ⟨q0, q1, qP, va_K.moved (u := U) (U := U.calling g mk a) (Vm.Alike.refl U.vm) qK, qD⟩, fun U hU hW => ⟨rfl, by rw [hU], by rw [hU]; exact hPc, va_K.moved hW.alike (hK.sub [] rfl), hDc.weaken (fun _ _ _ _ => trivial)⟩⟩ rfl rfl hl.1 rfl (lv_room (Nat.le_of_ble_eq_true rfl)) dL_law_12 ⟨by show _ ≤ (600000 : Nat); omega, by show _ ≤ (7302250 : Nat); omega⟩) hS (fun q _ h => hFc q h) hFc (fun u t H1 locs ht1 hvm hw hB hz1 hk1 hS => ?_)
  obtain ⟨q91, q93, q95, q97, q99, q101, q103, q105, q107, q109, q111, q113, q115, q117, q119, q121, q123, q125, q127, q129, q131, q133, q135, q137, q139, q141, q143, q145, q147, q149, q151, q153, q155, q157, q159, q161, q163, q165, q167, q169, q171, q173, q175, q177, q179, k92, k94, k96, k98, k100, k102, k104, k106, k108, k110, k112, k114, k116, k118, k120, k122, k124, k126, k128, k130, k132, k134, k136, k138, k140, k142, k144, k146, k148, k150, k152, k154, k156, k158, k160, k162, k164, k166, k168, k170, k172, k174, k176, k178, k180, hP1, hK1, hD1⟩ := hB
  have hK1 := va_K.moved hvm.symm hK1
  obtain rfl : k92 = kk 0 := kA_byte (hK.app (hK1.sub (tys' := [(k92, .byte)]) [0] rfl))
  obtain rfl : k94 = kk 1 := kA_int (hK.app (hK1.sub (tys' := [(k94, .int)]) [1] rfl))
  obtain rfl : k96 = kk 1 := kA_int (hK.app (hK1.sub (tys' := [(k96, .int)]) [2] rfl))
  obtain rfl : k98 = kk 1 := kA_int (hK.app (hK1.sub (tys' := [(k98, .int)]) [3] rfl))
  obtain rfl : k100 = kk 1 := kA_int (hK.app (hK1.sub (tys' := [(k100, .int)]) [4] rfl))
  obtain rfl : k102 = kk 0 := kA_byte (hK.app (hK1.sub (tys' := [(k102, .byte)]) [5] rfl))
  obtain rfl : k104 = kk 1 := kA_int (hK.app (hK1.sub (tys' := [(k104, .int)]) [6] rfl))
  obtain rfl : k106 = kk 2 := kA_boolean (hK.app (hK1.sub (tys' := [(k106, .boolean)]) [7] rfl))
  obtain rfl : k108 = kk 2 := kA_boolean (hK.app (hK1.sub (tys' := [(k108, .boolean)]) [8] rfl))
  obtain rfl : k110 = kk 0 := kA_byte (hK.app (hK1.sub (tys' := [(k110, .byte)]) [9] rfl))
  obtain rfl : k112 = kk 1 := kA_int (hK.app (hK1.sub (tys' := [(k112, .int)]) [10] rfl))
  obtain rfl : k114 = kk 0 := kA_byte (hK.app (hK1.sub (tys' := [(k114, .byte)]) [11] rfl))
  obtain rfl : k116 = kk 1 := kA_int (hK.app (hK1.sub (tys' := [(k116, .int)]) [12] rfl))
  obtain rfl : k118 = kk 0 := kA_byte (hK.app (hK1.sub (tys' := [(k118, .byte)]) [13] rfl))
  obtain rfl : k120 = kk 1 := kA_int (hK.app (hK1.sub (tys' := [(k120, .int)]) [14] rfl))
  obtain rfl : k122 = kk 1 := kA_int (hK.app (hK1.sub (tys' := [(k122, .int)]) [15] rfl))
  obtain rfl : k124 = kk 1 := kA_int (hK.app (hK1.sub (tys' := [(k124, .int)]) [16] rfl))
  obtain rfl : k126 = kk 2 := kA_boolean (hK.app (hK1.sub (tys' := [(k126, .boolean)]) [17] rfl))
  obtain rfl : k128 = kk 0 := kA_byte (hK.app (hK1.sub (tys' := [(k128, .byte)]) [18] rfl))
  obtain rfl : k130 = kk 0 := kA_byte (hK.app (hK1.sub (tys' := [(k130, .byte)]) [19] rfl))
  obtain rfl : k132 = kk 0 := kA_byte (hK.app (hK1.sub (tys' := [(k132, .byte)]) [20] rfl))
  obtain rfl : k134 = kk 1 := kA_int (hK.app (hK1.sub (tys' := [(k134, .int)]) [21] rfl))
  obtain rfl : k136 = kk 0 := kA_byte (hK.app (hK1.sub (tys' := [(k136, .byte)]) [22] rfl))
  obtain rfl : k138 = kk 1 := kA_int (hK.app (hK1.sub (tys' := [(k138, .int)]) [23] rfl))
  obtain rfl : k140 = kk 0 := kA_byte (hK.app (hK1.sub (tys' := [(k140, .byte)]) [24] rfl))
  obtain rfl : k142 = kk 1 := kA_int (hK.app (hK1.sub (tys' := [(k142, .int)]) [25] rfl))
  obtain rfl : k144 = kk 0 := kA_byte (hK.app (hK1.sub (tys' := [(k144, .byte)]) [26] rfl))
  obtain rfl : k146 = kk 1 := kA_int (hK.app (hK1.sub (tys' := [(k146, .int)]) [27] rfl))
  obtain rfl : k148 = kk 1 := kA_int (hK.app (hK1.sub (tys' := [(k148, .int)]) [28] rfl))
  obtain rfl : k150 = kk 1 := kA_int (hK.app (hK1.sub (tys' := [(k150, .int)]) [29] rfl))
  obtain rfl : k152 = kk 0 := kA_byte (hK.app (hK1.sub (tys' := [(k152, .byte)]) [30] rfl))
  obtain rfl : k154 = kk 1 := kA_int (hK.app (hK1.sub (tys' := [(k154, .int)]) [31] rfl))
  obtain rfl : k156 = kk 0 := kA_byte (hK.app (hK1.sub (tys' := [(k156, .byte)]) [32] rfl))
  obtain rfl : k158 = kk 1 := kA_int (hK.app (hK1.sub (tys' := [(k158, .int)]) [33] rfl))
  obtain rfl : k160 = kk 1 := kA_int (hK.app (hK1.sub (tys' := [(k160, .int)]) [34] rfl))
  obtain rfl : k162 = kk 1 := kA_int (hK.app (hK1.sub (tys' := [(k162, .int)]) [35] rfl))
  obtain rfl : k164 = kk 0 := kA_byte (hK.app (hK1.sub (tys' := [(k164, .byte)]) [36] rfl))
  obtain rfl : k166 = kk 1 := kA_int (hK.app (hK1.sub (tys' := [(k166, .int)]) [37] rfl))
  obtain rfl : k168 = kk 0 := kA_byte (hK.app (hK1.sub (tys' := [(k168, .byte)]) [38] rfl))
  obtain rfl : k170 = kk 0 := kA_byte (hK.app (hK1.sub (tys' := [(k170, .byte)]) [39] rfl))
  obtain rfl : k172 = kk 1 := kA_int (hK.app (hK1.sub (tys' := [(k172, .int)]) [40] rfl))
  obtain rfl : k174 = kk 1 := kA_int (hK.app (hK1.sub (tys' := [(k174, .int)]) [41] rfl))
  obtain rfl : k176 = kk 1 := kA_int (hK.app (hK1.sub (tys' := [(k176, .int)]) [42] rfl))
  obtain rfl : k178 = kk 1 := kA_int (hK.app (hK1.sub (tys' := [(k178, .int)]) [43] rfl))
  obtain rfl : k180 = kk 1 := kA_int (hK.app (hK1.sub (tys' := [(k180, .int)]) [44] rfl))
  rw [ht1] at hP1
  obtain ⟨hP, hD⟩ := va_join2 hP hD hk1 hFc hP1 hD1
  replace hP := va_Psw hP
  replace hD := va_Dsw hD
  obtain ⟨qf, hqf⟩ : ∃ qf : Nat → Nat, qf = fun i => [q91, 0, 0, 0, 0, 0, 0, 0, 0, 0, q93, q95, q97, q99, q101, q103, q105, q107, q109, q111, q113, q115, q117, 0, q119, q121, q123, 0, q125, q127, 0, q129, q131, q133, 0, 0, 0, q135, q137, 0, q139, q141, q143, q145, 0, q147, q149, 0, 0, q151, q153, 0, q155, q157, q159, q161, 0, q163, q165, 0, q167, q169, 0, q171, q173, 0, 0, q175, q177, q179, 0].getD i 0 := ⟨_, rfl⟩
  replace hP : va_P (dC, dI) vwCl ((mW h0 (kk 0) (kk 1) (kk 2) qf g0 F0z) ++ w) H1 := by subst hqf; exact hP
  replace hD : va_D A ((mW h0 (kk 0) (kk 1) (kk 2) qf g0 F0z) ++ w) := by subst hqf; exact hD
  clear hFc hk1 hz1 hvm ht1 hP1 hD1 hK1 hPc hDc hqf
  generalize H1 = H at hP hS ⊢
  refine lv_astore_n (lv' := [(2, .ref h0), (1, .ref (nad 0)), (0, .ref b)]) hx hb dL_law_15 rfl hl (by decide +kernel) rfl (fun ls hl => ?_)
  refine lv_iconst (v := 0) hx hb dL_law_16 (by decide +kernel) ?_
  refine lv_istore_n (lv' := [(3, .int 0), (2, .ref h0), (1, .ref (nad 0)), (0, .ref b)]) hx hb dL_law_17 rfl hl (by decide +kernel) rfl (fun ls hl => ?_)
  exact law_loop l C0 hL hA hbA hAl hE hSE hK (q := qf) 4000 0 0 w g0 F0z 0 0 H _ ls _ _ (by decide) (by omega) (by omega) hC m_start (by omega) (by omega) hP hD hS hl
