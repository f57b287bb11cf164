theorem inL11 : ∀ w ∈ u_ws RX11 TX11 17, w ∈ wL := fun w h => List.mem_append_right _ (List.mem_append_right _ (List.mem_append_right _ (List.mem_append_right _ (List.mem_append_right _ (List.mem_append_right _ (List.mem_append_right _ (List.mem_append_right _ (List.mem_append_right _ (List.mem_append_right _ (List.mem_append_right _ (List.mem_append_right _ (List.mem_append_right _ (List.mem_append_right _ (List.mem_append_left _ h))))))))))))))
theorem inL12 : ∀ w ∈ u_ws RX12 TX12 71, w ∈ wL := tX12L
theorem eta9 (r : ((Nat → Nat → Int32) × (Nat → Nat → Option Nat) × (Nat → Nat → Int64) × (Nat → Nat → Nat → Int32) × (Nat → Nat → Nat → Int64) × (Nat → Nat → Nat → Option Nat) × (Nat → Nat) × (Nat → Nat) × Nat) × Nat × Nat) : r = ((r.1.1, r.1.2.1, r.1.2.2.1, r.1.2.2.2.1, r.1.2.2.2.2.1, r.1.2.2.2.2.2.1, r.1.2.2.2.2.2.2.1, r.1.2.2.2.2.2.2.2.1, r.1.2.2.2.2.2.2.2.2), r.2.1, r.2.2) := by
  obtain ⟨⟨a, b, c, d, e, f, g, h, i⟩, j, k⟩ := r
  rfl
def g0 : Nat → Int32 := fun i => if i = 8 then -1 else 0
def F0z : Nat → Nat → Int32 := fun _ _ => 0
theorem m_start : MS g0 F0z 0 := ⟨(MInv_i (⟨by decide, by decide⟩) (⟨by decide, by decide⟩) (⟨by decide, by decide⟩) (⟨by decide, by decide⟩) (⟨by decide, by decide⟩) (⟨by decide, by decide⟩) (⟨by decide, by decide⟩) (⟨by decide, by decide⟩) (⟨by decide, by decide⟩) (⟨by decide, by decide⟩) (⟨by decide, by decide⟩) (⟨by decide, by decide⟩) (⟨by decide, by decide⟩) (⟨by decide, by decide⟩) (⟨by decide, by decide⟩) (⟨by decide, by decide⟩) (⟨by decide, by decide⟩) (⟨by decide, by decide⟩) (⟨by decide, by decide⟩) (⟨by decide, by decide⟩) (⟨by decide, by decide⟩) (⟨by decide, by decide⟩) (⟨by decide, by decide⟩) (⟨by decide, by decide⟩) (⟨by decide, by decide⟩) ((fun _ => ⟨(show (0 : Int) ≤ (0 : Int32).toInt by decide), (show (0 : Int32).toInt ≤ (40 : Int) by decide)⟩)) ((fun _ => ⟨(show (0 : Int) ≤ (0 : Int32).toInt by decide), (show (0 : Int32).toInt ≤ (40 : Int) by decide)⟩)) ((fun _ => ⟨(show (0 : Int) ≤ (0 : Int32).toInt by decide), (show (0 : Int32).toInt ≤ (40 : Int) by decide)⟩)) ((fun _ => ⟨(show (-1 : Int) ≤ (0 : Int32).toInt by decide), (show (0 : Int32).toInt ≤ (16 : Int) by decide)⟩)) ((fun _ => ⟨(show (-1 : Int) ≤ (0 : Int32).toInt by decide), (show (0 : Int32).toInt ≤ (16 : Int) by decide)⟩)) ((fun _ => ⟨(show (-1 : Int) ≤ (0 : Int32).toInt by decide), (show (0 : Int32).toInt ≤ (16 : Int) by decide)⟩)) ((fun _ => ⟨(show (0 : Int) ≤ (0 : Int32).toInt by decide), (show (0 : Int32).toInt ≤ (24 : Int) by decide)⟩)) ((fun _ => ⟨(show (0 : Int) ≤ (0 : Int32).toInt by decide), (show (0 : Int32).toInt ≤ (24 : Int) by decide)⟩)) ((fun _ => ⟨(show (0 : Int) ≤ (0 : Int32).toInt by decide), (show (0 : Int32).toInt ≤ (24 : Int) by decide)⟩)) ((fun _ => ⟨(show (0 : Int) ≤ (0 : Int32).toInt by decide), (show (0 : Int32).toInt ≤ (24 : Int) by decide)⟩)) ((fun _ => ⟨(show (0 : Int) ≤ (0 : Int32).toInt by decide), (show (0 : Int32).toInt ≤ (24 : Int) by decide)⟩)) ((fun _ => ⟨(show (0 : Int) ≤ (0 : Int32).toInt by decide), (show (0 : Int32).toInt ≤ (24 : Int) by decide)⟩)) ((fun _ => ⟨(show (0 : Int) ≤ (0 : Int32).toInt by decide), (show (0 : Int32).toInt ≤ (24 : Int) by decide)⟩)) ((fun _ => ⟨(show (0 : Int) ≤ (0 : Int32).toInt by decide), (show (0 : Int32).toInt ≤ (24 : Int) by decide)⟩)) ((fun _ => ⟨(show (0 : Int) ≤ (0 : Int32).toInt by decide), (show (0 : Int32).toInt ≤ (24 : Int) by decide)⟩)) ((fun _ => ⟨(show (0 : Int) ≤ (0 : Int32).toInt by decide), (show (0 : Int32).toInt ≤ (24 : Int) by decide)⟩)) ((fun _ => ⟨(show (0 : Int) ≤ (0 : Int32).toInt by decide), (show (0 : Int32).toInt ≤ (24 : Int) by decide)⟩)) ((fun _ => ⟨(show (0 : Int) ≤ (0 : Int32).toInt by decide), (show (0 : Int32).toInt ≤ (12 : Int) by decide)⟩)) (fun r j _ hj => absurd hj (by have z : (F0z 11 r).toInt = 0 := (by decide : (0 : Int32).toInt = 0); omega))), by decide⟩
set_option maxHeartbeats 8000000 in
set_option maxRecDepth 100000 in
theorem law_new {p : Program} {e : Env} {s : State} {m : MethodId} {below : List Frame} {meth : Method} {c : Code} (l : Launch) {b L : Nat} {xs : Nat → Int32} {A : Nat → Prop} {dC : Nat → ClassId} {dI : Nat → Nat → Nat} {kk : Nat → ClassId} {adK adV : Nat → Nat} (hL : L ≤ 3072) (C0 : lw_At p s m meth c b L xs) (hA : ∀ q : Nat, s.heap.size ≤ q → A q) (hbA : ¬ A b) (hAl : ∀ q : Nat, A q → s.heap.size ≤ q) (hE : EnvOK s) (hSE : SE adK adV A s) (hK : va_K (dC, dI) vwCl (cT kk) s) {H : Heap} {ls : Array Slot} (hP : va_P (dC, dI) vwCl [] H) (hD : va_D A []) (hS : va_S A s.heap H []) (hl : lv_has ls 4 [(0, .ref b)]) : W p l e room_1 s m #[Value.ref b] below meth c H [] 0 0 (lw_Z below #[Value.ref b] s) (F0 m 0 ls []) := by
  obtain ⟨hx, hb, hr9, hml, hown, hts0, hX, hbl, hlocks, hgv⟩ := id C0
  have hts := fun w h => hts0 w (wL_tb w h)
  refine va_new (ci := 11) (fs := [.null, .null, .int 0, .int 0, .null, .null, .null, .null, .null, .null, .null, .int 0, .null, .int 0, .null, .null, .null]) (C := RX11) (T := TX11) (N := 17) hx hb hts inL11 tyX11 tyX11_ok hown (hts (.classLink RL 7 RX11) iw_0) (hts (.instantiable RX11 17) iw_1) (hts (.initialized RX11) iw_2) hK hP hD hS hA rfl (fun j hj => match j, hj with | 0, _ => rfl | 1, _ => rfl | 2, _ => rfl | 3, _ => rfl | 4, _ => rfl | 5, _ => rfl | 6, _ => rfl | 7, _ => rfl | 8, _ => rfl | 9, _ => rfl | 10, _ => rfl | 11, _ => rfl | 12, _ => rfl | 13, _ => rfl | 14, _ => rfl | 15, _ => rfl | 16, _ => rfl | j + 17, hj => absurd hj (by omega)) (Nat.le_of_ble_eq_true rfl) (Nat.le_of_ble_eq_true rfl) dL_law_0 (fun x0 H hP hD hS => ?_)
  obtain ⟨G1, P1, U1, V1, X1, O1, kd1, ln1, cnt1, ad1, hr, hW, hT, hE1, hk0, ha0⟩ := newcS (ws := []) (ad := fun _ => 0) (kk := kk) (A := A) (q := x0) (e1 := .inr (11, [.null, .null, .int 0, .int 0, .null, .null, .null, .null, .null, .null, .null, .int 0, .null, .int 0, .null, .null, .null])) (K := 12) (n := 0) ir_new ⟨fun a ha => absurd rfl ha, fun a b ha => absurd rfl ha⟩ ⟨fun f a b h => (by cases h), fun r a i b h => (by cases h), fun a i => rfl, fun a _ => rfl⟩ hD (by decide) (fun _ => rfl)
  obtain ⟨uc, us, hr, hu1, hu2⟩ : ∃ uc us : Nat, f_X11_init G1 P1 U1 V1 X1 O1 kd1 ln1 cnt1 0 = some ((iG, iP, iU, iV, iX, iO, iK, iL, iC), uc, us) ∧ uc ≤ 200 ∧ us ≤ 100000 := ⟨irR.2.1, irR.2.2, hr.trans (congrArg some (eta9 irR)), iu1, iu2⟩
  refine lv_dup hx hb dL_law_3 rfl ?_
  subst ha0
  have hFc := va_fr2 (a := []) (b := [(ad1 0, .inr (11, [.null, .null, .int 0, .int 0, .null, .null, .null, .null, .null, .null, .null, .int 0, .null, .int 0, .null, .null, .null]))]) hD hS hA
  refine va_callv (va_runI (As := []) (rest := [.ref (ad1 0)]) ⟨hx, hb, hml, hown, hts⟩ (m_X11_init l dC dI kk ad1 H.size _ G1 P1 U1 V1 X1 O1 kd1 ln1 cnt1 0 hk0 hW hT iG iP iU iV iX iO iK iL iC uc us hr) (cwI 0 hts gl_X11_init rfl rfl rfl (hts (.initialized RX11) iw_2) (hts (.methodLink RL 9 yX11_init) iw_6) (hts (.instanceMethod yX11_init) iw_7) rfl (by decide +kernel) ⟨Nat.le_of_ble_eq_true rfl, Nat.le_of_ble_eq_true rfl⟩) ⟨fun a U g mk q => by obtain ⟨q0, q1, qP, qK, qD, qE⟩ := q; exact ⟨q0, q1, qP, va_K.moved (u := U) (U := U.calling g mk a) (Vm.Alike.refl U.vm) qK, qD, en_call qE⟩, fun U hU hW => ⟨rfl, by rw [hU], by rw [hU]; exact hP, va_K.moved hW.alike hK, hD.weaken (fun _ _ _ _ => trivial), en_warm hW hE⟩⟩ rfl rfl hl.1 rfl (lv_room (Nat.le_of_ble_eq_true rfl)) dL_law_4 ⟨by show _ ≤ (600000 : Nat); omega, by show _ ≤ (7302250 : Nat); omega⟩) hS (fun q _ h => hFc q h) hFc (fun w t H1 locs ht1 hvm hw hB hz1 hk1 hS => ?_)
  obtain ⟨w, nad⟩ := w
  dsimp only at hw hB
  obtain ⟨hW1, hT1, hE2⟩ := hw
  obtain ⟨hP1, hK1, hD1⟩ := hB
  rw [ht1] at hP1
  obtain ⟨hP, hD⟩ := va_join2 (a := []) hP hD hk1 hFc hP1 hD1
  replace hP : va_P (dC, dI) vwCl w H1 := hP
  replace hD : va_D A w := hD
  have hxa : ad1 0 = nad 0 := (hE2.1 0 (by rw [hk0]; decide)).symm
  rw [hxa]
  clear hFc hk1 hz1 hvm ht1 hP1 hD1 hK1
  generalize H1 = H at hP hS ⊢
  have hC : CS kk w (nad 0) 0 0 g0 F0z := ⟨nad, iK, wd0, iG, iP, iU, iV, iX, iO, iK, iL, iC, 0, tp0, bk0, fl0, rfl, hW1, hT1, i_inv, i_x, i_x, i_tp, i_bk, i_fl, i_tape, i_s7, i_rl (by decide) (fun _ => rfl) (fun _ => rfl) (fun _ => rfl) (by decide) (by decide) (by decide) (by decide) (by decide) (by decide) (by decide) (by decide)⟩
  refine lv_astore_n (lv' := [(1, .ref (nad 0)), (0, .ref b)]) hx hb dL_law_7 rfl hl (by decide +kernel) rfl (fun ls hl => ?_)
  refine va_new (ci := 12) (fs := (.null :: .int 0 :: .int 0 :: .int 0 :: .int 0 :: .int 0 :: .int 0 :: .int 0 :: .int 0 :: .int 0 :: .null :: .null :: .null :: .null :: .null :: .null :: .null :: .null :: .null :: .null :: .null :: .null :: .null :: .int 0 :: .null :: .null :: .null :: .int 0 :: .null :: .null :: .int 0 :: .null :: .null :: .null :: .int 0 :: .int 0 :: .int 0 :: .null :: .null :: .int 0 :: .null :: .null :: .null :: .null :: .int 0 :: .null :: .null :: .int 0 :: .int 0 :: .null :: .null :: .int 0 :: .null :: .null :: .null :: .null :: .int 0 :: .null :: .null :: .int 0 :: .null :: .null :: .int 0 :: .null :: .null :: .int 0 :: .int 0 :: .null :: .null :: .null :: .int 0 :: [])) (C := RX12) (T := TX12) (N := 71) hx hb hts inL12 tyX12 tyX12_ok hown (hts (.classLink RL 10 RX12) iw_3) (hts (.instantiable RX12 71) iw_4) (hts (.initialized RX12) iw_5) hK hP hD hS hA rfl (fun j hj => match j, hj with | 0, _ => rfl | 1, _ => rfl | 2, _ => rfl | 3, _ => rfl | 4, _ => rfl | 5, _ => rfl | 6, _ => rfl | 7, _ => rfl | 8, _ => rfl | 9, _ => rfl | 10, _ => rfl | 11, _ => rfl | 12, _ => rfl | 13, _ => rfl | 14, _ => rfl | 15, _ => rfl | 16, _ => rfl | 17, _ => rfl | 18, _ => rfl | 19, _ => rfl | 20, _ => rfl | 21, _ => rfl | 22, _ => rfl | 23, _ => rfl | 24, _ => rfl | 25, _ => rfl | 26, _ => rfl | 27, _ => rfl | 28, _ => rfl | 29, _ => rfl | 30, _ => rfl | 31, _ => rfl | 32, _ => rfl | 33, _ => rfl | 34, _ => rfl | 35, _ => rfl | 36, _ => rfl | 37, _ => rfl | 38, _ => rfl | 39, _ => rfl | 40, _ => rfl | 41, _ => rfl | 42, _ => rfl | 43, _ => rfl | 44, _ => rfl | 45, _ => rfl | 46, _ => rfl | 47, _ => rfl | 48, _ => rfl | 49, _ => rfl | 50, _ => rfl | 51, _ => rfl | 52, _ => rfl | 53, _ => rfl | 54, _ => rfl | 55, _ => rfl | 56, _ => rfl | 57, _ => rfl | 58, _ => rfl | 59, _ => rfl | 60, _ => rfl | 61, _ => rfl | 62, _ => rfl | 63, _ => rfl | 64, _ => rfl | 65, _ => rfl | 66, _ => rfl | 67, _ => rfl | 68, _ => rfl | 69, _ => rfl | 70, _ => rfl | j + 71, hj => absurd hj (by omega)) (by show _ ≤ (600000 : Nat); omega) (by show _ ≤ (7302250 : Nat); omega) dL_law_8 (fun h0 H hP hD hS => ?_)
  refine lv_dup hx hb dL_law_11 rfl ?_
  have hFc := va_fr2 hD hS hA
  have hPc := va_Pr hP
  have hDc := va_Drr hD
  refine va_callv (va_runI (As := []) (rest := [.ref h0]) ⟨hx, hb, hml, hown, hts⟩ (c_X12i l dC dI H.size h0) (cwI 0 hts g_x12i rfl rfl rfl (hts (.initialized RX12) iw_5) (hts (.methodLink RL 12 yX12_init) iw_9) (hts (.instanceMethod yX12_init) iw_10) rfl (by decide +kernel) ⟨Nat.le_of_ble_eq_true rfl, Nat.le_of_ble_eq_true rfl⟩) ⟨fun a U g mk q => by obtain ⟨q0, q1, qP, qK, qD⟩ := q; exact ⟨q0, q1, qP, va_K.moved (u := U) (U := U.calling g mk a) (Vm.Alike.refl U.vm) qK, qD⟩, fun U hU hW => ⟨rfl, by rw [hU], by rw [hU]; exact hPc, va_K.moved hW.alike (hK.sub [] rfl), hDc.weaken (fun _ _ _ _ => trivial)⟩⟩ rfl rfl hl.1 rfl (lv_room (Nat.le_of_ble_eq_true rfl)) dL_law_12 ⟨by show _ ≤ (600000 : Nat); omega, by show _ ≤ (7302250 : Nat); omega⟩) hS (fun q _ h => hFc q h) hFc (fun u t H1 locs ht1 hvm hw hB hz1 hk1 hS => ?_)
  obtain ⟨qf, kf, hP1, hK1, hD1⟩ := hB
  have hK1 := va_K.moved hvm.symm hK1
  have ek0 : kf 0 = kk 0 := kA_byte (hK.app (hK1.sub (tys' := [(kf 0, .byte)]) [0] rfl))
  have ek1 : kf 1 = kk 1 := kA_int (hK.app (hK1.sub (tys' := [(kf 1, .int)]) [1] rfl))
  have ek2 : kf 2 = kk 1 := kA_int (hK.app (hK1.sub (tys' := [(kf 2, .int)]) [2] rfl))
  have ek3 : kf 3 = kk 1 := kA_int (hK.app (hK1.sub (tys' := [(kf 3, .int)]) [3] rfl))
  have ek4 : kf 4 = kk 1 := kA_int (hK.app (hK1.sub (tys' := [(kf 4, .int)]) [4] rfl))
  have ek5 : kf 5 = kk 0 := kA_byte (hK.app (hK1.sub (tys' := [(kf 5, .byte)]) [5] rfl))
  have ek6 : kf 6 = kk 1 := kA_int (hK.app (hK1.sub (tys' := [(kf 6, .int)]) [6] rfl))
  have ek7 : kf 7 = kk 2 := kA_boolean (hK.app (hK1.sub (tys' := [(kf 7, .boolean)]) [7] rfl))
  have ek8 : kf 8 = kk 2 := kA_boolean (hK.app (hK1.sub (tys' := [(kf 8, .boolean)]) [8] rfl))
  have ek9 : kf 9 = kk 0 := kA_byte (hK.app (hK1.sub (tys' := [(kf 9, .byte)]) [9] rfl))
  have ek10 : kf 10 = kk 1 := kA_int (hK.app (hK1.sub (tys' := [(kf 10, .int)]) [10] rfl))
  have ek11 : kf 11 = kk 0 := kA_byte (hK.app (hK1.sub (tys' := [(kf 11, .byte)]) [11] rfl))
  have ek12 : kf 12 = kk 1 := kA_int (hK.app (hK1.sub (tys' := [(kf 12, .int)]) [12] rfl))
  have ek13 : kf 13 = kk 0 := kA_byte (hK.app (hK1.sub (tys' := [(kf 13, .byte)]) [13] rfl))
  have ek14 : kf 14 = kk 1 := kA_int (hK.app (hK1.sub (tys' := [(kf 14, .int)]) [14] rfl))
  have ek15 : kf 15 = kk 1 := kA_int (hK.app (hK1.sub (tys' := [(kf 15, .int)]) [15] rfl))
  have ek16 : kf 16 = kk 1 := kA_int (hK.app (hK1.sub (tys' := [(kf 16, .int)]) [16] rfl))
  have ek17 : kf 17 = kk 2 := kA_boolean (hK.app (hK1.sub (tys' := [(kf 17, .boolean)]) [17] rfl))
  have ek18 : kf 18 = kk 0 := kA_byte (hK.app (hK1.sub (tys' := [(kf 18, .byte)]) [18] rfl))
  have ek19 : kf 19 = kk 0 := kA_byte (hK.app (hK1.sub (tys' := [(kf 19, .byte)]) [19] rfl))
  have ek20 : kf 20 = kk 0 := kA_byte (hK.app (hK1.sub (tys' := [(kf 20, .byte)]) [20] rfl))
  have ek21 : kf 21 = kk 1 := kA_int (hK.app (hK1.sub (tys' := [(kf 21, .int)]) [21] rfl))
  have ek22 : kf 22 = kk 0 := kA_byte (hK.app (hK1.sub (tys' := [(kf 22, .byte)]) [22] rfl))
  have ek23 : kf 23 = kk 1 := kA_int (hK.app (hK1.sub (tys' := [(kf 23, .int)]) [23] rfl))
  have ek24 : kf 24 = kk 0 := kA_byte (hK.app (hK1.sub (tys' := [(kf 24, .byte)]) [24] rfl))
  have ek25 : kf 25 = kk 1 := kA_int (hK.app (hK1.sub (tys' := [(kf 25, .int)]) [25] rfl))
  have ek26 : kf 26 = kk 0 := kA_byte (hK.app (hK1.sub (tys' := [(kf 26, .byte)]) [26] rfl))
  have ek27 : kf 27 = kk 1 := kA_int (hK.app (hK1.sub (tys' := [(kf 27, .int)]) [27] rfl))
  have ek28 : kf 28 = kk 1 := kA_int (hK.app (hK1.sub (tys' := [(kf 28, .int)]) [28] rfl))
  have ek29 : kf 29 = kk 1 := kA_int (hK.app (hK1.sub (tys' := [(kf 29, .int)]) [29] rfl))
  have ek30 : kf 30 = kk 0 := kA_byte (hK.app (hK1.sub (tys' := [(kf 30, .byte)]) [30] rfl))
  have ek31 : kf 31 = kk 1 := kA_int (hK.app (hK1.sub (tys' := [(kf 31, .int)]) [31] rfl))
  have ek32 : kf 32 = kk 0 := kA_byte (hK.app (hK1.sub (tys' := [(kf 32, .byte)]) [32] rfl))
  have ek33 : kf 33 = kk 1 := kA_int (hK.app (hK1.sub (tys' := [(kf 33, .int)]) [33] rfl))
  have ek34 : kf 34 = kk 1 := kA_int (hK.app (hK1.sub (tys' := [(kf 34, .int)]) [34] rfl))
  have ek35 : kf 35 = kk 1 := kA_int (hK.app (hK1.sub (tys' := [(kf 35, .int)]) [35] rfl))
  have ek36 : kf 36 = kk 0 := kA_byte (hK.app (hK1.sub (tys' := [(kf 36, .byte)]) [36] rfl))
  have ek37 : kf 37 = kk 1 := kA_int (hK.app (hK1.sub (tys' := [(kf 37, .int)]) [37] rfl))
  have ek38 : kf 38 = kk 0 := kA_byte (hK.app (hK1.sub (tys' := [(kf 38, .byte)]) [38] rfl))
  have ek39 : kf 39 = kk 0 := kA_byte (hK.app (hK1.sub (tys' := [(kf 39, .byte)]) [39] rfl))
  have ek40 : kf 40 = kk 1 := kA_int (hK.app (hK1.sub (tys' := [(kf 40, .int)]) [40] rfl))
  have ek41 : kf 41 = kk 1 := kA_int (hK.app (hK1.sub (tys' := [(kf 41, .int)]) [41] rfl))
  have ek42 : kf 42 = kk 1 := kA_int (hK.app (hK1.sub (tys' := [(kf 42, .int)]) [42] rfl))
  have ek43 : kf 43 = kk 1 := kA_int (hK.app (hK1.sub (tys' := [(kf 43, .int)]) [43] rfl))
  have ek44 : kf 44 = kk 1 := kA_int (hK.app (hK1.sub (tys' := [(kf 44, .int)]) [44] rfl))
  simp only [ek0, ek1, ek2, ek3, ek4, ek5, ek6, ek7, ek8, ek9, ek10, ek11, ek12, ek13, ek14, ek15, ek16, ek17, ek18, ek19, ek20, ek21, ek22, ek23, ek24, ek25, ek26, ek27, ek28, ek29, ek30, ek31, ek32, ek33, ek34, ek35, ek36, ek37, ek38, ek39, ek40, ek41, ek42, ek43, ek44] at hP1 hD1
  rw [ht1] at hP1
  obtain ⟨hP, hD⟩ := va_join2 hP hD hk1 hFc hP1 hD1
  replace hP := va_Psw hP
  replace hD := va_Dsw hD
  replace hP : va_P (dC, dI) vwCl ((mW h0 (kk 0) (kk 1) (kk 2) qf g0 F0z) ++ w) H1 := hP
  replace hD : va_D A ((mW h0 (kk 0) (kk 1) (kk 2) qf g0 F0z) ++ w) := hD
  clear hFc hk1 hz1 hvm ht1 hP1 hD1 hK1 hPc hDc
  generalize H1 = H at hP hS ⊢
  refine lv_astore_n (lv' := [(2, .ref h0), (1, .ref (nad 0)), (0, .ref b)]) hx hb dL_law_15 rfl hl (by decide +kernel) rfl (fun ls hl => ?_)
  refine lv_iconst (v := 0) hx hb dL_law_16 (by decide +kernel) ?_
  refine lv_istore_n (lv' := [(3, .int 0), (2, .ref h0), (1, .ref (nad 0)), (0, .ref b)]) hx hb dL_law_17 rfl hl (by decide +kernel) rfl (fun ls hl => ?_)
  exact law_loop l C0 hL hA hbA hAl hE hSE hK (q := qf) 4000 0 0 w g0 F0z 0 0 H _ ls _ _ (by decide) (by omega) (by omega) hC m_start (by omega) (by omega) hP hD hS hl
