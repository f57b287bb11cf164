abbrev QF_makeForm (g : Nat → Int32) (F : Nat → Nat → Int32) (p0 : Int32) (p1 : Int32) (ls : List Lw) (W : Wd) (w : List Wd) (D : List Wd) : (Int32 × Int32 × Int32 × (Nat → Int32) × (Nat → Int32) × (Nat → Int32) × (Nat → Int32)) → Prop := (fun t => (rwW (t.2.1) (t.2.2.2.2.2.1) (t.2.2.2.2.2.2) 24 = (gdF (mkA ls [] w)).foldl (addF 31) D) ∧ ((∀ j, j < Int32.toNatClampNeg (t.2.1) → Int32.toNatClampNeg ((t.2.2.2.2.2.2) j) ≤ 24)))
set_option maxHeartbeats 4000000 in
set_option maxRecDepth 100000 in
theorem fn_makeForm (g : Nat → Int32) (F : Nat → Nat → Int32) (p0 : Int32) (p1 : Int32) (ls : List Lw) (W : Wd) (w : List Wd) (D : List Wd) (hI : MInv g F) (hp0 : (0 ≤ p0.toInt ∧ p0.toInt ≤ 6)) (hp1 : ((-1) ≤ p1.toInt ∧ p1.toInt < 30)) (hp2 : (p1.toInt ≠ -1 → p1.toInt < (g 27).toInt)) (hp3 : WS (F 25) (F 26) (g 27)) (hp4 : (g 34).toInt ≤ 29) (hp5 : p0.toInt < (g 9).toInt) (hls : lwsR ((F 11) (Int32.toNatClampNeg p0)) (F 14) (F 15) (F 16) (F 17) (40 * Int32.toNatClampNeg p0) = ls) (hW : wdl (F 22) 0 (Int32.toNatClampNeg (g 23)) = W) (hD : rwW (g 34) (F 32) (F 33) 24 = D) (hwy : (p1.toInt = -1 ∧ w = [W]) ∨ (p1.toInt ≠ -1 ∧ ((F 26) (Int32.toNatClampNeg p1)).toInt = ((w.length : Nat) : Int) ∧ (∀ i x, w[i]? = some x → ((F 25) (24 * Int32.toNatClampNeg p1 + i)).toInt = ((x.length : Nat) : Int)) ∧ w.flatten = W)) (hwl : ∀ L ∈ ls, 1 ≤ L.1.length ∧ BW L.2.1) (hbw : BW W) (hsz : ∀ j, j < Int32.toNatClampNeg (g 34) → Int32.toNatClampNeg ((F 33) j) ≤ 24) : pw (f_makeForm g F p0 p1) (QF_makeForm g F p0 p1 ls W w D) := by
  unfold f_makeForm
  have hI9 : id (MInv g F) := hI
  obtain ⟨-, -, -, -, -, -, -, -, hzg9, hzg23, hzg27, hzg30, hzg34, hzg36, -, -, -, -, -, -, -, -, -, -, -, hzF11, hzF12, hzF13, hzF15, hzF19, hzF21, hzF24, hzF25, hzF26, hzF33, hzF38, hzF41, hzF43, hzF45, hzF46, hzF50, hzF53, hzF54, hzLQ⟩ := hI
  have zkm1 : (-1 : Int32).toInt = -1 := by decide +kernel
  have zk0 : (0 : Int32).toInt = 0 := by decide +kernel
  have zk1 : (1 : Int32).toInt = 1 := by decide +kernel
  have zk24 : (24 : Int32).toInt = 24 := by decide +kernel
  have zk40 : (40 : Int32).toInt = 40 := by decide +kernel
  have cp0 := clampI (x := p0) (by omega)
  have hb34 := hzg34
  have c34 := clampI (x := g 34) (by omega)
  have hb23 := hzg23
  have c23 := clampI (x := g 23) (by omega)
  have hWl : W.length = Int32.toNatClampNeg (g 23) := by rw [← hW]; exact wdl_len
  have hDl : D.length = Int32.toNatClampNeg (g 34) := by rw [← hD]; exact rw_len
  have hfl : w.flatten = W := by rcases hwy with ⟨_, h9⟩ | ⟨_, _, _, h9⟩; (rw [h9]; show W ++ [] = W; rw [List.append_nil]); (exact h9)
  have hlc := hzF11 (Int32.toNatClampNeg p0)
  have clc := clampI (x := (F 11) (Int32.toNatClampNeg p0)) (by omega)
  have hlsl : ls.length = Int32.toNatClampNeg ((F 11) (Int32.toNatClampNeg p0)) := by rw [← hls]; exact tab_len
  refine pw_jE (fun j15 ej15 => ?_)
  refine pw_ite (fun c2 => ?_) (fun c2 => ?_)
  · have c2 := congrArg Int32.toInt c2
    refine pw_j1 ej15 (fun t15_0 et15_0 => ?_)
    have et15_0 := et15_0.symm
    have f_t15_0 : t15_0.toInt = 1 := by rw [et15_0]; decide +kernel
    have hmy : t15_0.toInt = ((w.length : Nat) : Int) := by rcases hwy with ⟨h8, h9⟩ | ⟨h8, h9, _, _⟩; (first | (rw [h9]; show _ = (1 : Int); omega) | (exfalso; omega)); (first | omega | (exfalso; omega))
    refine pw_jE (fun k236 ek236 => ?_)
    have lp28 : ∀ (n28 : Nat) (y28_4 : Int32) (y28_5 : Int32) (y28_6 : Int32) (y28_7 : Int32) (d28_g30 : Int32) (d28_g36 : Int32) (d28_F29 : (Nat → Int32)) (d28_F31 : (Nat → Int32)) (d28_F32 : (Nat → Int32)), ((0) ≤ d28_g30.toInt ∧ d28_g30.toInt ≤ 384) → ((0) ≤ d28_g36.toInt ∧ d28_g36.toInt ≤ 1) → (0 ≤ y28_4.toInt ∧ y28_4.toInt ≤ 24) → (0 ≤ y28_5.toInt ∧ y28_5.toInt ≤ 384 * y28_7.toInt) → (0 ≤ y28_7.toInt ∧ y28_7.toInt ≤ 24) → (y28_6.toInt = 0 ∨ y28_6.toInt = 1) → (p1.toInt = -1 → y28_7.toInt = 0 → y28_4.toInt = 0) → (p1.toInt ≠ -1 → y28_4.toInt = psum (F 25) (24 * p1.toInt.toNat) y28_7.toInt.toNat) → y28_7.toInt ≤ ((w.length : Nat) : Int) → (y28_4.toInt = ((sumN (w.take (Int32.toNatClampNeg y28_7)) : Nat) : Int)) → (∀ q, q < 24 * (Int32.toNatClampNeg (g 34)) → d28_F32 q = (F 32) q) → (id ((y28_6.toInt ≠ 0 ∧ ∃ acc, mkA ls [] w = mkA ls acc (w.drop (Int32.toNatClampNeg y28_7)) ∧ y28_5.toInt = ((acc.length : Nat) : Int) ∧ (y28_5.toInt ≤ 24 → wdl d28_F32 (24 * (Int32.toNatClampNeg (g 34))) (Int32.toNatClampNeg y28_5) = acc)) ∨ (y28_6.toInt = 0 ∧ mkA ls [] w = none))) → pw (L_makeForm_28 g F p0 p1 t15_0 k236 n28 y28_4 y28_5 y28_6 y28_7 d28_g30 d28_g36 d28_F29 d28_F31 d28_F32) (QF_makeForm g F p0 p1 ls W w D) := by
      intro n28
      induction n28 with
      | zero => intros; exact pw_none
      | succ n28 ih28 =>
        intro y28_4 y28_5 y28_6 y28_7 d28_g30 d28_g36 d28_F29 d28_F31 d28_F32 hg1 hg2 f3 f4 f5 f6 f7 f8 f9 if28 io28 im28
        show pw (B_makeForm_28 g F p0 p1 t15_0 k236 (L_makeForm_28 g F p0 p1 t15_0 k236 n28) y28_4 y28_5 y28_6 y28_7 d28_g30 d28_g36 d28_F29 d28_F31 d28_F32) _
        unfold B_makeForm_28
        refine pw_ite (fun c31 => ?_) (fun c31 => ?_)
        · have c31 := (z_le _ _).mp c31
          refine pw_j7 ek236 (fun x236_5 ex236_5 x236_6 ex236_6 z236_1 ez236_1 z236_2 ez236_2 z236_3 ez236_3 z236_4 ez236_4 z236_5 ez236_5 => ?_)
          subst ez236_1 ez236_2 ez236_3 ez236_4 ez236_5
          have ex236_5 := ex236_5.symm
          have f_x236_5 : x236_5.toInt = y28_5.toInt := by rw [ex236_5]
          have ex236_6 := ex236_6.symm
          have f_x236_6 : x236_6.toInt = y28_6.toInt := by rw [ex236_6]
          refine pw_jE (fun j253 ej253 => ?_)
          refine pw_ite (fun c238 => ?_) (fun c238 => ?_)
          · have c238 := congrArg Int32.toInt c238
            refine pw_j0 ej253 ?_
            have qq0 : rwW (g 34) d28_F32 (F 33) 24 = (gdF (mkA ls [] w)).foldl (addF 31) D := by rcases im28 with ⟨h1, _⟩ | ⟨_, h2⟩; (exfalso; omega); (rw [h2]; show _ = D; rw [rw_low io28 (fun _ _ => rfl) hsz]; exact hD)
            have qq1 : (∀ j, j < Int32.toNatClampNeg (g 34) → Int32.toNatClampNeg ((F 33) j) ≤ 24) := by exact hsz
            exact pw_some ⟨qq0, qq1⟩
          · have c238 := z_ne c238
            refine pw_ite (fun c243 => ?_) (fun c243 => ?_)
            · have c243 := congrArg Int32.toInt c243
              refine pw_j0 ej253 ?_
              have qq0 : rwW (g 34) d28_F32 (F 33) 24 = (gdF (mkA ls [] w)).foldl (addF 31) D := by rcases im28 with ⟨_, acc, a1, a2, a3⟩ | ⟨h1, _⟩; (rw [a1, mkA_end (by have k7 := clampI (x := y28_7) (by omega); omega), gdF_bad (Or.inl (by omega))]; show _ = D; rw [rw_low io28 (fun _ _ => rfl) hsz]; exact hD); (exfalso; omega)
              have qq1 : (∀ j, j < Int32.toNatClampNeg (g 34) → Int32.toNatClampNeg ((F 33) j) ≤ 24) := by exact hsz
              exact pw_some ⟨qq0, qq1⟩
            · have c243 := z_ne c243
              refine pw_ite (fun c250 => ?_) (fun c250 => ?_)
              · have c250 := (z_le _ _).mp c250
                obtain ⟨_, acc, a1, a2, a3⟩ := Or.resolve_right im28 (fun q => by have q9 := q.1; omega)
                have k7 := clampI (x := y28_7) (by omega)
                have k5 := clampI (x := x236_5) (by omega)
                have hmk : mkA ls [] w = some acc := by rw [a1]; exact mkA_end (by omega)
                have hgd1 : gdF (mkA ls [] w) = [acc] := by rw [hmk]; exact gdF_ok (by omega)
                have a4 := a3 (by omega)
                rw [← ex236_5] at a4
                refine pw_if (fun hb264 => ?_)
                obtain ⟨hbl264, hbr264⟩ := hb264
                refine pw_vl (fun w264 ew264 => ?_)
                have hF10 : rng (0) 24 w264 := by rw [ew264]; exact rng_upd hzF33 (by omega) (by omega)
                have lp268 : ∀ (n268 : Nat) (y268_7 : Int32), (0 ≤ y268_7.toInt ∧ y268_7.toInt ≤ 30) → y268_7.toInt ≤ (g 34).toInt → (∀ j x, j < Int32.toNatClampNeg y268_7 → D[j]? = some x → x ≠ acc) → pw (L_makeForm_268 g x236_5 d28_g30 d28_g36 d28_F29 d28_F31 d28_F32 w264 n268 y268_7) (QF_makeForm g F p0 p1 ls W w D) := by
                  intro n268
                  induction n268 with
                  | zero => intros; exact pw_none
                  | succ n268 ih268 =>
                    intro y268_7 f11 f12 in268
                    show pw (B_makeForm_268 g x236_5 d28_g30 d28_g36 d28_F29 d28_F31 d28_F32 w264 (L_makeForm_268 g x236_5 d28_g30 d28_g36 d28_F29 d28_F31 d28_F32 w264 n268) y268_7) _
                    unfold B_makeForm_268
                    refine pw_ite (fun c274 => ?_) (fun c274 => ?_)
                    · have c274 := (z_le _ _).mp c274
                      have f13 : ((g 34) + 1).toInt = (g 34).toInt + 1 := z_addc (by decide +kernel) (by omega) (by omega)
                      refine pw_vl (fun x326 ex326 => ?_)
                      have f14 : x326.toInt = ((g 34) + 1).toInt := congrArg Int32.toInt ex326
                      have hg15 : ((0) ≤ x326.toInt ∧ x326.toInt ≤ 30) := ⟨by omega, by omega⟩
                      have qq0 : rwW x326 d28_F32 w264 24 = (gdF (mkA ls [] w)).foldl (addF 31) D := by have k7 := clampI (x := y268_7) (by omega); have kx := clampI (x := x326) (by omega); rw [hgd1]; show _ = addF 31 D acc; rw [addF_new (fun h => by obtain ⟨j, hj⟩ := List.getElem?_of_mem h; have h8 := get_lt hj; exact in268 j acc (by omega) hj rfl) (by omega), ← hD]; refine rw_app (by omega) io28 (fun j hj => by rw [ew264, pk_un (by omega)]) hsz ?_; rw [ew264, pk_us]; exact a4
                      have qq1 : (∀ j, j < Int32.toNatClampNeg x326 → Int32.toNatClampNeg (w264 j) ≤ 24) := by have kx := clampI (x := x326) (by omega); intro j hj; by_cases q9 : j = Int32.toNatClampNeg (g 34); (rw [q9, ew264, pk_us]; omega); (rw [ew264, pk_un q9]; exact hsz j (by omega))
                      exact pw_some ⟨qq0, qq1⟩
                    · have c274 := z_nle c274
                      have k7 := clampI (x := y268_7) (by omega)
                      have hsj := hsz (Int32.toNatClampNeg y268_7) (by omega)
                      have hw9 : w264 (Int32.toNatClampNeg y268_7) = (F 33) (Int32.toNatClampNeg y268_7) := by rw [ew264, pk_un (by omega)]
                      have hDk : D[Int32.toNatClampNeg y268_7]? = some (wdl d28_F32 (24 * Int32.toNatClampNeg y268_7) (Int32.toNatClampNeg ((F 33) (Int32.toNatClampNeg y268_7)))) := by rw [← hD]; rw [rw_at (by omega)]; exact congrArg some (wdl_ext (fun i hi => (io28 _ (by omega)).symm))
                      have hbs := hF10 (Int32.toNatClampNeg y268_7)
                      have f16 : (24 * y268_7).toInt = 24 * y268_7.toInt := z_muld (by decide +kernel) (by omega) (by omega)
                      refine pw_if (fun hb292 => ?_)
                      obtain ⟨hbl292, hbr292⟩ := hb292
                      have f17 := hF10 (Int32.toNatClampNeg y268_7)
                      have f18 : (24 * (g 34)).toInt = 24 * (g 34).toInt := z_muld (by decide +kernel) (by omega) (by omega)
                      have hpr306_0 : (0 ≤ (24 * y268_7).toInt ∧ (24 * y268_7).toInt + (w264 (Int32.toNatClampNeg y268_7)).toInt ≤ 720) := by first | assumption | omega
                      have hpr306_1 : 720 ≤ 500000 := by first | assumption | omega
                      have hpr306_2 : (0 ≤ (24 * (g 34)).toInt ∧ (24 * (g 34)).toInt + x236_5.toInt ≤ 720) := by first | assumption | omega
                      have hpr306_3 : 720 ≤ 500000 := by first | assumption | omega
                      refine pw_b1 (fun r306 hc306 => ?_)
                      have hq306 := wp_at (ok_sameBytes d28_F32 720 (24 * y268_7) (w264 (Int32.toNatClampNeg y268_7)) d28_F32 720 (24 * (g 34)) x236_5 hpr306_0 hpr306_1 hpr306_2 hpr306_3) hc306
                      have f19 : (0 ≤ r306.toInt ∧ r306.toInt ≤ 1) := hq306
                      clear hq306
                      have h8306_h02 : 0 ≤ (w264 (Int32.toNatClampNeg y268_7)).toInt := by omega
                      have h8306_h05 : 0 ≤ x236_5.toInt := by omega
                      have hx306 := pwq (fn_sameBytes d28_F32 720 (24 * y268_7) (w264 (Int32.toNatClampNeg y268_7)) d28_F32 720 (24 * (g 34)) x236_5 hpr306_0 hpr306_1 hpr306_2 hpr306_3 h8306_h02 h8306_h05) hc306
                      obtain ⟨p306_0, p306_1⟩ : (id ((r306.toInt ≠ 0 → wdl d28_F32 (Int32.toNatClampNeg (24 * y268_7)) (Int32.toNatClampNeg (w264 (Int32.toNatClampNeg y268_7))) = wdl d28_F32 (Int32.toNatClampNeg (24 * (g 34))) (Int32.toNatClampNeg x236_5)))) ∧ (id ((r306.toInt = 0 → wdl d28_F32 (Int32.toNatClampNeg (24 * y268_7)) (Int32.toNatClampNeg (w264 (Int32.toNatClampNeg y268_7))) ≠ wdl d28_F32 (Int32.toNatClampNeg (24 * (g 34))) (Int32.toNatClampNeg x236_5)))) := hx306
                      have ki := clampI (x := 24 * y268_7) (by omega)
                      have kj := clampI (x := 24 * (g 34)) (by omega)
                      rw [hw9, show Int32.toNatClampNeg (24 * y268_7) = 24 * Int32.toNatClampNeg y268_7 by omega, show Int32.toNatClampNeg (24 * (g 34)) = 24 * Int32.toNatClampNeg (g 34) by omega, a4] at p306_0 p306_1
                      refine pw_ite (fun c309 => ?_) (fun c309 => ?_)
                      · have c309 := congrArg Int32.toInt c309
                        have f20 : (y268_7 + 1).toInt = y268_7.toInt + (1) := z_addc (by decide +kernel) (by omega) (by omega)
                        have iv268_0 : (0 ≤ (y268_7 + 1).toInt ∧ (y268_7 + 1).toInt ≤ 30) := by omega
                        have iv268_1 : (y268_7 + 1).toInt ≤ (g 34).toInt := by omega
                        have iv268_2 : (∀ j x, j < Int32.toNatClampNeg (y268_7 + 1) → D[j]? = some x → x ≠ acc) := by have k7 := clampI (x := y268_7) (by omega); have k8 := clampI (x := y268_7 + 1) (by omega); intro j x hj hx; by_cases q9 : j = Int32.toNatClampNeg y268_7; (subst q9; rw [hDk] at hx; cases hx; exact p306_1 (by omega)); (exact in268 j x (by omega) hx)
                        exact ih268 (y268_7 + 1) iv268_0 iv268_1 iv268_2
                      · have c309 := z_ne c309
                        have qq0 : rwW (g 34) d28_F32 w264 24 = (gdF (mkA ls [] w)).foldl (addF 31) D := by rw [hgd1]; show _ = addF 31 D acc; rw [addF_in (by have h9 := List.mem_of_getElem? hDk; rw [p306_0 (by omega)] at h9; exact h9)]; rw [rw_low io28 (fun j hj => by rw [ew264, pk_un (by omega)]) hsz]; exact hD
                        have qq1 : (∀ j, j < Int32.toNatClampNeg (g 34) → Int32.toNatClampNeg (w264 j) ≤ 24) := by intro j hj; rw [ew264, pk_un (by omega)]; exact hsz j hj
                        exact pw_some ⟨qq0, qq1⟩
                exact lp268 NN (0 : Int32) (show (0 ≤ (0 : Int32).toInt ∧ (0 : Int32).toInt ≤ 30) from by omega) (show (0 : Int32).toInt ≤ (g 34).toInt from by omega) (show (∀ j x, j < Int32.toNatClampNeg (0 : Int32) → D[j]? = some x → x ≠ acc) from by intro j x hj hx; exact absurd hj (Nat.not_lt_zero _))
              · have c250 := z_nle c250
                refine pw_j0 ej253 ?_
                have qq0 : rwW (g 34) d28_F32 (F 33) 24 = (gdF (mkA ls [] w)).foldl (addF 31) D := by rcases im28 with ⟨_, acc, a1, a2, a3⟩ | ⟨h1, _⟩; (rw [a1, mkA_end (by have k7 := clampI (x := y28_7) (by omega); omega), gdF_bad (Or.inr (by omega))]; show _ = D; rw [rw_low io28 (fun _ _ => rfl) hsz]; exact hD); (exfalso; omega)
                have qq1 : (∀ j, j < Int32.toNatClampNeg (g 34) → Int32.toNatClampNeg ((F 33) j) ≤ 24) := by exact hsz
                exact pw_some ⟨qq0, qq1⟩
        · have c31 := z_nle c31
          refine pw_ite (fun c36 => ?_) (fun c36 => ?_)
          · have c36 := congrArg Int32.toInt c36
            refine pw_j7 ek236 (fun x236_5 ex236_5 x236_6 ex236_6 z236_1 ez236_1 z236_2 ez236_2 z236_3 ez236_3 z236_4 ez236_4 z236_5 ez236_5 => ?_)
            subst ez236_1 ez236_2 ez236_3 ez236_4 ez236_5
            have ex236_5 := ex236_5.symm
            have f_x236_5 : x236_5.toInt = y28_5.toInt := by rw [ex236_5]
            have ex236_6 := ex236_6.symm
            have f_x236_6 : x236_6.toInt = y28_6.toInt := by rw [ex236_6]
            refine pw_jE (fun j253 ej253 => ?_)
            refine pw_ite (fun c238 => ?_) (fun c238 => ?_)
            · have c238 := congrArg Int32.toInt c238
              refine pw_j0 ej253 ?_
              have qq0 : rwW (g 34) d28_F32 (F 33) 24 = (gdF (mkA ls [] w)).foldl (addF 31) D := by rcases im28 with ⟨h1, _⟩ | ⟨_, h2⟩; (exfalso; omega); (rw [h2]; show _ = D; rw [rw_low io28 (fun _ _ => rfl) hsz]; exact hD)
              have qq1 : (∀ j, j < Int32.toNatClampNeg (g 34) → Int32.toNatClampNeg ((F 33) j) ≤ 24) := by exact hsz
              exact pw_some ⟨qq0, qq1⟩
            · have c238 := z_ne c238
              refine pw_ite (fun c243 => ?_) (fun c243 => ?_)
              · have c243 := congrArg Int32.toInt c243
                refine pw_j0 ej253 ?_
                have qq0 : rwW (g 34) d28_F32 (F 33) 24 = (gdF (mkA ls [] w)).foldl (addF 31) D := by rcases im28 with ⟨_, acc, a1, a2, a3⟩ | ⟨h1, _⟩; (rw [a1, mkA_end (by have k7 := clampI (x := y28_7) (by omega); omega), gdF_bad (Or.inl (by omega))]; show _ = D; rw [rw_low io28 (fun _ _ => rfl) hsz]; exact hD); (exfalso; omega)
                have qq1 : (∀ j, j < Int32.toNatClampNeg (g 34) → Int32.toNatClampNeg ((F 33) j) ≤ 24) := by exact hsz
                exact pw_some ⟨qq0, qq1⟩
              · have c243 := z_ne c243
                refine pw_ite (fun c250 => ?_) (fun c250 => ?_)
                · have c250 := (z_le _ _).mp c250
                  obtain ⟨_, acc, a1, a2, a3⟩ := Or.resolve_right im28 (fun q => by have q9 := q.1; omega)
                  have k7 := clampI (x := y28_7) (by omega)
                  have k5 := clampI (x := x236_5) (by omega)
                  have hmk : mkA ls [] w = some acc := by rw [a1]; exact mkA_end (by omega)
                  have hgd1 : gdF (mkA ls [] w) = [acc] := by rw [hmk]; exact gdF_ok (by omega)
                  have a4 := a3 (by omega)
                  rw [← ex236_5] at a4
                  refine pw_if (fun hb264 => ?_)
                  obtain ⟨hbl264, hbr264⟩ := hb264
                  refine pw_vl (fun w264 ew264 => ?_)
                  have hF21 : rng (0) 24 w264 := by rw [ew264]; exact rng_upd hzF33 (by omega) (by omega)
                  have lp268 : ∀ (n268 : Nat) (y268_7 : Int32), (0 ≤ y268_7.toInt ∧ y268_7.toInt ≤ 30) → y268_7.toInt ≤ (g 34).toInt → (∀ j x, j < Int32.toNatClampNeg y268_7 → D[j]? = some x → x ≠ acc) → pw (L_makeForm_268 g x236_5 d28_g30 d28_g36 d28_F29 d28_F31 d28_F32 w264 n268 y268_7) (QF_makeForm g F p0 p1 ls W w D) := by
                    intro n268
                    induction n268 with
                    | zero => intros; exact pw_none
                    | succ n268 ih268 =>
                      intro y268_7 f22 f23 in268
                      show pw (B_makeForm_268 g x236_5 d28_g30 d28_g36 d28_F29 d28_F31 d28_F32 w264 (L_makeForm_268 g x236_5 d28_g30 d28_g36 d28_F29 d28_F31 d28_F32 w264 n268) y268_7) _
                      unfold B_makeForm_268
                      refine pw_ite (fun c274 => ?_) (fun c274 => ?_)
                      · have c274 := (z_le _ _).mp c274
                        have f24 : ((g 34) + 1).toInt = (g 34).toInt + 1 := z_addc (by decide +kernel) (by omega) (by omega)
                        refine pw_vl (fun x326 ex326 => ?_)
                        have f25 : x326.toInt = ((g 34) + 1).toInt := congrArg Int32.toInt ex326
                        have hg26 : ((0) ≤ x326.toInt ∧ x326.toInt ≤ 30) := ⟨by omega, by omega⟩
                        have qq0 : rwW x326 d28_F32 w264 24 = (gdF (mkA ls [] w)).foldl (addF 31) D := by have k7 := clampI (x := y268_7) (by omega); have kx := clampI (x := x326) (by omega); rw [hgd1]; show _ = addF 31 D acc; rw [addF_new (fun h => by obtain ⟨j, hj⟩ := List.getElem?_of_mem h; have h8 := get_lt hj; exact in268 j acc (by omega) hj rfl) (by omega), ← hD]; refine rw_app (by omega) io28 (fun j hj => by rw [ew264, pk_un (by omega)]) hsz ?_; rw [ew264, pk_us]; exact a4
                        have qq1 : (∀ j, j < Int32.toNatClampNeg x326 → Int32.toNatClampNeg (w264 j) ≤ 24) := by have kx := clampI (x := x326) (by omega); intro j hj; by_cases q9 : j = Int32.toNatClampNeg (g 34); (rw [q9, ew264, pk_us]; omega); (rw [ew264, pk_un q9]; exact hsz j (by omega))
                        exact pw_some ⟨qq0, qq1⟩
                      · have c274 := z_nle c274
                        have k7 := clampI (x := y268_7) (by omega)
                        have hsj := hsz (Int32.toNatClampNeg y268_7) (by omega)
                        have hw9 : w264 (Int32.toNatClampNeg y268_7) = (F 33) (Int32.toNatClampNeg y268_7) := by rw [ew264, pk_un (by omega)]
                        have hDk : D[Int32.toNatClampNeg y268_7]? = some (wdl d28_F32 (24 * Int32.toNatClampNeg y268_7) (Int32.toNatClampNeg ((F 33) (Int32.toNatClampNeg y268_7)))) := by rw [← hD]; rw [rw_at (by omega)]; exact congrArg some (wdl_ext (fun i hi => (io28 _ (by omega)).symm))
                        have hbs := hF21 (Int32.toNatClampNeg y268_7)
                        have f27 : (24 * y268_7).toInt = 24 * y268_7.toInt := z_muld (by decide +kernel) (by omega) (by omega)
                        refine pw_if (fun hb292 => ?_)
                        obtain ⟨hbl292, hbr292⟩ := hb292
                        have f28 := hF21 (Int32.toNatClampNeg y268_7)
                        have f29 : (24 * (g 34)).toInt = 24 * (g 34).toInt := z_muld (by decide +kernel) (by omega) (by omega)
                        have hpr306_0 : (0 ≤ (24 * y268_7).toInt ∧ (24 * y268_7).toInt + (w264 (Int32.toNatClampNeg y268_7)).toInt ≤ 720) := by first | assumption | omega
                        have hpr306_1 : 720 ≤ 500000 := by first | assumption | omega
                        have hpr306_2 : (0 ≤ (24 * (g 34)).toInt ∧ (24 * (g 34)).toInt + x236_5.toInt ≤ 720) := by first | assumption | omega
                        have hpr306_3 : 720 ≤ 500000 := by first | assumption | omega
                        refine pw_b1 (fun r306 hc306 => ?_)
                        have hq306 := wp_at (ok_sameBytes d28_F32 720 (24 * y268_7) (w264 (Int32.toNatClampNeg y268_7)) d28_F32 720 (24 * (g 34)) x236_5 hpr306_0 hpr306_1 hpr306_2 hpr306_3) hc306
                        have f30 : (0 ≤ r306.toInt ∧ r306.toInt ≤ 1) := hq306
                        clear hq306
                        have h8306_h02 : 0 ≤ (w264 (Int32.toNatClampNeg y268_7)).toInt := by omega
                        have h8306_h05 : 0 ≤ x236_5.toInt := by omega
                        have hx306 := pwq (fn_sameBytes d28_F32 720 (24 * y268_7) (w264 (Int32.toNatClampNeg y268_7)) d28_F32 720 (24 * (g 34)) x236_5 hpr306_0 hpr306_1 hpr306_2 hpr306_3 h8306_h02 h8306_h05) hc306
                        obtain ⟨p306_0, p306_1⟩ : (id ((r306.toInt ≠ 0 → wdl d28_F32 (Int32.toNatClampNeg (24 * y268_7)) (Int32.toNatClampNeg (w264 (Int32.toNatClampNeg y268_7))) = wdl d28_F32 (Int32.toNatClampNeg (24 * (g 34))) (Int32.toNatClampNeg x236_5)))) ∧ (id ((r306.toInt = 0 → wdl d28_F32 (Int32.toNatClampNeg (24 * y268_7)) (Int32.toNatClampNeg (w264 (Int32.toNatClampNeg y268_7))) ≠ wdl d28_F32 (Int32.toNatClampNeg (24 * (g 34))) (Int32.toNatClampNeg x236_5)))) := hx306
                        have ki := clampI (x := 24 * y268_7) (by omega)
                        have kj := clampI (x := 24 * (g 34)) (by omega)
                        rw [hw9, show Int32.toNatClampNeg (24 * y268_7) = 24 * Int32.toNatClampNeg y268_7 by omega, show Int32.toNatClampNeg (24 * (g 34)) = 24 * Int32.toNatClampNeg (g 34) by omega, a4] at p306_0 p306_1
                        refine pw_ite (fun c309 => ?_) (fun c309 => ?_)
                        · have c309 := congrArg Int32.toInt c309
                          have f31 : (y268_7 + 1).toInt = y268_7.toInt + (1) := z_addc (by decide +kernel) (by omega) (by omega)
                          have iv268_0 : (0 ≤ (y268_7 + 1).toInt ∧ (y268_7 + 1).toInt ≤ 30) := by omega
                          have iv268_1 : (y268_7 + 1).toInt ≤ (g 34).toInt := by omega
                          have iv268_2 : (∀ j x, j < Int32.toNatClampNeg (y268_7 + 1) → D[j]? = some x → x ≠ acc) := by have k7 := clampI (x := y268_7) (by omega); have k8 := clampI (x := y268_7 + 1) (by omega); intro j x hj hx; by_cases q9 : j = Int32.toNatClampNeg y268_7; (subst q9; rw [hDk] at hx; cases hx; exact p306_1 (by omega)); (exact in268 j x (by omega) hx)
                          exact ih268 (y268_7 + 1) iv268_0 iv268_1 iv268_2
                        · have c309 := z_ne c309
                          have qq0 : rwW (g 34) d28_F32 w264 24 = (gdF (mkA ls [] w)).foldl (addF 31) D := by rw [hgd1]; show _ = addF 31 D acc; rw [addF_in (by have h9 := List.mem_of_getElem? hDk; rw [p306_0 (by omega)] at h9; exact h9)]; rw [rw_low io28 (fun j hj => by rw [ew264, pk_un (by omega)]) hsz]; exact hD
                          have qq1 : (∀ j, j < Int32.toNatClampNeg (g 34) → Int32.toNatClampNeg (w264 j) ≤ 24) := by intro j hj; rw [ew264, pk_un (by omega)]; exact hsz j hj
                          exact pw_some ⟨qq0, qq1⟩
                  exact lp268 NN (0 : Int32) (show (0 ≤ (0 : Int32).toInt ∧ (0 : Int32).toInt ≤ 30) from by omega) (show (0 : Int32).toInt ≤ (g 34).toInt from by omega) (show (∀ j x, j < Int32.toNatClampNeg (0 : Int32) → D[j]? = some x → x ≠ acc) from by intro j x hj hx; exact absurd hj (Nat.not_lt_zero _))
                · have c250 := z_nle c250
                  refine pw_j0 ej253 ?_
                  have qq0 : rwW (g 34) d28_F32 (F 33) 24 = (gdF (mkA ls [] w)).foldl (addF 31) D := by rcases im28 with ⟨_, acc, a1, a2, a3⟩ | ⟨h1, _⟩; (rw [a1, mkA_end (by have k7 := clampI (x := y28_7) (by omega); omega), gdF_bad (Or.inr (by omega))]; show _ = D; rw [rw_low io28 (fun _ _ => rfl) hsz]; exact hD); (exfalso; omega)
                  have qq1 : (∀ j, j < Int32.toNatClampNeg (g 34) → Int32.toNatClampNeg ((F 33) j) ≤ 24) := by exact hsz
                  exact pw_some ⟨qq0, qq1⟩
          · have c36 := z_ne c36
            obtain ⟨g0, acc, a1, a2, a3⟩ := Or.resolve_right im28 (fun q => by have q9 := q.1; omega)
            have k7 := clampI (x := y28_7) (by omega)
            have k5 := clampI (x := y28_5) (by omega)
            have k4 := clampI (x := y28_4) (by omega)
            obtain ⟨x, hx⟩ := get_ex (l := w) (i := Int32.toNatClampNeg y28_7) (by omega)
            have hfa := flat_at w _ x hx
            rw [hfl] at hfa
            refine pw_jE (fun j63 ej63 => ?_)
            refine pw_ite (fun c41 => ?_) (fun c41 => ?_)
            · have c41 := congrArg Int32.toInt c41
              refine pw_j1 ej63 (fun t63_0 et63_0 => ?_)
              have et63_0 := et63_0.symm
              have f_t63_0 : t63_0.toInt = (g 23).toInt := by rw [et63_0]
              have hsx : t63_0.toInt = ((x.length : Nat) : Int) := by rcases hwy with ⟨h8, h9⟩ | ⟨h8, _, h9, _⟩; (first | (rw [h9] at hx; have h7 := get_lt hx; have h6 : Int32.toNatClampNeg y28_7 = 0 := (by have h5 : ([W] : List Wd).length = 1 := rfl; omega); rw [h6] at hx; cases hx; omega) | (exfalso; omega)); (first | (exfalso; omega) | (have h7 := h9 _ _ hx; have cp1 := clampI (x := p1) (by omega); have ci := clampI (x := (24 * p1) + y28_7) (by omega); rw [show 24 * Int32.toNatClampNeg p1 + Int32.toNatClampNeg y28_7 = Int32.toNatClampNeg ((24 * p1) + y28_7) by omega] at h7; omega))
              have hxl : sumN (w.take (Int32.toNatClampNeg y28_7)) + x.length ≤ W.length := by rw [← hfl]; exact sum_le hx
              have hif := if28
              have hxe : wdl (F 22) (Int32.toNatClampNeg y28_4) x.length = x := by rw [← hW, wdl_dt (by omega), Nat.zero_add, show sumN (w.take (Int32.toNatClampNeg y28_7)) = Int32.toNatClampNeg y28_4 by omega] at hfa; exact hfa
              refine pw_jE (fun k98 ek98 => ?_)
              have lp68 : ∀ (n68 : Nat) (y68_9 : Int32) (d68_F29 : (Nat → Int32)), 0 ≤ y68_9.toInt → y68_9.toInt ≤ t63_0.toInt → (wdl d68_F29 0 (Int32.toNatClampNeg y68_9) = wdl (F 22) (Int32.toNatClampNeg y28_4) (Int32.toNatClampNeg y68_9)) → pw (L_makeForm_68 F y28_4 t63_0 k98 n68 y68_9 d68_F29) (QF_makeForm g F p0 p1 ls W w D) := by
                intro n68
                induction n68 with
                | zero => intros; exact pw_none
                | succ n68 ih68 =>
                  intro y68_9 d68_F29 f32 f33 ip68
                  show pw (B_makeForm_68 F y28_4 t63_0 k98 (L_makeForm_68 F y28_4 t63_0 k98 n68) y68_9 d68_F29) _
                  unfold B_makeForm_68
                  refine pw_ite (fun c72 => ?_) (fun c72 => ?_)
                  · have c72 := (z_le _ _).mp c72
                    refine pw_j1 ek98 (fun z98_1 ez98_1 => ?_)
                    subst ez98_1
                    have hg34 : ((0) ≤ t63_0.toInt ∧ t63_0.toInt ≤ 384) := ⟨by omega, by omega⟩
                    have f35 : (y28_4 + t63_0).toInt = y28_4.toInt + t63_0.toInt := z_add (by omega) (by omega)
                    refine pw_vl (fun x109 ex109 => ?_)
                    have f36 : x109.toInt = (y28_4 + t63_0).toInt := congrArg Int32.toInt ex109
                    have f37 : (40 * p0).toInt = 40 * p0.toInt := z_muld (by decide +kernel) (by omega) (by omega)
                    refine pw_vl (fun x115 ex115 => ?_)
                    have f38 : x115.toInt = (40 * p0).toInt := congrArg Int32.toInt ex115
                    refine pw_jE (fun k166 ek166 => ?_)
                    have lp117 : ∀ (n117 : Nat) (y117_6 : Int32) (y117_9 : Int32) (d117_g30 : Int32) (d117_g36 : Int32) (d117_F29 : (Nat → Int32)) (d117_F31 : (Nat → Int32)), ((0) ≤ d117_g30.toInt ∧ d117_g30.toInt ≤ 384) → ((0) ≤ d117_g36.toInt ∧ d117_g36.toInt ≤ 1) → (40 * p0.toInt ≤ y117_9.toInt ∧ y117_9.toInt ≤ 40 * p0.toInt + 40) → (y117_6.toInt = 0 ∨ y117_6.toInt = 1) → (y117_6.toInt ≠ 0 → d117_g30.toInt ≤ 24) → y117_9.toInt ≤ 40 * p0.toInt + ((F 11) (Int32.toNatClampNeg p0)).toInt → (id ((y117_6.toInt ≠ 0 ∧ ∃ W1, BW W1 ∧ runL ls x = runL (ls.drop (Int32.toNatClampNeg y117_9 - 40 * Int32.toNatClampNeg p0)) W1 ∧ wdl d117_F29 0 (Int32.toNatClampNeg d117_g30) = W1 ∧ d117_g30.toInt ≤ 24) ∨ (y117_6.toInt = 0 ∧ runL ls x = none ∧ 24 < d117_g30.toInt))) → pw (L_makeForm_117 g F p0 d28_F32 k166 n117 y117_6 y117_9 d117_g30 d117_g36 d117_F29 d117_F31) (QF_makeForm g F p0 p1 ls W w D) := by
                      intro n117
                      induction n117 with
                      | zero => intros; exact pw_none
                      | succ n117 ih117 =>
                        intro y117_6 y117_9 d117_g30 d117_g36 d117_F29 d117_F31 hg39 hg40 f41 f42 f43 f44 il117
                        show pw (B_makeForm_117 g F p0 d28_F32 k166 (L_makeForm_117 g F p0 d28_F32 k166 n117) y117_6 y117_9 d117_g30 d117_g36 d117_F29 d117_F31) _
                        unfold B_makeForm_117
                        refine pw_if (fun hb128 => ?_)
                        obtain ⟨hbl128, hbr128⟩ := hb128
                        have f46 := hzF11 (Int32.toNatClampNeg p0)
                        have f47 : ((40 * p0) + ((F 11) (Int32.toNatClampNeg p0))).toInt = (40 * p0).toInt + ((F 11) (Int32.toNatClampNeg p0)).toInt := z_add (by omega) (by omega)
                        refine pw_ite (fun c130 => ?_) (fun c130 => ?_)
                        · have c130 := (z_le _ _).mp c130
                          refine pw_j5 ek166 (fun x166_6 ex166_6 z166_1 ez166_1 z166_2 ez166_2 z166_3 ez166_3 z166_4 ez166_4 => ?_)
                          subst ez166_1 ez166_2 ez166_3 ez166_4
                          have ex166_6 := ex166_6.symm
                          have f_x166_6 : x166_6.toInt = y117_6.toInt := by rw [ex166_6]
                          have hrn : id ((x166_6.toInt ≠ 0 ∧ ∃ W1, runL ls x = some W1 ∧ wdl d117_F29 0 (Int32.toNatClampNeg d117_g30) = W1 ∧ BW W1) ∨ (x166_6.toInt = 0 ∧ runL ls x = none)) := by rcases il117 with ⟨h1, W1, h2, h3, h4, h5⟩ | ⟨h1, h2, _⟩; (first | (refine Or.inl ⟨by omega, W1, ?_, h4, h2⟩; rw [h3]; exact runL_end (by have k9 := clampI (x := y117_9) (by omega); omega)) | (exfalso; omega)); (exact Or.inr ⟨by omega, h2⟩)
                          have hgd : x166_6.toInt = 0 → 24 < d117_g30.toInt := fun h9 => by rcases il117 with ⟨h1, _⟩ | ⟨_, _, h1⟩; (exfalso; omega); (exact h1)
                          have hb30 := hg39
                          have c30 := clampI (x := d117_g30) (by omega)
                          refine pw_jE (fun k221 ek221 => ?_)
                          have lp169 : ∀ (n169 : Nat) (y169_9 : Int32) (d169_F32 : (Nat → Int32)), 0 ≤ y169_9.toInt → y169_9.toInt ≤ d117_g30.toInt → (∀ q, q < 24 * (Int32.toNatClampNeg (g 34)) + Int32.toNatClampNeg y28_5 → d169_F32 q = d28_F32 q) → (wdl d169_F32 (24 * (Int32.toNatClampNeg (g 34)) + Int32.toNatClampNeg y28_5) (Int32.toNatClampNeg y169_9) = wdl d117_F29 0 (Int32.toNatClampNeg y169_9)) → pw (L_makeForm_169 g y28_5 d117_g30 d117_F29 k221 n169 y169_9 d169_F32) (QF_makeForm g F p0 p1 ls W w D) := by
                            intro n169
                            induction n169 with
                            | zero => intros; exact pw_none
                            | succ n169 ih169 =>
                              intro y169_9 d169_F32 f48 f49 ik169 ij169
                              show pw (B_makeForm_169 g y28_5 d117_g30 d117_F29 k221 (L_makeForm_169 g y28_5 d117_g30 d117_F29 k221 n169) y169_9 d169_F32) _
                              unfold B_makeForm_169
                              refine pw_ite (fun c175 => ?_) (fun c175 => ?_)
                              · have c175 := (z_le _ _).mp c175
                                refine pw_j1 ek221 (fun z221_1 ez221_1 => ?_)
                                subst ez221_1
                                have f50 : (y28_5 + d117_g30).toInt = y28_5.toInt + d117_g30.toInt := z_add (by omega) (by omega)
                                refine pw_vl (fun x228 ex228 => ?_)
                                have f51 : x228.toInt = (y28_5 + d117_g30).toInt := congrArg Int32.toInt ex228
                                have f52 : (y28_7 + 1).toInt = y28_7.toInt + (1) := z_addc (by decide +kernel) (by omega) (by omega)
                                have iv28_0 : (0 ≤ x109.toInt ∧ x109.toInt ≤ 24) := by first | omega | (intro h9; rw [show (y28_7 + 1).toInt.toNat = y28_7.toInt.toNat + 1 by omega]; omega)
                                have iv28_1 : (0 ≤ x228.toInt ∧ x228.toInt ≤ 384 * (y28_7 + 1).toInt) := by first | omega | (intro h9; rw [show (y28_7 + 1).toInt.toNat = y28_7.toInt.toNat + 1 by omega]; omega)
                                have iv28_2 : (0 ≤ (y28_7 + 1).toInt ∧ (y28_7 + 1).toInt ≤ 24) := by first | omega | (intro h9; rw [show (y28_7 + 1).toInt.toNat = y28_7.toInt.toNat + 1 by omega]; omega)
                                have iv28_3 : (x166_6.toInt = 0 ∨ x166_6.toInt = 1) := by first | omega | (intro h9; rw [show (y28_7 + 1).toInt.toNat = y28_7.toInt.toNat + 1 by omega]; omega)
                                have iv28_4 : (p1.toInt = -1 → (y28_7 + 1).toInt = 0 → x109.toInt = 0) := by first | omega | (intro h9; rw [show (y28_7 + 1).toInt.toNat = y28_7.toInt.toNat + 1 by omega]; omega)
                                have iv28_5 : (p1.toInt ≠ -1 → x109.toInt = psum (F 25) (24 * p1.toInt.toNat) (y28_7 + 1).toInt.toNat) := by first | omega | (intro h9; rw [show (y28_7 + 1).toInt.toNat = y28_7.toInt.toNat + 1 by omega]; omega)
                                have iv28_6 : (y28_7 + 1).toInt ≤ ((w.length : Nat) : Int) := by first | omega | (intro h9; rw [show (y28_7 + 1).toInt.toNat = y28_7.toInt.toNat + 1 by omega]; omega)
                                have iv28_7 : (x109.toInt = ((sumN (w.take (Int32.toNatClampNeg (y28_7 + 1))) : Nat) : Int)) := by have k8 := clampI (x := y28_7 + 1) (by omega); rw [show Int32.toNatClampNeg (y28_7 + 1) = Int32.toNatClampNeg y28_7 + 1 by omega, sum_s hx]; have h9 := if28; omega
                                have iv28_8 : (∀ q, q < 24 * (Int32.toNatClampNeg (g 34)) → d169_F32 q = (F 32) q) := by intro q hq; rw [ik169 q (by omega)]; exact io28 q hq
                                have iv28_9 : (id ((x166_6.toInt ≠ 0 ∧ ∃ acc, mkA ls [] w = mkA ls acc (w.drop (Int32.toNatClampNeg (y28_7 + 1))) ∧ x228.toInt = ((acc.length : Nat) : Int) ∧ (x228.toInt ≤ 24 → wdl d169_F32 (24 * (Int32.toNatClampNeg (g 34))) (Int32.toNatClampNeg x228) = acc)) ∨ (x166_6.toInt = 0 ∧ mkA ls [] w = none))) := by have k8 := clampI (x := y28_7 + 1) (by omega); have kx := clampI (x := x228) (by omega); rcases hrn with ⟨g1, W1, g2, g3, g4⟩ | ⟨g1, g2⟩; (have gl : W1.length = Int32.toNatClampNeg d117_g30 := (by rw [← g3]; exact wdl_len); refine Or.inl ⟨g1, acc ++ W1, ?_, ?_, fun h9 => ?_⟩; (rw [a1, mkA_yes hx g2, show Int32.toNatClampNeg (y28_7 + 1) = Int32.toNatClampNeg y28_7 + 1 by omega]); (rw [List.length_append]; omega); (rw [show Int32.toNatClampNeg x228 = Int32.toNatClampNeg y28_5 + Int32.toNatClampNeg d117_g30 by omega, ← wdl_app, wdl_ext (fun i hi => ik169 _ (by omega)), a3 (by omega)]; have h8 := ij169; rw [show Int32.toNatClampNeg y169_9 = Int32.toNatClampNeg d117_g30 by have k169 := clampI (x := y169_9) (by omega); omega] at h8; rw [h8, g3])); (exact Or.inr ⟨g1, by rw [a1]; exact mkA_no hx g2⟩)
                                exact ih28 x109 x228 x166_6 (y28_7 + 1) d117_g30 d117_g36 d117_F29 d117_F31 d169_F32 hg39 hg40 iv28_0 iv28_1 iv28_2 iv28_3 iv28_4 iv28_5 iv28_6 iv28_7 iv28_8 iv28_9
                              · have c175 := z_nle c175
                                have f53 : (y28_5 + d117_g30).toInt = y28_5.toInt + d117_g30.toInt := z_add (by omega) (by omega)
                                refine pw_ite (fun c187 => ?_) (fun c187 => ?_)
                                · have c187 := (z_lt _ _).mp c187
                                  refine pw_j1 ek221 (fun z221_1 ez221_1 => ?_)
                                  subst ez221_1
                                  refine pw_vl (fun x228 ex228 => ?_)
                                  have f55 : x228.toInt = (y28_5 + d117_g30).toInt := congrArg Int32.toInt ex228
                                  have f56 : (y28_7 + 1).toInt = y28_7.toInt + (1) := z_addc (by decide +kernel) (by omega) (by omega)
                                  have iv28_0 : (0 ≤ x109.toInt ∧ x109.toInt ≤ 24) := by first | omega | (intro h9; rw [show (y28_7 + 1).toInt.toNat = y28_7.toInt.toNat + 1 by omega]; omega)
                                  have iv28_1 : (0 ≤ x228.toInt ∧ x228.toInt ≤ 384 * (y28_7 + 1).toInt) := by first | omega | (intro h9; rw [show (y28_7 + 1).toInt.toNat = y28_7.toInt.toNat + 1 by omega]; omega)
                                  have iv28_2 : (0 ≤ (y28_7 + 1).toInt ∧ (y28_7 + 1).toInt ≤ 24) := by first | omega | (intro h9; rw [show (y28_7 + 1).toInt.toNat = y28_7.toInt.toNat + 1 by omega]; omega)
                                  have iv28_3 : (x166_6.toInt = 0 ∨ x166_6.toInt = 1) := by first | omega | (intro h9; rw [show (y28_7 + 1).toInt.toNat = y28_7.toInt.toNat + 1 by omega]; omega)
                                  have iv28_4 : (p1.toInt = -1 → (y28_7 + 1).toInt = 0 → x109.toInt = 0) := by first | omega | (intro h9; rw [show (y28_7 + 1).toInt.toNat = y28_7.toInt.toNat + 1 by omega]; omega)
                                  have iv28_5 : (p1.toInt ≠ -1 → x109.toInt = psum (F 25) (24 * p1.toInt.toNat) (y28_7 + 1).toInt.toNat) := by first | omega | (intro h9; rw [show (y28_7 + 1).toInt.toNat = y28_7.toInt.toNat + 1 by omega]; omega)
                                  have iv28_6 : (y28_7 + 1).toInt ≤ ((w.length : Nat) : Int) := by first | omega | (intro h9; rw [show (y28_7 + 1).toInt.toNat = y28_7.toInt.toNat + 1 by omega]; omega)
                                  have iv28_7 : (x109.toInt = ((sumN (w.take (Int32.toNatClampNeg (y28_7 + 1))) : Nat) : Int)) := by have k8 := clampI (x := y28_7 + 1) (by omega); rw [show Int32.toNatClampNeg (y28_7 + 1) = Int32.toNatClampNeg y28_7 + 1 by omega, sum_s hx]; have h9 := if28; omega
                                  have iv28_8 : (∀ q, q < 24 * (Int32.toNatClampNeg (g 34)) → d169_F32 q = (F 32) q) := by intro q hq; rw [ik169 q (by omega)]; exact io28 q hq
                                  have iv28_9 : (id ((x166_6.toInt ≠ 0 ∧ ∃ acc, mkA ls [] w = mkA ls acc (w.drop (Int32.toNatClampNeg (y28_7 + 1))) ∧ x228.toInt = ((acc.length : Nat) : Int) ∧ (x228.toInt ≤ 24 → wdl d169_F32 (24 * (Int32.toNatClampNeg (g 34))) (Int32.toNatClampNeg x228) = acc)) ∨ (x166_6.toInt = 0 ∧ mkA ls [] w = none))) := by have k8 := clampI (x := y28_7 + 1) (by omega); have kx := clampI (x := x228) (by omega); rcases hrn with ⟨g1, W1, g2, g3, g4⟩ | ⟨g1, g2⟩; (have gl : W1.length = Int32.toNatClampNeg d117_g30 := (by rw [← g3]; exact wdl_len); refine Or.inl ⟨g1, acc ++ W1, ?_, ?_, fun h9 => ?_⟩; (rw [a1, mkA_yes hx g2, show Int32.toNatClampNeg (y28_7 + 1) = Int32.toNatClampNeg y28_7 + 1 by omega]); (rw [List.length_append]; omega); (rw [show Int32.toNatClampNeg x228 = Int32.toNatClampNeg y28_5 + Int32.toNatClampNeg d117_g30 by omega, ← wdl_app, wdl_ext (fun i hi => ik169 _ (by omega)), a3 (by omega)]; have h8 := ij169; rw [show Int32.toNatClampNeg y169_9 = Int32.toNatClampNeg d117_g30 by have k169 := clampI (x := y169_9) (by omega); omega] at h8; rw [h8, g3])); (exact Or.inr ⟨g1, by rw [a1]; exact mkA_no hx g2⟩)
                                  exact ih28 x109 x228 x166_6 (y28_7 + 1) d117_g30 d117_g36 d117_F29 d117_F31 d169_F32 hg39 hg40 iv28_0 iv28_1 iv28_2 iv28_3 iv28_4 iv28_5 iv28_6 iv28_7 iv28_8 iv28_9
                                · have c187 := z_nlt c187
                                  have f57 : (24 * (g 34)).toInt = 24 * (g 34).toInt := z_muld (by decide +kernel) (by omega) (by omega)
                                  have f58 : ((24 * (g 34)) + y28_5).toInt = (24 * (g 34)).toInt + y28_5.toInt := z_add (by omega) (by omega)
                                  have f59 : (((24 * (g 34)) + y28_5) + y169_9).toInt = ((24 * (g 34)) + y28_5).toInt + y169_9.toInt := z_add (by omega) (by omega)
                                  refine pw_if (fun hb213 => ?_)
                                  obtain ⟨hbl213, hbr213⟩ := hb213
                                  refine pw_if (fun hb214 => ?_)
                                  obtain ⟨hbl214, hbr214⟩ := hb214
                                  refine pw_vl (fun w214 ew214 => ?_)
                                  have f60 : (y169_9 + 1).toInt = y169_9.toInt + (1) := z_addc (by decide +kernel) (by omega) (by omega)
                                  have iv169_0 : 0 ≤ (y169_9 + 1).toInt := by omega
                                  have iv169_1 : (y169_9 + 1).toInt ≤ d117_g30.toInt := by omega
                                  have iv169_2 : (∀ q, q < 24 * (Int32.toNatClampNeg (g 34)) + Int32.toNatClampNeg y28_5 → w214 q = d28_F32 q) := by have k9 := clampI (x := y169_9) (by omega); have ki := clampI (x := ((24 * (g 34)) + y28_5) + y169_9) (by omega); intro q hq; rw [ew214, pk_un (by omega)]; exact ik169 q hq
                                  have iv169_3 : (wdl w214 (24 * (Int32.toNatClampNeg (g 34)) + Int32.toNatClampNeg y28_5) (Int32.toNatClampNeg (y169_9 + 1)) = wdl d117_F29 0 (Int32.toNatClampNeg (y169_9 + 1))) := by have k9 := clampI (x := y169_9) (by omega); have k10 := clampI (x := y169_9 + 1) (by omega); have ki := clampI (x := ((24 * (g 34)) + y28_5) + y169_9) (by omega); obtain ⟨_, W1, _, g3, g4⟩ := Or.resolve_right hrn (fun q => by have q9 := hgd q.1; omega); rw [ew214, show Int32.toNatClampNeg (y169_9 + 1) = Int32.toNatClampNeg y169_9 + 1 by omega, wdl_s1, wdl_s1, show 24 * Int32.toNatClampNeg (g 34) + Int32.toNatClampNeg y28_5 + Int32.toNatClampNeg y169_9 = Int32.toNatClampNeg (((24 * (g 34)) + y28_5) + y169_9) by omega, pk_us, Nat.zero_add, bw_at g4 g3 (by omega), wdl_ext (fun i hi => pk_un (by omega)), ij169]
                                  exact ih169 (y169_9 + 1) w214 iv169_0 iv169_1 iv169_2 iv169_3
                          exact lp169 NN (0 : Int32) d28_F32 (show 0 ≤ (0 : Int32).toInt from by omega) (show (0 : Int32).toInt ≤ d117_g30.toInt from by omega) (show (∀ q, q < 24 * (Int32.toNatClampNeg (g 34)) + Int32.toNatClampNeg y28_5 → d28_F32 q = d28_F32 q) from by intro q hq; rfl) (show (wdl d28_F32 (24 * (Int32.toNatClampNeg (g 34)) + Int32.toNatClampNeg y28_5) (Int32.toNatClampNeg (0 : Int32)) = wdl d117_F29 0 (Int32.toNatClampNeg (0 : Int32))) from by rfl)
                        · have c130 := z_nle c130
                          refine pw_ite (fun c135 => ?_) (fun c135 => ?_)
                          · have c135 := congrArg Int32.toInt c135
                            refine pw_j5 ek166 (fun x166_6 ex166_6 z166_1 ez166_1 z166_2 ez166_2 z166_3 ez166_3 z166_4 ez166_4 => ?_)
                            subst ez166_1 ez166_2 ez166_3 ez166_4
                            have ex166_6 := ex166_6.symm
                            have f_x166_6 : x166_6.toInt = y117_6.toInt := by rw [ex166_6]
                            have hrn : id ((x166_6.toInt ≠ 0 ∧ ∃ W1, runL ls x = some W1 ∧ wdl d117_F29 0 (Int32.toNatClampNeg d117_g30) = W1 ∧ BW W1) ∨ (x166_6.toInt = 0 ∧ runL ls x = none)) := by rcases il117 with ⟨h1, W1, h2, h3, h4, h5⟩ | ⟨h1, h2, _⟩; (first | (refine Or.inl ⟨by omega, W1, ?_, h4, h2⟩; rw [h3]; exact runL_end (by have k9 := clampI (x := y117_9) (by omega); omega)) | (exfalso; omega)); (exact Or.inr ⟨by omega, h2⟩)
                            have hgd : x166_6.toInt = 0 → 24 < d117_g30.toInt := fun h9 => by rcases il117 with ⟨h1, _⟩ | ⟨_, _, h1⟩; (exfalso; omega); (exact h1)
                            have hb30 := hg39
                            have c30 := clampI (x := d117_g30) (by omega)
                            refine pw_jE (fun k221 ek221 => ?_)
                            have lp169 : ∀ (n169 : Nat) (y169_9 : Int32) (d169_F32 : (Nat → Int32)), 0 ≤ y169_9.toInt → y169_9.toInt ≤ d117_g30.toInt → (∀ q, q < 24 * (Int32.toNatClampNeg (g 34)) + Int32.toNatClampNeg y28_5 → d169_F32 q = d28_F32 q) → (wdl d169_F32 (24 * (Int32.toNatClampNeg (g 34)) + Int32.toNatClampNeg y28_5) (Int32.toNatClampNeg y169_9) = wdl d117_F29 0 (Int32.toNatClampNeg y169_9)) → pw (L_makeForm_169 g y28_5 d117_g30 d117_F29 k221 n169 y169_9 d169_F32) (QF_makeForm g F p0 p1 ls W w D) := by
                              intro n169
                              induction n169 with
                              | zero => intros; exact pw_none
                              | succ n169 ih169 =>
                                intro y169_9 d169_F32 f61 f62 ik169 ij169
                                show pw (B_makeForm_169 g y28_5 d117_g30 d117_F29 k221 (L_makeForm_169 g y28_5 d117_g30 d117_F29 k221 n169) y169_9 d169_F32) _
                                unfold B_makeForm_169
                                refine pw_ite (fun c175 => ?_) (fun c175 => ?_)
                                · have c175 := (z_le _ _).mp c175
                                  refine pw_j1 ek221 (fun z221_1 ez221_1 => ?_)
                                  subst ez221_1
                                  have f63 : (y28_5 + d117_g30).toInt = y28_5.toInt + d117_g30.toInt := z_add (by omega) (by omega)
                                  refine pw_vl (fun x228 ex228 => ?_)
                                  have f64 : x228.toInt = (y28_5 + d117_g30).toInt := congrArg Int32.toInt ex228
                                  have f65 : (y28_7 + 1).toInt = y28_7.toInt + (1) := z_addc (by decide +kernel) (by omega) (by omega)
                                  have iv28_0 : (0 ≤ x109.toInt ∧ x109.toInt ≤ 24) := by first | omega | (intro h9; rw [show (y28_7 + 1).toInt.toNat = y28_7.toInt.toNat + 1 by omega]; omega)
                                  have iv28_1 : (0 ≤ x228.toInt ∧ x228.toInt ≤ 384 * (y28_7 + 1).toInt) := by first | omega | (intro h9; rw [show (y28_7 + 1).toInt.toNat = y28_7.toInt.toNat + 1 by omega]; omega)
                                  have iv28_2 : (0 ≤ (y28_7 + 1).toInt ∧ (y28_7 + 1).toInt ≤ 24) := by first | omega | (intro h9; rw [show (y28_7 + 1).toInt.toNat = y28_7.toInt.toNat + 1 by omega]; omega)
                                  have iv28_3 : (x166_6.toInt = 0 ∨ x166_6.toInt = 1) := by first | omega | (intro h9; rw [show (y28_7 + 1).toInt.toNat = y28_7.toInt.toNat + 1 by omega]; omega)
                                  have iv28_4 : (p1.toInt = -1 → (y28_7 + 1).toInt = 0 → x109.toInt = 0) := by first | omega | (intro h9; rw [show (y28_7 + 1).toInt.toNat = y28_7.toInt.toNat + 1 by omega]; omega)
                                  have iv28_5 : (p1.toInt ≠ -1 → x109.toInt = psum (F 25) (24 * p1.toInt.toNat) (y28_7 + 1).toInt.toNat) := by first | omega | (intro h9; rw [show (y28_7 + 1).toInt.toNat = y28_7.toInt.toNat + 1 by omega]; omega)
                                  have iv28_6 : (y28_7 + 1).toInt ≤ ((w.length : Nat) : Int) := by first | omega | (intro h9; rw [show (y28_7 + 1).toInt.toNat = y28_7.toInt.toNat + 1 by omega]; omega)
                                  have iv28_7 : (x109.toInt = ((sumN (w.take (Int32.toNatClampNeg (y28_7 + 1))) : Nat) : Int)) := by have k8 := clampI (x := y28_7 + 1) (by omega); rw [show Int32.toNatClampNeg (y28_7 + 1) = Int32.toNatClampNeg y28_7 + 1 by omega, sum_s hx]; have h9 := if28; omega
                                  have iv28_8 : (∀ q, q < 24 * (Int32.toNatClampNeg (g 34)) → d169_F32 q = (F 32) q) := by intro q hq; rw [ik169 q (by omega)]; exact io28 q hq
                                  have iv28_9 : (id ((x166_6.toInt ≠ 0 ∧ ∃ acc, mkA ls [] w = mkA ls acc (w.drop (Int32.toNatClampNeg (y28_7 + 1))) ∧ x228.toInt = ((acc.length : Nat) : Int) ∧ (x228.toInt ≤ 24 → wdl d169_F32 (24 * (Int32.toNatClampNeg (g 34))) (Int32.toNatClampNeg x228) = acc)) ∨ (x166_6.toInt = 0 ∧ mkA ls [] w = none))) := by have k8 := clampI (x := y28_7 + 1) (by omega); have kx := clampI (x := x228) (by omega); rcases hrn with ⟨g1, W1, g2, g3, g4⟩ | ⟨g1, g2⟩; (have gl : W1.length = Int32.toNatClampNeg d117_g30 := (by rw [← g3]; exact wdl_len); refine Or.inl ⟨g1, acc ++ W1, ?_, ?_, fun h9 => ?_⟩; (rw [a1, mkA_yes hx g2, show Int32.toNatClampNeg (y28_7 + 1) = Int32.toNatClampNeg y28_7 + 1 by omega]); (rw [List.length_append]; omega); (rw [show Int32.toNatClampNeg x228 = Int32.toNatClampNeg y28_5 + Int32.toNatClampNeg d117_g30 by omega, ← wdl_app, wdl_ext (fun i hi => ik169 _ (by omega)), a3 (by omega)]; have h8 := ij169; rw [show Int32.toNatClampNeg y169_9 = Int32.toNatClampNeg d117_g30 by have k169 := clampI (x := y169_9) (by omega); omega] at h8; rw [h8, g3])); (exact Or.inr ⟨g1, by rw [a1]; exact mkA_no hx g2⟩)
                                  exact ih28 x109 x228 x166_6 (y28_7 + 1) d117_g30 d117_g36 d117_F29 d117_F31 d169_F32 hg39 hg40 iv28_0 iv28_1 iv28_2 iv28_3 iv28_4 iv28_5 iv28_6 iv28_7 iv28_8 iv28_9
                                · have c175 := z_nle c175
                                  have f66 : (y28_5 + d117_g30).toInt = y28_5.toInt + d117_g30.toInt := z_add (by omega) (by omega)
                                  refine pw_ite (fun c187 => ?_) (fun c187 => ?_)
                                  · have c187 := (z_lt _ _).mp c187
                                    refine pw_j1 ek221 (fun z221_1 ez221_1 => ?_)
                                    subst ez221_1
                                    refine pw_vl (fun x228 ex228 => ?_)
                                    have f68 : x228.toInt = (y28_5 + d117_g30).toInt := congrArg Int32.toInt ex228
                                    have f69 : (y28_7 + 1).toInt = y28_7.toInt + (1) := z_addc (by decide +kernel) (by omega) (by omega)
                                    have iv28_0 : (0 ≤ x109.toInt ∧ x109.toInt ≤ 24) := by first | omega | (intro h9; rw [show (y28_7 + 1).toInt.toNat = y28_7.toInt.toNat + 1 by omega]; omega)
                                    have iv28_1 : (0 ≤ x228.toInt ∧ x228.toInt ≤ 384 * (y28_7 + 1).toInt) := by first | omega | (intro h9; rw [show (y28_7 + 1).toInt.toNat = y28_7.toInt.toNat + 1 by omega]; omega)
                                    have iv28_2 : (0 ≤ (y28_7 + 1).toInt ∧ (y28_7 + 1).toInt ≤ 24) := by first | omega | (intro h9; rw [show (y28_7 + 1).toInt.toNat = y28_7.toInt.toNat + 1 by omega]; omega)
                                    have iv28_3 : (x166_6.toInt = 0 ∨ x166_6.toInt = 1) := by first | omega | (intro h9; rw [show (y28_7 + 1).toInt.toNat = y28_7.toInt.toNat + 1 by omega]; omega)
                                    have iv28_4 : (p1.toInt = -1 → (y28_7 + 1).toInt = 0 → x109.toInt = 0) := by first | omega | (intro h9; rw [show (y28_7 + 1).toInt.toNat = y28_7.toInt.toNat + 1 by omega]; omega)
                                    have iv28_5 : (p1.toInt ≠ -1 → x109.toInt = psum (F 25) (24 * p1.toInt.toNat) (y28_7 + 1).toInt.toNat) := by first | omega | (intro h9; rw [show (y28_7 + 1).toInt.toNat = y28_7.toInt.toNat + 1 by omega]; omega)
                                    have iv28_6 : (y28_7 + 1).toInt ≤ ((w.length : Nat) : Int) := by first | omega | (intro h9; rw [show (y28_7 + 1).toInt.toNat = y28_7.toInt.toNat + 1 by omega]; omega)
                                    have iv28_7 : (x109.toInt = ((sumN (w.take (Int32.toNatClampNeg (y28_7 + 1))) : Nat) : Int)) := by have k8 := clampI (x := y28_7 + 1) (by omega); rw [show Int32.toNatClampNeg (y28_7 + 1) = Int32.toNatClampNeg y28_7 + 1 by omega, sum_s hx]; have h9 := if28; omega
                                    have iv28_8 : (∀ q, q < 24 * (Int32.toNatClampNeg (g 34)) → d169_F32 q = (F 32) q) := by intro q hq; rw [ik169 q (by omega)]; exact io28 q hq
                                    have iv28_9 : (id ((x166_6.toInt ≠ 0 ∧ ∃ acc, mkA ls [] w = mkA ls acc (w.drop (Int32.toNatClampNeg (y28_7 + 1))) ∧ x228.toInt = ((acc.length : Nat) : Int) ∧ (x228.toInt ≤ 24 → wdl d169_F32 (24 * (Int32.toNatClampNeg (g 34))) (Int32.toNatClampNeg x228) = acc)) ∨ (x166_6.toInt = 0 ∧ mkA ls [] w = none))) := by have k8 := clampI (x := y28_7 + 1) (by omega); have kx := clampI (x := x228) (by omega); rcases hrn with ⟨g1, W1, g2, g3, g4⟩ | ⟨g1, g2⟩; (have gl : W1.length = Int32.toNatClampNeg d117_g30 := (by rw [← g3]; exact wdl_len); refine Or.inl ⟨g1, acc ++ W1, ?_, ?_, fun h9 => ?_⟩; (rw [a1, mkA_yes hx g2, show Int32.toNatClampNeg (y28_7 + 1) = Int32.toNatClampNeg y28_7 + 1 by omega]); (rw [List.length_append]; omega); (rw [show Int32.toNatClampNeg x228 = Int32.toNatClampNeg y28_5 + Int32.toNatClampNeg d117_g30 by omega, ← wdl_app, wdl_ext (fun i hi => ik169 _ (by omega)), a3 (by omega)]; have h8 := ij169; rw [show Int32.toNatClampNeg y169_9 = Int32.toNatClampNeg d117_g30 by have k169 := clampI (x := y169_9) (by omega); omega] at h8; rw [h8, g3])); (exact Or.inr ⟨g1, by rw [a1]; exact mkA_no hx g2⟩)
                                    exact ih28 x109 x228 x166_6 (y28_7 + 1) d117_g30 d117_g36 d117_F29 d117_F31 d169_F32 hg39 hg40 iv28_0 iv28_1 iv28_2 iv28_3 iv28_4 iv28_5 iv28_6 iv28_7 iv28_8 iv28_9
                                  · have c187 := z_nlt c187
                                    have f70 : (24 * (g 34)).toInt = 24 * (g 34).toInt := z_muld (by decide +kernel) (by omega) (by omega)
                                    have f71 : ((24 * (g 34)) + y28_5).toInt = (24 * (g 34)).toInt + y28_5.toInt := z_add (by omega) (by omega)
                                    have f72 : (((24 * (g 34)) + y28_5) + y169_9).toInt = ((24 * (g 34)) + y28_5).toInt + y169_9.toInt := z_add (by omega) (by omega)
                                    refine pw_if (fun hb213 => ?_)
                                    obtain ⟨hbl213, hbr213⟩ := hb213
                                    refine pw_if (fun hb214 => ?_)
                                    obtain ⟨hbl214, hbr214⟩ := hb214
                                    refine pw_vl (fun w214 ew214 => ?_)
                                    have f73 : (y169_9 + 1).toInt = y169_9.toInt + (1) := z_addc (by decide +kernel) (by omega) (by omega)
                                    have iv169_0 : 0 ≤ (y169_9 + 1).toInt := by omega
                                    have iv169_1 : (y169_9 + 1).toInt ≤ d117_g30.toInt := by omega
                                    have iv169_2 : (∀ q, q < 24 * (Int32.toNatClampNeg (g 34)) + Int32.toNatClampNeg y28_5 → w214 q = d28_F32 q) := by have k9 := clampI (x := y169_9) (by omega); have ki := clampI (x := ((24 * (g 34)) + y28_5) + y169_9) (by omega); intro q hq; rw [ew214, pk_un (by omega)]; exact ik169 q hq
                                    have iv169_3 : (wdl w214 (24 * (Int32.toNatClampNeg (g 34)) + Int32.toNatClampNeg y28_5) (Int32.toNatClampNeg (y169_9 + 1)) = wdl d117_F29 0 (Int32.toNatClampNeg (y169_9 + 1))) := by have k9 := clampI (x := y169_9) (by omega); have k10 := clampI (x := y169_9 + 1) (by omega); have ki := clampI (x := ((24 * (g 34)) + y28_5) + y169_9) (by omega); obtain ⟨_, W1, _, g3, g4⟩ := Or.resolve_right hrn (fun q => by have q9 := hgd q.1; omega); rw [ew214, show Int32.toNatClampNeg (y169_9 + 1) = Int32.toNatClampNeg y169_9 + 1 by omega, wdl_s1, wdl_s1, show 24 * Int32.toNatClampNeg (g 34) + Int32.toNatClampNeg y28_5 + Int32.toNatClampNeg y169_9 = Int32.toNatClampNeg (((24 * (g 34)) + y28_5) + y169_9) by omega, pk_us, Nat.zero_add, bw_at g4 g3 (by omega), wdl_ext (fun i hi => pk_un (by omega)), ij169]
                                    exact ih169 (y169_9 + 1) w214 iv169_0 iv169_1 iv169_2 iv169_3
                            exact lp169 NN (0 : Int32) d28_F32 (show 0 ≤ (0 : Int32).toInt from by omega) (show (0 : Int32).toInt ≤ d117_g30.toInt from by omega) (show (∀ q, q < 24 * (Int32.toNatClampNeg (g 34)) + Int32.toNatClampNeg y28_5 → d28_F32 q = d28_F32 q) from by intro q hq; rfl) (show (wdl d28_F32 (24 * (Int32.toNatClampNeg (g 34)) + Int32.toNatClampNeg y28_5) (Int32.toNatClampNeg (0 : Int32)) = wdl d117_F29 0 (Int32.toNatClampNeg (0 : Int32))) from by rfl)
                          · have c135 := z_ne c135
                            obtain ⟨_, W1, b1, b2, b3, b4⟩ := Or.resolve_right il117 (fun q => by have q9 := q.1; omega)
                            have k9 := clampI (x := y117_9) (by omega)
                            obtain ⟨Lk, hLk⟩ := get_ex (l := ls) (i := Int32.toNatClampNeg y117_9 - 40 * Int32.toNatClampNeg p0) (by omega)
                            have hLe : lawR (F 14) (F 15) (F 16) (F 17) (Int32.toNatClampNeg y117_9) = Lk := by rw [← hls] at hLk; unfold lwsR at hLk; rw [tab_get (by omega), show 40 * Int32.toNatClampNeg p0 + (Int32.toNatClampNeg y117_9 - 40 * Int32.toNatClampNeg p0) = Int32.toNatClampNeg y117_9 by omega] at hLk; exact Option.some.inj hLk
                            have hMI141 : id (MInv (upd (upd g 30 d117_g30) 36 d117_g36) (upF (upF (upF F 29 d117_F29) 31 d117_F31) 32 d28_F32)) := show MInv (upd (upd g 30 d117_g30) 36 d117_g36) (upF (upF (upF F 29 d117_F29) 31 d117_F31) 32 d28_F32) from (MInv_i ((hI9.1)) ((hI9.2.1)) ((hI9.2.2.1)) ((hI9.2.2.2.1)) ((hI9.2.2.2.2.1)) ((hI9.2.2.2.2.2.1)) ((hI9.2.2.2.2.2.2.1)) ((hI9.2.2.2.2.2.2.2.1)) hzg9 hzg23 hzg27 hg39 hzg34 hg40 ((hI9.2.2.2.2.2.2.2.2.2.2.2.2.2.2.1)) ((hI9.2.2.2.2.2.2.2.2.2.2.2.2.2.2.2.1)) ((hI9.2.2.2.2.2.2.2.2.2.2.2.2.2.2.2.2.1)) ((hI9.2.2.2.2.2.2.2.2.2.2.2.2.2.2.2.2.2.1)) ((hI9.2.2.2.2.2.2.2.2.2.2.2.2.2.2.2.2.2.2.1)) ((hI9.2.2.2.2.2.2.2.2.2.2.2.2.2.2.2.2.2.2.2.1)) ((hI9.2.2.2.2.2.2.2.2.2.2.2.2.2.2.2.2.2.2.2.2.1)) ((hI9.2.2.2.2.2.2.2.2.2.2.2.2.2.2.2.2.2.2.2.2.2.1)) ((hI9.2.2.2.2.2.2.2.2.2.2.2.2.2.2.2.2.2.2.2.2.2.2.1)) ((hI9.2.2.2.2.2.2.2.2.2.2.2.2.2.2.2.2.2.2.2.2.2.2.2.1)) ((hI9.2.2.2.2.2.2.2.2.2.2.2.2.2.2.2.2.2.2.2.2.2.2.2.2.1)) hzF11 hzF12 hzF13 hzF15 hzF19 hzF21 hzF24 hzF25 hzF26 hzF33 hzF38 hzF41 hzF43 hzF45 hzF46 hzF50 hzF53 hzF54 hzLQ)
                            have hpr141_0 : (0 ≤ y117_9.toInt ∧ y117_9.toInt < 280) := by first | assumption | omega
                            have hpr141_1 : d117_g30.toInt ≤ 24 := by first | assumption | omega
                            have hpr141_2 : 1 ≤ ((F 15) (Int32.toNatClampNeg (4 * y117_9))).toInt := by exact lq_at hzLQ (r := p0) (by omega) (by omega) (by omega) (by omega) (by omega)
                            refine pw_b4 (fun c141_g30 c141_g36 c141_F29 c141_F31 hc141 => ?_)
                            have hq141 := wp_at (ok_lawThrough (upd (upd g 30 d117_g30) 36 d117_g36) (upF (upF (upF F 29 d117_F29) 31 d117_F31) 32 d28_F32) y117_9 hMI141 hpr141_0 hpr141_1 hpr141_2) hc141
                            obtain ⟨hg74, hg75⟩ : (((0) ≤ c141_g30.toInt ∧ c141_g30.toInt ≤ 384)) ∧ (((0) ≤ c141_g36.toInt ∧ c141_g36.toInt ≤ 1)) := hq141
                            have h8141_hL : lawR (F 14) (F 15) (F 16) (F 17) (Int32.toNatClampNeg y117_9) = (Lk) := by exact hLe
                            have h8141_hW : wdl d117_F29 0 (Int32.toNatClampNeg d117_g30) = (W1) := by exact b3
                            have h8141_hbw : BW (W1) := by exact b1
                            have h8141_hb2 : BW (Lk).2.1 := by exact (hwl Lk (List.mem_of_getElem? hLk)).2
                            have h8141_hl1 : 1 ≤ (Lk).1.length := by exact (hwl Lk (List.mem_of_getElem? hLk)).1
                            have hx141 := pwq (fn_lawThrough (upd (upd g 30 d117_g30) 36 d117_g36) (upF (upF (upF F 29 d117_F29) 31 d117_F31) 32 d28_F32) y117_9 (Lk) (W1) hMI141 hpr141_0 hpr141_1 hpr141_2 h8141_hL h8141_hW h8141_hbw h8141_hb2 h8141_hl1) hc141
                            obtain ⟨p141_0, p141_1⟩ : (wdl c141_F29 0 (Int32.toNatClampNeg c141_g30) = (lawT (Lk) (W1)).1) ∧ ((c141_g36.toInt ≠ 0 ↔ (d117_g36.toInt ≠ 0 ∨ ((lawT (Lk) (W1)).2 = true ∧ y117_9.toInt = (g 35).toInt)))) := hx141
                            refine pw_jE (fun j158 ej158 => ?_)
                            refine pw_ite (fun c150 => ?_) (fun c150 => ?_)
                            · have c150 := (z_lt _ _).mp c150
                              refine pw_j1 ej158 (fun t158_0 et158_0 => ?_)
                              have et158_0 := et158_0.symm
                              have f_t158_0 : t158_0.toInt = 0 := by rw [et158_0]; decide +kernel
                              have f76 : (y117_9 + 1).toInt = y117_9.toInt + (1) := z_addc (by decide +kernel) (by omega) (by omega)
                              have iv117_0 : (40 * p0.toInt ≤ (y117_9 + 1).toInt ∧ (y117_9 + 1).toInt ≤ 40 * p0.toInt + 40) := by omega
                              have iv117_1 : (t158_0.toInt = 0 ∨ t158_0.toInt = 1) := by omega
                              have iv117_2 : (t158_0.toInt ≠ 0 → c141_g30.toInt ≤ 24) := by omega
                              have iv117_3 : (y117_9 + 1).toInt ≤ 40 * p0.toInt + ((F 11) (Int32.toNatClampNeg p0)).toInt := by omega
                              have iv117_4 : (id ((t158_0.toInt ≠ 0 ∧ ∃ W1, BW W1 ∧ runL ls x = runL (ls.drop (Int32.toNatClampNeg (y117_9 + 1) - 40 * Int32.toNatClampNeg p0)) W1 ∧ wdl c141_F29 0 (Int32.toNatClampNeg c141_g30) = W1 ∧ c141_g30.toInt ≤ 24) ∨ (t158_0.toInt = 0 ∧ runL ls x = none ∧ 24 < c141_g30.toInt))) := by have k10 := clampI (x := y117_9 + 1) (by omega); have h9 := congrArg List.length p141_0; rw [wdl_len] at h9; have hb30 := hg74; have c30 := clampI (x := c141_g30) (by omega); exact Or.inr ⟨by omega, by rw [b2]; exact runL_long hLk (by omega), by omega⟩
                              exact ih117 t158_0 (y117_9 + 1) c141_g30 c141_g36 c141_F29 c141_F31 hg74 hg75 iv117_0 iv117_1 iv117_2 iv117_3 iv117_4
                            · have c150 := z_nlt c150
                              refine pw_j1 ej158 (fun t158_0 et158_0 => ?_)
                              have et158_0 := et158_0.symm
                              have f_t158_0 : t158_0.toInt = 1 := by rw [et158_0]; decide +kernel
                              have f77 : (y117_9 + 1).toInt = y117_9.toInt + (1) := z_addc (by decide +kernel) (by omega) (by omega)
                              have iv117_0 : (40 * p0.toInt ≤ (y117_9 + 1).toInt ∧ (y117_9 + 1).toInt ≤ 40 * p0.toInt + 40) := by omega
                              have iv117_1 : (t158_0.toInt = 0 ∨ t158_0.toInt = 1) := by omega
                              have iv117_2 : (t158_0.toInt ≠ 0 → c141_g30.toInt ≤ 24) := by omega
                              have iv117_3 : (y117_9 + 1).toInt ≤ 40 * p0.toInt + ((F 11) (Int32.toNatClampNeg p0)).toInt := by omega
                              have iv117_4 : (id ((t158_0.toInt ≠ 0 ∧ ∃ W1, BW W1 ∧ runL ls x = runL (ls.drop (Int32.toNatClampNeg (y117_9 + 1) - 40 * Int32.toNatClampNeg p0)) W1 ∧ wdl c141_F29 0 (Int32.toNatClampNeg c141_g30) = W1 ∧ c141_g30.toInt ≤ 24) ∨ (t158_0.toInt = 0 ∧ runL ls x = none ∧ 24 < c141_g30.toInt))) := by have k10 := clampI (x := y117_9 + 1) (by omega); have h9 := congrArg List.length p141_0; rw [wdl_len] at h9; have hb30 := hg74; have c30 := clampI (x := c141_g30) (by omega); exact Or.inl ⟨by omega, (lawT Lk W1).1, lawT_bw b1 (hwl Lk (List.mem_of_getElem? hLk)).2, by rw [b2, runL_step hLk (by omega), show Int32.toNatClampNeg (y117_9 + 1) - 40 * Int32.toNatClampNeg p0 = Int32.toNatClampNeg y117_9 - 40 * Int32.toNatClampNeg p0 + 1 by omega], p141_0, by omega⟩
                              exact ih117 t158_0 (y117_9 + 1) c141_g30 c141_g36 c141_F29 c141_F31 hg74 hg75 iv117_0 iv117_1 iv117_2 iv117_3 iv117_4
                    exact lp117 NN y28_6 x115 t63_0 d28_g36 d68_F29 d28_F31 hg34 hg2 (show (40 * p0.toInt ≤ x115.toInt ∧ x115.toInt ≤ 40 * p0.toInt + 40) from by omega) (show (y28_6.toInt = 0 ∨ y28_6.toInt = 1) from by omega) (show (y28_6.toInt ≠ 0 → t63_0.toInt ≤ 24) from by omega) (show x115.toInt ≤ 40 * p0.toInt + ((F 11) (Int32.toNatClampNeg p0)).toInt from by omega) (show (id ((y28_6.toInt ≠ 0 ∧ ∃ W1, BW W1 ∧ runL ls x = runL (ls.drop (Int32.toNatClampNeg x115 - 40 * Int32.toNatClampNeg p0)) W1 ∧ wdl d68_F29 0 (Int32.toNatClampNeg t63_0) = W1 ∧ t63_0.toInt ≤ 24) ∨ (y28_6.toInt = 0 ∧ runL ls x = none ∧ 24 < t63_0.toInt))) from by have ky := clampI (x := y68_9) (by omega); have kt := clampI (x := t63_0) (by omega); have kz := clampI (x := x115) (by omega); refine Or.inl ⟨by omega, x, fun y hy => hbw y (by rw [← hfa] at hy; exact List.mem_of_mem_drop (List.mem_of_mem_take hy)), by rw [show Int32.toNatClampNeg x115 - 40 * Int32.toNatClampNeg p0 = 0 by omega]; rfl, ?_, by omega⟩; have h9 := ip68; rw [show Int32.toNatClampNeg y68_9 = x.length by omega, hxe] at h9; rw [show Int32.toNatClampNeg t63_0 = x.length by omega]; exact h9)
                  · have c72 := z_nle c72
                    have f78 : (y28_4 + y68_9).toInt = y28_4.toInt + y68_9.toInt := z_add (by omega) (by omega)
                    refine pw_if (fun hb90 => ?_)
                    obtain ⟨hbl90, hbr90⟩ := hb90
                    refine pw_if (fun hb91 => ?_)
                    obtain ⟨hbl91, hbr91⟩ := hb91
                    refine pw_vl (fun w91 ew91 => ?_)
                    have f79 : (y68_9 + 1).toInt = y68_9.toInt + (1) := z_addc (by decide +kernel) (by omega) (by omega)
                    have iv68_0 : 0 ≤ (y68_9 + 1).toInt := by omega
                    have iv68_1 : (y68_9 + 1).toInt ≤ t63_0.toInt := by omega
                    have iv68_2 : (wdl w91 0 (Int32.toNatClampNeg (y68_9 + 1)) = wdl (F 22) (Int32.toNatClampNeg y28_4) (Int32.toNatClampNeg (y68_9 + 1))) := by have k9 := clampI (x := y68_9) (by omega); have k10 := clampI (x := y68_9 + 1) (by omega); have ki := clampI (x := y28_4 + y68_9) (by omega); rw [ew91, show Int32.toNatClampNeg (y68_9 + 1) = Int32.toNatClampNeg y68_9 + 1 by omega, wdl_up rfl, ip68, wdl_s1, show Int32.toNatClampNeg (y28_4 + y68_9) = Int32.toNatClampNeg y28_4 + Int32.toNatClampNeg y68_9 by omega, hbw _ (by rw [← hW]; have h9 := wdl_mem (f := F 22) (s := 0) (m := Int32.toNatClampNeg (g 23)) (j := Int32.toNatClampNeg y28_4 + Int32.toNatClampNeg y68_9) (by omega); rwa [Nat.zero_add] at h9)]
                    exact ih68 (y68_9 + 1) w91 iv68_0 iv68_1 iv68_2
              exact lp68 NN (0 : Int32) d28_F29 (show 0 ≤ (0 : Int32).toInt from by omega) (show (0 : Int32).toInt ≤ t63_0.toInt from by omega) (show (wdl d28_F29 0 (Int32.toNatClampNeg (0 : Int32)) = wdl (F 22) (Int32.toNatClampNeg y28_4) (Int32.toNatClampNeg (0 : Int32))) from by rfl)
            · have c41 := z_ne c41
              exfalso; omega
    exact lp28 NN (0 : Int32) (0 : Int32) (1 : Int32) (0 : Int32) (g 30) (g 36) (F 29) (F 31) (F 32) hzg30 hzg36 (show (0 ≤ (0 : Int32).toInt ∧ (0 : Int32).toInt ≤ 24) from by first | omega | exact (fun _ => rfl) | (intro _; exact rfl)) (show (0 ≤ (0 : Int32).toInt ∧ (0 : Int32).toInt ≤ 384 * (0 : Int32).toInt) from by first | omega | exact (fun _ => rfl) | (intro _; exact rfl)) (show (0 ≤ (0 : Int32).toInt ∧ (0 : Int32).toInt ≤ 24) from by first | omega | exact (fun _ => rfl) | (intro _; exact rfl)) (show ((1 : Int32).toInt = 0 ∨ (1 : Int32).toInt = 1) from by first | omega | exact (fun _ => rfl) | (intro _; exact rfl)) (show (p1.toInt = -1 → (0 : Int32).toInt = 0 → (0 : Int32).toInt = 0) from by first | omega | exact (fun _ => rfl) | (intro _; exact rfl)) (show (p1.toInt ≠ -1 → (0 : Int32).toInt = psum (F 25) (24 * p1.toInt.toNat) (0 : Int32).toInt.toNat) from by first | omega | exact (fun _ => rfl) | (intro _; exact rfl)) (show (0 : Int32).toInt ≤ ((w.length : Nat) : Int) from by first | omega | exact (fun _ => rfl) | (intro _; exact rfl)) (show ((0 : Int32).toInt = ((sumN (w.take (Int32.toNatClampNeg (0 : Int32))) : Nat) : Int)) from by rfl) (show (∀ q, q < 24 * (Int32.toNatClampNeg (g 34)) → (F 32) q = (F 32) q) from by intro q hq; rfl) (show (id (((1 : Int32).toInt ≠ 0 ∧ ∃ acc, mkA ls [] w = mkA ls acc (w.drop (Int32.toNatClampNeg (0 : Int32))) ∧ (0 : Int32).toInt = ((acc.length : Nat) : Int) ∧ ((0 : Int32).toInt ≤ 24 → wdl (F 32) (24 * (Int32.toNatClampNeg (g 34))) (Int32.toNatClampNeg (0 : Int32)) = acc)) ∨ ((1 : Int32).toInt = 0 ∧ mkA ls [] w = none))) from by exact Or.inl ⟨by omega, [], rfl, rfl, fun _ => rfl⟩)
  · have c2 := z_ne c2
    refine pw_if (fun hb14 => ?_)
    obtain ⟨hbl14, hbr14⟩ := hb14
    have f80 := hzF26 (Int32.toNatClampNeg p1)
    refine pw_j1 ej15 (fun t15_0 et15_0 => ?_)
    have et15_0 := et15_0.symm
    have f_t15_0 : t15_0.toInt = ((F 26) (Int32.toNatClampNeg p1)).toInt := by rw [et15_0]
    have hmy : t15_0.toInt = ((w.length : Nat) : Int) := by rcases hwy with ⟨h8, h9⟩ | ⟨h8, h9, _, _⟩; (first | (rw [h9]; show _ = (1 : Int); omega) | (exfalso; omega)); (first | omega | (exfalso; omega))
    refine pw_jE (fun k236 ek236 => ?_)
    have lp28 : ∀ (n28 : Nat) (y28_4 : Int32) (y28_5 : Int32) (y28_6 : Int32) (y28_7 : Int32) (d28_g30 : Int32) (d28_g36 : Int32) (d28_F29 : (Nat → Int32)) (d28_F31 : (Nat → Int32)) (d28_F32 : (Nat → Int32)), ((0) ≤ d28_g30.toInt ∧ d28_g30.toInt ≤ 384) → ((0) ≤ d28_g36.toInt ∧ d28_g36.toInt ≤ 1) → (0 ≤ y28_4.toInt ∧ y28_4.toInt ≤ 24) → (0 ≤ y28_5.toInt ∧ y28_5.toInt ≤ 384 * y28_7.toInt) → (0 ≤ y28_7.toInt ∧ y28_7.toInt ≤ 24) → (y28_6.toInt = 0 ∨ y28_6.toInt = 1) → (p1.toInt = -1 → y28_7.toInt = 0 → y28_4.toInt = 0) → (p1.toInt ≠ -1 → y28_4.toInt = psum (F 25) (24 * p1.toInt.toNat) y28_7.toInt.toNat) → y28_7.toInt ≤ ((w.length : Nat) : Int) → (y28_4.toInt = ((sumN (w.take (Int32.toNatClampNeg y28_7)) : Nat) : Int)) → (∀ q, q < 24 * (Int32.toNatClampNeg (g 34)) → d28_F32 q = (F 32) q) → (id ((y28_6.toInt ≠ 0 ∧ ∃ acc, mkA ls [] w = mkA ls acc (w.drop (Int32.toNatClampNeg y28_7)) ∧ y28_5.toInt = ((acc.length : Nat) : Int) ∧ (y28_5.toInt ≤ 24 → wdl d28_F32 (24 * (Int32.toNatClampNeg (g 34))) (Int32.toNatClampNeg y28_5) = acc)) ∨ (y28_6.toInt = 0 ∧ mkA ls [] w = none))) → pw (L_makeForm_28 g F p0 p1 t15_0 k236 n28 y28_4 y28_5 y28_6 y28_7 d28_g30 d28_g36 d28_F29 d28_F31 d28_F32) (QF_makeForm g F p0 p1 ls W w D) := by
      intro n28
      induction n28 with
      | zero => intros; exact pw_none
      | succ n28 ih28 =>
        intro y28_4 y28_5 y28_6 y28_7 d28_g30 d28_g36 d28_F29 d28_F31 d28_F32 hg81 hg82 f83 f84 f85 f86 f87 f88 f89 if28 io28 im28
        show pw (B_makeForm_28 g F p0 p1 t15_0 k236 (L_makeForm_28 g F p0 p1 t15_0 k236 n28) y28_4 y28_5 y28_6 y28_7 d28_g30 d28_g36 d28_F29 d28_F31 d28_F32) _
        unfold B_makeForm_28
        refine pw_ite (fun c31 => ?_) (fun c31 => ?_)
        · have c31 := (z_le _ _).mp c31
          refine pw_j7 ek236 (fun x236_5 ex236_5 x236_6 ex236_6 z236_1 ez236_1 z236_2 ez236_2 z236_3 ez236_3 z236_4 ez236_4 z236_5 ez236_5 => ?_)
          subst ez236_1 ez236_2 ez236_3 ez236_4 ez236_5
          have ex236_5 := ex236_5.symm
          have f_x236_5 : x236_5.toInt = y28_5.toInt := by rw [ex236_5]
          have ex236_6 := ex236_6.symm
          have f_x236_6 : x236_6.toInt = y28_6.toInt := by rw [ex236_6]
          refine pw_jE (fun j253 ej253 => ?_)
          refine pw_ite (fun c238 => ?_) (fun c238 => ?_)
          · have c238 := congrArg Int32.toInt c238
            refine pw_j0 ej253 ?_
            have qq0 : rwW (g 34) d28_F32 (F 33) 24 = (gdF (mkA ls [] w)).foldl (addF 31) D := by rcases im28 with ⟨h1, _⟩ | ⟨_, h2⟩; (exfalso; omega); (rw [h2]; show _ = D; rw [rw_low io28 (fun _ _ => rfl) hsz]; exact hD)
            have qq1 : (∀ j, j < Int32.toNatClampNeg (g 34) → Int32.toNatClampNeg ((F 33) j) ≤ 24) := by exact hsz
            exact pw_some ⟨qq0, qq1⟩
          · have c238 := z_ne c238
            refine pw_ite (fun c243 => ?_) (fun c243 => ?_)
            · have c243 := congrArg Int32.toInt c243
              refine pw_j0 ej253 ?_
              have qq0 : rwW (g 34) d28_F32 (F 33) 24 = (gdF (mkA ls [] w)).foldl (addF 31) D := by rcases im28 with ⟨_, acc, a1, a2, a3⟩ | ⟨h1, _⟩; (rw [a1, mkA_end (by have k7 := clampI (x := y28_7) (by omega); omega), gdF_bad (Or.inl (by omega))]; show _ = D; rw [rw_low io28 (fun _ _ => rfl) hsz]; exact hD); (exfalso; omega)
              have qq1 : (∀ j, j < Int32.toNatClampNeg (g 34) → Int32.toNatClampNeg ((F 33) j) ≤ 24) := by exact hsz
              exact pw_some ⟨qq0, qq1⟩
            · have c243 := z_ne c243
              refine pw_ite (fun c250 => ?_) (fun c250 => ?_)
              · have c250 := (z_le _ _).mp c250
                obtain ⟨_, acc, a1, a2, a3⟩ := Or.resolve_right im28 (fun q => by have q9 := q.1; omega)
                have k7 := clampI (x := y28_7) (by omega)
                have k5 := clampI (x := x236_5) (by omega)
                have hmk : mkA ls [] w = some acc := by rw [a1]; exact mkA_end (by omega)
                have hgd1 : gdF (mkA ls [] w) = [acc] := by rw [hmk]; exact gdF_ok (by omega)
                have a4 := a3 (by omega)
                rw [← ex236_5] at a4
                refine pw_if (fun hb264 => ?_)
                obtain ⟨hbl264, hbr264⟩ := hb264
                refine pw_vl (fun w264 ew264 => ?_)
                have hF90 : rng (0) 24 w264 := by rw [ew264]; exact rng_upd hzF33 (by omega) (by omega)
                have lp268 : ∀ (n268 : Nat) (y268_7 : Int32), (0 ≤ y268_7.toInt ∧ y268_7.toInt ≤ 30) → y268_7.toInt ≤ (g 34).toInt → (∀ j x, j < Int32.toNatClampNeg y268_7 → D[j]? = some x → x ≠ acc) → pw (L_makeForm_268 g x236_5 d28_g30 d28_g36 d28_F29 d28_F31 d28_F32 w264 n268 y268_7) (QF_makeForm g F p0 p1 ls W w D) := by
                  intro n268
                  induction n268 with
                  | zero => intros; exact pw_none
                  | succ n268 ih268 =>
                    intro y268_7 f91 f92 in268
                    show pw (B_makeForm_268 g x236_5 d28_g30 d28_g36 d28_F29 d28_F31 d28_F32 w264 (L_makeForm_268 g x236_5 d28_g30 d28_g36 d28_F29 d28_F31 d28_F32 w264 n268) y268_7) _
                    unfold B_makeForm_268
                    refine pw_ite (fun c274 => ?_) (fun c274 => ?_)
                    · have c274 := (z_le _ _).mp c274
                      have f93 : ((g 34) + 1).toInt = (g 34).toInt + 1 := z_addc (by decide +kernel) (by omega) (by omega)
                      refine pw_vl (fun x326 ex326 => ?_)
                      have f94 : x326.toInt = ((g 34) + 1).toInt := congrArg Int32.toInt ex326
                      have hg95 : ((0) ≤ x326.toInt ∧ x326.toInt ≤ 30) := ⟨by omega, by omega⟩
                      have qq0 : rwW x326 d28_F32 w264 24 = (gdF (mkA ls [] w)).foldl (addF 31) D := by have k7 := clampI (x := y268_7) (by omega); have kx := clampI (x := x326) (by omega); rw [hgd1]; show _ = addF 31 D acc; rw [addF_new (fun h => by obtain ⟨j, hj⟩ := List.getElem?_of_mem h; have h8 := get_lt hj; exact in268 j acc (by omega) hj rfl) (by omega), ← hD]; refine rw_app (by omega) io28 (fun j hj => by rw [ew264, pk_un (by omega)]) hsz ?_; rw [ew264, pk_us]; exact a4
                      have qq1 : (∀ j, j < Int32.toNatClampNeg x326 → Int32.toNatClampNeg (w264 j) ≤ 24) := by have kx := clampI (x := x326) (by omega); intro j hj; by_cases q9 : j = Int32.toNatClampNeg (g 34); (rw [q9, ew264, pk_us]; omega); (rw [ew264, pk_un q9]; exact hsz j (by omega))
                      exact pw_some ⟨qq0, qq1⟩
                    · have c274 := z_nle c274
                      have k7 := clampI (x := y268_7) (by omega)
                      have hsj := hsz (Int32.toNatClampNeg y268_7) (by omega)
                      have hw9 : w264 (Int32.toNatClampNeg y268_7) = (F 33) (Int32.toNatClampNeg y268_7) := by rw [ew264, pk_un (by omega)]
                      have hDk : D[Int32.toNatClampNeg y268_7]? = some (wdl d28_F32 (24 * Int32.toNatClampNeg y268_7) (Int32.toNatClampNeg ((F 33) (Int32.toNatClampNeg y268_7)))) := by rw [← hD]; rw [rw_at (by omega)]; exact congrArg some (wdl_ext (fun i hi => (io28 _ (by omega)).symm))
                      have hbs := hF90 (Int32.toNatClampNeg y268_7)
                      have f96 : (24 * y268_7).toInt = 24 * y268_7.toInt := z_muld (by decide +kernel) (by omega) (by omega)
                      refine pw_if (fun hb292 => ?_)
                      obtain ⟨hbl292, hbr292⟩ := hb292
                      have f97 := hF90 (Int32.toNatClampNeg y268_7)
                      have f98 : (24 * (g 34)).toInt = 24 * (g 34).toInt := z_muld (by decide +kernel) (by omega) (by omega)
                      have hpr306_0 : (0 ≤ (24 * y268_7).toInt ∧ (24 * y268_7).toInt + (w264 (Int32.toNatClampNeg y268_7)).toInt ≤ 720) := by first | assumption | omega
                      have hpr306_1 : 720 ≤ 500000 := by first | assumption | omega
                      have hpr306_2 : (0 ≤ (24 * (g 34)).toInt ∧ (24 * (g 34)).toInt + x236_5.toInt ≤ 720) := by first | assumption | omega
                      have hpr306_3 : 720 ≤ 500000 := by first | assumption | omega
                      refine pw_b1 (fun r306 hc306 => ?_)
                      have hq306 := wp_at (ok_sameBytes d28_F32 720 (24 * y268_7) (w264 (Int32.toNatClampNeg y268_7)) d28_F32 720 (24 * (g 34)) x236_5 hpr306_0 hpr306_1 hpr306_2 hpr306_3) hc306
                      have f99 : (0 ≤ r306.toInt ∧ r306.toInt ≤ 1) := hq306
                      clear hq306
                      have h8306_h02 : 0 ≤ (w264 (Int32.toNatClampNeg y268_7)).toInt := by omega
                      have h8306_h05 : 0 ≤ x236_5.toInt := by omega
                      have hx306 := pwq (fn_sameBytes d28_F32 720 (24 * y268_7) (w264 (Int32.toNatClampNeg y268_7)) d28_F32 720 (24 * (g 34)) x236_5 hpr306_0 hpr306_1 hpr306_2 hpr306_3 h8306_h02 h8306_h05) hc306
                      obtain ⟨p306_0, p306_1⟩ : (id ((r306.toInt ≠ 0 → wdl d28_F32 (Int32.toNatClampNeg (24 * y268_7)) (Int32.toNatClampNeg (w264 (Int32.toNatClampNeg y268_7))) = wdl d28_F32 (Int32.toNatClampNeg (24 * (g 34))) (Int32.toNatClampNeg x236_5)))) ∧ (id ((r306.toInt = 0 → wdl d28_F32 (Int32.toNatClampNeg (24 * y268_7)) (Int32.toNatClampNeg (w264 (Int32.toNatClampNeg y268_7))) ≠ wdl d28_F32 (Int32.toNatClampNeg (24 * (g 34))) (Int32.toNatClampNeg x236_5)))) := hx306
                      have ki := clampI (x := 24 * y268_7) (by omega)
                      have kj := clampI (x := 24 * (g 34)) (by omega)
                      rw [hw9, show Int32.toNatClampNeg (24 * y268_7) = 24 * Int32.toNatClampNeg y268_7 by omega, show Int32.toNatClampNeg (24 * (g 34)) = 24 * Int32.toNatClampNeg (g 34) by omega, a4] at p306_0 p306_1
                      refine pw_ite (fun c309 => ?_) (fun c309 => ?_)
                      · have c309 := congrArg Int32.toInt c309
                        have f100 : (y268_7 + 1).toInt = y268_7.toInt + (1) := z_addc (by decide +kernel) (by omega) (by omega)
                        have iv268_0 : (0 ≤ (y268_7 + 1).toInt ∧ (y268_7 + 1).toInt ≤ 30) := by omega
                        have iv268_1 : (y268_7 + 1).toInt ≤ (g 34).toInt := by omega
                        have iv268_2 : (∀ j x, j < Int32.toNatClampNeg (y268_7 + 1) → D[j]? = some x → x ≠ acc) := by have k7 := clampI (x := y268_7) (by omega); have k8 := clampI (x := y268_7 + 1) (by omega); intro j x hj hx; by_cases q9 : j = Int32.toNatClampNeg y268_7; (subst q9; rw [hDk] at hx; cases hx; exact p306_1 (by omega)); (exact in268 j x (by omega) hx)
                        exact ih268 (y268_7 + 1) iv268_0 iv268_1 iv268_2
                      · have c309 := z_ne c309
                        have qq0 : rwW (g 34) d28_F32 w264 24 = (gdF (mkA ls [] w)).foldl (addF 31) D := by rw [hgd1]; show _ = addF 31 D acc; rw [addF_in (by have h9 := List.mem_of_getElem? hDk; rw [p306_0 (by omega)] at h9; exact h9)]; rw [rw_low io28 (fun j hj => by rw [ew264, pk_un (by omega)]) hsz]; exact hD
                        have qq1 : (∀ j, j < Int32.toNatClampNeg (g 34) → Int32.toNatClampNeg (w264 j) ≤ 24) := by intro j hj; rw [ew264, pk_un (by omega)]; exact hsz j hj
                        exact pw_some ⟨qq0, qq1⟩
                exact lp268 NN (0 : Int32) (show (0 ≤ (0 : Int32).toInt ∧ (0 : Int32).toInt ≤ 30) from by omega) (show (0 : Int32).toInt ≤ (g 34).toInt from by omega) (show (∀ j x, j < Int32.toNatClampNeg (0 : Int32) → D[j]? = some x → x ≠ acc) from by intro j x hj hx; exact absurd hj (Nat.not_lt_zero _))
              · have c250 := z_nle c250
                refine pw_j0 ej253 ?_
                have qq0 : rwW (g 34) d28_F32 (F 33) 24 = (gdF (mkA ls [] w)).foldl (addF 31) D := by rcases im28 with ⟨_, acc, a1, a2, a3⟩ | ⟨h1, _⟩; (rw [a1, mkA_end (by have k7 := clampI (x := y28_7) (by omega); omega), gdF_bad (Or.inr (by omega))]; show _ = D; rw [rw_low io28 (fun _ _ => rfl) hsz]; exact hD); (exfalso; omega)
                have qq1 : (∀ j, j < Int32.toNatClampNeg (g 34) → Int32.toNatClampNeg ((F 33) j) ≤ 24) := by exact hsz
                exact pw_some ⟨qq0, qq1⟩
        · have c31 := z_nle c31
          refine pw_ite (fun c36 => ?_) (fun c36 => ?_)
          · have c36 := congrArg Int32.toInt c36
            refine pw_j7 ek236 (fun x236_5 ex236_5 x236_6 ex236_6 z236_1 ez236_1 z236_2 ez236_2 z236_3 ez236_3 z236_4 ez236_4 z236_5 ez236_5 => ?_)
            subst ez236_1 ez236_2 ez236_3 ez236_4 ez236_5
            have ex236_5 := ex236_5.symm
            have f_x236_5 : x236_5.toInt = y28_5.toInt := by rw [ex236_5]
            have ex236_6 := ex236_6.symm
            have f_x236_6 : x236_6.toInt = y28_6.toInt := by rw [ex236_6]
            refine pw_jE (fun j253 ej253 => ?_)
            refine pw_ite (fun c238 => ?_) (fun c238 => ?_)
            · have c238 := congrArg Int32.toInt c238
              refine pw_j0 ej253 ?_
              have qq0 : rwW (g 34) d28_F32 (F 33) 24 = (gdF (mkA ls [] w)).foldl (addF 31) D := by rcases im28 with ⟨h1, _⟩ | ⟨_, h2⟩; (exfalso; omega); (rw [h2]; show _ = D; rw [rw_low io28 (fun _ _ => rfl) hsz]; exact hD)
              have qq1 : (∀ j, j < Int32.toNatClampNeg (g 34) → Int32.toNatClampNeg ((F 33) j) ≤ 24) := by exact hsz
              exact pw_some ⟨qq0, qq1⟩
            · have c238 := z_ne c238
              refine pw_ite (fun c243 => ?_) (fun c243 => ?_)
              · have c243 := congrArg Int32.toInt c243
                refine pw_j0 ej253 ?_
                have qq0 : rwW (g 34) d28_F32 (F 33) 24 = (gdF (mkA ls [] w)).foldl (addF 31) D := by rcases im28 with ⟨_, acc, a1, a2, a3⟩ | ⟨h1, _⟩; (rw [a1, mkA_end (by have k7 := clampI (x := y28_7) (by omega); omega), gdF_bad (Or.inl (by omega))]; show _ = D; rw [rw_low io28 (fun _ _ => rfl) hsz]; exact hD); (exfalso; omega)
                have qq1 : (∀ j, j < Int32.toNatClampNeg (g 34) → Int32.toNatClampNeg ((F 33) j) ≤ 24) := by exact hsz
                exact pw_some ⟨qq0, qq1⟩
              · have c243 := z_ne c243
                refine pw_ite (fun c250 => ?_) (fun c250 => ?_)
                · have c250 := (z_le _ _).mp c250
                  obtain ⟨_, acc, a1, a2, a3⟩ := Or.resolve_right im28 (fun q => by have q9 := q.1; omega)
                  have k7 := clampI (x := y28_7) (by omega)
                  have k5 := clampI (x := x236_5) (by omega)
                  have hmk : mkA ls [] w = some acc := by rw [a1]; exact mkA_end (by omega)
                  have hgd1 : gdF (mkA ls [] w) = [acc] := by rw [hmk]; exact gdF_ok (by omega)
                  have a4 := a3 (by omega)
                  rw [← ex236_5] at a4
                  refine pw_if (fun hb264 => ?_)
                  obtain ⟨hbl264, hbr264⟩ := hb264
                  refine pw_vl (fun w264 ew264 => ?_)
                  have hF101 : rng (0) 24 w264 := by rw [ew264]; exact rng_upd hzF33 (by omega) (by omega)
                  have lp268 : ∀ (n268 : Nat) (y268_7 : Int32), (0 ≤ y268_7.toInt ∧ y268_7.toInt ≤ 30) → y268_7.toInt ≤ (g 34).toInt → (∀ j x, j < Int32.toNatClampNeg y268_7 → D[j]? = some x → x ≠ acc) → pw (L_makeForm_268 g x236_5 d28_g30 d28_g36 d28_F29 d28_F31 d28_F32 w264 n268 y268_7) (QF_makeForm g F p0 p1 ls W w D) := by
                    intro n268
                    induction n268 with
                    | zero => intros; exact pw_none
                    | succ n268 ih268 =>
                      intro y268_7 f102 f103 in268
                      show pw (B_makeForm_268 g x236_5 d28_g30 d28_g36 d28_F29 d28_F31 d28_F32 w264 (L_makeForm_268 g x236_5 d28_g30 d28_g36 d28_F29 d28_F31 d28_F32 w264 n268) y268_7) _
                      unfold B_makeForm_268
                      refine pw_ite (fun c274 => ?_) (fun c274 => ?_)
                      · have c274 := (z_le _ _).mp c274
                        have f104 : ((g 34) + 1).toInt = (g 34).toInt + 1 := z_addc (by decide +kernel) (by omega) (by omega)
                        refine pw_vl (fun x326 ex326 => ?_)
                        have f105 : x326.toInt = ((g 34) + 1).toInt := congrArg Int32.toInt ex326
                        have hg106 : ((0) ≤ x326.toInt ∧ x326.toInt ≤ 30) := ⟨by omega, by omega⟩
                        have qq0 : rwW x326 d28_F32 w264 24 = (gdF (mkA ls [] w)).foldl (addF 31) D := by have k7 := clampI (x := y268_7) (by omega); have kx := clampI (x := x326) (by omega); rw [hgd1]; show _ = addF 31 D acc; rw [addF_new (fun h => by obtain ⟨j, hj⟩ := List.getElem?_of_mem h; have h8 := get_lt hj; exact in268 j acc (by omega) hj rfl) (by omega), ← hD]; refine rw_app (by omega) io28 (fun j hj => by rw [ew264, pk_un (by omega)]) hsz ?_; rw [ew264, pk_us]; exact a4
                        have qq1 : (∀ j, j < Int32.toNatClampNeg x326 → Int32.toNatClampNeg (w264 j) ≤ 24) := by have kx := clampI (x := x326) (by omega); intro j hj; by_cases q9 : j = Int32.toNatClampNeg (g 34); (rw [q9, ew264, pk_us]; omega); (rw [ew264, pk_un q9]; exact hsz j (by omega))
                        exact pw_some ⟨qq0, qq1⟩
                      · have c274 := z_nle c274
                        have k7 := clampI (x := y268_7) (by omega)
                        have hsj := hsz (Int32.toNatClampNeg y268_7) (by omega)
                        have hw9 : w264 (Int32.toNatClampNeg y268_7) = (F 33) (Int32.toNatClampNeg y268_7) := by rw [ew264, pk_un (by omega)]
                        have hDk : D[Int32.toNatClampNeg y268_7]? = some (wdl d28_F32 (24 * Int32.toNatClampNeg y268_7) (Int32.toNatClampNeg ((F 33) (Int32.toNatClampNeg y268_7)))) := by rw [← hD]; rw [rw_at (by omega)]; exact congrArg some (wdl_ext (fun i hi => (io28 _ (by omega)).symm))
                        have hbs := hF101 (Int32.toNatClampNeg y268_7)
                        have f107 : (24 * y268_7).toInt = 24 * y268_7.toInt := z_muld (by decide +kernel) (by omega) (by omega)
                        refine pw_if (fun hb292 => ?_)
                        obtain ⟨hbl292, hbr292⟩ := hb292
                        have f108 := hF101 (Int32.toNatClampNeg y268_7)
                        have f109 : (24 * (g 34)).toInt = 24 * (g 34).toInt := z_muld (by decide +kernel) (by omega) (by omega)
                        have hpr306_0 : (0 ≤ (24 * y268_7).toInt ∧ (24 * y268_7).toInt + (w264 (Int32.toNatClampNeg y268_7)).toInt ≤ 720) := by first | assumption | omega
                        have hpr306_1 : 720 ≤ 500000 := by first | assumption | omega
                        have hpr306_2 : (0 ≤ (24 * (g 34)).toInt ∧ (24 * (g 34)).toInt + x236_5.toInt ≤ 720) := by first | assumption | omega
                        have hpr306_3 : 720 ≤ 500000 := by first | assumption | omega
                        refine pw_b1 (fun r306 hc306 => ?_)
                        have hq306 := wp_at (ok_sameBytes d28_F32 720 (24 * y268_7) (w264 (Int32.toNatClampNeg y268_7)) d28_F32 720 (24 * (g 34)) x236_5 hpr306_0 hpr306_1 hpr306_2 hpr306_3) hc306
                        have f110 : (0 ≤ r306.toInt ∧ r306.toInt ≤ 1) := hq306
                        clear hq306
                        have h8306_h02 : 0 ≤ (w264 (Int32.toNatClampNeg y268_7)).toInt := by omega
                        have h8306_h05 : 0 ≤ x236_5.toInt := by omega
                        have hx306 := pwq (fn_sameBytes d28_F32 720 (24 * y268_7) (w264 (Int32.toNatClampNeg y268_7)) d28_F32 720 (24 * (g 34)) x236_5 hpr306_0 hpr306_1 hpr306_2 hpr306_3 h8306_h02 h8306_h05) hc306
                        obtain ⟨p306_0, p306_1⟩ : (id ((r306.toInt ≠ 0 → wdl d28_F32 (Int32.toNatClampNeg (24 * y268_7)) (Int32.toNatClampNeg (w264 (Int32.toNatClampNeg y268_7))) = wdl d28_F32 (Int32.toNatClampNeg (24 * (g 34))) (Int32.toNatClampNeg x236_5)))) ∧ (id ((r306.toInt = 0 → wdl d28_F32 (Int32.toNatClampNeg (24 * y268_7)) (Int32.toNatClampNeg (w264 (Int32.toNatClampNeg y268_7))) ≠ wdl d28_F32 (Int32.toNatClampNeg (24 * (g 34))) (Int32.toNatClampNeg x236_5)))) := hx306
                        have ki := clampI (x := 24 * y268_7) (by omega)
                        have kj := clampI (x := 24 * (g 34)) (by omega)
                        rw [hw9, show Int32.toNatClampNeg (24 * y268_7) = 24 * Int32.toNatClampNeg y268_7 by omega, show Int32.toNatClampNeg (24 * (g 34)) = 24 * Int32.toNatClampNeg (g 34) by omega, a4] at p306_0 p306_1
                        refine pw_ite (fun c309 => ?_) (fun c309 => ?_)
                        · have c309 := congrArg Int32.toInt c309
                          have f111 : (y268_7 + 1).toInt = y268_7.toInt + (1) := z_addc (by decide +kernel) (by omega) (by omega)
                          have iv268_0 : (0 ≤ (y268_7 + 1).toInt ∧ (y268_7 + 1).toInt ≤ 30) := by omega
                          have iv268_1 : (y268_7 + 1).toInt ≤ (g 34).toInt := by omega
                          have iv268_2 : (∀ j x, j < Int32.toNatClampNeg (y268_7 + 1) → D[j]? = some x → x ≠ acc) := by have k7 := clampI (x := y268_7) (by omega); have k8 := clampI (x := y268_7 + 1) (by omega); intro j x hj hx; by_cases q9 : j = Int32.toNatClampNeg y268_7; (subst q9; rw [hDk] at hx; cases hx; exact p306_1 (by omega)); (exact in268 j x (by omega) hx)
                          exact ih268 (y268_7 + 1) iv268_0 iv268_1 iv268_2
                        · have c309 := z_ne c309
                          have qq0 : rwW (g 34) d28_F32 w264 24 = (gdF (mkA ls [] w)).foldl (addF 31) D := by rw [hgd1]; show _ = addF 31 D acc; rw [addF_in (by have h9 := List.mem_of_getElem? hDk; rw [p306_0 (by omega)] at h9; exact h9)]; rw [rw_low io28 (fun j hj => by rw [ew264, pk_un (by omega)]) hsz]; exact hD
                          have qq1 : (∀ j, j < Int32.toNatClampNeg (g 34) → Int32.toNatClampNeg (w264 j) ≤ 24) := by intro j hj; rw [ew264, pk_un (by omega)]; exact hsz j hj
                          exact pw_some ⟨qq0, qq1⟩
                  exact lp268 NN (0 : Int32) (show (0 ≤ (0 : Int32).toInt ∧ (0 : Int32).toInt ≤ 30) from by omega) (show (0 : Int32).toInt ≤ (g 34).toInt from by omega) (show (∀ j x, j < Int32.toNatClampNeg (0 : Int32) → D[j]? = some x → x ≠ acc) from by intro j x hj hx; exact absurd hj (Nat.not_lt_zero _))
                · have c250 := z_nle c250
                  refine pw_j0 ej253 ?_
                  have qq0 : rwW (g 34) d28_F32 (F 33) 24 = (gdF (mkA ls [] w)).foldl (addF 31) D := by rcases im28 with ⟨_, acc, a1, a2, a3⟩ | ⟨h1, _⟩; (rw [a1, mkA_end (by have k7 := clampI (x := y28_7) (by omega); omega), gdF_bad (Or.inr (by omega))]; show _ = D; rw [rw_low io28 (fun _ _ => rfl) hsz]; exact hD); (exfalso; omega)
                  have qq1 : (∀ j, j < Int32.toNatClampNeg (g 34) → Int32.toNatClampNeg ((F 33) j) ≤ 24) := by exact hsz
                  exact pw_some ⟨qq0, qq1⟩
          · have c36 := z_ne c36
            obtain ⟨g0, acc, a1, a2, a3⟩ := Or.resolve_right im28 (fun q => by have q9 := q.1; omega)
            have k7 := clampI (x := y28_7) (by omega)
            have k5 := clampI (x := y28_5) (by omega)
            have k4 := clampI (x := y28_4) (by omega)
            obtain ⟨x, hx⟩ := get_ex (l := w) (i := Int32.toNatClampNeg y28_7) (by omega)
            have hfa := flat_at w _ x hx
            rw [hfl] at hfa
            refine pw_jE (fun j63 ej63 => ?_)
            refine pw_ite (fun c41 => ?_) (fun c41 => ?_)
            · have c41 := congrArg Int32.toInt c41
              exfalso; omega
            · have c41 := z_ne c41
              have f112 : (24 * p1).toInt = 24 * p1.toInt := z_muld (by decide +kernel) (by omega) (by omega)
              have f113 : ((24 * p1) + y28_7).toInt = (24 * p1).toInt + y28_7.toInt := z_add (by omega) (by omega)
              refine pw_if (fun hb62 => ?_)
              obtain ⟨hbl62, hbr62⟩ := hb62
              have f114 := hzF25 (Int32.toNatClampNeg ((24 * p1) + y28_7))
              have hws := ws_step (P := p1) (k := y28_7) (ix := ((24 * p1) + y28_7)) hzF25 hp3 (by omega) (by omega) (by omega) (by omega) (by omega)
              refine pw_j1 ej63 (fun t63_0 et63_0 => ?_)
              have et63_0 := et63_0.symm
              have f_t63_0 : t63_0.toInt = ((F 25) (Int32.toNatClampNeg ((24 * p1) + y28_7))).toInt := by rw [et63_0]
              have hsx : t63_0.toInt = ((x.length : Nat) : Int) := by rcases hwy with ⟨h8, h9⟩ | ⟨h8, _, h9, _⟩; (first | (rw [h9] at hx; have h7 := get_lt hx; have h6 : Int32.toNatClampNeg y28_7 = 0 := (by have h5 : ([W] : List Wd).length = 1 := rfl; omega); rw [h6] at hx; cases hx; omega) | (exfalso; omega)); (first | (exfalso; omega) | (have h7 := h9 _ _ hx; have cp1 := clampI (x := p1) (by omega); have ci := clampI (x := (24 * p1) + y28_7) (by omega); rw [show 24 * Int32.toNatClampNeg p1 + Int32.toNatClampNeg y28_7 = Int32.toNatClampNeg ((24 * p1) + y28_7) by omega] at h7; omega))
              have hxl : sumN (w.take (Int32.toNatClampNeg y28_7)) + x.length ≤ W.length := by rw [← hfl]; exact sum_le hx
              have hif := if28
              have hxe : wdl (F 22) (Int32.toNatClampNeg y28_4) x.length = x := by rw [← hW, wdl_dt (by omega), Nat.zero_add, show sumN (w.take (Int32.toNatClampNeg y28_7)) = Int32.toNatClampNeg y28_4 by omega] at hfa; exact hfa
              refine pw_jE (fun k98 ek98 => ?_)
              have lp68 : ∀ (n68 : Nat) (y68_9 : Int32) (d68_F29 : (Nat → Int32)), 0 ≤ y68_9.toInt → y68_9.toInt ≤ t63_0.toInt → (wdl d68_F29 0 (Int32.toNatClampNeg y68_9) = wdl (F 22) (Int32.toNatClampNeg y28_4) (Int32.toNatClampNeg y68_9)) → pw (L_makeForm_68 F y28_4 t63_0 k98 n68 y68_9 d68_F29) (QF_makeForm g F p0 p1 ls W w D) := by
                intro n68
                induction n68 with
                | zero => intros; exact pw_none
                | succ n68 ih68 =>
                  intro y68_9 d68_F29 f115 f116 ip68
                  show pw (B_makeForm_68 F y28_4 t63_0 k98 (L_makeForm_68 F y28_4 t63_0 k98 n68) y68_9 d68_F29) _
                  unfold B_makeForm_68
                  refine pw_ite (fun c72 => ?_) (fun c72 => ?_)
                  · have c72 := (z_le _ _).mp c72
                    refine pw_j1 ek98 (fun z98_1 ez98_1 => ?_)
                    subst ez98_1
                    have hg117 : ((0) ≤ t63_0.toInt ∧ t63_0.toInt ≤ 384) := ⟨by omega, by omega⟩
                    have f118 : (y28_4 + t63_0).toInt = y28_4.toInt + t63_0.toInt := z_add (by omega) (by omega)
                    refine pw_vl (fun x109 ex109 => ?_)
                    have f119 : x109.toInt = (y28_4 + t63_0).toInt := congrArg Int32.toInt ex109
                    have f120 : (40 * p0).toInt = 40 * p0.toInt := z_muld (by decide +kernel) (by omega) (by omega)
                    refine pw_vl (fun x115 ex115 => ?_)
                    have f121 : x115.toInt = (40 * p0).toInt := congrArg Int32.toInt ex115
                    refine pw_jE (fun k166 ek166 => ?_)
                    have lp117 : ∀ (n117 : Nat) (y117_6 : Int32) (y117_9 : Int32) (d117_g30 : Int32) (d117_g36 : Int32) (d117_F29 : (Nat → Int32)) (d117_F31 : (Nat → Int32)), ((0) ≤ d117_g30.toInt ∧ d117_g30.toInt ≤ 384) → ((0) ≤ d117_g36.toInt ∧ d117_g36.toInt ≤ 1) → (40 * p0.toInt ≤ y117_9.toInt ∧ y117_9.toInt ≤ 40 * p0.toInt + 40) → (y117_6.toInt = 0 ∨ y117_6.toInt = 1) → (y117_6.toInt ≠ 0 → d117_g30.toInt ≤ 24) → y117_9.toInt ≤ 40 * p0.toInt + ((F 11) (Int32.toNatClampNeg p0)).toInt → (id ((y117_6.toInt ≠ 0 ∧ ∃ W1, BW W1 ∧ runL ls x = runL (ls.drop (Int32.toNatClampNeg y117_9 - 40 * Int32.toNatClampNeg p0)) W1 ∧ wdl d117_F29 0 (Int32.toNatClampNeg d117_g30) = W1 ∧ d117_g30.toInt ≤ 24) ∨ (y117_6.toInt = 0 ∧ runL ls x = none ∧ 24 < d117_g30.toInt))) → pw (L_makeForm_117 g F p0 d28_F32 k166 n117 y117_6 y117_9 d117_g30 d117_g36 d117_F29 d117_F31) (QF_makeForm g F p0 p1 ls W w D) := by
                      intro n117
                      induction n117 with
                      | zero => intros; exact pw_none
                      | succ n117 ih117 =>
                        intro y117_6 y117_9 d117_g30 d117_g36 d117_F29 d117_F31 hg122 hg123 f124 f125 f126 f127 il117
                        show pw (B_makeForm_117 g F p0 d28_F32 k166 (L_makeForm_117 g F p0 d28_F32 k166 n117) y117_6 y117_9 d117_g30 d117_g36 d117_F29 d117_F31) _
                        unfold B_makeForm_117
                        refine pw_if (fun hb128 => ?_)
                        obtain ⟨hbl128, hbr128⟩ := hb128
                        have f129 := hzF11 (Int32.toNatClampNeg p0)
                        have f130 : ((40 * p0) + ((F 11) (Int32.toNatClampNeg p0))).toInt = (40 * p0).toInt + ((F 11) (Int32.toNatClampNeg p0)).toInt := z_add (by omega) (by omega)
                        refine pw_ite (fun c130 => ?_) (fun c130 => ?_)
                        · have c130 := (z_le _ _).mp c130
                          refine pw_j5 ek166 (fun x166_6 ex166_6 z166_1 ez166_1 z166_2 ez166_2 z166_3 ez166_3 z166_4 ez166_4 => ?_)
                          subst ez166_1 ez166_2 ez166_3 ez166_4
                          have ex166_6 := ex166_6.symm
                          have f_x166_6 : x166_6.toInt = y117_6.toInt := by rw [ex166_6]
                          have hrn : id ((x166_6.toInt ≠ 0 ∧ ∃ W1, runL ls x = some W1 ∧ wdl d117_F29 0 (Int32.toNatClampNeg d117_g30) = W1 ∧ BW W1) ∨ (x166_6.toInt = 0 ∧ runL ls x = none)) := by rcases il117 with ⟨h1, W1, h2, h3, h4, h5⟩ | ⟨h1, h2, _⟩; (first | (refine Or.inl ⟨by omega, W1, ?_, h4, h2⟩; rw [h3]; exact runL_end (by have k9 := clampI (x := y117_9) (by omega); omega)) | (exfalso; omega)); (exact Or.inr ⟨by omega, h2⟩)
                          have hgd : x166_6.toInt = 0 → 24 < d117_g30.toInt := fun h9 => by rcases il117 with ⟨h1, _⟩ | ⟨_, _, h1⟩; (exfalso; omega); (exact h1)
                          have hb30 := hg122
                          have c30 := clampI (x := d117_g30) (by omega)
                          refine pw_jE (fun k221 ek221 => ?_)
                          have lp169 : ∀ (n169 : Nat) (y169_9 : Int32) (d169_F32 : (Nat → Int32)), 0 ≤ y169_9.toInt → y169_9.toInt ≤ d117_g30.toInt → (∀ q, q < 24 * (Int32.toNatClampNeg (g 34)) + Int32.toNatClampNeg y28_5 → d169_F32 q = d28_F32 q) → (wdl d169_F32 (24 * (Int32.toNatClampNeg (g 34)) + Int32.toNatClampNeg y28_5) (Int32.toNatClampNeg y169_9) = wdl d117_F29 0 (Int32.toNatClampNeg y169_9)) → pw (L_makeForm_169 g y28_5 d117_g30 d117_F29 k221 n169 y169_9 d169_F32) (QF_makeForm g F p0 p1 ls W w D) := by
                            intro n169
                            induction n169 with
                            | zero => intros; exact pw_none
                            | succ n169 ih169 =>
                              intro y169_9 d169_F32 f131 f132 ik169 ij169
                              show pw (B_makeForm_169 g y28_5 d117_g30 d117_F29 k221 (L_makeForm_169 g y28_5 d117_g30 d117_F29 k221 n169) y169_9 d169_F32) _
                              unfold B_makeForm_169
                              refine pw_ite (fun c175 => ?_) (fun c175 => ?_)
                              · have c175 := (z_le _ _).mp c175
                                refine pw_j1 ek221 (fun z221_1 ez221_1 => ?_)
                                subst ez221_1
                                have f133 : (y28_5 + d117_g30).toInt = y28_5.toInt + d117_g30.toInt := z_add (by omega) (by omega)
                                refine pw_vl (fun x228 ex228 => ?_)
                                have f134 : x228.toInt = (y28_5 + d117_g30).toInt := congrArg Int32.toInt ex228
                                have f135 : (y28_7 + 1).toInt = y28_7.toInt + (1) := z_addc (by decide +kernel) (by omega) (by omega)
                                have iv28_0 : (0 ≤ x109.toInt ∧ x109.toInt ≤ 24) := by first | omega | (intro h9; rw [show (y28_7 + 1).toInt.toNat = y28_7.toInt.toNat + 1 by omega]; omega)
                                have iv28_1 : (0 ≤ x228.toInt ∧ x228.toInt ≤ 384 * (y28_7 + 1).toInt) := by first | omega | (intro h9; rw [show (y28_7 + 1).toInt.toNat = y28_7.toInt.toNat + 1 by omega]; omega)
                                have iv28_2 : (0 ≤ (y28_7 + 1).toInt ∧ (y28_7 + 1).toInt ≤ 24) := by first | omega | (intro h9; rw [show (y28_7 + 1).toInt.toNat = y28_7.toInt.toNat + 1 by omega]; omega)
                                have iv28_3 : (x166_6.toInt = 0 ∨ x166_6.toInt = 1) := by first | omega | (intro h9; rw [show (y28_7 + 1).toInt.toNat = y28_7.toInt.toNat + 1 by omega]; omega)
                                have iv28_4 : (p1.toInt = -1 → (y28_7 + 1).toInt = 0 → x109.toInt = 0) := by first | omega | (intro h9; rw [show (y28_7 + 1).toInt.toNat = y28_7.toInt.toNat + 1 by omega]; omega)
                                have iv28_5 : (p1.toInt ≠ -1 → x109.toInt = psum (F 25) (24 * p1.toInt.toNat) (y28_7 + 1).toInt.toNat) := by first | omega | (intro h9; rw [show (y28_7 + 1).toInt.toNat = y28_7.toInt.toNat + 1 by omega]; omega)
                                have iv28_6 : (y28_7 + 1).toInt ≤ ((w.length : Nat) : Int) := by first | omega | (intro h9; rw [show (y28_7 + 1).toInt.toNat = y28_7.toInt.toNat + 1 by omega]; omega)
                                have iv28_7 : (x109.toInt = ((sumN (w.take (Int32.toNatClampNeg (y28_7 + 1))) : Nat) : Int)) := by have k8 := clampI (x := y28_7 + 1) (by omega); rw [show Int32.toNatClampNeg (y28_7 + 1) = Int32.toNatClampNeg y28_7 + 1 by omega, sum_s hx]; have h9 := if28; omega
                                have iv28_8 : (∀ q, q < 24 * (Int32.toNatClampNeg (g 34)) → d169_F32 q = (F 32) q) := by intro q hq; rw [ik169 q (by omega)]; exact io28 q hq
                                have iv28_9 : (id ((x166_6.toInt ≠ 0 ∧ ∃ acc, mkA ls [] w = mkA ls acc (w.drop (Int32.toNatClampNeg (y28_7 + 1))) ∧ x228.toInt = ((acc.length : Nat) : Int) ∧ (x228.toInt ≤ 24 → wdl d169_F32 (24 * (Int32.toNatClampNeg (g 34))) (Int32.toNatClampNeg x228) = acc)) ∨ (x166_6.toInt = 0 ∧ mkA ls [] w = none))) := by have k8 := clampI (x := y28_7 + 1) (by omega); have kx := clampI (x := x228) (by omega); rcases hrn with ⟨g1, W1, g2, g3, g4⟩ | ⟨g1, g2⟩; (have gl : W1.length = Int32.toNatClampNeg d117_g30 := (by rw [← g3]; exact wdl_len); refine Or.inl ⟨g1, acc ++ W1, ?_, ?_, fun h9 => ?_⟩; (rw [a1, mkA_yes hx g2, show Int32.toNatClampNeg (y28_7 + 1) = Int32.toNatClampNeg y28_7 + 1 by omega]); (rw [List.length_append]; omega); (rw [show Int32.toNatClampNeg x228 = Int32.toNatClampNeg y28_5 + Int32.toNatClampNeg d117_g30 by omega, ← wdl_app, wdl_ext (fun i hi => ik169 _ (by omega)), a3 (by omega)]; have h8 := ij169; rw [show Int32.toNatClampNeg y169_9 = Int32.toNatClampNeg d117_g30 by have k169 := clampI (x := y169_9) (by omega); omega] at h8; rw [h8, g3])); (exact Or.inr ⟨g1, by rw [a1]; exact mkA_no hx g2⟩)
                                exact ih28 x109 x228 x166_6 (y28_7 + 1) d117_g30 d117_g36 d117_F29 d117_F31 d169_F32 hg122 hg123 iv28_0 iv28_1 iv28_2 iv28_3 iv28_4 iv28_5 iv28_6 iv28_7 iv28_8 iv28_9
                              · have c175 := z_nle c175
                                have f136 : (y28_5 + d117_g30).toInt = y28_5.toInt + d117_g30.toInt := z_add (by omega) (by omega)
                                refine pw_ite (fun c187 => ?_) (fun c187 => ?_)
                                · have c187 := (z_lt _ _).mp c187
                                  refine pw_j1 ek221 (fun z221_1 ez221_1 => ?_)
                                  subst ez221_1
                                  refine pw_vl (fun x228 ex228 => ?_)
                                  have f138 : x228.toInt = (y28_5 + d117_g30).toInt := congrArg Int32.toInt ex228
                                  have f139 : (y28_7 + 1).toInt = y28_7.toInt + (1) := z_addc (by decide +kernel) (by omega) (by omega)
                                  have iv28_0 : (0 ≤ x109.toInt ∧ x109.toInt ≤ 24) := by first | omega | (intro h9; rw [show (y28_7 + 1).toInt.toNat = y28_7.toInt.toNat + 1 by omega]; omega)
                                  have iv28_1 : (0 ≤ x228.toInt ∧ x228.toInt ≤ 384 * (y28_7 + 1).toInt) := by first | omega | (intro h9; rw [show (y28_7 + 1).toInt.toNat = y28_7.toInt.toNat + 1 by omega]; omega)
                                  have iv28_2 : (0 ≤ (y28_7 + 1).toInt ∧ (y28_7 + 1).toInt ≤ 24) := by first | omega | (intro h9; rw [show (y28_7 + 1).toInt.toNat = y28_7.toInt.toNat + 1 by omega]; omega)
                                  have iv28_3 : (x166_6.toInt = 0 ∨ x166_6.toInt = 1) := by first | omega | (intro h9; rw [show (y28_7 + 1).toInt.toNat = y28_7.toInt.toNat + 1 by omega]; omega)
                                  have iv28_4 : (p1.toInt = -1 → (y28_7 + 1).toInt = 0 → x109.toInt = 0) := by first | omega | (intro h9; rw [show (y28_7 + 1).toInt.toNat = y28_7.toInt.toNat + 1 by omega]; omega)
                                  have iv28_5 : (p1.toInt ≠ -1 → x109.toInt = psum (F 25) (24 * p1.toInt.toNat) (y28_7 + 1).toInt.toNat) := by first | omega | (intro h9; rw [show (y28_7 + 1).toInt.toNat = y28_7.toInt.toNat + 1 by omega]; omega)
                                  have iv28_6 : (y28_7 + 1).toInt ≤ ((w.length : Nat) : Int) := by first | omega | (intro h9; rw [show (y28_7 + 1).toInt.toNat = y28_7.toInt.toNat + 1 by omega]; omega)
                                  have iv28_7 : (x109.toInt = ((sumN (w.take (Int32.toNatClampNeg (y28_7 + 1))) : Nat) : Int)) := by have k8 := clampI (x := y28_7 + 1) (by omega); rw [show Int32.toNatClampNeg (y28_7 + 1) = Int32.toNatClampNeg y28_7 + 1 by omega, sum_s hx]; have h9 := if28; omega
                                  have iv28_8 : (∀ q, q < 24 * (Int32.toNatClampNeg (g 34)) → d169_F32 q = (F 32) q) := by intro q hq; rw [ik169 q (by omega)]; exact io28 q hq
                                  have iv28_9 : (id ((x166_6.toInt ≠ 0 ∧ ∃ acc, mkA ls [] w = mkA ls acc (w.drop (Int32.toNatClampNeg (y28_7 + 1))) ∧ x228.toInt = ((acc.length : Nat) : Int) ∧ (x228.toInt ≤ 24 → wdl d169_F32 (24 * (Int32.toNatClampNeg (g 34))) (Int32.toNatClampNeg x228) = acc)) ∨ (x166_6.toInt = 0 ∧ mkA ls [] w = none))) := by have k8 := clampI (x := y28_7 + 1) (by omega); have kx := clampI (x := x228) (by omega); rcases hrn with ⟨g1, W1, g2, g3, g4⟩ | ⟨g1, g2⟩; (have gl : W1.length = Int32.toNatClampNeg d117_g30 := (by rw [← g3]; exact wdl_len); refine Or.inl ⟨g1, acc ++ W1, ?_, ?_, fun h9 => ?_⟩; (rw [a1, mkA_yes hx g2, show Int32.toNatClampNeg (y28_7 + 1) = Int32.toNatClampNeg y28_7 + 1 by omega]); (rw [List.length_append]; omega); (rw [show Int32.toNatClampNeg x228 = Int32.toNatClampNeg y28_5 + Int32.toNatClampNeg d117_g30 by omega, ← wdl_app, wdl_ext (fun i hi => ik169 _ (by omega)), a3 (by omega)]; have h8 := ij169; rw [show Int32.toNatClampNeg y169_9 = Int32.toNatClampNeg d117_g30 by have k169 := clampI (x := y169_9) (by omega); omega] at h8; rw [h8, g3])); (exact Or.inr ⟨g1, by rw [a1]; exact mkA_no hx g2⟩)
                                  exact ih28 x109 x228 x166_6 (y28_7 + 1) d117_g30 d117_g36 d117_F29 d117_F31 d169_F32 hg122 hg123 iv28_0 iv28_1 iv28_2 iv28_3 iv28_4 iv28_5 iv28_6 iv28_7 iv28_8 iv28_9
                                · have c187 := z_nlt c187
                                  have f140 : (24 * (g 34)).toInt = 24 * (g 34).toInt := z_muld (by decide +kernel) (by omega) (by omega)
                                  have f141 : ((24 * (g 34)) + y28_5).toInt = (24 * (g 34)).toInt + y28_5.toInt := z_add (by omega) (by omega)
                                  have f142 : (((24 * (g 34)) + y28_5) + y169_9).toInt = ((24 * (g 34)) + y28_5).toInt + y169_9.toInt := z_add (by omega) (by omega)
                                  refine pw_if (fun hb213 => ?_)
                                  obtain ⟨hbl213, hbr213⟩ := hb213
                                  refine pw_if (fun hb214 => ?_)
                                  obtain ⟨hbl214, hbr214⟩ := hb214
                                  refine pw_vl (fun w214 ew214 => ?_)
                                  have f143 : (y169_9 + 1).toInt = y169_9.toInt + (1) := z_addc (by decide +kernel) (by omega) (by omega)
                                  have iv169_0 : 0 ≤ (y169_9 + 1).toInt := by omega
                                  have iv169_1 : (y169_9 + 1).toInt ≤ d117_g30.toInt := by omega
                                  have iv169_2 : (∀ q, q < 24 * (Int32.toNatClampNeg (g 34)) + Int32.toNatClampNeg y28_5 → w214 q = d28_F32 q) := by have k9 := clampI (x := y169_9) (by omega); have ki := clampI (x := ((24 * (g 34)) + y28_5) + y169_9) (by omega); intro q hq; rw [ew214, pk_un (by omega)]; exact ik169 q hq
                                  have iv169_3 : (wdl w214 (24 * (Int32.toNatClampNeg (g 34)) + Int32.toNatClampNeg y28_5) (Int32.toNatClampNeg (y169_9 + 1)) = wdl d117_F29 0 (Int32.toNatClampNeg (y169_9 + 1))) := by have k9 := clampI (x := y169_9) (by omega); have k10 := clampI (x := y169_9 + 1) (by omega); have ki := clampI (x := ((24 * (g 34)) + y28_5) + y169_9) (by omega); obtain ⟨_, W1, _, g3, g4⟩ := Or.resolve_right hrn (fun q => by have q9 := hgd q.1; omega); rw [ew214, show Int32.toNatClampNeg (y169_9 + 1) = Int32.toNatClampNeg y169_9 + 1 by omega, wdl_s1, wdl_s1, show 24 * Int32.toNatClampNeg (g 34) + Int32.toNatClampNeg y28_5 + Int32.toNatClampNeg y169_9 = Int32.toNatClampNeg (((24 * (g 34)) + y28_5) + y169_9) by omega, pk_us, Nat.zero_add, bw_at g4 g3 (by omega), wdl_ext (fun i hi => pk_un (by omega)), ij169]
                                  exact ih169 (y169_9 + 1) w214 iv169_0 iv169_1 iv169_2 iv169_3
                          exact lp169 NN (0 : Int32) d28_F32 (show 0 ≤ (0 : Int32).toInt from by omega) (show (0 : Int32).toInt ≤ d117_g30.toInt from by omega) (show (∀ q, q < 24 * (Int32.toNatClampNeg (g 34)) + Int32.toNatClampNeg y28_5 → d28_F32 q = d28_F32 q) from by intro q hq; rfl) (show (wdl d28_F32 (24 * (Int32.toNatClampNeg (g 34)) + Int32.toNatClampNeg y28_5) (Int32.toNatClampNeg (0 : Int32)) = wdl d117_F29 0 (Int32.toNatClampNeg (0 : Int32))) from by rfl)
                        · have c130 := z_nle c130
                          refine pw_ite (fun c135 => ?_) (fun c135 => ?_)
                          · have c135 := congrArg Int32.toInt c135
                            refine pw_j5 ek166 (fun x166_6 ex166_6 z166_1 ez166_1 z166_2 ez166_2 z166_3 ez166_3 z166_4 ez166_4 => ?_)
                            subst ez166_1 ez166_2 ez166_3 ez166_4
                            have ex166_6 := ex166_6.symm
                            have f_x166_6 : x166_6.toInt = y117_6.toInt := by rw [ex166_6]
                            have hrn : id ((x166_6.toInt ≠ 0 ∧ ∃ W1, runL ls x = some W1 ∧ wdl d117_F29 0 (Int32.toNatClampNeg d117_g30) = W1 ∧ BW W1) ∨ (x166_6.toInt = 0 ∧ runL ls x = none)) := by rcases il117 with ⟨h1, W1, h2, h3, h4, h5⟩ | ⟨h1, h2, _⟩; (first | (refine Or.inl ⟨by omega, W1, ?_, h4, h2⟩; rw [h3]; exact runL_end (by have k9 := clampI (x := y117_9) (by omega); omega)) | (exfalso; omega)); (exact Or.inr ⟨by omega, h2⟩)
                            have hgd : x166_6.toInt = 0 → 24 < d117_g30.toInt := fun h9 => by rcases il117 with ⟨h1, _⟩ | ⟨_, _, h1⟩; (exfalso; omega); (exact h1)
                            have hb30 := hg122
                            have c30 := clampI (x := d117_g30) (by omega)
                            refine pw_jE (fun k221 ek221 => ?_)
                            have lp169 : ∀ (n169 : Nat) (y169_9 : Int32) (d169_F32 : (Nat → Int32)), 0 ≤ y169_9.toInt → y169_9.toInt ≤ d117_g30.toInt → (∀ q, q < 24 * (Int32.toNatClampNeg (g 34)) + Int32.toNatClampNeg y28_5 → d169_F32 q = d28_F32 q) → (wdl d169_F32 (24 * (Int32.toNatClampNeg (g 34)) + Int32.toNatClampNeg y28_5) (Int32.toNatClampNeg y169_9) = wdl d117_F29 0 (Int32.toNatClampNeg y169_9)) → pw (L_makeForm_169 g y28_5 d117_g30 d117_F29 k221 n169 y169_9 d169_F32) (QF_makeForm g F p0 p1 ls W w D) := by
                              intro n169
                              induction n169 with
                              | zero => intros; exact pw_none
                              | succ n169 ih169 =>
                                intro y169_9 d169_F32 f144 f145 ik169 ij169
                                show pw (B_makeForm_169 g y28_5 d117_g30 d117_F29 k221 (L_makeForm_169 g y28_5 d117_g30 d117_F29 k221 n169) y169_9 d169_F32) _
                                unfold B_makeForm_169
                                refine pw_ite (fun c175 => ?_) (fun c175 => ?_)
                                · have c175 := (z_le _ _).mp c175
                                  refine pw_j1 ek221 (fun z221_1 ez221_1 => ?_)
                                  subst ez221_1
                                  have f146 : (y28_5 + d117_g30).toInt = y28_5.toInt + d117_g30.toInt := z_add (by omega) (by omega)
                                  refine pw_vl (fun x228 ex228 => ?_)
                                  have f147 : x228.toInt = (y28_5 + d117_g30).toInt := congrArg Int32.toInt ex228
                                  have f148 : (y28_7 + 1).toInt = y28_7.toInt + (1) := z_addc (by decide +kernel) (by omega) (by omega)
                                  have iv28_0 : (0 ≤ x109.toInt ∧ x109.toInt ≤ 24) := by first | omega | (intro h9; rw [show (y28_7 + 1).toInt.toNat = y28_7.toInt.toNat + 1 by omega]; omega)
                                  have iv28_1 : (0 ≤ x228.toInt ∧ x228.toInt ≤ 384 * (y28_7 + 1).toInt) := by first | omega | (intro h9; rw [show (y28_7 + 1).toInt.toNat = y28_7.toInt.toNat + 1 by omega]; omega)
                                  have iv28_2 : (0 ≤ (y28_7 + 1).toInt ∧ (y28_7 + 1).toInt ≤ 24) := by first | omega | (intro h9; rw [show (y28_7 + 1).toInt.toNat = y28_7.toInt.toNat + 1 by omega]; omega)
                                  have iv28_3 : (x166_6.toInt = 0 ∨ x166_6.toInt = 1) := by first | omega | (intro h9; rw [show (y28_7 + 1).toInt.toNat = y28_7.toInt.toNat + 1 by omega]; omega)
                                  have iv28_4 : (p1.toInt = -1 → (y28_7 + 1).toInt = 0 → x109.toInt = 0) := by first | omega | (intro h9; rw [show (y28_7 + 1).toInt.toNat = y28_7.toInt.toNat + 1 by omega]; omega)
                                  have iv28_5 : (p1.toInt ≠ -1 → x109.toInt = psum (F 25) (24 * p1.toInt.toNat) (y28_7 + 1).toInt.toNat) := by first | omega | (intro h9; rw [show (y28_7 + 1).toInt.toNat = y28_7.toInt.toNat + 1 by omega]; omega)
                                  have iv28_6 : (y28_7 + 1).toInt ≤ ((w.length : Nat) : Int) := by first | omega | (intro h9; rw [show (y28_7 + 1).toInt.toNat = y28_7.toInt.toNat + 1 by omega]; omega)
                                  have iv28_7 : (x109.toInt = ((sumN (w.take (Int32.toNatClampNeg (y28_7 + 1))) : Nat) : Int)) := by have k8 := clampI (x := y28_7 + 1) (by omega); rw [show Int32.toNatClampNeg (y28_7 + 1) = Int32.toNatClampNeg y28_7 + 1 by omega, sum_s hx]; have h9 := if28; omega
                                  have iv28_8 : (∀ q, q < 24 * (Int32.toNatClampNeg (g 34)) → d169_F32 q = (F 32) q) := by intro q hq; rw [ik169 q (by omega)]; exact io28 q hq
                                  have iv28_9 : (id ((x166_6.toInt ≠ 0 ∧ ∃ acc, mkA ls [] w = mkA ls acc (w.drop (Int32.toNatClampNeg (y28_7 + 1))) ∧ x228.toInt = ((acc.length : Nat) : Int) ∧ (x228.toInt ≤ 24 → wdl d169_F32 (24 * (Int32.toNatClampNeg (g 34))) (Int32.toNatClampNeg x228) = acc)) ∨ (x166_6.toInt = 0 ∧ mkA ls [] w = none))) := by have k8 := clampI (x := y28_7 + 1) (by omega); have kx := clampI (x := x228) (by omega); rcases hrn with ⟨g1, W1, g2, g3, g4⟩ | ⟨g1, g2⟩; (have gl : W1.length = Int32.toNatClampNeg d117_g30 := (by rw [← g3]; exact wdl_len); refine Or.inl ⟨g1, acc ++ W1, ?_, ?_, fun h9 => ?_⟩; (rw [a1, mkA_yes hx g2, show Int32.toNatClampNeg (y28_7 + 1) = Int32.toNatClampNeg y28_7 + 1 by omega]); (rw [List.length_append]; omega); (rw [show Int32.toNatClampNeg x228 = Int32.toNatClampNeg y28_5 + Int32.toNatClampNeg d117_g30 by omega, ← wdl_app, wdl_ext (fun i hi => ik169 _ (by omega)), a3 (by omega)]; have h8 := ij169; rw [show Int32.toNatClampNeg y169_9 = Int32.toNatClampNeg d117_g30 by have k169 := clampI (x := y169_9) (by omega); omega] at h8; rw [h8, g3])); (exact Or.inr ⟨g1, by rw [a1]; exact mkA_no hx g2⟩)
                                  exact ih28 x109 x228 x166_6 (y28_7 + 1) d117_g30 d117_g36 d117_F29 d117_F31 d169_F32 hg122 hg123 iv28_0 iv28_1 iv28_2 iv28_3 iv28_4 iv28_5 iv28_6 iv28_7 iv28_8 iv28_9
                                · have c175 := z_nle c175
                                  have f149 : (y28_5 + d117_g30).toInt = y28_5.toInt + d117_g30.toInt := z_add (by omega) (by omega)
                                  refine pw_ite (fun c187 => ?_) (fun c187 => ?_)
                                  · have c187 := (z_lt _ _).mp c187
                                    refine pw_j1 ek221 (fun z221_1 ez221_1 => ?_)
                                    subst ez221_1
                                    refine pw_vl (fun x228 ex228 => ?_)
                                    have f151 : x228.toInt = (y28_5 + d117_g30).toInt := congrArg Int32.toInt ex228
                                    have f152 : (y28_7 + 1).toInt = y28_7.toInt + (1) := z_addc (by decide +kernel) (by omega) (by omega)
                                    have iv28_0 : (0 ≤ x109.toInt ∧ x109.toInt ≤ 24) := by first | omega | (intro h9; rw [show (y28_7 + 1).toInt.toNat = y28_7.toInt.toNat + 1 by omega]; omega)
                                    have iv28_1 : (0 ≤ x228.toInt ∧ x228.toInt ≤ 384 * (y28_7 + 1).toInt) := by first | omega | (intro h9; rw [show (y28_7 + 1).toInt.toNat = y28_7.toInt.toNat + 1 by omega]; omega)
                                    have iv28_2 : (0 ≤ (y28_7 + 1).toInt ∧ (y28_7 + 1).toInt ≤ 24) := by first | omega | (intro h9; rw [show (y28_7 + 1).toInt.toNat = y28_7.toInt.toNat + 1 by omega]; omega)
                                    have iv28_3 : (x166_6.toInt = 0 ∨ x166_6.toInt = 1) := by first | omega | (intro h9; rw [show (y28_7 + 1).toInt.toNat = y28_7.toInt.toNat + 1 by omega]; omega)
                                    have iv28_4 : (p1.toInt = -1 → (y28_7 + 1).toInt = 0 → x109.toInt = 0) := by first | omega | (intro h9; rw [show (y28_7 + 1).toInt.toNat = y28_7.toInt.toNat + 1 by omega]; omega)
                                    have iv28_5 : (p1.toInt ≠ -1 → x109.toInt = psum (F 25) (24 * p1.toInt.toNat) (y28_7 + 1).toInt.toNat) := by first | omega | (intro h9; rw [show (y28_7 + 1).toInt.toNat = y28_7.toInt.toNat + 1 by omega]; omega)
                                    have iv28_6 : (y28_7 + 1).toInt ≤ ((w.length : Nat) : Int) := by first | omega | (intro h9; rw [show (y28_7 + 1).toInt.toNat = y28_7.toInt.toNat + 1 by omega]; omega)
                                    have iv28_7 : (x109.toInt = ((sumN (w.take (Int32.toNatClampNeg (y28_7 + 1))) : Nat) : Int)) := by have k8 := clampI (x := y28_7 + 1) (by omega); rw [show Int32.toNatClampNeg (y28_7 + 1) = Int32.toNatClampNeg y28_7 + 1 by omega, sum_s hx]; have h9 := if28; omega
                                    have iv28_8 : (∀ q, q < 24 * (Int32.toNatClampNeg (g 34)) → d169_F32 q = (F 32) q) := by intro q hq; rw [ik169 q (by omega)]; exact io28 q hq
                                    have iv28_9 : (id ((x166_6.toInt ≠ 0 ∧ ∃ acc, mkA ls [] w = mkA ls acc (w.drop (Int32.toNatClampNeg (y28_7 + 1))) ∧ x228.toInt = ((acc.length : Nat) : Int) ∧ (x228.toInt ≤ 24 → wdl d169_F32 (24 * (Int32.toNatClampNeg (g 34))) (Int32.toNatClampNeg x228) = acc)) ∨ (x166_6.toInt = 0 ∧ mkA ls [] w = none))) := by have k8 := clampI (x := y28_7 + 1) (by omega); have kx := clampI (x := x228) (by omega); rcases hrn with ⟨g1, W1, g2, g3, g4⟩ | ⟨g1, g2⟩; (have gl : W1.length = Int32.toNatClampNeg d117_g30 := (by rw [← g3]; exact wdl_len); refine Or.inl ⟨g1, acc ++ W1, ?_, ?_, fun h9 => ?_⟩; (rw [a1, mkA_yes hx g2, show Int32.toNatClampNeg (y28_7 + 1) = Int32.toNatClampNeg y28_7 + 1 by omega]); (rw [List.length_append]; omega); (rw [show Int32.toNatClampNeg x228 = Int32.toNatClampNeg y28_5 + Int32.toNatClampNeg d117_g30 by omega, ← wdl_app, wdl_ext (fun i hi => ik169 _ (by omega)), a3 (by omega)]; have h8 := ij169; rw [show Int32.toNatClampNeg y169_9 = Int32.toNatClampNeg d117_g30 by have k169 := clampI (x := y169_9) (by omega); omega] at h8; rw [h8, g3])); (exact Or.inr ⟨g1, by rw [a1]; exact mkA_no hx g2⟩)
                                    exact ih28 x109 x228 x166_6 (y28_7 + 1) d117_g30 d117_g36 d117_F29 d117_F31 d169_F32 hg122 hg123 iv28_0 iv28_1 iv28_2 iv28_3 iv28_4 iv28_5 iv28_6 iv28_7 iv28_8 iv28_9
                                  · have c187 := z_nlt c187
                                    have f153 : (24 * (g 34)).toInt = 24 * (g 34).toInt := z_muld (by decide +kernel) (by omega) (by omega)
                                    have f154 : ((24 * (g 34)) + y28_5).toInt = (24 * (g 34)).toInt + y28_5.toInt := z_add (by omega) (by omega)
                                    have f155 : (((24 * (g 34)) + y28_5) + y169_9).toInt = ((24 * (g 34)) + y28_5).toInt + y169_9.toInt := z_add (by omega) (by omega)
                                    refine pw_if (fun hb213 => ?_)
                                    obtain ⟨hbl213, hbr213⟩ := hb213
                                    refine pw_if (fun hb214 => ?_)
                                    obtain ⟨hbl214, hbr214⟩ := hb214
                                    refine pw_vl (fun w214 ew214 => ?_)
                                    have f156 : (y169_9 + 1).toInt = y169_9.toInt + (1) := z_addc (by decide +kernel) (by omega) (by omega)
                                    have iv169_0 : 0 ≤ (y169_9 + 1).toInt := by omega
                                    have iv169_1 : (y169_9 + 1).toInt ≤ d117_g30.toInt := by omega
                                    have iv169_2 : (∀ q, q < 24 * (Int32.toNatClampNeg (g 34)) + Int32.toNatClampNeg y28_5 → w214 q = d28_F32 q) := by have k9 := clampI (x := y169_9) (by omega); have ki := clampI (x := ((24 * (g 34)) + y28_5) + y169_9) (by omega); intro q hq; rw [ew214, pk_un (by omega)]; exact ik169 q hq
                                    have iv169_3 : (wdl w214 (24 * (Int32.toNatClampNeg (g 34)) + Int32.toNatClampNeg y28_5) (Int32.toNatClampNeg (y169_9 + 1)) = wdl d117_F29 0 (Int32.toNatClampNeg (y169_9 + 1))) := by have k9 := clampI (x := y169_9) (by omega); have k10 := clampI (x := y169_9 + 1) (by omega); have ki := clampI (x := ((24 * (g 34)) + y28_5) + y169_9) (by omega); obtain ⟨_, W1, _, g3, g4⟩ := Or.resolve_right hrn (fun q => by have q9 := hgd q.1; omega); rw [ew214, show Int32.toNatClampNeg (y169_9 + 1) = Int32.toNatClampNeg y169_9 + 1 by omega, wdl_s1, wdl_s1, show 24 * Int32.toNatClampNeg (g 34) + Int32.toNatClampNeg y28_5 + Int32.toNatClampNeg y169_9 = Int32.toNatClampNeg (((24 * (g 34)) + y28_5) + y169_9) by omega, pk_us, Nat.zero_add, bw_at g4 g3 (by omega), wdl_ext (fun i hi => pk_un (by omega)), ij169]
                                    exact ih169 (y169_9 + 1) w214 iv169_0 iv169_1 iv169_2 iv169_3
                            exact lp169 NN (0 : Int32) d28_F32 (show 0 ≤ (0 : Int32).toInt from by omega) (show (0 : Int32).toInt ≤ d117_g30.toInt from by omega) (show (∀ q, q < 24 * (Int32.toNatClampNeg (g 34)) + Int32.toNatClampNeg y28_5 → d28_F32 q = d28_F32 q) from by intro q hq; rfl) (show (wdl d28_F32 (24 * (Int32.toNatClampNeg (g 34)) + Int32.toNatClampNeg y28_5) (Int32.toNatClampNeg (0 : Int32)) = wdl d117_F29 0 (Int32.toNatClampNeg (0 : Int32))) from by rfl)
                          · have c135 := z_ne c135
                            obtain ⟨_, W1, b1, b2, b3, b4⟩ := Or.resolve_right il117 (fun q => by have q9 := q.1; omega)
                            have k9 := clampI (x := y117_9) (by omega)
                            obtain ⟨Lk, hLk⟩ := get_ex (l := ls) (i := Int32.toNatClampNeg y117_9 - 40 * Int32.toNatClampNeg p0) (by omega)
                            have hLe : lawR (F 14) (F 15) (F 16) (F 17) (Int32.toNatClampNeg y117_9) = Lk := by rw [← hls] at hLk; unfold lwsR at hLk; rw [tab_get (by omega), show 40 * Int32.toNatClampNeg p0 + (Int32.toNatClampNeg y117_9 - 40 * Int32.toNatClampNeg p0) = Int32.toNatClampNeg y117_9 by omega] at hLk; exact Option.some.inj hLk
                            have hMI141 : id (MInv (upd (upd g 30 d117_g30) 36 d117_g36) (upF (upF (upF F 29 d117_F29) 31 d117_F31) 32 d28_F32)) := show MInv (upd (upd g 30 d117_g30) 36 d117_g36) (upF (upF (upF F 29 d117_F29) 31 d117_F31) 32 d28_F32) from (MInv_i ((hI9.1)) ((hI9.2.1)) ((hI9.2.2.1)) ((hI9.2.2.2.1)) ((hI9.2.2.2.2.1)) ((hI9.2.2.2.2.2.1)) ((hI9.2.2.2.2.2.2.1)) ((hI9.2.2.2.2.2.2.2.1)) hzg9 hzg23 hzg27 hg122 hzg34 hg123 ((hI9.2.2.2.2.2.2.2.2.2.2.2.2.2.2.1)) ((hI9.2.2.2.2.2.2.2.2.2.2.2.2.2.2.2.1)) ((hI9.2.2.2.2.2.2.2.2.2.2.2.2.2.2.2.2.1)) ((hI9.2.2.2.2.2.2.2.2.2.2.2.2.2.2.2.2.2.1)) ((hI9.2.2.2.2.2.2.2.2.2.2.2.2.2.2.2.2.2.2.1)) ((hI9.2.2.2.2.2.2.2.2.2.2.2.2.2.2.2.2.2.2.2.1)) ((hI9.2.2.2.2.2.2.2.2.2.2.2.2.2.2.2.2.2.2.2.2.1)) ((hI9.2.2.2.2.2.2.2.2.2.2.2.2.2.2.2.2.2.2.2.2.2.1)) ((hI9.2.2.2.2.2.2.2.2.2.2.2.2.2.2.2.2.2.2.2.2.2.2.1)) ((hI9.2.2.2.2.2.2.2.2.2.2.2.2.2.2.2.2.2.2.2.2.2.2.2.1)) ((hI9.2.2.2.2.2.2.2.2.2.2.2.2.2.2.2.2.2.2.2.2.2.2.2.2.1)) hzF11 hzF12 hzF13 hzF15 hzF19 hzF21 hzF24 hzF25 hzF26 hzF33 hzF38 hzF41 hzF43 hzF45 hzF46 hzF50 hzF53 hzF54 hzLQ)
                            have hpr141_0 : (0 ≤ y117_9.toInt ∧ y117_9.toInt < 280) := by first | assumption | omega
                            have hpr141_1 : d117_g30.toInt ≤ 24 := by first | assumption | omega
                            have hpr141_2 : 1 ≤ ((F 15) (Int32.toNatClampNeg (4 * y117_9))).toInt := by exact lq_at hzLQ (r := p0) (by omega) (by omega) (by omega) (by omega) (by omega)
                            refine pw_b4 (fun c141_g30 c141_g36 c141_F29 c141_F31 hc141 => ?_)
                            have hq141 := wp_at (ok_lawThrough (upd (upd g 30 d117_g30) 36 d117_g36) (upF (upF (upF F 29 d117_F29) 31 d117_F31) 32 d28_F32) y117_9 hMI141 hpr141_0 hpr141_1 hpr141_2) hc141
                            obtain ⟨hg157, hg158⟩ : (((0) ≤ c141_g30.toInt ∧ c141_g30.toInt ≤ 384)) ∧ (((0) ≤ c141_g36.toInt ∧ c141_g36.toInt ≤ 1)) := hq141
                            have h8141_hL : lawR (F 14) (F 15) (F 16) (F 17) (Int32.toNatClampNeg y117_9) = (Lk) := by exact hLe
                            have h8141_hW : wdl d117_F29 0 (Int32.toNatClampNeg d117_g30) = (W1) := by exact b3
                            have h8141_hbw : BW (W1) := by exact b1
                            have h8141_hb2 : BW (Lk).2.1 := by exact (hwl Lk (List.mem_of_getElem? hLk)).2
                            have h8141_hl1 : 1 ≤ (Lk).1.length := by exact (hwl Lk (List.mem_of_getElem? hLk)).1
                            have hx141 := pwq (fn_lawThrough (upd (upd g 30 d117_g30) 36 d117_g36) (upF (upF (upF F 29 d117_F29) 31 d117_F31) 32 d28_F32) y117_9 (Lk) (W1) hMI141 hpr141_0 hpr141_1 hpr141_2 h8141_hL h8141_hW h8141_hbw h8141_hb2 h8141_hl1) hc141
                            obtain ⟨p141_0, p141_1⟩ : (wdl c141_F29 0 (Int32.toNatClampNeg c141_g30) = (lawT (Lk) (W1)).1) ∧ ((c141_g36.toInt ≠ 0 ↔ (d117_g36.toInt ≠ 0 ∨ ((lawT (Lk) (W1)).2 = true ∧ y117_9.toInt = (g 35).toInt)))) := hx141
                            refine pw_jE (fun j158 ej158 => ?_)
                            refine pw_ite (fun c150 => ?_) (fun c150 => ?_)
                            · have c150 := (z_lt _ _).mp c150
                              refine pw_j1 ej158 (fun t158_0 et158_0 => ?_)
                              have et158_0 := et158_0.symm
                              have f_t158_0 : t158_0.toInt = 0 := by rw [et158_0]; decide +kernel
                              have f159 : (y117_9 + 1).toInt = y117_9.toInt + (1) := z_addc (by decide +kernel) (by omega) (by omega)
                              have iv117_0 : (40 * p0.toInt ≤ (y117_9 + 1).toInt ∧ (y117_9 + 1).toInt ≤ 40 * p0.toInt + 40) := by omega
                              have iv117_1 : (t158_0.toInt = 0 ∨ t158_0.toInt = 1) := by omega
                              have iv117_2 : (t158_0.toInt ≠ 0 → c141_g30.toInt ≤ 24) := by omega
                              have iv117_3 : (y117_9 + 1).toInt ≤ 40 * p0.toInt + ((F 11) (Int32.toNatClampNeg p0)).toInt := by omega
                              have iv117_4 : (id ((t158_0.toInt ≠ 0 ∧ ∃ W1, BW W1 ∧ runL ls x = runL (ls.drop (Int32.toNatClampNeg (y117_9 + 1) - 40 * Int32.toNatClampNeg p0)) W1 ∧ wdl c141_F29 0 (Int32.toNatClampNeg c141_g30) = W1 ∧ c141_g30.toInt ≤ 24) ∨ (t158_0.toInt = 0 ∧ runL ls x = none ∧ 24 < c141_g30.toInt))) := by have k10 := clampI (x := y117_9 + 1) (by omega); have h9 := congrArg List.length p141_0; rw [wdl_len] at h9; have hb30 := hg157; have c30 := clampI (x := c141_g30) (by omega); exact Or.inr ⟨by omega, by rw [b2]; exact runL_long hLk (by omega), by omega⟩
                              exact ih117 t158_0 (y117_9 + 1) c141_g30 c141_g36 c141_F29 c141_F31 hg157 hg158 iv117_0 iv117_1 iv117_2 iv117_3 iv117_4
                            · have c150 := z_nlt c150
                              refine pw_j1 ej158 (fun t158_0 et158_0 => ?_)
                              have et158_0 := et158_0.symm
                              have f_t158_0 : t158_0.toInt = 1 := by rw [et158_0]; decide +kernel
                              have f160 : (y117_9 + 1).toInt = y117_9.toInt + (1) := z_addc (by decide +kernel) (by omega) (by omega)
                              have iv117_0 : (40 * p0.toInt ≤ (y117_9 + 1).toInt ∧ (y117_9 + 1).toInt ≤ 40 * p0.toInt + 40) := by omega
                              have iv117_1 : (t158_0.toInt = 0 ∨ t158_0.toInt = 1) := by omega
                              have iv117_2 : (t158_0.toInt ≠ 0 → c141_g30.toInt ≤ 24) := by omega
                              have iv117_3 : (y117_9 + 1).toInt ≤ 40 * p0.toInt + ((F 11) (Int32.toNatClampNeg p0)).toInt := by omega
                              have iv117_4 : (id ((t158_0.toInt ≠ 0 ∧ ∃ W1, BW W1 ∧ runL ls x = runL (ls.drop (Int32.toNatClampNeg (y117_9 + 1) - 40 * Int32.toNatClampNeg p0)) W1 ∧ wdl c141_F29 0 (Int32.toNatClampNeg c141_g30) = W1 ∧ c141_g30.toInt ≤ 24) ∨ (t158_0.toInt = 0 ∧ runL ls x = none ∧ 24 < c141_g30.toInt))) := by have k10 := clampI (x := y117_9 + 1) (by omega); have h9 := congrArg List.length p141_0; rw [wdl_len] at h9; have hb30 := hg157; have c30 := clampI (x := c141_g30) (by omega); exact Or.inl ⟨by omega, (lawT Lk W1).1, lawT_bw b1 (hwl Lk (List.mem_of_getElem? hLk)).2, by rw [b2, runL_step hLk (by omega), show Int32.toNatClampNeg (y117_9 + 1) - 40 * Int32.toNatClampNeg p0 = Int32.toNatClampNeg y117_9 - 40 * Int32.toNatClampNeg p0 + 1 by omega], p141_0, by omega⟩
                              exact ih117 t158_0 (y117_9 + 1) c141_g30 c141_g36 c141_F29 c141_F31 hg157 hg158 iv117_0 iv117_1 iv117_2 iv117_3 iv117_4
                    exact lp117 NN y28_6 x115 t63_0 d28_g36 d68_F29 d28_F31 hg117 hg82 (show (40 * p0.toInt ≤ x115.toInt ∧ x115.toInt ≤ 40 * p0.toInt + 40) from by omega) (show (y28_6.toInt = 0 ∨ y28_6.toInt = 1) from by omega) (show (y28_6.toInt ≠ 0 → t63_0.toInt ≤ 24) from by omega) (show x115.toInt ≤ 40 * p0.toInt + ((F 11) (Int32.toNatClampNeg p0)).toInt from by omega) (show (id ((y28_6.toInt ≠ 0 ∧ ∃ W1, BW W1 ∧ runL ls x = runL (ls.drop (Int32.toNatClampNeg x115 - 40 * Int32.toNatClampNeg p0)) W1 ∧ wdl d68_F29 0 (Int32.toNatClampNeg t63_0) = W1 ∧ t63_0.toInt ≤ 24) ∨ (y28_6.toInt = 0 ∧ runL ls x = none ∧ 24 < t63_0.toInt))) from by have ky := clampI (x := y68_9) (by omega); have kt := clampI (x := t63_0) (by omega); have kz := clampI (x := x115) (by omega); refine Or.inl ⟨by omega, x, fun y hy => hbw y (by rw [← hfa] at hy; exact List.mem_of_mem_drop (List.mem_of_mem_take hy)), by rw [show Int32.toNatClampNeg x115 - 40 * Int32.toNatClampNeg p0 = 0 by omega]; rfl, ?_, by omega⟩; have h9 := ip68; rw [show Int32.toNatClampNeg y68_9 = x.length by omega, hxe] at h9; rw [show Int32.toNatClampNeg t63_0 = x.length by omega]; exact h9)
                  · have c72 := z_nle c72
                    have f161 : (y28_4 + y68_9).toInt = y28_4.toInt + y68_9.toInt := z_add (by omega) (by omega)
                    refine pw_if (fun hb90 => ?_)
                    obtain ⟨hbl90, hbr90⟩ := hb90
                    refine pw_if (fun hb91 => ?_)
                    obtain ⟨hbl91, hbr91⟩ := hb91
                    refine pw_vl (fun w91 ew91 => ?_)
                    have f162 : (y68_9 + 1).toInt = y68_9.toInt + (1) := z_addc (by decide +kernel) (by omega) (by omega)
                    have iv68_0 : 0 ≤ (y68_9 + 1).toInt := by omega
                    have iv68_1 : (y68_9 + 1).toInt ≤ t63_0.toInt := by omega
                    have iv68_2 : (wdl w91 0 (Int32.toNatClampNeg (y68_9 + 1)) = wdl (F 22) (Int32.toNatClampNeg y28_4) (Int32.toNatClampNeg (y68_9 + 1))) := by have k9 := clampI (x := y68_9) (by omega); have k10 := clampI (x := y68_9 + 1) (by omega); have ki := clampI (x := y28_4 + y68_9) (by omega); rw [ew91, show Int32.toNatClampNeg (y68_9 + 1) = Int32.toNatClampNeg y68_9 + 1 by omega, wdl_up rfl, ip68, wdl_s1, show Int32.toNatClampNeg (y28_4 + y68_9) = Int32.toNatClampNeg y28_4 + Int32.toNatClampNeg y68_9 by omega, hbw _ (by rw [← hW]; have h9 := wdl_mem (f := F 22) (s := 0) (m := Int32.toNatClampNeg (g 23)) (j := Int32.toNatClampNeg y28_4 + Int32.toNatClampNeg y68_9) (by omega); rwa [Nat.zero_add] at h9)]
                    exact ih68 (y68_9 + 1) w91 iv68_0 iv68_1 iv68_2
              exact lp68 NN (0 : Int32) d28_F29 (show 0 ≤ (0 : Int32).toInt from by omega) (show (0 : Int32).toInt ≤ t63_0.toInt from by omega) (show (wdl d28_F29 0 (Int32.toNatClampNeg (0 : Int32)) = wdl (F 22) (Int32.toNatClampNeg y28_4) (Int32.toNatClampNeg (0 : Int32))) from by rfl)
    exact lp28 NN (0 : Int32) (0 : Int32) (1 : Int32) (0 : Int32) (g 30) (g 36) (F 29) (F 31) (F 32) hzg30 hzg36 (show (0 ≤ (0 : Int32).toInt ∧ (0 : Int32).toInt ≤ 24) from by first | omega | exact (fun _ => rfl) | (intro _; exact rfl)) (show (0 ≤ (0 : Int32).toInt ∧ (0 : Int32).toInt ≤ 384 * (0 : Int32).toInt) from by first | omega | exact (fun _ => rfl) | (intro _; exact rfl)) (show (0 ≤ (0 : Int32).toInt ∧ (0 : Int32).toInt ≤ 24) from by first | omega | exact (fun _ => rfl) | (intro _; exact rfl)) (show ((1 : Int32).toInt = 0 ∨ (1 : Int32).toInt = 1) from by first | omega | exact (fun _ => rfl) | (intro _; exact rfl)) (show (p1.toInt = -1 → (0 : Int32).toInt = 0 → (0 : Int32).toInt = 0) from by first | omega | exact (fun _ => rfl) | (intro _; exact rfl)) (show (p1.toInt ≠ -1 → (0 : Int32).toInt = psum (F 25) (24 * p1.toInt.toNat) (0 : Int32).toInt.toNat) from by first | omega | exact (fun _ => rfl) | (intro _; exact rfl)) (show (0 : Int32).toInt ≤ ((w.length : Nat) : Int) from by first | omega | exact (fun _ => rfl) | (intro _; exact rfl)) (show ((0 : Int32).toInt = ((sumN (w.take (Int32.toNatClampNeg (0 : Int32))) : Nat) : Int)) from by rfl) (show (∀ q, q < 24 * (Int32.toNatClampNeg (g 34)) → (F 32) q = (F 32) q) from by intro q hq; rfl) (show (id (((1 : Int32).toInt ≠ 0 ∧ ∃ acc, mkA ls [] w = mkA ls acc (w.drop (Int32.toNatClampNeg (0 : Int32))) ∧ (0 : Int32).toInt = ((acc.length : Nat) : Int) ∧ ((0 : Int32).toInt ≤ 24 → wdl (F 32) (24 * (Int32.toNatClampNeg (g 34))) (Int32.toNatClampNeg (0 : Int32)) = acc)) ∨ ((1 : Int32).toInt = 0 ∧ mkA ls [] w = none))) from by exact Or.inl ⟨by omega, [], rfl, rfl, fun _ => rfl⟩)
