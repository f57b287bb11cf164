abbrev QF_takeWord (g : Nat → Int32) (F : Nat → Nat → Int32) (A0 : (Nat → Int32)) (n0 : Nat) (p1 : Int32) (p2 : Int32) : (Int32 × (Nat → Int32)) → Prop := (fun t => ((t.1).toInt = p2.toInt) ∧ (wdl (t.2) 0 (Int32.toNatClampNeg (t.1)) = wdl A0 (Int32.toNatClampNeg p1) (Int32.toNatClampNeg p2)))
set_option maxHeartbeats 4000000 in
set_option maxRecDepth 100000 in
theorem fn_takeWord (g : Nat → Int32) (F : Nat → Nat → Int32) (A0 : (Nat → Int32)) (n0 : Nat) (p1 : Int32) (p2 : Int32) (hI : MInv g F) (hp0 : (0 ≤ p1.toInt ∧ p1.toInt + p2.toInt ≤ n0)) (hp1 : n0 ≤ 500000) (hp2 : (0 ≤ p2.toInt ∧ p2.toInt ≤ 24)) (hbx : BW (wdl A0 (Int32.toNatClampNeg p1) (Int32.toNatClampNeg p2))) : pw (f_takeWord g F A0 n0 p1 p2) (QF_takeWord g F A0 n0 p1 p2) := by
  intro x hx
  have h := wp_at (fx_takeWord g F A0 n0 p1 p2 hI hp0 hp1 hp2) hx
  have h9 := h.2.2
  have h8 := h.2.1
  refine ⟨h8, ?_⟩
  have c2 := clampI hp2.1
  have c1 := clampI hp0.1
  have c3 := clampI (x := x.1) (by omega)
  show wdl x.2 0 (Int32.toNatClampNeg x.1) = _
  rw [show Int32.toNatClampNeg x.1 = Int32.toNatClampNeg p2 by omega]
  exact wdl_ext (fun j hj => by rw [Nat.zero_add, h9 j (by omega), show p1.toInt.toNat = Int32.toNatClampNeg p1 by omega]; exact hbx _ (wdl_mem hj))
abbrev QF_through (g : Nat → Int32) (F : Nat → Nat → Int32) (p0 : Int32) (p1 : Int32) (d : Nat → Dr) (W : Wd) : (Int32 × Int32 × Int32 × Int32 × Int32 × Int32 × (Nat → Int32) × (Nat → Int32) × (Nat → Int32) × (Nat → Int32) × (Nat → Int32) × (Nat → Int32) × (Nat → Int32) × (Nat → Int32) × (Nat → Int32) × (Nat → Int32) × (Nat → Int32) × (Nat → Int32) × (Nat → Int32)) → Prop := (fun t => (rwW (t.2.2.2.2.2.1) (t.2.2.2.2.2.2.2.2.2.2.2.2.2.2.2.1) (t.2.2.2.2.2.2.2.2.2.2.2.2.2.2.2.2.1) 24 = thF d (Int32.toNatClampNeg p0) (Int32.toNatClampNeg p1 - Int32.toNatClampNeg p0) [W]) ∧ (WDS (thF d (Int32.toNatClampNeg p0) (Int32.toNatClampNeg p1 - Int32.toNatClampNeg p0) [W])))
set_option maxHeartbeats 4000000 in
set_option maxRecDepth 100000 in
theorem fn_through (g : Nat → Int32) (F : Nat → Nat → Int32) (p0 : Int32) (p1 : Int32) (d : Nat → Dr) (W : Wd) (hI : MInv g F) (hp0 : (0 ≤ p0.toInt ∧ p0.toInt ≤ 6)) (hp1 : p1.toInt ≤ (g 9).toInt) (hrv : ∀ q : Nat, p0.toInt ≤ (q : Int) → (q : Int) < p1.toInt → RVd (F 13) (F 20) (F 21) (F 12) (F 18) (F 19) (F 11) (F 14) (F 15) (F 16) (F 17) q = d q ∧ WFD (d q)) (hW : wdl (F 22) 0 (Int32.toNatClampNeg (g 23)) = W) (hl1 : 1 ≤ (g 23).toInt) (hbw : BW W) : pw (f_through g F p0 p1) (QF_through g F p0 p1 d W) := by
  unfold f_through
  have hI9 : id (MInv g F) := hI
  obtain ⟨-, -, -, -, -, -, -, -, hzg9, hzg23, hzg27, hzg30, hzg34, hzg36, -, -, -, -, -, -, -, -, -, -, -, hzF11, hzF12, hzF13, hzF15, hzF19, hzF21, hzF24, hzF25, hzF26, hzF33, hzF38, hzF41, hzF43, hzF45, hzF46, hzF50, hzF53, hzF54, hzLQ⟩ := hI
  have zk0 : (0 : Int32).toInt = 0 := by decide +kernel
  have zk1 : (1 : Int32).toInt = 1 := by decide +kernel
  have zk12 : (12 : Int32).toInt = 12 := by decide +kernel
  have zk24 : (24 : Int32).toInt = 24 := by decide +kernel
  have cp0 := clampI (x := p0) (by omega)
  have hb23 := hzg23
  have c23 := clampI (x := g 23) (by omega)
  have hWl : W.length = Int32.toNatClampNeg (g 23) := by rw [← hW]; exact wdl_len
  refine pw_jE (fun k28 ek28 => ?_)
  have lp2 : ∀ (n2 : Nat) (y2_3 : Int32) (d2_F37 : (Nat → Int32)), 0 ≤ y2_3.toInt → y2_3.toInt ≤ (g 23).toInt → (wdl d2_F37 0 (Int32.toNatClampNeg y2_3) = wdl (F 22) 0 (Int32.toNatClampNeg y2_3)) → pw (L_through_2 g F k28 n2 y2_3 d2_F37) (QF_through g F p0 p1 d W) := by
    intro n2
    induction n2 with
    | zero => intros; exact pw_none
    | succ n2 ih2 =>
      intro y2_3 d2_F37 f1 f2 ia2
      show pw (B_through_2 g F k28 (L_through_2 g F k28 n2) y2_3 d2_F37) _
      unfold B_through_2
      refine pw_ite (fun c7 => ?_) (fun c7 => ?_)
      · have c7 := (z_le _ _).mp c7
        refine pw_j1 ek28 (fun z28_1 ez28_1 => ?_)
        subst ez28_1
        refine pw_if (fun hb37 => ?_)
        obtain ⟨hbl37, hbr37⟩ := hb37
        refine pw_vl (fun w37 ew37 => ?_)
        have hF3 : rng (0) 24 w37 := by rw [ew37]; exact rng_upd hzF38 (by omega) (by omega)
        have hg4 : ((0) ≤ (1 : Int32).toInt ∧ (1 : Int32).toInt ≤ 12) := ⟨by omega, by omega⟩
        have lp45 : ∀ (n45 : Nat) (y45_3 : Int32) (d45_g23 : Int32) (d45_g27 : Int32) (d45_g30 : Int32) (d45_g34 : Int32) (d45_g36 : Int32) (d45_g39 : Int32) (d45_F22 : (Nat → Int32)) (d45_F24 : (Nat → Int32)) (d45_F25 : (Nat → Int32)) (d45_F26 : (Nat → Int32)) (d45_F28 : (Nat → Int32)) (d45_F29 : (Nat → Int32)) (d45_F31 : (Nat → Int32)) (d45_F32 : (Nat → Int32)) (d45_F33 : (Nat → Int32)) (d45_F37 : (Nat → Int32)) (d45_F38 : (Nat → Int32)) (d45_F40 : (Nat → Int32)) (d45_F41 : (Nat → Int32)), ((0) ≤ d45_g23.toInt ∧ d45_g23.toInt ≤ 24) → ((0) ≤ d45_g27.toInt ∧ d45_g27.toInt ≤ 30) → ((0) ≤ d45_g30.toInt ∧ d45_g30.toInt ≤ 384) → ((0) ≤ d45_g34.toInt ∧ d45_g34.toInt ≤ 30) → ((0) ≤ d45_g36.toInt ∧ d45_g36.toInt ≤ 1) → ((0) ≤ d45_g39.toInt ∧ d45_g39.toInt ≤ 12) → rng (0) 24 d45_F24 → rng (0) 24 d45_F25 → rng (0) 24 d45_F26 → rng (0) 24 d45_F33 → rng (0) 24 d45_F38 → rng (0) 24 d45_F41 → (p0.toInt ≤ y45_3.toInt ∧ y45_3.toInt ≤ 7) → (y45_3.toInt ≤ p1.toInt ∨ y45_3.toInt = p0.toInt) → (rwW d45_g39 d45_F37 d45_F38 24 = thF d (Int32.toNatClampNeg p0) (Int32.toNatClampNeg y45_3 - Int32.toNatClampNeg p0) [W]) → (WDS (thF d (Int32.toNatClampNeg p0) (Int32.toNatClampNeg y45_3 - Int32.toNatClampNeg p0) [W])) → pw (L_through_45 g F p1 n45 y45_3 d45_g23 d45_g27 d45_g30 d45_g34 d45_g36 d45_g39 d45_F22 d45_F24 d45_F25 d45_F26 d45_F28 d45_F29 d45_F31 d45_F32 d45_F33 d45_F37 d45_F38 d45_F40 d45_F41) (QF_through g F p0 p1 d W) := by
          intro n45
          induction n45 with
          | zero => intros; exact pw_none
          | succ n45 ih45 =>
            intro y45_3 d45_g23 d45_g27 d45_g30 d45_g34 d45_g36 d45_g39 d45_F22 d45_F24 d45_F25 d45_F26 d45_F28 d45_F29 d45_F31 d45_F32 d45_F33 d45_F37 d45_F38 d45_F40 d45_F41 hg5 hg6 hg7 hg8 hg9 hg10 hg11 hg12 hg13 hg14 hg15 hg16 f17 f18 ir45 iw45
            show pw (B_through_45 g F p1 (L_through_45 g F p1 n45) y45_3 d45_g23 d45_g27 d45_g30 d45_g34 d45_g36 d45_g39 d45_F22 d45_F24 d45_F25 d45_F26 d45_F28 d45_F29 d45_F31 d45_F32 d45_F33 d45_F37 d45_F38 d45_F40 d45_F41) _
            unfold B_through_45
            refine pw_ite (fun c47 => ?_) (fun c47 => ?_)
            · have c47 := (z_le _ _).mp c47
              have qq0 : rwW d45_g39 d45_F37 d45_F38 24 = thF d (Int32.toNatClampNeg p0) (Int32.toNatClampNeg p1 - Int32.toNatClampNeg p0) [W] := by have k3 := clampI (x := y45_3) (by omega); have h9 : Int32.toNatClampNeg p1 - Int32.toNatClampNeg p0 = Int32.toNatClampNeg y45_3 - Int32.toNatClampNeg p0 := (by have h8 : Int32.toNatClampNeg p1 = p1.toInt.toNat := rfl; omega); rw [h9]; exact ir45
              have qq1 : WDS (thF d (Int32.toNatClampNeg p0) (Int32.toNatClampNeg p1 - Int32.toNatClampNeg p0) [W]) := by have k3 := clampI (x := y45_3) (by omega); have h9 : Int32.toNatClampNeg p1 - Int32.toNatClampNeg p0 = Int32.toNatClampNeg y45_3 - Int32.toNatClampNeg p0 := (by have h8 : Int32.toNatClampNeg p1 = p1.toInt.toNat := rfl; omega); rw [h9]; exact iw45
              exact pw_some ⟨qq0, qq1⟩
            · have c47 := z_nle c47
              have k3 := clampI (x := y45_3) (by omega)
              obtain ⟨hdr, hdw⟩ := hrv (Int32.toNatClampNeg y45_3) (by omega) (by omega)
              have hbn := hg10
              have cn := clampI (x := d45_g39) (by omega)
              obtain ⟨FW, hFW⟩ : ∃ FW9 : List Wd, FW9 = thF d (Int32.toNatClampNeg p0) (Int32.toNatClampNeg y45_3 - Int32.toNatClampNeg p0) [W] := ⟨_, rfl⟩
              have ir9 : rwW d45_g39 d45_F37 d45_F38 24 = FW := by rw [hFW]; exact ir45
              have iw9 : WDS FW := by rw [hFW]; exact iw45
              have hfl := congrArg List.length ir9
              rw [rw_len] at hfl
              have hws := iw9
              rw [← ir9] at hws
              refine pw_jE (fun k262 ek262 => ?_)
              have lp56 : ∀ (n56 : Nat) (y56_4 : Int32) (y56_5 : Int32) (d56_g23 : Int32) (d56_g27 : Int32) (d56_g30 : Int32) (d56_g34 : Int32) (d56_g36 : Int32) (d56_F22 : (Nat → Int32)) (d56_F24 : (Nat → Int32)) (d56_F25 : (Nat → Int32)) (d56_F26 : (Nat → Int32)) (d56_F28 : (Nat → Int32)) (d56_F29 : (Nat → Int32)) (d56_F31 : (Nat → Int32)) (d56_F32 : (Nat → Int32)) (d56_F33 : (Nat → Int32)) (d56_F40 : (Nat → Int32)) (d56_F41 : (Nat → Int32)), ((0) ≤ d56_g23.toInt ∧ d56_g23.toInt ≤ 24) → ((0) ≤ d56_g27.toInt ∧ d56_g27.toInt ≤ 30) → ((0) ≤ d56_g30.toInt ∧ d56_g30.toInt ≤ 384) → ((0) ≤ d56_g34.toInt ∧ d56_g34.toInt ≤ 30) → ((0) ≤ d56_g36.toInt ∧ d56_g36.toInt ≤ 1) → rng (0) 24 d56_F24 → rng (0) 24 d56_F25 → rng (0) 24 d56_F26 → rng (0) 24 d56_F33 → rng (0) 24 d56_F41 → (0 ≤ y56_4.toInt ∧ y56_4.toInt ≤ 12) → (0 ≤ y56_5.toInt ∧ y56_5.toInt ≤ 12) → y56_5.toInt ≤ d45_g39.toInt → (rwW y56_4 d56_F40 d56_F41 24 = tpre (d (Int32.toNatClampNeg y45_3)) (FW) (Int32.toNatClampNeg y56_5)) → pw (L_through_56 g F y45_3 d45_g39 d45_F37 d45_F38 k262 n56 y56_4 y56_5 d56_g23 d56_g27 d56_g30 d56_g34 d56_g36 d56_F22 d56_F24 d56_F25 d56_F26 d56_F28 d56_F29 d56_F31 d56_F32 d56_F33 d56_F40 d56_F41) (QF_through g F p0 p1 d W) := by
                intro n56
                induction n56 with
                | zero => intros; exact pw_none
                | succ n56 ih56 =>
                  intro y56_4 y56_5 d56_g23 d56_g27 d56_g30 d56_g34 d56_g36 d56_F22 d56_F24 d56_F25 d56_F26 d56_F28 d56_F29 d56_F31 d56_F32 d56_F33 d56_F40 d56_F41 hg19 hg20 hg21 hg22 hg23 hg24 hg25 hg26 hg27 hg28 f29 f30 f31 in56
                  show pw (B_through_56 g F y45_3 d45_g39 d45_F37 d45_F38 k262 (L_through_56 g F y45_3 d45_g39 d45_F37 d45_F38 k262 n56) y56_4 y56_5 d56_g23 d56_g27 d56_g30 d56_g34 d56_g36 d56_F22 d56_F24 d56_F25 d56_F26 d56_F28 d56_F29 d56_F31 d56_F32 d56_F33 d56_F40 d56_F41) _
                  unfold B_through_56
                  refine pw_ite (fun c62 => ?_) (fun c62 => ?_)
                  · have c62 := (z_le _ _).mp c62
                    have hnt := in56
                    rw [tpre_all (by have k5 := clampI (x := y56_5) (by omega); omega)] at hnt
                    have hnw : WDS (rwW y56_4 d56_F40 d56_F41 24) := by rw [hnt]; exact tuFs_wds hdw iw9
                    have k4 := clampI (x := y56_4) (by omega)
                    refine pw_j17 ek262 (fun x262_4 ex262_4 z262_1 ez262_1 z262_2 ez262_2 z262_3 ez262_3 z262_4 ez262_4 z262_5 ez262_5 z262_6 ez262_6 z262_7 ez262_7 z262_8 ez262_8 z262_9 ez262_9 z262_10 ez262_10 z262_11 ez262_11 z262_12 ez262_12 z262_13 ez262_13 z262_14 ez262_14 z262_15 ez262_15 z262_16 ez262_16 => ?_)
                    subst ez262_1 ez262_2 ez262_3 ez262_4 ez262_5 ez262_6 ez262_7 ez262_8 ez262_9 ez262_10 ez262_11 ez262_12 ez262_13 ez262_14 ez262_15 ez262_16
                    have ex262_4 := ex262_4.symm
                    have f_x262_4 : x262_4.toInt = y56_4.toInt := by rw [ex262_4]
                    have hg32 : ((0) ≤ x262_4.toInt ∧ x262_4.toInt ≤ 12) := ⟨by omega, by omega⟩
                    refine pw_jE (fun k345 ek345 => ?_)
                    have lp271 : ∀ (n271 : Nat) (y271_5 : Int32) (d271_F37 : (Nat → Int32)) (d271_F38 : (Nat → Int32)), rng (0) 24 d271_F38 → (0 ≤ y271_5.toInt ∧ y271_5.toInt ≤ 12) → y271_5.toInt ≤ y56_4.toInt → (∀ j, j < Int32.toNatClampNeg y271_5 → d271_F38 j = d56_F41 j) → (∀ j i, j < Int32.toNatClampNeg y271_5 → i < Int32.toNatClampNeg (d56_F41 j) → d271_F37 (24 * j + i) = vp_nar .byte (d56_F40 (24 * j + i))) → pw (L_through_271 x262_4 d56_F40 d56_F41 k345 n271 y271_5 d271_F37 d271_F38) (QF_through g F p0 p1 d W) := by
                      intro n271
                      induction n271 with
                      | zero => intros; exact pw_none
                      | succ n271 ih271 =>
                        intro y271_5 d271_F37 d271_F38 hg33 f34 f35 ca271 cb271
                        show pw (B_through_271 x262_4 d56_F40 d56_F41 k345 (L_through_271 x262_4 d56_F40 d56_F41 k345 n271) y271_5 d271_F37 d271_F38) _
                        unfold B_through_271
                        refine pw_ite (fun c275 => ?_) (fun c275 => ?_)
                        · have c275 := (z_le _ _).mp c275
                          have hout : rwW y56_4 d271_F37 d271_F38 24 = tuFs (d (Int32.toNatClampNeg y45_3)) (FW) := by rw [← hnt]; have k5 := clampI (x := y271_5) (by omega); exact rw_cp hnw (fun j hj => ca271 j (by omega)) (fun j i hj hi => cb271 j i (by omega) hi)
                          refine pw_j2 ek345 (fun z345_1 ez345_1 z345_2 ez345_2 => ?_)
                          subst ez345_1 ez345_2
                          have f36 : (y45_3 + 1).toInt = y45_3.toInt + (1) := z_addc (by decide +kernel) (by omega) (by omega)
                          have iv45_0 : (p0.toInt ≤ (y45_3 + 1).toInt ∧ (y45_3 + 1).toInt ≤ 7) := by omega
                          have iv45_1 : ((y45_3 + 1).toInt ≤ p1.toInt ∨ (y45_3 + 1).toInt = p0.toInt) := by omega
                          have iv45_2 : (rwW x262_4 d271_F37 d271_F38 24 = thF d (Int32.toNatClampNeg p0) (Int32.toNatClampNeg (y45_3 + 1) - Int32.toNatClampNeg p0) [W]) := by have k4 := clampI (x := y45_3 + 1) (by omega); rw [th_s (n := Int32.toNatClampNeg y45_3 - Int32.toNatClampNeg p0) (by omega), show Int32.toNatClampNeg p0 + (Int32.toNatClampNeg y45_3 - Int32.toNatClampNeg p0) = Int32.toNatClampNeg y45_3 by omega]; rw [ex262_4, ← hFW]; exact hout
                          have iv45_3 : (WDS (thF d (Int32.toNatClampNeg p0) (Int32.toNatClampNeg (y45_3 + 1) - Int32.toNatClampNeg p0) [W])) := by have k4 := clampI (x := y45_3 + 1) (by omega); rw [th_s (n := Int32.toNatClampNeg y45_3 - Int32.toNatClampNeg p0) (by omega), show Int32.toNatClampNeg p0 + (Int32.toNatClampNeg y45_3 - Int32.toNatClampNeg p0) = Int32.toNatClampNeg y45_3 by omega]; exact tuFs_wds hdw iw45
                          exact ih45 (y45_3 + 1) d56_g23 d56_g27 d56_g30 d56_g34 d56_g36 x262_4 d56_F22 d56_F24 d56_F25 d56_F26 d56_F28 d56_F29 d56_F31 d56_F32 d56_F33 d271_F37 d271_F38 d56_F40 d56_F41 hg19 hg20 hg21 hg22 hg23 hg32 hg24 hg25 hg26 hg27 hg33 hg28 iv45_0 iv45_1 iv45_2 iv45_3
                        · have c275 := z_nle c275
                          have k5 := clampI (x := y271_5) (by omega)
                          have hsn := wds_sz hnw (j := Int32.toNatClampNeg y271_5) (by omega)
                          have kn : (d56_F41 (Int32.toNatClampNeg y271_5)).toInt = ((Int32.toNatClampNeg (d56_F41 (Int32.toNatClampNeg y271_5)) : Nat) : Int) := by have h9 : Int32.toNatClampNeg (d56_F41 (Int32.toNatClampNeg y271_5)) = (d56_F41 (Int32.toNatClampNeg y271_5)).toInt.toNat := rfl; omega
                          refine pw_if (fun hb290 => ?_)
                          obtain ⟨hbl290, hbr290⟩ := hb290
                          have f37 := hg28 (Int32.toNatClampNeg y271_5)
                          refine pw_if (fun hb291 => ?_)
                          obtain ⟨hbl291, hbr291⟩ := hb291
                          refine pw_vl (fun w291 ew291 => ?_)
                          have hF38 : rng (0) 24 w291 := by rw [ew291]; exact rng_upd hg33 (by omega) (by omega)
                          refine pw_jE (fun k339 ek339 => ?_)
                          have lp295 : ∀ (n295 : Nat) (y295_6 : Int32) (d295_F37 : (Nat → Int32)), 0 ≤ y295_6.toInt → y295_6.toInt ≤ (d56_F41 (Int32.toNatClampNeg y271_5)).toInt → (∀ i, i < Int32.toNatClampNeg y295_6 → d295_F37 (24 * Int32.toNatClampNeg y271_5 + i) = vp_nar .byte (d56_F40 (24 * Int32.toNatClampNeg y271_5 + i))) → (∀ q, q < 24 * Int32.toNatClampNeg y271_5 → d295_F37 q = d271_F37 q) → pw (L_through_295 d56_F40 d56_F41 y271_5 k339 n295 y295_6 d295_F37) (QF_through g F p0 p1 d W) := by
                            intro n295
                            induction n295 with
                            | zero => intros; exact pw_none
                            | succ n295 ih295 =>
                              intro y295_6 d295_F37 f39 f40 dn295 do295
                              show pw (B_through_295 d56_F40 d56_F41 y271_5 k339 (L_through_295 d56_F40 d56_F41 y271_5 k339 n295) y295_6 d295_F37) _
                              unfold B_through_295
                              refine pw_if (fun hb303 => ?_)
                              obtain ⟨hbl303, hbr303⟩ := hb303
                              refine pw_ite (fun c304 => ?_) (fun c304 => ?_)
                              · have c304 := (z_le _ _).mp c304
                                refine pw_j1 ek339 (fun z339_1 ez339_1 => ?_)
                                subst ez339_1
                                have f42 : (y271_5 + 1).toInt = y271_5.toInt + (1) := z_addc (by decide +kernel) (by omega) (by omega)
                                have iv271_0 : (0 ≤ (y271_5 + 1).toInt ∧ (y271_5 + 1).toInt ≤ 12) := by omega
                                have iv271_1 : (y271_5 + 1).toInt ≤ y56_4.toInt := by omega
                                have iv271_2 : (∀ j, j < Int32.toNatClampNeg (y271_5 + 1) → w291 j = d56_F41 j) := by have k5 := clampI (x := y271_5) (by omega); have k6 := clampI (x := y271_5 + 1) (by omega); intro j hj; by_cases q9 : j = Int32.toNatClampNeg y271_5; (rw [q9, ew291, pk_us]); (rw [ew291, pk_un q9]; exact ca271 j (by omega))
                                have iv271_3 : (∀ j i, j < Int32.toNatClampNeg (y271_5 + 1) → i < Int32.toNatClampNeg (d56_F41 j) → d295_F37 (24 * j + i) = vp_nar .byte (d56_F40 (24 * j + i))) := by have k5 := clampI (x := y271_5) (by omega); have k6 := clampI (x := y271_5 + 1) (by omega); intro j i hj hi; by_cases q9 : j = Int32.toNatClampNeg y271_5; (subst q9; exact dn295 i (by have k7 := clampI (x := y295_6) (by omega); omega)); (rw [do295 (24 * j + i) (by have h9 := (wds_sz hnw (j := j) (by omega)).2; omega)]; exact cb271 j i (by omega) hi)
                                exact ih271 (y271_5 + 1) d295_F37 w291 hF38 iv271_0 iv271_1 iv271_2 iv271_3
                              · have c304 := z_nle c304
                                have f43 : (24 * y271_5).toInt = 24 * y271_5.toInt := z_muld (by decide +kernel) (by omega) (by omega)
                                have f44 : ((24 * y271_5) + y295_6).toInt = (24 * y271_5).toInt + y295_6.toInt := z_add (by omega) (by omega)
                                refine pw_if (fun hb331 => ?_)
                                obtain ⟨hbl331, hbr331⟩ := hb331
                                refine pw_if (fun hb332 => ?_)
                                obtain ⟨hbl332, hbr332⟩ := hb332
                                refine pw_vl (fun w332 ew332 => ?_)
                                have f47 : (y295_6 + 1).toInt = y295_6.toInt + (1) := z_addc (by decide +kernel) (by omega) (by omega)
                                have iv295_0 : 0 ≤ (y295_6 + 1).toInt := by omega
                                have iv295_1 : (y295_6 + 1).toInt ≤ (d56_F41 (Int32.toNatClampNeg y271_5)).toInt := by omega
                                have iv295_2 : (∀ i, i < Int32.toNatClampNeg (y295_6 + 1) → w332 (24 * Int32.toNatClampNeg y271_5 + i) = vp_nar .byte (d56_F40 (24 * Int32.toNatClampNeg y271_5 + i))) := by have k6 := clampI (x := y295_6) (by omega); have kd := clampI (x := (24 * y271_5) + y295_6) (by omega); have k7 := clampI (x := y295_6 + 1) (by omega); intro i hi; by_cases q9 : i = Int32.toNatClampNeg y295_6; (rw [q9, show 24 * Int32.toNatClampNeg y271_5 + Int32.toNatClampNeg y295_6 = Int32.toNatClampNeg ((24 * y271_5) + y295_6) by omega, ew332, pk_us]); (rw [ew332, pk_un (by omega)]; exact dn295 i (by omega))
                                have iv295_3 : (∀ q, q < 24 * Int32.toNatClampNeg y271_5 → w332 q = d271_F37 q) := by have k6 := clampI (x := y295_6) (by omega); have kd := clampI (x := (24 * y271_5) + y295_6) (by omega); intro q hq; rw [ew332, pk_un (by omega)]; exact do295 q hq
                                exact ih295 (y295_6 + 1) w332 iv295_0 iv295_1 iv295_2 iv295_3
                          exact lp295 NN (0 : Int32) d271_F37 (show 0 ≤ (0 : Int32).toInt from by omega) (show (0 : Int32).toInt ≤ (d56_F41 (Int32.toNatClampNeg y271_5)).toInt from by omega) (show (∀ i, i < Int32.toNatClampNeg (0 : Int32) → d271_F37 (24 * Int32.toNatClampNeg y271_5 + i) = vp_nar .byte (d56_F40 (24 * Int32.toNatClampNeg y271_5 + i))) from by intro i hi; exact absurd hi (Nat.not_lt_zero _)) (show (∀ q, q < 24 * Int32.toNatClampNeg y271_5 → d271_F37 q = d271_F37 q) from by intro q hq; rfl)
                    exact lp271 NN (0 : Int32) d45_F37 d45_F38 hg15 (show (0 ≤ (0 : Int32).toInt ∧ (0 : Int32).toInt ≤ 12) from by omega) (show (0 : Int32).toInt ≤ y56_4.toInt from by omega) (show (∀ j, j < Int32.toNatClampNeg (0 : Int32) → d45_F38 j = d56_F41 j) from by intro j hj; exact absurd hj (Nat.not_lt_zero _)) (show (∀ j i, j < Int32.toNatClampNeg (0 : Int32) → i < Int32.toNatClampNeg (d56_F41 j) → d45_F37 (24 * j + i) = vp_nar .byte (d56_F40 (24 * j + i))) from by intro j i hj; exact absurd hj (Nat.not_lt_zero _))
                  · have c62 := z_nle c62
                    have k5 := clampI (x := y56_5) (by omega)
                    obtain ⟨Wk, hWk⟩ := get_ex (l := FW) (i := Int32.toNatClampNeg y56_5) (by omega)
                    obtain ⟨wk1, wk2, wk3⟩ := iw9 Wk (List.mem_of_getElem? hWk)
                    have hWe : wdl d45_F37 (24 * Int32.toNatClampNeg y56_5) (Int32.toNatClampNeg (d45_F38 (Int32.toNatClampNeg y56_5))) = Wk := by rw [← ir9, rw_at (by omega)] at hWk; exact Option.some.inj hWk
                    have hsz := wds_sz hws (j := Int32.toNatClampNeg y56_5) (by omega)
                    have kz : (d45_F38 (Int32.toNatClampNeg y56_5)).toInt = ((Int32.toNatClampNeg (d45_F38 (Int32.toNatClampNeg y56_5)) : Nat) : Int) := by have h9 : Int32.toNatClampNeg (d45_F38 (Int32.toNatClampNeg y56_5)) = (d45_F38 (Int32.toNatClampNeg y56_5)).toInt.toNat := rfl; omega
                    have f24ki : (24 * y56_5).toInt = 24 * y56_5.toInt := z_muld (by decide +kernel) (by omega) (by omega)
                    have ki := clampI (x := 24 * y56_5) (by omega)
                    have hi24 : Int32.toNatClampNeg (24 * y56_5) = 24 * Int32.toNatClampNeg y56_5 := by omega
                    have f48 : (24 * y56_5).toInt = 24 * y56_5.toInt := z_muld (by decide +kernel) (by omega) (by omega)
                    refine pw_if (fun hb81 => ?_)
                    obtain ⟨hbl81, hbr81⟩ := hb81
                    have f49 := hg15 (Int32.toNatClampNeg y56_5)
                    have hMI82 : id (MInv (upd (upd (upd (upd (upd (upd g 23 d56_g23) 27 d56_g27) 30 d56_g30) 34 d56_g34) 36 d56_g36) 39 d45_g39) (upF (upF (upF (upF (upF (upF (upF (upF (upF (upF (upF (upF (upF F 22 d56_F22) 24 d56_F24) 25 d56_F25) 26 d56_F26) 28 d56_F28) 29 d56_F29) 31 d56_F31) 32 d56_F32) 33 d56_F33) 37 d45_F37) 38 d45_F38) 40 d56_F40) 41 d56_F41)) := show MInv (upd (upd (upd (upd (upd (upd g 23 d56_g23) 27 d56_g27) 30 d56_g30) 34 d56_g34) 36 d56_g36) 39 d45_g39) (upF (upF (upF (upF (upF (upF (upF (upF (upF (upF (upF (upF (upF F 22 d56_F22) 24 d56_F24) 25 d56_F25) 26 d56_F26) 28 d56_F28) 29 d56_F29) 31 d56_F31) 32 d56_F32) 33 d56_F33) 37 d45_F37) 38 d45_F38) 40 d56_F40) 41 d56_F41) from (MInv_i ((hI9.1)) ((hI9.2.1)) ((hI9.2.2.1)) ((hI9.2.2.2.1)) ((hI9.2.2.2.2.1)) ((hI9.2.2.2.2.2.1)) ((hI9.2.2.2.2.2.2.1)) ((hI9.2.2.2.2.2.2.2.1)) hzg9 hg19 hg20 hg21 hg22 hg23 hg10 ((hI9.2.2.2.2.2.2.2.2.2.2.2.2.2.2.2.1)) ((hI9.2.2.2.2.2.2.2.2.2.2.2.2.2.2.2.2.1)) ((hI9.2.2.2.2.2.2.2.2.2.2.2.2.2.2.2.2.2.1)) ((hI9.2.2.2.2.2.2.2.2.2.2.2.2.2.2.2.2.2.2.1)) ((hI9.2.2.2.2.2.2.2.2.2.2.2.2.2.2.2.2.2.2.2.1)) ((hI9.2.2.2.2.2.2.2.2.2.2.2.2.2.2.2.2.2.2.2.2.1)) ((hI9.2.2.2.2.2.2.2.2.2.2.2.2.2.2.2.2.2.2.2.2.2.1)) ((hI9.2.2.2.2.2.2.2.2.2.2.2.2.2.2.2.2.2.2.2.2.2.2.1)) ((hI9.2.2.2.2.2.2.2.2.2.2.2.2.2.2.2.2.2.2.2.2.2.2.2.1)) ((hI9.2.2.2.2.2.2.2.2.2.2.2.2.2.2.2.2.2.2.2.2.2.2.2.2.1)) hzF11 hzF12 hzF13 hzF15 hzF19 hzF21 hg24 hg25 hg26 hg27 hg15 hg28 hzF43 hzF45 hzF46 hzF50 hzF53 hzF54 hzLQ)
                    have hpr82_0 : (0 ≤ (24 * y56_5).toInt ∧ (24 * y56_5).toInt + (d45_F38 (Int32.toNatClampNeg y56_5)).toInt ≤ 288) := by first | assumption | omega
                    have hpr82_1 : 288 ≤ 500000 := by first | assumption | omega
                    have hpr82_2 : (0 ≤ (d45_F38 (Int32.toNatClampNeg y56_5)).toInt ∧ (d45_F38 (Int32.toNatClampNeg y56_5)).toInt ≤ 24) := by first | assumption | omega
                    refine pw_b2 (fun c82_g23 c82_F22 hc82 => ?_)
                    have hq82 := wp_at (ok_takeWord (upd (upd (upd (upd (upd (upd g 23 d56_g23) 27 d56_g27) 30 d56_g30) 34 d56_g34) 36 d56_g36) 39 d45_g39) (upF (upF (upF (upF (upF (upF (upF (upF (upF (upF (upF (upF (upF F 22 d56_F22) 24 d56_F24) 25 d56_F25) 26 d56_F26) 28 d56_F28) 29 d56_F29) 31 d56_F31) 32 d56_F32) 33 d56_F33) 37 d45_F37) 38 d45_F38) 40 d56_F40) 41 d56_F41) d45_F37 288 (24 * y56_5) (d45_F38 (Int32.toNatClampNeg y56_5)) hMI82 hpr82_0 hpr82_1 hpr82_2) hc82
                    obtain ⟨hg50, f51⟩ : (((0) ≤ c82_g23.toInt ∧ c82_g23.toInt ≤ 24)) ∧ (c82_g23.toInt = (d45_F38 (Int32.toNatClampNeg y56_5)).toInt) := hq82
                    have h882_hbx : BW (wdl d45_F37 (Int32.toNatClampNeg (24 * y56_5)) (Int32.toNatClampNeg (d45_F38 (Int32.toNatClampNeg y56_5)))) := by rw [hi24, hWe]; exact wk3
                    have hx82 := pwq (fn_takeWord (upd (upd (upd (upd (upd (upd g 23 d56_g23) 27 d56_g27) 30 d56_g30) 34 d56_g34) 36 d56_g36) 39 d45_g39) (upF (upF (upF (upF (upF (upF (upF (upF (upF (upF (upF (upF (upF F 22 d56_F22) 24 d56_F24) 25 d56_F25) 26 d56_F26) 28 d56_F28) 29 d56_F29) 31 d56_F31) 32 d56_F32) 33 d56_F33) 37 d45_F37) 38 d45_F38) 40 d56_F40) 41 d56_F41) d45_F37 288 (24 * y56_5) (d45_F38 (Int32.toNatClampNeg y56_5)) hMI82 hpr82_0 hpr82_1 hpr82_2 h882_hbx) hc82
                    obtain ⟨p82_0, p82_1⟩ : (c82_g23.toInt = (d45_F38 (Int32.toNatClampNeg y56_5)).toInt) ∧ (wdl c82_F22 0 (Int32.toNatClampNeg c82_g23) = wdl d45_F37 (Int32.toNatClampNeg (24 * y56_5)) (Int32.toNatClampNeg (d45_F38 (Int32.toNatClampNeg y56_5)))) := hx82
                    rw [hi24, hWe] at p82_1
                    have hMI87 : id (MInv (upd (upd (upd (upd (upd (upd g 23 c82_g23) 27 d56_g27) 30 d56_g30) 34 d56_g34) 36 d56_g36) 39 d45_g39) (upF (upF (upF (upF (upF (upF (upF (upF (upF (upF (upF (upF (upF F 22 c82_F22) 24 d56_F24) 25 d56_F25) 26 d56_F26) 28 d56_F28) 29 d56_F29) 31 d56_F31) 32 d56_F32) 33 d56_F33) 37 d45_F37) 38 d45_F38) 40 d56_F40) 41 d56_F41)) := show MInv (upd (upd (upd (upd (upd (upd g 23 c82_g23) 27 d56_g27) 30 d56_g30) 34 d56_g34) 36 d56_g36) 39 d45_g39) (upF (upF (upF (upF (upF (upF (upF (upF (upF (upF (upF (upF (upF F 22 c82_F22) 24 d56_F24) 25 d56_F25) 26 d56_F26) 28 d56_F28) 29 d56_F29) 31 d56_F31) 32 d56_F32) 33 d56_F33) 37 d45_F37) 38 d45_F38) 40 d56_F40) 41 d56_F41) from (MInv_i ((hI9.1)) ((hI9.2.1)) ((hI9.2.2.1)) ((hI9.2.2.2.1)) ((hI9.2.2.2.2.1)) ((hI9.2.2.2.2.2.1)) ((hI9.2.2.2.2.2.2.1)) ((hI9.2.2.2.2.2.2.2.1)) hzg9 hg50 hg20 hg21 hg22 hg23 hg10 ((hI9.2.2.2.2.2.2.2.2.2.2.2.2.2.2.2.1)) ((hI9.2.2.2.2.2.2.2.2.2.2.2.2.2.2.2.2.1)) ((hI9.2.2.2.2.2.2.2.2.2.2.2.2.2.2.2.2.2.1)) ((hI9.2.2.2.2.2.2.2.2.2.2.2.2.2.2.2.2.2.2.1)) ((hI9.2.2.2.2.2.2.2.2.2.2.2.2.2.2.2.2.2.2.2.1)) ((hI9.2.2.2.2.2.2.2.2.2.2.2.2.2.2.2.2.2.2.2.2.1)) ((hI9.2.2.2.2.2.2.2.2.2.2.2.2.2.2.2.2.2.2.2.2.2.1)) ((hI9.2.2.2.2.2.2.2.2.2.2.2.2.2.2.2.2.2.2.2.2.2.2.1)) ((hI9.2.2.2.2.2.2.2.2.2.2.2.2.2.2.2.2.2.2.2.2.2.2.2.1)) ((hI9.2.2.2.2.2.2.2.2.2.2.2.2.2.2.2.2.2.2.2.2.2.2.2.2.1)) hzF11 hzF12 hzF13 hzF15 hzF19 hzF21 hg24 hg25 hg26 hg27 hg15 hg28 hzF43 hzF45 hzF46 hzF50 hzF53 hzF54 hzLQ)
                    have hpr87_0 : (0 ≤ y45_3.toInt ∧ y45_3.toInt < (g 9).toInt) := by first | assumption | omega
                    refine pw_b12 (fun c87_g27 c87_g30 c87_g34 c87_g36 c87_F24 c87_F25 c87_F26 c87_F28 c87_F29 c87_F31 c87_F32 c87_F33 hc87 => ?_)
                    have hq87 := wp_at (ok_turnBy (upd (upd (upd (upd (upd (upd g 23 c82_g23) 27 d56_g27) 30 d56_g30) 34 d56_g34) 36 d56_g36) 39 d45_g39) (upF (upF (upF (upF (upF (upF (upF (upF (upF (upF (upF (upF (upF F 22 c82_F22) 24 d56_F24) 25 d56_F25) 26 d56_F26) 28 d56_F28) 29 d56_F29) 31 d56_F31) 32 d56_F32) 33 d56_F33) 37 d45_F37) 38 d45_F38) 40 d56_F40) 41 d56_F41) y45_3 hMI87 hpr87_0) hc87
                    obtain ⟨hg52, hg53, hg54, hg55, hg56, hg57, hg58, hg59⟩ : (((0) ≤ c87_g27.toInt ∧ c87_g27.toInt ≤ 30)) ∧ (((0) ≤ c87_g30.toInt ∧ c87_g30.toInt ≤ 384)) ∧ (((0) ≤ c87_g34.toInt ∧ c87_g34.toInt ≤ 30)) ∧ (((0) ≤ c87_g36.toInt ∧ c87_g36.toInt ≤ 1)) ∧ (rng (0) 24 c87_F24) ∧ (rng (0) 24 c87_F25) ∧ (rng (0) 24 c87_F26) ∧ (rng (0) 24 c87_F33) := hq87
                    have h887_hrv : RVd (F 13) (F 20) (F 21) (F 12) (F 18) (F 19) (F 11) (F 14) (F 15) (F 16) (F 17) (Int32.toNatClampNeg y45_3) = ((d (Int32.toNatClampNeg y45_3))) := by exact hdr
                    have h887_hwf : WFD ((d (Int32.toNatClampNeg y45_3))) := by exact hdw
                    have h887_hW : wdl c82_F22 0 (Int32.toNatClampNeg c82_g23) = (Wk) := by exact p82_1
                    have h887_hl1 : 1 ≤ c82_g23.toInt := by omega
                    have h887_hbw : BW (Wk) := by exact wk3
                    have hx87 := pwq (fn_turnBy (upd (upd (upd (upd (upd (upd g 23 c82_g23) 27 d56_g27) 30 d56_g30) 34 d56_g34) 36 d56_g36) 39 d45_g39) (upF (upF (upF (upF (upF (upF (upF (upF (upF (upF (upF (upF (upF F 22 c82_F22) 24 d56_F24) 25 d56_F25) 26 d56_F26) 28 d56_F28) 29 d56_F29) 31 d56_F31) 32 d56_F32) 33 d56_F33) 37 d45_F37) 38 d45_F38) 40 d56_F40) 41 d56_F41) y45_3 ((d (Int32.toNatClampNeg y45_3))) (Wk) hMI87 hpr87_0 h887_hrv h887_hwf h887_hW h887_hl1 h887_hbw) hc87
                    obtain ⟨p87_0, p87_1⟩ : (rwW c87_g34 c87_F32 c87_F33 24 = (cdF ((d (Int32.toNatClampNeg y45_3))) (Wk)).foldl (addF 31) []) ∧ (id ((∀ j, j < Int32.toNatClampNeg c87_g34 → Int32.toNatClampNeg (c87_F33 j) ≤ 24))) := hx87
                    obtain ⟨DW, hDW⟩ : ∃ DW9 : List Wd, DW9 = ((cdF (d (Int32.toNatClampNeg y45_3)) Wk).foldl (addF 31) []) := ⟨_, rfl⟩
                    rw [← hDW] at p87_0
                    have hDw : WDS DW := by rw [hDW]; exact fold_wds _ _ (cd_wds hdw ⟨wk1, wk2, wk3⟩) wds_0
                    have hbm := hg54
                    have cm := clampI (x := c87_g34) (by omega)
                    have hDl := congrArg List.length p87_0
                    rw [rw_len] at hDl
                    have hDr := hDw
                    rw [← p87_0] at hDr
                    obtain ⟨TW, hTW⟩ : ∃ TW9 : List Wd, TW9 = tpre (d (Int32.toNatClampNeg y45_3)) (FW) (Int32.toNatClampNeg y56_5) := ⟨_, rfl⟩
                    have hTw : WDS TW := by rw [hTW]; exact tpre_wds hdw iw9
                    have in9 : rwW y56_4 d56_F40 d56_F41 24 = TW := by rw [hTW]; exact in56
                    refine pw_jE (fun k256 ek256 => ?_)
                    have lp93 : ∀ (n93 : Nat) (y93_4 : Int32) (y93_6 : Int32) (d93_F40 : (Nat → Int32)) (d93_F41 : (Nat → Int32)), rng (0) 24 d93_F41 → (0 ≤ y93_4.toInt ∧ y93_4.toInt ≤ 12) → (0 ≤ y93_6.toInt ∧ y93_6.toInt ≤ 30) → y93_6.toInt ≤ c87_g34.toInt → (rwW y93_4 d93_F40 d93_F41 24 = (DW.take (Int32.toNatClampNeg y93_6)).foldl (addF 12) (TW)) → pw (L_through_93 c87_g34 c87_F32 c87_F33 k256 n93 y93_4 y93_6 d93_F40 d93_F41) (QF_through g F p0 p1 d W) := by
                      intro n93
                      induction n93 with
                      | zero => intros; exact pw_none
                      | succ n93 ih93 =>
                        intro y93_4 y93_6 d93_F40 d93_F41 hg60 f61 f62 f63 jn93
                        show pw (B_through_93 c87_g34 c87_F32 c87_F33 k256 (L_through_93 c87_g34 c87_F32 c87_F33 k256 n93) y93_4 y93_6 d93_F40 d93_F41) _
                        unfold B_through_93
                        have k4 := clampI (x := y93_4) (by omega)
                        have hjl := congrArg List.length jn93
                        rw [rw_len] at hjl
                        refine pw_ite (fun c99 => ?_) (fun c99 => ?_)
                        · have c99 := (z_le _ _).mp c99
                          have hstop : (DW.take (Int32.toNatClampNeg y93_6)).foldl (addF 12) (TW) = DW.foldl (addF 12) (TW) := by rw [List.take_of_length_le (by have k6 := clampI (x := y93_6) (by omega); omega)]
                          refine pw_j3 ek256 (fun x256_4 ex256_4 z256_1 ez256_1 z256_2 ez256_2 => ?_)
                          subst ez256_1 ez256_2
                          have ex256_4 := ex256_4.symm
                          have f_x256_4 : x256_4.toInt = y93_4.toInt := by rw [ex256_4]
                          have f64 : (y56_5 + 1).toInt = y56_5.toInt + (1) := z_addc (by decide +kernel) (by omega) (by omega)
                          have iv56_0 : (0 ≤ x256_4.toInt ∧ x256_4.toInt ≤ 12) := by omega
                          have iv56_1 : (0 ≤ (y56_5 + 1).toInt ∧ (y56_5 + 1).toInt ≤ 12) := by omega
                          have iv56_2 : (y56_5 + 1).toInt ≤ d45_g39.toInt := by omega
                          have iv56_3 : (rwW x256_4 d93_F40 d93_F41 24 = tpre (d (Int32.toNatClampNeg y45_3)) (FW) (Int32.toNatClampNeg (y56_5 + 1))) := by have k6 := clampI (x := y56_5 + 1) (by omega); rw [show Int32.toNatClampNeg (y56_5 + 1) = Int32.toNatClampNeg y56_5 + 1 by omega, tpre_s hWk, ← cd_fold]; rw [← hDW, ← hTW, ex256_4, jn93]; exact hstop
                          exact ih56 x256_4 (y56_5 + 1) c82_g23 c87_g27 c87_g30 c87_g34 c87_g36 c82_F22 c87_F24 c87_F25 c87_F26 c87_F28 c87_F29 c87_F31 c87_F32 c87_F33 d93_F40 d93_F41 hg50 hg52 hg53 hg54 hg55 hg56 hg57 hg58 hg59 hg60 iv56_0 iv56_1 iv56_2 iv56_3
                        · have c99 := z_nle c99
                          refine pw_ite (fun c106 => ?_) (fun c106 => ?_)
                          · have c106 := (z_le _ _).mp c106
                            have hstop : (DW.take (Int32.toNatClampNeg y93_6)).foldl (addF 12) (TW) = DW.foldl (addF 12) (TW) := fold_stop (by omega)
                            refine pw_j3 ek256 (fun x256_4 ex256_4 z256_1 ez256_1 z256_2 ez256_2 => ?_)
                            subst ez256_1 ez256_2
                            have ex256_4 := ex256_4.symm
                            have f_x256_4 : x256_4.toInt = y93_4.toInt := by rw [ex256_4]
                            have f65 : (y56_5 + 1).toInt = y56_5.toInt + (1) := z_addc (by decide +kernel) (by omega) (by omega)
                            have iv56_0 : (0 ≤ x256_4.toInt ∧ x256_4.toInt ≤ 12) := by omega
                            have iv56_1 : (0 ≤ (y56_5 + 1).toInt ∧ (y56_5 + 1).toInt ≤ 12) := by omega
                            have iv56_2 : (y56_5 + 1).toInt ≤ d45_g39.toInt := by omega
                            have iv56_3 : (rwW x256_4 d93_F40 d93_F41 24 = tpre (d (Int32.toNatClampNeg y45_3)) (FW) (Int32.toNatClampNeg (y56_5 + 1))) := by have k6 := clampI (x := y56_5 + 1) (by omega); rw [show Int32.toNatClampNeg (y56_5 + 1) = Int32.toNatClampNeg y56_5 + 1 by omega, tpre_s hWk, ← cd_fold]; rw [← hDW, ← hTW, ex256_4, jn93]; exact hstop
                            exact ih56 x256_4 (y56_5 + 1) c82_g23 c87_g27 c87_g30 c87_g34 c87_g36 c82_F22 c87_F24 c87_F25 c87_F26 c87_F28 c87_F29 c87_F31 c87_F32 c87_F33 d93_F40 d93_F41 hg50 hg52 hg53 hg54 hg55 hg56 hg57 hg58 hg59 hg60 iv56_0 iv56_1 iv56_2 iv56_3
                          · have c106 := z_nle c106
                            have k6 := clampI (x := y93_6) (by omega)
                            obtain ⟨x, hx⟩ := get_ex (l := DW) (i := Int32.toNatClampNeg y93_6) (by omega)
                            obtain ⟨x1, x2, x3⟩ := hDw x (List.mem_of_getElem? hx)
                            have hxe : wdl c87_F32 (24 * Int32.toNatClampNeg y93_6) (Int32.toNatClampNeg (c87_F33 (Int32.toNatClampNeg y93_6))) = x := by rw [← p87_0, rw_at (by omega)] at hx; exact Option.some.inj hx
                            have hs6 := wds_sz hDr (j := Int32.toNatClampNeg y93_6) (by omega)
                            have ks : (c87_F33 (Int32.toNatClampNeg y93_6)).toInt = ((Int32.toNatClampNeg (c87_F33 (Int32.toNatClampNeg y93_6)) : Nat) : Int) := by have h9 : Int32.toNatClampNeg (c87_F33 (Int32.toNatClampNeg y93_6)) = (c87_F33 (Int32.toNatClampNeg y93_6)).toInt.toNat := rfl; omega
                            have f24kj : (24 * y93_6).toInt = 24 * y93_6.toInt := z_muld (by decide +kernel) (by omega) (by omega)
                            have kj := clampI (x := 24 * y93_6) (by omega)
                            have hj24 : Int32.toNatClampNeg (24 * y93_6) = 24 * Int32.toNatClampNeg y93_6 := by omega
                            have hnr : WDS (rwW y93_4 d93_F40 d93_F41 24) := by rw [jn93]; exact take_wds hDw hTw
                            refine pw_jE (fun k178 ek178 => ?_)
                            have lp115 : ∀ (n115 : Nat) (y115_7 : Int32) (y115_8 : Int32), (0 ≤ y115_8.toInt ∧ y115_8.toInt ≤ 12) → y115_8.toInt ≤ y93_4.toInt → (y115_7.toInt ≠ 0 → ∀ j y, j < Int32.toNatClampNeg y115_8 → (rwW y93_4 d93_F40 d93_F41 24)[j]? = some y → y ≠ x) → (y115_7.toInt = 0 → x ∈ (DW.take (Int32.toNatClampNeg y93_6)).foldl (addF 12) (TW)) → pw (L_through_115 c87_F32 c87_F33 y93_4 y93_6 d93_F40 d93_F41 k178 n115 y115_7 y115_8) (QF_through g F p0 p1 d W) := by
                              intro n115
                              induction n115 with
                              | zero => intros; exact pw_none
                              | succ n115 ih115 =>
                                intro y115_7 y115_8 f66 f67 ko115 kf115
                                show pw (B_through_115 c87_F32 c87_F33 y93_4 y93_6 d93_F40 d93_F41 k178 (L_through_115 c87_F32 c87_F33 y93_4 y93_6 d93_F40 d93_F41 k178 n115) y115_7 y115_8) _
                                unfold B_through_115
                                refine pw_ite (fun c119 => ?_) (fun c119 => ?_)
                                · have c119 := (z_le _ _).mp c119
                                  refine pw_j1 ek178 (fun x178_7 ex178_7 => ?_)
                                  have ex178_7 := ex178_7.symm
                                  have f_x178_7 : x178_7.toInt = y115_7.toInt := by rw [ex178_7]
                                  refine pw_jE (fun j250 ej250 => ?_)
                                  refine pw_ite (fun c180 => ?_) (fun c180 => ?_)
                                  · have c180 := congrArg Int32.toInt c180
                                    refine pw_j3 ej250 (fun x250_4 ex250_4 z250_1 ez250_1 z250_2 ez250_2 => ?_)
                                    subst ez250_1 ez250_2
                                    have ex250_4 := ex250_4.symm
                                    have f_x250_4 : x250_4.toInt = y93_4.toInt := by rw [ex250_4]
                                    have f68 : (y93_6 + 1).toInt = y93_6.toInt + (1) := z_addc (by decide +kernel) (by omega) (by omega)
                                    have iv93_0 : (0 ≤ x250_4.toInt ∧ x250_4.toInt ≤ 12) := by omega
                                    have iv93_1 : (0 ≤ (y93_6 + 1).toInt ∧ (y93_6 + 1).toInt ≤ 30) := by omega
                                    have iv93_2 : (y93_6 + 1).toInt ≤ c87_g34.toInt := by omega
                                    have iv93_3 : (rwW x250_4 d93_F40 d93_F41 24 = (DW.take (Int32.toNatClampNeg (y93_6 + 1))).foldl (addF 12) (TW)) := by have k6 := clampI (x := y93_6 + 1) (by omega); rw [show Int32.toNatClampNeg (y93_6 + 1) = Int32.toNatClampNeg y93_6 + 1 by omega, fold_pre hx]; rw [addF_in (kf115 (by omega)), ex250_4]; exact jn93
                                    exact ih93 x250_4 (y93_6 + 1) d93_F40 d93_F41 hg60 iv93_0 iv93_1 iv93_2 iv93_3
                                  · have c180 := z_ne c180
                                    have hnin : x ∉ (DW.take (Int32.toNatClampNeg y93_6)).foldl (addF 12) (TW) := by rw [← jn93]; intro h9; obtain ⟨j, hj⟩ := List.getElem?_of_mem h9; have h8 := get_lt hj; rw [rw_len] at h8; exact ko115 (by omega) j x (by have k8 := clampI (x := y115_8) (by omega); omega) hj rfl
                                    refine pw_jE (fun k233 ek233 => ?_)
                                    have lp189 : ∀ (n189 : Nat) (y189_8 : Int32) (d189_F40 : (Nat → Int32)), 0 ≤ y189_8.toInt → y189_8.toInt ≤ (c87_F33 (Int32.toNatClampNeg y93_6)).toInt → (∀ q, q < 24 * Int32.toNatClampNeg y93_4 → d189_F40 q = d93_F40 q) → (wdl d189_F40 (24 * Int32.toNatClampNeg y93_4) (Int32.toNatClampNeg y189_8) = wdl c87_F32 (24 * Int32.toNatClampNeg y93_6) (Int32.toNatClampNeg y189_8)) → pw (L_through_189 c87_F32 c87_F33 y93_4 y93_6 k233 n189 y189_8 d189_F40) (QF_through g F p0 p1 d W) := by
                                      intro n189
                                      induction n189 with
                                      | zero => intros; exact pw_none
                                      | succ n189 ih189 =>
                                        intro y189_8 d189_F40 f69 f70 co189 ci189
                                        show pw (B_through_189 c87_F32 c87_F33 y93_4 y93_6 k233 (L_through_189 c87_F32 c87_F33 y93_4 y93_6 k233 n189) y189_8 d189_F40) _
                                        unfold B_through_189
                                        refine pw_if (fun hb197 => ?_)
                                        obtain ⟨hbl197, hbr197⟩ := hb197
                                        have f71 := hg59 (Int32.toNatClampNeg y93_6)
                                        refine pw_ite (fun c198 => ?_) (fun c198 => ?_)
                                        · have c198 := (z_le _ _).mp c198
                                          refine pw_j1 ek233 (fun z233_1 ez233_1 => ?_)
                                          subst ez233_1
                                          refine pw_if (fun hb245 => ?_)
                                          obtain ⟨hbl245, hbr245⟩ := hb245
                                          refine pw_if (fun hb246 => ?_)
                                          obtain ⟨hbl246, hbr246⟩ := hb246
                                          refine pw_vl (fun w246 ew246 => ?_)
                                          have hF73 : rng (0) 24 w246 := by rw [ew246]; exact rng_upd hg60 (by omega) (by omega)
                                          have f74 : (y93_4 + 1).toInt = y93_4.toInt + (1) := z_addc (by decide +kernel) (by omega) (by omega)
                                          refine pw_j3 ej250 (fun x250_4 ex250_4 z250_1 ez250_1 z250_2 ez250_2 => ?_)
                                          subst ez250_1 ez250_2
                                          have ex250_4 := ex250_4.symm
                                          have f_x250_4 : x250_4.toInt = (y93_4 + 1).toInt := by rw [ex250_4]
                                          have f75 : (y93_6 + 1).toInt = y93_6.toInt + (1) := z_addc (by decide +kernel) (by omega) (by omega)
                                          have iv93_0 : (0 ≤ x250_4.toInt ∧ x250_4.toInt ≤ 12) := by omega
                                          have iv93_1 : (0 ≤ (y93_6 + 1).toInt ∧ (y93_6 + 1).toInt ≤ 30) := by omega
                                          have iv93_2 : (y93_6 + 1).toInt ≤ c87_g34.toInt := by omega
                                          have iv93_3 : (rwW x250_4 d189_F40 w246 24 = (DW.take (Int32.toNatClampNeg (y93_6 + 1))).foldl (addF 12) (TW)) := by have k6 := clampI (x := y93_6 + 1) (by omega); rw [show Int32.toNatClampNeg (y93_6 + 1) = Int32.toNatClampNeg y93_6 + 1 by omega, fold_pre hx]; have kk := clampI (x := x250_4) (by omega); rw [addF_new hnin (by omega), ← jn93]; refine rw_app (by omega) (fun q hq => co189 q (by omega)) (fun j hj => by rw [ew246, pk_un (by omega)]) (fun j hj => (wds_sz hnr hj).2) ?_; rw [ew246, pk_us]; have h9 := ci189; rw [show Int32.toNatClampNeg y189_8 = Int32.toNatClampNeg (c87_F33 (Int32.toNatClampNeg y93_6)) by have k8 := clampI (x := y189_8) (by omega); omega, hxe] at h9; exact h9
                                          exact ih93 x250_4 (y93_6 + 1) d189_F40 w246 hF73 iv93_0 iv93_1 iv93_2 iv93_3
                                        · have c198 := z_nle c198
                                          have f76 : (24 * y93_4).toInt = 24 * y93_4.toInt := z_muld (by decide +kernel) (by omega) (by omega)
                                          have f77 : ((24 * y93_4) + y189_8).toInt = (24 * y93_4).toInt + y189_8.toInt := z_add (by omega) (by omega)
                                          have f78 : (24 * y93_6).toInt = 24 * y93_6.toInt := z_muld (by decide +kernel) (by omega) (by omega)
                                          have f79 : ((24 * y93_6) + y189_8).toInt = (24 * y93_6).toInt + y189_8.toInt := z_add (by omega) (by omega)
                                          refine pw_if (fun hb225 => ?_)
                                          obtain ⟨hbl225, hbr225⟩ := hb225
                                          refine pw_if (fun hb226 => ?_)
                                          obtain ⟨hbl226, hbr226⟩ := hb226
                                          refine pw_vl (fun w226 ew226 => ?_)
                                          have f80 : (y189_8 + 1).toInt = y189_8.toInt + (1) := z_addc (by decide +kernel) (by omega) (by omega)
                                          have iv189_0 : 0 ≤ (y189_8 + 1).toInt := by omega
                                          have iv189_1 : (y189_8 + 1).toInt ≤ (c87_F33 (Int32.toNatClampNeg y93_6)).toInt := by omega
                                          have iv189_2 : (∀ q, q < 24 * Int32.toNatClampNeg y93_4 → w226 q = d93_F40 q) := by have k8 := clampI (x := y189_8) (by omega); have k9 := clampI (x := y189_8 + 1) (by omega); have kd := clampI (x := (24 * y93_4) + y189_8) (by omega); have ks9 := clampI (x := (24 * y93_6) + y189_8) (by omega); intro q hq; rw [ew226, pk_un (by omega)]; exact co189 q hq
                                          have iv189_3 : (wdl w226 (24 * Int32.toNatClampNeg y93_4) (Int32.toNatClampNeg (y189_8 + 1)) = wdl c87_F32 (24 * Int32.toNatClampNeg y93_6) (Int32.toNatClampNeg (y189_8 + 1))) := by have k8 := clampI (x := y189_8) (by omega); have k9 := clampI (x := y189_8 + 1) (by omega); have kd := clampI (x := (24 * y93_4) + y189_8) (by omega); have ks9 := clampI (x := (24 * y93_6) + y189_8) (by omega); rw [ew226, show Int32.toNatClampNeg (y189_8 + 1) = Int32.toNatClampNeg y189_8 + 1 by omega, wdl_s1, wdl_s1, show 24 * Int32.toNatClampNeg y93_4 + Int32.toNatClampNeg y189_8 = Int32.toNatClampNeg ((24 * y93_4) + y189_8) by omega, pk_us, show Int32.toNatClampNeg ((24 * y93_6) + y189_8) = 24 * Int32.toNatClampNeg y93_6 + Int32.toNatClampNeg y189_8 by omega, x3 _ (by rw [← hxe]; exact wdl_mem (by omega)), wdl_ext (fun i hi => pk_un (by omega)), ci189]
                                          exact ih189 (y189_8 + 1) w226 iv189_0 iv189_1 iv189_2 iv189_3
                                    exact lp189 NN (0 : Int32) d93_F40 (show 0 ≤ (0 : Int32).toInt from by omega) (show (0 : Int32).toInt ≤ (c87_F33 (Int32.toNatClampNeg y93_6)).toInt from by omega) (show (∀ q, q < 24 * Int32.toNatClampNeg y93_4 → d93_F40 q = d93_F40 q) from by intro q hq; rfl) (show (wdl d93_F40 (24 * Int32.toNatClampNeg y93_4) (Int32.toNatClampNeg (0 : Int32)) = wdl c87_F32 (24 * Int32.toNatClampNeg y93_6) (Int32.toNatClampNeg (0 : Int32))) from by exact (wdl_nil.mpr rfl).trans (wdl_nil.mpr rfl).symm)
                                · have c119 := z_nle c119
                                  refine pw_ite (fun c124 => ?_) (fun c124 => ?_)
                                  · have c124 := congrArg Int32.toInt c124
                                    refine pw_j1 ek178 (fun x178_7 ex178_7 => ?_)
                                    have ex178_7 := ex178_7.symm
                                    have f_x178_7 : x178_7.toInt = y115_7.toInt := by rw [ex178_7]
                                    refine pw_jE (fun j250 ej250 => ?_)
                                    refine pw_ite (fun c180 => ?_) (fun c180 => ?_)
                                    · have c180 := congrArg Int32.toInt c180
                                      refine pw_j3 ej250 (fun x250_4 ex250_4 z250_1 ez250_1 z250_2 ez250_2 => ?_)
                                      subst ez250_1 ez250_2
                                      have ex250_4 := ex250_4.symm
                                      have f_x250_4 : x250_4.toInt = y93_4.toInt := by rw [ex250_4]
                                      have f81 : (y93_6 + 1).toInt = y93_6.toInt + (1) := z_addc (by decide +kernel) (by omega) (by omega)
                                      have iv93_0 : (0 ≤ x250_4.toInt ∧ x250_4.toInt ≤ 12) := by omega
                                      have iv93_1 : (0 ≤ (y93_6 + 1).toInt ∧ (y93_6 + 1).toInt ≤ 30) := by omega
                                      have iv93_2 : (y93_6 + 1).toInt ≤ c87_g34.toInt := by omega
                                      have iv93_3 : (rwW x250_4 d93_F40 d93_F41 24 = (DW.take (Int32.toNatClampNeg (y93_6 + 1))).foldl (addF 12) (TW)) := by have k6 := clampI (x := y93_6 + 1) (by omega); rw [show Int32.toNatClampNeg (y93_6 + 1) = Int32.toNatClampNeg y93_6 + 1 by omega, fold_pre hx]; rw [addF_in (kf115 (by omega)), ex250_4]; exact jn93
                                      exact ih93 x250_4 (y93_6 + 1) d93_F40 d93_F41 hg60 iv93_0 iv93_1 iv93_2 iv93_3
                                    · have c180 := z_ne c180
                                      have hnin : x ∉ (DW.take (Int32.toNatClampNeg y93_6)).foldl (addF 12) (TW) := by rw [← jn93]; intro h9; obtain ⟨j, hj⟩ := List.getElem?_of_mem h9; have h8 := get_lt hj; rw [rw_len] at h8; exact ko115 (by omega) j x (by have k8 := clampI (x := y115_8) (by omega); omega) hj rfl
                                      exfalso; omega
                                  · have c124 := z_ne c124
                                    have k8 := clampI (x := y115_8) (by omega)
                                    have hne : (rwW y93_4 d93_F40 d93_F41 24)[Int32.toNatClampNeg y115_8]? = some (wdl d93_F40 (24 * Int32.toNatClampNeg y115_8) (Int32.toNatClampNeg (d93_F41 (Int32.toNatClampNeg y115_8)))) := rw_at (by omega)
                                    have hs8 := wds_sz hnr (j := Int32.toNatClampNeg y115_8) (by omega)
                                    have kt : (d93_F41 (Int32.toNatClampNeg y115_8)).toInt = ((Int32.toNatClampNeg (d93_F41 (Int32.toNatClampNeg y115_8)) : Nat) : Int) := by have h9 : Int32.toNatClampNeg (d93_F41 (Int32.toNatClampNeg y115_8)) = (d93_F41 (Int32.toNatClampNeg y115_8)).toInt.toNat := rfl; omega
                                    have f24kq : (24 * y115_8).toInt = 24 * y115_8.toInt := z_muld (by decide +kernel) (by omega) (by omega)
                                    have kq := clampI (x := 24 * y115_8) (by omega)
                                    have hq24 : Int32.toNatClampNeg (24 * y115_8) = 24 * Int32.toNatClampNeg y115_8 := by omega
                                    have f82 : (24 * y115_8).toInt = 24 * y115_8.toInt := z_muld (by decide +kernel) (by omega) (by omega)
                                    refine pw_if (fun hb142 => ?_)
                                    obtain ⟨hbl142, hbr142⟩ := hb142
                                    have f83 := hg60 (Int32.toNatClampNeg y115_8)
                                    have f84 : (24 * y93_6).toInt = 24 * y93_6.toInt := z_muld (by decide +kernel) (by omega) (by omega)
                                    refine pw_if (fun hb158 => ?_)
                                    obtain ⟨hbl158, hbr158⟩ := hb158
                                    have f85 := hg59 (Int32.toNatClampNeg y93_6)
                                    have hpr159_0 : (0 ≤ (24 * y115_8).toInt ∧ (24 * y115_8).toInt + (d93_F41 (Int32.toNatClampNeg y115_8)).toInt ≤ 288) := by first | assumption | omega
                                    have hpr159_1 : 288 ≤ 500000 := by first | assumption | omega
                                    have hpr159_2 : (0 ≤ (24 * y93_6).toInt ∧ (24 * y93_6).toInt + (c87_F33 (Int32.toNatClampNeg y93_6)).toInt ≤ 720) := by first | assumption | omega
                                    have hpr159_3 : 720 ≤ 500000 := by first | assumption | omega
                                    refine pw_b1 (fun r159 hc159 => ?_)
                                    have hq159 := wp_at (ok_sameBytes d93_F40 288 (24 * y115_8) (d93_F41 (Int32.toNatClampNeg y115_8)) c87_F32 720 (24 * y93_6) (c87_F33 (Int32.toNatClampNeg y93_6)) hpr159_0 hpr159_1 hpr159_2 hpr159_3) hc159
                                    have f86 : (0 ≤ r159.toInt ∧ r159.toInt ≤ 1) := hq159
                                    clear hq159
                                    have h8159_h02 : 0 ≤ (d93_F41 (Int32.toNatClampNeg y115_8)).toInt := by omega
                                    have h8159_h05 : 0 ≤ (c87_F33 (Int32.toNatClampNeg y93_6)).toInt := by omega
                                    have hx159 := pwq (fn_sameBytes d93_F40 288 (24 * y115_8) (d93_F41 (Int32.toNatClampNeg y115_8)) c87_F32 720 (24 * y93_6) (c87_F33 (Int32.toNatClampNeg y93_6)) hpr159_0 hpr159_1 hpr159_2 hpr159_3 h8159_h02 h8159_h05) hc159
                                    obtain ⟨p159_0, p159_1⟩ : (id ((r159.toInt ≠ 0 → wdl d93_F40 (Int32.toNatClampNeg (24 * y115_8)) (Int32.toNatClampNeg (d93_F41 (Int32.toNatClampNeg y115_8))) = wdl c87_F32 (Int32.toNatClampNeg (24 * y93_6)) (Int32.toNatClampNeg (c87_F33 (Int32.toNatClampNeg y93_6)))))) ∧ (id ((r159.toInt = 0 → wdl d93_F40 (Int32.toNatClampNeg (24 * y115_8)) (Int32.toNatClampNeg (d93_F41 (Int32.toNatClampNeg y115_8))) ≠ wdl c87_F32 (Int32.toNatClampNeg (24 * y93_6)) (Int32.toNatClampNeg (c87_F33 (Int32.toNatClampNeg y93_6)))))) := hx159
                                    rw [hq24, hj24, hxe] at p159_0 p159_1
                                    refine pw_jE (fun j170 ej170 => ?_)
                                    refine pw_ite (fun c162 => ?_) (fun c162 => ?_)
                                    · have c162 := congrArg Int32.toInt c162
                                      refine pw_j1 ej170 (fun t170_0 et170_0 => ?_)
                                      have et170_0 := et170_0.symm
                                      have f_t170_0 : t170_0.toInt = 1 := by rw [et170_0]; decide +kernel
                                      have f87 : (y115_8 + 1).toInt = y115_8.toInt + (1) := z_addc (by decide +kernel) (by omega) (by omega)
                                      have iv115_0 : (0 ≤ (y115_8 + 1).toInt ∧ (y115_8 + 1).toInt ≤ 12) := by omega
                                      have iv115_1 : (y115_8 + 1).toInt ≤ y93_4.toInt := by omega
                                      have iv115_2 : (t170_0.toInt ≠ 0 → ∀ j y, j < Int32.toNatClampNeg (y115_8 + 1) → (rwW y93_4 d93_F40 d93_F41 24)[j]? = some y → y ≠ x) := by have k8 := clampI (x := y115_8) (by omega); have k9 := clampI (x := y115_8 + 1) (by omega); intro _ j y hj hy; by_cases q9 : j = Int32.toNatClampNeg y115_8; (subst q9; rw [hne] at hy; cases hy; exact p159_1 (by omega)); (exact ko115 (by omega) j y (by omega) hy)
                                      have iv115_3 : (t170_0.toInt = 0 → x ∈ (DW.take (Int32.toNatClampNeg y93_6)).foldl (addF 12) (TW)) := by intro h9; exfalso; omega
                                      exact ih115 t170_0 (y115_8 + 1) iv115_0 iv115_1 iv115_2 iv115_3
                                    · have c162 := z_ne c162
                                      refine pw_j1 ej170 (fun t170_0 et170_0 => ?_)
                                      have et170_0 := et170_0.symm
                                      have f_t170_0 : t170_0.toInt = 0 := by rw [et170_0]; decide +kernel
                                      have f88 : (y115_8 + 1).toInt = y115_8.toInt + (1) := z_addc (by decide +kernel) (by omega) (by omega)
                                      have iv115_0 : (0 ≤ (y115_8 + 1).toInt ∧ (y115_8 + 1).toInt ≤ 12) := by omega
                                      have iv115_1 : (y115_8 + 1).toInt ≤ y93_4.toInt := by omega
                                      have iv115_2 : (t170_0.toInt ≠ 0 → ∀ j y, j < Int32.toNatClampNeg (y115_8 + 1) → (rwW y93_4 d93_F40 d93_F41 24)[j]? = some y → y ≠ x) := by intro h9; exfalso; omega
                                      have iv115_3 : (t170_0.toInt = 0 → x ∈ (DW.take (Int32.toNatClampNeg y93_6)).foldl (addF 12) (TW)) := by intro _; rw [← jn93]; have h9 := List.mem_of_getElem? hne; rw [p159_0 (by omega)] at h9; exact h9
                                      exact ih115 t170_0 (y115_8 + 1) iv115_0 iv115_1 iv115_2 iv115_3
                            exact lp115 NN (1 : Int32) (0 : Int32) (show (0 ≤ (0 : Int32).toInt ∧ (0 : Int32).toInt ≤ 12) from by omega) (show (0 : Int32).toInt ≤ y93_4.toInt from by omega) (show ((1 : Int32).toInt ≠ 0 → ∀ j y, j < Int32.toNatClampNeg (0 : Int32) → (rwW y93_4 d93_F40 d93_F41 24)[j]? = some y → y ≠ x) from by intro _ j y hj; exact absurd hj (Nat.not_lt_zero _)) (show ((1 : Int32).toInt = 0 → x ∈ (DW.take (Int32.toNatClampNeg y93_6)).foldl (addF 12) (TW)) from by intro h9; exfalso; omega)
                    exact lp93 NN y56_4 (0 : Int32) d56_F40 d56_F41 hg28 (show (0 ≤ y56_4.toInt ∧ y56_4.toInt ≤ 12) from by omega) (show (0 ≤ (0 : Int32).toInt ∧ (0 : Int32).toInt ≤ 30) from by omega) (show (0 : Int32).toInt ≤ c87_g34.toInt from by omega) (show (rwW y56_4 d56_F40 d56_F41 24 = (DW.take (Int32.toNatClampNeg (0 : Int32))).foldl (addF 12) (TW)) from by rw [show Int32.toNatClampNeg (0 : Int32) = 0 from rfl, List.take_zero, List.foldl_nil]; exact in9)
              exact lp56 NN (0 : Int32) (0 : Int32) d45_g23 d45_g27 d45_g30 d45_g34 d45_g36 d45_F22 d45_F24 d45_F25 d45_F26 d45_F28 d45_F29 d45_F31 d45_F32 d45_F33 d45_F40 d45_F41 hg5 hg6 hg7 hg8 hg9 hg11 hg12 hg13 hg14 hg16 (show (0 ≤ (0 : Int32).toInt ∧ (0 : Int32).toInt ≤ 12) from by omega) (show (0 ≤ (0 : Int32).toInt ∧ (0 : Int32).toInt ≤ 12) from by omega) (show (0 : Int32).toInt ≤ d45_g39.toInt from by omega) (show (rwW (0 : Int32) d45_F40 d45_F41 24 = tpre (d (Int32.toNatClampNeg y45_3)) (FW) (Int32.toNatClampNeg (0 : Int32))) from by show _ = []; exact List.length_eq_zero_iff.mp (by rw [rw_len]; rfl))
        exact lp45 NN p0 (g 23) (g 27) (g 30) (g 34) (g 36) (1 : Int32) (F 22) (F 24) (F 25) (F 26) (F 28) (F 29) (F 31) (F 32) (F 33) d2_F37 w37 (F 40) (F 41) hzg23 hzg27 hzg30 hzg34 hzg36 hg4 hzF24 hzF25 hzF26 hzF33 hF3 hzF41 (show (p0.toInt ≤ p0.toInt ∧ p0.toInt ≤ 7) from by omega) (show (p0.toInt ≤ p1.toInt ∨ p0.toInt = p0.toInt) from by omega) (show (rwW (1 : Int32) d2_F37 w37 24 = thF d (Int32.toNatClampNeg p0) (Int32.toNatClampNeg p0 - Int32.toNatClampNeg p0) [W]) from by rw [Nat.sub_self]; show _ = [W]; have k3 := clampI (x := y2_3) (by omega); have h9 := rw_app (c := 0) (c1 := 1) (fl := d2_F37) (fl1 := d2_F37) (fs := w37) (fs1 := w37) (x := W) rfl (fun _ _ => rfl) (fun _ _ => rfl) (fun j hj => absurd hj (Nat.not_lt_zero _)) (by rw [show Int32.toNatClampNeg (0 : Int32) = 0 from rfl, ew37, show (0 : Nat) = Int32.toNatClampNeg (0 : Int32) from rfl, pk_us]; have h8 := ia2; rw [show Int32.toNatClampNeg y2_3 = Int32.toNatClampNeg (g 23) by omega, hW] at h8; exact h8); rw [h9]; rfl) (show (WDS (thF d (Int32.toNatClampNeg p0) (Int32.toNatClampNeg p0 - Int32.toNatClampNeg p0) [W])) from by have hW1 : WDS [W] := (fun y hy => by rw [List.mem_singleton] at hy; subst hy; exact ⟨by omega, by omega, hbw⟩); rw [Nat.sub_self]; exact hW1)
      · have c7 := z_nle c7
        refine pw_if (fun hb20 => ?_)
        obtain ⟨hbl20, hbr20⟩ := hb20
        refine pw_if (fun hb21 => ?_)
        obtain ⟨hbl21, hbr21⟩ := hb21
        refine pw_vl (fun w21 ew21 => ?_)
        have f89 : (y2_3 + 1).toInt = y2_3.toInt + (1) := z_addc (by decide +kernel) (by omega) (by omega)
        have iv2_0 : 0 ≤ (y2_3 + 1).toInt := by omega
        have iv2_1 : (y2_3 + 1).toInt ≤ (g 23).toInt := by omega
        have iv2_2 : (wdl w21 0 (Int32.toNatClampNeg (y2_3 + 1)) = wdl (F 22) 0 (Int32.toNatClampNeg (y2_3 + 1))) := by have k3 := clampI (x := y2_3) (by omega); have k4 := clampI (x := y2_3 + 1) (by omega); rw [ew21, show Int32.toNatClampNeg (y2_3 + 1) = Int32.toNatClampNeg y2_3 + 1 by omega, wdl_up rfl, ia2, wdl_s1, Nat.zero_add, bw_at hbw hW (by omega)]
        exact ih2 (y2_3 + 1) w21 iv2_0 iv2_1 iv2_2
  exact lp2 NN (0 : Int32) (F 37) (show 0 ≤ (0 : Int32).toInt from by omega) (show (0 : Int32).toInt ≤ (g 23).toInt from by omega) (show (wdl (F 37) 0 (Int32.toNatClampNeg (0 : Int32)) = wdl (F 22) 0 (Int32.toNatClampNeg (0 : Int32))) from by rfl)
