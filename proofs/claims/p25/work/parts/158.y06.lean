abbrev QF_turnBy (g : Nat → Int32) (F : Nat → Nat → Int32) (p0 : Int32) (d : Dr) (W : Wd) : (Int32 × Int32 × Int32 × Int32 × (Nat → Int32) × (Nat → Int32) × (Nat → Int32) × (Nat → Int32) × (Nat → Int32) × (Nat → Int32) × (Nat → Int32) × (Nat → Int32)) → Prop := (fun t => (rwW (t.2.2.1) (t.2.2.2.2.2.2.2.2.2.2.1) (t.2.2.2.2.2.2.2.2.2.2.2) 24 = (cdF d W).foldl (addF 31) []) ∧ ((∀ j, j < Int32.toNatClampNeg (t.2.2.1) → Int32.toNatClampNeg ((t.2.2.2.2.2.2.2.2.2.2.2) j) ≤ 24)))
set_option maxHeartbeats 4000000 in
set_option maxRecDepth 100000 in
theorem fn_turnBy (g : Nat → Int32) (F : Nat → Nat → Int32) (p0 : Int32) (d : Dr) (W : Wd) (hI : MInv g F) (hp0 : (0 ≤ p0.toInt ∧ p0.toInt < (g 9).toInt)) (hrv : RVd (F 13) (F 20) (F 21) (F 12) (F 18) (F 19) (F 11) (F 14) (F 15) (F 16) (F 17) (Int32.toNatClampNeg p0) = d) (hwf : WFD d) (hW : wdl (F 22) 0 (Int32.toNatClampNeg (g 23)) = W) (hl1 : 1 ≤ (g 23).toInt) (hbw : BW W) : pw (f_turnBy g F p0) (QF_turnBy g F p0 d W) := by
  unfold f_turnBy
  have hI9 : id (MInv g F) := hI
  obtain ⟨-, -, -, -, -, -, -, -, hzg9, hzg23, hzg27, hzg30, hzg34, hzg36, -, -, -, -, -, -, -, -, -, -, -, hzF11, hzF12, hzF13, hzF15, hzF19, hzF21, hzF24, hzF25, hzF26, hzF33, hzF38, hzF41, hzF43, hzF45, hzF46, hzF50, hzF53, hzF54, hzLQ⟩ := hI
  have zkm1 : (-1 : Int32).toInt = -1 := by decide +kernel
  have zk0 : (0 : Int32).toInt = 0 := by decide +kernel
  have zk1 : (1 : Int32).toInt = 1 := by decide +kernel
  have zk2 : (2 : Int32).toInt = 2 := by decide +kernel
  have zk16 : (16 : Int32).toInt = 16 := by decide +kernel
  have cp0 := clampI (x := p0) (by omega)
  have hb23 := hzg23
  have c23 := clampI (x := g 23) (by omega)
  have hWl : W.length = Int32.toNatClampNeg (g 23) := by rw [← hW]; exact wdl_len
  have hd1 : d.1 = entR ((F 13) (Int32.toNatClampNeg p0)) (F 20) (F 21) (80 * Int32.toNatClampNeg p0) := by rw [← hrv]; rfl
  have hd2 : d.2.1 = prtR ((F 12) (Int32.toNatClampNeg p0)) (F 18) (F 19) (40 * Int32.toNatClampNeg p0) := by rw [← hrv]; rfl
  have hd3 : d.2.2 = lwsR ((F 11) (Int32.toNatClampNeg p0)) (F 14) (F 15) (F 16) (F 17) (40 * Int32.toNatClampNeg p0) := by rw [← hrv]; rfl
  have hlw : ∀ L ∈ d.2.2, 1 ≤ L.1.length ∧ BW L.2.1 := fun L hL => ⟨Nat.pos_of_ne_zero (fun q => (hwf.2.2 L hL).1 (List.length_eq_zero_iff.mp q)), (hwf.2.2 L hL).2.2.1.1⟩
  have hg1 : ((0) ≤ (0 : Int32).toInt ∧ (0 : Int32).toInt ≤ 30) := ⟨by omega, by omega⟩
  have hMI7 : id (MInv (upd g 34 0) F) := show MInv (upd g 34 0) F from (MInv_i ((hI9.1)) ((hI9.2.1)) ((hI9.2.2.1)) ((hI9.2.2.2.1)) ((hI9.2.2.2.2.1)) ((hI9.2.2.2.2.2.1)) ((hI9.2.2.2.2.2.2.1)) ((hI9.2.2.2.2.2.2.2.1)) hzg9 hzg23 hzg27 hzg30 hg1 hzg36 ((hI9.2.2.2.2.2.2.2.2.2.2.2.2.2.2.1)) ((hI9.2.2.2.2.2.2.2.2.2.2.2.2.2.2.2.1)) ((hI9.2.2.2.2.2.2.2.2.2.2.2.2.2.2.2.2.1)) ((hI9.2.2.2.2.2.2.2.2.2.2.2.2.2.2.2.2.2.1)) ((hI9.2.2.2.2.2.2.2.2.2.2.2.2.2.2.2.2.2.2.1)) ((hI9.2.2.2.2.2.2.2.2.2.2.2.2.2.2.2.2.2.2.2.1)) ((hI9.2.2.2.2.2.2.2.2.2.2.2.2.2.2.2.2.2.2.2.2.1)) ((hI9.2.2.2.2.2.2.2.2.2.2.2.2.2.2.2.2.2.2.2.2.2.1)) ((hI9.2.2.2.2.2.2.2.2.2.2.2.2.2.2.2.2.2.2.2.2.2.2.1)) ((hI9.2.2.2.2.2.2.2.2.2.2.2.2.2.2.2.2.2.2.2.2.2.2.2.1)) ((hI9.2.2.2.2.2.2.2.2.2.2.2.2.2.2.2.2.2.2.2.2.2.2.2.2.1)) hzF11 hzF12 hzF13 hzF15 hzF19 hzF21 hzF24 hzF25 hzF26 hzF33 hzF38 hzF41 hzF43 hzF45 hzF46 hzF50 hzF53 hzF54 hzLQ)
  have hpr7_0 : (0 ≤ p0.toInt ∧ p0.toInt ≤ 6) := by first | assumption | omega
  refine pw_b1 (fun r7 hc7 => ?_)
  have hq7 := wp_at (ok_listedAs (upd g 34 0) F p0 hMI7 hpr7_0) hc7
  have f2 : (r7.toInt = -1 ∨ (40 * p0.toInt ≤ r7.toInt ∧ r7.toInt < 40 * p0.toInt + 40)) := hq7
  clear hq7
  have h87_hes : entR ((F 13) (Int32.toNatClampNeg p0)) (F 20) (F 21) (80 * Int32.toNatClampNeg p0) = (d.1) := by exact hd1.symm
  have h87_hW : wdl (F 22) 0 (Int32.toNatClampNeg (g 23)) = W := by exact hW
  have h87_hne : id (∀ e, e ∈ (d.1) → e.1 ≠ []) := show ∀ e, e ∈ (d.1) → e.1 ≠ [] from by exact fun e he => (hwf.1 e he).1
  have hx7 := pwq (fn_listedAs (upd g 34 0) F p0 (d.1) (W) hMI7 hpr7_0 h87_hes h87_hW h87_hne) hc7
  obtain ⟨p7_0, p7_1⟩ : (id ((r7.toInt = -1 → lkE (d.1) W = none))) ∧ (id ((r7.toInt ≠ -1 → 40 * p0.toInt ≤ r7.toInt ∧ r7.toInt < 40 * p0.toInt + ((F 13) (Int32.toNatClampNeg p0)).toInt ∧ ∃ e, (d.1)[Int32.toNatClampNeg r7 - 40 * Int32.toNatClampNeg p0]? = some e ∧ e.1 = W ∧ lkE (d.1) W = some e.2))) := hx7
  refine pw_ite (fun c13 => ?_) (fun c13 => ?_)
  · have c13 := congrArg Int32.toInt c13
    have hMI18 : id (MInv (upd g 34 0) F) := show MInv (upd g 34 0) F from (MInv_i ((hI9.1)) ((hI9.2.1)) ((hI9.2.2.1)) ((hI9.2.2.2.1)) ((hI9.2.2.2.2.1)) ((hI9.2.2.2.2.2.1)) ((hI9.2.2.2.2.2.2.1)) ((hI9.2.2.2.2.2.2.2.1)) hzg9 hzg23 hzg27 hzg30 hg1 hzg36 ((hI9.2.2.2.2.2.2.2.2.2.2.2.2.2.2.1)) ((hI9.2.2.2.2.2.2.2.2.2.2.2.2.2.2.2.1)) ((hI9.2.2.2.2.2.2.2.2.2.2.2.2.2.2.2.2.1)) ((hI9.2.2.2.2.2.2.2.2.2.2.2.2.2.2.2.2.2.1)) ((hI9.2.2.2.2.2.2.2.2.2.2.2.2.2.2.2.2.2.2.1)) ((hI9.2.2.2.2.2.2.2.2.2.2.2.2.2.2.2.2.2.2.2.1)) ((hI9.2.2.2.2.2.2.2.2.2.2.2.2.2.2.2.2.2.2.2.2.1)) ((hI9.2.2.2.2.2.2.2.2.2.2.2.2.2.2.2.2.2.2.2.2.2.1)) ((hI9.2.2.2.2.2.2.2.2.2.2.2.2.2.2.2.2.2.2.2.2.2.2.1)) ((hI9.2.2.2.2.2.2.2.2.2.2.2.2.2.2.2.2.2.2.2.2.2.2.2.1)) ((hI9.2.2.2.2.2.2.2.2.2.2.2.2.2.2.2.2.2.2.2.2.2.2.2.2.1)) hzF11 hzF12 hzF13 hzF15 hzF19 hzF21 hzF24 hzF25 hzF26 hzF33 hzF38 hzF41 hzF43 hzF45 hzF46 hzF50 hzF53 hzF54 hzLQ)
    have hpr18_0 : (0 ≤ p0.toInt ∧ p0.toInt ≤ 6) := by first | assumption | omega
    refine pw_b5 (fun c18_g27 c18_F24 c18_F25 c18_F26 c18_F28 hc18 => ?_)
    have hq18 := wp_at (ok_makeWays (upd g 34 0) F p0 hMI18 hpr18_0) hc18
    obtain ⟨hg3, hg4, hg5, hg6, f7⟩ : (((0) ≤ c18_g27.toInt ∧ c18_g27.toInt ≤ 30)) ∧ (rng (0) 24 c18_F24) ∧ (rng (0) 24 c18_F25) ∧ (rng (0) 24 c18_F26) ∧ (WS c18_F25 c18_F26 c18_g27) := hq18
    have h818_hps : prtR ((F 12) (Int32.toNatClampNeg p0)) (F 18) (F 19) (40 * Int32.toNatClampNeg p0) = (d.2.1) := by exact hd2.symm
    have h818_hW : wdl (F 22) 0 (Int32.toNatClampNeg (g 23)) = W := by exact hW
    have h818_hl1 : 1 ≤ (g 23).toInt := by exact hl1
    have hx18 := pwq (fn_makeWays (upd g 34 0) F p0 (d.2.1) (W) hMI18 hpr18_0 h818_hps h818_hW h818_hl1) hc18
    have p18_0 : RWS lenP c18_g27.toInt c18_F26 c18_F25 ((wy (d.2.1) W 0).take 30) := hx18
    clear hx18
    have hcw : cwF d W = (wy d.2.1 W 0).take 30 := rfl
    rw [← hcw] at p18_0
    obtain ⟨hr1, hr2⟩ := p18_0.1
    refine pw_jE (fun j34 ej34 => ?_)
    refine pw_ite (fun c25 => ?_) (fun c25 => ?_)
    · have c25 := congrArg Int32.toInt c25
      have hMI31 : id (MInv (upd (upd g 27 c18_g27) 34 0) (upF (upF (upF (upF F 24 c18_F24) 25 c18_F25) 26 c18_F26) 28 c18_F28)) := show MInv (upd (upd g 27 c18_g27) 34 0) (upF (upF (upF (upF F 24 c18_F24) 25 c18_F25) 26 c18_F26) 28 c18_F28) from (MInv_i ((hI9.1)) ((hI9.2.1)) ((hI9.2.2.1)) ((hI9.2.2.2.1)) ((hI9.2.2.2.2.1)) ((hI9.2.2.2.2.2.1)) ((hI9.2.2.2.2.2.2.1)) ((hI9.2.2.2.2.2.2.2.1)) hzg9 hzg23 hg3 hzg30 hg1 hzg36 ((hI9.2.2.2.2.2.2.2.2.2.2.2.2.2.2.1)) ((hI9.2.2.2.2.2.2.2.2.2.2.2.2.2.2.2.1)) ((hI9.2.2.2.2.2.2.2.2.2.2.2.2.2.2.2.2.1)) ((hI9.2.2.2.2.2.2.2.2.2.2.2.2.2.2.2.2.2.1)) ((hI9.2.2.2.2.2.2.2.2.2.2.2.2.2.2.2.2.2.2.1)) ((hI9.2.2.2.2.2.2.2.2.2.2.2.2.2.2.2.2.2.2.2.1)) ((hI9.2.2.2.2.2.2.2.2.2.2.2.2.2.2.2.2.2.2.2.2.1)) ((hI9.2.2.2.2.2.2.2.2.2.2.2.2.2.2.2.2.2.2.2.2.2.1)) ((hI9.2.2.2.2.2.2.2.2.2.2.2.2.2.2.2.2.2.2.2.2.2.2.1)) ((hI9.2.2.2.2.2.2.2.2.2.2.2.2.2.2.2.2.2.2.2.2.2.2.2.1)) ((hI9.2.2.2.2.2.2.2.2.2.2.2.2.2.2.2.2.2.2.2.2.2.2.2.2.1)) hzF11 hzF12 hzF13 hzF15 hzF19 hzF21 hg4 hg5 hg6 hzF33 hzF38 hzF41 hzF43 hzF45 hzF46 hzF50 hzF53 hzF54 hzLQ)
      have hpr31_0 : (0 ≤ p0.toInt ∧ p0.toInt ≤ 6) := by first | assumption | omega
      have hpr31_1 : ((-1) ≤ (-1 : Int32).toInt ∧ (-1 : Int32).toInt < 30) := by first | assumption | omega
      have hpr31_2 : id (((-1 : Int32).toInt ≠ -1 → (-1 : Int32).toInt < c18_g27.toInt)) := show ((-1 : Int32).toInt ≠ -1 → (-1 : Int32).toInt < c18_g27.toInt) from by first | assumption | omega
      have hpr31_3 : WS c18_F25 c18_F26 c18_g27 := by assumption
      have hpr31_4 : (0 : Int32).toInt ≤ 29 := by first | assumption | omega
      have hpr31_5 : p0.toInt < (g 9).toInt := by first | assumption | omega
      refine pw_b7 (fun c31_g30 c31_g34 c31_g36 c31_F29 c31_F31 c31_F32 c31_F33 hc31 => ?_)
      have hq31 := wp_at (ok_makeForm (upd (upd g 27 c18_g27) 34 0) (upF (upF (upF (upF F 24 c18_F24) 25 c18_F25) 26 c18_F26) 28 c18_F28) p0 (-1 : Int32) hMI31 hpr31_0 hpr31_1 hpr31_2 hpr31_3 hpr31_4 hpr31_5) hc31
      obtain ⟨hg8, hg9, hg10, hg11, f12⟩ : (((0) ≤ c31_g30.toInt ∧ c31_g30.toInt ≤ 384)) ∧ (((0) ≤ c31_g34.toInt ∧ c31_g34.toInt ≤ 30)) ∧ (((0) ≤ c31_g36.toInt ∧ c31_g36.toInt ≤ 1)) ∧ (rng (0) 24 c31_F33) ∧ (c31_g34.toInt ≤ (0 : Int32).toInt + 1) := hq31
      have h831_hls : lwsR ((F 11) (Int32.toNatClampNeg p0)) (F 14) (F 15) (F 16) (F 17) (40 * Int32.toNatClampNeg p0) = (d.2.2) := by exact hd3.symm
      have h831_hW : wdl (F 22) 0 (Int32.toNatClampNeg (g 23)) = W := by exact hW
      have h831_hD : rwW (0 : Int32) (F 32) (F 33) 24 = ([]) := by exact List.length_eq_zero_iff.mp (by rw [rw_len]; rfl)
      have h831_hwy : id (((-1 : Int32).toInt = -1 ∧ ([W]) = [W]) ∨ ((-1 : Int32).toInt ≠ -1 ∧ (c18_F26 (Int32.toNatClampNeg (-1 : Int32))).toInt = ((([W]).length : Nat) : Int) ∧ (∀ i x, ([W])[i]? = some x → (c18_F25 (24 * Int32.toNatClampNeg (-1 : Int32) + i)).toInt = ((x.length : Nat) : Int)) ∧ ([W]).flatten = W)) := show ((-1 : Int32).toInt = -1 ∧ ([W]) = [W]) ∨ ((-1 : Int32).toInt ≠ -1 ∧ (c18_F26 (Int32.toNatClampNeg (-1 : Int32))).toInt = ((([W]).length : Nat) : Int) ∧ (∀ i x, ([W])[i]? = some x → (c18_F25 (24 * Int32.toNatClampNeg (-1 : Int32) + i)).toInt = ((x.length : Nat) : Int)) ∧ ([W]).flatten = W) from by exact Or.inl ⟨by omega, rfl⟩
      have h831_hwl : ∀ L ∈ (d.2.2), 1 ≤ L.1.length ∧ BW L.2.1 := by exact hlw
      have h831_hbw : BW W := by exact hbw
      have h831_hsz : id (∀ j, j < Int32.toNatClampNeg (0 : Int32) → Int32.toNatClampNeg ((F 33) j) ≤ 24) := show ∀ j, j < Int32.toNatClampNeg (0 : Int32) → Int32.toNatClampNeg ((F 33) j) ≤ 24 from by exact fun j hj => absurd hj (Nat.not_lt_zero _)
      have hx31 := pwq (fn_makeForm (upd (upd g 27 c18_g27) 34 0) (upF (upF (upF (upF F 24 c18_F24) 25 c18_F25) 26 c18_F26) 28 c18_F28) p0 (-1 : Int32) (d.2.2) (W) ([W]) ([]) hMI31 hpr31_0 hpr31_1 hpr31_2 hpr31_3 hpr31_4 hpr31_5 h831_hls h831_hW h831_hD h831_hwy h831_hwl h831_hbw h831_hsz) hc31
      obtain ⟨p31_0, p31_1⟩ : (rwW c31_g34 c31_F32 c31_F33 24 = (gdF (mkA (d.2.2) [] ([W]))).foldl (addF 31) ([])) ∧ (id ((∀ j, j < Int32.toNatClampNeg c31_g34 → Int32.toNatClampNeg (c31_F33 j) ≤ 24))) := hx31
      refine pw_j7 ej34 (fun z34_1 ez34_1 z34_2 ez34_2 z34_3 ez34_3 z34_4 ez34_4 z34_5 ez34_5 z34_6 ez34_6 z34_7 ez34_7 => ?_)
      subst ez34_1 ez34_2 ez34_3 ez34_4 ez34_5 ez34_6 ez34_7
      have lp36 : ∀ (n36 : Nat) (y36_3 : Int32) (d36_g30 : Int32) (d36_g34 : Int32) (d36_g36 : Int32) (d36_F29 : (Nat → Int32)) (d36_F31 : (Nat → Int32)) (d36_F32 : (Nat → Int32)) (d36_F33 : (Nat → Int32)), ((0) ≤ d36_g30.toInt ∧ d36_g30.toInt ≤ 384) → ((0) ≤ d36_g34.toInt ∧ d36_g34.toInt ≤ 30) → ((0) ≤ d36_g36.toInt ∧ d36_g36.toInt ≤ 1) → rng (0) 24 d36_F33 → (0 ≤ y36_3.toInt ∧ y36_3.toInt ≤ 30) → (y36_3.toInt < c18_g27.toInt → d36_g34.toInt ≤ y36_3.toInt) → (rwW d36_g34 d36_F32 d36_F33 24 = (if c18_g27.toInt = 0 then gdF (runL d.2.2 W) else cpre d (cwF d W) (Int32.toNatClampNeg y36_3)).foldl (addF 31) []) → (∀ j, j < Int32.toNatClampNeg d36_g34 → Int32.toNatClampNeg (d36_F33 j) ≤ 24) → pw (L_turnBy_36 g F p0 c18_g27 c18_F24 c18_F25 c18_F26 c18_F28 n36 y36_3 d36_g30 d36_g34 d36_g36 d36_F29 d36_F31 d36_F32 d36_F33) (QF_turnBy g F p0 d W) := by
        intro n36
        induction n36 with
        | zero => intros; exact pw_none
        | succ n36 ih36 =>
          intro y36_3 d36_g30 d36_g34 d36_g36 d36_F29 d36_F31 d36_F32 d36_F33 hg13 hg14 hg15 hg16 f17 f18 iD36 iz36
          show pw (B_turnBy_36 g F p0 c18_g27 c18_F24 c18_F25 c18_F26 c18_F28 (L_turnBy_36 g F p0 c18_g27 c18_F24 c18_F25 c18_F26 c18_F28 n36) y36_3 d36_g30 d36_g34 d36_g36 d36_F29 d36_F31 d36_F32 d36_F33) _
          unfold B_turnBy_36
          refine pw_ite (fun c41 => ?_) (fun c41 => ?_)
          · have c41 := (z_le _ _).mp c41
            have qq0 : rwW d36_g34 d36_F32 d36_F33 24 = (cdF d W).foldl (addF 31) [] := by have h9 := iD36; rw [if_pos (by omega)] at h9; rw [cdF_one (p7_0 (by omega)) (List.length_eq_zero_iff.mp (by omega))]; exact h9
            have qq1 : (∀ j, j < Int32.toNatClampNeg d36_g34 → Int32.toNatClampNeg (d36_F33 j) ≤ 24) := by exact iz36
            exact pw_some ⟨qq0, qq1⟩
          · have c41 := z_nle c41
            have hD9 := iD36
            rw [if_neg (by omega)] at hD9
            have k3 := clampI (x := y36_3) (by omega)
            obtain ⟨wk, hwk⟩ := get_ex (l := cwF d W) (i := Int32.toNatClampNeg y36_3) (by omega)
            obtain ⟨s1, s2, s3⟩ := p18_0.2 _ _ hwk
            have hMI47 : id (MInv (upd (upd (upd (upd g 27 c18_g27) 30 d36_g30) 34 d36_g34) 36 d36_g36) (upF (upF (upF (upF (upF (upF (upF (upF F 24 c18_F24) 25 c18_F25) 26 c18_F26) 28 c18_F28) 29 d36_F29) 31 d36_F31) 32 d36_F32) 33 d36_F33)) := show MInv (upd (upd (upd (upd g 27 c18_g27) 30 d36_g30) 34 d36_g34) 36 d36_g36) (upF (upF (upF (upF (upF (upF (upF (upF F 24 c18_F24) 25 c18_F25) 26 c18_F26) 28 c18_F28) 29 d36_F29) 31 d36_F31) 32 d36_F32) 33 d36_F33) from (MInv_i ((hI9.1)) ((hI9.2.1)) ((hI9.2.2.1)) ((hI9.2.2.2.1)) ((hI9.2.2.2.2.1)) ((hI9.2.2.2.2.2.1)) ((hI9.2.2.2.2.2.2.1)) ((hI9.2.2.2.2.2.2.2.1)) hzg9 hzg23 hg3 hg13 hg14 hg15 ((hI9.2.2.2.2.2.2.2.2.2.2.2.2.2.2.1)) ((hI9.2.2.2.2.2.2.2.2.2.2.2.2.2.2.2.1)) ((hI9.2.2.2.2.2.2.2.2.2.2.2.2.2.2.2.2.1)) ((hI9.2.2.2.2.2.2.2.2.2.2.2.2.2.2.2.2.2.1)) ((hI9.2.2.2.2.2.2.2.2.2.2.2.2.2.2.2.2.2.2.1)) ((hI9.2.2.2.2.2.2.2.2.2.2.2.2.2.2.2.2.2.2.2.1)) ((hI9.2.2.2.2.2.2.2.2.2.2.2.2.2.2.2.2.2.2.2.2.1)) ((hI9.2.2.2.2.2.2.2.2.2.2.2.2.2.2.2.2.2.2.2.2.2.1)) ((hI9.2.2.2.2.2.2.2.2.2.2.2.2.2.2.2.2.2.2.2.2.2.2.1)) ((hI9.2.2.2.2.2.2.2.2.2.2.2.2.2.2.2.2.2.2.2.2.2.2.2.1)) ((hI9.2.2.2.2.2.2.2.2.2.2.2.2.2.2.2.2.2.2.2.2.2.2.2.2.1)) hzF11 hzF12 hzF13 hzF15 hzF19 hzF21 hg4 hg5 hg6 hg16 hzF38 hzF41 hzF43 hzF45 hzF46 hzF50 hzF53 hzF54 hzLQ)
            have hpr47_0 : (0 ≤ p0.toInt ∧ p0.toInt ≤ 6) := by first | assumption | omega
            have hpr47_1 : ((-1) ≤ y36_3.toInt ∧ y36_3.toInt < 30) := by first | assumption | omega
            have hpr47_2 : id ((y36_3.toInt ≠ -1 → y36_3.toInt < c18_g27.toInt)) := show (y36_3.toInt ≠ -1 → y36_3.toInt < c18_g27.toInt) from by first | assumption | omega
            have hpr47_3 : WS c18_F25 c18_F26 c18_g27 := by assumption
            have hpr47_4 : d36_g34.toInt ≤ 29 := by first | assumption | omega
            have hpr47_5 : p0.toInt < (g 9).toInt := by first | assumption | omega
            refine pw_b7 (fun c47_g30 c47_g34 c47_g36 c47_F29 c47_F31 c47_F32 c47_F33 hc47 => ?_)
            have hq47 := wp_at (ok_makeForm (upd (upd (upd (upd g 27 c18_g27) 30 d36_g30) 34 d36_g34) 36 d36_g36) (upF (upF (upF (upF (upF (upF (upF (upF F 24 c18_F24) 25 c18_F25) 26 c18_F26) 28 c18_F28) 29 d36_F29) 31 d36_F31) 32 d36_F32) 33 d36_F33) p0 y36_3 hMI47 hpr47_0 hpr47_1 hpr47_2 hpr47_3 hpr47_4 hpr47_5) hc47
            obtain ⟨hg19, hg20, hg21, hg22, f23⟩ : (((0) ≤ c47_g30.toInt ∧ c47_g30.toInt ≤ 384)) ∧ (((0) ≤ c47_g34.toInt ∧ c47_g34.toInt ≤ 30)) ∧ (((0) ≤ c47_g36.toInt ∧ c47_g36.toInt ≤ 1)) ∧ (rng (0) 24 c47_F33) ∧ (c47_g34.toInt ≤ d36_g34.toInt + 1) := hq47
            have h847_hls : lwsR ((F 11) (Int32.toNatClampNeg p0)) (F 14) (F 15) (F 16) (F 17) (40 * Int32.toNatClampNeg p0) = (d.2.2) := by exact hd3.symm
            have h847_hW : wdl (F 22) 0 (Int32.toNatClampNeg (g 23)) = W := by exact hW
            have h847_hD : rwW d36_g34 d36_F32 d36_F33 24 = ((cpre d (cwF d W) (Int32.toNatClampNeg y36_3)).foldl (addF 31) []) := by exact hD9
            have h847_hwy : id ((y36_3.toInt = -1 ∧ (wk) = [W]) ∨ (y36_3.toInt ≠ -1 ∧ (c18_F26 (Int32.toNatClampNeg y36_3)).toInt = (((wk).length : Nat) : Int) ∧ (∀ i x, (wk)[i]? = some x → (c18_F25 (24 * Int32.toNatClampNeg y36_3 + i)).toInt = ((x.length : Nat) : Int)) ∧ (wk).flatten = W)) := show (y36_3.toInt = -1 ∧ (wk) = [W]) ∨ (y36_3.toInt ≠ -1 ∧ (c18_F26 (Int32.toNatClampNeg y36_3)).toInt = (((wk).length : Nat) : Int) ∧ (∀ i x, (wk)[i]? = some x → (c18_F25 (24 * Int32.toNatClampNeg y36_3 + i)).toInt = ((x.length : Nat) : Int)) ∧ (wk).flatten = W) from by exact Or.inr ⟨by omega, s1, s3, by have h9 := (wy_flat (ps := d.2.1) (W := W) W.length 0 (by omega) wk (List.mem_of_mem_take (List.mem_of_getElem? hwk))).1; exact h9⟩
            have h847_hwl : ∀ L ∈ (d.2.2), 1 ≤ L.1.length ∧ BW L.2.1 := by exact hlw
            have h847_hbw : BW W := by exact hbw
            have h847_hsz : id (∀ j, j < Int32.toNatClampNeg d36_g34 → Int32.toNatClampNeg (d36_F33 j) ≤ 24) := show ∀ j, j < Int32.toNatClampNeg d36_g34 → Int32.toNatClampNeg (d36_F33 j) ≤ 24 from by exact iz36
            have hx47 := pwq (fn_makeForm (upd (upd (upd (upd g 27 c18_g27) 30 d36_g30) 34 d36_g34) 36 d36_g36) (upF (upF (upF (upF (upF (upF (upF (upF F 24 c18_F24) 25 c18_F25) 26 c18_F26) 28 c18_F28) 29 d36_F29) 31 d36_F31) 32 d36_F32) 33 d36_F33) p0 y36_3 (d.2.2) (W) (wk) ((cpre d (cwF d W) (Int32.toNatClampNeg y36_3)).foldl (addF 31) []) hMI47 hpr47_0 hpr47_1 hpr47_2 hpr47_3 hpr47_4 hpr47_5 h847_hls h847_hW h847_hD h847_hwy h847_hwl h847_hbw h847_hsz) hc47
            obtain ⟨p47_0, p47_1⟩ : (rwW c47_g34 c47_F32 c47_F33 24 = (gdF (mkA (d.2.2) [] (wk))).foldl (addF 31) ((cpre d (cwF d W) (Int32.toNatClampNeg y36_3)).foldl (addF 31) [])) ∧ (id ((∀ j, j < Int32.toNatClampNeg c47_g34 → Int32.toNatClampNeg (c47_F33 j) ≤ 24))) := hx47
            have f24 : (y36_3 + 1).toInt = y36_3.toInt + (1) := z_addc (by decide +kernel) (by omega) (by omega)
            have iv36_0 : (0 ≤ (y36_3 + 1).toInt ∧ (y36_3 + 1).toInt ≤ 30) := by omega
            have iv36_1 : ((y36_3 + 1).toInt < c18_g27.toInt → c47_g34.toInt ≤ (y36_3 + 1).toInt) := by omega
            have iv36_2 : (rwW c47_g34 c47_F32 c47_F33 24 = (if c18_g27.toInt = 0 then gdF (runL d.2.2 W) else cpre d (cwF d W) (Int32.toNatClampNeg (y36_3 + 1))).foldl (addF 31) []) := by have k4 := clampI (x := y36_3 + 1) (by omega); rw [show Int32.toNatClampNeg (y36_3 + 1) = Int32.toNatClampNeg y36_3 + 1 by omega, if_neg (by omega), cpre_s hwk, List.foldl_append]; exact p47_0
            have iv36_3 : (∀ j, j < Int32.toNatClampNeg c47_g34 → Int32.toNatClampNeg (c47_F33 j) ≤ 24) := by exact p47_1
            exact ih36 (y36_3 + 1) c47_g30 c47_g34 c47_g36 c47_F29 c47_F31 c47_F32 c47_F33 hg19 hg20 hg21 hg22 iv36_0 iv36_1 iv36_2 iv36_3
      exact lp36 NN (0 : Int32) c31_g30 c31_g34 c31_g36 c31_F29 c31_F31 c31_F32 c31_F33 hg8 hg9 hg10 hg11 (show (0 ≤ (0 : Int32).toInt ∧ (0 : Int32).toInt ≤ 30) from by omega) (show ((0 : Int32).toInt < c18_g27.toInt → c31_g34.toInt ≤ (0 : Int32).toInt) from by omega) (show (rwW c31_g34 c31_F32 c31_F33 24 = (if c18_g27.toInt = 0 then gdF (runL d.2.2 W) else cpre d (cwF d W) (Int32.toNatClampNeg (0 : Int32))).foldl (addF 31) []) from by rw [if_pos (by omega)]; have h9 := p31_0; rw [mkA_one] at h9; exact h9) (show (∀ j, j < Int32.toNatClampNeg c31_g34 → Int32.toNatClampNeg (c31_F33 j) ≤ 24) from by exact p31_1)
    · have c25 := z_ne c25
      refine pw_j7 ej34 (fun z34_1 ez34_1 z34_2 ez34_2 z34_3 ez34_3 z34_4 ez34_4 z34_5 ez34_5 z34_6 ez34_6 z34_7 ez34_7 => ?_)
      subst ez34_1 ez34_2 ez34_3 ez34_4 ez34_5 ez34_6 ez34_7
      have lp36 : ∀ (n36 : Nat) (y36_3 : Int32) (d36_g30 : Int32) (d36_g34 : Int32) (d36_g36 : Int32) (d36_F29 : (Nat → Int32)) (d36_F31 : (Nat → Int32)) (d36_F32 : (Nat → Int32)) (d36_F33 : (Nat → Int32)), ((0) ≤ d36_g30.toInt ∧ d36_g30.toInt ≤ 384) → ((0) ≤ d36_g34.toInt ∧ d36_g34.toInt ≤ 30) → ((0) ≤ d36_g36.toInt ∧ d36_g36.toInt ≤ 1) → rng (0) 24 d36_F33 → (0 ≤ y36_3.toInt ∧ y36_3.toInt ≤ 30) → (y36_3.toInt < c18_g27.toInt → d36_g34.toInt ≤ y36_3.toInt) → (rwW d36_g34 d36_F32 d36_F33 24 = (if c18_g27.toInt = 0 then gdF (runL d.2.2 W) else cpre d (cwF d W) (Int32.toNatClampNeg y36_3)).foldl (addF 31) []) → (∀ j, j < Int32.toNatClampNeg d36_g34 → Int32.toNatClampNeg (d36_F33 j) ≤ 24) → pw (L_turnBy_36 g F p0 c18_g27 c18_F24 c18_F25 c18_F26 c18_F28 n36 y36_3 d36_g30 d36_g34 d36_g36 d36_F29 d36_F31 d36_F32 d36_F33) (QF_turnBy g F p0 d W) := by
        intro n36
        induction n36 with
        | zero => intros; exact pw_none
        | succ n36 ih36 =>
          intro y36_3 d36_g30 d36_g34 d36_g36 d36_F29 d36_F31 d36_F32 d36_F33 hg25 hg26 hg27 hg28 f29 f30 iD36 iz36
          show pw (B_turnBy_36 g F p0 c18_g27 c18_F24 c18_F25 c18_F26 c18_F28 (L_turnBy_36 g F p0 c18_g27 c18_F24 c18_F25 c18_F26 c18_F28 n36) y36_3 d36_g30 d36_g34 d36_g36 d36_F29 d36_F31 d36_F32 d36_F33) _
          unfold B_turnBy_36
          refine pw_ite (fun c41 => ?_) (fun c41 => ?_)
          · have c41 := (z_le _ _).mp c41
            have qq0 : rwW d36_g34 d36_F32 d36_F33 24 = (cdF d W).foldl (addF 31) [] := by have k3 := clampI (x := y36_3) (by omega); have h9 := iD36; rw [if_neg (by omega), cpre_all (by omega)] at h9; rw [cdF_ways (p7_0 (by omega)) (fun q => by rw [q] at hr1; have z9 : (([] : List (List Wd)).length : Int) = 0 := rfl; omega)]; exact h9
            have qq1 : (∀ j, j < Int32.toNatClampNeg d36_g34 → Int32.toNatClampNeg (d36_F33 j) ≤ 24) := by exact iz36
            exact pw_some ⟨qq0, qq1⟩
          · have c41 := z_nle c41
            have hD9 := iD36
            rw [if_neg (by omega)] at hD9
            have k3 := clampI (x := y36_3) (by omega)
            obtain ⟨wk, hwk⟩ := get_ex (l := cwF d W) (i := Int32.toNatClampNeg y36_3) (by omega)
            obtain ⟨s1, s2, s3⟩ := p18_0.2 _ _ hwk
            have hMI47 : id (MInv (upd (upd (upd (upd g 27 c18_g27) 30 d36_g30) 34 d36_g34) 36 d36_g36) (upF (upF (upF (upF (upF (upF (upF (upF F 24 c18_F24) 25 c18_F25) 26 c18_F26) 28 c18_F28) 29 d36_F29) 31 d36_F31) 32 d36_F32) 33 d36_F33)) := show MInv (upd (upd (upd (upd g 27 c18_g27) 30 d36_g30) 34 d36_g34) 36 d36_g36) (upF (upF (upF (upF (upF (upF (upF (upF F 24 c18_F24) 25 c18_F25) 26 c18_F26) 28 c18_F28) 29 d36_F29) 31 d36_F31) 32 d36_F32) 33 d36_F33) from (MInv_i ((hI9.1)) ((hI9.2.1)) ((hI9.2.2.1)) ((hI9.2.2.2.1)) ((hI9.2.2.2.2.1)) ((hI9.2.2.2.2.2.1)) ((hI9.2.2.2.2.2.2.1)) ((hI9.2.2.2.2.2.2.2.1)) hzg9 hzg23 hg3 hg25 hg26 hg27 ((hI9.2.2.2.2.2.2.2.2.2.2.2.2.2.2.1)) ((hI9.2.2.2.2.2.2.2.2.2.2.2.2.2.2.2.1)) ((hI9.2.2.2.2.2.2.2.2.2.2.2.2.2.2.2.2.1)) ((hI9.2.2.2.2.2.2.2.2.2.2.2.2.2.2.2.2.2.1)) ((hI9.2.2.2.2.2.2.2.2.2.2.2.2.2.2.2.2.2.2.1)) ((hI9.2.2.2.2.2.2.2.2.2.2.2.2.2.2.2.2.2.2.2.1)) ((hI9.2.2.2.2.2.2.2.2.2.2.2.2.2.2.2.2.2.2.2.2.1)) ((hI9.2.2.2.2.2.2.2.2.2.2.2.2.2.2.2.2.2.2.2.2.2.1)) ((hI9.2.2.2.2.2.2.2.2.2.2.2.2.2.2.2.2.2.2.2.2.2.2.1)) ((hI9.2.2.2.2.2.2.2.2.2.2.2.2.2.2.2.2.2.2.2.2.2.2.2.1)) ((hI9.2.2.2.2.2.2.2.2.2.2.2.2.2.2.2.2.2.2.2.2.2.2.2.2.1)) hzF11 hzF12 hzF13 hzF15 hzF19 hzF21 hg4 hg5 hg6 hg28 hzF38 hzF41 hzF43 hzF45 hzF46 hzF50 hzF53 hzF54 hzLQ)
            have hpr47_0 : (0 ≤ p0.toInt ∧ p0.toInt ≤ 6) := by first | assumption | omega
            have hpr47_1 : ((-1) ≤ y36_3.toInt ∧ y36_3.toInt < 30) := by first | assumption | omega
            have hpr47_2 : id ((y36_3.toInt ≠ -1 → y36_3.toInt < c18_g27.toInt)) := show (y36_3.toInt ≠ -1 → y36_3.toInt < c18_g27.toInt) from by first | assumption | omega
            have hpr47_3 : WS c18_F25 c18_F26 c18_g27 := by assumption
            have hpr47_4 : d36_g34.toInt ≤ 29 := by first | assumption | omega
            have hpr47_5 : p0.toInt < (g 9).toInt := by first | assumption | omega
            refine pw_b7 (fun c47_g30 c47_g34 c47_g36 c47_F29 c47_F31 c47_F32 c47_F33 hc47 => ?_)
            have hq47 := wp_at (ok_makeForm (upd (upd (upd (upd g 27 c18_g27) 30 d36_g30) 34 d36_g34) 36 d36_g36) (upF (upF (upF (upF (upF (upF (upF (upF F 24 c18_F24) 25 c18_F25) 26 c18_F26) 28 c18_F28) 29 d36_F29) 31 d36_F31) 32 d36_F32) 33 d36_F33) p0 y36_3 hMI47 hpr47_0 hpr47_1 hpr47_2 hpr47_3 hpr47_4 hpr47_5) hc47
            obtain ⟨hg31, hg32, hg33, hg34, f35⟩ : (((0) ≤ c47_g30.toInt ∧ c47_g30.toInt ≤ 384)) ∧ (((0) ≤ c47_g34.toInt ∧ c47_g34.toInt ≤ 30)) ∧ (((0) ≤ c47_g36.toInt ∧ c47_g36.toInt ≤ 1)) ∧ (rng (0) 24 c47_F33) ∧ (c47_g34.toInt ≤ d36_g34.toInt + 1) := hq47
            have h847_hls : lwsR ((F 11) (Int32.toNatClampNeg p0)) (F 14) (F 15) (F 16) (F 17) (40 * Int32.toNatClampNeg p0) = (d.2.2) := by exact hd3.symm
            have h847_hW : wdl (F 22) 0 (Int32.toNatClampNeg (g 23)) = W := by exact hW
            have h847_hD : rwW d36_g34 d36_F32 d36_F33 24 = ((cpre d (cwF d W) (Int32.toNatClampNeg y36_3)).foldl (addF 31) []) := by exact hD9
            have h847_hwy : id ((y36_3.toInt = -1 ∧ (wk) = [W]) ∨ (y36_3.toInt ≠ -1 ∧ (c18_F26 (Int32.toNatClampNeg y36_3)).toInt = (((wk).length : Nat) : Int) ∧ (∀ i x, (wk)[i]? = some x → (c18_F25 (24 * Int32.toNatClampNeg y36_3 + i)).toInt = ((x.length : Nat) : Int)) ∧ (wk).flatten = W)) := show (y36_3.toInt = -1 ∧ (wk) = [W]) ∨ (y36_3.toInt ≠ -1 ∧ (c18_F26 (Int32.toNatClampNeg y36_3)).toInt = (((wk).length : Nat) : Int) ∧ (∀ i x, (wk)[i]? = some x → (c18_F25 (24 * Int32.toNatClampNeg y36_3 + i)).toInt = ((x.length : Nat) : Int)) ∧ (wk).flatten = W) from by exact Or.inr ⟨by omega, s1, s3, by have h9 := (wy_flat (ps := d.2.1) (W := W) W.length 0 (by omega) wk (List.mem_of_mem_take (List.mem_of_getElem? hwk))).1; exact h9⟩
            have h847_hwl : ∀ L ∈ (d.2.2), 1 ≤ L.1.length ∧ BW L.2.1 := by exact hlw
            have h847_hbw : BW W := by exact hbw
            have h847_hsz : id (∀ j, j < Int32.toNatClampNeg d36_g34 → Int32.toNatClampNeg (d36_F33 j) ≤ 24) := show ∀ j, j < Int32.toNatClampNeg d36_g34 → Int32.toNatClampNeg (d36_F33 j) ≤ 24 from by exact iz36
            have hx47 := pwq (fn_makeForm (upd (upd (upd (upd g 27 c18_g27) 30 d36_g30) 34 d36_g34) 36 d36_g36) (upF (upF (upF (upF (upF (upF (upF (upF F 24 c18_F24) 25 c18_F25) 26 c18_F26) 28 c18_F28) 29 d36_F29) 31 d36_F31) 32 d36_F32) 33 d36_F33) p0 y36_3 (d.2.2) (W) (wk) ((cpre d (cwF d W) (Int32.toNatClampNeg y36_3)).foldl (addF 31) []) hMI47 hpr47_0 hpr47_1 hpr47_2 hpr47_3 hpr47_4 hpr47_5 h847_hls h847_hW h847_hD h847_hwy h847_hwl h847_hbw h847_hsz) hc47
            obtain ⟨p47_0, p47_1⟩ : (rwW c47_g34 c47_F32 c47_F33 24 = (gdF (mkA (d.2.2) [] (wk))).foldl (addF 31) ((cpre d (cwF d W) (Int32.toNatClampNeg y36_3)).foldl (addF 31) [])) ∧ (id ((∀ j, j < Int32.toNatClampNeg c47_g34 → Int32.toNatClampNeg (c47_F33 j) ≤ 24))) := hx47
            have f36 : (y36_3 + 1).toInt = y36_3.toInt + (1) := z_addc (by decide +kernel) (by omega) (by omega)
            have iv36_0 : (0 ≤ (y36_3 + 1).toInt ∧ (y36_3 + 1).toInt ≤ 30) := by omega
            have iv36_1 : ((y36_3 + 1).toInt < c18_g27.toInt → c47_g34.toInt ≤ (y36_3 + 1).toInt) := by omega
            have iv36_2 : (rwW c47_g34 c47_F32 c47_F33 24 = (if c18_g27.toInt = 0 then gdF (runL d.2.2 W) else cpre d (cwF d W) (Int32.toNatClampNeg (y36_3 + 1))).foldl (addF 31) []) := by have k4 := clampI (x := y36_3 + 1) (by omega); rw [show Int32.toNatClampNeg (y36_3 + 1) = Int32.toNatClampNeg y36_3 + 1 by omega, if_neg (by omega), cpre_s hwk, List.foldl_append]; exact p47_0
            have iv36_3 : (∀ j, j < Int32.toNatClampNeg c47_g34 → Int32.toNatClampNeg (c47_F33 j) ≤ 24) := by exact p47_1
            exact ih36 (y36_3 + 1) c47_g30 c47_g34 c47_g36 c47_F29 c47_F31 c47_F32 c47_F33 hg31 hg32 hg33 hg34 iv36_0 iv36_1 iv36_2 iv36_3
      exact lp36 NN (0 : Int32) (g 30) (0 : Int32) (g 36) (F 29) (F 31) (F 32) (F 33) hzg30 hg1 hzg36 hzF33 (show (0 ≤ (0 : Int32).toInt ∧ (0 : Int32).toInt ≤ 30) from by omega) (show ((0 : Int32).toInt < c18_g27.toInt → (0 : Int32).toInt ≤ (0 : Int32).toInt) from by omega) (show (rwW (0 : Int32) (F 32) (F 33) 24 = (if c18_g27.toInt = 0 then gdF (runL d.2.2 W) else cpre d (cwF d W) (Int32.toNatClampNeg (0 : Int32))).foldl (addF 31) []) from by rw [show Int32.toNatClampNeg (0 : Int32) = 0 from rfl, if_neg (by omega)]; show _ = []; exact List.length_eq_zero_iff.mp (by rw [rw_len]; rfl)) (show (∀ j, j < Int32.toNatClampNeg (0 : Int32) → Int32.toNatClampNeg ((F 33) j) ≤ 24) from by exact fun j hj => absurd hj (Nat.not_lt_zero _))
  · have c13 := z_ne c13
    obtain ⟨q1, q2, e, e2, e3, e4⟩ := p7_1 (by omega)
    have cr := clampI (x := r7) (by omega)
    have e5 := e2
    rw [hd1] at e2
    obtain ⟨k1, k2, k3⟩ := entR_at e2
    have f2r : (2 * r7).toInt = 2 * r7.toInt := z_muld (by decide +kernel) (by omega) (by omega)
    have f2s : ((2 * r7) + 1).toInt = (2 * r7).toInt + 1 := z_addc (by decide +kernel) (by omega) (by omega)
    have ci := clampI (x := (2 * r7) + 1) (by omega)
    rw [show 80 * Int32.toNatClampNeg p0 + 2 * (Int32.toNatClampNeg r7 - 40 * Int32.toNatClampNeg p0) + 1 = Int32.toNatClampNeg ((2 * r7) + 1) by omega] at k2 k3
    have f37 : (2 * r7).toInt = 2 * r7.toInt := z_muld (by decide +kernel) (by omega) (by omega)
    have f38 : ((2 * r7) + 1).toInt = (2 * r7).toInt + 1 := z_addc (by decide +kernel) (by omega) (by omega)
    refine pw_if (fun hb66 => ?_)
    obtain ⟨hbl66, hbr66⟩ := hb66
    have f39 := hzF21 (Int32.toNatClampNeg ((2 * r7) + 1))
    refine pw_jE (fun j76 ej76 => ?_)
    refine pw_ite (fun c68 => ?_) (fun c68 => ?_)
    · have c68 := congrArg Int32.toInt c68
      refine pw_j1 ej76 (fun t76_0 et76_0 => ?_)
      have et76_0 := et76_0.symm
      have f_t76_0 : t76_0.toInt = 1 := by rw [et76_0]; decide +kernel
      refine pw_jE (fun j98 ej98 => ?_)
      refine pw_ite (fun c78 => ?_) (fun c78 => ?_)
      · have c78 := congrArg Int32.toInt c78
        refine pw_if (fun hb97 => ?_)
        obtain ⟨hbl97, hbr97⟩ := hb97
        refine pw_j1 ej98 (fun t98_0 et98_0 => ?_)
        have et98_0 := et98_0.symm
        have f_t98_0 : t98_0.toInt = ((F 21) (Int32.toNatClampNeg ((2 * r7) + 1))).toInt := by rw [et98_0]
        have hvb : t76_0.toInt = 0 → ∀ j, j < Int32.toNatClampNeg ((F 21) (Int32.toNatClampNeg ((2 * r7) + 1))) → vp_nar .byte ((F 20) (16 * Int32.toNatClampNeg ((2 * r7) + 1) + j)) = (F 20) (16 * Int32.toNatClampNeg ((2 * r7) + 1) + j) := fun h9 j hj => by have h8 := k3 (by omega); have h7 := ((hwf.1 e (List.mem_of_getElem? e5)).2.2 _ h8).1; exact h7 _ (wdl_mem hj)
        refine pw_jE (fun k153 ek153 => ?_)
        have lp103 : ∀ (n103 : Nat) (y103_5 : Int32) (d103_F32 : (Nat → Int32)), 0 ≤ y103_5.toInt → y103_5.toInt ≤ t98_0.toInt → (wdl d103_F32 0 (Int32.toNatClampNeg y103_5) = wdl (if t76_0.toInt ≠ 0 then F 22 else F 20) (if t76_0.toInt ≠ 0 then 0 else 16 * Int32.toNatClampNeg ((2 * r7) + 1)) (Int32.toNatClampNeg y103_5)) → pw (L_turnBy_103 F r7 t76_0 t98_0 k153 n103 y103_5 d103_F32) (QF_turnBy g F p0 d W) := by
          intro n103
          induction n103 with
          | zero => intros; exact pw_none
          | succ n103 ih103 =>
            intro y103_5 d103_F32 f43 f44 ic103
            show pw (B_turnBy_103 F r7 t76_0 t98_0 k153 (L_turnBy_103 F r7 t76_0 t98_0 k153 n103) y103_5 d103_F32) _
            unfold B_turnBy_103
            refine pw_ite (fun c107 => ?_) (fun c107 => ?_)
            · have c107 := (z_le _ _).mp c107
              refine pw_j1 ek153 (fun z153_1 ez153_1 => ?_)
              subst ez153_1
              refine pw_if (fun hb160 => ?_)
              obtain ⟨hbl160, hbr160⟩ := hb160
              refine pw_vl (fun w160 ew160 => ?_)
              have hF45 : rng (0) 24 w160 := by rw [ew160]; exact rng_upd hzF33 (by omega) (by omega)
              refine pw_jE (fun j172 ej172 => ?_)
              refine pw_ite (fun c164 => ?_) (fun c164 => ?_)
              · have c164 := congrArg Int32.toInt c164
                refine pw_j1 ej172 (fun t172_0 et172_0 => ?_)
                have et172_0 := et172_0.symm
                have f_t172_0 : t172_0.toInt = 0 := by rw [et172_0]; decide +kernel
                have hg46 : ((0) ≤ t172_0.toInt ∧ t172_0.toInt ≤ 30) := ⟨by omega, by omega⟩
                have qq0 : rwW t172_0 d103_F32 w160 24 = (cdF d W).foldl (addF 31) [] := by exfalso; omega
                have qq1 : (∀ j, j < Int32.toNatClampNeg t172_0 → Int32.toNatClampNeg (w160 j) ≤ 24) := by intro j hj; have kn := clampI (x := t98_0) (by omega); have km := clampI (x := t172_0) (by omega); rw [show j = 0 by omega, ew160, show (0 : Nat) = Int32.toNatClampNeg (0 : Int32) from rfl, pk_us]; omega
                exact pw_some ⟨qq0, qq1⟩
              · have c164 := z_ne c164
                refine pw_j1 ej172 (fun t172_0 et172_0 => ?_)
                have et172_0 := et172_0.symm
                have f_t172_0 : t172_0.toInt = 1 := by rw [et172_0]; decide +kernel
                have hg47 : ((0) ≤ t172_0.toInt ∧ t172_0.toInt ≤ 30) := ⟨by omega, by omega⟩
                have qq0 : rwW t172_0 d103_F32 w160 24 = (cdF d W).foldl (addF 31) [] := by have k5 := clampI (x := y103_5) (by omega); have kn := clampI (x := t98_0) (by omega); have h9 := ic103; rw [show Int32.toNatClampNeg y103_5 = Int32.toNatClampNeg t98_0 by omega] at h9; have hr9 : rwW t172_0 d103_F32 w160 24 = [wdl d103_F32 0 (Int32.toNatClampNeg t98_0)] := (by have h8 := rw_app (c := 0) (c1 := t172_0) (fl := d103_F32) (fl1 := d103_F32) (fs := w160) (fs1 := w160) (x := wdl d103_F32 0 (Int32.toNatClampNeg t98_0)) (by rw [show Int32.toNatClampNeg (0 : Int32) = 0 from rfl]; have := clampI (x := t172_0) (by omega); omega) (fun _ _ => rfl) (fun _ _ => rfl) (fun j hj => absurd hj (Nat.not_lt_zero _)) (by rw [show Int32.toNatClampNeg (0 : Int32) = 0 from rfl, ew160, show Int32.toNatClampNeg (0 : Int32) = 0 from rfl, pk_us]); rw [h8]; rfl); rw [hr9]; rw [if_pos (by omega), if_pos (by omega), show Int32.toNatClampNeg t98_0 = Int32.toNatClampNeg (g 23) by omega, hW] at h9; rw [show Int32.toNatClampNeg t98_0 = Int32.toNatClampNeg (g 23) by omega, h9, cdF_kept (by rw [e4, k2 (by omega)])]; exact (show addF 31 [] W = [W] from addF_new List.not_mem_nil (by decide)).symm
                have qq1 : (∀ j, j < Int32.toNatClampNeg t172_0 → Int32.toNatClampNeg (w160 j) ≤ 24) := by intro j hj; have kn := clampI (x := t98_0) (by omega); have km := clampI (x := t172_0) (by omega); rw [show j = 0 by omega, ew160, show (0 : Nat) = Int32.toNatClampNeg (0 : Int32) from rfl, pk_us]; omega
                exact pw_some ⟨qq0, qq1⟩
            · have c107 := z_nle c107
              refine pw_jE (fun j146 ej146 => ?_)
              refine pw_ite (fun c117 => ?_) (fun c117 => ?_)
              · have c117 := congrArg Int32.toInt c117
                have f50 : (16 * ((2 * r7) + 1)).toInt = 16 * ((2 * r7) + 1).toInt := z_muld (by decide +kernel) (by omega) (by omega)
                have f51 : ((16 * ((2 * r7) + 1)) + y103_5).toInt = (16 * ((2 * r7) + 1)).toInt + y103_5.toInt := z_add (by omega) (by omega)
                refine pw_if (fun hb145 => ?_)
                obtain ⟨hbl145, hbr145⟩ := hb145
                refine pw_j1 ej146 (fun t146_0 et146_0 => ?_)
                have et146_0 := et146_0.symm
                have f_t146_0 : t146_0.toInt = ((F 20) (Int32.toNatClampNeg ((16 * ((2 * r7) + 1)) + y103_5))).toInt := by rw [et146_0]
                refine pw_if (fun hb146 => ?_)
                obtain ⟨hbl146, hbr146⟩ := hb146
                refine pw_vl (fun w146 ew146 => ?_)
                have f52 : (y103_5 + 1).toInt = y103_5.toInt + (1) := z_addc (by decide +kernel) (by omega) (by omega)
                have iv103_0 : 0 ≤ (y103_5 + 1).toInt := by omega
                have iv103_1 : (y103_5 + 1).toInt ≤ t98_0.toInt := by omega
                have iv103_2 : (wdl w146 0 (Int32.toNatClampNeg (y103_5 + 1)) = wdl (if t76_0.toInt ≠ 0 then F 22 else F 20) (if t76_0.toInt ≠ 0 then 0 else 16 * Int32.toNatClampNeg ((2 * r7) + 1)) (Int32.toNatClampNeg (y103_5 + 1))) := by have k5 := clampI (x := y103_5) (by omega); have k6 := clampI (x := y103_5 + 1) (by omega); have kq := clampI (x := (16 * ((2 * r7) + 1)) + y103_5) (by omega); rw [if_neg (by omega), if_neg (by omega)]; have h9 := ic103; rw [if_neg (by omega), if_neg (by omega)] at h9; rw [ew146, show Int32.toNatClampNeg (y103_5 + 1) = Int32.toNatClampNeg y103_5 + 1 by omega, wdl_up rfl, h9, wdl_s1, et146_0, show Int32.toNatClampNeg ((16 * ((2 * r7) + 1)) + y103_5) = 16 * Int32.toNatClampNeg ((2 * r7) + 1) + Int32.toNatClampNeg y103_5 by omega, hvb (by omega) _ (by have z9 : Int32.toNatClampNeg ((F 21) (Int32.toNatClampNeg ((2 * r7) + 1))) = ((F 21) (Int32.toNatClampNeg ((2 * r7) + 1))).toInt.toNat := rfl; omega)]
                exact ih103 (y103_5 + 1) w146 iv103_0 iv103_1 iv103_2
              · have c117 := z_ne c117
                refine pw_if (fun hb126 => ?_)
                obtain ⟨hbl126, hbr126⟩ := hb126
                refine pw_j1 ej146 (fun t146_0 et146_0 => ?_)
                have et146_0 := et146_0.symm
                have f_t146_0 : t146_0.toInt = ((F 22) (Int32.toNatClampNeg y103_5)).toInt := by rw [et146_0]
                refine pw_if (fun hb146 => ?_)
                obtain ⟨hbl146, hbr146⟩ := hb146
                refine pw_vl (fun w146 ew146 => ?_)
                have f53 : (y103_5 + 1).toInt = y103_5.toInt + (1) := z_addc (by decide +kernel) (by omega) (by omega)
                have iv103_0 : 0 ≤ (y103_5 + 1).toInt := by omega
                have iv103_1 : (y103_5 + 1).toInt ≤ t98_0.toInt := by omega
                have iv103_2 : (wdl w146 0 (Int32.toNatClampNeg (y103_5 + 1)) = wdl (if t76_0.toInt ≠ 0 then F 22 else F 20) (if t76_0.toInt ≠ 0 then 0 else 16 * Int32.toNatClampNeg ((2 * r7) + 1)) (Int32.toNatClampNeg (y103_5 + 1))) := by have k5 := clampI (x := y103_5) (by omega); have k6 := clampI (x := y103_5 + 1) (by omega); rw [if_pos (by omega), if_pos (by omega)]; have h9 := ic103; rw [if_pos (by omega), if_pos (by omega)] at h9; rw [ew146, show Int32.toNatClampNeg (y103_5 + 1) = Int32.toNatClampNeg y103_5 + 1 by omega, wdl_up rfl, h9, wdl_s1, Nat.zero_add, et146_0, hbw _ (by rw [← hW]; have h8 := wdl_mem (f := F 22) (s := 0) (m := Int32.toNatClampNeg (g 23)) (j := Int32.toNatClampNeg y103_5) (by omega); rwa [Nat.zero_add] at h8)]
                exact ih103 (y103_5 + 1) w146 iv103_0 iv103_1 iv103_2
        exact lp103 NN (0 : Int32) (F 32) (show 0 ≤ (0 : Int32).toInt from by omega) (show (0 : Int32).toInt ≤ t98_0.toInt from by omega) (show (wdl (F 32) 0 (Int32.toNatClampNeg (0 : Int32)) = wdl (if t76_0.toInt ≠ 0 then F 22 else F 20) (if t76_0.toInt ≠ 0 then 0 else 16 * Int32.toNatClampNeg ((2 * r7) + 1)) (Int32.toNatClampNeg (0 : Int32))) from by rfl)
      · have c78 := z_ne c78
        refine pw_j1 ej98 (fun t98_0 et98_0 => ?_)
        have et98_0 := et98_0.symm
        have f_t98_0 : t98_0.toInt = (g 23).toInt := by rw [et98_0]
        have hvb : t76_0.toInt = 0 → ∀ j, j < Int32.toNatClampNeg ((F 21) (Int32.toNatClampNeg ((2 * r7) + 1))) → vp_nar .byte ((F 20) (16 * Int32.toNatClampNeg ((2 * r7) + 1) + j)) = (F 20) (16 * Int32.toNatClampNeg ((2 * r7) + 1) + j) := fun h9 j hj => by have h8 := k3 (by omega); have h7 := ((hwf.1 e (List.mem_of_getElem? e5)).2.2 _ h8).1; exact h7 _ (wdl_mem hj)
        refine pw_jE (fun k153 ek153 => ?_)
        have lp103 : ∀ (n103 : Nat) (y103_5 : Int32) (d103_F32 : (Nat → Int32)), 0 ≤ y103_5.toInt → y103_5.toInt ≤ t98_0.toInt → (wdl d103_F32 0 (Int32.toNatClampNeg y103_5) = wdl (if t76_0.toInt ≠ 0 then F 22 else F 20) (if t76_0.toInt ≠ 0 then 0 else 16 * Int32.toNatClampNeg ((2 * r7) + 1)) (Int32.toNatClampNeg y103_5)) → pw (L_turnBy_103 F r7 t76_0 t98_0 k153 n103 y103_5 d103_F32) (QF_turnBy g F p0 d W) := by
          intro n103
          induction n103 with
          | zero => intros; exact pw_none
          | succ n103 ih103 =>
            intro y103_5 d103_F32 f54 f55 ic103
            show pw (B_turnBy_103 F r7 t76_0 t98_0 k153 (L_turnBy_103 F r7 t76_0 t98_0 k153 n103) y103_5 d103_F32) _
            unfold B_turnBy_103
            refine pw_ite (fun c107 => ?_) (fun c107 => ?_)
            · have c107 := (z_le _ _).mp c107
              refine pw_j1 ek153 (fun z153_1 ez153_1 => ?_)
              subst ez153_1
              refine pw_if (fun hb160 => ?_)
              obtain ⟨hbl160, hbr160⟩ := hb160
              refine pw_vl (fun w160 ew160 => ?_)
              have hF56 : rng (0) 24 w160 := by rw [ew160]; exact rng_upd hzF33 (by omega) (by omega)
              refine pw_jE (fun j172 ej172 => ?_)
              refine pw_ite (fun c164 => ?_) (fun c164 => ?_)
              · have c164 := congrArg Int32.toInt c164
                refine pw_j1 ej172 (fun t172_0 et172_0 => ?_)
                have et172_0 := et172_0.symm
                have f_t172_0 : t172_0.toInt = 0 := by rw [et172_0]; decide +kernel
                have hg57 : ((0) ≤ t172_0.toInt ∧ t172_0.toInt ≤ 30) := ⟨by omega, by omega⟩
                have qq0 : rwW t172_0 d103_F32 w160 24 = (cdF d W).foldl (addF 31) [] := by exfalso; omega
                have qq1 : (∀ j, j < Int32.toNatClampNeg t172_0 → Int32.toNatClampNeg (w160 j) ≤ 24) := by intro j hj; have kn := clampI (x := t98_0) (by omega); have km := clampI (x := t172_0) (by omega); rw [show j = 0 by omega, ew160, show (0 : Nat) = Int32.toNatClampNeg (0 : Int32) from rfl, pk_us]; omega
                exact pw_some ⟨qq0, qq1⟩
              · have c164 := z_ne c164
                refine pw_j1 ej172 (fun t172_0 et172_0 => ?_)
                have et172_0 := et172_0.symm
                have f_t172_0 : t172_0.toInt = 1 := by rw [et172_0]; decide +kernel
                have hg58 : ((0) ≤ t172_0.toInt ∧ t172_0.toInt ≤ 30) := ⟨by omega, by omega⟩
                have qq0 : rwW t172_0 d103_F32 w160 24 = (cdF d W).foldl (addF 31) [] := by have k5 := clampI (x := y103_5) (by omega); have kn := clampI (x := t98_0) (by omega); have h9 := ic103; rw [show Int32.toNatClampNeg y103_5 = Int32.toNatClampNeg t98_0 by omega] at h9; have hr9 : rwW t172_0 d103_F32 w160 24 = [wdl d103_F32 0 (Int32.toNatClampNeg t98_0)] := (by have h8 := rw_app (c := 0) (c1 := t172_0) (fl := d103_F32) (fl1 := d103_F32) (fs := w160) (fs1 := w160) (x := wdl d103_F32 0 (Int32.toNatClampNeg t98_0)) (by rw [show Int32.toNatClampNeg (0 : Int32) = 0 from rfl]; have := clampI (x := t172_0) (by omega); omega) (fun _ _ => rfl) (fun _ _ => rfl) (fun j hj => absurd hj (Nat.not_lt_zero _)) (by rw [show Int32.toNatClampNeg (0 : Int32) = 0 from rfl, ew160, show Int32.toNatClampNeg (0 : Int32) = 0 from rfl, pk_us]); rw [h8]; rfl); rw [hr9]; rw [if_pos (by omega), if_pos (by omega), show Int32.toNatClampNeg t98_0 = Int32.toNatClampNeg (g 23) by omega, hW] at h9; rw [show Int32.toNatClampNeg t98_0 = Int32.toNatClampNeg (g 23) by omega, h9, cdF_kept (by rw [e4, k2 (by omega)])]; exact (show addF 31 [] W = [W] from addF_new List.not_mem_nil (by decide)).symm
                have qq1 : (∀ j, j < Int32.toNatClampNeg t172_0 → Int32.toNatClampNeg (w160 j) ≤ 24) := by intro j hj; have kn := clampI (x := t98_0) (by omega); have km := clampI (x := t172_0) (by omega); rw [show j = 0 by omega, ew160, show (0 : Nat) = Int32.toNatClampNeg (0 : Int32) from rfl, pk_us]; omega
                exact pw_some ⟨qq0, qq1⟩
            · have c107 := z_nle c107
              refine pw_jE (fun j146 ej146 => ?_)
              refine pw_ite (fun c117 => ?_) (fun c117 => ?_)
              · have c117 := congrArg Int32.toInt c117
                have f61 : (16 * ((2 * r7) + 1)).toInt = 16 * ((2 * r7) + 1).toInt := z_muld (by decide +kernel) (by omega) (by omega)
                have f62 : ((16 * ((2 * r7) + 1)) + y103_5).toInt = (16 * ((2 * r7) + 1)).toInt + y103_5.toInt := z_add (by omega) (by omega)
                refine pw_if (fun hb145 => ?_)
                obtain ⟨hbl145, hbr145⟩ := hb145
                refine pw_j1 ej146 (fun t146_0 et146_0 => ?_)
                have et146_0 := et146_0.symm
                have f_t146_0 : t146_0.toInt = ((F 20) (Int32.toNatClampNeg ((16 * ((2 * r7) + 1)) + y103_5))).toInt := by rw [et146_0]
                refine pw_if (fun hb146 => ?_)
                obtain ⟨hbl146, hbr146⟩ := hb146
                refine pw_vl (fun w146 ew146 => ?_)
                have f63 : (y103_5 + 1).toInt = y103_5.toInt + (1) := z_addc (by decide +kernel) (by omega) (by omega)
                have iv103_0 : 0 ≤ (y103_5 + 1).toInt := by omega
                have iv103_1 : (y103_5 + 1).toInt ≤ t98_0.toInt := by omega
                have iv103_2 : (wdl w146 0 (Int32.toNatClampNeg (y103_5 + 1)) = wdl (if t76_0.toInt ≠ 0 then F 22 else F 20) (if t76_0.toInt ≠ 0 then 0 else 16 * Int32.toNatClampNeg ((2 * r7) + 1)) (Int32.toNatClampNeg (y103_5 + 1))) := by have k5 := clampI (x := y103_5) (by omega); have k6 := clampI (x := y103_5 + 1) (by omega); have kq := clampI (x := (16 * ((2 * r7) + 1)) + y103_5) (by omega); rw [if_neg (by omega), if_neg (by omega)]; have h9 := ic103; rw [if_neg (by omega), if_neg (by omega)] at h9; rw [ew146, show Int32.toNatClampNeg (y103_5 + 1) = Int32.toNatClampNeg y103_5 + 1 by omega, wdl_up rfl, h9, wdl_s1, et146_0, show Int32.toNatClampNeg ((16 * ((2 * r7) + 1)) + y103_5) = 16 * Int32.toNatClampNeg ((2 * r7) + 1) + Int32.toNatClampNeg y103_5 by omega, hvb (by omega) _ (by have z9 : Int32.toNatClampNeg ((F 21) (Int32.toNatClampNeg ((2 * r7) + 1))) = ((F 21) (Int32.toNatClampNeg ((2 * r7) + 1))).toInt.toNat := rfl; omega)]
                exact ih103 (y103_5 + 1) w146 iv103_0 iv103_1 iv103_2
              · have c117 := z_ne c117
                refine pw_if (fun hb126 => ?_)
                obtain ⟨hbl126, hbr126⟩ := hb126
                refine pw_j1 ej146 (fun t146_0 et146_0 => ?_)
                have et146_0 := et146_0.symm
                have f_t146_0 : t146_0.toInt = ((F 22) (Int32.toNatClampNeg y103_5)).toInt := by rw [et146_0]
                refine pw_if (fun hb146 => ?_)
                obtain ⟨hbl146, hbr146⟩ := hb146
                refine pw_vl (fun w146 ew146 => ?_)
                have f64 : (y103_5 + 1).toInt = y103_5.toInt + (1) := z_addc (by decide +kernel) (by omega) (by omega)
                have iv103_0 : 0 ≤ (y103_5 + 1).toInt := by omega
                have iv103_1 : (y103_5 + 1).toInt ≤ t98_0.toInt := by omega
                have iv103_2 : (wdl w146 0 (Int32.toNatClampNeg (y103_5 + 1)) = wdl (if t76_0.toInt ≠ 0 then F 22 else F 20) (if t76_0.toInt ≠ 0 then 0 else 16 * Int32.toNatClampNeg ((2 * r7) + 1)) (Int32.toNatClampNeg (y103_5 + 1))) := by have k5 := clampI (x := y103_5) (by omega); have k6 := clampI (x := y103_5 + 1) (by omega); rw [if_pos (by omega), if_pos (by omega)]; have h9 := ic103; rw [if_pos (by omega), if_pos (by omega)] at h9; rw [ew146, show Int32.toNatClampNeg (y103_5 + 1) = Int32.toNatClampNeg y103_5 + 1 by omega, wdl_up rfl, h9, wdl_s1, Nat.zero_add, et146_0, hbw _ (by rw [← hW]; have h8 := wdl_mem (f := F 22) (s := 0) (m := Int32.toNatClampNeg (g 23)) (j := Int32.toNatClampNeg y103_5) (by omega); rwa [Nat.zero_add] at h8)]
                exact ih103 (y103_5 + 1) w146 iv103_0 iv103_1 iv103_2
        exact lp103 NN (0 : Int32) (F 32) (show 0 ≤ (0 : Int32).toInt from by omega) (show (0 : Int32).toInt ≤ t98_0.toInt from by omega) (show (wdl (F 32) 0 (Int32.toNatClampNeg (0 : Int32)) = wdl (if t76_0.toInt ≠ 0 then F 22 else F 20) (if t76_0.toInt ≠ 0 then 0 else 16 * Int32.toNatClampNeg ((2 * r7) + 1)) (Int32.toNatClampNeg (0 : Int32))) from by rfl)
    · have c68 := z_ne c68
      refine pw_j1 ej76 (fun t76_0 et76_0 => ?_)
      have et76_0 := et76_0.symm
      have f_t76_0 : t76_0.toInt = 0 := by rw [et76_0]; decide +kernel
      refine pw_jE (fun j98 ej98 => ?_)
      refine pw_ite (fun c78 => ?_) (fun c78 => ?_)
      · have c78 := congrArg Int32.toInt c78
        refine pw_if (fun hb97 => ?_)
        obtain ⟨hbl97, hbr97⟩ := hb97
        refine pw_j1 ej98 (fun t98_0 et98_0 => ?_)
        have et98_0 := et98_0.symm
        have f_t98_0 : t98_0.toInt = ((F 21) (Int32.toNatClampNeg ((2 * r7) + 1))).toInt := by rw [et98_0]
        have hvb : t76_0.toInt = 0 → ∀ j, j < Int32.toNatClampNeg ((F 21) (Int32.toNatClampNeg ((2 * r7) + 1))) → vp_nar .byte ((F 20) (16 * Int32.toNatClampNeg ((2 * r7) + 1) + j)) = (F 20) (16 * Int32.toNatClampNeg ((2 * r7) + 1) + j) := fun h9 j hj => by have h8 := k3 (by omega); have h7 := ((hwf.1 e (List.mem_of_getElem? e5)).2.2 _ h8).1; exact h7 _ (wdl_mem hj)
        refine pw_jE (fun k153 ek153 => ?_)
        have lp103 : ∀ (n103 : Nat) (y103_5 : Int32) (d103_F32 : (Nat → Int32)), 0 ≤ y103_5.toInt → y103_5.toInt ≤ t98_0.toInt → (wdl d103_F32 0 (Int32.toNatClampNeg y103_5) = wdl (if t76_0.toInt ≠ 0 then F 22 else F 20) (if t76_0.toInt ≠ 0 then 0 else 16 * Int32.toNatClampNeg ((2 * r7) + 1)) (Int32.toNatClampNeg y103_5)) → pw (L_turnBy_103 F r7 t76_0 t98_0 k153 n103 y103_5 d103_F32) (QF_turnBy g F p0 d W) := by
          intro n103
          induction n103 with
          | zero => intros; exact pw_none
          | succ n103 ih103 =>
            intro y103_5 d103_F32 f68 f69 ic103
            show pw (B_turnBy_103 F r7 t76_0 t98_0 k153 (L_turnBy_103 F r7 t76_0 t98_0 k153 n103) y103_5 d103_F32) _
            unfold B_turnBy_103
            refine pw_ite (fun c107 => ?_) (fun c107 => ?_)
            · have c107 := (z_le _ _).mp c107
              refine pw_j1 ek153 (fun z153_1 ez153_1 => ?_)
              subst ez153_1
              refine pw_if (fun hb160 => ?_)
              obtain ⟨hbl160, hbr160⟩ := hb160
              refine pw_vl (fun w160 ew160 => ?_)
              have hF70 : rng (0) 24 w160 := by rw [ew160]; exact rng_upd hzF33 (by omega) (by omega)
              refine pw_jE (fun j172 ej172 => ?_)
              refine pw_ite (fun c164 => ?_) (fun c164 => ?_)
              · have c164 := congrArg Int32.toInt c164
                refine pw_j1 ej172 (fun t172_0 et172_0 => ?_)
                have et172_0 := et172_0.symm
                have f_t172_0 : t172_0.toInt = 0 := by rw [et172_0]; decide +kernel
                have hg71 : ((0) ≤ t172_0.toInt ∧ t172_0.toInt ≤ 30) := ⟨by omega, by omega⟩
                have qq0 : rwW t172_0 d103_F32 w160 24 = (cdF d W).foldl (addF 31) [] := by have k5 := clampI (x := y103_5) (by omega); have kn := clampI (x := t98_0) (by omega); have h9 := ic103; rw [show Int32.toNatClampNeg y103_5 = Int32.toNatClampNeg t98_0 by omega] at h9; rw [show rwW t172_0 d103_F32 w160 24 = [] from List.length_eq_zero_iff.mp (by rw [rw_len]; have := clampI (x := t172_0) (by omega); omega)]; rw [cdF_list (by rw [e4, k3 (by omega)]), gdF_bad (Or.inl (by unfold WR; rw [wdl_len]; have := clampI (x := (F 21) (Int32.toNatClampNeg ((2 * r7) + 1))) (by omega); omega))]; rfl
                have qq1 : (∀ j, j < Int32.toNatClampNeg t172_0 → Int32.toNatClampNeg (w160 j) ≤ 24) := by intro j hj; have kn := clampI (x := t98_0) (by omega); have km := clampI (x := t172_0) (by omega); rw [show j = 0 by omega, ew160, show (0 : Nat) = Int32.toNatClampNeg (0 : Int32) from rfl, pk_us]; omega
                exact pw_some ⟨qq0, qq1⟩
              · have c164 := z_ne c164
                refine pw_j1 ej172 (fun t172_0 et172_0 => ?_)
                have et172_0 := et172_0.symm
                have f_t172_0 : t172_0.toInt = 1 := by rw [et172_0]; decide +kernel
                have hg72 : ((0) ≤ t172_0.toInt ∧ t172_0.toInt ≤ 30) := ⟨by omega, by omega⟩
                have qq0 : rwW t172_0 d103_F32 w160 24 = (cdF d W).foldl (addF 31) [] := by have k5 := clampI (x := y103_5) (by omega); have kn := clampI (x := t98_0) (by omega); have h9 := ic103; rw [show Int32.toNatClampNeg y103_5 = Int32.toNatClampNeg t98_0 by omega] at h9; have hr9 : rwW t172_0 d103_F32 w160 24 = [wdl d103_F32 0 (Int32.toNatClampNeg t98_0)] := (by have h8 := rw_app (c := 0) (c1 := t172_0) (fl := d103_F32) (fl1 := d103_F32) (fs := w160) (fs1 := w160) (x := wdl d103_F32 0 (Int32.toNatClampNeg t98_0)) (by rw [show Int32.toNatClampNeg (0 : Int32) = 0 from rfl]; have := clampI (x := t172_0) (by omega); omega) (fun _ _ => rfl) (fun _ _ => rfl) (fun j hj => absurd hj (Nat.not_lt_zero _)) (by rw [show Int32.toNatClampNeg (0 : Int32) = 0 from rfl, ew160, show Int32.toNatClampNeg (0 : Int32) = 0 from rfl, pk_us]); rw [h8]; rfl); rw [hr9]; rw [if_neg (by omega), if_neg (by omega)] at h9; rw [h9, cdF_list (by rw [e4, k3 (by omega)]), show Int32.toNatClampNeg t98_0 = Int32.toNatClampNeg ((F 21) (Int32.toNatClampNeg ((2 * r7) + 1))) by first | (exfalso; omega) | rw [et98_0]]; have h7 : gdF (some (WR (F 20) (F 21) (Int32.toNatClampNeg ((2 * r7) + 1)))) = [WR (F 20) (F 21) (Int32.toNatClampNeg ((2 * r7) + 1))] := gdF_ok (by unfold WR; rw [wdl_len]; have := clampI (x := (F 21) (Int32.toNatClampNeg ((2 * r7) + 1))) (by omega); omega); rw [h7]; exact (show addF 31 [] _ = [_] from addF_new List.not_mem_nil (by decide)).symm
                have qq1 : (∀ j, j < Int32.toNatClampNeg t172_0 → Int32.toNatClampNeg (w160 j) ≤ 24) := by intro j hj; have kn := clampI (x := t98_0) (by omega); have km := clampI (x := t172_0) (by omega); rw [show j = 0 by omega, ew160, show (0 : Nat) = Int32.toNatClampNeg (0 : Int32) from rfl, pk_us]; omega
                exact pw_some ⟨qq0, qq1⟩
            · have c107 := z_nle c107
              refine pw_jE (fun j146 ej146 => ?_)
              refine pw_ite (fun c117 => ?_) (fun c117 => ?_)
              · have c117 := congrArg Int32.toInt c117
                have f75 : (16 * ((2 * r7) + 1)).toInt = 16 * ((2 * r7) + 1).toInt := z_muld (by decide +kernel) (by omega) (by omega)
                have f76 : ((16 * ((2 * r7) + 1)) + y103_5).toInt = (16 * ((2 * r7) + 1)).toInt + y103_5.toInt := z_add (by omega) (by omega)
                refine pw_if (fun hb145 => ?_)
                obtain ⟨hbl145, hbr145⟩ := hb145
                refine pw_j1 ej146 (fun t146_0 et146_0 => ?_)
                have et146_0 := et146_0.symm
                have f_t146_0 : t146_0.toInt = ((F 20) (Int32.toNatClampNeg ((16 * ((2 * r7) + 1)) + y103_5))).toInt := by rw [et146_0]
                refine pw_if (fun hb146 => ?_)
                obtain ⟨hbl146, hbr146⟩ := hb146
                refine pw_vl (fun w146 ew146 => ?_)
                have f77 : (y103_5 + 1).toInt = y103_5.toInt + (1) := z_addc (by decide +kernel) (by omega) (by omega)
                have iv103_0 : 0 ≤ (y103_5 + 1).toInt := by omega
                have iv103_1 : (y103_5 + 1).toInt ≤ t98_0.toInt := by omega
                have iv103_2 : (wdl w146 0 (Int32.toNatClampNeg (y103_5 + 1)) = wdl (if t76_0.toInt ≠ 0 then F 22 else F 20) (if t76_0.toInt ≠ 0 then 0 else 16 * Int32.toNatClampNeg ((2 * r7) + 1)) (Int32.toNatClampNeg (y103_5 + 1))) := by have k5 := clampI (x := y103_5) (by omega); have k6 := clampI (x := y103_5 + 1) (by omega); have kq := clampI (x := (16 * ((2 * r7) + 1)) + y103_5) (by omega); rw [if_neg (by omega), if_neg (by omega)]; have h9 := ic103; rw [if_neg (by omega), if_neg (by omega)] at h9; rw [ew146, show Int32.toNatClampNeg (y103_5 + 1) = Int32.toNatClampNeg y103_5 + 1 by omega, wdl_up rfl, h9, wdl_s1, et146_0, show Int32.toNatClampNeg ((16 * ((2 * r7) + 1)) + y103_5) = 16 * Int32.toNatClampNeg ((2 * r7) + 1) + Int32.toNatClampNeg y103_5 by omega, hvb (by omega) _ (by have z9 : Int32.toNatClampNeg ((F 21) (Int32.toNatClampNeg ((2 * r7) + 1))) = ((F 21) (Int32.toNatClampNeg ((2 * r7) + 1))).toInt.toNat := rfl; omega)]
                exact ih103 (y103_5 + 1) w146 iv103_0 iv103_1 iv103_2
              · have c117 := z_ne c117
                refine pw_if (fun hb126 => ?_)
                obtain ⟨hbl126, hbr126⟩ := hb126
                refine pw_j1 ej146 (fun t146_0 et146_0 => ?_)
                have et146_0 := et146_0.symm
                have f_t146_0 : t146_0.toInt = ((F 22) (Int32.toNatClampNeg y103_5)).toInt := by rw [et146_0]
                refine pw_if (fun hb146 => ?_)
                obtain ⟨hbl146, hbr146⟩ := hb146
                refine pw_vl (fun w146 ew146 => ?_)
                have f78 : (y103_5 + 1).toInt = y103_5.toInt + (1) := z_addc (by decide +kernel) (by omega) (by omega)
                have iv103_0 : 0 ≤ (y103_5 + 1).toInt := by omega
                have iv103_1 : (y103_5 + 1).toInt ≤ t98_0.toInt := by omega
                have iv103_2 : (wdl w146 0 (Int32.toNatClampNeg (y103_5 + 1)) = wdl (if t76_0.toInt ≠ 0 then F 22 else F 20) (if t76_0.toInt ≠ 0 then 0 else 16 * Int32.toNatClampNeg ((2 * r7) + 1)) (Int32.toNatClampNeg (y103_5 + 1))) := by have k5 := clampI (x := y103_5) (by omega); have k6 := clampI (x := y103_5 + 1) (by omega); rw [if_pos (by omega), if_pos (by omega)]; have h9 := ic103; rw [if_pos (by omega), if_pos (by omega)] at h9; rw [ew146, show Int32.toNatClampNeg (y103_5 + 1) = Int32.toNatClampNeg y103_5 + 1 by omega, wdl_up rfl, h9, wdl_s1, Nat.zero_add, et146_0, hbw _ (by rw [← hW]; have h8 := wdl_mem (f := F 22) (s := 0) (m := Int32.toNatClampNeg (g 23)) (j := Int32.toNatClampNeg y103_5) (by omega); rwa [Nat.zero_add] at h8)]
                exact ih103 (y103_5 + 1) w146 iv103_0 iv103_1 iv103_2
        exact lp103 NN (0 : Int32) (F 32) (show 0 ≤ (0 : Int32).toInt from by omega) (show (0 : Int32).toInt ≤ t98_0.toInt from by omega) (show (wdl (F 32) 0 (Int32.toNatClampNeg (0 : Int32)) = wdl (if t76_0.toInt ≠ 0 then F 22 else F 20) (if t76_0.toInt ≠ 0 then 0 else 16 * Int32.toNatClampNeg ((2 * r7) + 1)) (Int32.toNatClampNeg (0 : Int32))) from by rfl)
      · have c78 := z_ne c78
        refine pw_j1 ej98 (fun t98_0 et98_0 => ?_)
        have et98_0 := et98_0.symm
        have f_t98_0 : t98_0.toInt = (g 23).toInt := by rw [et98_0]
        have hvb : t76_0.toInt = 0 → ∀ j, j < Int32.toNatClampNeg ((F 21) (Int32.toNatClampNeg ((2 * r7) + 1))) → vp_nar .byte ((F 20) (16 * Int32.toNatClampNeg ((2 * r7) + 1) + j)) = (F 20) (16 * Int32.toNatClampNeg ((2 * r7) + 1) + j) := fun h9 j hj => by have h8 := k3 (by omega); have h7 := ((hwf.1 e (List.mem_of_getElem? e5)).2.2 _ h8).1; exact h7 _ (wdl_mem hj)
        refine pw_jE (fun k153 ek153 => ?_)
        have lp103 : ∀ (n103 : Nat) (y103_5 : Int32) (d103_F32 : (Nat → Int32)), 0 ≤ y103_5.toInt → y103_5.toInt ≤ t98_0.toInt → (wdl d103_F32 0 (Int32.toNatClampNeg y103_5) = wdl (if t76_0.toInt ≠ 0 then F 22 else F 20) (if t76_0.toInt ≠ 0 then 0 else 16 * Int32.toNatClampNeg ((2 * r7) + 1)) (Int32.toNatClampNeg y103_5)) → pw (L_turnBy_103 F r7 t76_0 t98_0 k153 n103 y103_5 d103_F32) (QF_turnBy g F p0 d W) := by
          intro n103
          induction n103 with
          | zero => intros; exact pw_none
          | succ n103 ih103 =>
            intro y103_5 d103_F32 f79 f80 ic103
            show pw (B_turnBy_103 F r7 t76_0 t98_0 k153 (L_turnBy_103 F r7 t76_0 t98_0 k153 n103) y103_5 d103_F32) _
            unfold B_turnBy_103
            refine pw_ite (fun c107 => ?_) (fun c107 => ?_)
            · have c107 := (z_le _ _).mp c107
              refine pw_j1 ek153 (fun z153_1 ez153_1 => ?_)
              subst ez153_1
              refine pw_if (fun hb160 => ?_)
              obtain ⟨hbl160, hbr160⟩ := hb160
              refine pw_vl (fun w160 ew160 => ?_)
              have hF81 : rng (0) 24 w160 := by rw [ew160]; exact rng_upd hzF33 (by omega) (by omega)
              refine pw_jE (fun j172 ej172 => ?_)
              refine pw_ite (fun c164 => ?_) (fun c164 => ?_)
              · have c164 := congrArg Int32.toInt c164
                refine pw_j1 ej172 (fun t172_0 et172_0 => ?_)
                have et172_0 := et172_0.symm
                have f_t172_0 : t172_0.toInt = 0 := by rw [et172_0]; decide +kernel
                have hg82 : ((0) ≤ t172_0.toInt ∧ t172_0.toInt ≤ 30) := ⟨by omega, by omega⟩
                have qq0 : rwW t172_0 d103_F32 w160 24 = (cdF d W).foldl (addF 31) [] := by have k5 := clampI (x := y103_5) (by omega); have kn := clampI (x := t98_0) (by omega); have h9 := ic103; rw [show Int32.toNatClampNeg y103_5 = Int32.toNatClampNeg t98_0 by omega] at h9; rw [show rwW t172_0 d103_F32 w160 24 = [] from List.length_eq_zero_iff.mp (by rw [rw_len]; have := clampI (x := t172_0) (by omega); omega)]; rw [cdF_list (by rw [e4, k3 (by omega)]), gdF_bad (Or.inl (by unfold WR; rw [wdl_len]; have := clampI (x := (F 21) (Int32.toNatClampNeg ((2 * r7) + 1))) (by omega); omega))]; rfl
                have qq1 : (∀ j, j < Int32.toNatClampNeg t172_0 → Int32.toNatClampNeg (w160 j) ≤ 24) := by intro j hj; have kn := clampI (x := t98_0) (by omega); have km := clampI (x := t172_0) (by omega); rw [show j = 0 by omega, ew160, show (0 : Nat) = Int32.toNatClampNeg (0 : Int32) from rfl, pk_us]; omega
                exact pw_some ⟨qq0, qq1⟩
              · have c164 := z_ne c164
                refine pw_j1 ej172 (fun t172_0 et172_0 => ?_)
                have et172_0 := et172_0.symm
                have f_t172_0 : t172_0.toInt = 1 := by rw [et172_0]; decide +kernel
                have hg83 : ((0) ≤ t172_0.toInt ∧ t172_0.toInt ≤ 30) := ⟨by omega, by omega⟩
                have qq0 : rwW t172_0 d103_F32 w160 24 = (cdF d W).foldl (addF 31) [] := by have k5 := clampI (x := y103_5) (by omega); have kn := clampI (x := t98_0) (by omega); have h9 := ic103; rw [show Int32.toNatClampNeg y103_5 = Int32.toNatClampNeg t98_0 by omega] at h9; have hr9 : rwW t172_0 d103_F32 w160 24 = [wdl d103_F32 0 (Int32.toNatClampNeg t98_0)] := (by have h8 := rw_app (c := 0) (c1 := t172_0) (fl := d103_F32) (fl1 := d103_F32) (fs := w160) (fs1 := w160) (x := wdl d103_F32 0 (Int32.toNatClampNeg t98_0)) (by rw [show Int32.toNatClampNeg (0 : Int32) = 0 from rfl]; have := clampI (x := t172_0) (by omega); omega) (fun _ _ => rfl) (fun _ _ => rfl) (fun j hj => absurd hj (Nat.not_lt_zero _)) (by rw [show Int32.toNatClampNeg (0 : Int32) = 0 from rfl, ew160, show Int32.toNatClampNeg (0 : Int32) = 0 from rfl, pk_us]); rw [h8]; rfl); rw [hr9]; rw [if_neg (by omega), if_neg (by omega)] at h9; rw [h9, cdF_list (by rw [e4, k3 (by omega)]), show Int32.toNatClampNeg t98_0 = Int32.toNatClampNeg ((F 21) (Int32.toNatClampNeg ((2 * r7) + 1))) by first | (exfalso; omega) | rw [et98_0]]; have h7 : gdF (some (WR (F 20) (F 21) (Int32.toNatClampNeg ((2 * r7) + 1)))) = [WR (F 20) (F 21) (Int32.toNatClampNeg ((2 * r7) + 1))] := gdF_ok (by unfold WR; rw [wdl_len]; have := clampI (x := (F 21) (Int32.toNatClampNeg ((2 * r7) + 1))) (by omega); omega); rw [h7]; exact (show addF 31 [] _ = [_] from addF_new List.not_mem_nil (by decide)).symm
                have qq1 : (∀ j, j < Int32.toNatClampNeg t172_0 → Int32.toNatClampNeg (w160 j) ≤ 24) := by intro j hj; have kn := clampI (x := t98_0) (by omega); have km := clampI (x := t172_0) (by omega); rw [show j = 0 by omega, ew160, show (0 : Nat) = Int32.toNatClampNeg (0 : Int32) from rfl, pk_us]; omega
                exact pw_some ⟨qq0, qq1⟩
            · have c107 := z_nle c107
              refine pw_jE (fun j146 ej146 => ?_)
              refine pw_ite (fun c117 => ?_) (fun c117 => ?_)
              · have c117 := congrArg Int32.toInt c117
                have f86 : (16 * ((2 * r7) + 1)).toInt = 16 * ((2 * r7) + 1).toInt := z_muld (by decide +kernel) (by omega) (by omega)
                have f87 : ((16 * ((2 * r7) + 1)) + y103_5).toInt = (16 * ((2 * r7) + 1)).toInt + y103_5.toInt := z_add (by omega) (by omega)
                refine pw_if (fun hb145 => ?_)
                obtain ⟨hbl145, hbr145⟩ := hb145
                refine pw_j1 ej146 (fun t146_0 et146_0 => ?_)
                have et146_0 := et146_0.symm
                have f_t146_0 : t146_0.toInt = ((F 20) (Int32.toNatClampNeg ((16 * ((2 * r7) + 1)) + y103_5))).toInt := by rw [et146_0]
                refine pw_if (fun hb146 => ?_)
                obtain ⟨hbl146, hbr146⟩ := hb146
                refine pw_vl (fun w146 ew146 => ?_)
                have f88 : (y103_5 + 1).toInt = y103_5.toInt + (1) := z_addc (by decide +kernel) (by omega) (by omega)
                have iv103_0 : 0 ≤ (y103_5 + 1).toInt := by omega
                have iv103_1 : (y103_5 + 1).toInt ≤ t98_0.toInt := by omega
                have iv103_2 : (wdl w146 0 (Int32.toNatClampNeg (y103_5 + 1)) = wdl (if t76_0.toInt ≠ 0 then F 22 else F 20) (if t76_0.toInt ≠ 0 then 0 else 16 * Int32.toNatClampNeg ((2 * r7) + 1)) (Int32.toNatClampNeg (y103_5 + 1))) := by have k5 := clampI (x := y103_5) (by omega); have k6 := clampI (x := y103_5 + 1) (by omega); have kq := clampI (x := (16 * ((2 * r7) + 1)) + y103_5) (by omega); rw [if_neg (by omega), if_neg (by omega)]; have h9 := ic103; rw [if_neg (by omega), if_neg (by omega)] at h9; rw [ew146, show Int32.toNatClampNeg (y103_5 + 1) = Int32.toNatClampNeg y103_5 + 1 by omega, wdl_up rfl, h9, wdl_s1, et146_0, show Int32.toNatClampNeg ((16 * ((2 * r7) + 1)) + y103_5) = 16 * Int32.toNatClampNeg ((2 * r7) + 1) + Int32.toNatClampNeg y103_5 by omega, hvb (by omega) _ (by have z9 : Int32.toNatClampNeg ((F 21) (Int32.toNatClampNeg ((2 * r7) + 1))) = ((F 21) (Int32.toNatClampNeg ((2 * r7) + 1))).toInt.toNat := rfl; omega)]
                exact ih103 (y103_5 + 1) w146 iv103_0 iv103_1 iv103_2
              · have c117 := z_ne c117
                refine pw_if (fun hb126 => ?_)
                obtain ⟨hbl126, hbr126⟩ := hb126
                refine pw_j1 ej146 (fun t146_0 et146_0 => ?_)
                have et146_0 := et146_0.symm
                have f_t146_0 : t146_0.toInt = ((F 22) (Int32.toNatClampNeg y103_5)).toInt := by rw [et146_0]
                refine pw_if (fun hb146 => ?_)
                obtain ⟨hbl146, hbr146⟩ := hb146
                refine pw_vl (fun w146 ew146 => ?_)
                have f89 : (y103_5 + 1).toInt = y103_5.toInt + (1) := z_addc (by decide +kernel) (by omega) (by omega)
                have iv103_0 : 0 ≤ (y103_5 + 1).toInt := by omega
                have iv103_1 : (y103_5 + 1).toInt ≤ t98_0.toInt := by omega
                have iv103_2 : (wdl w146 0 (Int32.toNatClampNeg (y103_5 + 1)) = wdl (if t76_0.toInt ≠ 0 then F 22 else F 20) (if t76_0.toInt ≠ 0 then 0 else 16 * Int32.toNatClampNeg ((2 * r7) + 1)) (Int32.toNatClampNeg (y103_5 + 1))) := by have k5 := clampI (x := y103_5) (by omega); have k6 := clampI (x := y103_5 + 1) (by omega); rw [if_pos (by omega), if_pos (by omega)]; have h9 := ic103; rw [if_pos (by omega), if_pos (by omega)] at h9; rw [ew146, show Int32.toNatClampNeg (y103_5 + 1) = Int32.toNatClampNeg y103_5 + 1 by omega, wdl_up rfl, h9, wdl_s1, Nat.zero_add, et146_0, hbw _ (by rw [← hW]; have h8 := wdl_mem (f := F 22) (s := 0) (m := Int32.toNatClampNeg (g 23)) (j := Int32.toNatClampNeg y103_5) (by omega); rwa [Nat.zero_add] at h8)]
                exact ih103 (y103_5 + 1) w146 iv103_0 iv103_1 iv103_2
        exact lp103 NN (0 : Int32) (F 32) (show 0 ≤ (0 : Int32).toInt from by omega) (show (0 : Int32).toInt ≤ t98_0.toInt from by omega) (show (wdl (F 32) 0 (Int32.toNatClampNeg (0 : Int32)) = wdl (if t76_0.toInt ≠ 0 then F 22 else F 20) (if t76_0.toInt ≠ 0 then 0 else 16 * Int32.toNatClampNeg ((2 * r7) + 1)) (Int32.toNatClampNeg (0 : Int32))) from by rfl)
