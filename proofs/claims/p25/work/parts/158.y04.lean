abbrev QF_stands (g : Nat → Int32) (F : Nat → Nat → Int32) (p0 : Int32) (A1 : (Nat → Int32)) (n1 : Nat) (p2 : Int32) (p3 : Int32) : (Int32) → Prop := (fun t => ((t.toInt ≠ 0 → 0 ≤ p2.toInt ∧ p2.toInt + ((F 15) (Int32.toNatClampNeg p0)).toInt ≤ p3.toInt ∧ wdl A1 (Int32.toNatClampNeg p2) (Int32.toNatClampNeg ((F 15) (Int32.toNatClampNeg p0))) = WR (F 14) (F 15) (Int32.toNatClampNeg p0))) ∧ ((t.toInt = 0 → 0 ≤ p2.toInt → p2.toInt + ((F 15) (Int32.toNatClampNeg p0)).toInt ≤ p3.toInt → wdl A1 (Int32.toNatClampNeg p2) (Int32.toNatClampNeg ((F 15) (Int32.toNatClampNeg p0))) ≠ WR (F 14) (F 15) (Int32.toNatClampNeg p0))))
set_option maxHeartbeats 4000000 in
set_option maxRecDepth 100000 in
theorem fn_stands (g : Nat → Int32) (F : Nat → Nat → Int32) (p0 : Int32) (A1 : (Nat → Int32)) (n1 : Nat) (p2 : Int32) (p3 : Int32) (hI : MInv g F) (hp0 : (0 ≤ p0.toInt ∧ p0.toInt < 1120)) (hp1 : p3.toInt ≤ n1) (hp2 : n1 ≤ 400) (hp3 : p2.toInt ≤ 400) (hsz : 0 ≤ ((F 15) (Int32.toNatClampNeg p0)).toInt) : pw (f_stands g F p0 A1 n1 p2 p3) (QF_stands g F p0 A1 n1 p2 p3) := by
  unfold f_stands
  have hI9 : id (MInv g F) := hI
  obtain ⟨-, -, -, -, -, -, -, -, -, -, -, -, -, -, -, -, -, -, -, -, -, -, -, -, -, hzF11, hzF12, hzF13, hzF15, hzF19, hzF21, hzF24, hzF25, hzF26, hzF33, hzF38, hzF41, hzF43, hzF45, hzF46, hzF50, hzF53, hzF54, hzLQ⟩ := hI
  have zk0 : (0 : Int32).toInt = 0 := by decide +kernel
  have zk1 : (1 : Int32).toInt = 1 := by decide +kernel
  have zk16 : (16 : Int32).toInt = 16 := by decide +kernel
  have cp0 := clampI (x := p0) (by omega)
  have csz := clampI hsz
  refine pw_jE (fun j17 ej17 => ?_)
  refine pw_ite (fun c1 => ?_) (fun c1 => ?_)
  · have c1 := (z_lt _ _).mp c1
    refine pw_j0 ej17 ?_
    have qq0 : ((0 : Int32).toInt ≠ 0 → 0 ≤ p2.toInt ∧ p2.toInt + ((F 15) (Int32.toNatClampNeg p0)).toInt ≤ p3.toInt ∧ wdl A1 (Int32.toNatClampNeg p2) (Int32.toNatClampNeg ((F 15) (Int32.toNatClampNeg p0))) = WR (F 14) (F 15) (Int32.toNatClampNeg p0)) := by intro h; omega
    have qq1 : ((0 : Int32).toInt = 0 → 0 ≤ p2.toInt → p2.toInt + ((F 15) (Int32.toNatClampNeg p0)).toInt ≤ p3.toInt → wdl A1 (Int32.toNatClampNeg p2) (Int32.toNatClampNeg ((F 15) (Int32.toNatClampNeg p0))) ≠ WR (F 14) (F 15) (Int32.toNatClampNeg p0)) := by intro _ h1 h2; omega
    exact pw_some ⟨qq0, qq1⟩
  · have c1 := z_nlt c1
    refine pw_if (fun hb10 => ?_)
    obtain ⟨hbl10, hbr10⟩ := hb10
    have f1 := hzF15 (Int32.toNatClampNeg p0)
    have f2 : (p2 + ((F 15) (Int32.toNatClampNeg p0))).toInt = p2.toInt + ((F 15) (Int32.toNatClampNeg p0)).toInt := z_add (by omega) (by omega)
    refine pw_ite (fun c14 => ?_) (fun c14 => ?_)
    · have c14 := (z_le _ _).mp c14
      have lp22 : ∀ (n22 : Nat) (y22_5 : Int32), 0 ≤ y22_5.toInt → (∀ i : Nat, (i : Int) < y22_5.toInt → A1 (Int32.toNatClampNeg p2 + i) = (F 14) (16 * Int32.toNatClampNeg p0 + i)) → pw (L_stands_22 F p0 A1 n1 p2 n22 y22_5) (QF_stands g F p0 A1 n1 p2 p3) := by
        intro n22
        induction n22 with
        | zero => intros; exact pw_none
        | succ n22 ih22 =>
          intro y22_5 f3 is22
          show pw (B_stands_22 F p0 A1 n1 p2 (L_stands_22 F p0 A1 n1 p2 n22) y22_5) _
          unfold B_stands_22
          refine pw_if (fun hb29 => ?_)
          obtain ⟨hbl29, hbr29⟩ := hb29
          refine pw_ite (fun c30 => ?_) (fun c30 => ?_)
          · have c30 := (z_le _ _).mp c30
            have qq0 : ((1 : Int32).toInt ≠ 0 → 0 ≤ p2.toInt ∧ p2.toInt + ((F 15) (Int32.toNatClampNeg p0)).toInt ≤ p3.toInt ∧ wdl A1 (Int32.toNatClampNeg p2) (Int32.toNatClampNeg ((F 15) (Int32.toNatClampNeg p0))) = WR (F 14) (F 15) (Int32.toNatClampNeg p0)) := by intro _; have cp2 := clampI (x := p2) (by omega); exact ⟨by omega, by omega, wdl_inj.mpr ⟨rfl, fun i hi => is22 i (by omega)⟩⟩
            have qq1 : ((1 : Int32).toInt = 0 → 0 ≤ p2.toInt → p2.toInt + ((F 15) (Int32.toNatClampNeg p0)).toInt ≤ p3.toInt → wdl A1 (Int32.toNatClampNeg p2) (Int32.toNatClampNeg ((F 15) (Int32.toNatClampNeg p0))) ≠ WR (F 14) (F 15) (Int32.toNatClampNeg p0)) := by intro h; omega
            exact pw_some ⟨qq0, qq1⟩
          · have c30 := z_nle c30
            have f5 : (p2 + y22_5).toInt = p2.toInt + y22_5.toInt := z_add (by omega) (by omega)
            refine pw_if (fun hb38 => ?_)
            obtain ⟨hbl38, hbr38⟩ := hb38
            have f6 : (16 * p0).toInt = 16 * p0.toInt := z_muld (by decide +kernel) (by omega) (by omega)
            have f7 : ((16 * p0) + y22_5).toInt = (16 * p0).toInt + y22_5.toInt := z_add (by omega) (by omega)
            refine pw_if (fun hb50 => ?_)
            obtain ⟨hbl50, hbr50⟩ := hb50
            refine pw_ite (fun c51 => ?_) (fun c51 => ?_)
            · have c51 := congrArg Int32.toInt c51
              have f8 : (y22_5 + 1).toInt = y22_5.toInt + (1) := z_addc (by decide +kernel) (by omega) (by omega)
              have iv22_0 : 0 ≤ (y22_5 + 1).toInt := by omega
              have iv22_1 : (∀ i : Nat, (i : Int) < (y22_5 + 1).toInt → A1 (Int32.toNatClampNeg p2 + i) = (F 14) (16 * Int32.toNatClampNeg p0 + i)) := by intro i hi; by_cases q : (i : Int) < y22_5.toInt; (exact is22 i q); (have cp2 := clampI (x := p2) (by omega); have c5 := clampI (x := y22_5) (by omega); have c6 := clampI (x := p2 + y22_5) (by omega); have c7 := clampI (x := (16 * p0) + y22_5) (by omega); rw [show Int32.toNatClampNeg p2 + i = Int32.toNatClampNeg (p2 + y22_5) by omega, show 16 * Int32.toNatClampNeg p0 + i = Int32.toNatClampNeg ((16 * p0) + y22_5) by omega]; exact z_e c51)
              exact ih22 (y22_5 + 1) iv22_0 iv22_1
            · have c51 := z_ne c51
              have qq0 : ((0 : Int32).toInt ≠ 0 → 0 ≤ p2.toInt ∧ p2.toInt + ((F 15) (Int32.toNatClampNeg p0)).toInt ≤ p3.toInt ∧ wdl A1 (Int32.toNatClampNeg p2) (Int32.toNatClampNeg ((F 15) (Int32.toNatClampNeg p0))) = WR (F 14) (F 15) (Int32.toNatClampNeg p0)) := by intro h; omega
              have qq1 : ((0 : Int32).toInt = 0 → 0 ≤ p2.toInt → p2.toInt + ((F 15) (Int32.toNatClampNeg p0)).toInt ≤ p3.toInt → wdl A1 (Int32.toNatClampNeg p2) (Int32.toNatClampNeg ((F 15) (Int32.toNatClampNeg p0))) ≠ WR (F 14) (F 15) (Int32.toNatClampNeg p0)) := by intro _ h1 h2 h; have cp2 := clampI (x := p2) (by omega); have c5 := clampI (x := y22_5) (by omega); have c6 := clampI (x := p2 + y22_5) (by omega); have c7 := clampI (x := (16 * p0) + y22_5) (by omega); have h3 := (wdl_inj.mp h).2 (Int32.toNatClampNeg y22_5) (by omega); rw [show Int32.toNatClampNeg p2 + Int32.toNatClampNeg y22_5 = Int32.toNatClampNeg (p2 + y22_5) by omega, show 16 * Int32.toNatClampNeg p0 + Int32.toNatClampNeg y22_5 = Int32.toNatClampNeg ((16 * p0) + y22_5) by omega] at h3; exact c51 (congrArg Int32.toInt h3)
              exact pw_some ⟨qq0, qq1⟩
      exact lp22 NN (0 : Int32) (show 0 ≤ (0 : Int32).toInt from by omega) (show (∀ i : Nat, (i : Int) < (0 : Int32).toInt → A1 (Int32.toNatClampNeg p2 + i) = (F 14) (16 * Int32.toNatClampNeg p0 + i)) from by intro i hi; omega)
    · have c14 := z_nle c14
      refine pw_j0 ej17 ?_
      have qq0 : ((0 : Int32).toInt ≠ 0 → 0 ≤ p2.toInt ∧ p2.toInt + ((F 15) (Int32.toNatClampNeg p0)).toInt ≤ p3.toInt ∧ wdl A1 (Int32.toNatClampNeg p2) (Int32.toNatClampNeg ((F 15) (Int32.toNatClampNeg p0))) = WR (F 14) (F 15) (Int32.toNatClampNeg p0)) := by intro h; omega
      have qq1 : ((0 : Int32).toInt = 0 → 0 ≤ p2.toInt → p2.toInt + ((F 15) (Int32.toNatClampNeg p0)).toInt ≤ p3.toInt → wdl A1 (Int32.toNatClampNeg p2) (Int32.toNatClampNeg ((F 15) (Int32.toNatClampNeg p0))) ≠ WR (F 14) (F 15) (Int32.toNatClampNeg p0)) := by intro _ h1 h2; omega
      exact pw_some ⟨qq0, qq1⟩
abbrev QF_lawThrough (g : Nat → Int32) (F : Nat → Nat → Int32) (p0 : Int32) (L : Lw) (W : Wd) : (Int32 × Int32 × (Nat → Int32) × (Nat → Int32)) → Prop := (fun t => (wdl (t.2.2.1) 0 (Int32.toNatClampNeg (t.1)) = (lawT L W).1) ∧ (((t.2.1).toInt ≠ 0 ↔ ((g 36).toInt ≠ 0 ∨ ((lawT L W).2 = true ∧ p0.toInt = (g 35).toInt)))))
set_option maxHeartbeats 4000000 in
set_option maxRecDepth 100000 in
theorem fn_lawThrough (g : Nat → Int32) (F : Nat → Nat → Int32) (p0 : Int32) (L : Lw) (W : Wd) (hI : MInv g F) (hp0 : (0 ≤ p0.toInt ∧ p0.toInt < 280)) (hp1 : (g 30).toInt ≤ 24) (hp2 : 1 ≤ ((F 15) (Int32.toNatClampNeg (4 * p0))).toInt) (hL : lawR (F 14) (F 15) (F 16) (F 17) (Int32.toNatClampNeg p0) = L) (hW : wdl (F 29) 0 (Int32.toNatClampNeg (g 30)) = W) (hbw : BW W) (hb2 : BW L.2.1) (hl1 : 1 ≤ L.1.length) : pw (f_lawThrough g F p0) (QF_lawThrough g F p0 L W) := by
  unfold f_lawThrough
  have hI9 : id (MInv g F) := hI
  obtain ⟨-, -, -, -, -, -, -, -, -, -, -, hzg30, -, hzg36, -, -, -, -, -, -, -, -, -, -, -, hzF11, hzF12, hzF13, hzF15, hzF19, hzF21, hzF24, hzF25, hzF26, hzF33, hzF38, hzF41, hzF43, hzF45, hzF46, hzF50, hzF53, hzF54, hzLQ⟩ := hI
  have zkm1 : (-1 : Int32).toInt = -1 := by decide +kernel
  have zk0 : (0 : Int32).toInt = 0 := by decide +kernel
  have zk1 : (1 : Int32).toInt = 1 := by decide +kernel
  have zk2 : (2 : Int32).toInt = 2 := by decide +kernel
  have zk3 : (3 : Int32).toInt = 3 := by decide +kernel
  have zk4 : (4 : Int32).toInt = 4 := by decide +kernel
  have zk16 : (16 : Int32).toInt = 16 := by decide +kernel
  have cp0 := clampI (x := p0) (by omega)
  have hb30 := hzg30
  have c30 := clampI (x := g 30) (by omega)
  have l1 : L.1 = WR (F 14) (F 15) (4 * Int32.toNatClampNeg p0) := by rw [← hL]; rfl
  have l2 : L.2.1 = WR (F 14) (F 15) (4 * Int32.toNatClampNeg p0 + 1) := by rw [← hL]; rfl
  have l3 : L.2.2.1 = WR (F 14) (F 15) (4 * Int32.toNatClampNeg p0 + 2) := by rw [← hL]; rfl
  have l4 : L.2.2.2.1 = WR (F 14) (F 15) (4 * Int32.toNatClampNeg p0 + 3) := by rw [← hL]; rfl
  have l5 : L.2.2.2.2.1 = (F 16) (Int32.toNatClampNeg p0) := by rw [← hL]; rfl
  have l6 : L.2.2.2.2.2 = (F 17) (Int32.toNatClampNeg p0) := by rw [← hL]; rfl
  have n1 : L.1.length = Int32.toNatClampNeg ((F 15) (4 * Int32.toNatClampNeg p0)) := by rw [l1]; exact wdl_len
  have n2 : L.2.1.length = Int32.toNatClampNeg ((F 15) (4 * Int32.toNatClampNeg p0 + 1)) := by rw [l2]; exact wdl_len
  have n3 : L.2.2.1.length = Int32.toNatClampNeg ((F 15) (4 * Int32.toNatClampNeg p0 + 2)) := by rw [l3]; exact wdl_len
  have n4 : L.2.2.2.1.length = Int32.toNatClampNeg ((F 15) (4 * Int32.toNatClampNeg p0 + 3)) := by rw [l4]; exact wdl_len
  have hwl : W.length = Int32.toNatClampNeg (g 30) := by rw [← hW]; exact wdl_len
  have f1 : (4 * p0).toInt = 4 * p0.toInt := z_muld (by decide +kernel) (by omega) (by omega)
  refine pw_if (fun hb11 => ?_)
  obtain ⟨hbl11, hbr11⟩ := hb11
  have f2 := hzF15 (Int32.toNatClampNeg (4 * p0))
  refine pw_vl (fun x12 ex12 => ?_)
  have f3 : x12.toInt = ((F 15) (Int32.toNatClampNeg (4 * p0))).toInt := congrArg Int32.toInt ex12
  refine pw_jE (fun k279 ek279 => ?_)
  have lp17 : ∀ (n17 : Nat) (y17_2 : Int32) (y17_3 : Int32) (y17_5 : Int32) (d17_F31 : (Nat → Int32)), (0 ≤ y17_3.toInt ∧ y17_3.toInt ≤ (g 30).toInt) → (0 ≤ y17_2.toInt ∧ y17_2.toInt ≤ 16 * y17_3.toInt) → (TH L W (Int32.toNatClampNeg y17_3) (wdl d17_F31 0 (Int32.toNatClampNeg y17_2)) (decide (y17_5.toInt ≠ 0))) → pw (L_lawThrough_17 g F p0 x12 k279 n17 y17_2 y17_3 y17_5 d17_F31) (QF_lawThrough g F p0 L W) := by
    intro n17
    induction n17 with
    | zero => intros; exact pw_none
    | succ n17 ih17 =>
      intro y17_2 y17_3 y17_5 d17_F31 f4 f5 it17
      show pw (B_lawThrough_17 g F p0 x12 k279 (L_lawThrough_17 g F p0 x12 k279 n17) y17_2 y17_3 y17_5 d17_F31) _
      unfold B_lawThrough_17
      refine pw_ite (fun c22 => ?_) (fun c22 => ?_)
      · have c22 := (z_le _ _).mp c22
        have hT := TH_end it17 (by have ky3 := clampI (x := y17_3) (by omega); omega)
        have hT1 : wdl d17_F31 0 (Int32.toNatClampNeg y17_2) = (lawT L W).1 := by rw [hT]
        have hbT : BW (lawT L W).1 := lawT_bw hbw hb2
        have ky2 := clampI (x := y17_2) (by omega)
        refine pw_j3 ek279 (fun x279_2 ex279_2 x279_5 ex279_5 z279_1 ez279_1 => ?_)
        subst ez279_1
        have ex279_2 := ex279_2.symm
        have f_x279_2 : x279_2.toInt = y17_2.toInt := by rw [ex279_2]
        have ex279_5 := ex279_5.symm
        have f_x279_5 : x279_5.toInt = y17_5.toInt := by rw [ex279_5]
        refine pw_jE (fun k308 ek308 => ?_)
        have lp282 : ∀ (n282 : Nat) (y282_6 : Int32) (d282_F29 : (Nat → Int32)), 0 ≤ y282_6.toInt → y282_6.toInt ≤ x279_2.toInt → (wdl d282_F29 0 (Int32.toNatClampNeg y282_6) = wdl d17_F31 0 (Int32.toNatClampNeg y282_6)) → pw (L_lawThrough_282 x279_2 d17_F31 k308 n282 y282_6 d282_F29) (QF_lawThrough g F p0 L W) := by
          intro n282
          induction n282 with
          | zero => intros; exact pw_none
          | succ n282 ih282 =>
            intro y282_6 d282_F29 f6 f7 ib282
            show pw (B_lawThrough_282 x279_2 d17_F31 k308 (L_lawThrough_282 x279_2 d17_F31 k308 n282) y282_6 d282_F29) _
            unfold B_lawThrough_282
            refine pw_ite (fun c285 => ?_) (fun c285 => ?_)
            · have c285 := (z_le _ _).mp c285
              refine pw_j1 ek308 (fun z308_1 ez308_1 => ?_)
              subst ez308_1
              have hg8 : ((0) ≤ x279_2.toInt ∧ x279_2.toInt ≤ 384) := ⟨by omega, by omega⟩
              refine pw_jE (fun j339 ej339 => ?_)
              refine pw_jE (fun j334 ej334 => ?_)
              refine pw_ite (fun c318 => ?_) (fun c318 => ?_)
              · have c318 := congrArg Int32.toInt c318
                refine pw_jE (fun j338 ej338 => ?_)
                refine pw_ite (fun c323 => ?_) (fun c323 => ?_)
                · have c323 := congrArg Int32.toInt c323
                  refine pw_j0 ej338 ?_
                  refine pw_j1 ej339 (fun t339_0 et339_0 => ?_)
                  have et339_0 := et339_0.symm
                  have f_t339_0 : t339_0.toInt = 0 := by rw [et339_0]; decide +kernel
                  refine pw_if (fun hb339 => ?_)
                  obtain ⟨hbl339, hbr339⟩ := hb339
                  have hg9 : ((0) ≤ t339_0.toInt ∧ t339_0.toInt ≤ 1) := ⟨by omega, by omega⟩
                  have qq0 : wdl d282_F29 0 (Int32.toNatClampNeg x279_2) = (lawT L W).1 := by rw [← hT1, ← ex279_2]; have k6 := clampI (x := y282_6) (by omega); have kx := clampI (x := x279_2) (by omega); have h9 := ib282; rw [show Int32.toNatClampNeg y282_6 = Int32.toNatClampNeg x279_2 by omega] at h9; exact h9
                  have qq1 : (t339_0.toInt ≠ 0 ↔ ((g 36).toInt ≠ 0 ∨ ((lawT L W).2 = true ∧ p0.toInt = (g 35).toInt))) := by have hT2 : (lawT L W).2 = decide (y17_5.toInt ≠ 0) := (by rw [hT]); rw [hT2, decide_eq_true_eq]; omega
                  exact pw_some ⟨qq0, qq1⟩
                · have c323 := z_ne c323
                  refine pw_ite (fun c331 => ?_) (fun c331 => ?_)
                  · have c331 := congrArg Int32.toInt c331
                    refine pw_j0 ej334 ?_
                    refine pw_j1 ej339 (fun t339_0 et339_0 => ?_)
                    have et339_0 := et339_0.symm
                    have f_t339_0 : t339_0.toInt = 1 := by rw [et339_0]; decide +kernel
                    refine pw_if (fun hb339 => ?_)
                    obtain ⟨hbl339, hbr339⟩ := hb339
                    have hg10 : ((0) ≤ t339_0.toInt ∧ t339_0.toInt ≤ 1) := ⟨by omega, by omega⟩
                    have qq0 : wdl d282_F29 0 (Int32.toNatClampNeg x279_2) = (lawT L W).1 := by rw [← hT1, ← ex279_2]; have k6 := clampI (x := y282_6) (by omega); have kx := clampI (x := x279_2) (by omega); have h9 := ib282; rw [show Int32.toNatClampNeg y282_6 = Int32.toNatClampNeg x279_2 by omega] at h9; exact h9
                    have qq1 : (t339_0.toInt ≠ 0 ↔ ((g 36).toInt ≠ 0 ∨ ((lawT L W).2 = true ∧ p0.toInt = (g 35).toInt))) := by have hT2 : (lawT L W).2 = decide (y17_5.toInt ≠ 0) := (by rw [hT]); rw [hT2, decide_eq_true_eq]; omega
                    exact pw_some ⟨qq0, qq1⟩
                  · have c331 := z_ne c331
                    refine pw_j0 ej338 ?_
                    refine pw_j1 ej339 (fun t339_0 et339_0 => ?_)
                    have et339_0 := et339_0.symm
                    have f_t339_0 : t339_0.toInt = 0 := by rw [et339_0]; decide +kernel
                    refine pw_if (fun hb339 => ?_)
                    obtain ⟨hbl339, hbr339⟩ := hb339
                    have hg11 : ((0) ≤ t339_0.toInt ∧ t339_0.toInt ≤ 1) := ⟨by omega, by omega⟩
                    have qq0 : wdl d282_F29 0 (Int32.toNatClampNeg x279_2) = (lawT L W).1 := by rw [← hT1, ← ex279_2]; have k6 := clampI (x := y282_6) (by omega); have kx := clampI (x := x279_2) (by omega); have h9 := ib282; rw [show Int32.toNatClampNeg y282_6 = Int32.toNatClampNeg x279_2 by omega] at h9; exact h9
                    have qq1 : (t339_0.toInt ≠ 0 ↔ ((g 36).toInt ≠ 0 ∨ ((lawT L W).2 = true ∧ p0.toInt = (g 35).toInt))) := by have hT2 : (lawT L W).2 = decide (y17_5.toInt ≠ 0) := (by rw [hT]); rw [hT2, decide_eq_true_eq]; omega
                    exact pw_some ⟨qq0, qq1⟩
              · have c318 := z_ne c318
                refine pw_j0 ej334 ?_
                refine pw_j1 ej339 (fun t339_0 et339_0 => ?_)
                have et339_0 := et339_0.symm
                have f_t339_0 : t339_0.toInt = 1 := by rw [et339_0]; decide +kernel
                refine pw_if (fun hb339 => ?_)
                obtain ⟨hbl339, hbr339⟩ := hb339
                have hg12 : ((0) ≤ t339_0.toInt ∧ t339_0.toInt ≤ 1) := ⟨by omega, by omega⟩
                have qq0 : wdl d282_F29 0 (Int32.toNatClampNeg x279_2) = (lawT L W).1 := by rw [← hT1, ← ex279_2]; have k6 := clampI (x := y282_6) (by omega); have kx := clampI (x := x279_2) (by omega); have h9 := ib282; rw [show Int32.toNatClampNeg y282_6 = Int32.toNatClampNeg x279_2 by omega] at h9; exact h9
                have qq1 : (t339_0.toInt ≠ 0 ↔ ((g 36).toInt ≠ 0 ∨ ((lawT L W).2 = true ∧ p0.toInt = (g 35).toInt))) := by have hT2 : (lawT L W).2 = decide (y17_5.toInt ≠ 0) := (by rw [hT]); rw [hT2, decide_eq_true_eq]; omega
                exact pw_some ⟨qq0, qq1⟩
            · have c285 := z_nle c285
              refine pw_if (fun hb300 => ?_)
              obtain ⟨hbl300, hbr300⟩ := hb300
              refine pw_if (fun hb301 => ?_)
              obtain ⟨hbl301, hbr301⟩ := hb301
              refine pw_vl (fun w301 ew301 => ?_)
              have f13 : (y282_6 + 1).toInt = y282_6.toInt + (1) := z_addc (by decide +kernel) (by omega) (by omega)
              have iv282_0 : 0 ≤ (y282_6 + 1).toInt := by omega
              have iv282_1 : (y282_6 + 1).toInt ≤ x279_2.toInt := by omega
              have iv282_2 : (wdl w301 0 (Int32.toNatClampNeg (y282_6 + 1)) = wdl d17_F31 0 (Int32.toNatClampNeg (y282_6 + 1))) := by have k6 := clampI (x := y282_6) (by omega); have k7 := clampI (x := y282_6 + 1) (by omega); rw [ew301, show Int32.toNatClampNeg (y282_6 + 1) = Int32.toNatClampNeg y282_6 + 1 by omega, wdl_up rfl, ib282, wdl_s1, Nat.zero_add, bw_at hbT hT1 (by omega)]
              exact ih282 (y282_6 + 1) w301 iv282_0 iv282_1 iv282_2
        exact lp282 NN (0 : Int32) (F 29) (show 0 ≤ (0 : Int32).toInt from by omega) (show (0 : Int32).toInt ≤ x279_2.toInt from by omega) (show (wdl (F 29) 0 (Int32.toNatClampNeg (0 : Int32)) = wdl d17_F31 0 (Int32.toNatClampNeg (0 : Int32))) from by rfl)
      · have c22 := z_nle c22
        have i0 : Int32.toNatClampNeg (4 * p0) = 4 * Int32.toNatClampNeg p0 := by have z := clampI (x := 4 * p0) (by omega); omega
        have ky2 := clampI (x := y17_2) (by omega)
        have ky3 := clampI (x := y17_3) (by omega)
        have hiff := lS_iff (L := L) (f := F 29) (g := d17_F31) (n := Int32.toNatClampNeg (g 30)) (p := Int32.toNatClampNeg y17_3) (d := Int32.toNatClampNeg y17_2) (by omega)
        rw [hW] at hiff
        have hMI38 : id (MInv g (upF F 31 d17_F31)) := show MInv g (upF F 31 d17_F31) from (MInv_i ((hI9.1)) ((hI9.2.1)) ((hI9.2.2.1)) ((hI9.2.2.2.1)) ((hI9.2.2.2.2.1)) ((hI9.2.2.2.2.2.1)) ((hI9.2.2.2.2.2.2.1)) ((hI9.2.2.2.2.2.2.2.1)) ((hI9.2.2.2.2.2.2.2.2.1)) ((hI9.2.2.2.2.2.2.2.2.2.1)) ((hI9.2.2.2.2.2.2.2.2.2.2.1)) hzg30 ((hI9.2.2.2.2.2.2.2.2.2.2.2.2.1)) hzg36 ((hI9.2.2.2.2.2.2.2.2.2.2.2.2.2.2.1)) ((hI9.2.2.2.2.2.2.2.2.2.2.2.2.2.2.2.1)) ((hI9.2.2.2.2.2.2.2.2.2.2.2.2.2.2.2.2.1)) ((hI9.2.2.2.2.2.2.2.2.2.2.2.2.2.2.2.2.2.1)) ((hI9.2.2.2.2.2.2.2.2.2.2.2.2.2.2.2.2.2.2.1)) ((hI9.2.2.2.2.2.2.2.2.2.2.2.2.2.2.2.2.2.2.2.1)) ((hI9.2.2.2.2.2.2.2.2.2.2.2.2.2.2.2.2.2.2.2.2.1)) ((hI9.2.2.2.2.2.2.2.2.2.2.2.2.2.2.2.2.2.2.2.2.2.1)) ((hI9.2.2.2.2.2.2.2.2.2.2.2.2.2.2.2.2.2.2.2.2.2.2.1)) ((hI9.2.2.2.2.2.2.2.2.2.2.2.2.2.2.2.2.2.2.2.2.2.2.2.1)) ((hI9.2.2.2.2.2.2.2.2.2.2.2.2.2.2.2.2.2.2.2.2.2.2.2.2.1)) hzF11 hzF12 hzF13 hzF15 hzF19 hzF21 hzF24 hzF25 hzF26 hzF33 hzF38 hzF41 hzF43 hzF45 hzF46 hzF50 hzF53 hzF54 hzLQ)
        have hpr38_0 : (0 ≤ (4 * p0).toInt ∧ (4 * p0).toInt < 1120) := by first | assumption | omega
        have hpr38_1 : (g 30).toInt ≤ 400 := by first | assumption | omega
        have hpr38_2 : 400 ≤ 400 := by first | assumption | omega
        have hpr38_3 : y17_3.toInt ≤ 400 := by first | assumption | omega
        refine pw_b1 (fun r38 hc38 => ?_)
        have hq38 := wp_at (ok_stands g (upF F 31 d17_F31) (4 * p0) (F 29) 400 y17_3 (g 30) hMI38 hpr38_0 hpr38_1 hpr38_2 hpr38_3) hc38
        obtain ⟨f15, f16⟩ : (id ((r38.toInt = 1 → 0 ≤ y17_3.toInt ∧ y17_3.toInt + ((F 15) (Int32.toNatClampNeg (4 * p0))).toInt ≤ (g 30).toInt))) ∧ ((0 ≤ r38.toInt ∧ r38.toInt ≤ 1)) := hq38
        have h838_hsz : 0 ≤ ((F 15) (Int32.toNatClampNeg (4 * p0))).toInt := by first | assumption | omega
        have hx38 := pwq (fn_stands g (upF F 31 d17_F31) (4 * p0) (F 29) 400 y17_3 (g 30) hMI38 hpr38_0 hpr38_1 hpr38_2 hpr38_3 h838_hsz) hc38
        obtain ⟨p38_0, p38_1⟩ : (id ((r38.toInt ≠ 0 → 0 ≤ y17_3.toInt ∧ y17_3.toInt + ((F 15) (Int32.toNatClampNeg (4 * p0))).toInt ≤ (g 30).toInt ∧ wdl (F 29) (Int32.toNatClampNeg y17_3) (Int32.toNatClampNeg ((F 15) (Int32.toNatClampNeg (4 * p0)))) = WR (F 14) (F 15) (Int32.toNatClampNeg (4 * p0))))) ∧ (id ((r38.toInt = 0 → 0 ≤ y17_3.toInt → y17_3.toInt + ((F 15) (Int32.toNatClampNeg (4 * p0))).toInt ≤ (g 30).toInt → wdl (F 29) (Int32.toNatClampNeg y17_3) (Int32.toNatClampNeg ((F 15) (Int32.toNatClampNeg (4 * p0)))) ≠ WR (F 14) (F 15) (Int32.toNatClampNeg (4 * p0))))) := hx38
        rw [i0] at p38_0 p38_1
        have cx := clampI (x := (F 15) (4 * Int32.toNatClampNeg p0)) (by rw [← i0]; omega)
        have hx12 : x12.toInt = ((L.1.length : Nat) : Int) := by rw [n1, f3, i0]; omega
        refine pw_jn (fun j86 => ∀ (t86_0 : Int32), (t86_0.toInt ≠ 0 → ((Int32.toNatClampNeg y17_3 + L.1.length ≤ Int32.toNatClampNeg (g 30) ∧ wdl (F 29) (Int32.toNatClampNeg y17_3) L.1.length = L.1) ∧ (L.2.2.2.2.1 ≠ 0 → Int32.toNatClampNeg y17_2 = 0) ∧ (L.2.2.2.2.2 ≠ 0 → Int32.toNatClampNeg y17_3 + L.1.length = Int32.toNatClampNeg (g 30)))) → (t86_0.toInt = 0 → ¬ ((Int32.toNatClampNeg y17_3 + L.1.length ≤ Int32.toNatClampNeg (g 30) ∧ wdl (F 29) (Int32.toNatClampNeg y17_3) L.1.length = L.1) ∧ (L.2.2.2.2.1 ≠ 0 → Int32.toNatClampNeg y17_2 = 0) ∧ (L.2.2.2.2.2 ≠ 0 → Int32.toNatClampNeg y17_3 + L.1.length = Int32.toNatClampNeg (g 30)))) → pw (j86 t86_0) (QF_lawThrough g F p0 L W)) ?_ ?_
        · intro t86_0 j086 j186
          show pw _ _
          refine pw_jn (fun j141 => ∀ (t141_0 : Int32), (t141_0.toInt ≠ 0 → (((Int32.toNatClampNeg y17_3 + L.1.length ≤ Int32.toNatClampNeg (g 30) ∧ wdl (F 29) (Int32.toNatClampNeg y17_3) L.1.length = L.1) ∧ (L.2.2.2.2.1 ≠ 0 → Int32.toNatClampNeg y17_2 = 0) ∧ (L.2.2.2.2.2 ≠ 0 → Int32.toNatClampNeg y17_3 + L.1.length = Int32.toNatClampNeg (g 30))) ∧ (L.2.2.1.length ≤ Int32.toNatClampNeg y17_2 ∧ wdl d17_F31 (Int32.toNatClampNeg y17_2 - L.2.2.1.length) L.2.2.1.length = L.2.2.1))) → (t141_0.toInt = 0 → ¬ (((Int32.toNatClampNeg y17_3 + L.1.length ≤ Int32.toNatClampNeg (g 30) ∧ wdl (F 29) (Int32.toNatClampNeg y17_3) L.1.length = L.1) ∧ (L.2.2.2.2.1 ≠ 0 → Int32.toNatClampNeg y17_2 = 0) ∧ (L.2.2.2.2.2 ≠ 0 → Int32.toNatClampNeg y17_3 + L.1.length = Int32.toNatClampNeg (g 30))) ∧ (L.2.2.1.length ≤ Int32.toNatClampNeg y17_2 ∧ wdl d17_F31 (Int32.toNatClampNeg y17_2 - L.2.2.1.length) L.2.2.1.length = L.2.2.1))) → pw (j141 t141_0) (QF_lawThrough g F p0 L W)) ?_ ?_
          · intro t141_0 k0141 k1141
            show pw _ _
            refine pw_jn (fun j191 => ∀ (t191_0 : Int32), (t191_0.toInt ≠ 0 → (lS L W (Int32.toNatClampNeg y17_3) (wdl d17_F31 0 (Int32.toNatClampNeg y17_2)))) → (t191_0.toInt = 0 → ¬ (lS L W (Int32.toNatClampNeg y17_3) (wdl d17_F31 0 (Int32.toNatClampNeg y17_2)))) → pw (j191 t191_0) (QF_lawThrough g F p0 L W)) ?_ ?_
            · intro t191_0 l0191 l1191
              show pw _ _
              refine pw_ite (fun c195 => ?_) (fun c195 => ?_)
              · have c195 := congrArg Int32.toInt c195
                refine pw_if (fun hb208 => ?_)
                obtain ⟨hbl208, hbr208⟩ := hb208
                refine pw_if (fun hb209 => ?_)
                obtain ⟨hbl209, hbr209⟩ := hb209
                refine pw_vl (fun w209 ew209 => ?_)
                have f17 : (y17_2 + 1).toInt = y17_2.toInt + (1) := z_addc (by decide +kernel) (by omega) (by omega)
                have f18 : (y17_3 + 1).toInt = y17_3.toInt + (1) := z_addc (by decide +kernel) (by omega) (by omega)
                have iv17_0 : (0 ≤ (y17_3 + 1).toInt ∧ (y17_3 + 1).toInt ≤ (g 30).toInt) := by omega
                have iv17_1 : (0 ≤ (y17_2 + 1).toInt ∧ (y17_2 + 1).toInt ≤ 16 * (y17_3 + 1).toInt) := by omega
                have iv17_2 : (TH L W (Int32.toNatClampNeg (y17_3 + 1)) (wdl w209 0 (Int32.toNatClampNeg (y17_2 + 1))) (decide (y17_5.toInt ≠ 0))) := by have k1 := clampI (x := y17_3 + 1) (by omega); have k2 := clampI (x := y17_2 + 1) (by omega); refine TH_no it17 (by omega) (l1191 (by omega)) (by omega) ?_; rw [ew209, show Int32.toNatClampNeg (y17_2 + 1) = Int32.toNatClampNeg y17_2 + 1 by omega, wdl_up rfl, ← hW, wdl_1 (by omega), bw_at hbw hW (by omega)]
                exact ih17 (y17_2 + 1) (y17_3 + 1) y17_5 w209 iv17_0 iv17_1 iv17_2
              · have c195 := z_ne c195
                have i1 : Int32.toNatClampNeg ((4 * p0) + 1) = 4 * Int32.toNatClampNeg p0 + 1 := by have z0 : ((4 * p0) + 1).toInt = (4 * p0).toInt + 1 := z_addc (by decide +kernel) (by omega) (by omega); have z := clampI (x := (4 * p0) + 1) (by omega); omega
                have ha1 := (hiff.mp (l0191 (by omega))).1.1
                refine pw_jE (fun k271 ek271 => ?_)
                have lp225 : ∀ (n225 : Nat) (y225_2 : Int32) (y225_7 : Int32) (d225_F31 : (Nat → Int32)), (0 ≤ y225_7.toInt ∧ y225_7.toInt ≤ 16) → y225_2.toInt = y17_2.toInt + y225_7.toInt → (y225_7.toInt ≤ ((F 15) (Int32.toNatClampNeg ((4 * p0) + 1))).toInt ∨ y225_7.toInt = 0) → (wdl d225_F31 0 (Int32.toNatClampNeg y225_2) = wdl d17_F31 0 (Int32.toNatClampNeg y17_2) ++ wdl (F 14) (16 * (4 * Int32.toNatClampNeg p0 + 1)) (Int32.toNatClampNeg y225_7)) → pw (L_lawThrough_225 F p0 k271 n225 y225_2 y225_7 d225_F31) (QF_lawThrough g F p0 L W) := by
                  intro n225
                  induction n225 with
                  | zero => intros; exact pw_none
                  | succ n225 ih225 =>
                    intro y225_2 y225_7 d225_F31 f19 f20 ie225 ic225
                    show pw (B_lawThrough_225 F p0 k271 (L_lawThrough_225 F p0 k271 n225) y225_2 y225_7 d225_F31) _
                    unfold B_lawThrough_225
                    have f22 : ((4 * p0) + 1).toInt = (4 * p0).toInt + 1 := z_addc (by decide +kernel) (by omega) (by omega)
                    refine pw_if (fun hb236 => ?_)
                    obtain ⟨hbl236, hbr236⟩ := hb236
                    have f23 := hzF15 (Int32.toNatClampNeg ((4 * p0) + 1))
                    refine pw_ite (fun c237 => ?_) (fun c237 => ?_)
                    · have c237 := (z_le _ _).mp c237
                      refine pw_j2 ek271 (fun x271_2 ex271_2 z271_1 ez271_1 => ?_)
                      subst ez271_1
                      have ex271_2 := ex271_2.symm
                      have f_x271_2 : x271_2.toInt = y225_2.toInt := by rw [ex271_2]
                      have f24 : (y17_3 + x12).toInt = y17_3.toInt + x12.toInt := z_add (by omega) (by omega)
                      refine pw_vl (fun x275 ex275 => ?_)
                      have f25 : x275.toInt = (y17_3 + x12).toInt := congrArg Int32.toInt ex275
                      have iv17_0 : (0 ≤ x275.toInt ∧ x275.toInt ≤ (g 30).toInt) := by omega
                      have iv17_1 : (0 ≤ x271_2.toInt ∧ x271_2.toInt ≤ 16 * x275.toInt) := by omega
                      have iv17_2 : (TH L W (Int32.toNatClampNeg x275) (wdl d225_F31 0 (Int32.toNatClampNeg x271_2)) (decide ((1 : Int32).toInt ≠ 0))) := by have k1 := clampI (x := x275) (by omega); have k2 := clampI (x := y225_2) (by omega); have k7 := clampI (x := y225_7) (by omega); rw [show decide ((1 : Int32).toInt ≠ 0) = true from rfl]; refine TH_yes it17 (by omega) (l0191 (by omega)) hl1 (by omega) ?_; have h9 := ic225; have hle7 := ie225; rw [i1] at c237; rw [show Int32.toNatClampNeg y225_7 = Int32.toNatClampNeg ((F 15) (4 * Int32.toNatClampNeg p0 + 1)) by have z9 : Int32.toNatClampNeg ((F 15) (4 * Int32.toNatClampNeg p0 + 1)) = ((F 15) (4 * Int32.toNatClampNeg p0 + 1)).toInt.toNat := rfl; have z8 := hle7; rw [i1] at z8; omega] at h9; rw [ex271_2, h9, l2]; rfl
                      exact ih17 x271_2 x275 (1 : Int32) d225_F31 iv17_0 iv17_1 iv17_2
                    · have c237 := z_nle c237
                      have f28 : (16 * ((4 * p0) + 1)).toInt = 16 * ((4 * p0) + 1).toInt := z_muld (by decide +kernel) (by omega) (by omega)
                      have f29 : ((16 * ((4 * p0) + 1)) + y225_7).toInt = (16 * ((4 * p0) + 1)).toInt + y225_7.toInt := z_add (by omega) (by omega)
                      refine pw_if (fun hb260 => ?_)
                      obtain ⟨hbl260, hbr260⟩ := hb260
                      refine pw_if (fun hb261 => ?_)
                      obtain ⟨hbl261, hbr261⟩ := hb261
                      refine pw_vl (fun w261 ew261 => ?_)
                      have f30 : (y225_2 + 1).toInt = y225_2.toInt + (1) := z_addc (by decide +kernel) (by omega) (by omega)
                      have f31 : (y225_7 + 1).toInt = y225_7.toInt + (1) := z_addc (by decide +kernel) (by omega) (by omega)
                      have iv225_0 : (0 ≤ (y225_7 + 1).toInt ∧ (y225_7 + 1).toInt ≤ 16) := by omega
                      have iv225_1 : (y225_2 + 1).toInt = y17_2.toInt + (y225_7 + 1).toInt := by omega
                      have iv225_2 : ((y225_7 + 1).toInt ≤ ((F 15) (Int32.toNatClampNeg ((4 * p0) + 1))).toInt ∨ (y225_7 + 1).toInt = 0) := by omega
                      have iv225_3 : (wdl w261 0 (Int32.toNatClampNeg (y225_2 + 1)) = wdl d17_F31 0 (Int32.toNatClampNeg y17_2) ++ wdl (F 14) (16 * (4 * Int32.toNatClampNeg p0 + 1)) (Int32.toNatClampNeg (y225_7 + 1))) := by have k2 := clampI (x := y225_2) (by omega); have k3 := clampI (x := y225_2 + 1) (by omega); have k7 := clampI (x := y225_7) (by omega); have k8 := clampI (x := y225_7 + 1) (by omega); have ki := clampI (x := (16 * ((4 * p0) + 1)) + y225_7) (by omega); rw [ew261, show Int32.toNatClampNeg (y225_2 + 1) = Int32.toNatClampNeg y225_2 + 1 by omega, wdl_up rfl, ic225, List.append_assoc, show Int32.toNatClampNeg (y225_7 + 1) = Int32.toNatClampNeg y225_7 + 1 by omega, wdl_s1, show Int32.toNatClampNeg ((16 * ((4 * p0) + 1)) + y225_7) = 16 * (4 * Int32.toNatClampNeg p0 + 1) + Int32.toNatClampNeg y225_7 by omega, hb2 _ (by rw [l2]; exact wdl_mem (by rw [i1] at c237; have z9 : Int32.toNatClampNeg ((F 15) (4 * Int32.toNatClampNeg p0 + 1)) = ((F 15) (4 * Int32.toNatClampNeg p0 + 1)).toInt.toNat := rfl; omega))]
                      exact ih225 (y225_2 + 1) (y225_7 + 1) w261 iv225_0 iv225_1 iv225_2 iv225_3
                exact lp225 NN y17_2 (0 : Int32) d17_F31 (show (0 ≤ (0 : Int32).toInt ∧ (0 : Int32).toInt ≤ 16) from by omega) (show y17_2.toInt = y17_2.toInt + (0 : Int32).toInt from by omega) (show ((0 : Int32).toInt ≤ ((F 15) (Int32.toNatClampNeg ((4 * p0) + 1))).toInt ∨ (0 : Int32).toInt = 0) from by omega) (show (wdl d17_F31 0 (Int32.toNatClampNeg y17_2) = wdl d17_F31 0 (Int32.toNatClampNeg y17_2) ++ wdl (F 14) (16 * (4 * Int32.toNatClampNeg p0 + 1)) (Int32.toNatClampNeg (0 : Int32))) from by show _ = _ ++ []; rw [List.append_nil])
            intro j191 Jj191
            refine pw_jE (fun j190 ej190 => ?_)
            refine pw_ite (fun c145 => ?_) (fun c145 => ?_)
            · have c145 := congrArg Int32.toInt c145
              refine pw_j0 ej190 ?_
              exact Jj191 (0 : Int32) (show ((0 : Int32).toInt ≠ 0 → (lS L W (Int32.toNatClampNeg y17_3) (wdl d17_F31 0 (Int32.toNatClampNeg y17_2)))) from by intro h; omega) (show ((0 : Int32).toInt = 0 → ¬ (lS L W (Int32.toNatClampNeg y17_3) (wdl d17_F31 0 (Int32.toNatClampNeg y17_2)))) from by intro _ h; obtain ⟨a1, a2, a3, a4, a5⟩ := hiff.mp h; exact k1141 (by omega) ⟨⟨a1, a2, a3⟩, a4⟩)
            · have c145 := z_ne c145
              have f33 : ((4 * p0) + 3).toInt = (4 * p0).toInt + 3 := z_addc (by decide +kernel) (by omega) (by omega)
              refine pw_if (fun hb157 => ?_)
              obtain ⟨hbl157, hbr157⟩ := hb157
              have f34 := hzF15 (Int32.toNatClampNeg ((4 * p0) + 3))
              refine pw_jE (fun j186 ej186 => ?_)
              refine pw_ite (fun c159 => ?_) (fun c159 => ?_)
              · have c159 := congrArg Int32.toInt c159
                have i3 : Int32.toNatClampNeg ((4 * p0) + 3) = 4 * Int32.toNatClampNeg p0 + 3 := by have z0 : ((4 * p0) + 3).toInt = (4 * p0).toInt + 3 := z_addc (by decide +kernel) (by omega) (by omega); have z := clampI (x := (4 * p0) + 3) (by omega); omega
                refine pw_j0 ej186 ?_
                exact Jj191 (1 : Int32) (show ((1 : Int32).toInt ≠ 0 → (lS L W (Int32.toNatClampNeg y17_3) (wdl d17_F31 0 (Int32.toNatClampNeg y17_2)))) from by intro _; have z3 : L.2.2.2.1 = [] := (by rw [l4]; exact wr_m1 (by rw [← i3]; omega)); obtain ⟨⟨a1, a2, a3⟩, a4⟩ := k0141 (by omega); exact hiff.mpr ⟨a1, a2, a3, a4, by rw [z3]; exact ⟨a1.1, rfl⟩⟩) (show ((1 : Int32).toInt = 0 → ¬ (lS L W (Int32.toNatClampNeg y17_3) (wdl d17_F31 0 (Int32.toNatClampNeg y17_2)))) from by intro h; omega)
              · have c159 := z_ne c159
                have i3 : Int32.toNatClampNeg ((4 * p0) + 3) = 4 * Int32.toNatClampNeg p0 + 3 := by have z0 : ((4 * p0) + 3).toInt = (4 * p0).toInt + 3 := z_addc (by decide +kernel) (by omega) (by omega); have z := clampI (x := (4 * p0) + 3) (by omega); omega
                have f37 : (y17_3 + x12).toInt = y17_3.toInt + x12.toInt := z_add (by omega) (by omega)
                have hMI180 : id (MInv g (upF F 31 d17_F31)) := show MInv g (upF F 31 d17_F31) from (MInv_i ((hI9.1)) ((hI9.2.1)) ((hI9.2.2.1)) ((hI9.2.2.2.1)) ((hI9.2.2.2.2.1)) ((hI9.2.2.2.2.2.1)) ((hI9.2.2.2.2.2.2.1)) ((hI9.2.2.2.2.2.2.2.1)) ((hI9.2.2.2.2.2.2.2.2.1)) ((hI9.2.2.2.2.2.2.2.2.2.1)) ((hI9.2.2.2.2.2.2.2.2.2.2.1)) hzg30 ((hI9.2.2.2.2.2.2.2.2.2.2.2.2.1)) hzg36 ((hI9.2.2.2.2.2.2.2.2.2.2.2.2.2.2.1)) ((hI9.2.2.2.2.2.2.2.2.2.2.2.2.2.2.2.1)) ((hI9.2.2.2.2.2.2.2.2.2.2.2.2.2.2.2.2.1)) ((hI9.2.2.2.2.2.2.2.2.2.2.2.2.2.2.2.2.2.1)) ((hI9.2.2.2.2.2.2.2.2.2.2.2.2.2.2.2.2.2.2.1)) ((hI9.2.2.2.2.2.2.2.2.2.2.2.2.2.2.2.2.2.2.2.1)) ((hI9.2.2.2.2.2.2.2.2.2.2.2.2.2.2.2.2.2.2.2.2.1)) ((hI9.2.2.2.2.2.2.2.2.2.2.2.2.2.2.2.2.2.2.2.2.2.1)) ((hI9.2.2.2.2.2.2.2.2.2.2.2.2.2.2.2.2.2.2.2.2.2.2.1)) ((hI9.2.2.2.2.2.2.2.2.2.2.2.2.2.2.2.2.2.2.2.2.2.2.2.1)) ((hI9.2.2.2.2.2.2.2.2.2.2.2.2.2.2.2.2.2.2.2.2.2.2.2.2.1)) hzF11 hzF12 hzF13 hzF15 hzF19 hzF21 hzF24 hzF25 hzF26 hzF33 hzF38 hzF41 hzF43 hzF45 hzF46 hzF50 hzF53 hzF54 hzLQ)
                have hpr180_0 : (0 ≤ ((4 * p0) + 3).toInt ∧ ((4 * p0) + 3).toInt < 1120) := by first | assumption | omega
                have hpr180_1 : (g 30).toInt ≤ 400 := by first | assumption | omega
                have hpr180_2 : 400 ≤ 400 := by first | assumption | omega
                have hpr180_3 : (y17_3 + x12).toInt ≤ 400 := by first | assumption | omega
                refine pw_b1 (fun r180 hc180 => ?_)
                have hq180 := wp_at (ok_stands g (upF F 31 d17_F31) ((4 * p0) + 3) (F 29) 400 (y17_3 + x12) (g 30) hMI180 hpr180_0 hpr180_1 hpr180_2 hpr180_3) hc180
                obtain ⟨f38, f39⟩ : (id ((r180.toInt = 1 → 0 ≤ (y17_3 + x12).toInt ∧ (y17_3 + x12).toInt + ((F 15) (Int32.toNatClampNeg ((4 * p0) + 3))).toInt ≤ (g 30).toInt))) ∧ ((0 ≤ r180.toInt ∧ r180.toInt ≤ 1)) := hq180
                have h8180_hsz : 0 ≤ ((F 15) (Int32.toNatClampNeg ((4 * p0) + 3))).toInt := by first | assumption | omega
                have hx180 := pwq (fn_stands g (upF F 31 d17_F31) ((4 * p0) + 3) (F 29) 400 (y17_3 + x12) (g 30) hMI180 hpr180_0 hpr180_1 hpr180_2 hpr180_3 h8180_hsz) hc180
                obtain ⟨p180_0, p180_1⟩ : (id ((r180.toInt ≠ 0 → 0 ≤ (y17_3 + x12).toInt ∧ (y17_3 + x12).toInt + ((F 15) (Int32.toNatClampNeg ((4 * p0) + 3))).toInt ≤ (g 30).toInt ∧ wdl (F 29) (Int32.toNatClampNeg (y17_3 + x12)) (Int32.toNatClampNeg ((F 15) (Int32.toNatClampNeg ((4 * p0) + 3)))) = WR (F 14) (F 15) (Int32.toNatClampNeg ((4 * p0) + 3))))) ∧ (id ((r180.toInt = 0 → 0 ≤ (y17_3 + x12).toInt → (y17_3 + x12).toInt + ((F 15) (Int32.toNatClampNeg ((4 * p0) + 3))).toInt ≤ (g 30).toInt → wdl (F 29) (Int32.toNatClampNeg (y17_3 + x12)) (Int32.toNatClampNeg ((F 15) (Int32.toNatClampNeg ((4 * p0) + 3)))) ≠ WR (F 14) (F 15) (Int32.toNatClampNeg ((4 * p0) + 3))))) := hx180
                rw [i3] at p180_0 p180_1
                have cx3 := clampI (x := (F 15) (4 * Int32.toNatClampNeg p0 + 3)) (by rw [← i3]; omega)
                refine pw_ite (fun c183 => ?_) (fun c183 => ?_)
                · have c183 := congrArg Int32.toInt c183
                  refine pw_j0 ej190 ?_
                  exact Jj191 (0 : Int32) (show ((0 : Int32).toInt ≠ 0 → (lS L W (Int32.toNatClampNeg y17_3) (wdl d17_F31 0 (Int32.toNatClampNeg y17_2)))) from by intro h; omega) (show ((0 : Int32).toInt = 0 → ¬ (lS L W (Int32.toNatClampNeg y17_3) (wdl d17_F31 0 (Int32.toNatClampNeg y17_2)))) from by intro _ h; obtain ⟨a1, a2, a3, a4, a5, a6⟩ := hiff.mp h; have kx := clampI (x := y17_3 + x12) (by omega); rw [n4, l4, show Int32.toNatClampNeg y17_3 + L.1.length = Int32.toNatClampNeg (y17_3 + x12) by omega] at a6; exact p180_1 (by omega) (by omega) (by omega) a6)
                · have c183 := z_ne c183
                  refine pw_j0 ej186 ?_
                  exact Jj191 (1 : Int32) (show ((1 : Int32).toInt ≠ 0 → (lS L W (Int32.toNatClampNeg y17_3) (wdl d17_F31 0 (Int32.toNatClampNeg y17_2)))) from by intro _; obtain ⟨b1, b2, b3⟩ := p180_0 (by omega); obtain ⟨⟨a1, a2, a3⟩, a4⟩ := k0141 (by omega); have kx := clampI (x := y17_3 + x12) (by omega); exact hiff.mpr ⟨a1, a2, a3, a4, by omega, by rw [n4, l4, show Int32.toNatClampNeg y17_3 + L.1.length = Int32.toNatClampNeg (y17_3 + x12) by omega]; exact b3⟩) (show ((1 : Int32).toInt = 0 → ¬ (lS L W (Int32.toNatClampNeg y17_3) (wdl d17_F31 0 (Int32.toNatClampNeg y17_2)))) from by intro h; omega)
          intro j141 Jj141
          refine pw_jE (fun j140 ej140 => ?_)
          refine pw_ite (fun c90 => ?_) (fun c90 => ?_)
          · have c90 := congrArg Int32.toInt c90
            refine pw_j0 ej140 ?_
            exact Jj141 (0 : Int32) (show ((0 : Int32).toInt ≠ 0 → (((Int32.toNatClampNeg y17_3 + L.1.length ≤ Int32.toNatClampNeg (g 30) ∧ wdl (F 29) (Int32.toNatClampNeg y17_3) L.1.length = L.1) ∧ (L.2.2.2.2.1 ≠ 0 → Int32.toNatClampNeg y17_2 = 0) ∧ (L.2.2.2.2.2 ≠ 0 → Int32.toNatClampNeg y17_3 + L.1.length = Int32.toNatClampNeg (g 30))) ∧ (L.2.2.1.length ≤ Int32.toNatClampNeg y17_2 ∧ wdl d17_F31 (Int32.toNatClampNeg y17_2 - L.2.2.1.length) L.2.2.1.length = L.2.2.1))) from by intro h; omega) (show ((0 : Int32).toInt = 0 → ¬ (((Int32.toNatClampNeg y17_3 + L.1.length ≤ Int32.toNatClampNeg (g 30) ∧ wdl (F 29) (Int32.toNatClampNeg y17_3) L.1.length = L.1) ∧ (L.2.2.2.2.1 ≠ 0 → Int32.toNatClampNeg y17_2 = 0) ∧ (L.2.2.2.2.2 ≠ 0 → Int32.toNatClampNeg y17_3 + L.1.length = Int32.toNatClampNeg (g 30))) ∧ (L.2.2.1.length ≤ Int32.toNatClampNeg y17_2 ∧ wdl d17_F31 (Int32.toNatClampNeg y17_2 - L.2.2.1.length) L.2.2.1.length = L.2.2.1))) from by intro _ h; exact j186 (by omega) h.1)
          · have c90 := z_ne c90
            have f41 : ((4 * p0) + 2).toInt = (4 * p0).toInt + 2 := z_addc (by decide +kernel) (by omega) (by omega)
            refine pw_if (fun hb102 => ?_)
            obtain ⟨hbl102, hbr102⟩ := hb102
            have f42 := hzF15 (Int32.toNatClampNeg ((4 * p0) + 2))
            refine pw_jE (fun j136 ej136 => ?_)
            refine pw_ite (fun c104 => ?_) (fun c104 => ?_)
            · have c104 := congrArg Int32.toInt c104
              have i2 : Int32.toNatClampNeg ((4 * p0) + 2) = 4 * Int32.toNatClampNeg p0 + 2 := by have z0 : ((4 * p0) + 2).toInt = (4 * p0).toInt + 2 := z_addc (by decide +kernel) (by omega) (by omega); have z := clampI (x := (4 * p0) + 2) (by omega); omega
              refine pw_j0 ej136 ?_
              exact Jj141 (1 : Int32) (show ((1 : Int32).toInt ≠ 0 → (((Int32.toNatClampNeg y17_3 + L.1.length ≤ Int32.toNatClampNeg (g 30) ∧ wdl (F 29) (Int32.toNatClampNeg y17_3) L.1.length = L.1) ∧ (L.2.2.2.2.1 ≠ 0 → Int32.toNatClampNeg y17_2 = 0) ∧ (L.2.2.2.2.2 ≠ 0 → Int32.toNatClampNeg y17_3 + L.1.length = Int32.toNatClampNeg (g 30))) ∧ (L.2.2.1.length ≤ Int32.toNatClampNeg y17_2 ∧ wdl d17_F31 (Int32.toNatClampNeg y17_2 - L.2.2.1.length) L.2.2.1.length = L.2.2.1))) from by intro _; have z3 : L.2.2.1 = [] := (by rw [l3]; exact wr_m1 (by rw [← i2]; omega)); exact ⟨j086 (by omega), by rw [z3]; exact ⟨Nat.zero_le _, rfl⟩⟩) (show ((1 : Int32).toInt = 0 → ¬ (((Int32.toNatClampNeg y17_3 + L.1.length ≤ Int32.toNatClampNeg (g 30) ∧ wdl (F 29) (Int32.toNatClampNeg y17_3) L.1.length = L.1) ∧ (L.2.2.2.2.1 ≠ 0 → Int32.toNatClampNeg y17_2 = 0) ∧ (L.2.2.2.2.2 ≠ 0 → Int32.toNatClampNeg y17_3 + L.1.length = Int32.toNatClampNeg (g 30))) ∧ (L.2.2.1.length ≤ Int32.toNatClampNeg y17_2 ∧ wdl d17_F31 (Int32.toNatClampNeg y17_2 - L.2.2.1.length) L.2.2.1.length = L.2.2.1))) from by intro h; omega)
            · have c104 := z_ne c104
              have i2 : Int32.toNatClampNeg ((4 * p0) + 2) = 4 * Int32.toNatClampNeg p0 + 2 := by have z0 : ((4 * p0) + 2).toInt = (4 * p0).toInt + 2 := z_addc (by decide +kernel) (by omega) (by omega); have z := clampI (x := (4 * p0) + 2) (by omega); omega
              refine pw_if (fun hb127 => ?_)
              obtain ⟨hbl127, hbr127⟩ := hb127
              have f48 : (y17_2 - ((F 15) (Int32.toNatClampNeg ((4 * p0) + 2)))).toInt = y17_2.toInt - ((F 15) (Int32.toNatClampNeg ((4 * p0) + 2))).toInt := z_sub (by omega) (by omega)
              have hMI130 : id (MInv g (upF F 31 d17_F31)) := show MInv g (upF F 31 d17_F31) from (MInv_i ((hI9.1)) ((hI9.2.1)) ((hI9.2.2.1)) ((hI9.2.2.2.1)) ((hI9.2.2.2.2.1)) ((hI9.2.2.2.2.2.1)) ((hI9.2.2.2.2.2.2.1)) ((hI9.2.2.2.2.2.2.2.1)) ((hI9.2.2.2.2.2.2.2.2.1)) ((hI9.2.2.2.2.2.2.2.2.2.1)) ((hI9.2.2.2.2.2.2.2.2.2.2.1)) hzg30 ((hI9.2.2.2.2.2.2.2.2.2.2.2.2.1)) hzg36 ((hI9.2.2.2.2.2.2.2.2.2.2.2.2.2.2.1)) ((hI9.2.2.2.2.2.2.2.2.2.2.2.2.2.2.2.1)) ((hI9.2.2.2.2.2.2.2.2.2.2.2.2.2.2.2.2.1)) ((hI9.2.2.2.2.2.2.2.2.2.2.2.2.2.2.2.2.2.1)) ((hI9.2.2.2.2.2.2.2.2.2.2.2.2.2.2.2.2.2.2.1)) ((hI9.2.2.2.2.2.2.2.2.2.2.2.2.2.2.2.2.2.2.2.1)) ((hI9.2.2.2.2.2.2.2.2.2.2.2.2.2.2.2.2.2.2.2.2.1)) ((hI9.2.2.2.2.2.2.2.2.2.2.2.2.2.2.2.2.2.2.2.2.2.1)) ((hI9.2.2.2.2.2.2.2.2.2.2.2.2.2.2.2.2.2.2.2.2.2.2.1)) ((hI9.2.2.2.2.2.2.2.2.2.2.2.2.2.2.2.2.2.2.2.2.2.2.2.1)) ((hI9.2.2.2.2.2.2.2.2.2.2.2.2.2.2.2.2.2.2.2.2.2.2.2.2.1)) hzF11 hzF12 hzF13 hzF15 hzF19 hzF21 hzF24 hzF25 hzF26 hzF33 hzF38 hzF41 hzF43 hzF45 hzF46 hzF50 hzF53 hzF54 hzLQ)
              have hpr130_0 : (0 ≤ ((4 * p0) + 2).toInt ∧ ((4 * p0) + 2).toInt < 1120) := by first | assumption | omega
              have hpr130_1 : y17_2.toInt ≤ 400 := by first | assumption | omega
              have hpr130_2 : 400 ≤ 400 := by first | assumption | omega
              have hpr130_3 : (y17_2 - ((F 15) (Int32.toNatClampNeg ((4 * p0) + 2)))).toInt ≤ 400 := by first | assumption | omega
              refine pw_b1 (fun r130 hc130 => ?_)
              have hq130 := wp_at (ok_stands g (upF F 31 d17_F31) ((4 * p0) + 2) d17_F31 400 (y17_2 - ((F 15) (Int32.toNatClampNeg ((4 * p0) + 2)))) y17_2 hMI130 hpr130_0 hpr130_1 hpr130_2 hpr130_3) hc130
              obtain ⟨f49, f50⟩ : (id ((r130.toInt = 1 → 0 ≤ (y17_2 - ((F 15) (Int32.toNatClampNeg ((4 * p0) + 2)))).toInt ∧ (y17_2 - ((F 15) (Int32.toNatClampNeg ((4 * p0) + 2)))).toInt + ((F 15) (Int32.toNatClampNeg ((4 * p0) + 2))).toInt ≤ y17_2.toInt))) ∧ ((0 ≤ r130.toInt ∧ r130.toInt ≤ 1)) := hq130
              have h8130_hsz : 0 ≤ ((F 15) (Int32.toNatClampNeg ((4 * p0) + 2))).toInt := by first | assumption | omega
              have hx130 := pwq (fn_stands g (upF F 31 d17_F31) ((4 * p0) + 2) d17_F31 400 (y17_2 - ((F 15) (Int32.toNatClampNeg ((4 * p0) + 2)))) y17_2 hMI130 hpr130_0 hpr130_1 hpr130_2 hpr130_3 h8130_hsz) hc130
              obtain ⟨p130_0, p130_1⟩ : (id ((r130.toInt ≠ 0 → 0 ≤ (y17_2 - ((F 15) (Int32.toNatClampNeg ((4 * p0) + 2)))).toInt ∧ (y17_2 - ((F 15) (Int32.toNatClampNeg ((4 * p0) + 2)))).toInt + ((F 15) (Int32.toNatClampNeg ((4 * p0) + 2))).toInt ≤ y17_2.toInt ∧ wdl d17_F31 (Int32.toNatClampNeg (y17_2 - ((F 15) (Int32.toNatClampNeg ((4 * p0) + 2))))) (Int32.toNatClampNeg ((F 15) (Int32.toNatClampNeg ((4 * p0) + 2)))) = WR (F 14) (F 15) (Int32.toNatClampNeg ((4 * p0) + 2))))) ∧ (id ((r130.toInt = 0 → 0 ≤ (y17_2 - ((F 15) (Int32.toNatClampNeg ((4 * p0) + 2)))).toInt → (y17_2 - ((F 15) (Int32.toNatClampNeg ((4 * p0) + 2)))).toInt + ((F 15) (Int32.toNatClampNeg ((4 * p0) + 2))).toInt ≤ y17_2.toInt → wdl d17_F31 (Int32.toNatClampNeg (y17_2 - ((F 15) (Int32.toNatClampNeg ((4 * p0) + 2))))) (Int32.toNatClampNeg ((F 15) (Int32.toNatClampNeg ((4 * p0) + 2)))) ≠ WR (F 14) (F 15) (Int32.toNatClampNeg ((4 * p0) + 2))))) := hx130
              rw [i2] at p130_0 p130_1
              have fz2 : (y17_2 - (F 15) (4 * Int32.toNatClampNeg p0 + 2)).toInt = y17_2.toInt - ((F 15) (4 * Int32.toNatClampNeg p0 + 2)).toInt := by rw [← i2]; exact z_sub (by omega) (by omega)
              have cx2 := clampI (x := (F 15) (4 * Int32.toNatClampNeg p0 + 2)) (by rw [← i2]; omega)
              refine pw_ite (fun c133 => ?_) (fun c133 => ?_)
              · have c133 := congrArg Int32.toInt c133
                refine pw_j0 ej140 ?_
                exact Jj141 (0 : Int32) (show ((0 : Int32).toInt ≠ 0 → (((Int32.toNatClampNeg y17_3 + L.1.length ≤ Int32.toNatClampNeg (g 30) ∧ wdl (F 29) (Int32.toNatClampNeg y17_3) L.1.length = L.1) ∧ (L.2.2.2.2.1 ≠ 0 → Int32.toNatClampNeg y17_2 = 0) ∧ (L.2.2.2.2.2 ≠ 0 → Int32.toNatClampNeg y17_3 + L.1.length = Int32.toNatClampNeg (g 30))) ∧ (L.2.2.1.length ≤ Int32.toNatClampNeg y17_2 ∧ wdl d17_F31 (Int32.toNatClampNeg y17_2 - L.2.2.1.length) L.2.2.1.length = L.2.2.1))) from by intro h; omega) (show ((0 : Int32).toInt = 0 → ¬ (((Int32.toNatClampNeg y17_3 + L.1.length ≤ Int32.toNatClampNeg (g 30) ∧ wdl (F 29) (Int32.toNatClampNeg y17_3) L.1.length = L.1) ∧ (L.2.2.2.2.1 ≠ 0 → Int32.toNatClampNeg y17_2 = 0) ∧ (L.2.2.2.2.2 ≠ 0 → Int32.toNatClampNeg y17_3 + L.1.length = Int32.toNatClampNeg (g 30))) ∧ (L.2.2.1.length ≤ Int32.toNatClampNeg y17_2 ∧ wdl d17_F31 (Int32.toNatClampNeg y17_2 - L.2.2.1.length) L.2.2.1.length = L.2.2.1))) from by intro _ h; obtain ⟨h8, h9⟩ := h.2; have k9 := clampI (x := y17_2 - (F 15) (4 * Int32.toNatClampNeg p0 + 2)) (by omega); rw [n3, l3, show Int32.toNatClampNeg y17_2 - Int32.toNatClampNeg ((F 15) (4 * Int32.toNatClampNeg p0 + 2)) = Int32.toNatClampNeg (y17_2 - (F 15) (4 * Int32.toNatClampNeg p0 + 2)) by omega] at h9; exact p130_1 (by omega) (by omega) (by omega) h9)
              · have c133 := z_ne c133
                refine pw_j0 ej136 ?_
                exact Jj141 (1 : Int32) (show ((1 : Int32).toInt ≠ 0 → (((Int32.toNatClampNeg y17_3 + L.1.length ≤ Int32.toNatClampNeg (g 30) ∧ wdl (F 29) (Int32.toNatClampNeg y17_3) L.1.length = L.1) ∧ (L.2.2.2.2.1 ≠ 0 → Int32.toNatClampNeg y17_2 = 0) ∧ (L.2.2.2.2.2 ≠ 0 → Int32.toNatClampNeg y17_3 + L.1.length = Int32.toNatClampNeg (g 30))) ∧ (L.2.2.1.length ≤ Int32.toNatClampNeg y17_2 ∧ wdl d17_F31 (Int32.toNatClampNeg y17_2 - L.2.2.1.length) L.2.2.1.length = L.2.2.1))) from by intro _; obtain ⟨b1, b2, b3⟩ := p130_0 (by omega); have k9 := clampI (x := y17_2 - (F 15) (4 * Int32.toNatClampNeg p0 + 2)) (by omega); exact ⟨j086 (by omega), by omega, by rw [n3, l3, show Int32.toNatClampNeg y17_2 - Int32.toNatClampNeg ((F 15) (4 * Int32.toNatClampNeg p0 + 2)) = Int32.toNatClampNeg (y17_2 - (F 15) (4 * Int32.toNatClampNeg p0 + 2)) by omega]; exact b3⟩) (show ((1 : Int32).toInt = 0 → ¬ (((Int32.toNatClampNeg y17_3 + L.1.length ≤ Int32.toNatClampNeg (g 30) ∧ wdl (F 29) (Int32.toNatClampNeg y17_3) L.1.length = L.1) ∧ (L.2.2.2.2.1 ≠ 0 → Int32.toNatClampNeg y17_2 = 0) ∧ (L.2.2.2.2.2 ≠ 0 → Int32.toNatClampNeg y17_3 + L.1.length = Int32.toNatClampNeg (g 30))) ∧ (L.2.2.1.length ≤ Int32.toNatClampNeg y17_2 ∧ wdl d17_F31 (Int32.toNatClampNeg y17_2 - L.2.2.1.length) L.2.2.1.length = L.2.2.1))) from by intro h; omega)
        intro j86 Jj86
        refine pw_jE (fun j85 ej85 => ?_)
        refine pw_ite (fun c45 => ?_) (fun c45 => ?_)
        · have c45 := congrArg Int32.toInt c45
          refine pw_j0 ej85 ?_
          exact Jj86 (0 : Int32) (show ((0 : Int32).toInt ≠ 0 → ((Int32.toNatClampNeg y17_3 + L.1.length ≤ Int32.toNatClampNeg (g 30) ∧ wdl (F 29) (Int32.toNatClampNeg y17_3) L.1.length = L.1) ∧ (L.2.2.2.2.1 ≠ 0 → Int32.toNatClampNeg y17_2 = 0) ∧ (L.2.2.2.2.2 ≠ 0 → Int32.toNatClampNeg y17_3 + L.1.length = Int32.toNatClampNeg (g 30)))) from by intro h; omega) (show ((0 : Int32).toInt = 0 → ¬ ((Int32.toNatClampNeg y17_3 + L.1.length ≤ Int32.toNatClampNeg (g 30) ∧ wdl (F 29) (Int32.toNatClampNeg y17_3) L.1.length = L.1) ∧ (L.2.2.2.2.1 ≠ 0 → Int32.toNatClampNeg y17_2 = 0) ∧ (L.2.2.2.2.2 ≠ 0 → Int32.toNatClampNeg y17_3 + L.1.length = Int32.toNatClampNeg (g 30)))) from by intro _ h; have h9 := h.1.2; rw [n1, l1] at h9; exact p38_1 (by omega) (by omega) (by have := h.1.1; omega) h9)
        · have c45 := z_ne c45
          refine pw_if (fun hb53 => ?_)
          obtain ⟨hbl53, hbr53⟩ := hb53
          refine pw_jE (fun j61 ej61 => ?_)
          refine pw_ite (fun c54 => ?_) (fun c54 => ?_)
          · have c54 := congrArg Int32.toInt c54
            refine pw_j0 ej61 ?_
            refine pw_if (fun hb66 => ?_)
            obtain ⟨hbl66, hbr66⟩ := hb66
            refine pw_jE (fun j81 ej81 => ?_)
            refine pw_ite (fun c67 => ?_) (fun c67 => ?_)
            · have c67 := congrArg Int32.toInt c67
              refine pw_j0 ej81 ?_
              exact Jj86 (1 : Int32) (show ((1 : Int32).toInt ≠ 0 → ((Int32.toNatClampNeg y17_3 + L.1.length ≤ Int32.toNatClampNeg (g 30) ∧ wdl (F 29) (Int32.toNatClampNeg y17_3) L.1.length = L.1) ∧ (L.2.2.2.2.1 ≠ 0 → Int32.toNatClampNeg y17_2 = 0) ∧ (L.2.2.2.2.2 ≠ 0 → Int32.toNatClampNeg y17_3 + L.1.length = Int32.toNatClampNeg (g 30)))) from by intro _; obtain ⟨b1, b2, b3⟩ := p38_0 (by omega); exact ⟨⟨by omega, by rw [n1, l1]; exact b3⟩, fun q => (by first | omega | exact absurd (z_e (by rw [l5]; omega)) q), fun q => (by first | omega | exact absurd (z_e (by rw [l6]; omega)) q)⟩) (show ((1 : Int32).toInt = 0 → ¬ ((Int32.toNatClampNeg y17_3 + L.1.length ≤ Int32.toNatClampNeg (g 30) ∧ wdl (F 29) (Int32.toNatClampNeg y17_3) L.1.length = L.1) ∧ (L.2.2.2.2.1 ≠ 0 → Int32.toNatClampNeg y17_2 = 0) ∧ (L.2.2.2.2.2 ≠ 0 → Int32.toNatClampNeg y17_3 + L.1.length = Int32.toNatClampNeg (g 30)))) from by intro h; omega)
            · have c67 := z_ne c67
              have f51 : (y17_3 + x12).toInt = y17_3.toInt + x12.toInt := z_add (by omega) (by omega)
              refine pw_ite (fun c78 => ?_) (fun c78 => ?_)
              · have c78 := congrArg Int32.toInt c78
                refine pw_j0 ej81 ?_
                exact Jj86 (1 : Int32) (show ((1 : Int32).toInt ≠ 0 → ((Int32.toNatClampNeg y17_3 + L.1.length ≤ Int32.toNatClampNeg (g 30) ∧ wdl (F 29) (Int32.toNatClampNeg y17_3) L.1.length = L.1) ∧ (L.2.2.2.2.1 ≠ 0 → Int32.toNatClampNeg y17_2 = 0) ∧ (L.2.2.2.2.2 ≠ 0 → Int32.toNatClampNeg y17_3 + L.1.length = Int32.toNatClampNeg (g 30)))) from by intro _; obtain ⟨b1, b2, b3⟩ := p38_0 (by omega); exact ⟨⟨by omega, by rw [n1, l1]; exact b3⟩, fun q => (by first | omega | exact absurd (z_e (by rw [l5]; omega)) q), fun q => (by first | omega | exact absurd (z_e (by rw [l6]; omega)) q)⟩) (show ((1 : Int32).toInt = 0 → ¬ ((Int32.toNatClampNeg y17_3 + L.1.length ≤ Int32.toNatClampNeg (g 30) ∧ wdl (F 29) (Int32.toNatClampNeg y17_3) L.1.length = L.1) ∧ (L.2.2.2.2.1 ≠ 0 → Int32.toNatClampNeg y17_2 = 0) ∧ (L.2.2.2.2.2 ≠ 0 → Int32.toNatClampNeg y17_3 + L.1.length = Int32.toNatClampNeg (g 30)))) from by intro h; omega)
              · have c78 := z_ne c78
                refine pw_j0 ej85 ?_
                exact Jj86 (0 : Int32) (show ((0 : Int32).toInt ≠ 0 → ((Int32.toNatClampNeg y17_3 + L.1.length ≤ Int32.toNatClampNeg (g 30) ∧ wdl (F 29) (Int32.toNatClampNeg y17_3) L.1.length = L.1) ∧ (L.2.2.2.2.1 ≠ 0 → Int32.toNatClampNeg y17_2 = 0) ∧ (L.2.2.2.2.2 ≠ 0 → Int32.toNatClampNeg y17_3 + L.1.length = Int32.toNatClampNeg (g 30)))) from by intro h; omega) (show ((0 : Int32).toInt = 0 → ¬ ((Int32.toNatClampNeg y17_3 + L.1.length ≤ Int32.toNatClampNeg (g 30) ∧ wdl (F 29) (Int32.toNatClampNeg y17_3) L.1.length = L.1) ∧ (L.2.2.2.2.1 ≠ 0 → Int32.toNatClampNeg y17_2 = 0) ∧ (L.2.2.2.2.2 ≠ 0 → Int32.toNatClampNeg y17_3 + L.1.length = Int32.toNatClampNeg (g 30)))) from by intro _ h; have h9 := h.2.2 (fun q => by have q9 := congrArg Int32.toInt q; rw [l6] at q9; omega); omega)
          · have c54 := z_ne c54
            refine pw_ite (fun c58 => ?_) (fun c58 => ?_)
            · have c58 := congrArg Int32.toInt c58
              refine pw_j0 ej61 ?_
              refine pw_if (fun hb66 => ?_)
              obtain ⟨hbl66, hbr66⟩ := hb66
              refine pw_jE (fun j81 ej81 => ?_)
              refine pw_ite (fun c67 => ?_) (fun c67 => ?_)
              · have c67 := congrArg Int32.toInt c67
                refine pw_j0 ej81 ?_
                exact Jj86 (1 : Int32) (show ((1 : Int32).toInt ≠ 0 → ((Int32.toNatClampNeg y17_3 + L.1.length ≤ Int32.toNatClampNeg (g 30) ∧ wdl (F 29) (Int32.toNatClampNeg y17_3) L.1.length = L.1) ∧ (L.2.2.2.2.1 ≠ 0 → Int32.toNatClampNeg y17_2 = 0) ∧ (L.2.2.2.2.2 ≠ 0 → Int32.toNatClampNeg y17_3 + L.1.length = Int32.toNatClampNeg (g 30)))) from by intro _; obtain ⟨b1, b2, b3⟩ := p38_0 (by omega); exact ⟨⟨by omega, by rw [n1, l1]; exact b3⟩, fun q => (by first | omega | exact absurd (z_e (by rw [l5]; omega)) q), fun q => (by first | omega | exact absurd (z_e (by rw [l6]; omega)) q)⟩) (show ((1 : Int32).toInt = 0 → ¬ ((Int32.toNatClampNeg y17_3 + L.1.length ≤ Int32.toNatClampNeg (g 30) ∧ wdl (F 29) (Int32.toNatClampNeg y17_3) L.1.length = L.1) ∧ (L.2.2.2.2.1 ≠ 0 → Int32.toNatClampNeg y17_2 = 0) ∧ (L.2.2.2.2.2 ≠ 0 → Int32.toNatClampNeg y17_3 + L.1.length = Int32.toNatClampNeg (g 30)))) from by intro h; omega)
              · have c67 := z_ne c67
                have f52 : (y17_3 + x12).toInt = y17_3.toInt + x12.toInt := z_add (by omega) (by omega)
                refine pw_ite (fun c78 => ?_) (fun c78 => ?_)
                · have c78 := congrArg Int32.toInt c78
                  refine pw_j0 ej81 ?_
                  exact Jj86 (1 : Int32) (show ((1 : Int32).toInt ≠ 0 → ((Int32.toNatClampNeg y17_3 + L.1.length ≤ Int32.toNatClampNeg (g 30) ∧ wdl (F 29) (Int32.toNatClampNeg y17_3) L.1.length = L.1) ∧ (L.2.2.2.2.1 ≠ 0 → Int32.toNatClampNeg y17_2 = 0) ∧ (L.2.2.2.2.2 ≠ 0 → Int32.toNatClampNeg y17_3 + L.1.length = Int32.toNatClampNeg (g 30)))) from by intro _; obtain ⟨b1, b2, b3⟩ := p38_0 (by omega); exact ⟨⟨by omega, by rw [n1, l1]; exact b3⟩, fun q => (by first | omega | exact absurd (z_e (by rw [l5]; omega)) q), fun q => (by first | omega | exact absurd (z_e (by rw [l6]; omega)) q)⟩) (show ((1 : Int32).toInt = 0 → ¬ ((Int32.toNatClampNeg y17_3 + L.1.length ≤ Int32.toNatClampNeg (g 30) ∧ wdl (F 29) (Int32.toNatClampNeg y17_3) L.1.length = L.1) ∧ (L.2.2.2.2.1 ≠ 0 → Int32.toNatClampNeg y17_2 = 0) ∧ (L.2.2.2.2.2 ≠ 0 → Int32.toNatClampNeg y17_3 + L.1.length = Int32.toNatClampNeg (g 30)))) from by intro h; omega)
                · have c78 := z_ne c78
                  refine pw_j0 ej85 ?_
                  exact Jj86 (0 : Int32) (show ((0 : Int32).toInt ≠ 0 → ((Int32.toNatClampNeg y17_3 + L.1.length ≤ Int32.toNatClampNeg (g 30) ∧ wdl (F 29) (Int32.toNatClampNeg y17_3) L.1.length = L.1) ∧ (L.2.2.2.2.1 ≠ 0 → Int32.toNatClampNeg y17_2 = 0) ∧ (L.2.2.2.2.2 ≠ 0 → Int32.toNatClampNeg y17_3 + L.1.length = Int32.toNatClampNeg (g 30)))) from by intro h; omega) (show ((0 : Int32).toInt = 0 → ¬ ((Int32.toNatClampNeg y17_3 + L.1.length ≤ Int32.toNatClampNeg (g 30) ∧ wdl (F 29) (Int32.toNatClampNeg y17_3) L.1.length = L.1) ∧ (L.2.2.2.2.1 ≠ 0 → Int32.toNatClampNeg y17_2 = 0) ∧ (L.2.2.2.2.2 ≠ 0 → Int32.toNatClampNeg y17_3 + L.1.length = Int32.toNatClampNeg (g 30)))) from by intro _ h; have h9 := h.2.2 (fun q => by have q9 := congrArg Int32.toInt q; rw [l6] at q9; omega); omega)
            · have c58 := z_ne c58
              refine pw_j0 ej85 ?_
              exact Jj86 (0 : Int32) (show ((0 : Int32).toInt ≠ 0 → ((Int32.toNatClampNeg y17_3 + L.1.length ≤ Int32.toNatClampNeg (g 30) ∧ wdl (F 29) (Int32.toNatClampNeg y17_3) L.1.length = L.1) ∧ (L.2.2.2.2.1 ≠ 0 → Int32.toNatClampNeg y17_2 = 0) ∧ (L.2.2.2.2.2 ≠ 0 → Int32.toNatClampNeg y17_3 + L.1.length = Int32.toNatClampNeg (g 30)))) from by intro h; omega) (show ((0 : Int32).toInt = 0 → ¬ ((Int32.toNatClampNeg y17_3 + L.1.length ≤ Int32.toNatClampNeg (g 30) ∧ wdl (F 29) (Int32.toNatClampNeg y17_3) L.1.length = L.1) ∧ (L.2.2.2.2.1 ≠ 0 → Int32.toNatClampNeg y17_2 = 0) ∧ (L.2.2.2.2.2 ≠ 0 → Int32.toNatClampNeg y17_3 + L.1.length = Int32.toNatClampNeg (g 30)))) from by intro _ h; have h9 := h.2.1 (fun q => by have q9 := congrArg Int32.toInt q; rw [l5] at q9; omega); omega)
  exact lp17 NN (0 : Int32) (0 : Int32) (0 : Int32) (F 31) (show (0 ≤ (0 : Int32).toInt ∧ (0 : Int32).toInt ≤ (g 30).toInt) from by omega) (show (0 ≤ (0 : Int32).toInt ∧ (0 : Int32).toInt ≤ 16 * (0 : Int32).toInt) from by omega) (show (TH L W (Int32.toNatClampNeg (0 : Int32)) (wdl (F 31) 0 (Int32.toNatClampNeg (0 : Int32))) (decide ((0 : Int32).toInt ≠ 0))) from by exact TH_0)
