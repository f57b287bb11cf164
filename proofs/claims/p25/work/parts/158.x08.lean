abbrev QF_sameBytes (A0 : (Nat → Int32)) (n0 : Nat) (p1 : Int32) (p2 : Int32) (A3 : (Nat → Int32)) (n3 : Nat) (p4 : Int32) (p5 : Int32) : (Int32) → Prop := (fun t => ((t.toInt ≠ 0 → wdl A0 (Int32.toNatClampNeg p1) (Int32.toNatClampNeg p2) = wdl A3 (Int32.toNatClampNeg p4) (Int32.toNatClampNeg p5))) ∧ ((t.toInt = 0 → wdl A0 (Int32.toNatClampNeg p1) (Int32.toNatClampNeg p2) ≠ wdl A3 (Int32.toNatClampNeg p4) (Int32.toNatClampNeg p5))))
set_option maxHeartbeats 4000000 in
set_option maxRecDepth 100000 in
theorem fn_sameBytes (A0 : (Nat → Int32)) (n0 : Nat) (p1 : Int32) (p2 : Int32) (A3 : (Nat → Int32)) (n3 : Nat) (p4 : Int32) (p5 : Int32) (hp0 : (0 ≤ p1.toInt ∧ p1.toInt + p2.toInt ≤ n0)) (hp1 : n0 ≤ 500000) (hp2 : (0 ≤ p4.toInt ∧ p4.toInt + p5.toInt ≤ n3)) (hp3 : n3 ≤ 500000) (h02 : 0 ≤ p2.toInt) (h05 : 0 ≤ p5.toInt) : pw (f_sameBytes A0 n0 p1 p2 A3 n3 p4 p5) (QF_sameBytes A0 n0 p1 p2 A3 n3 p4 p5) := by
  unfold f_sameBytes
  have zk0 : (0 : Int32).toInt = 0 := by decide +kernel
  have zk1 : (1 : Int32).toInt = 1 := by decide +kernel
  have cp2 := clampI h02
  have cp5 := clampI h05
  have cp1 := clampI (x := p1) (by omega)
  have cp4 := clampI (x := p4) (by omega)
  refine pw_ite (fun c3 => ?_) (fun c3 => ?_)
  · have c3 := congrArg Int32.toInt c3
    have lp11 : ∀ (n11 : Nat) (y11_6 : Int32), 0 ≤ y11_6.toInt → (∀ i : Nat, (i : Int) < y11_6.toInt → A0 (Int32.toNatClampNeg p1 + i) = A3 (Int32.toNatClampNeg p4 + i)) → pw (L_sameBytes_11 A0 n0 p1 p2 A3 n3 p4 n11 y11_6) (QF_sameBytes A0 n0 p1 p2 A3 n3 p4 p5) := by
      intro n11
      induction n11 with
      | zero => intros; exact pw_none
      | succ n11 ih11 =>
        intro y11_6 f1 ib11
        show pw (B_sameBytes_11 A0 n0 p1 p2 A3 n3 p4 (L_sameBytes_11 A0 n0 p1 p2 A3 n3 p4 n11) y11_6) _
        unfold B_sameBytes_11
        refine pw_ite (fun c14 => ?_) (fun c14 => ?_)
        · have c14 := (z_le _ _).mp c14
          have qq0 : ((1 : Int32).toInt ≠ 0 → wdl A0 (Int32.toNatClampNeg p1) (Int32.toNatClampNeg p2) = wdl A3 (Int32.toNatClampNeg p4) (Int32.toNatClampNeg p5)) := by intro _; exact wdl_inj.mpr ⟨by omega, fun i hi => ib11 i (by omega)⟩
          have qq1 : ((1 : Int32).toInt = 0 → wdl A0 (Int32.toNatClampNeg p1) (Int32.toNatClampNeg p2) ≠ wdl A3 (Int32.toNatClampNeg p4) (Int32.toNatClampNeg p5)) := by intro h; omega
          exact pw_some ⟨qq0, qq1⟩
        · have c14 := z_nle c14
          have f2 : (p1 + y11_6).toInt = p1.toInt + y11_6.toInt := z_add (by omega) (by omega)
          refine pw_if (fun hb22 => ?_)
          obtain ⟨hbl22, hbr22⟩ := hb22
          have f3 : (p4 + y11_6).toInt = p4.toInt + y11_6.toInt := z_add (by omega) (by omega)
          refine pw_if (fun hb29 => ?_)
          obtain ⟨hbl29, hbr29⟩ := hb29
          refine pw_ite (fun c30 => ?_) (fun c30 => ?_)
          · have c30 := congrArg Int32.toInt c30
            have f4 : (y11_6 + 1).toInt = y11_6.toInt + (1) := z_addc (by decide +kernel) (by omega) (by omega)
            have iv11_0 : 0 ≤ (y11_6 + 1).toInt := by omega
            have iv11_1 : (∀ i : Nat, (i : Int) < (y11_6 + 1).toInt → A0 (Int32.toNatClampNeg p1 + i) = A3 (Int32.toNatClampNeg p4 + i)) := by intro i hi; by_cases q : (i : Int) < y11_6.toInt; (exact ib11 i q); (have e0 := clampI (x := y11_6) (by omega); have e1 := clampI (x := p1 + y11_6) (by omega); have e2 := clampI (x := p4 + y11_6) (by omega); rw [show Int32.toNatClampNeg p1 + i = Int32.toNatClampNeg (p1 + y11_6) by omega, show Int32.toNatClampNeg p4 + i = Int32.toNatClampNeg (p4 + y11_6) by omega]; exact z_e c30)
            exact ih11 (y11_6 + 1) iv11_0 iv11_1
          · have c30 := z_ne c30
            have qq0 : ((0 : Int32).toInt ≠ 0 → wdl A0 (Int32.toNatClampNeg p1) (Int32.toNatClampNeg p2) = wdl A3 (Int32.toNatClampNeg p4) (Int32.toNatClampNeg p5)) := by intro h; omega
            have qq1 : ((0 : Int32).toInt = 0 → wdl A0 (Int32.toNatClampNeg p1) (Int32.toNatClampNeg p2) ≠ wdl A3 (Int32.toNatClampNeg p4) (Int32.toNatClampNeg p5)) := by intro _ h; have e0 := clampI (x := y11_6) (by omega); have e1 := clampI (x := p1 + y11_6) (by omega); have e2 := clampI (x := p4 + y11_6) (by omega); have h1 := (wdl_inj.mp h).2 (Int32.toNatClampNeg y11_6) (by omega); rw [show Int32.toNatClampNeg p1 + Int32.toNatClampNeg y11_6 = Int32.toNatClampNeg (p1 + y11_6) by omega, show Int32.toNatClampNeg p4 + Int32.toNatClampNeg y11_6 = Int32.toNatClampNeg (p4 + y11_6) by omega] at h1; exact c30 (congrArg Int32.toInt h1)
            exact pw_some ⟨qq0, qq1⟩
    exact lp11 NN (0 : Int32) (show 0 ≤ (0 : Int32).toInt from by omega) (show (∀ i : Nat, (i : Int) < (0 : Int32).toInt → A0 (Int32.toNatClampNeg p1 + i) = A3 (Int32.toNatClampNeg p4 + i)) from by intro i hi; omega)
  · have c3 := z_ne c3
    have qq0 : ((0 : Int32).toInt ≠ 0 → wdl A0 (Int32.toNatClampNeg p1) (Int32.toNatClampNeg p2) = wdl A3 (Int32.toNatClampNeg p4) (Int32.toNatClampNeg p5)) := by intro h; omega
    have qq1 : ((0 : Int32).toInt = 0 → wdl A0 (Int32.toNatClampNeg p1) (Int32.toNatClampNeg p2) ≠ wdl A3 (Int32.toNatClampNeg p4) (Int32.toNatClampNeg p5)) := by intro _ h; have h1 := (wdl_inj.mp h).1; omega
    exact pw_some ⟨qq0, qq1⟩
abbrev QF_isWordPart (g : Nat → Int32) (F : Nat → Nat → Int32) (p0 : Int32) (p1 : Int32) (p2 : Int32) (ps : List Wd) (W : Wd) : (Int32) → Prop := (fun t => ((t.toInt ≠ 0 → ((W.drop (Int32.toNatClampNeg p1)).take (Int32.toNatClampNeg p2)) ∈ ps)) ∧ ((t.toInt = 0 → ((W.drop (Int32.toNatClampNeg p1)).take (Int32.toNatClampNeg p2)) ∉ ps)))
set_option maxHeartbeats 4000000 in
set_option maxRecDepth 100000 in
theorem fn_isWordPart (g : Nat → Int32) (F : Nat → Nat → Int32) (p0 : Int32) (p1 : Int32) (p2 : Int32) (ps : List Wd) (W : Wd) (hI : MInv g F) (hp0 : (0 ≤ p0.toInt ∧ p0.toInt ≤ 6)) (hp1 : (0 ≤ p1.toInt ∧ p1.toInt + p2.toInt ≤ 24 ∧ p2.toInt ≤ 16)) (hps : prtR ((F 12) (Int32.toNatClampNeg p0)) (F 18) (F 19) (40 * Int32.toNatClampNeg p0) = ps) (hW : wdl (F 22) 0 (Int32.toNatClampNeg (g 23)) = W) (hln : p1.toInt + p2.toInt ≤ (g 23).toInt) (hn1 : 1 ≤ p2.toInt) : pw (f_isWordPart g F p0 p1 p2) (QF_isWordPart g F p0 p1 p2 ps W) := by
  unfold f_isWordPart
  have hI9 : id (MInv g F) := hI
  obtain ⟨-, -, -, -, -, -, -, -, -, hzg23, -, -, -, -, -, -, -, -, -, -, -, -, -, -, -, hzF11, hzF12, hzF13, hzF15, hzF19, hzF21, hzF24, hzF25, hzF26, hzF33, hzF38, hzF41, hzF43, hzF45, hzF46, hzF50, hzF53, hzF54, hzLQ⟩ := hI
  have zk0 : (0 : Int32).toInt = 0 := by decide +kernel
  have zk1 : (1 : Int32).toInt = 1 := by decide +kernel
  have zk16 : (16 : Int32).toInt = 16 := by decide +kernel
  have zk40 : (40 : Int32).toInt = 40 := by decide +kernel
  have cp0 := clampI (x := p0) (by omega)
  have cp1 := clampI (x := p1) (by omega)
  have cp2 := clampI (x := p2) (by omega)
  have c23 := clampI (x := g 23) (by omega)
  have c12 := hzF12 (Int32.toNatClampNeg p0)
  have c12n := clampI (x := (F 12) (Int32.toNatClampNeg p0)) (by omega)
  have hsl : (W.drop (Int32.toNatClampNeg p1)).take (Int32.toNatClampNeg p2) = (wdl (F 22) (Int32.toNatClampNeg p1) (Int32.toNatClampNeg p2)) := by rw [← hW, wdl_dt (by omega), Nat.zero_add]
  have f1 : (40 * p0).toInt = 40 * p0.toInt := z_muld (by decide +kernel) (by omega) (by omega)
  refine pw_vl (fun x4 ex4 => ?_)
  have f2 : x4.toInt = (40 * p0).toInt := congrArg Int32.toInt ex4
  have lp6 : ∀ (n6 : Nat) (y6_4 : Int32), (40 * p0.toInt ≤ y6_4.toInt ∧ y6_4.toInt ≤ 40 * p0.toInt + 40) → y6_4.toInt ≤ 40 * p0.toInt + ((F 12) (Int32.toNatClampNeg p0)).toInt → (∀ j : Nat, 40 * Int32.toNatClampNeg p0 ≤ j → (j : Int) < y6_4.toInt → WR (F 18) (F 19) j ≠ (wdl (F 22) (Int32.toNatClampNeg p1) (Int32.toNatClampNeg p2))) → pw (L_isWordPart_6 F p0 p1 p2 n6 y6_4) (QF_isWordPart g F p0 p1 p2 ps W) := by
    intro n6
    induction n6 with
    | zero => intros; exact pw_none
    | succ n6 ih6 =>
      intro y6_4 f3 f4 in6
      show pw (B_isWordPart_6 F p0 p1 p2 (L_isWordPart_6 F p0 p1 p2 n6) y6_4) _
      unfold B_isWordPart_6
      have k4 := clampI (x := y6_4) (by omega)
      refine pw_if (fun hb17 => ?_)
      obtain ⟨hbl17, hbr17⟩ := hb17
      have f6 := hzF12 (Int32.toNatClampNeg p0)
      have f7 : ((40 * p0) + ((F 12) (Int32.toNatClampNeg p0))).toInt = (40 * p0).toInt + ((F 12) (Int32.toNatClampNeg p0)).toInt := z_add (by omega) (by omega)
      refine pw_ite (fun c19 => ?_) (fun c19 => ?_)
      · have c19 := (z_le _ _).mp c19
        have qq0 : ((0 : Int32).toInt ≠ 0 → ((W.drop (Int32.toNatClampNeg p1)).take (Int32.toNatClampNeg p2)) ∈ ps) := by intro h; omega
        have qq1 : ((0 : Int32).toInt = 0 → ((W.drop (Int32.toNatClampNeg p1)).take (Int32.toNatClampNeg p2)) ∉ ps) := by intro _; rw [hsl, ← hps]; intro h; obtain ⟨j, h1, h2⟩ := tab_mem.mp h; exact in6 (40 * Int32.toNatClampNeg p0 + j) (by omega) (by omega) h2
        exact pw_some ⟨qq0, qq1⟩
      · have c19 := z_nle c19
        refine pw_if (fun hb28 => ?_)
        obtain ⟨hbl28, hbr28⟩ := hb28
        have f8 := hzF19 (Int32.toNatClampNeg y6_4)
        refine pw_jE (fun j98 ej98 => ?_)
        refine pw_ite (fun c30 => ?_) (fun c30 => ?_)
        · have c30 := congrArg Int32.toInt c30
          refine pw_jE (fun k91 ek91 => ?_)
          have lp42 : ∀ (n42 : Nat) (y42_5 : Int32) (y42_6 : Int32), 0 ≤ y42_6.toInt → y42_6.toInt ≤ p2.toInt → (y42_5.toInt ≠ 0 → ∀ i : Nat, (i : Int) < y42_6.toInt → (F 18) (16 * Int32.toNatClampNeg y6_4 + i) = (F 22) (Int32.toNatClampNeg p1 + i)) → (y42_5.toInt = 0 → WR (F 18) (F 19) (Int32.toNatClampNeg y6_4) ≠ (wdl (F 22) (Int32.toNatClampNeg p1) (Int32.toNatClampNeg p2))) → pw (L_isWordPart_42 F p1 p2 y6_4 k91 n42 y42_5 y42_6) (QF_isWordPart g F p0 p1 p2 ps W) := by
            intro n42
            induction n42 with
            | zero => intros; exact pw_none
            | succ n42 ih42 =>
              intro y42_5 y42_6 f9 f10 is42 im42
              show pw (B_isWordPart_42 F p1 p2 y6_4 k91 (L_isWordPart_42 F p1 p2 y6_4 k91 n42) y42_5 y42_6) _
              unfold B_isWordPart_42
              refine pw_ite (fun c45 => ?_) (fun c45 => ?_)
              · have c45 := (z_le _ _).mp c45
                refine pw_j1 ek91 (fun x91_5 ex91_5 => ?_)
                have ex91_5 := ex91_5.symm
                have f_x91_5 : x91_5.toInt = y42_5.toInt := by rw [ex91_5]
                refine pw_ite (fun c93 => ?_) (fun c93 => ?_)
                · have c93 := congrArg Int32.toInt c93
                  refine pw_j0 ej98 ?_
                  have f11 : (y6_4 + 1).toInt = y6_4.toInt + (1) := z_addc (by decide +kernel) (by omega) (by omega)
                  have iv6_0 : (40 * p0.toInt ≤ (y6_4 + 1).toInt ∧ (y6_4 + 1).toInt ≤ 40 * p0.toInt + 40) := by omega
                  have iv6_1 : (y6_4 + 1).toInt ≤ 40 * p0.toInt + ((F 12) (Int32.toNatClampNeg p0)).toInt := by omega
                  have iv6_2 : (∀ j : Nat, 40 * Int32.toNatClampNeg p0 ≤ j → (j : Int) < (y6_4 + 1).toInt → WR (F 18) (F 19) j ≠ (wdl (F 22) (Int32.toNatClampNeg p1) (Int32.toNatClampNeg p2))) := by intro j h1 h2; by_cases q : (j : Int) < y6_4.toInt; (exact in6 j h1 q); (rw [show j = Int32.toNatClampNeg y6_4 by omega]; exact im42 (by omega))
                  exact ih6 (y6_4 + 1) iv6_0 iv6_1 iv6_2
                · have c93 := z_ne c93
                  have qq0 : ((1 : Int32).toInt ≠ 0 → ((W.drop (Int32.toNatClampNeg p1)).take (Int32.toNatClampNeg p2)) ∈ ps) := by intro _; rw [hsl, ← hps]; refine tab_mem.mpr ⟨Int32.toNatClampNeg y6_4 - 40 * Int32.toNatClampNeg p0, by omega, ?_⟩; rw [show 40 * Int32.toNatClampNeg p0 + (Int32.toNatClampNeg y6_4 - 40 * Int32.toNatClampNeg p0) = Int32.toNatClampNeg y6_4 by omega]; have h5 := clampI (x := (F 19) (Int32.toNatClampNeg y6_4)) (by omega); exact wdl_inj.mpr ⟨by omega, fun i hi => is42 (by omega) i (by omega)⟩
                  have qq1 : ((1 : Int32).toInt = 0 → ((W.drop (Int32.toNatClampNeg p1)).take (Int32.toNatClampNeg p2)) ∉ ps) := by intro h; omega
                  exact pw_some ⟨qq0, qq1⟩
              · have c45 := z_nle c45
                refine pw_ite (fun c50 => ?_) (fun c50 => ?_)
                · have c50 := congrArg Int32.toInt c50
                  refine pw_j1 ek91 (fun x91_5 ex91_5 => ?_)
                  have ex91_5 := ex91_5.symm
                  have f_x91_5 : x91_5.toInt = y42_5.toInt := by rw [ex91_5]
                  refine pw_ite (fun c93 => ?_) (fun c93 => ?_)
                  · have c93 := congrArg Int32.toInt c93
                    refine pw_j0 ej98 ?_
                    have f12 : (y6_4 + 1).toInt = y6_4.toInt + (1) := z_addc (by decide +kernel) (by omega) (by omega)
                    have iv6_0 : (40 * p0.toInt ≤ (y6_4 + 1).toInt ∧ (y6_4 + 1).toInt ≤ 40 * p0.toInt + 40) := by omega
                    have iv6_1 : (y6_4 + 1).toInt ≤ 40 * p0.toInt + ((F 12) (Int32.toNatClampNeg p0)).toInt := by omega
                    have iv6_2 : (∀ j : Nat, 40 * Int32.toNatClampNeg p0 ≤ j → (j : Int) < (y6_4 + 1).toInt → WR (F 18) (F 19) j ≠ (wdl (F 22) (Int32.toNatClampNeg p1) (Int32.toNatClampNeg p2))) := by intro j h1 h2; by_cases q : (j : Int) < y6_4.toInt; (exact in6 j h1 q); (rw [show j = Int32.toNatClampNeg y6_4 by omega]; exact im42 (by omega))
                    exact ih6 (y6_4 + 1) iv6_0 iv6_1 iv6_2
                  · have c93 := z_ne c93
                    have qq0 : ((1 : Int32).toInt ≠ 0 → ((W.drop (Int32.toNatClampNeg p1)).take (Int32.toNatClampNeg p2)) ∈ ps) := by intro _; rw [hsl, ← hps]; refine tab_mem.mpr ⟨Int32.toNatClampNeg y6_4 - 40 * Int32.toNatClampNeg p0, by omega, ?_⟩; rw [show 40 * Int32.toNatClampNeg p0 + (Int32.toNatClampNeg y6_4 - 40 * Int32.toNatClampNeg p0) = Int32.toNatClampNeg y6_4 by omega]; have h5 := clampI (x := (F 19) (Int32.toNatClampNeg y6_4)) (by omega); exact wdl_inj.mpr ⟨by omega, fun i hi => is42 (by omega) i (by omega)⟩
                    have qq1 : ((1 : Int32).toInt = 0 → ((W.drop (Int32.toNatClampNeg p1)).take (Int32.toNatClampNeg p2)) ∉ ps) := by intro h; omega
                    exact pw_some ⟨qq0, qq1⟩
                · have c50 := z_ne c50
                  have f13 : (16 * y6_4).toInt = 16 * y6_4.toInt := z_muld (by decide +kernel) (by omega) (by omega)
                  have f14 : ((16 * y6_4) + y42_6).toInt = (16 * y6_4).toInt + y42_6.toInt := z_add (by omega) (by omega)
                  refine pw_if (fun hb65 => ?_)
                  obtain ⟨hbl65, hbr65⟩ := hb65
                  have f15 : (p1 + y42_6).toInt = p1.toInt + y42_6.toInt := z_add (by omega) (by omega)
                  refine pw_if (fun hb74 => ?_)
                  obtain ⟨hbl74, hbr74⟩ := hb74
                  refine pw_jE (fun j83 ej83 => ?_)
                  refine pw_ite (fun c75 => ?_) (fun c75 => ?_)
                  · have c75 := congrArg Int32.toInt c75
                    refine pw_j1 ej83 (fun t83_0 et83_0 => ?_)
                    have et83_0 := et83_0.symm
                    have f_t83_0 : t83_0.toInt = 1 := by rw [et83_0]; decide +kernel
                    have f16 : (y42_6 + 1).toInt = y42_6.toInt + (1) := z_addc (by decide +kernel) (by omega) (by omega)
                    have iv42_0 : 0 ≤ (y42_6 + 1).toInt := by omega
                    have iv42_1 : (y42_6 + 1).toInt ≤ p2.toInt := by omega
                    have iv42_2 : (t83_0.toInt ≠ 0 → ∀ i : Nat, (i : Int) < (y42_6 + 1).toInt → (F 18) (16 * Int32.toNatClampNeg y6_4 + i) = (F 22) (Int32.toNatClampNeg p1 + i)) := by intro _ i hi; by_cases q : (i : Int) < y42_6.toInt; (exact is42 (by omega) i q); (have e0 := clampI (x := y42_6) (by omega); have e1 := clampI (x := (16 * y6_4) + y42_6) (by omega); have e2 := clampI (x := p1 + y42_6) (by omega); rw [show 16 * Int32.toNatClampNeg y6_4 + i = Int32.toNatClampNeg ((16 * y6_4) + y42_6) by omega, show Int32.toNatClampNeg p1 + i = Int32.toNatClampNeg (p1 + y42_6) by omega]; exact z_e c75)
                    have iv42_3 : (t83_0.toInt = 0 → WR (F 18) (F 19) (Int32.toNatClampNeg y6_4) ≠ (wdl (F 22) (Int32.toNatClampNeg p1) (Int32.toNatClampNeg p2))) := by intro h; omega
                    exact ih42 t83_0 (y42_6 + 1) iv42_0 iv42_1 iv42_2 iv42_3
                  · have c75 := z_ne c75
                    refine pw_j1 ej83 (fun t83_0 et83_0 => ?_)
                    have et83_0 := et83_0.symm
                    have f_t83_0 : t83_0.toInt = 0 := by rw [et83_0]; decide +kernel
                    have f17 : (y42_6 + 1).toInt = y42_6.toInt + (1) := z_addc (by decide +kernel) (by omega) (by omega)
                    have iv42_0 : 0 ≤ (y42_6 + 1).toInt := by omega
                    have iv42_1 : (y42_6 + 1).toInt ≤ p2.toInt := by omega
                    have iv42_2 : (t83_0.toInt ≠ 0 → ∀ i : Nat, (i : Int) < (y42_6 + 1).toInt → (F 18) (16 * Int32.toNatClampNeg y6_4 + i) = (F 22) (Int32.toNatClampNeg p1 + i)) := by intro h; omega
                    have iv42_3 : (t83_0.toInt = 0 → WR (F 18) (F 19) (Int32.toNatClampNeg y6_4) ≠ (wdl (F 22) (Int32.toNatClampNeg p1) (Int32.toNatClampNeg p2))) := by intro _ h; have e0 := clampI (x := y42_6) (by omega); have e1 := clampI (x := (16 * y6_4) + y42_6) (by omega); have e2 := clampI (x := p1 + y42_6) (by omega); have h3 := wdl_inj.mp h; have h1 := h3.2 (Int32.toNatClampNeg y42_6) (by have := h3.1; omega); rw [show 16 * Int32.toNatClampNeg y6_4 + Int32.toNatClampNeg y42_6 = Int32.toNatClampNeg ((16 * y6_4) + y42_6) by omega, show Int32.toNatClampNeg p1 + Int32.toNatClampNeg y42_6 = Int32.toNatClampNeg (p1 + y42_6) by omega] at h1; exact c75 (congrArg Int32.toInt h1)
                    exact ih42 t83_0 (y42_6 + 1) iv42_0 iv42_1 iv42_2 iv42_3
          exact lp42 NN (1 : Int32) (0 : Int32) (show 0 ≤ (0 : Int32).toInt from by omega) (show (0 : Int32).toInt ≤ p2.toInt from by omega) (show ((1 : Int32).toInt ≠ 0 → ∀ i : Nat, (i : Int) < (0 : Int32).toInt → (F 18) (16 * Int32.toNatClampNeg y6_4 + i) = (F 22) (Int32.toNatClampNeg p1 + i)) from by intro _ i hi; omega) (show ((1 : Int32).toInt = 0 → WR (F 18) (F 19) (Int32.toNatClampNeg y6_4) ≠ (wdl (F 22) (Int32.toNatClampNeg p1) (Int32.toNatClampNeg p2))) from by intro h; omega)
        · have c30 := z_ne c30
          refine pw_j0 ej98 ?_
          have f18 : (y6_4 + 1).toInt = y6_4.toInt + (1) := z_addc (by decide +kernel) (by omega) (by omega)
          have iv6_0 : (40 * p0.toInt ≤ (y6_4 + 1).toInt ∧ (y6_4 + 1).toInt ≤ 40 * p0.toInt + 40) := by omega
          have iv6_1 : (y6_4 + 1).toInt ≤ 40 * p0.toInt + ((F 12) (Int32.toNatClampNeg p0)).toInt := by omega
          have iv6_2 : (∀ j : Nat, 40 * Int32.toNatClampNeg p0 ≤ j → (j : Int) < (y6_4 + 1).toInt → WR (F 18) (F 19) j ≠ (wdl (F 22) (Int32.toNatClampNeg p1) (Int32.toNatClampNeg p2))) := by intro j h1 h2; by_cases q : (j : Int) < y6_4.toInt; (exact in6 j h1 q); (rw [show j = Int32.toNatClampNeg y6_4 by omega]; intro h; have h3 := (wdl_inj.mp h).1; have h5 : Int32.toNatClampNeg ((F 19) (Int32.toNatClampNeg y6_4)) = ((F 19) (Int32.toNatClampNeg y6_4)).toInt.toNat := rfl; omega)
          exact ih6 (y6_4 + 1) iv6_0 iv6_1 iv6_2
  exact lp6 NN x4 (show (40 * p0.toInt ≤ x4.toInt ∧ x4.toInt ≤ 40 * p0.toInt + 40) from by omega) (show x4.toInt ≤ 40 * p0.toInt + ((F 12) (Int32.toNatClampNeg p0)).toInt from by omega) (show (∀ j : Nat, 40 * Int32.toNatClampNeg p0 ≤ j → (j : Int) < x4.toInt → WR (F 18) (F 19) j ≠ (wdl (F 22) (Int32.toNatClampNeg p1) (Int32.toNatClampNeg p2))) from by intro j h1 h2; omega)
