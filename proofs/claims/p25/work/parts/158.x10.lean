abbrev QF_listedAs (g : Nat → Int32) (F : Nat → Nat → Int32) (p0 : Int32) (es : List (Wd × Option Wd)) (W : Wd) : (Int32) → Prop := (fun t => ((t.toInt = -1 → lkE es W = none)) ∧ ((t.toInt ≠ -1 → 40 * p0.toInt ≤ t.toInt ∧ t.toInt < 40 * p0.toInt + ((F 13) (Int32.toNatClampNeg p0)).toInt ∧ ∃ e, es[Int32.toNatClampNeg t - 40 * Int32.toNatClampNeg p0]? = some e ∧ e.1 = W ∧ lkE es W = some e.2)))
set_option maxHeartbeats 4000000 in
set_option maxRecDepth 100000 in
theorem fn_listedAs (g : Nat → Int32) (F : Nat → Nat → Int32) (p0 : Int32) (es : List (Wd × Option Wd)) (W : Wd) (hI : MInv g F) (hp0 : (0 ≤ p0.toInt ∧ p0.toInt ≤ 6)) (hes : entR ((F 13) (Int32.toNatClampNeg p0)) (F 20) (F 21) (80 * Int32.toNatClampNeg p0) = es) (hW : wdl (F 22) 0 (Int32.toNatClampNeg (g 23)) = W) (hne : ∀ e, e ∈ es → e.1 ≠ []) : pw (f_listedAs g F p0) (QF_listedAs g F p0 es W) := by
  unfold f_listedAs
  have hI9 : id (MInv g F) := hI
  obtain ⟨-, -, -, -, -, -, -, -, -, hzg23, -, -, -, -, -, -, -, -, -, -, -, -, -, -, -, hzF11, hzF12, hzF13, hzF15, hzF19, hzF21, hzF24, hzF25, hzF26, hzF33, hzF38, hzF41, hzF43, hzF45, hzF46, hzF50, hzF53, hzF54, hzLQ⟩ := hI
  have zkm1 : (-1 : Int32).toInt = -1 := by decide +kernel
  have zk0 : (0 : Int32).toInt = 0 := by decide +kernel
  have zk2 : (2 : Int32).toInt = 2 := by decide +kernel
  have zk32 : (32 : Int32).toInt = 32 := by decide +kernel
  have zk40 : (40 : Int32).toInt = 40 := by decide +kernel
  have cp0 := clampI (x := p0) (by omega)
  have hb23 := hzg23
  have c23 := clampI (x := g 23) (by omega)
  have c13 := hzF13 (Int32.toNatClampNeg p0)
  have c13n := clampI (x := (F 13) (Int32.toNatClampNeg p0)) (by omega)
  have hel : es.length = Int32.toNatClampNeg ((F 13) (Int32.toNatClampNeg p0)) := by rw [← hes]; exact tab_len
  have f1 : (40 * p0).toInt = 40 * p0.toInt := z_muld (by decide +kernel) (by omega) (by omega)
  refine pw_vl (fun x4 ex4 => ?_)
  have f2 : x4.toInt = (40 * p0).toInt := congrArg Int32.toInt ex4
  have lp5 : ∀ (n5 : Nat) (y5_2 : Int32), (40 * p0.toInt ≤ y5_2.toInt ∧ y5_2.toInt ≤ 40 * p0.toInt + 40) → y5_2.toInt ≤ 40 * p0.toInt + ((F 13) (Int32.toNatClampNeg p0)).toInt → (∀ j x, (j : Nat) + 40 * Int32.toNatClampNeg p0 < Int32.toNatClampNeg y5_2 → es[j]? = some x → x.1 ≠ W) → pw (L_listedAs_5 g F p0 n5 y5_2) (QF_listedAs g F p0 es W) := by
    intro n5
    induction n5 with
    | zero => intros; exact pw_none
    | succ n5 ih5 =>
      intro y5_2 f3 f4 in5
      show pw (B_listedAs_5 g F p0 (L_listedAs_5 g F p0 n5) y5_2) _
      unfold B_listedAs_5
      have k2 := clampI (x := y5_2) (by omega)
      refine pw_if (fun hb15 => ?_)
      obtain ⟨hbl15, hbr15⟩ := hb15
      have f6 := hzF13 (Int32.toNatClampNeg p0)
      have f7 : ((40 * p0) + ((F 13) (Int32.toNatClampNeg p0))).toInt = (40 * p0).toInt + ((F 13) (Int32.toNatClampNeg p0)).toInt := z_add (by omega) (by omega)
      refine pw_ite (fun c17 => ?_) (fun c17 => ?_)
      · have c17 := (z_le _ _).mp c17
        have qq0 : ((-1 : Int32).toInt = -1 → lkE es W = none) := by intro _; refine lkE_none (fun e he q => ?_); obtain ⟨j, hj⟩ := List.getElem?_of_mem he; have hjl := get_lt hj; exact in5 j e (by omega) hj q
        have qq1 : ((-1 : Int32).toInt ≠ -1 → 40 * p0.toInt ≤ (-1 : Int32).toInt ∧ (-1 : Int32).toInt < 40 * p0.toInt + ((F 13) (Int32.toNatClampNeg p0)).toInt ∧ ∃ e, es[Int32.toNatClampNeg (-1 : Int32) - 40 * Int32.toNatClampNeg p0]? = some e ∧ e.1 = W ∧ lkE es W = some e.2) := by intro h; omega
        exact pw_some ⟨qq0, qq1⟩
      · have c17 := z_nle c17
        have hek : es[(Int32.toNatClampNeg y5_2 - 40 * Int32.toNatClampNeg p0)]? = some (WR (F 20) (F 21) (80 * Int32.toNatClampNeg p0 + 2 * (Int32.toNatClampNeg y5_2 - 40 * Int32.toNatClampNeg p0)), if ((F 21) (80 * Int32.toNatClampNeg p0 + 2 * (Int32.toNatClampNeg y5_2 - 40 * Int32.toNatClampNeg p0) + 1)).toInt = -1 then none else some (WR (F 20) (F 21) (80 * Int32.toNatClampNeg p0 + 2 * (Int32.toNatClampNeg y5_2 - 40 * Int32.toNatClampNeg p0) + 1))) := by rw [← hes]; unfold entR; rw [tab_get (by omega)]
        have hpo := wr_pos (hne _ (List.mem_of_getElem? hek))
        have f2y : (2 * y5_2).toInt = 2 * y5_2.toInt := z_muld (by decide +kernel) (by omega) (by omega)
        have ki := clampI (x := 2 * y5_2) (by omega)
        rw [show 80 * Int32.toNatClampNeg p0 + 2 * (Int32.toNatClampNeg y5_2 - 40 * Int32.toNatClampNeg p0) = Int32.toNatClampNeg (2 * y5_2) by omega] at hpo
        have f8 : (32 * y5_2).toInt = 32 * y5_2.toInt := z_muld (by decide +kernel) (by omega) (by omega)
        have f9 : (2 * y5_2).toInt = 2 * y5_2.toInt := z_muld (by decide +kernel) (by omega) (by omega)
        refine pw_if (fun hb35 => ?_)
        obtain ⟨hbl35, hbr35⟩ := hb35
        have f10 := hzF21 (Int32.toNatClampNeg (2 * y5_2))
        have hpr45_0 : (0 ≤ (32 * y5_2).toInt ∧ (32 * y5_2).toInt + ((F 21) (Int32.toNatClampNeg (2 * y5_2))).toInt ≤ 8960) := by first | assumption | omega
        have hpr45_1 : 8960 ≤ 500000 := by first | assumption | omega
        have hpr45_2 : (0 ≤ (0 : Int32).toInt ∧ (0 : Int32).toInt + (g 23).toInt ≤ 24) := by first | assumption | omega
        have hpr45_3 : 24 ≤ 500000 := by first | assumption | omega
        refine pw_b1 (fun r45 hc45 => ?_)
        have hq45 := wp_at (ok_sameBytes (F 20) 8960 (32 * y5_2) ((F 21) (Int32.toNatClampNeg (2 * y5_2))) (F 22) 24 (0 : Int32) (g 23) hpr45_0 hpr45_1 hpr45_2 hpr45_3) hc45
        have f11 : (0 ≤ r45.toInt ∧ r45.toInt ≤ 1) := hq45
        clear hq45
        have h845_h02 : 0 ≤ ((F 21) (Int32.toNatClampNeg (2 * y5_2))).toInt := by omega
        have h845_h05 : 0 ≤ (g 23).toInt := by omega
        have hx45 := pwq (fn_sameBytes (F 20) 8960 (32 * y5_2) ((F 21) (Int32.toNatClampNeg (2 * y5_2))) (F 22) 24 (0 : Int32) (g 23) hpr45_0 hpr45_1 hpr45_2 hpr45_3 h845_h02 h845_h05) hc45
        obtain ⟨p45_0, p45_1⟩ : (id ((r45.toInt ≠ 0 → wdl (F 20) (Int32.toNatClampNeg (32 * y5_2)) (Int32.toNatClampNeg ((F 21) (Int32.toNatClampNeg (2 * y5_2)))) = wdl (F 22) (Int32.toNatClampNeg (0 : Int32)) (Int32.toNatClampNeg (g 23))))) ∧ (id ((r45.toInt = 0 → wdl (F 20) (Int32.toNatClampNeg (32 * y5_2)) (Int32.toNatClampNeg ((F 21) (Int32.toNatClampNeg (2 * y5_2)))) ≠ wdl (F 22) (Int32.toNatClampNeg (0 : Int32)) (Int32.toNatClampNeg (g 23))))) := hx45
        have kj := clampI (x := 32 * y5_2) (by omega)
        have hwr : wdl (F 20) (Int32.toNatClampNeg (32 * y5_2)) (Int32.toNatClampNeg ((F 21) (Int32.toNatClampNeg (2 * y5_2)))) = WR (F 20) (F 21) (80 * Int32.toNatClampNeg p0 + 2 * (Int32.toNatClampNeg y5_2 - 40 * Int32.toNatClampNeg p0)) := by rw [show 80 * Int32.toNatClampNeg p0 + 2 * (Int32.toNatClampNeg y5_2 - 40 * Int32.toNatClampNeg p0) = Int32.toNatClampNeg (2 * y5_2) by omega]; unfold WR; rw [show 16 * Int32.toNatClampNeg (2 * y5_2) = Int32.toNatClampNeg (32 * y5_2) by omega]
        rw [hwr, show Int32.toNatClampNeg (0 : Int32) = 0 from rfl, hW] at p45_0 p45_1
        refine pw_ite (fun c48 => ?_) (fun c48 => ?_)
        · have c48 := congrArg Int32.toInt c48
          have f12 : (y5_2 + 1).toInt = y5_2.toInt + (1) := z_addc (by decide +kernel) (by omega) (by omega)
          have iv5_0 : (40 * p0.toInt ≤ (y5_2 + 1).toInt ∧ (y5_2 + 1).toInt ≤ 40 * p0.toInt + 40) := by omega
          have iv5_1 : (y5_2 + 1).toInt ≤ 40 * p0.toInt + ((F 13) (Int32.toNatClampNeg p0)).toInt := by omega
          have iv5_2 : (∀ j x, (j : Nat) + 40 * Int32.toNatClampNeg p0 < Int32.toNatClampNeg (y5_2 + 1) → es[j]? = some x → x.1 ≠ W) := by have k3 := clampI (x := y5_2 + 1) (by omega); intro j x hj hx; by_cases q : j = (Int32.toNatClampNeg y5_2 - 40 * Int32.toNatClampNeg p0); (subst q; rw [hek] at hx; cases hx; exact p45_1 (by omega)); (exact in5 j x (by omega) hx)
          exact ih5 (y5_2 + 1) iv5_0 iv5_1 iv5_2
        · have c48 := z_ne c48
          have qq0 : (y5_2.toInt = -1 → lkE es W = none) := by intro h; omega
          have qq1 : (y5_2.toInt ≠ -1 → 40 * p0.toInt ≤ y5_2.toInt ∧ y5_2.toInt < 40 * p0.toInt + ((F 13) (Int32.toNatClampNeg p0)).toInt ∧ ∃ e, es[Int32.toNatClampNeg y5_2 - 40 * Int32.toNatClampNeg p0]? = some e ∧ e.1 = W ∧ lkE es W = some e.2) := by intro _; exact ⟨by omega, by omega, _, hek, p45_0 (by omega), lkE_some hek (p45_0 (by omega)) (fun j x hj hx => in5 j x (by omega) hx)⟩
          exact pw_some ⟨qq0, qq1⟩
  exact lp5 NN x4 (show (40 * p0.toInt ≤ x4.toInt ∧ x4.toInt ≤ 40 * p0.toInt + 40) from by omega) (show x4.toInt ≤ 40 * p0.toInt + ((F 13) (Int32.toNatClampNeg p0)).toInt from by omega) (show (∀ j x, (j : Nat) + 40 * Int32.toNatClampNeg p0 < Int32.toNatClampNeg x4 → es[j]? = some x → x.1 ≠ W) from by have k3 := clampI (x := x4) (by omega); intro j x hj hx; omega)
abbrev QF_readWord (g : Nat → Int32) (F : Nat → Nat → Int32) : (Int32 × Int32 × Int32 × (Nat → Int32)) → Prop := (fun t => (((t.1).toInt ≠ 0 → isw (F 0) (g 1).toInt ∧ (t.2.2.1).toInt = (g 1).toInt ∧ wdl (t.2.2.2) 0 (Int32.toNatClampNeg (t.2.2.1)) = wdl (F 0) 0 (Int32.toNatClampNeg (g 1)))) ∧ (((t.1).toInt = 0 → ¬ isw (F 0) (g 1).toInt)))
set_option maxHeartbeats 4000000 in
set_option maxRecDepth 100000 in
theorem fn_readWord (g : Nat → Int32) (F : Nat → Nat → Int32) (hI : MInv g F) (hfit : ∀ i, fits .byte (.int ((F 0) i)) = true) : pw (f_readWord g F) (QF_readWord g F) := by
  intro x hx
  have h := wp_at (fx_readWord g F hI) hx
  have h9 := h.2.2.2.2.2
  rcases h9 with ⟨h1, h2, h3, h4⟩ | ⟨h1, h2⟩
  · refine ⟨fun _ => ⟨h2, h3, ?_⟩, fun q => absurd q (by omega)⟩
    have e1 := h2.1
    have e2 := clampI (x := x.2.2.1) (by omega)
    have e3 := clampI (x := g 1) (by omega)
    rw [show Int32.toNatClampNeg x.2.2.1 = Int32.toNatClampNeg (g 1) by omega]
    exact wdl_ext (fun j hj => by rw [Nat.zero_add, h4 j (by omega), fit_id (hfit _)])
  · exact ⟨fun q => absurd h1 q, fun _ => h2⟩
