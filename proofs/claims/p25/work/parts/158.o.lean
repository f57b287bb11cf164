abbrev QF_reform (g : Nat → Int32) (F : Nat → Nat → Int32) (p0 : Int32) (f : Nat → Int32) (n : Nat) (ld : Int) : (Int32 × Int32 × Int32 × Int32 × Int32 × Int32 × Int32 × Int32 × Int32 × Int32 × Int32 × (Nat → Int32) × (Nat → Int32) × (Nat → Int32) × (Nat → Int32) × (Nat → Int32) × (Nat → Int32) × (Nat → Int32) × (Nat → Int32) × (Nat → Int32) × (Nat → Int32) × (Nat → Int32) × (Nat → Int32)) → Prop := (fun t => ((p0.toInt ≤ ld ∨ 100000 < p0.toInt → (t.1).toInt = -2 ∧ (t.2.2.2.2.2.2.2.2.2.1).toInt = (g 9).toInt ∧ (t.2.2.2.2.2.2.2.1).toInt = (g 7).toInt ∧ (t.2.2.2.2.2.2.2.2.1).toInt = (g 8).toInt)) ∧ ((ld < p0.toInt ∧ p0.toInt ≤ 100000 → ∀ x, (parF f n (n + 1) 0 ([], [], [])).1 = some x → (t.1).toInt = -1 ∧ (t.2.2.2.2.2.2.2.2.2.1).toInt = (g 9).toInt ∧ ERR (some x) (t.2.2.2.2.2.2.2.1) (t.2.2.2.2.2.2.2.2.1))) ∧ ((ld < p0.toInt ∧ p0.toInt ≤ 100000 → (parF f n (n + 1) 0 ([], [], [])).1 = none → (g 9).toInt = 6 → (t.1).toInt = -3 ∧ (t.2.2.2.2.2.2.2.2.2.1).toInt = (g 9).toInt ∧ (t.2.2.2.2.2.2.2.1).toInt = 0 ∧ (t.2.2.2.2.2.2.2.2.1).toInt = -1)) ∧ ((ld < p0.toInt ∧ p0.toInt ≤ 100000 → (parF f n (n + 1) 0 ([], [], [])).1 = none → (g 9).toInt < 6 → (t.1).toInt = (g 9).toInt ∧ (t.2.2.2.2.2.2.2.2.2.1).toInt = (g 9).toInt + 1 ∧ (t.2.2.2.2.2.2.2.1).toInt = 0 ∧ (t.2.2.2.2.2.2.2.2.1).toInt = -1 ∧ (t.2.2.2.2.2.2.2.2.2.2.2.1) (Int32.toNatClampNeg (g 9)) = p0 ∧ (entR ((t.2.2.2.2.2.2.2.2.2.2.2.2.2.2.1) (Int32.toNatClampNeg (g 9))) (t.2.2.2.2.2.2.2.2.2.2.2.2.2.2.2.2.2.2.2.2.2.1) (t.2.2.2.2.2.2.2.2.2.2.2.2.2.2.2.2.2.2.2.2.2.2) (80 * (Int32.toNatClampNeg (g 9))), prtR ((t.2.2.2.2.2.2.2.2.2.2.2.2.2.1) (Int32.toNatClampNeg (g 9))) (t.2.2.2.2.2.2.2.2.2.2.2.2.2.2.2.2.2.2.2.1) (t.2.2.2.2.2.2.2.2.2.2.2.2.2.2.2.2.2.2.2.2.1) (40 * (Int32.toNatClampNeg (g 9))), lwsR ((t.2.2.2.2.2.2.2.2.2.2.2.2.1) (Int32.toNatClampNeg (g 9))) (t.2.2.2.2.2.2.2.2.2.2.2.2.2.2.2.1) (t.2.2.2.2.2.2.2.2.2.2.2.2.2.2.2.2.1) (t.2.2.2.2.2.2.2.2.2.2.2.2.2.2.2.2.2.1) (t.2.2.2.2.2.2.2.2.2.2.2.2.2.2.2.2.2.2.1) (40 * (Int32.toNatClampNeg (g 9)))) = (parF f n (n + 1) 0 ([], [], [])).2)) ∧ ((∀ q, q < (Int32.toNatClampNeg (g 9)) → (t.2.2.2.2.2.2.2.2.2.2.2.1) q = (F 10) q ∧ (entR ((t.2.2.2.2.2.2.2.2.2.2.2.2.2.2.1) q) (t.2.2.2.2.2.2.2.2.2.2.2.2.2.2.2.2.2.2.2.2.2.1) (t.2.2.2.2.2.2.2.2.2.2.2.2.2.2.2.2.2.2.2.2.2.2) (80 * q), prtR ((t.2.2.2.2.2.2.2.2.2.2.2.2.2.1) q) (t.2.2.2.2.2.2.2.2.2.2.2.2.2.2.2.2.2.2.2.1) (t.2.2.2.2.2.2.2.2.2.2.2.2.2.2.2.2.2.2.2.2.1) (40 * q), lwsR ((t.2.2.2.2.2.2.2.2.2.2.2.2.1) q) (t.2.2.2.2.2.2.2.2.2.2.2.2.2.2.2.1) (t.2.2.2.2.2.2.2.2.2.2.2.2.2.2.2.2.1) (t.2.2.2.2.2.2.2.2.2.2.2.2.2.2.2.2.2.1) (t.2.2.2.2.2.2.2.2.2.2.2.2.2.2.2.2.2.2.1) (40 * q)) = (entR ((F 13) q) (F 20) (F 21) (80 * q), prtR ((F 12) q) (F 18) (F 19) (40 * q), lwsR ((F 11) q) (F 14) (F 15) (F 16) (F 17) (40 * q)))) ∧ ((((t.2.2.2.2.2.2.2.2.2.1).toInt = (g 9).toInt → (t.2.2.2.2.2.2.2.2.2.2.1) = (g 51)) ∧ ((t.2.2.2.2.2.2.2.2.2.1).toInt = (g 9).toInt + 1 → (t.2.2.2.2.2.2.2.2.2.2.1).toInt = 0))))
set_option maxHeartbeats 40000000 in
set_option maxRecDepth 100000 in
theorem fn_reform (g : Nat → Int32) (F : Nat → Nat → Int32) (p0 : Int32) (f : Nat → Int32) (n : Nat) (ld : Int) (hI : MInv g F) (hf : (F 0) = f) (hn : Int32.toNatClampNeg (g 1) = n) (hld : ((g 9).toInt = 0 ∧ ld = -1) ∨ (1 ≤ (g 9).toInt ∧ ((F 10) ((Int32.toNatClampNeg (g 9)) - 1)).toInt = ld)) (hlb : -1 ≤ ld ∧ ld ≤ 100000) (hfit : ∀ i, fits .byte (.int (f i)) = true) : pw (f_reform g F p0) (QF_reform g F p0 f n ld) := by
  unfold f_reform
  have hI9 : id (MInv g F) := hI
  obtain ⟨hzg1, -, -, -, -, -, hzg7, hzg8, hzg9, -, -, -, -, -, -, -, -, -, hzg51, -, -, -, -, -, -, hzF11, hzF12, hzF13, hzF15, hzF19, hzF21, hzF24, hzF25, hzF26, hzF33, hzF38, hzF41, hzF43, hzF45, hzF46, hzF50, hzF53, hzF54, hzLQ⟩ := hI
  have zkm3 : (-3 : Int32).toInt = -3 := by decide +kernel
  have zkm2 : (-2 : Int32).toInt = -2 := by decide +kernel
  have zkm1 : (-1 : Int32).toInt = -1 := by decide +kernel
  have zk0 : (0 : Int32).toInt = 0 := by decide +kernel
  have zk1 : (1 : Int32).toInt = 1 := by decide +kernel
  have zk2 : (2 : Int32).toInt = 2 := by decide +kernel
  have zk4 : (4 : Int32).toInt = 4 := by decide +kernel
  have zk6 : (6 : Int32).toInt = 6 := by decide +kernel
  have zk40 : (40 : Int32).toInt = 40 := by decide +kernel
  have zk80 : (80 : Int32).toInt = 80 := by decide +kernel
  have zk160 : (160 : Int32).toInt = 160 := by decide +kernel
  have zk240 : (240 : Int32).toInt = 240 := by decide +kernel
  have zk480 : (480 : Int32).toInt = 480 := by decide +kernel
  have zk960 : (960 : Int32).toInt = 960 := by decide +kernel
  have zk100000 : (100000 : Int32).toInt = 100000 := by decide +kernel
  have e6 : Int32.toNatClampNeg (6 : Int32) = 6 := by decide
  have c9 := clampI (x := (g 9)) (by omega)
  have c1 := clampI (x := (g 1)) (by omega)
  have hg1 : ((0) ≤ (g 1).toInt ∧ (g 1).toInt ≤ 2000) := ⟨by omega, by omega⟩
  have hg2 : ((0) ≤ (0 : Int32).toInt ∧ (0 : Int32).toInt ≤ 2000) := ⟨by omega, by omega⟩
  refine pw_jE (fun j38 ej38 => ?_)
  refine pw_ite (fun c18 => ?_) (fun c18 => ?_)
  · have c18 := congrArg Int32.toInt c18
    refine pw_j1 ej38 (fun t38_0 et38_0 => ?_)
    have et38_0 := et38_0.symm
    have f_t38_0 : t38_0.toInt = 0 := by rw [et38_0]; decide +kernel
    have hlo : t38_0.toInt = ld + 1 := by first | (rcases hld with ⟨h1, h2⟩ | ⟨h1, h2⟩ <;> omega) | (rcases hld with ⟨h1, h2⟩ | ⟨h1, h2⟩; (exfalso; omega); (have c8 := clampI (x := (g 9) - 1) (by omega); rw [et38_0, z_addc (n := 1) (by decide) (by rw [show Int32.toNatClampNeg ((g 9) - 1) = Int32.toNatClampNeg (g 9) - 1 by omega]; omega) (by rw [show Int32.toNatClampNeg ((g 9) - 1) = Int32.toNatClampNeg (g 9) - 1 by omega]; omega), show Int32.toNatClampNeg ((g 9) - 1) = Int32.toNatClampNeg (g 9) - 1 by omega]; omega))
    refine pw_b1 (fun r40 hc40 => ?_)
    have hq40 := wp_at (ok_in p0 t38_0 (100000 : Int32) ) hc40
    obtain ⟨f3, f4, f5⟩ : ((r40.toInt = 1 → t38_0.toInt ≤ p0.toInt ∧ p0.toInt ≤ (100000 : Int32).toInt)) ∧ ((r40.toInt = 0 → p0.toInt < t38_0.toInt ∨ (100000 : Int32).toInt < p0.toInt)) ∧ ((0 ≤ r40.toInt ∧ r40.toInt ≤ 1)) := hq40
    refine pw_ite (fun c43 => ?_) (fun c43 => ?_)
    · have c43 := congrArg Int32.toInt c43
      have qq0 : (p0.toInt ≤ ld ∨ 100000 < p0.toInt → (-2 : Int32).toInt = -2 ∧ (g 9).toInt = (g 9).toInt ∧ (g 7).toInt = (g 7).toInt ∧ (g 8).toInt = (g 8).toInt) := by intro _; omega
      have qq1 : (ld < p0.toInt ∧ p0.toInt ≤ 100000 → ∀ x, (parF f n (n + 1) 0 ([], [], [])).1 = some x → (-2 : Int32).toInt = -1 ∧ (g 9).toInt = (g 9).toInt ∧ ERR (some x) (g 7) (g 8)) := by intro h; exfalso; omega
      have qq2 : (ld < p0.toInt ∧ p0.toInt ≤ 100000 → (parF f n (n + 1) 0 ([], [], [])).1 = none → (g 9).toInt = 6 → (-2 : Int32).toInt = -3 ∧ (g 9).toInt = (g 9).toInt ∧ (g 7).toInt = 0 ∧ (g 8).toInt = -1) := by intro h; exfalso; omega
      have qq3 : (ld < p0.toInt ∧ p0.toInt ≤ 100000 → (parF f n (n + 1) 0 ([], [], [])).1 = none → (g 9).toInt < 6 → (-2 : Int32).toInt = (g 9).toInt ∧ (g 9).toInt = (g 9).toInt + 1 ∧ (g 7).toInt = 0 ∧ (g 8).toInt = -1 ∧ (F 10) (Int32.toNatClampNeg (g 9)) = p0 ∧ (entR ((F 13) (Int32.toNatClampNeg (g 9))) (F 20) (F 21) (80 * (Int32.toNatClampNeg (g 9))), prtR ((F 12) (Int32.toNatClampNeg (g 9))) (F 18) (F 19) (40 * (Int32.toNatClampNeg (g 9))), lwsR ((F 11) (Int32.toNatClampNeg (g 9))) (F 14) (F 15) (F 16) (F 17) (40 * (Int32.toNatClampNeg (g 9)))) = (parF f n (n + 1) 0 ([], [], [])).2) := by intro h; exfalso; omega
      have qq4 : (∀ q, q < (Int32.toNatClampNeg (g 9)) → (F 10) q = (F 10) q ∧ (entR ((F 13) q) (F 20) (F 21) (80 * q), prtR ((F 12) q) (F 18) (F 19) (40 * q), lwsR ((F 11) q) (F 14) (F 15) (F 16) (F 17) (40 * q)) = (entR ((F 13) q) (F 20) (F 21) (80 * q), prtR ((F 12) q) (F 18) (F 19) (40 * q), lwsR ((F 11) q) (F 14) (F 15) (F 16) (F 17) (40 * q))) := by exact fun q hq => ⟨rfl, rfl⟩
      have qq5 : (((g 9).toInt = (g 9).toInt → (g 51) = (g 51)) ∧ ((g 9).toInt = (g 9).toInt + 1 → (g 51).toInt = 0)) := by exact ⟨fun _ => rfl, fun h => by omega⟩
      exact pw_some ⟨qq0, qq1, qq2, qq3, qq4, qq5⟩
    · have c43 := z_ne c43
      have hg6 : ((0) ≤ (0 : Int32).toInt ∧ (0 : Int32).toInt ≤ 4) := ⟨by omega, by omega⟩
      have hg7 : ((-1) ≤ (-1 : Int32).toInt ∧ (-1 : Int32).toInt ≤ 2001) := ⟨by omega, by omega⟩
      refine pw_if (fun hb66 => ?_)
      obtain ⟨hbl66, hbr66⟩ := hb66
      refine pw_vl (fun w66 ew66 => ?_)
      have hF8 : rng (0) 40 w66 := by rw [ew66]; exact rng_upd hzF11 (by omega) (by omega)
      rw [e6] at ew66
      have hLQ9 : LQ w66 (F 15) (g 9) := by
        exact lq_zero hzLQ ew66 (by decide +kernel)
      refine pw_if (fun hb74 => ?_)
      obtain ⟨hbl74, hbr74⟩ := hb74
      refine pw_vl (fun w74 ew74 => ?_)
      have hF10 : rng (0) 40 w74 := by rw [ew74]; exact rng_upd hzF12 (by omega) (by omega)
      rw [e6] at ew74
      refine pw_if (fun hb82 => ?_)
      obtain ⟨hbl82, hbr82⟩ := hb82
      refine pw_vl (fun w82 ew82 => ?_)
      have hF11 : rng (0) 40 w82 := by rw [ew82]; exact rng_upd hzF13 (by omega) (by omega)
      rw [e6] at ew82
      have hg12 : ((0) ≤ (0 : Int32).toInt ∧ (0 : Int32).toInt ≤ 2001) := ⟨by omega, by omega⟩
      have hMI89 : id (MInv (upd (upd (upd (upd (upd g 1 0) 2 (g 1)) 6 0) 7 0) 8 (-1)) (upF (upF (upF F 11 w66) 12 w74) 13 w82)) := show MInv (upd (upd (upd (upd (upd g 1 0) 2 (g 1)) 6 0) 7 0) 8 (-1)) (upF (upF (upF F 11 w66) 12 w74) 13 w82) from (MInv_i hg2 hg1 ((hI9.2.2.1)) ((hI9.2.2.2.1)) ((hI9.2.2.2.2.1)) hg12 hg6 hg7 hzg9 ((hI9.2.2.2.2.2.2.2.2.2.1)) ((hI9.2.2.2.2.2.2.2.2.2.2.1)) ((hI9.2.2.2.2.2.2.2.2.2.2.2.1)) ((hI9.2.2.2.2.2.2.2.2.2.2.2.2.1)) ((hI9.2.2.2.2.2.2.2.2.2.2.2.2.2.1)) ((hI9.2.2.2.2.2.2.2.2.2.2.2.2.2.2.1)) ((hI9.2.2.2.2.2.2.2.2.2.2.2.2.2.2.2.1)) ((hI9.2.2.2.2.2.2.2.2.2.2.2.2.2.2.2.2.1)) ((hI9.2.2.2.2.2.2.2.2.2.2.2.2.2.2.2.2.2.1)) hzg51 ((hI9.2.2.2.2.2.2.2.2.2.2.2.2.2.2.2.2.2.2.2.1)) ((hI9.2.2.2.2.2.2.2.2.2.2.2.2.2.2.2.2.2.2.2.2.1)) ((hI9.2.2.2.2.2.2.2.2.2.2.2.2.2.2.2.2.2.2.2.2.2.1)) ((hI9.2.2.2.2.2.2.2.2.2.2.2.2.2.2.2.2.2.2.2.2.2.2.1)) ((hI9.2.2.2.2.2.2.2.2.2.2.2.2.2.2.2.2.2.2.2.2.2.2.2.1)) ((hI9.2.2.2.2.2.2.2.2.2.2.2.2.2.2.2.2.2.2.2.2.2.2.2.2.1)) hF8 hF10 hF11 hzF15 hzF19 hzF21 hzF24 hzF25 hzF26 hzF33 hzF38 hzF41 hzF43 hzF45 hzF46 hzF50 hzF53 hzF54 hLQ9)
      refine pw_b4 (fun c89_g3 c89_g4 c89_g5 c89_g6 hc89 => ?_)
      have hq89 := wp_at (ok_scan (upd (upd (upd (upd (upd g 1 0) 2 (g 1)) 6 0) 7 0) 8 (-1)) (upF (upF (upF F 11 w66) 12 w74) 13 w82) hMI89) hc89
      obtain ⟨hg13, hg14, hg15, hg16, f17, f18, f19⟩ : (((0) ≤ c89_g3.toInt ∧ c89_g3.toInt ≤ 4)) ∧ (((-1) ≤ c89_g4.toInt ∧ c89_g4.toInt ≤ 8)) ∧ (((0) ≤ c89_g5.toInt ∧ c89_g5.toInt ≤ 2001)) ∧ (((0) ≤ c89_g6.toInt ∧ c89_g6.toInt ≤ 2001)) ∧ (id ((c89_g3.toInt = 2 → c89_g5.toInt + 2 ≤ c89_g6.toInt ∧ c89_g6.toInt ≤ c89_g5.toInt + 18 ∧ c89_g6.toInt ≤ 2000))) ∧ (id ((c89_g3.toInt ≠ 4 → (0 : Int32).toInt < c89_g6.toInt))) ∧ ((0 : Int32).toInt ≤ c89_g6.toInt) := hq89
      have h889_hf : (F 0) = f := by first | assumption | omega
      have h889_hn : Int32.toNatClampNeg (g 1) = n := by first | assumption | omega
      have h889_he : Int32.toNatClampNeg (0 : Int32) = (0) := by decide
      have h889_hfit : ∀ i, fits .byte (.int (f i)) = true := by first | assumption | omega
      have hx89 := pwq (fn_scan (upd (upd (upd (upd (upd g 1 0) 2 (g 1)) 6 0) 7 0) 8 (-1)) (upF (upF (upF F 11 w66) 12 w74) 13 w82) (f) (n) (0) hMI89 h889_hf h889_hn h889_he h889_hfit) hc89
      have p89_0 : TKS f n (0) c89_g3.toInt c89_g4.toInt c89_g5.toInt c89_g6.toInt := hx89
      clear hx89
      refine pw_jE (fun k109 ek109 => ?_)
      have lp92 : ∀ (n92 : Nat) (d92_g3 : Int32) (d92_g4 : Int32) (d92_g5 : Int32) (d92_g6 : Int32) (d92_g7 : Int32) (d92_g8 : Int32) (d92_F11 : (Nat → Int32)) (d92_F12 : (Nat → Int32)) (d92_F13 : (Nat → Int32)) (d92_F14 : (Nat → Int32)) (d92_F15 : (Nat → Int32)) (d92_F16 : (Nat → Int32)) (d92_F17 : (Nat → Int32)) (d92_F18 : (Nat → Int32)) (d92_F19 : (Nat → Int32)) (d92_F20 : (Nat → Int32)) (d92_F21 : (Nat → Int32)), ((0) ≤ d92_g3.toInt ∧ d92_g3.toInt ≤ 4) → ((-1) ≤ d92_g4.toInt ∧ d92_g4.toInt ≤ 8) → ((0) ≤ d92_g5.toInt ∧ d92_g5.toInt ≤ 2001) → ((0) ≤ d92_g6.toInt ∧ d92_g6.toInt ≤ 2001) → ((0) ≤ d92_g7.toInt ∧ d92_g7.toInt ≤ 4) → ((-1) ≤ d92_g8.toInt ∧ d92_g8.toInt ≤ 2001) → rng (0) 40 d92_F11 → rng (0) 40 d92_F12 → rng (0) 40 d92_F13 → rng (-1) 16 d92_F15 → rng (-1) 16 d92_F19 → rng (-1) 16 d92_F21 → LQ d92_F11 d92_F15 (g 9) → d92_g7.toInt = 0 → d92_g8.toInt = -1 → (∃ (k e1 : Nat) (d1 : Dr), parF f n (n + 1) 0 ([], [], []) = parF f n k e1 d1 ∧ n + 1 ≤ k + e1 ∧ e1 ≤ n ∧ TKS f n e1 d92_g3.toInt d92_g4.toInt d92_g5.toInt d92_g6.toInt ∧ (entR (d92_F13 6) d92_F20 d92_F21 480, prtR (d92_F12 6) d92_F18 d92_F19 240, lwsR (d92_F11 6) d92_F14 d92_F15 d92_F16 d92_F17 240) = d1 ∧ WFD d1) → ((∀ q, q < 480 → WR d92_F20 d92_F21 q = WR (F 20) (F 21) q ∧ d92_F21 q = (F 21) q) ∧ (∀ q, q ≠ 6 → d92_F13 q = (F 13) q)) → ((∀ q, q < 240 → WR d92_F18 d92_F19 q = WR (F 18) (F 19) q) ∧ (∀ q, q ≠ 6 → d92_F12 q = (F 12) q)) → ((∀ q, q < 960 → WR d92_F14 d92_F15 q = WR (F 14) (F 15) q) ∧ (∀ q, q < 240 → d92_F16 q = (F 16) q ∧ d92_F17 q = (F 17) q) ∧ (∀ q, q ≠ 6 → d92_F11 q = (F 11) q)) → pw (L_reform_92 g F k109 n92 d92_g3 d92_g4 d92_g5 d92_g6 d92_g7 d92_g8 d92_F11 d92_F12 d92_F13 d92_F14 d92_F15 d92_F16 d92_F17 d92_F18 d92_F19 d92_F20 d92_F21) (QF_reform g F p0 f n ld) := by
        intro n92
        induction n92 with
        | zero => intros; exact pw_none
        | succ n92 ih92 =>
          intro d92_g3 d92_g4 d92_g5 d92_g6 d92_g7 d92_g8 d92_F11 d92_F12 d92_F13 d92_F14 d92_F15 d92_F16 d92_F17 d92_F18 d92_F19 d92_F20 d92_F21 hg20 hg21 hg22 hg23 hg24 hg25 hg26 hg27 hg28 hg29 hg30 hg31 hLQ32 f33 f34 pf92 fl92 fp92 fw92
          show pw (B_reform_92 g F k109 (L_reform_92 g F k109 n92) d92_g3 d92_g4 d92_g5 d92_g6 d92_g7 d92_g8 d92_F11 d92_F12 d92_F13 d92_F14 d92_F15 d92_F16 d92_F17 d92_F18 d92_F19 d92_F20 d92_F21) _
          unfold B_reform_92
          refine pw_ite (fun c97 => ?_) (fun c97 => ?_)
          · have c97 := congrArg Int32.toInt c97
            refine pw_j17 ek109 (fun z109_1 ez109_1 z109_2 ez109_2 z109_3 ez109_3 z109_4 ez109_4 z109_5 ez109_5 z109_6 ez109_6 z109_7 ez109_7 z109_8 ez109_8 z109_9 ez109_9 z109_10 ez109_10 z109_11 ez109_11 z109_12 ez109_12 z109_13 ez109_13 z109_14 ez109_14 z109_15 ez109_15 z109_16 ez109_16 z109_17 ez109_17 => ?_)
            subst ez109_1 ez109_2 ez109_3 ez109_4 ez109_5 ez109_6 ez109_7 ez109_8 ez109_9 ez109_10 ez109_11 ez109_12 ez109_13 ez109_14 ez109_15 ez109_16 ez109_17
            obtain ⟨k, e1, d1, v1, v2, v3, v4, v5, v6⟩ := pf92
            have hR : parF f n (n + 1) 0 ([], [], []) = (none, d1) := by obtain ⟨k2, rfl⟩ : ∃ k2, k = k2 + 1 := ⟨k - 1, by omega⟩; rw [v1]; exact par_end (TKS_0 v4 (by omega))
            have hv1 : d1.1 = entR (d92_F13 6) d92_F20 d92_F21 480 := by rw [← v5]
            have hv2 : d1.2.1 = prtR (d92_F12 6) d92_F18 d92_F19 240 := by rw [← v5]
            have hv3 : d1.2.2 = lwsR (d92_F11 6) d92_F14 d92_F15 d92_F16 d92_F17 240 := by rw [← v5]
            refine pw_ite (fun c115 => ?_) (fun c115 => ?_)
            · have c115 := congrArg Int32.toInt c115
              have qq0 : (p0.toInt ≤ ld ∨ 100000 < p0.toInt → (-3 : Int32).toInt = -2 ∧ (g 9).toInt = (g 9).toInt ∧ d92_g7.toInt = (g 7).toInt ∧ d92_g8.toInt = (g 8).toInt) := by intro h; exfalso; omega
              have qq1 : (ld < p0.toInt ∧ p0.toInt ≤ 100000 → ∀ x, (parF f n (n + 1) 0 ([], [], [])).1 = some x → (-3 : Int32).toInt = -1 ∧ (g 9).toInt = (g 9).toInt ∧ ERR (some x) d92_g7 d92_g8) := by intro _ x hx; rw [hR] at hx; cases hx
              have qq2 : (ld < p0.toInt ∧ p0.toInt ≤ 100000 → (parF f n (n + 1) 0 ([], [], [])).1 = none → (g 9).toInt = 6 → (-3 : Int32).toInt = -3 ∧ (g 9).toInt = (g 9).toInt ∧ d92_g7.toInt = 0 ∧ d92_g8.toInt = -1) := by intro _ _ _; omega
              have qq3 : (ld < p0.toInt ∧ p0.toInt ≤ 100000 → (parF f n (n + 1) 0 ([], [], [])).1 = none → (g 9).toInt < 6 → (-3 : Int32).toInt = (g 9).toInt ∧ (g 9).toInt = (g 9).toInt + 1 ∧ d92_g7.toInt = 0 ∧ d92_g8.toInt = -1 ∧ (F 10) (Int32.toNatClampNeg (g 9)) = p0 ∧ (entR (d92_F13 (Int32.toNatClampNeg (g 9))) d92_F20 d92_F21 (80 * (Int32.toNatClampNeg (g 9))), prtR (d92_F12 (Int32.toNatClampNeg (g 9))) d92_F18 d92_F19 (40 * (Int32.toNatClampNeg (g 9))), lwsR (d92_F11 (Int32.toNatClampNeg (g 9))) d92_F14 d92_F15 d92_F16 d92_F17 (40 * (Int32.toNatClampNeg (g 9)))) = (parF f n (n + 1) 0 ([], [], [])).2) := by intro _ _ h; exfalso; omega
              have qq4 : (∀ q, q < (Int32.toNatClampNeg (g 9)) → (F 10) q = (F 10) q ∧ (entR (d92_F13 q) d92_F20 d92_F21 (80 * q), prtR (d92_F12 q) d92_F18 d92_F19 (40 * q), lwsR (d92_F11 q) d92_F14 d92_F15 d92_F16 d92_F17 (40 * q)) = (entR ((F 13) q) (F 20) (F 21) (80 * q), prtR ((F 12) q) (F 18) (F 19) (40 * q), lwsR ((F 11) q) (F 14) (F 15) (F 16) (F 17) (40 * q))) := by exact fun q hq => ⟨rfl, by rw [fl92.2 q (by omega), fp92.2 q (by omega), fw92.2.2 q (by omega)]; refine Prod.ext (ent_far (fun z h1 h2 => fl92.1 z (by have := hzF13 q; have := clampI (x := (F 13) q) (by omega); omega))) (Prod.ext (prt_far (fun z h1 h2 => fp92.1 z (by have := hzF12 q; have := clampI (x := (F 12) q) (by omega); omega))) (lws_far (fun z h1 h2 => fw92.1 z (by have := hzF11 q; have := clampI (x := (F 11) q) (by omega); omega)) (fun z h1 h2 => fw92.2.1 z (by have := hzF11 q; have := clampI (x := (F 11) q) (by omega); omega))))⟩
              have qq5 : (((g 9).toInt = (g 9).toInt → (g 51) = (g 51)) ∧ ((g 9).toInt = (g 9).toInt + 1 → (g 51).toInt = 0)) := by exact ⟨fun _ => rfl, fun h => by omega⟩
              exact pw_some ⟨qq0, qq1, qq2, qq3, qq4, qq5⟩
            · have c115 := z_ne c115
              have h8b := c115
              refine pw_if (fun hb132 => ?_)
              obtain ⟨hbl132, hbr132⟩ := hb132
              refine pw_vl (fun w132 ew132 => ?_)
              refine pw_if (fun hb144 => ?_)
              obtain ⟨hbl144, hbr144⟩ := hb144
              have f35 := hg26 (Int32.toNatClampNeg (6 : Int32))
              refine pw_if (fun hb145 => ?_)
              obtain ⟨hbl145, hbr145⟩ := hb145
              refine pw_vl (fun w145 ew145 => ?_)
              have hF36 : rng (0) 40 w145 := by rw [ew145]; exact rng_upd hg26 (by omega) (by omega)
              have hl9 : w145 (g 9).toInt.toNat = w145 6 := lw_same ew145 (by omega) (by omega)
              have hl9i : (w145 (Int32.toNatClampNeg (g 9))).toInt = (w145 6).toInt := congrArg Int32.toInt hl9
              have hl6 : 0 ≤ (w145 6).toInt ∧ (w145 6).toInt ≤ 40 := (by assumption : rng 0 40 w145) 6
              rw [e6] at ew145
              have hLQ37 : LQ w145 d92_F15 (g 9) := by
                exact lq_row hLQ32 ew145 (by omega) (by omega) (by omega)
              refine pw_if (fun hb157 => ?_)
              obtain ⟨hbl157, hbr157⟩ := hb157
              have f38 := hg27 (Int32.toNatClampNeg (6 : Int32))
              refine pw_if (fun hb158 => ?_)
              obtain ⟨hbl158, hbr158⟩ := hb158
              refine pw_vl (fun w158 ew158 => ?_)
              have hF39 : rng (0) 40 w158 := by rw [ew158]; exact rng_upd hg27 (by omega) (by omega)
              rw [e6] at ew158
              refine pw_if (fun hb170 => ?_)
              obtain ⟨hbl170, hbr170⟩ := hb170
              have f40 := hg28 (Int32.toNatClampNeg (6 : Int32))
              refine pw_if (fun hb171 => ?_)
              obtain ⟨hbl171, hbr171⟩ := hb171
              refine pw_vl (fun w171 ew171 => ?_)
              have hF41 : rng (0) 40 w171 := by rw [ew171]; exact rng_upd hg28 (by omega) (by omega)
              rw [e6] at ew171
              have hl12 : w158 (Int32.toNatClampNeg (g 9)) = d92_F12 6 := by rw [ew158, pk_us]
              have hl13 : w171 (Int32.toNatClampNeg (g 9)) = d92_F13 6 := by rw [ew171, pk_us]
              have hl11 : w145 (Int32.toNatClampNeg (g 9)) = d92_F11 6 := by rw [ew145, pk_us]
              have hb11 := (by assumption : rng 0 40 d92_F11) 6
              have hb12 := (by assumption : rng 0 40 d92_F12) 6
              have hb13 := (by assumption : rng 0 40 d92_F13) 6
              have ce11 := clampI (x := d92_F11 6) (by omega)
              have ce12 := clampI (x := d92_F12 6) (by omega)
              have ce13 := clampI (x := d92_F13 6) (by omega)
              have hw6 : w145 6 = d92_F11 6 := by rw [ew145]; exact pk_un (by omega)
              have hi11 := congrArg Int32.toInt hl11
              have hi12 := congrArg Int32.toInt hl12
              have hi13 := congrArg Int32.toInt hl13
              have hi6 := congrArg Int32.toInt hw6
              refine pw_jE (fun k215 ek215 => ?_)
              have lp174 : ∀ (n174 : Nat) (y174_3 : Int32) (d174_F14 : (Nat → Int32)) (d174_F15 : (Nat → Int32)), rng (-1) 16 d174_F15 → LQ w145 d174_F15 (g 9) → (0 ≤ y174_3.toInt ∧ y174_3.toInt ≤ 160) → y174_3.toInt ≤ 4 * (w145 6).toInt → (∀ t : Nat, (t : Int) < y174_3.toInt → d174_F15 (160 * (g 9).toInt.toNat + t) = d174_F15 (960 + t)) → (CPI d174_F14 d174_F15 d92_F14 d92_F15 960 (160 * (Int32.toNatClampNeg (g 9))) 160 (Int32.toNatClampNeg y174_3)) → pw (L_reform_174 g w145 k215 n174 y174_3 d174_F14 d174_F15) (QF_reform g F p0 f n ld) := by
                intro n174
                induction n174 with
                | zero => intros; exact pw_none
                | succ n174 ih174 =>
                  intro y174_3 d174_F14 d174_F15 hg42 hLQ43 f44 f45 f46 cw174
                  show pw (B_reform_174 g w145 k215 (L_reform_174 g w145 k215 n174) y174_3 d174_F14 d174_F15) _
                  unfold B_reform_174
                  have hcp174 : (∀ t : Nat, (t : Int) < y174_3.toInt → d174_F15 (160 * (g 9).toInt.toNat + t) = d174_F15 (960 + t)) := by assumption
                  have c3 := clampI (x := y174_3) (by omega)
                  refine pw_if (fun hb181 => ?_)
                  obtain ⟨hbl181, hbr181⟩ := hb181
                  have f47 := hF36 (Int32.toNatClampNeg (g 9))
                  have f48 : (4 * (w145 (Int32.toNatClampNeg (g 9)))).toInt = 4 * (w145 (Int32.toNatClampNeg (g 9))).toInt := z_muld (by decide +kernel) (by omega) (by omega)
                  refine pw_ite (fun c183 => ?_) (fun c183 => ?_)
                  · have c183 := (z_le _ _).mp c183
                    refine pw_j2 ek215 (fun z215_1 ez215_1 z215_2 ez215_2 => ?_)
                    subst ez215_1 ez215_2
                    have h215 : ∀ t : Nat, (t : Int) < 4 * (w145 6).toInt → d174_F15 (160 * (g 9).toInt.toNat + t) = d174_F15 (960 + t) := fun t ht => hcp174 t (by omega)
                    have hcw := cw174
                    have hk4 : 4 * Int32.toNatClampNeg (d92_F11 6) ≤ Int32.toNatClampNeg y174_3 := by omega
                    refine pw_jE (fun k275 ek275 => ?_)
                    have lp217 : ∀ (n217 : Nat) (y217_3 : Int32) (d217_F16 : (Nat → Int32)) (d217_F17 : (Nat → Int32)), (0 ≤ y217_3.toInt ∧ y217_3.toInt ≤ 40) → y217_3.toInt ≤ (d92_F11 6).toInt → (∀ q, q < Int32.toNatClampNeg y217_3 → d217_F16 (40 * (Int32.toNatClampNeg (g 9)) + q) = d92_F16 (240 + q) ∧ d217_F17 (40 * (Int32.toNatClampNeg (g 9)) + q) = d92_F17 (240 + q)) → (∀ q, (q < 40 * (Int32.toNatClampNeg (g 9)) ∨ 40 * (Int32.toNatClampNeg (g 9)) + 40 ≤ q) → d217_F16 q = d92_F16 q ∧ d217_F17 q = d92_F17 q) → pw (L_reform_217 g w145 k275 n217 y217_3 d217_F16 d217_F17) (QF_reform g F p0 f n ld) := by
                      intro n217
                      induction n217 with
                      | zero => intros; exact pw_none
                      | succ n217 ih217 =>
                        intro y217_3 d217_F16 d217_F17 f49 f50 f1217 f2217
                        show pw (B_reform_217 g w145 k275 (L_reform_217 g w145 k275 n217) y217_3 d217_F16 d217_F17) _
                        unfold B_reform_217
                        have c3 := clampI (x := y217_3) (by omega)
                        refine pw_if (fun hb223 => ?_)
                        obtain ⟨hbl223, hbr223⟩ := hb223
                        refine pw_ite (fun c224 => ?_) (fun c224 => ?_)
                        · have c224 := (z_le _ _).mp c224
                          refine pw_j2 ek275 (fun z275_1 ez275_1 z275_2 ez275_2 => ?_)
                          subst ez275_1 ez275_2
                          have hf1 := f1217
                          have hf2 := f2217
                          have hk1 : Int32.toNatClampNeg (d92_F11 6) ≤ Int32.toNatClampNeg y217_3 := by omega
                          refine pw_jE (fun k315 ek315 => ?_)
                          have lp277 : ∀ (n277 : Nat) (y277_3 : Int32) (d277_F18 : (Nat → Int32)) (d277_F19 : (Nat → Int32)), rng (-1) 16 d277_F19 → (0 ≤ y277_3.toInt ∧ y277_3.toInt ≤ 40) → y277_3.toInt ≤ (d92_F12 6).toInt → (CPI d277_F18 d277_F19 d92_F18 d92_F19 240 (40 * (Int32.toNatClampNeg (g 9))) 40 (Int32.toNatClampNeg y277_3)) → pw (L_reform_277 g w158 k315 n277 y277_3 d277_F18 d277_F19) (QF_reform g F p0 f n ld) := by
                            intro n277
                            induction n277 with
                            | zero => intros; exact pw_none
                            | succ n277 ih277 =>
                              intro y277_3 d277_F18 d277_F19 hg52 f53 f54 c277277
                              show pw (B_reform_277 g w158 k315 (L_reform_277 g w158 k315 n277) y277_3 d277_F18 d277_F19) _
                              unfold B_reform_277
                              have c3 := clampI (x := y277_3) (by omega)
                              refine pw_if (fun hb283 => ?_)
                              obtain ⟨hbl283, hbr283⟩ := hb283
                              have f55 := hF39 (Int32.toNatClampNeg (g 9))
                              refine pw_ite (fun c284 => ?_) (fun c284 => ?_)
                              · have c284 := (z_le _ _).mp c284
                                refine pw_j2 ek315 (fun z315_1 ez315_1 z315_2 ez315_2 => ?_)
                                subst ez315_1 ez315_2
                                have hc277 := c277277
                                have hk2 : Int32.toNatClampNeg (d92_F12 6) ≤ Int32.toNatClampNeg y277_3 := by omega
                                have lp317 : ∀ (n317 : Nat) (y317_3 : Int32) (d317_F20 : (Nat → Int32)) (d317_F21 : (Nat → Int32)), rng (-1) 16 d317_F21 → (0 ≤ y317_3.toInt ∧ y317_3.toInt ≤ 80) → y317_3.toInt ≤ 2 * (d92_F13 6).toInt → (CPI d317_F20 d317_F21 d92_F20 d92_F21 480 (80 * (Int32.toNatClampNeg (g 9))) 80 (Int32.toNatClampNeg y317_3)) → pw (L_reform_317 g d92_g3 d92_g4 d92_g5 d92_g6 d92_g7 d92_g8 w132 w145 w158 w171 d174_F14 d174_F15 d217_F16 d217_F17 d277_F18 d277_F19 n317 y317_3 d317_F20 d317_F21) (QF_reform g F p0 f n ld) := by
                                  intro n317
                                  induction n317 with
                                  | zero => intros; exact pw_none
                                  | succ n317 ih317 =>
                                    intro y317_3 d317_F20 d317_F21 hg56 f57 f58 c317317
                                    show pw (B_reform_317 g d92_g3 d92_g4 d92_g5 d92_g6 d92_g7 d92_g8 w132 w145 w158 w171 d174_F14 d174_F15 d217_F16 d217_F17 d277_F18 d277_F19 (L_reform_317 g d92_g3 d92_g4 d92_g5 d92_g6 d92_g7 d92_g8 w132 w145 w158 w171 d174_F14 d174_F15 d217_F16 d217_F17 d277_F18 d277_F19 n317) y317_3 d317_F20 d317_F21) _
                                    unfold B_reform_317
                                    have c3 := clampI (x := y317_3) (by omega)
                                    refine pw_if (fun hb324 => ?_)
                                    obtain ⟨hbl324, hbr324⟩ := hb324
                                    have f59 := hF41 (Int32.toNatClampNeg (g 9))
                                    have f60 : (2 * (w171 (Int32.toNatClampNeg (g 9)))).toInt = 2 * (w171 (Int32.toNatClampNeg (g 9))).toInt := z_muld (by decide +kernel) (by omega) (by omega)
                                    refine pw_ite (fun c326 => ?_) (fun c326 => ?_)
                                    · have c326 := (z_le _ _).mp c326
                                      have hc317 := c317317
                                      have hk3 : 2 * Int32.toNatClampNeg (d92_F13 6) ≤ Int32.toNatClampNeg y317_3 := by omega
                                      have f61 : ((g 9) + 1).toInt = (g 9).toInt + 1 := z_addc (by decide +kernel) (by omega) (by omega)
                                      refine pw_vl (fun x364 ex364 => ?_)
                                      have f62 : x364.toInt = ((g 9) + 1).toInt := congrArg Int32.toInt ex364
                                      have hg63 : ((0) ≤ x364.toInt ∧ x364.toInt ≤ 6) := ⟨by omega, by omega⟩
                                      have hLQ64 : LQ w145 d174_F15 x364 := by
                                        exact lq_new hLQ43 (by omega) (by omega) (by omega) hl9 (by assumption)
                                      have hg65 : ((0) ≤ (0 : Int32).toInt ∧ (0 : Int32).toInt ≤ 1) := ⟨by omega, by omega⟩
                                      have qq0 : (p0.toInt ≤ ld ∨ 100000 < p0.toInt → (g 9).toInt = -2 ∧ x364.toInt = (g 9).toInt ∧ d92_g7.toInt = (g 7).toInt ∧ d92_g8.toInt = (g 8).toInt) := by intro h; exfalso; omega
                                      have qq1 : (ld < p0.toInt ∧ p0.toInt ≤ 100000 → ∀ x, (parF f n (n + 1) 0 ([], [], [])).1 = some x → (g 9).toInt = -1 ∧ x364.toInt = (g 9).toInt ∧ ERR (some x) d92_g7 d92_g8) := by intro _ x hx; rw [hR] at hx; cases hx
                                      have qq2 : (ld < p0.toInt ∧ p0.toInt ≤ 100000 → (parF f n (n + 1) 0 ([], [], [])).1 = none → (g 9).toInt = 6 → (g 9).toInt = -3 ∧ x364.toInt = (g 9).toInt ∧ d92_g7.toInt = 0 ∧ d92_g8.toInt = -1) := by intro _ _ h; exfalso; omega
                                      have qq3 : (ld < p0.toInt ∧ p0.toInt ≤ 100000 → (parF f n (n + 1) 0 ([], [], [])).1 = none → (g 9).toInt < 6 → (g 9).toInt = (g 9).toInt ∧ x364.toInt = (g 9).toInt + 1 ∧ d92_g7.toInt = 0 ∧ d92_g8.toInt = -1 ∧ w132 (Int32.toNatClampNeg (g 9)) = p0 ∧ (entR (w171 (Int32.toNatClampNeg (g 9))) d317_F20 d317_F21 (80 * (Int32.toNatClampNeg (g 9))), prtR (w158 (Int32.toNatClampNeg (g 9))) d277_F18 d277_F19 (40 * (Int32.toNatClampNeg (g 9))), lwsR (w145 (Int32.toNatClampNeg (g 9))) d174_F14 d174_F15 d217_F16 d217_F17 (40 * (Int32.toNatClampNeg (g 9)))) = (parF f n (n + 1) 0 ([], [], [])).2) := by intro _ _ _; refine ⟨by omega, by omega, by omega, by omega, by rw [ew132, pk_us], ?_⟩; rw [hR, hl11, hl12, hl13]; refine Prod.ext ?_ (Prod.ext ?_ ?_); (show entR _ _ _ _ = d1.1; rw [hv1]; exact ent_cp hc317 hk3); (show prtR _ _ _ _ = d1.2.1; rw [hv2]; exact prt_cp hc277 hk2); (show lwsR _ _ _ _ _ _ = d1.2.2; rw [hv3]; exact lws_cp hcw hk4 rfl (by omega) (fun q hq => hf1 q (by omega)))
                                      have qq4 : (∀ q, q < (Int32.toNatClampNeg (g 9)) → w132 q = (F 10) q ∧ (entR (w171 q) d317_F20 d317_F21 (80 * q), prtR (w158 q) d277_F18 d277_F19 (40 * q), lwsR (w145 q) d174_F14 d174_F15 d217_F16 d217_F17 (40 * q)) = (entR ((F 13) q) (F 20) (F 21) (80 * q), prtR ((F 12) q) (F 18) (F 19) (40 * q), lwsR ((F 11) q) (F 14) (F 15) (F 16) (F 17) (40 * q))) := by intro q hq; have hq9 : q ≠ (Int32.toNatClampNeg (g 9)) := (by omega); refine ⟨by rw [ew132]; exact pk_un hq9, ?_⟩; rw [show w171 q = (F 13) q from by rw [ew171, pk_un hq9]; exact fl92.2 q (by omega), show w158 q = (F 12) q from by rw [ew158, pk_un hq9]; exact fp92.2 q (by omega), show w145 q = (F 11) q from by rw [ew145, pk_un hq9]; exact fw92.2.2 q (by omega)]; have b3 := hzF13 q; have b2 := hzF12 q; have b1 := hzF11 q; have z3 := clampI (x := (F 13) q) (by omega); have z2 := clampI (x := (F 12) q) (by omega); have z1 := clampI (x := (F 11) q) (by omega); refine Prod.ext (ent_far (fun z h1 h2 => ?_)) (Prod.ext (prt_far (fun z h1 h2 => ?_)) (lws_far (fun z h1 h2 => ?_) (fun z h1 h2 => ?_))); (obtain ⟨a1, a2⟩ := hc317.2 z (by omega); obtain ⟨b4, b5⟩ := fl92.1 z (by omega); exact ⟨a1.trans b4, a2.trans b5⟩); (exact ((hc277.2 z (by omega)).1).trans (fp92.1 z (by omega))); (exact ((hcw.2 z (by omega)).1).trans (fw92.1 z (by omega))); (obtain ⟨a1, a2⟩ := hf2 z (by omega); obtain ⟨b4, b5⟩ := fw92.2.1 z (by omega); exact ⟨a1.trans b4, a2.trans b5⟩)
                                      have qq5 : ((x364.toInt = (g 9).toInt → (0 : Int32) = (g 51)) ∧ (x364.toInt = (g 9).toInt + 1 → (0 : Int32).toInt = 0)) := by exact ⟨fun h => by omega, fun _ => by omega⟩
                                      exact pw_some ⟨qq0, qq1, qq2, qq3, qq4, qq5⟩
                                    · have c326 := z_nle c326
                                      have f66 : (480 + y317_3).toInt = 480 + y317_3.toInt := z_addd (by decide +kernel) (by omega) (by omega)
                                      have f67 : (80 * (g 9)).toInt = 80 * (g 9).toInt := z_muld (by decide +kernel) (by omega) (by omega)
                                      have f68 : ((80 * (g 9)) + y317_3).toInt = (80 * (g 9)).toInt + y317_3.toInt := z_add (by omega) (by omega)
                                      have hpr348_0 : (0 ≤ (480 + y317_3).toInt ∧ (480 + y317_3).toInt < 560) := by first | assumption | omega
                                      have hpr348_1 : 16 * 560 ≤ 8960 := by first | assumption | omega
                                      have hpr348_2 : 8960 ≤ 500000 := by first | assumption | omega
                                      have hpr348_3 : (0 ≤ ((80 * (g 9)) + y317_3).toInt ∧ ((80 * (g 9)) + y317_3).toInt < 560) := by first | assumption | omega
                                      refine pw_b2 (fun c348_F20 c348_F21 hc348 => ?_)
                                      have hq348 := wp_at (ok_copy d317_F20 8960 d317_F21 560 (480 + y317_3) ((80 * (g 9)) + y317_3) hg56 hpr348_0 hpr348_1 hpr348_2 hpr348_3) hc348
                                      obtain ⟨hg69, f70⟩ : (rng (-1) 16 c348_F21) ∧ (c348_F21 = upd d317_F21 (Int32.toNatClampNeg ((80 * (g 9)) + y317_3)) (d317_F21 (Int32.toNatClampNeg (480 + y317_3)))) := hq348
                                      have h8348_hne : (480 + y317_3).toInt ≠ ((80 * (g 9)) + y317_3).toInt := by omega
                                      have h8348_hbw : BW (WR d317_F20 d317_F21 (Int32.toNatClampNeg (480 + y317_3))) := by have x1 := clampI (x := (480 + y317_3)) (by omega); rw [show Int32.toNatClampNeg (480 + y317_3) = 480 + Int32.toNatClampNeg y317_3 by omega, (c317317.2 _ (by omega)).1]; exact bw_e (b := 480) (k := Int32.toNatClampNeg y317_3) v6 hv1 (by omega)
                                      have hx348 := pwq (fn_copy d317_F20 8960 d317_F21 560 (480 + y317_3) ((80 * (g 9)) + y317_3) hg56 hpr348_0 hpr348_1 hpr348_2 hpr348_3 h8348_hne h8348_hbw) hc348
                                      obtain ⟨p348_0, p348_1⟩ : (WR c348_F20 c348_F21 (Int32.toNatClampNeg ((80 * (g 9)) + y317_3)) = WR d317_F20 d317_F21 (Int32.toNatClampNeg (480 + y317_3))) ∧ (id ((∀ q, q ≠ Int32.toNatClampNeg ((80 * (g 9)) + y317_3) → WR c348_F20 c348_F21 q = WR d317_F20 d317_F21 q))) := hx348
                                      have f71 : (y317_3 + 1).toInt = y317_3.toInt + (1) := z_addc (by decide +kernel) (by omega) (by omega)
                                      have iv317_0 : (0 ≤ (y317_3 + 1).toInt ∧ (y317_3 + 1).toInt ≤ 80) := by omega
                                      have iv317_1 : (y317_3 + 1).toInt ≤ 2 * (d92_F13 6).toInt := by omega
                                      have iv317_2 : (CPI c348_F20 c348_F21 d92_F20 d92_F21 480 (80 * (Int32.toNatClampNeg (g 9))) 80 (Int32.toNatClampNeg (y317_3 + 1))) := by have x1 := clampI (x := (480 + y317_3)) (by omega); have x2 := clampI (x := ((80 * (g 9)) + y317_3)) (by omega); have x3 := clampI (x := y317_3 + 1) (by omega); have e1 : Int32.toNatClampNeg (480 + y317_3) = 480 + Int32.toNatClampNeg y317_3 := (by omega); have e2 : Int32.toNatClampNeg ((80 * (g 9)) + y317_3) = 80 * (Int32.toNatClampNeg (g 9)) + Int32.toNatClampNeg y317_3 := (by omega); rw [show Int32.toNatClampNeg (y317_3 + 1) = Int32.toNatClampNeg y317_3 + 1 by omega]; rw [e1, e2] at p348_0; rw [e2] at p348_1; refine cpi_step c317317 (by omega) (by omega) p348_0 p348_1 ?_; rw [← e1, ← e2]; assumption
                                      exact ih317 (y317_3 + 1) c348_F20 c348_F21 hg69 iv317_0 iv317_1 iv317_2
                                exact lp317 NN (0 : Int32) d92_F20 d92_F21 hg31 (show (0 ≤ (0 : Int32).toInt ∧ (0 : Int32).toInt ≤ 80) from by omega) (show (0 : Int32).toInt ≤ 2 * (d92_F13 6).toInt from by omega) (show (CPI d92_F20 d92_F21 d92_F20 d92_F21 480 (80 * (Int32.toNatClampNeg (g 9))) 80 (Int32.toNatClampNeg (0 : Int32))) from by exact cpi_0)
                              · have c284 := z_nle c284
                                have f72 : (240 + y277_3).toInt = 240 + y277_3.toInt := z_addd (by decide +kernel) (by omega) (by omega)
                                have f73 : (40 * (g 9)).toInt = 40 * (g 9).toInt := z_muld (by decide +kernel) (by omega) (by omega)
                                have f74 : ((40 * (g 9)) + y277_3).toInt = (40 * (g 9)).toInt + y277_3.toInt := z_add (by omega) (by omega)
                                have hpr306_0 : (0 ≤ (240 + y277_3).toInt ∧ (240 + y277_3).toInt < 280) := by first | assumption | omega
                                have hpr306_1 : 16 * 280 ≤ 4480 := by first | assumption | omega
                                have hpr306_2 : 4480 ≤ 500000 := by first | assumption | omega
                                have hpr306_3 : (0 ≤ ((40 * (g 9)) + y277_3).toInt ∧ ((40 * (g 9)) + y277_3).toInt < 280) := by first | assumption | omega
                                refine pw_b2 (fun c306_F18 c306_F19 hc306 => ?_)
                                have hq306 := wp_at (ok_copy d277_F18 4480 d277_F19 280 (240 + y277_3) ((40 * (g 9)) + y277_3) hg52 hpr306_0 hpr306_1 hpr306_2 hpr306_3) hc306
                                obtain ⟨hg75, f76⟩ : (rng (-1) 16 c306_F19) ∧ (c306_F19 = upd d277_F19 (Int32.toNatClampNeg ((40 * (g 9)) + y277_3)) (d277_F19 (Int32.toNatClampNeg (240 + y277_3)))) := hq306
                                have h8306_hne : (240 + y277_3).toInt ≠ ((40 * (g 9)) + y277_3).toInt := by omega
                                have h8306_hbw : BW (WR d277_F18 d277_F19 (Int32.toNatClampNeg (240 + y277_3))) := by have x1 := clampI (x := (240 + y277_3)) (by omega); rw [show Int32.toNatClampNeg (240 + y277_3) = 240 + Int32.toNatClampNeg y277_3 by omega, (c277277.2 _ (by omega)).1]; exact bw_p (b := 240) (k := Int32.toNatClampNeg y277_3) v6 hv2 (by omega)
                                have hx306 := pwq (fn_copy d277_F18 4480 d277_F19 280 (240 + y277_3) ((40 * (g 9)) + y277_3) hg52 hpr306_0 hpr306_1 hpr306_2 hpr306_3 h8306_hne h8306_hbw) hc306
                                obtain ⟨p306_0, p306_1⟩ : (WR c306_F18 c306_F19 (Int32.toNatClampNeg ((40 * (g 9)) + y277_3)) = WR d277_F18 d277_F19 (Int32.toNatClampNeg (240 + y277_3))) ∧ (id ((∀ q, q ≠ Int32.toNatClampNeg ((40 * (g 9)) + y277_3) → WR c306_F18 c306_F19 q = WR d277_F18 d277_F19 q))) := hx306
                                have f77 : (y277_3 + 1).toInt = y277_3.toInt + (1) := z_addc (by decide +kernel) (by omega) (by omega)
                                have iv277_0 : (0 ≤ (y277_3 + 1).toInt ∧ (y277_3 + 1).toInt ≤ 40) := by omega
                                have iv277_1 : (y277_3 + 1).toInt ≤ (d92_F12 6).toInt := by omega
                                have iv277_2 : (CPI c306_F18 c306_F19 d92_F18 d92_F19 240 (40 * (Int32.toNatClampNeg (g 9))) 40 (Int32.toNatClampNeg (y277_3 + 1))) := by have x1 := clampI (x := (240 + y277_3)) (by omega); have x2 := clampI (x := ((40 * (g 9)) + y277_3)) (by omega); have x3 := clampI (x := y277_3 + 1) (by omega); have e1 : Int32.toNatClampNeg (240 + y277_3) = 240 + Int32.toNatClampNeg y277_3 := (by omega); have e2 : Int32.toNatClampNeg ((40 * (g 9)) + y277_3) = 40 * (Int32.toNatClampNeg (g 9)) + Int32.toNatClampNeg y277_3 := (by omega); rw [show Int32.toNatClampNeg (y277_3 + 1) = Int32.toNatClampNeg y277_3 + 1 by omega]; rw [e1, e2] at p306_0; rw [e2] at p306_1; refine cpi_step c277277 (by omega) (by omega) p306_0 p306_1 ?_; rw [← e1, ← e2]; assumption
                                exact ih277 (y277_3 + 1) c306_F18 c306_F19 hg75 iv277_0 iv277_1 iv277_2
                          exact lp277 NN (0 : Int32) d92_F18 d92_F19 hg30 (show (0 ≤ (0 : Int32).toInt ∧ (0 : Int32).toInt ≤ 40) from by omega) (show (0 : Int32).toInt ≤ (d92_F12 6).toInt from by omega) (show (CPI d92_F18 d92_F19 d92_F18 d92_F19 240 (40 * (Int32.toNatClampNeg (g 9))) 40 (Int32.toNatClampNeg (0 : Int32))) from by exact cpi_0)
                        · have c224 := z_nle c224
                          have f78 : (40 * (g 9)).toInt = 40 * (g 9).toInt := z_muld (by decide +kernel) (by omega) (by omega)
                          have f79 : ((40 * (g 9)) + y217_3).toInt = (40 * (g 9)).toInt + y217_3.toInt := z_add (by omega) (by omega)
                          have f80 : (240 + y217_3).toInt = 240 + y217_3.toInt := z_addd (by decide +kernel) (by omega) (by omega)
                          refine pw_if (fun hb246 => ?_)
                          obtain ⟨hbl246, hbr246⟩ := hb246
                          refine pw_if (fun hb247 => ?_)
                          obtain ⟨hbl247, hbr247⟩ := hb247
                          refine pw_vl (fun w247 ew247 => ?_)
                          refine pw_if (fun hb267 => ?_)
                          obtain ⟨hbl267, hbr267⟩ := hb267
                          refine pw_if (fun hb268 => ?_)
                          obtain ⟨hbl268, hbr268⟩ := hb268
                          refine pw_vl (fun w268 ew268 => ?_)
                          have f84 : (y217_3 + 1).toInt = y217_3.toInt + (1) := z_addc (by decide +kernel) (by omega) (by omega)
                          have iv217_0 : (0 ≤ (y217_3 + 1).toInt ∧ (y217_3 + 1).toInt ≤ 40) := by omega
                          have iv217_1 : (y217_3 + 1).toInt ≤ (d92_F11 6).toInt := by omega
                          have iv217_2 : (∀ q, q < Int32.toNatClampNeg (y217_3 + 1) → w247 (40 * (Int32.toNatClampNeg (g 9)) + q) = d92_F16 (240 + q) ∧ w268 (40 * (Int32.toNatClampNeg (g 9)) + q) = d92_F17 (240 + q)) := by intro q hq; have x1 := clampI (x := 240 + y217_3) (by omega); have x2 := clampI (x := (40 * (g 9)) + y217_3) (by omega); have x3 := clampI (x := y217_3 + 1) (by omega); have e1 : Int32.toNatClampNeg (240 + y217_3) = 240 + Int32.toNatClampNeg y217_3 := (by omega); have e2 : Int32.toNatClampNeg ((40 * (g 9)) + y217_3) = 40 * (Int32.toNatClampNeg (g 9)) + Int32.toNatClampNeg y217_3 := (by omega); have hfl := v6.2.2 (lawR d92_F14 d92_F15 d92_F16 d92_F17 (240 + Int32.toNatClampNeg y217_3)) (by rw [hv3]; exact tab_mem.mpr ⟨Int32.toNatClampNeg y217_3, by omega, rfl⟩); obtain ⟨_, _, _, _, _, hf1, hf2⟩ := hfl; have n1 : vp_nar .boolean (d92_F16 (240 + Int32.toNatClampNeg y217_3)) = d92_F16 (240 + Int32.toNatClampNeg y217_3) := (bo_id hf1); have n2 : vp_nar .boolean (d92_F17 (240 + Int32.toNatClampNeg y217_3)) = d92_F17 (240 + Int32.toNatClampNeg y217_3) := (bo_id hf2); by_cases q0 : q = Int32.toNatClampNeg y217_3; (subst q0; rw [ew247, ew268, e1, e2, pk_us, pk_us, (f2217 _ (by omega)).1, (f2217 _ (by omega)).2]; exact ⟨n1, n2⟩); (rw [ew247, ew268, e2, pk_un (by omega), pk_un (by omega)]; exact f1217 q (by omega))
                          have iv217_3 : (∀ q, (q < 40 * (Int32.toNatClampNeg (g 9)) ∨ 40 * (Int32.toNatClampNeg (g 9)) + 40 ≤ q) → w247 q = d92_F16 q ∧ w268 q = d92_F17 q) := by intro q hq; have x1 := clampI (x := 240 + y217_3) (by omega); have x2 := clampI (x := (40 * (g 9)) + y217_3) (by omega); have x3 := clampI (x := y217_3 + 1) (by omega); have e1 : Int32.toNatClampNeg (240 + y217_3) = 240 + Int32.toNatClampNeg y217_3 := (by omega); have e2 : Int32.toNatClampNeg ((40 * (g 9)) + y217_3) = 40 * (Int32.toNatClampNeg (g 9)) + Int32.toNatClampNeg y217_3 := (by omega); rw [ew247, ew268, e2, pk_un (by omega), pk_un (by omega)]; exact f2217 q hq
                          exact ih217 (y217_3 + 1) w247 w268 iv217_0 iv217_1 iv217_2 iv217_3
                    exact lp217 NN (0 : Int32) d92_F16 d92_F17 (show (0 ≤ (0 : Int32).toInt ∧ (0 : Int32).toInt ≤ 40) from by omega) (show (0 : Int32).toInt ≤ (d92_F11 6).toInt from by omega) (show (∀ q, q < Int32.toNatClampNeg (0 : Int32) → d92_F16 (40 * (Int32.toNatClampNeg (g 9)) + q) = d92_F16 (240 + q) ∧ d92_F17 (40 * (Int32.toNatClampNeg (g 9)) + q) = d92_F17 (240 + q)) from by intro q hq; exfalso; have hz : Int32.toNatClampNeg (0 : Int32) = 0 := (by decide); omega) (show (∀ q, (q < 40 * (Int32.toNatClampNeg (g 9)) ∨ 40 * (Int32.toNatClampNeg (g 9)) + 40 ≤ q) → d92_F16 q = d92_F16 q ∧ d92_F17 q = d92_F17 q) from by intro q hq; exact ⟨rfl, rfl⟩)
                  · have c183 := z_nle c183
                    have f85 : (960 + y174_3).toInt = 960 + y174_3.toInt := z_addd (by decide +kernel) (by omega) (by omega)
                    have f86 : (160 * (g 9)).toInt = 160 * (g 9).toInt := z_muld (by decide +kernel) (by omega) (by omega)
                    have f87 : ((160 * (g 9)) + y174_3).toInt = (160 * (g 9)).toInt + y174_3.toInt := z_add (by omega) (by omega)
                    have hpr206_0 : (0 ≤ (960 + y174_3).toInt ∧ (960 + y174_3).toInt < 1120) := by first | assumption | omega
                    have hpr206_1 : 16 * 1120 ≤ 17920 := by first | assumption | omega
                    have hpr206_2 : 17920 ≤ 500000 := by first | assumption | omega
                    have hpr206_3 : (0 ≤ ((160 * (g 9)) + y174_3).toInt ∧ ((160 * (g 9)) + y174_3).toInt < 1120) := by first | assumption | omega
                    refine pw_b2 (fun c206_F14 c206_F15 hc206 => ?_)
                    have hq206 := wp_at (ok_copy d174_F14 17920 d174_F15 1120 (960 + y174_3) ((160 * (g 9)) + y174_3) hg42 hpr206_0 hpr206_1 hpr206_2 hpr206_3) hc206
                    obtain ⟨hg88, f89⟩ : (rng (-1) 16 c206_F15) ∧ (c206_F15 = upd d174_F15 (Int32.toNatClampNeg ((160 * (g 9)) + y174_3)) (d174_F15 (Int32.toNatClampNeg (960 + y174_3)))) := hq206
                    have h8206_hne : (960 + y174_3).toInt ≠ ((160 * (g 9)) + y174_3).toInt := by omega
                    have h8206_hbw : BW (WR d174_F14 d174_F15 (Int32.toNatClampNeg (960 + y174_3))) := by have x1 := clampI (x := (960 + y174_3)) (by omega); rw [show Int32.toNatClampNeg (960 + y174_3) = 960 + Int32.toNatClampNeg y174_3 by omega, (cw174.2 _ (by omega)).1]; exact bw_l (b := 240) (k := Int32.toNatClampNeg y174_3) v6 hv3 (by omega)
                    have hx206 := pwq (fn_copy d174_F14 17920 d174_F15 1120 (960 + y174_3) ((160 * (g 9)) + y174_3) hg42 hpr206_0 hpr206_1 hpr206_2 hpr206_3 h8206_hne h8206_hbw) hc206
                    obtain ⟨p206_0, p206_1⟩ : (WR c206_F14 c206_F15 (Int32.toNatClampNeg ((160 * (g 9)) + y174_3)) = WR d174_F14 d174_F15 (Int32.toNatClampNeg (960 + y174_3))) ∧ (id ((∀ q, q ≠ Int32.toNatClampNeg ((160 * (g 9)) + y174_3) → WR c206_F14 c206_F15 q = WR d174_F14 d174_F15 q))) := hx206
                    have hLQ90 : LQ w145 c206_F15 (g 9) := by
                      exact lq_copy (k := y174_3) hLQ43 (by assumption) (by omega) (by omega) (by omega) (by omega) (by assumption)
                    have f91 : (y174_3 + 1).toInt = y174_3.toInt + (1) := z_addc (by decide +kernel) (by omega) (by omega)
                    have iv174_0 : (0 ≤ (y174_3 + 1).toInt ∧ (y174_3 + 1).toInt ≤ 160) := by first | omega | exact cpy_step hcp174 (by assumption) (by omega) (by omega) (by omega) (by omega) (by omega) (by omega)
                    have iv174_1 : (y174_3 + 1).toInt ≤ 4 * (w145 6).toInt := by first | omega | exact cpy_step hcp174 (by assumption) (by omega) (by omega) (by omega) (by omega) (by omega) (by omega)
                    have iv174_2 : (∀ t : Nat, (t : Int) < (y174_3 + 1).toInt → c206_F15 (160 * (g 9).toInt.toNat + t) = c206_F15 (960 + t)) := by first | exact cpy_step hcp174 (by assumption) (by omega) (by omega) (by omega) (by omega) (by omega) (by omega) | omega
                    have iv174_3 : (CPI c206_F14 c206_F15 d92_F14 d92_F15 960 (160 * (Int32.toNatClampNeg (g 9))) 160 (Int32.toNatClampNeg (y174_3 + 1))) := by have x1 := clampI (x := (960 + y174_3)) (by omega); have x2 := clampI (x := ((160 * (g 9)) + y174_3)) (by omega); have x3 := clampI (x := y174_3 + 1) (by omega); have e1 : Int32.toNatClampNeg (960 + y174_3) = 960 + Int32.toNatClampNeg y174_3 := (by omega); have e2 : Int32.toNatClampNeg ((160 * (g 9)) + y174_3) = 160 * (Int32.toNatClampNeg (g 9)) + Int32.toNatClampNeg y174_3 := (by omega); rw [show Int32.toNatClampNeg (y174_3 + 1) = Int32.toNatClampNeg y174_3 + 1 by omega]; rw [e1, e2] at p206_0; rw [e2] at p206_1; refine cpi_step cw174 (by omega) (by omega) p206_0 p206_1 ?_; rw [← e1, ← e2]; assumption
                    exact ih174 (y174_3 + 1) c206_F14 c206_F15 hg88 hLQ90 iv174_0 iv174_1 iv174_2 iv174_3
              exact lp174 NN (0 : Int32) d92_F14 d92_F15 hg29 hLQ37 (show (0 ≤ (0 : Int32).toInt ∧ (0 : Int32).toInt ≤ 160) from by first | omega | exact (fun t ht => absurd ht (by omega))) (show (0 : Int32).toInt ≤ 4 * (w145 6).toInt from by first | omega | exact (fun t ht => absurd ht (by omega))) (show (∀ t : Nat, (t : Int) < (0 : Int32).toInt → d92_F15 (160 * (g 9).toInt.toNat + t) = d92_F15 (960 + t)) from by first | exact (fun t ht => absurd ht (by omega)) | omega) (show (CPI d92_F14 d92_F15 d92_F14 d92_F15 960 (160 * (Int32.toNatClampNeg (g 9))) 160 (Int32.toNatClampNeg (0 : Int32))) from by exact cpi_0)
          · have c97 := z_ne c97
            obtain ⟨k, e1, d1, v1, v2, v3, v4, v5, v6⟩ := pf92
            have hMI101 : id (MInv (upd (upd (upd (upd (upd (upd (upd (upd g 1 0) 2 (g 1)) 3 d92_g3) 4 d92_g4) 5 d92_g5) 6 d92_g6) 7 d92_g7) 8 d92_g8) (upF (upF (upF (upF (upF (upF (upF (upF (upF (upF (upF F 11 d92_F11) 12 d92_F12) 13 d92_F13) 14 d92_F14) 15 d92_F15) 16 d92_F16) 17 d92_F17) 18 d92_F18) 19 d92_F19) 20 d92_F20) 21 d92_F21)) := show MInv (upd (upd (upd (upd (upd (upd (upd (upd g 1 0) 2 (g 1)) 3 d92_g3) 4 d92_g4) 5 d92_g5) 6 d92_g6) 7 d92_g7) 8 d92_g8) (upF (upF (upF (upF (upF (upF (upF (upF (upF (upF (upF F 11 d92_F11) 12 d92_F12) 13 d92_F13) 14 d92_F14) 15 d92_F15) 16 d92_F16) 17 d92_F17) 18 d92_F18) 19 d92_F19) 20 d92_F20) 21 d92_F21) from (MInv_i hg2 hg1 hg20 hg21 hg22 hg23 hg24 hg25 hzg9 ((hI9.2.2.2.2.2.2.2.2.2.1)) ((hI9.2.2.2.2.2.2.2.2.2.2.1)) ((hI9.2.2.2.2.2.2.2.2.2.2.2.1)) ((hI9.2.2.2.2.2.2.2.2.2.2.2.2.1)) ((hI9.2.2.2.2.2.2.2.2.2.2.2.2.2.1)) ((hI9.2.2.2.2.2.2.2.2.2.2.2.2.2.2.1)) ((hI9.2.2.2.2.2.2.2.2.2.2.2.2.2.2.2.1)) ((hI9.2.2.2.2.2.2.2.2.2.2.2.2.2.2.2.2.1)) ((hI9.2.2.2.2.2.2.2.2.2.2.2.2.2.2.2.2.2.1)) hzg51 ((hI9.2.2.2.2.2.2.2.2.2.2.2.2.2.2.2.2.2.2.2.1)) ((hI9.2.2.2.2.2.2.2.2.2.2.2.2.2.2.2.2.2.2.2.2.1)) ((hI9.2.2.2.2.2.2.2.2.2.2.2.2.2.2.2.2.2.2.2.2.2.1)) ((hI9.2.2.2.2.2.2.2.2.2.2.2.2.2.2.2.2.2.2.2.2.2.2.1)) ((hI9.2.2.2.2.2.2.2.2.2.2.2.2.2.2.2.2.2.2.2.2.2.2.2.1)) ((hI9.2.2.2.2.2.2.2.2.2.2.2.2.2.2.2.2.2.2.2.2.2.2.2.2.1)) hg26 hg27 hg28 hg29 hg30 hg31 hzF24 hzF25 hzF26 hzF33 hzF38 hzF41 hzF43 hzF45 hzF46 hzF50 hzF53 hzF54 hLQ32)
            refine pw_b18 (fun r101 c101_g3 c101_g4 c101_g5 c101_g6 c101_g7 c101_g8 c101_F11 c101_F12 c101_F13 c101_F14 c101_F15 c101_F16 c101_F17 c101_F18 c101_F19 c101_F20 c101_F21 hc101 => ?_)
            have hq101 := wp_at (ok_readItem (upd (upd (upd (upd (upd (upd (upd (upd g 1 0) 2 (g 1)) 3 d92_g3) 4 d92_g4) 5 d92_g5) 6 d92_g6) 7 d92_g7) 8 d92_g8) (upF (upF (upF (upF (upF (upF (upF (upF (upF (upF (upF F 11 d92_F11) 12 d92_F12) 13 d92_F13) 14 d92_F14) 15 d92_F15) 16 d92_F16) 17 d92_F17) 18 d92_F18) 19 d92_F19) 20 d92_F20) 21 d92_F21) hMI101) hc101
            obtain ⟨hg92, hg93, hg94, hg95, hg96, hg97, hg98, hg99, hg100, hg101, hg102, hg103, hLQ104, f105, f106⟩ : (((0) ≤ c101_g3.toInt ∧ c101_g3.toInt ≤ 4)) ∧ (((-1) ≤ c101_g4.toInt ∧ c101_g4.toInt ≤ 8)) ∧ (((0) ≤ c101_g5.toInt ∧ c101_g5.toInt ≤ 2001)) ∧ (((0) ≤ c101_g6.toInt ∧ c101_g6.toInt ≤ 2001)) ∧ (((0) ≤ c101_g7.toInt ∧ c101_g7.toInt ≤ 4)) ∧ (((-1) ≤ c101_g8.toInt ∧ c101_g8.toInt ≤ 2001)) ∧ (rng (0) 40 c101_F11) ∧ (rng (0) 40 c101_F12) ∧ (rng (0) 40 c101_F13) ∧ (rng (-1) 16 c101_F15) ∧ (rng (-1) 16 c101_F19) ∧ (rng (-1) 16 c101_F21) ∧ (LQ c101_F11 c101_F15 (g 9)) ∧ (id ((r101.toInt = 1 → c101_g3.toInt = 4 ∨ d92_g6.toInt < c101_g6.toInt))) ∧ ((0 ≤ r101.toInt ∧ r101.toInt ≤ 1)) := hq101
            have h8101_hf : (F 0) = f := by first | assumption | omega
            have h8101_hn : Int32.toNatClampNeg (g 1) = n := by first | assumption | omega
            have h8101_htk : TKS f n (e1) d92_g3.toInt d92_g4.toInt d92_g5.toInt d92_g6.toInt := by exact v4
            have h8101_hs4 : d92_g3.toInt ≠ 4 := by first | assumption | omega
            have h8101_hd : (entR (d92_F13 6) d92_F20 d92_F21 480, prtR (d92_F12 6) d92_F18 d92_F19 240, lwsR (d92_F11 6) d92_F14 d92_F15 d92_F16 d92_F17 240) = (d1) := by exact v5
            have h8101_hwf : WFD (d1) := by exact v6
            have h8101_hfit : ∀ i, fits .byte (.int (f i)) = true := by first | assumption | omega
            have hx101 := pwq (fn_readItem (upd (upd (upd (upd (upd (upd (upd (upd g 1 0) 2 (g 1)) 3 d92_g3) 4 d92_g4) 5 d92_g5) 6 d92_g6) 7 d92_g7) 8 d92_g8) (upF (upF (upF (upF (upF (upF (upF (upF (upF (upF (upF F 11 d92_F11) 12 d92_F12) 13 d92_F13) 14 d92_F14) 15 d92_F15) 16 d92_F16) 17 d92_F17) 18 d92_F18) 19 d92_F19) 20 d92_F20) 21 d92_F21) (f) (n) (e1) (d1) hMI101 h8101_hf h8101_hn h8101_htk h8101_hs4 h8101_hd h8101_hwf h8101_hfit) hc101
            obtain ⟨p101_0, p101_1, p101_2, p101_3⟩ : (id ((∀ q, q < 480 → WR c101_F20 c101_F21 q = WR d92_F20 d92_F21 q ∧ c101_F21 q = d92_F21 q) ∧ (∀ q, q ≠ 6 → c101_F13 q = d92_F13 q))) ∧ (id ((∀ q, q < 240 → WR c101_F18 c101_F19 q = WR d92_F18 d92_F19 q) ∧ (∀ q, q ≠ 6 → c101_F12 q = d92_F12 q))) ∧ (id ((∀ q, q < 960 → WR c101_F14 c101_F15 q = WR d92_F14 d92_F15 q) ∧ (∀ q, q < 240 → c101_F16 q = d92_F16 q ∧ c101_F17 q = d92_F17 q) ∧ (∀ q, q ≠ 6 → c101_F11 q = d92_F11 q))) ∧ (OUTI (itmF f n (e1) (d1)) r101 c101_g7 c101_g8 (fun e1 d1 => TKS f n e1 c101_g3.toInt c101_g4.toInt c101_g5.toInt c101_g6.toInt ∧ (entR (c101_F13 6) c101_F20 c101_F21 480, prtR (c101_F12 6) c101_F18 c101_F19 240, lwsR (c101_F11 6) c101_F14 c101_F15 c101_F16 c101_F17 240) = d1 ∧ c101_g7.toInt = d92_g7.toInt ∧ c101_g8.toInt = d92_g8.toInt)) := hx101
            refine pw_ite (fun c104 => ?_) (fun c104 => ?_)
            · have c104 := congrArg Int32.toInt c104
              have qq0 : (p0.toInt ≤ ld ∨ 100000 < p0.toInt → (-1 : Int32).toInt = -2 ∧ (g 9).toInt = (g 9).toInt ∧ c101_g7.toInt = (g 7).toInt ∧ c101_g8.toInt = (g 8).toInt) := by intro h; exfalso; omega
              have qq1 : (ld < p0.toInt ∧ p0.toInt ≤ 100000 → ∀ x, (parF f n (n + 1) 0 ([], [], [])).1 = some x → (-1 : Int32).toInt = -1 ∧ (g 9).toInt = (g 9).toInt ∧ ERR (some x) c101_g7 c101_g8) := by obtain ⟨x, hx1, hx2⟩ := p101_3.1 (by omega); obtain ⟨k2, rfl⟩ : ∃ k2, k = k2 + 1 := ⟨k - 1, by omega⟩; have hR : parF f n (n + 1) 0 ([], [], []) = (some x, d1) := (by rw [v1]; exact par_err (TKS_n0 v4 (by omega)) hx1); intro _ y hy; rw [hR] at hy; cases hy; exact ⟨by omega, by omega, hx2⟩
              have qq2 : (ld < p0.toInt ∧ p0.toInt ≤ 100000 → (parF f n (n + 1) 0 ([], [], [])).1 = none → (g 9).toInt = 6 → (-1 : Int32).toInt = -3 ∧ (g 9).toInt = (g 9).toInt ∧ c101_g7.toInt = 0 ∧ c101_g8.toInt = -1) := by obtain ⟨x, hx1, hx2⟩ := p101_3.1 (by omega); obtain ⟨k2, rfl⟩ : ∃ k2, k = k2 + 1 := ⟨k - 1, by omega⟩; have hR : parF f n (n + 1) 0 ([], [], []) = (some x, d1) := (by rw [v1]; exact par_err (TKS_n0 v4 (by omega)) hx1); intro _ h; rw [hR] at h; cases h
              have qq3 : (ld < p0.toInt ∧ p0.toInt ≤ 100000 → (parF f n (n + 1) 0 ([], [], [])).1 = none → (g 9).toInt < 6 → (-1 : Int32).toInt = (g 9).toInt ∧ (g 9).toInt = (g 9).toInt + 1 ∧ c101_g7.toInt = 0 ∧ c101_g8.toInt = -1 ∧ (F 10) (Int32.toNatClampNeg (g 9)) = p0 ∧ (entR (c101_F13 (Int32.toNatClampNeg (g 9))) c101_F20 c101_F21 (80 * (Int32.toNatClampNeg (g 9))), prtR (c101_F12 (Int32.toNatClampNeg (g 9))) c101_F18 c101_F19 (40 * (Int32.toNatClampNeg (g 9))), lwsR (c101_F11 (Int32.toNatClampNeg (g 9))) c101_F14 c101_F15 c101_F16 c101_F17 (40 * (Int32.toNatClampNeg (g 9)))) = (parF f n (n + 1) 0 ([], [], [])).2) := by obtain ⟨x, hx1, hx2⟩ := p101_3.1 (by omega); obtain ⟨k2, rfl⟩ : ∃ k2, k = k2 + 1 := ⟨k - 1, by omega⟩; have hR : parF f n (n + 1) 0 ([], [], []) = (some x, d1) := (by rw [v1]; exact par_err (TKS_n0 v4 (by omega)) hx1); intro _ h; rw [hR] at h; cases h
              have qq4 : (∀ q, q < (Int32.toNatClampNeg (g 9)) → (F 10) q = (F 10) q ∧ (entR (c101_F13 q) c101_F20 c101_F21 (80 * q), prtR (c101_F12 q) c101_F18 c101_F19 (40 * q), lwsR (c101_F11 q) c101_F14 c101_F15 c101_F16 c101_F17 (40 * q)) = (entR ((F 13) q) (F 20) (F 21) (80 * q), prtR ((F 12) q) (F 18) (F 19) (40 * q), lwsR ((F 11) q) (F 14) (F 15) (F 16) (F 17) (40 * q))) := by have hfl : (∀ q, q < 480 → WR c101_F20 c101_F21 q = WR (F 20) (F 21) q ∧ c101_F21 q = (F 21) q) ∧ (∀ q, q ≠ 6 → c101_F13 q = (F 13) q) := ⟨fun q hq => by obtain ⟨a1, a2⟩ := p101_0.1 q hq; obtain ⟨b1, b2⟩ := fl92.1 q hq; exact ⟨a1.trans b1, a2.trans b2⟩, fun q hq => (p101_0.2 q hq).trans (fl92.2 q hq)⟩; have hfp : (∀ q, q < 240 → WR c101_F18 c101_F19 q = WR (F 18) (F 19) q) ∧ (∀ q, q ≠ 6 → c101_F12 q = (F 12) q) := ⟨fun q hq => (p101_1.1 q hq).trans (fp92.1 q hq), fun q hq => (p101_1.2 q hq).trans (fp92.2 q hq)⟩; have hfw : (∀ q, q < 960 → WR c101_F14 c101_F15 q = WR (F 14) (F 15) q) ∧ (∀ q, q < 240 → c101_F16 q = (F 16) q ∧ c101_F17 q = (F 17) q) ∧ (∀ q, q ≠ 6 → c101_F11 q = (F 11) q) := ⟨fun q hq => (p101_2.1 q hq).trans (fw92.1 q hq), fun q hq => ⟨((p101_2.2.1 q hq).1).trans (fw92.2.1 q hq).1, ((p101_2.2.1 q hq).2).trans (fw92.2.1 q hq).2⟩, fun q hq => (p101_2.2.2 q hq).trans (fw92.2.2 q hq)⟩; exact fun q hq => ⟨rfl, by rw [hfl.2 q (by omega), hfp.2 q (by omega), hfw.2.2 q (by omega)]; refine Prod.ext (ent_far (fun z h1 h2 => hfl.1 z (by have := hzF13 q; have := clampI (x := (F 13) q) (by omega); omega))) (Prod.ext (prt_far (fun z h1 h2 => hfp.1 z (by have := hzF12 q; have := clampI (x := (F 12) q) (by omega); omega))) (lws_far (fun z h1 h2 => hfw.1 z (by have := hzF11 q; have := clampI (x := (F 11) q) (by omega); omega)) (fun z h1 h2 => hfw.2.1 z (by have := hzF11 q; have := clampI (x := (F 11) q) (by omega); omega))))⟩
              have qq5 : (((g 9).toInt = (g 9).toInt → (g 51) = (g 51)) ∧ ((g 9).toInt = (g 9).toInt + 1 → (g 51).toInt = 0)) := by exact ⟨fun _ => rfl, fun h => by omega⟩
              exact pw_some ⟨qq0, qq1, qq2, qq3, qq4, qq5⟩
            · have c104 := z_ne c104
              obtain ⟨e2, d2, ho, w1, w2, w3, w4⟩ := p101_3.2 (by omega)
              have iv92_0 : c101_g7.toInt = 0 := by omega
              have iv92_1 : c101_g8.toInt = -1 := by omega
              have iv92_2 : (∃ (k e1 : Nat) (d1 : Dr), parF f n (n + 1) 0 ([], [], []) = parF f n k e1 d1 ∧ n + 1 ≤ k + e1 ∧ e1 ≤ n ∧ TKS f n e1 c101_g3.toInt c101_g4.toInt c101_g5.toInt c101_g6.toInt ∧ (entR (c101_F13 6) c101_F20 c101_F21 480, prtR (c101_F12 6) c101_F18 c101_F19 240, lwsR (c101_F11 6) c101_F14 c101_F15 c101_F16 c101_F17 240) = d1 ∧ WFD d1) := by have ho2 := itm_ok (f := f) (n := n) (e := e1) (d := d1) e2 d2 ho; obtain ⟨k2, rfl⟩ : ∃ k2, k = k2 + 1 := ⟨k - 1, by omega⟩; exact ⟨k2, e2, d2, by rw [v1]; exact par_ok (TKS_n0 v4 (by omega)) ho, by omega, by omega, w1, w2, itm_wf (z := (e2, d2)) hfit v6 ho⟩
              have iv92_3 : ((∀ q, q < 480 → WR c101_F20 c101_F21 q = WR (F 20) (F 21) q ∧ c101_F21 q = (F 21) q) ∧ (∀ q, q ≠ 6 → c101_F13 q = (F 13) q)) := by exact ⟨fun q hq => by obtain ⟨a1, a2⟩ := p101_0.1 q hq; obtain ⟨b1, b2⟩ := fl92.1 q hq; exact ⟨a1.trans b1, a2.trans b2⟩, fun q hq => (p101_0.2 q hq).trans (fl92.2 q hq)⟩
              have iv92_4 : ((∀ q, q < 240 → WR c101_F18 c101_F19 q = WR (F 18) (F 19) q) ∧ (∀ q, q ≠ 6 → c101_F12 q = (F 12) q)) := by exact ⟨fun q hq => (p101_1.1 q hq).trans (fp92.1 q hq), fun q hq => (p101_1.2 q hq).trans (fp92.2 q hq)⟩
              have iv92_5 : ((∀ q, q < 960 → WR c101_F14 c101_F15 q = WR (F 14) (F 15) q) ∧ (∀ q, q < 240 → c101_F16 q = (F 16) q ∧ c101_F17 q = (F 17) q) ∧ (∀ q, q ≠ 6 → c101_F11 q = (F 11) q)) := by exact ⟨fun q hq => (p101_2.1 q hq).trans (fw92.1 q hq), fun q hq => ⟨((p101_2.2.1 q hq).1).trans (fw92.2.1 q hq).1, ((p101_2.2.1 q hq).2).trans (fw92.2.1 q hq).2⟩, fun q hq => (p101_2.2.2 q hq).trans (fw92.2.2 q hq)⟩
              exact ih92 c101_g3 c101_g4 c101_g5 c101_g6 c101_g7 c101_g8 c101_F11 c101_F12 c101_F13 c101_F14 c101_F15 c101_F16 c101_F17 c101_F18 c101_F19 c101_F20 c101_F21 hg92 hg93 hg94 hg95 hg96 hg97 hg98 hg99 hg100 hg101 hg102 hg103 hLQ104 iv92_0 iv92_1 iv92_2 iv92_3 iv92_4 iv92_5
      exact lp92 NN c89_g3 c89_g4 c89_g5 c89_g6 (0 : Int32) (-1 : Int32) w66 w74 w82 (F 14) (F 15) (F 16) (F 17) (F 18) (F 19) (F 20) (F 21) hg13 hg14 hg15 hg16 hg6 hg7 hF8 hF10 hF11 hzF15 hzF19 hzF21 hLQ9 (show (0 : Int32).toInt = 0 from by omega) (show (-1 : Int32).toInt = -1 from by omega) (show (∃ (k e1 : Nat) (d1 : Dr), parF f n (n + 1) 0 ([], [], []) = parF f n k e1 d1 ∧ n + 1 ≤ k + e1 ∧ e1 ≤ n ∧ TKS f n e1 c89_g3.toInt c89_g4.toInt c89_g5.toInt c89_g6.toInt ∧ (entR (w82 6) (F 20) (F 21) 480, prtR (w74 6) (F 18) (F 19) 240, lwsR (w66 6) (F 14) (F 15) (F 16) (F 17) 240) = d1 ∧ WFD d1) from by exact ⟨n + 1, 0, ([], [], []), rfl, by omega, by omega, p89_0, by rw [ew66, ew74, ew82, pk_us, pk_us, pk_us]; rfl, wfd_0⟩) (show ((∀ q, q < 480 → WR (F 20) (F 21) q = WR (F 20) (F 21) q ∧ (F 21) q = (F 21) q) ∧ (∀ q, q ≠ 6 → w82 q = (F 13) q)) from by exact ⟨fun _ _ => ⟨rfl, rfl⟩, fun q hq => by rw [ew82]; exact pk_un hq⟩) (show ((∀ q, q < 240 → WR (F 18) (F 19) q = WR (F 18) (F 19) q) ∧ (∀ q, q ≠ 6 → w74 q = (F 12) q)) from by exact ⟨fun _ _ => rfl, fun q hq => by rw [ew74]; exact pk_un hq⟩) (show ((∀ q, q < 960 → WR (F 14) (F 15) q = WR (F 14) (F 15) q) ∧ (∀ q, q < 240 → (F 16) q = (F 16) q ∧ (F 17) q = (F 17) q) ∧ (∀ q, q ≠ 6 → w66 q = (F 11) q)) from by exact ⟨fun _ _ => rfl, fun _ _ => ⟨rfl, rfl⟩, fun q hq => by rw [ew66]; exact pk_un hq⟩)
  · have c18 := z_ne c18
    have f107 : ((g 9) - 1).toInt = (g 9).toInt - 1 := z_subc (by decide +kernel) (by omega) (by omega)
    refine pw_if (fun hb35 => ?_)
    obtain ⟨hbl35, hbr35⟩ := hb35
    refine pw_j1 ej38 (fun t38_0 et38_0 => ?_)
    have et38_0 := et38_0.symm
    have f_t38_0 : t38_0.toInt = (((F 10) (Int32.toNatClampNeg ((g 9) - 1))) + 1).toInt := by rw [et38_0]
    have hlo : t38_0.toInt = ld + 1 := by first | (rcases hld with ⟨h1, h2⟩ | ⟨h1, h2⟩ <;> omega) | (rcases hld with ⟨h1, h2⟩ | ⟨h1, h2⟩; (exfalso; omega); (have c8 := clampI (x := (g 9) - 1) (by omega); rw [et38_0, z_addc (n := 1) (by decide) (by rw [show Int32.toNatClampNeg ((g 9) - 1) = Int32.toNatClampNeg (g 9) - 1 by omega]; omega) (by rw [show Int32.toNatClampNeg ((g 9) - 1) = Int32.toNatClampNeg (g 9) - 1 by omega]; omega), show Int32.toNatClampNeg ((g 9) - 1) = Int32.toNatClampNeg (g 9) - 1 by omega]; omega))
    refine pw_b1 (fun r40 hc40 => ?_)
    have hq40 := wp_at (ok_in p0 t38_0 (100000 : Int32) ) hc40
    obtain ⟨f108, f109, f110⟩ : ((r40.toInt = 1 → t38_0.toInt ≤ p0.toInt ∧ p0.toInt ≤ (100000 : Int32).toInt)) ∧ ((r40.toInt = 0 → p0.toInt < t38_0.toInt ∨ (100000 : Int32).toInt < p0.toInt)) ∧ ((0 ≤ r40.toInt ∧ r40.toInt ≤ 1)) := hq40
    refine pw_ite (fun c43 => ?_) (fun c43 => ?_)
    · have c43 := congrArg Int32.toInt c43
      have qq0 : (p0.toInt ≤ ld ∨ 100000 < p0.toInt → (-2 : Int32).toInt = -2 ∧ (g 9).toInt = (g 9).toInt ∧ (g 7).toInt = (g 7).toInt ∧ (g 8).toInt = (g 8).toInt) := by intro _; omega
      have qq1 : (ld < p0.toInt ∧ p0.toInt ≤ 100000 → ∀ x, (parF f n (n + 1) 0 ([], [], [])).1 = some x → (-2 : Int32).toInt = -1 ∧ (g 9).toInt = (g 9).toInt ∧ ERR (some x) (g 7) (g 8)) := by intro h; exfalso; omega
      have qq2 : (ld < p0.toInt ∧ p0.toInt ≤ 100000 → (parF f n (n + 1) 0 ([], [], [])).1 = none → (g 9).toInt = 6 → (-2 : Int32).toInt = -3 ∧ (g 9).toInt = (g 9).toInt ∧ (g 7).toInt = 0 ∧ (g 8).toInt = -1) := by intro h; exfalso; omega
      have qq3 : (ld < p0.toInt ∧ p0.toInt ≤ 100000 → (parF f n (n + 1) 0 ([], [], [])).1 = none → (g 9).toInt < 6 → (-2 : Int32).toInt = (g 9).toInt ∧ (g 9).toInt = (g 9).toInt + 1 ∧ (g 7).toInt = 0 ∧ (g 8).toInt = -1 ∧ (F 10) (Int32.toNatClampNeg (g 9)) = p0 ∧ (entR ((F 13) (Int32.toNatClampNeg (g 9))) (F 20) (F 21) (80 * (Int32.toNatClampNeg (g 9))), prtR ((F 12) (Int32.toNatClampNeg (g 9))) (F 18) (F 19) (40 * (Int32.toNatClampNeg (g 9))), lwsR ((F 11) (Int32.toNatClampNeg (g 9))) (F 14) (F 15) (F 16) (F 17) (40 * (Int32.toNatClampNeg (g 9)))) = (parF f n (n + 1) 0 ([], [], [])).2) := by intro h; exfalso; omega
      have qq4 : (∀ q, q < (Int32.toNatClampNeg (g 9)) → (F 10) q = (F 10) q ∧ (entR ((F 13) q) (F 20) (F 21) (80 * q), prtR ((F 12) q) (F 18) (F 19) (40 * q), lwsR ((F 11) q) (F 14) (F 15) (F 16) (F 17) (40 * q)) = (entR ((F 13) q) (F 20) (F 21) (80 * q), prtR ((F 12) q) (F 18) (F 19) (40 * q), lwsR ((F 11) q) (F 14) (F 15) (F 16) (F 17) (40 * q))) := by exact fun q hq => ⟨rfl, rfl⟩
      have qq5 : (((g 9).toInt = (g 9).toInt → (g 51) = (g 51)) ∧ ((g 9).toInt = (g 9).toInt + 1 → (g 51).toInt = 0)) := by exact ⟨fun _ => rfl, fun h => by omega⟩
      exact pw_some ⟨qq0, qq1, qq2, qq3, qq4, qq5⟩
    · have c43 := z_ne c43
      have hg111 : ((0) ≤ (0 : Int32).toInt ∧ (0 : Int32).toInt ≤ 4) := ⟨by omega, by omega⟩
      have hg112 : ((-1) ≤ (-1 : Int32).toInt ∧ (-1 : Int32).toInt ≤ 2001) := ⟨by omega, by omega⟩
      refine pw_if (fun hb66 => ?_)
      obtain ⟨hbl66, hbr66⟩ := hb66
      refine pw_vl (fun w66 ew66 => ?_)
      have hF113 : rng (0) 40 w66 := by rw [ew66]; exact rng_upd hzF11 (by omega) (by omega)
      rw [e6] at ew66
      have hLQ114 : LQ w66 (F 15) (g 9) := by
        exact lq_zero hzLQ ew66 (by decide +kernel)
      refine pw_if (fun hb74 => ?_)
      obtain ⟨hbl74, hbr74⟩ := hb74
      refine pw_vl (fun w74 ew74 => ?_)
      have hF115 : rng (0) 40 w74 := by rw [ew74]; exact rng_upd hzF12 (by omega) (by omega)
      rw [e6] at ew74
      refine pw_if (fun hb82 => ?_)
      obtain ⟨hbl82, hbr82⟩ := hb82
      refine pw_vl (fun w82 ew82 => ?_)
      have hF116 : rng (0) 40 w82 := by rw [ew82]; exact rng_upd hzF13 (by omega) (by omega)
      rw [e6] at ew82
      have hg117 : ((0) ≤ (0 : Int32).toInt ∧ (0 : Int32).toInt ≤ 2001) := ⟨by omega, by omega⟩
      have hMI89 : id (MInv (upd (upd (upd (upd (upd g 1 0) 2 (g 1)) 6 0) 7 0) 8 (-1)) (upF (upF (upF F 11 w66) 12 w74) 13 w82)) := show MInv (upd (upd (upd (upd (upd g 1 0) 2 (g 1)) 6 0) 7 0) 8 (-1)) (upF (upF (upF F 11 w66) 12 w74) 13 w82) from (MInv_i hg2 hg1 ((hI9.2.2.1)) ((hI9.2.2.2.1)) ((hI9.2.2.2.2.1)) hg117 hg111 hg112 hzg9 ((hI9.2.2.2.2.2.2.2.2.2.1)) ((hI9.2.2.2.2.2.2.2.2.2.2.1)) ((hI9.2.2.2.2.2.2.2.2.2.2.2.1)) ((hI9.2.2.2.2.2.2.2.2.2.2.2.2.1)) ((hI9.2.2.2.2.2.2.2.2.2.2.2.2.2.1)) ((hI9.2.2.2.2.2.2.2.2.2.2.2.2.2.2.1)) ((hI9.2.2.2.2.2.2.2.2.2.2.2.2.2.2.2.1)) ((hI9.2.2.2.2.2.2.2.2.2.2.2.2.2.2.2.2.1)) ((hI9.2.2.2.2.2.2.2.2.2.2.2.2.2.2.2.2.2.1)) hzg51 ((hI9.2.2.2.2.2.2.2.2.2.2.2.2.2.2.2.2.2.2.2.1)) ((hI9.2.2.2.2.2.2.2.2.2.2.2.2.2.2.2.2.2.2.2.2.1)) ((hI9.2.2.2.2.2.2.2.2.2.2.2.2.2.2.2.2.2.2.2.2.2.1)) ((hI9.2.2.2.2.2.2.2.2.2.2.2.2.2.2.2.2.2.2.2.2.2.2.1)) ((hI9.2.2.2.2.2.2.2.2.2.2.2.2.2.2.2.2.2.2.2.2.2.2.2.1)) ((hI9.2.2.2.2.2.2.2.2.2.2.2.2.2.2.2.2.2.2.2.2.2.2.2.2.1)) hF113 hF115 hF116 hzF15 hzF19 hzF21 hzF24 hzF25 hzF26 hzF33 hzF38 hzF41 hzF43 hzF45 hzF46 hzF50 hzF53 hzF54 hLQ114)
      refine pw_b4 (fun c89_g3 c89_g4 c89_g5 c89_g6 hc89 => ?_)
      have hq89 := wp_at (ok_scan (upd (upd (upd (upd (upd g 1 0) 2 (g 1)) 6 0) 7 0) 8 (-1)) (upF (upF (upF F 11 w66) 12 w74) 13 w82) hMI89) hc89
      obtain ⟨hg118, hg119, hg120, hg121, f122, f123, f124⟩ : (((0) ≤ c89_g3.toInt ∧ c89_g3.toInt ≤ 4)) ∧ (((-1) ≤ c89_g4.toInt ∧ c89_g4.toInt ≤ 8)) ∧ (((0) ≤ c89_g5.toInt ∧ c89_g5.toInt ≤ 2001)) ∧ (((0) ≤ c89_g6.toInt ∧ c89_g6.toInt ≤ 2001)) ∧ (id ((c89_g3.toInt = 2 → c89_g5.toInt + 2 ≤ c89_g6.toInt ∧ c89_g6.toInt ≤ c89_g5.toInt + 18 ∧ c89_g6.toInt ≤ 2000))) ∧ (id ((c89_g3.toInt ≠ 4 → (0 : Int32).toInt < c89_g6.toInt))) ∧ ((0 : Int32).toInt ≤ c89_g6.toInt) := hq89
      have h889_hf : (F 0) = f := by first | assumption | omega
      have h889_hn : Int32.toNatClampNeg (g 1) = n := by first | assumption | omega
      have h889_he : Int32.toNatClampNeg (0 : Int32) = (0) := by decide
      have h889_hfit : ∀ i, fits .byte (.int (f i)) = true := by first | assumption | omega
      have hx89 := pwq (fn_scan (upd (upd (upd (upd (upd g 1 0) 2 (g 1)) 6 0) 7 0) 8 (-1)) (upF (upF (upF F 11 w66) 12 w74) 13 w82) (f) (n) (0) hMI89 h889_hf h889_hn h889_he h889_hfit) hc89
      have p89_0 : TKS f n (0) c89_g3.toInt c89_g4.toInt c89_g5.toInt c89_g6.toInt := hx89
      clear hx89
      refine pw_jE (fun k109 ek109 => ?_)
      have lp92 : ∀ (n92 : Nat) (d92_g3 : Int32) (d92_g4 : Int32) (d92_g5 : Int32) (d92_g6 : Int32) (d92_g7 : Int32) (d92_g8 : Int32) (d92_F11 : (Nat → Int32)) (d92_F12 : (Nat → Int32)) (d92_F13 : (Nat → Int32)) (d92_F14 : (Nat → Int32)) (d92_F15 : (Nat → Int32)) (d92_F16 : (Nat → Int32)) (d92_F17 : (Nat → Int32)) (d92_F18 : (Nat → Int32)) (d92_F19 : (Nat → Int32)) (d92_F20 : (Nat → Int32)) (d92_F21 : (Nat → Int32)), ((0) ≤ d92_g3.toInt ∧ d92_g3.toInt ≤ 4) → ((-1) ≤ d92_g4.toInt ∧ d92_g4.toInt ≤ 8) → ((0) ≤ d92_g5.toInt ∧ d92_g5.toInt ≤ 2001) → ((0) ≤ d92_g6.toInt ∧ d92_g6.toInt ≤ 2001) → ((0) ≤ d92_g7.toInt ∧ d92_g7.toInt ≤ 4) → ((-1) ≤ d92_g8.toInt ∧ d92_g8.toInt ≤ 2001) → rng (0) 40 d92_F11 → rng (0) 40 d92_F12 → rng (0) 40 d92_F13 → rng (-1) 16 d92_F15 → rng (-1) 16 d92_F19 → rng (-1) 16 d92_F21 → LQ d92_F11 d92_F15 (g 9) → d92_g7.toInt = 0 → d92_g8.toInt = -1 → (∃ (k e1 : Nat) (d1 : Dr), parF f n (n + 1) 0 ([], [], []) = parF f n k e1 d1 ∧ n + 1 ≤ k + e1 ∧ e1 ≤ n ∧ TKS f n e1 d92_g3.toInt d92_g4.toInt d92_g5.toInt d92_g6.toInt ∧ (entR (d92_F13 6) d92_F20 d92_F21 480, prtR (d92_F12 6) d92_F18 d92_F19 240, lwsR (d92_F11 6) d92_F14 d92_F15 d92_F16 d92_F17 240) = d1 ∧ WFD d1) → ((∀ q, q < 480 → WR d92_F20 d92_F21 q = WR (F 20) (F 21) q ∧ d92_F21 q = (F 21) q) ∧ (∀ q, q ≠ 6 → d92_F13 q = (F 13) q)) → ((∀ q, q < 240 → WR d92_F18 d92_F19 q = WR (F 18) (F 19) q) ∧ (∀ q, q ≠ 6 → d92_F12 q = (F 12) q)) → ((∀ q, q < 960 → WR d92_F14 d92_F15 q = WR (F 14) (F 15) q) ∧ (∀ q, q < 240 → d92_F16 q = (F 16) q ∧ d92_F17 q = (F 17) q) ∧ (∀ q, q ≠ 6 → d92_F11 q = (F 11) q)) → pw (L_reform_92 g F k109 n92 d92_g3 d92_g4 d92_g5 d92_g6 d92_g7 d92_g8 d92_F11 d92_F12 d92_F13 d92_F14 d92_F15 d92_F16 d92_F17 d92_F18 d92_F19 d92_F20 d92_F21) (QF_reform g F p0 f n ld) := by
        intro n92
        induction n92 with
        | zero => intros; exact pw_none
        | succ n92 ih92 =>
          intro d92_g3 d92_g4 d92_g5 d92_g6 d92_g7 d92_g8 d92_F11 d92_F12 d92_F13 d92_F14 d92_F15 d92_F16 d92_F17 d92_F18 d92_F19 d92_F20 d92_F21 hg125 hg126 hg127 hg128 hg129 hg130 hg131 hg132 hg133 hg134 hg135 hg136 hLQ137 f138 f139 pf92 fl92 fp92 fw92
          show pw (B_reform_92 g F k109 (L_reform_92 g F k109 n92) d92_g3 d92_g4 d92_g5 d92_g6 d92_g7 d92_g8 d92_F11 d92_F12 d92_F13 d92_F14 d92_F15 d92_F16 d92_F17 d92_F18 d92_F19 d92_F20 d92_F21) _
          unfold B_reform_92
          refine pw_ite (fun c97 => ?_) (fun c97 => ?_)
          · have c97 := congrArg Int32.toInt c97
            refine pw_j17 ek109 (fun z109_1 ez109_1 z109_2 ez109_2 z109_3 ez109_3 z109_4 ez109_4 z109_5 ez109_5 z109_6 ez109_6 z109_7 ez109_7 z109_8 ez109_8 z109_9 ez109_9 z109_10 ez109_10 z109_11 ez109_11 z109_12 ez109_12 z109_13 ez109_13 z109_14 ez109_14 z109_15 ez109_15 z109_16 ez109_16 z109_17 ez109_17 => ?_)
            subst ez109_1 ez109_2 ez109_3 ez109_4 ez109_5 ez109_6 ez109_7 ez109_8 ez109_9 ez109_10 ez109_11 ez109_12 ez109_13 ez109_14 ez109_15 ez109_16 ez109_17
            obtain ⟨k, e1, d1, v1, v2, v3, v4, v5, v6⟩ := pf92
            have hR : parF f n (n + 1) 0 ([], [], []) = (none, d1) := by obtain ⟨k2, rfl⟩ : ∃ k2, k = k2 + 1 := ⟨k - 1, by omega⟩; rw [v1]; exact par_end (TKS_0 v4 (by omega))
            have hv1 : d1.1 = entR (d92_F13 6) d92_F20 d92_F21 480 := by rw [← v5]
            have hv2 : d1.2.1 = prtR (d92_F12 6) d92_F18 d92_F19 240 := by rw [← v5]
            have hv3 : d1.2.2 = lwsR (d92_F11 6) d92_F14 d92_F15 d92_F16 d92_F17 240 := by rw [← v5]
            refine pw_ite (fun c115 => ?_) (fun c115 => ?_)
            · have c115 := congrArg Int32.toInt c115
              have qq0 : (p0.toInt ≤ ld ∨ 100000 < p0.toInt → (-3 : Int32).toInt = -2 ∧ (g 9).toInt = (g 9).toInt ∧ d92_g7.toInt = (g 7).toInt ∧ d92_g8.toInt = (g 8).toInt) := by intro h; exfalso; omega
              have qq1 : (ld < p0.toInt ∧ p0.toInt ≤ 100000 → ∀ x, (parF f n (n + 1) 0 ([], [], [])).1 = some x → (-3 : Int32).toInt = -1 ∧ (g 9).toInt = (g 9).toInt ∧ ERR (some x) d92_g7 d92_g8) := by intro _ x hx; rw [hR] at hx; cases hx
              have qq2 : (ld < p0.toInt ∧ p0.toInt ≤ 100000 → (parF f n (n + 1) 0 ([], [], [])).1 = none → (g 9).toInt = 6 → (-3 : Int32).toInt = -3 ∧ (g 9).toInt = (g 9).toInt ∧ d92_g7.toInt = 0 ∧ d92_g8.toInt = -1) := by intro _ _ _; omega
              have qq3 : (ld < p0.toInt ∧ p0.toInt ≤ 100000 → (parF f n (n + 1) 0 ([], [], [])).1 = none → (g 9).toInt < 6 → (-3 : Int32).toInt = (g 9).toInt ∧ (g 9).toInt = (g 9).toInt + 1 ∧ d92_g7.toInt = 0 ∧ d92_g8.toInt = -1 ∧ (F 10) (Int32.toNatClampNeg (g 9)) = p0 ∧ (entR (d92_F13 (Int32.toNatClampNeg (g 9))) d92_F20 d92_F21 (80 * (Int32.toNatClampNeg (g 9))), prtR (d92_F12 (Int32.toNatClampNeg (g 9))) d92_F18 d92_F19 (40 * (Int32.toNatClampNeg (g 9))), lwsR (d92_F11 (Int32.toNatClampNeg (g 9))) d92_F14 d92_F15 d92_F16 d92_F17 (40 * (Int32.toNatClampNeg (g 9)))) = (parF f n (n + 1) 0 ([], [], [])).2) := by intro _ _ h; exfalso; omega
              have qq4 : (∀ q, q < (Int32.toNatClampNeg (g 9)) → (F 10) q = (F 10) q ∧ (entR (d92_F13 q) d92_F20 d92_F21 (80 * q), prtR (d92_F12 q) d92_F18 d92_F19 (40 * q), lwsR (d92_F11 q) d92_F14 d92_F15 d92_F16 d92_F17 (40 * q)) = (entR ((F 13) q) (F 20) (F 21) (80 * q), prtR ((F 12) q) (F 18) (F 19) (40 * q), lwsR ((F 11) q) (F 14) (F 15) (F 16) (F 17) (40 * q))) := by exact fun q hq => ⟨rfl, by rw [fl92.2 q (by omega), fp92.2 q (by omega), fw92.2.2 q (by omega)]; refine Prod.ext (ent_far (fun z h1 h2 => fl92.1 z (by have := hzF13 q; have := clampI (x := (F 13) q) (by omega); omega))) (Prod.ext (prt_far (fun z h1 h2 => fp92.1 z (by have := hzF12 q; have := clampI (x := (F 12) q) (by omega); omega))) (lws_far (fun z h1 h2 => fw92.1 z (by have := hzF11 q; have := clampI (x := (F 11) q) (by omega); omega)) (fun z h1 h2 => fw92.2.1 z (by have := hzF11 q; have := clampI (x := (F 11) q) (by omega); omega))))⟩
              have qq5 : (((g 9).toInt = (g 9).toInt → (g 51) = (g 51)) ∧ ((g 9).toInt = (g 9).toInt + 1 → (g 51).toInt = 0)) := by exact ⟨fun _ => rfl, fun h => by omega⟩
              exact pw_some ⟨qq0, qq1, qq2, qq3, qq4, qq5⟩
            · have c115 := z_ne c115
              have h8b := c115
              refine pw_if (fun hb132 => ?_)
              obtain ⟨hbl132, hbr132⟩ := hb132
              refine pw_vl (fun w132 ew132 => ?_)
              refine pw_if (fun hb144 => ?_)
              obtain ⟨hbl144, hbr144⟩ := hb144
              have f140 := hg131 (Int32.toNatClampNeg (6 : Int32))
              refine pw_if (fun hb145 => ?_)
              obtain ⟨hbl145, hbr145⟩ := hb145
              refine pw_vl (fun w145 ew145 => ?_)
              have hF141 : rng (0) 40 w145 := by rw [ew145]; exact rng_upd hg131 (by omega) (by omega)
              have hl9 : w145 (g 9).toInt.toNat = w145 6 := lw_same ew145 (by omega) (by omega)
              have hl9i : (w145 (Int32.toNatClampNeg (g 9))).toInt = (w145 6).toInt := congrArg Int32.toInt hl9
              have hl6 : 0 ≤ (w145 6).toInt ∧ (w145 6).toInt ≤ 40 := (by assumption : rng 0 40 w145) 6
              rw [e6] at ew145
              have hLQ142 : LQ w145 d92_F15 (g 9) := by
                exact lq_row hLQ137 ew145 (by omega) (by omega) (by omega)
              refine pw_if (fun hb157 => ?_)
              obtain ⟨hbl157, hbr157⟩ := hb157
              have f143 := hg132 (Int32.toNatClampNeg (6 : Int32))
              refine pw_if (fun hb158 => ?_)
              obtain ⟨hbl158, hbr158⟩ := hb158
              refine pw_vl (fun w158 ew158 => ?_)
              have hF144 : rng (0) 40 w158 := by rw [ew158]; exact rng_upd hg132 (by omega) (by omega)
              rw [e6] at ew158
              refine pw_if (fun hb170 => ?_)
              obtain ⟨hbl170, hbr170⟩ := hb170
              have f145 := hg133 (Int32.toNatClampNeg (6 : Int32))
              refine pw_if (fun hb171 => ?_)
              obtain ⟨hbl171, hbr171⟩ := hb171
              refine pw_vl (fun w171 ew171 => ?_)
              have hF146 : rng (0) 40 w171 := by rw [ew171]; exact rng_upd hg133 (by omega) (by omega)
              rw [e6] at ew171
              have hl12 : w158 (Int32.toNatClampNeg (g 9)) = d92_F12 6 := by rw [ew158, pk_us]
              have hl13 : w171 (Int32.toNatClampNeg (g 9)) = d92_F13 6 := by rw [ew171, pk_us]
              have hl11 : w145 (Int32.toNatClampNeg (g 9)) = d92_F11 6 := by rw [ew145, pk_us]
              have hb11 := (by assumption : rng 0 40 d92_F11) 6
              have hb12 := (by assumption : rng 0 40 d92_F12) 6
              have hb13 := (by assumption : rng 0 40 d92_F13) 6
              have ce11 := clampI (x := d92_F11 6) (by omega)
              have ce12 := clampI (x := d92_F12 6) (by omega)
              have ce13 := clampI (x := d92_F13 6) (by omega)
              have hw6 : w145 6 = d92_F11 6 := by rw [ew145]; exact pk_un (by omega)
              have hi11 := congrArg Int32.toInt hl11
              have hi12 := congrArg Int32.toInt hl12
              have hi13 := congrArg Int32.toInt hl13
              have hi6 := congrArg Int32.toInt hw6
              refine pw_jE (fun k215 ek215 => ?_)
              have lp174 : ∀ (n174 : Nat) (y174_3 : Int32) (d174_F14 : (Nat → Int32)) (d174_F15 : (Nat → Int32)), rng (-1) 16 d174_F15 → LQ w145 d174_F15 (g 9) → (0 ≤ y174_3.toInt ∧ y174_3.toInt ≤ 160) → y174_3.toInt ≤ 4 * (w145 6).toInt → (∀ t : Nat, (t : Int) < y174_3.toInt → d174_F15 (160 * (g 9).toInt.toNat + t) = d174_F15 (960 + t)) → (CPI d174_F14 d174_F15 d92_F14 d92_F15 960 (160 * (Int32.toNatClampNeg (g 9))) 160 (Int32.toNatClampNeg y174_3)) → pw (L_reform_174 g w145 k215 n174 y174_3 d174_F14 d174_F15) (QF_reform g F p0 f n ld) := by
                intro n174
                induction n174 with
                | zero => intros; exact pw_none
                | succ n174 ih174 =>
                  intro y174_3 d174_F14 d174_F15 hg147 hLQ148 f149 f150 f151 cw174
                  show pw (B_reform_174 g w145 k215 (L_reform_174 g w145 k215 n174) y174_3 d174_F14 d174_F15) _
                  unfold B_reform_174
                  have hcp174 : (∀ t : Nat, (t : Int) < y174_3.toInt → d174_F15 (160 * (g 9).toInt.toNat + t) = d174_F15 (960 + t)) := by assumption
                  have c3 := clampI (x := y174_3) (by omega)
                  refine pw_if (fun hb181 => ?_)
                  obtain ⟨hbl181, hbr181⟩ := hb181
                  have f152 := hF141 (Int32.toNatClampNeg (g 9))
                  have f153 : (4 * (w145 (Int32.toNatClampNeg (g 9)))).toInt = 4 * (w145 (Int32.toNatClampNeg (g 9))).toInt := z_muld (by decide +kernel) (by omega) (by omega)
                  refine pw_ite (fun c183 => ?_) (fun c183 => ?_)
                  · have c183 := (z_le _ _).mp c183
                    refine pw_j2 ek215 (fun z215_1 ez215_1 z215_2 ez215_2 => ?_)
                    subst ez215_1 ez215_2
                    have h215 : ∀ t : Nat, (t : Int) < 4 * (w145 6).toInt → d174_F15 (160 * (g 9).toInt.toNat + t) = d174_F15 (960 + t) := fun t ht => hcp174 t (by omega)
                    have hcw := cw174
                    have hk4 : 4 * Int32.toNatClampNeg (d92_F11 6) ≤ Int32.toNatClampNeg y174_3 := by omega
                    refine pw_jE (fun k275 ek275 => ?_)
                    have lp217 : ∀ (n217 : Nat) (y217_3 : Int32) (d217_F16 : (Nat → Int32)) (d217_F17 : (Nat → Int32)), (0 ≤ y217_3.toInt ∧ y217_3.toInt ≤ 40) → y217_3.toInt ≤ (d92_F11 6).toInt → (∀ q, q < Int32.toNatClampNeg y217_3 → d217_F16 (40 * (Int32.toNatClampNeg (g 9)) + q) = d92_F16 (240 + q) ∧ d217_F17 (40 * (Int32.toNatClampNeg (g 9)) + q) = d92_F17 (240 + q)) → (∀ q, (q < 40 * (Int32.toNatClampNeg (g 9)) ∨ 40 * (Int32.toNatClampNeg (g 9)) + 40 ≤ q) → d217_F16 q = d92_F16 q ∧ d217_F17 q = d92_F17 q) → pw (L_reform_217 g w145 k275 n217 y217_3 d217_F16 d217_F17) (QF_reform g F p0 f n ld) := by
                      intro n217
                      induction n217 with
                      | zero => intros; exact pw_none
                      | succ n217 ih217 =>
                        intro y217_3 d217_F16 d217_F17 f154 f155 f1217 f2217
                        show pw (B_reform_217 g w145 k275 (L_reform_217 g w145 k275 n217) y217_3 d217_F16 d217_F17) _
                        unfold B_reform_217
                        have c3 := clampI (x := y217_3) (by omega)
                        refine pw_if (fun hb223 => ?_)
                        obtain ⟨hbl223, hbr223⟩ := hb223
                        refine pw_ite (fun c224 => ?_) (fun c224 => ?_)
                        · have c224 := (z_le _ _).mp c224
                          refine pw_j2 ek275 (fun z275_1 ez275_1 z275_2 ez275_2 => ?_)
                          subst ez275_1 ez275_2
                          have hf1 := f1217
                          have hf2 := f2217
                          have hk1 : Int32.toNatClampNeg (d92_F11 6) ≤ Int32.toNatClampNeg y217_3 := by omega
                          refine pw_jE (fun k315 ek315 => ?_)
                          have lp277 : ∀ (n277 : Nat) (y277_3 : Int32) (d277_F18 : (Nat → Int32)) (d277_F19 : (Nat → Int32)), rng (-1) 16 d277_F19 → (0 ≤ y277_3.toInt ∧ y277_3.toInt ≤ 40) → y277_3.toInt ≤ (d92_F12 6).toInt → (CPI d277_F18 d277_F19 d92_F18 d92_F19 240 (40 * (Int32.toNatClampNeg (g 9))) 40 (Int32.toNatClampNeg y277_3)) → pw (L_reform_277 g w158 k315 n277 y277_3 d277_F18 d277_F19) (QF_reform g F p0 f n ld) := by
                            intro n277
                            induction n277 with
                            | zero => intros; exact pw_none
                            | succ n277 ih277 =>
                              intro y277_3 d277_F18 d277_F19 hg157 f158 f159 c277277
                              show pw (B_reform_277 g w158 k315 (L_reform_277 g w158 k315 n277) y277_3 d277_F18 d277_F19) _
                              unfold B_reform_277
                              have c3 := clampI (x := y277_3) (by omega)
                              refine pw_if (fun hb283 => ?_)
                              obtain ⟨hbl283, hbr283⟩ := hb283
                              have f160 := hF144 (Int32.toNatClampNeg (g 9))
                              refine pw_ite (fun c284 => ?_) (fun c284 => ?_)
                              · have c284 := (z_le _ _).mp c284
                                refine pw_j2 ek315 (fun z315_1 ez315_1 z315_2 ez315_2 => ?_)
                                subst ez315_1 ez315_2
                                have hc277 := c277277
                                have hk2 : Int32.toNatClampNeg (d92_F12 6) ≤ Int32.toNatClampNeg y277_3 := by omega
                                have lp317 : ∀ (n317 : Nat) (y317_3 : Int32) (d317_F20 : (Nat → Int32)) (d317_F21 : (Nat → Int32)), rng (-1) 16 d317_F21 → (0 ≤ y317_3.toInt ∧ y317_3.toInt ≤ 80) → y317_3.toInt ≤ 2 * (d92_F13 6).toInt → (CPI d317_F20 d317_F21 d92_F20 d92_F21 480 (80 * (Int32.toNatClampNeg (g 9))) 80 (Int32.toNatClampNeg y317_3)) → pw (L_reform_317 g d92_g3 d92_g4 d92_g5 d92_g6 d92_g7 d92_g8 w132 w145 w158 w171 d174_F14 d174_F15 d217_F16 d217_F17 d277_F18 d277_F19 n317 y317_3 d317_F20 d317_F21) (QF_reform g F p0 f n ld) := by
                                  intro n317
                                  induction n317 with
                                  | zero => intros; exact pw_none
                                  | succ n317 ih317 =>
                                    intro y317_3 d317_F20 d317_F21 hg161 f162 f163 c317317
                                    show pw (B_reform_317 g d92_g3 d92_g4 d92_g5 d92_g6 d92_g7 d92_g8 w132 w145 w158 w171 d174_F14 d174_F15 d217_F16 d217_F17 d277_F18 d277_F19 (L_reform_317 g d92_g3 d92_g4 d92_g5 d92_g6 d92_g7 d92_g8 w132 w145 w158 w171 d174_F14 d174_F15 d217_F16 d217_F17 d277_F18 d277_F19 n317) y317_3 d317_F20 d317_F21) _
                                    unfold B_reform_317
                                    have c3 := clampI (x := y317_3) (by omega)
                                    refine pw_if (fun hb324 => ?_)
                                    obtain ⟨hbl324, hbr324⟩ := hb324
                                    have f164 := hF146 (Int32.toNatClampNeg (g 9))
                                    have f165 : (2 * (w171 (Int32.toNatClampNeg (g 9)))).toInt = 2 * (w171 (Int32.toNatClampNeg (g 9))).toInt := z_muld (by decide +kernel) (by omega) (by omega)
                                    refine pw_ite (fun c326 => ?_) (fun c326 => ?_)
                                    · have c326 := (z_le _ _).mp c326
                                      have hc317 := c317317
                                      have hk3 : 2 * Int32.toNatClampNeg (d92_F13 6) ≤ Int32.toNatClampNeg y317_3 := by omega
                                      have f166 : ((g 9) + 1).toInt = (g 9).toInt + 1 := z_addc (by decide +kernel) (by omega) (by omega)
                                      refine pw_vl (fun x364 ex364 => ?_)
                                      have f167 : x364.toInt = ((g 9) + 1).toInt := congrArg Int32.toInt ex364
                                      have hg168 : ((0) ≤ x364.toInt ∧ x364.toInt ≤ 6) := ⟨by omega, by omega⟩
                                      have hLQ169 : LQ w145 d174_F15 x364 := by
                                        exact lq_new hLQ148 (by omega) (by omega) (by omega) hl9 (by assumption)
                                      have hg170 : ((0) ≤ (0 : Int32).toInt ∧ (0 : Int32).toInt ≤ 1) := ⟨by omega, by omega⟩
                                      have qq0 : (p0.toInt ≤ ld ∨ 100000 < p0.toInt → (g 9).toInt = -2 ∧ x364.toInt = (g 9).toInt ∧ d92_g7.toInt = (g 7).toInt ∧ d92_g8.toInt = (g 8).toInt) := by intro h; exfalso; omega
                                      have qq1 : (ld < p0.toInt ∧ p0.toInt ≤ 100000 → ∀ x, (parF f n (n + 1) 0 ([], [], [])).1 = some x → (g 9).toInt = -1 ∧ x364.toInt = (g 9).toInt ∧ ERR (some x) d92_g7 d92_g8) := by intro _ x hx; rw [hR] at hx; cases hx
                                      have qq2 : (ld < p0.toInt ∧ p0.toInt ≤ 100000 → (parF f n (n + 1) 0 ([], [], [])).1 = none → (g 9).toInt = 6 → (g 9).toInt = -3 ∧ x364.toInt = (g 9).toInt ∧ d92_g7.toInt = 0 ∧ d92_g8.toInt = -1) := by intro _ _ h; exfalso; omega
                                      have qq3 : (ld < p0.toInt ∧ p0.toInt ≤ 100000 → (parF f n (n + 1) 0 ([], [], [])).1 = none → (g 9).toInt < 6 → (g 9).toInt = (g 9).toInt ∧ x364.toInt = (g 9).toInt + 1 ∧ d92_g7.toInt = 0 ∧ d92_g8.toInt = -1 ∧ w132 (Int32.toNatClampNeg (g 9)) = p0 ∧ (entR (w171 (Int32.toNatClampNeg (g 9))) d317_F20 d317_F21 (80 * (Int32.toNatClampNeg (g 9))), prtR (w158 (Int32.toNatClampNeg (g 9))) d277_F18 d277_F19 (40 * (Int32.toNatClampNeg (g 9))), lwsR (w145 (Int32.toNatClampNeg (g 9))) d174_F14 d174_F15 d217_F16 d217_F17 (40 * (Int32.toNatClampNeg (g 9)))) = (parF f n (n + 1) 0 ([], [], [])).2) := by intro _ _ _; refine ⟨by omega, by omega, by omega, by omega, by rw [ew132, pk_us], ?_⟩; rw [hR, hl11, hl12, hl13]; refine Prod.ext ?_ (Prod.ext ?_ ?_); (show entR _ _ _ _ = d1.1; rw [hv1]; exact ent_cp hc317 hk3); (show prtR _ _ _ _ = d1.2.1; rw [hv2]; exact prt_cp hc277 hk2); (show lwsR _ _ _ _ _ _ = d1.2.2; rw [hv3]; exact lws_cp hcw hk4 rfl (by omega) (fun q hq => hf1 q (by omega)))
                                      have qq4 : (∀ q, q < (Int32.toNatClampNeg (g 9)) → w132 q = (F 10) q ∧ (entR (w171 q) d317_F20 d317_F21 (80 * q), prtR (w158 q) d277_F18 d277_F19 (40 * q), lwsR (w145 q) d174_F14 d174_F15 d217_F16 d217_F17 (40 * q)) = (entR ((F 13) q) (F 20) (F 21) (80 * q), prtR ((F 12) q) (F 18) (F 19) (40 * q), lwsR ((F 11) q) (F 14) (F 15) (F 16) (F 17) (40 * q))) := by intro q hq; have hq9 : q ≠ (Int32.toNatClampNeg (g 9)) := (by omega); refine ⟨by rw [ew132]; exact pk_un hq9, ?_⟩; rw [show w171 q = (F 13) q from by rw [ew171, pk_un hq9]; exact fl92.2 q (by omega), show w158 q = (F 12) q from by rw [ew158, pk_un hq9]; exact fp92.2 q (by omega), show w145 q = (F 11) q from by rw [ew145, pk_un hq9]; exact fw92.2.2 q (by omega)]; have b3 := hzF13 q; have b2 := hzF12 q; have b1 := hzF11 q; have z3 := clampI (x := (F 13) q) (by omega); have z2 := clampI (x := (F 12) q) (by omega); have z1 := clampI (x := (F 11) q) (by omega); refine Prod.ext (ent_far (fun z h1 h2 => ?_)) (Prod.ext (prt_far (fun z h1 h2 => ?_)) (lws_far (fun z h1 h2 => ?_) (fun z h1 h2 => ?_))); (obtain ⟨a1, a2⟩ := hc317.2 z (by omega); obtain ⟨b4, b5⟩ := fl92.1 z (by omega); exact ⟨a1.trans b4, a2.trans b5⟩); (exact ((hc277.2 z (by omega)).1).trans (fp92.1 z (by omega))); (exact ((hcw.2 z (by omega)).1).trans (fw92.1 z (by omega))); (obtain ⟨a1, a2⟩ := hf2 z (by omega); obtain ⟨b4, b5⟩ := fw92.2.1 z (by omega); exact ⟨a1.trans b4, a2.trans b5⟩)
                                      have qq5 : ((x364.toInt = (g 9).toInt → (0 : Int32) = (g 51)) ∧ (x364.toInt = (g 9).toInt + 1 → (0 : Int32).toInt = 0)) := by exact ⟨fun h => by omega, fun _ => by omega⟩
                                      exact pw_some ⟨qq0, qq1, qq2, qq3, qq4, qq5⟩
                                    · have c326 := z_nle c326
                                      have f171 : (480 + y317_3).toInt = 480 + y317_3.toInt := z_addd (by decide +kernel) (by omega) (by omega)
                                      have f172 : (80 * (g 9)).toInt = 80 * (g 9).toInt := z_muld (by decide +kernel) (by omega) (by omega)
                                      have f173 : ((80 * (g 9)) + y317_3).toInt = (80 * (g 9)).toInt + y317_3.toInt := z_add (by omega) (by omega)
                                      have hpr348_0 : (0 ≤ (480 + y317_3).toInt ∧ (480 + y317_3).toInt < 560) := by first | assumption | omega
                                      have hpr348_1 : 16 * 560 ≤ 8960 := by first | assumption | omega
                                      have hpr348_2 : 8960 ≤ 500000 := by first | assumption | omega
                                      have hpr348_3 : (0 ≤ ((80 * (g 9)) + y317_3).toInt ∧ ((80 * (g 9)) + y317_3).toInt < 560) := by first | assumption | omega
                                      refine pw_b2 (fun c348_F20 c348_F21 hc348 => ?_)
                                      have hq348 := wp_at (ok_copy d317_F20 8960 d317_F21 560 (480 + y317_3) ((80 * (g 9)) + y317_3) hg161 hpr348_0 hpr348_1 hpr348_2 hpr348_3) hc348
                                      obtain ⟨hg174, f175⟩ : (rng (-1) 16 c348_F21) ∧ (c348_F21 = upd d317_F21 (Int32.toNatClampNeg ((80 * (g 9)) + y317_3)) (d317_F21 (Int32.toNatClampNeg (480 + y317_3)))) := hq348
                                      have h8348_hne : (480 + y317_3).toInt ≠ ((80 * (g 9)) + y317_3).toInt := by omega
                                      have h8348_hbw : BW (WR d317_F20 d317_F21 (Int32.toNatClampNeg (480 + y317_3))) := by have x1 := clampI (x := (480 + y317_3)) (by omega); rw [show Int32.toNatClampNeg (480 + y317_3) = 480 + Int32.toNatClampNeg y317_3 by omega, (c317317.2 _ (by omega)).1]; exact bw_e (b := 480) (k := Int32.toNatClampNeg y317_3) v6 hv1 (by omega)
                                      have hx348 := pwq (fn_copy d317_F20 8960 d317_F21 560 (480 + y317_3) ((80 * (g 9)) + y317_3) hg161 hpr348_0 hpr348_1 hpr348_2 hpr348_3 h8348_hne h8348_hbw) hc348
                                      obtain ⟨p348_0, p348_1⟩ : (WR c348_F20 c348_F21 (Int32.toNatClampNeg ((80 * (g 9)) + y317_3)) = WR d317_F20 d317_F21 (Int32.toNatClampNeg (480 + y317_3))) ∧ (id ((∀ q, q ≠ Int32.toNatClampNeg ((80 * (g 9)) + y317_3) → WR c348_F20 c348_F21 q = WR d317_F20 d317_F21 q))) := hx348
                                      have f176 : (y317_3 + 1).toInt = y317_3.toInt + (1) := z_addc (by decide +kernel) (by omega) (by omega)
                                      have iv317_0 : (0 ≤ (y317_3 + 1).toInt ∧ (y317_3 + 1).toInt ≤ 80) := by omega
                                      have iv317_1 : (y317_3 + 1).toInt ≤ 2 * (d92_F13 6).toInt := by omega
                                      have iv317_2 : (CPI c348_F20 c348_F21 d92_F20 d92_F21 480 (80 * (Int32.toNatClampNeg (g 9))) 80 (Int32.toNatClampNeg (y317_3 + 1))) := by have x1 := clampI (x := (480 + y317_3)) (by omega); have x2 := clampI (x := ((80 * (g 9)) + y317_3)) (by omega); have x3 := clampI (x := y317_3 + 1) (by omega); have e1 : Int32.toNatClampNeg (480 + y317_3) = 480 + Int32.toNatClampNeg y317_3 := (by omega); have e2 : Int32.toNatClampNeg ((80 * (g 9)) + y317_3) = 80 * (Int32.toNatClampNeg (g 9)) + Int32.toNatClampNeg y317_3 := (by omega); rw [show Int32.toNatClampNeg (y317_3 + 1) = Int32.toNatClampNeg y317_3 + 1 by omega]; rw [e1, e2] at p348_0; rw [e2] at p348_1; refine cpi_step c317317 (by omega) (by omega) p348_0 p348_1 ?_; rw [← e1, ← e2]; assumption
                                      exact ih317 (y317_3 + 1) c348_F20 c348_F21 hg174 iv317_0 iv317_1 iv317_2
                                exact lp317 NN (0 : Int32) d92_F20 d92_F21 hg136 (show (0 ≤ (0 : Int32).toInt ∧ (0 : Int32).toInt ≤ 80) from by omega) (show (0 : Int32).toInt ≤ 2 * (d92_F13 6).toInt from by omega) (show (CPI d92_F20 d92_F21 d92_F20 d92_F21 480 (80 * (Int32.toNatClampNeg (g 9))) 80 (Int32.toNatClampNeg (0 : Int32))) from by exact cpi_0)
                              · have c284 := z_nle c284
                                have f177 : (240 + y277_3).toInt = 240 + y277_3.toInt := z_addd (by decide +kernel) (by omega) (by omega)
                                have f178 : (40 * (g 9)).toInt = 40 * (g 9).toInt := z_muld (by decide +kernel) (by omega) (by omega)
                                have f179 : ((40 * (g 9)) + y277_3).toInt = (40 * (g 9)).toInt + y277_3.toInt := z_add (by omega) (by omega)
                                have hpr306_0 : (0 ≤ (240 + y277_3).toInt ∧ (240 + y277_3).toInt < 280) := by first | assumption | omega
                                have hpr306_1 : 16 * 280 ≤ 4480 := by first | assumption | omega
                                have hpr306_2 : 4480 ≤ 500000 := by first | assumption | omega
                                have hpr306_3 : (0 ≤ ((40 * (g 9)) + y277_3).toInt ∧ ((40 * (g 9)) + y277_3).toInt < 280) := by first | assumption | omega
                                refine pw_b2 (fun c306_F18 c306_F19 hc306 => ?_)
                                have hq306 := wp_at (ok_copy d277_F18 4480 d277_F19 280 (240 + y277_3) ((40 * (g 9)) + y277_3) hg157 hpr306_0 hpr306_1 hpr306_2 hpr306_3) hc306
                                obtain ⟨hg180, f181⟩ : (rng (-1) 16 c306_F19) ∧ (c306_F19 = upd d277_F19 (Int32.toNatClampNeg ((40 * (g 9)) + y277_3)) (d277_F19 (Int32.toNatClampNeg (240 + y277_3)))) := hq306
                                have h8306_hne : (240 + y277_3).toInt ≠ ((40 * (g 9)) + y277_3).toInt := by omega
                                have h8306_hbw : BW (WR d277_F18 d277_F19 (Int32.toNatClampNeg (240 + y277_3))) := by have x1 := clampI (x := (240 + y277_3)) (by omega); rw [show Int32.toNatClampNeg (240 + y277_3) = 240 + Int32.toNatClampNeg y277_3 by omega, (c277277.2 _ (by omega)).1]; exact bw_p (b := 240) (k := Int32.toNatClampNeg y277_3) v6 hv2 (by omega)
                                have hx306 := pwq (fn_copy d277_F18 4480 d277_F19 280 (240 + y277_3) ((40 * (g 9)) + y277_3) hg157 hpr306_0 hpr306_1 hpr306_2 hpr306_3 h8306_hne h8306_hbw) hc306
                                obtain ⟨p306_0, p306_1⟩ : (WR c306_F18 c306_F19 (Int32.toNatClampNeg ((40 * (g 9)) + y277_3)) = WR d277_F18 d277_F19 (Int32.toNatClampNeg (240 + y277_3))) ∧ (id ((∀ q, q ≠ Int32.toNatClampNeg ((40 * (g 9)) + y277_3) → WR c306_F18 c306_F19 q = WR d277_F18 d277_F19 q))) := hx306
                                have f182 : (y277_3 + 1).toInt = y277_3.toInt + (1) := z_addc (by decide +kernel) (by omega) (by omega)
                                have iv277_0 : (0 ≤ (y277_3 + 1).toInt ∧ (y277_3 + 1).toInt ≤ 40) := by omega
                                have iv277_1 : (y277_3 + 1).toInt ≤ (d92_F12 6).toInt := by omega
                                have iv277_2 : (CPI c306_F18 c306_F19 d92_F18 d92_F19 240 (40 * (Int32.toNatClampNeg (g 9))) 40 (Int32.toNatClampNeg (y277_3 + 1))) := by have x1 := clampI (x := (240 + y277_3)) (by omega); have x2 := clampI (x := ((40 * (g 9)) + y277_3)) (by omega); have x3 := clampI (x := y277_3 + 1) (by omega); have e1 : Int32.toNatClampNeg (240 + y277_3) = 240 + Int32.toNatClampNeg y277_3 := (by omega); have e2 : Int32.toNatClampNeg ((40 * (g 9)) + y277_3) = 40 * (Int32.toNatClampNeg (g 9)) + Int32.toNatClampNeg y277_3 := (by omega); rw [show Int32.toNatClampNeg (y277_3 + 1) = Int32.toNatClampNeg y277_3 + 1 by omega]; rw [e1, e2] at p306_0; rw [e2] at p306_1; refine cpi_step c277277 (by omega) (by omega) p306_0 p306_1 ?_; rw [← e1, ← e2]; assumption
                                exact ih277 (y277_3 + 1) c306_F18 c306_F19 hg180 iv277_0 iv277_1 iv277_2
                          exact lp277 NN (0 : Int32) d92_F18 d92_F19 hg135 (show (0 ≤ (0 : Int32).toInt ∧ (0 : Int32).toInt ≤ 40) from by omega) (show (0 : Int32).toInt ≤ (d92_F12 6).toInt from by omega) (show (CPI d92_F18 d92_F19 d92_F18 d92_F19 240 (40 * (Int32.toNatClampNeg (g 9))) 40 (Int32.toNatClampNeg (0 : Int32))) from by exact cpi_0)
                        · have c224 := z_nle c224
                          have f183 : (40 * (g 9)).toInt = 40 * (g 9).toInt := z_muld (by decide +kernel) (by omega) (by omega)
                          have f184 : ((40 * (g 9)) + y217_3).toInt = (40 * (g 9)).toInt + y217_3.toInt := z_add (by omega) (by omega)
                          have f185 : (240 + y217_3).toInt = 240 + y217_3.toInt := z_addd (by decide +kernel) (by omega) (by omega)
                          refine pw_if (fun hb246 => ?_)
                          obtain ⟨hbl246, hbr246⟩ := hb246
                          refine pw_if (fun hb247 => ?_)
                          obtain ⟨hbl247, hbr247⟩ := hb247
                          refine pw_vl (fun w247 ew247 => ?_)
                          refine pw_if (fun hb267 => ?_)
                          obtain ⟨hbl267, hbr267⟩ := hb267
                          refine pw_if (fun hb268 => ?_)
                          obtain ⟨hbl268, hbr268⟩ := hb268
                          refine pw_vl (fun w268 ew268 => ?_)
                          have f189 : (y217_3 + 1).toInt = y217_3.toInt + (1) := z_addc (by decide +kernel) (by omega) (by omega)
                          have iv217_0 : (0 ≤ (y217_3 + 1).toInt ∧ (y217_3 + 1).toInt ≤ 40) := by omega
                          have iv217_1 : (y217_3 + 1).toInt ≤ (d92_F11 6).toInt := by omega
                          have iv217_2 : (∀ q, q < Int32.toNatClampNeg (y217_3 + 1) → w247 (40 * (Int32.toNatClampNeg (g 9)) + q) = d92_F16 (240 + q) ∧ w268 (40 * (Int32.toNatClampNeg (g 9)) + q) = d92_F17 (240 + q)) := by intro q hq; have x1 := clampI (x := 240 + y217_3) (by omega); have x2 := clampI (x := (40 * (g 9)) + y217_3) (by omega); have x3 := clampI (x := y217_3 + 1) (by omega); have e1 : Int32.toNatClampNeg (240 + y217_3) = 240 + Int32.toNatClampNeg y217_3 := (by omega); have e2 : Int32.toNatClampNeg ((40 * (g 9)) + y217_3) = 40 * (Int32.toNatClampNeg (g 9)) + Int32.toNatClampNeg y217_3 := (by omega); have hfl := v6.2.2 (lawR d92_F14 d92_F15 d92_F16 d92_F17 (240 + Int32.toNatClampNeg y217_3)) (by rw [hv3]; exact tab_mem.mpr ⟨Int32.toNatClampNeg y217_3, by omega, rfl⟩); obtain ⟨_, _, _, _, _, hf1, hf2⟩ := hfl; have n1 : vp_nar .boolean (d92_F16 (240 + Int32.toNatClampNeg y217_3)) = d92_F16 (240 + Int32.toNatClampNeg y217_3) := (bo_id hf1); have n2 : vp_nar .boolean (d92_F17 (240 + Int32.toNatClampNeg y217_3)) = d92_F17 (240 + Int32.toNatClampNeg y217_3) := (bo_id hf2); by_cases q0 : q = Int32.toNatClampNeg y217_3; (subst q0; rw [ew247, ew268, e1, e2, pk_us, pk_us, (f2217 _ (by omega)).1, (f2217 _ (by omega)).2]; exact ⟨n1, n2⟩); (rw [ew247, ew268, e2, pk_un (by omega), pk_un (by omega)]; exact f1217 q (by omega))
                          have iv217_3 : (∀ q, (q < 40 * (Int32.toNatClampNeg (g 9)) ∨ 40 * (Int32.toNatClampNeg (g 9)) + 40 ≤ q) → w247 q = d92_F16 q ∧ w268 q = d92_F17 q) := by intro q hq; have x1 := clampI (x := 240 + y217_3) (by omega); have x2 := clampI (x := (40 * (g 9)) + y217_3) (by omega); have x3 := clampI (x := y217_3 + 1) (by omega); have e1 : Int32.toNatClampNeg (240 + y217_3) = 240 + Int32.toNatClampNeg y217_3 := (by omega); have e2 : Int32.toNatClampNeg ((40 * (g 9)) + y217_3) = 40 * (Int32.toNatClampNeg (g 9)) + Int32.toNatClampNeg y217_3 := (by omega); rw [ew247, ew268, e2, pk_un (by omega), pk_un (by omega)]; exact f2217 q hq
                          exact ih217 (y217_3 + 1) w247 w268 iv217_0 iv217_1 iv217_2 iv217_3
                    exact lp217 NN (0 : Int32) d92_F16 d92_F17 (show (0 ≤ (0 : Int32).toInt ∧ (0 : Int32).toInt ≤ 40) from by omega) (show (0 : Int32).toInt ≤ (d92_F11 6).toInt from by omega) (show (∀ q, q < Int32.toNatClampNeg (0 : Int32) → d92_F16 (40 * (Int32.toNatClampNeg (g 9)) + q) = d92_F16 (240 + q) ∧ d92_F17 (40 * (Int32.toNatClampNeg (g 9)) + q) = d92_F17 (240 + q)) from by intro q hq; exfalso; have hz : Int32.toNatClampNeg (0 : Int32) = 0 := (by decide); omega) (show (∀ q, (q < 40 * (Int32.toNatClampNeg (g 9)) ∨ 40 * (Int32.toNatClampNeg (g 9)) + 40 ≤ q) → d92_F16 q = d92_F16 q ∧ d92_F17 q = d92_F17 q) from by intro q hq; exact ⟨rfl, rfl⟩)
                  · have c183 := z_nle c183
                    have f190 : (960 + y174_3).toInt = 960 + y174_3.toInt := z_addd (by decide +kernel) (by omega) (by omega)
                    have f191 : (160 * (g 9)).toInt = 160 * (g 9).toInt := z_muld (by decide +kernel) (by omega) (by omega)
                    have f192 : ((160 * (g 9)) + y174_3).toInt = (160 * (g 9)).toInt + y174_3.toInt := z_add (by omega) (by omega)
                    have hpr206_0 : (0 ≤ (960 + y174_3).toInt ∧ (960 + y174_3).toInt < 1120) := by first | assumption | omega
                    have hpr206_1 : 16 * 1120 ≤ 17920 := by first | assumption | omega
                    have hpr206_2 : 17920 ≤ 500000 := by first | assumption | omega
                    have hpr206_3 : (0 ≤ ((160 * (g 9)) + y174_3).toInt ∧ ((160 * (g 9)) + y174_3).toInt < 1120) := by first | assumption | omega
                    refine pw_b2 (fun c206_F14 c206_F15 hc206 => ?_)
                    have hq206 := wp_at (ok_copy d174_F14 17920 d174_F15 1120 (960 + y174_3) ((160 * (g 9)) + y174_3) hg147 hpr206_0 hpr206_1 hpr206_2 hpr206_3) hc206
                    obtain ⟨hg193, f194⟩ : (rng (-1) 16 c206_F15) ∧ (c206_F15 = upd d174_F15 (Int32.toNatClampNeg ((160 * (g 9)) + y174_3)) (d174_F15 (Int32.toNatClampNeg (960 + y174_3)))) := hq206
                    have h8206_hne : (960 + y174_3).toInt ≠ ((160 * (g 9)) + y174_3).toInt := by omega
                    have h8206_hbw : BW (WR d174_F14 d174_F15 (Int32.toNatClampNeg (960 + y174_3))) := by have x1 := clampI (x := (960 + y174_3)) (by omega); rw [show Int32.toNatClampNeg (960 + y174_3) = 960 + Int32.toNatClampNeg y174_3 by omega, (cw174.2 _ (by omega)).1]; exact bw_l (b := 240) (k := Int32.toNatClampNeg y174_3) v6 hv3 (by omega)
                    have hx206 := pwq (fn_copy d174_F14 17920 d174_F15 1120 (960 + y174_3) ((160 * (g 9)) + y174_3) hg147 hpr206_0 hpr206_1 hpr206_2 hpr206_3 h8206_hne h8206_hbw) hc206
                    obtain ⟨p206_0, p206_1⟩ : (WR c206_F14 c206_F15 (Int32.toNatClampNeg ((160 * (g 9)) + y174_3)) = WR d174_F14 d174_F15 (Int32.toNatClampNeg (960 + y174_3))) ∧ (id ((∀ q, q ≠ Int32.toNatClampNeg ((160 * (g 9)) + y174_3) → WR c206_F14 c206_F15 q = WR d174_F14 d174_F15 q))) := hx206
                    have hLQ195 : LQ w145 c206_F15 (g 9) := by
                      exact lq_copy (k := y174_3) hLQ148 (by assumption) (by omega) (by omega) (by omega) (by omega) (by assumption)
                    have f196 : (y174_3 + 1).toInt = y174_3.toInt + (1) := z_addc (by decide +kernel) (by omega) (by omega)
                    have iv174_0 : (0 ≤ (y174_3 + 1).toInt ∧ (y174_3 + 1).toInt ≤ 160) := by first | omega | exact cpy_step hcp174 (by assumption) (by omega) (by omega) (by omega) (by omega) (by omega) (by omega)
                    have iv174_1 : (y174_3 + 1).toInt ≤ 4 * (w145 6).toInt := by first | omega | exact cpy_step hcp174 (by assumption) (by omega) (by omega) (by omega) (by omega) (by omega) (by omega)
                    have iv174_2 : (∀ t : Nat, (t : Int) < (y174_3 + 1).toInt → c206_F15 (160 * (g 9).toInt.toNat + t) = c206_F15 (960 + t)) := by first | exact cpy_step hcp174 (by assumption) (by omega) (by omega) (by omega) (by omega) (by omega) (by omega) | omega
                    have iv174_3 : (CPI c206_F14 c206_F15 d92_F14 d92_F15 960 (160 * (Int32.toNatClampNeg (g 9))) 160 (Int32.toNatClampNeg (y174_3 + 1))) := by have x1 := clampI (x := (960 + y174_3)) (by omega); have x2 := clampI (x := ((160 * (g 9)) + y174_3)) (by omega); have x3 := clampI (x := y174_3 + 1) (by omega); have e1 : Int32.toNatClampNeg (960 + y174_3) = 960 + Int32.toNatClampNeg y174_3 := (by omega); have e2 : Int32.toNatClampNeg ((160 * (g 9)) + y174_3) = 160 * (Int32.toNatClampNeg (g 9)) + Int32.toNatClampNeg y174_3 := (by omega); rw [show Int32.toNatClampNeg (y174_3 + 1) = Int32.toNatClampNeg y174_3 + 1 by omega]; rw [e1, e2] at p206_0; rw [e2] at p206_1; refine cpi_step cw174 (by omega) (by omega) p206_0 p206_1 ?_; rw [← e1, ← e2]; assumption
                    exact ih174 (y174_3 + 1) c206_F14 c206_F15 hg193 hLQ195 iv174_0 iv174_1 iv174_2 iv174_3
              exact lp174 NN (0 : Int32) d92_F14 d92_F15 hg134 hLQ142 (show (0 ≤ (0 : Int32).toInt ∧ (0 : Int32).toInt ≤ 160) from by first | omega | exact (fun t ht => absurd ht (by omega))) (show (0 : Int32).toInt ≤ 4 * (w145 6).toInt from by first | omega | exact (fun t ht => absurd ht (by omega))) (show (∀ t : Nat, (t : Int) < (0 : Int32).toInt → d92_F15 (160 * (g 9).toInt.toNat + t) = d92_F15 (960 + t)) from by first | exact (fun t ht => absurd ht (by omega)) | omega) (show (CPI d92_F14 d92_F15 d92_F14 d92_F15 960 (160 * (Int32.toNatClampNeg (g 9))) 160 (Int32.toNatClampNeg (0 : Int32))) from by exact cpi_0)
          · have c97 := z_ne c97
            obtain ⟨k, e1, d1, v1, v2, v3, v4, v5, v6⟩ := pf92
            have hMI101 : id (MInv (upd (upd (upd (upd (upd (upd (upd (upd g 1 0) 2 (g 1)) 3 d92_g3) 4 d92_g4) 5 d92_g5) 6 d92_g6) 7 d92_g7) 8 d92_g8) (upF (upF (upF (upF (upF (upF (upF (upF (upF (upF (upF F 11 d92_F11) 12 d92_F12) 13 d92_F13) 14 d92_F14) 15 d92_F15) 16 d92_F16) 17 d92_F17) 18 d92_F18) 19 d92_F19) 20 d92_F20) 21 d92_F21)) := show MInv (upd (upd (upd (upd (upd (upd (upd (upd g 1 0) 2 (g 1)) 3 d92_g3) 4 d92_g4) 5 d92_g5) 6 d92_g6) 7 d92_g7) 8 d92_g8) (upF (upF (upF (upF (upF (upF (upF (upF (upF (upF (upF F 11 d92_F11) 12 d92_F12) 13 d92_F13) 14 d92_F14) 15 d92_F15) 16 d92_F16) 17 d92_F17) 18 d92_F18) 19 d92_F19) 20 d92_F20) 21 d92_F21) from (MInv_i hg2 hg1 hg125 hg126 hg127 hg128 hg129 hg130 hzg9 ((hI9.2.2.2.2.2.2.2.2.2.1)) ((hI9.2.2.2.2.2.2.2.2.2.2.1)) ((hI9.2.2.2.2.2.2.2.2.2.2.2.1)) ((hI9.2.2.2.2.2.2.2.2.2.2.2.2.1)) ((hI9.2.2.2.2.2.2.2.2.2.2.2.2.2.1)) ((hI9.2.2.2.2.2.2.2.2.2.2.2.2.2.2.1)) ((hI9.2.2.2.2.2.2.2.2.2.2.2.2.2.2.2.1)) ((hI9.2.2.2.2.2.2.2.2.2.2.2.2.2.2.2.2.1)) ((hI9.2.2.2.2.2.2.2.2.2.2.2.2.2.2.2.2.2.1)) hzg51 ((hI9.2.2.2.2.2.2.2.2.2.2.2.2.2.2.2.2.2.2.2.1)) ((hI9.2.2.2.2.2.2.2.2.2.2.2.2.2.2.2.2.2.2.2.2.1)) ((hI9.2.2.2.2.2.2.2.2.2.2.2.2.2.2.2.2.2.2.2.2.2.1)) ((hI9.2.2.2.2.2.2.2.2.2.2.2.2.2.2.2.2.2.2.2.2.2.2.1)) ((hI9.2.2.2.2.2.2.2.2.2.2.2.2.2.2.2.2.2.2.2.2.2.2.2.1)) ((hI9.2.2.2.2.2.2.2.2.2.2.2.2.2.2.2.2.2.2.2.2.2.2.2.2.1)) hg131 hg132 hg133 hg134 hg135 hg136 hzF24 hzF25 hzF26 hzF33 hzF38 hzF41 hzF43 hzF45 hzF46 hzF50 hzF53 hzF54 hLQ137)
            refine pw_b18 (fun r101 c101_g3 c101_g4 c101_g5 c101_g6 c101_g7 c101_g8 c101_F11 c101_F12 c101_F13 c101_F14 c101_F15 c101_F16 c101_F17 c101_F18 c101_F19 c101_F20 c101_F21 hc101 => ?_)
            have hq101 := wp_at (ok_readItem (upd (upd (upd (upd (upd (upd (upd (upd g 1 0) 2 (g 1)) 3 d92_g3) 4 d92_g4) 5 d92_g5) 6 d92_g6) 7 d92_g7) 8 d92_g8) (upF (upF (upF (upF (upF (upF (upF (upF (upF (upF (upF F 11 d92_F11) 12 d92_F12) 13 d92_F13) 14 d92_F14) 15 d92_F15) 16 d92_F16) 17 d92_F17) 18 d92_F18) 19 d92_F19) 20 d92_F20) 21 d92_F21) hMI101) hc101
            obtain ⟨hg197, hg198, hg199, hg200, hg201, hg202, hg203, hg204, hg205, hg206, hg207, hg208, hLQ209, f210, f211⟩ : (((0) ≤ c101_g3.toInt ∧ c101_g3.toInt ≤ 4)) ∧ (((-1) ≤ c101_g4.toInt ∧ c101_g4.toInt ≤ 8)) ∧ (((0) ≤ c101_g5.toInt ∧ c101_g5.toInt ≤ 2001)) ∧ (((0) ≤ c101_g6.toInt ∧ c101_g6.toInt ≤ 2001)) ∧ (((0) ≤ c101_g7.toInt ∧ c101_g7.toInt ≤ 4)) ∧ (((-1) ≤ c101_g8.toInt ∧ c101_g8.toInt ≤ 2001)) ∧ (rng (0) 40 c101_F11) ∧ (rng (0) 40 c101_F12) ∧ (rng (0) 40 c101_F13) ∧ (rng (-1) 16 c101_F15) ∧ (rng (-1) 16 c101_F19) ∧ (rng (-1) 16 c101_F21) ∧ (LQ c101_F11 c101_F15 (g 9)) ∧ (id ((r101.toInt = 1 → c101_g3.toInt = 4 ∨ d92_g6.toInt < c101_g6.toInt))) ∧ ((0 ≤ r101.toInt ∧ r101.toInt ≤ 1)) := hq101
            have h8101_hf : (F 0) = f := by first | assumption | omega
            have h8101_hn : Int32.toNatClampNeg (g 1) = n := by first | assumption | omega
            have h8101_htk : TKS f n (e1) d92_g3.toInt d92_g4.toInt d92_g5.toInt d92_g6.toInt := by exact v4
            have h8101_hs4 : d92_g3.toInt ≠ 4 := by first | assumption | omega
            have h8101_hd : (entR (d92_F13 6) d92_F20 d92_F21 480, prtR (d92_F12 6) d92_F18 d92_F19 240, lwsR (d92_F11 6) d92_F14 d92_F15 d92_F16 d92_F17 240) = (d1) := by exact v5
            have h8101_hwf : WFD (d1) := by exact v6
            have h8101_hfit : ∀ i, fits .byte (.int (f i)) = true := by first | assumption | omega
            have hx101 := pwq (fn_readItem (upd (upd (upd (upd (upd (upd (upd (upd g 1 0) 2 (g 1)) 3 d92_g3) 4 d92_g4) 5 d92_g5) 6 d92_g6) 7 d92_g7) 8 d92_g8) (upF (upF (upF (upF (upF (upF (upF (upF (upF (upF (upF F 11 d92_F11) 12 d92_F12) 13 d92_F13) 14 d92_F14) 15 d92_F15) 16 d92_F16) 17 d92_F17) 18 d92_F18) 19 d92_F19) 20 d92_F20) 21 d92_F21) (f) (n) (e1) (d1) hMI101 h8101_hf h8101_hn h8101_htk h8101_hs4 h8101_hd h8101_hwf h8101_hfit) hc101
            obtain ⟨p101_0, p101_1, p101_2, p101_3⟩ : (id ((∀ q, q < 480 → WR c101_F20 c101_F21 q = WR d92_F20 d92_F21 q ∧ c101_F21 q = d92_F21 q) ∧ (∀ q, q ≠ 6 → c101_F13 q = d92_F13 q))) ∧ (id ((∀ q, q < 240 → WR c101_F18 c101_F19 q = WR d92_F18 d92_F19 q) ∧ (∀ q, q ≠ 6 → c101_F12 q = d92_F12 q))) ∧ (id ((∀ q, q < 960 → WR c101_F14 c101_F15 q = WR d92_F14 d92_F15 q) ∧ (∀ q, q < 240 → c101_F16 q = d92_F16 q ∧ c101_F17 q = d92_F17 q) ∧ (∀ q, q ≠ 6 → c101_F11 q = d92_F11 q))) ∧ (OUTI (itmF f n (e1) (d1)) r101 c101_g7 c101_g8 (fun e1 d1 => TKS f n e1 c101_g3.toInt c101_g4.toInt c101_g5.toInt c101_g6.toInt ∧ (entR (c101_F13 6) c101_F20 c101_F21 480, prtR (c101_F12 6) c101_F18 c101_F19 240, lwsR (c101_F11 6) c101_F14 c101_F15 c101_F16 c101_F17 240) = d1 ∧ c101_g7.toInt = d92_g7.toInt ∧ c101_g8.toInt = d92_g8.toInt)) := hx101
            refine pw_ite (fun c104 => ?_) (fun c104 => ?_)
            · have c104 := congrArg Int32.toInt c104
              have qq0 : (p0.toInt ≤ ld ∨ 100000 < p0.toInt → (-1 : Int32).toInt = -2 ∧ (g 9).toInt = (g 9).toInt ∧ c101_g7.toInt = (g 7).toInt ∧ c101_g8.toInt = (g 8).toInt) := by intro h; exfalso; omega
              have qq1 : (ld < p0.toInt ∧ p0.toInt ≤ 100000 → ∀ x, (parF f n (n + 1) 0 ([], [], [])).1 = some x → (-1 : Int32).toInt = -1 ∧ (g 9).toInt = (g 9).toInt ∧ ERR (some x) c101_g7 c101_g8) := by obtain ⟨x, hx1, hx2⟩ := p101_3.1 (by omega); obtain ⟨k2, rfl⟩ : ∃ k2, k = k2 + 1 := ⟨k - 1, by omega⟩; have hR : parF f n (n + 1) 0 ([], [], []) = (some x, d1) := (by rw [v1]; exact par_err (TKS_n0 v4 (by omega)) hx1); intro _ y hy; rw [hR] at hy; cases hy; exact ⟨by omega, by omega, hx2⟩
              have qq2 : (ld < p0.toInt ∧ p0.toInt ≤ 100000 → (parF f n (n + 1) 0 ([], [], [])).1 = none → (g 9).toInt = 6 → (-1 : Int32).toInt = -3 ∧ (g 9).toInt = (g 9).toInt ∧ c101_g7.toInt = 0 ∧ c101_g8.toInt = -1) := by obtain ⟨x, hx1, hx2⟩ := p101_3.1 (by omega); obtain ⟨k2, rfl⟩ : ∃ k2, k = k2 + 1 := ⟨k - 1, by omega⟩; have hR : parF f n (n + 1) 0 ([], [], []) = (some x, d1) := (by rw [v1]; exact par_err (TKS_n0 v4 (by omega)) hx1); intro _ h; rw [hR] at h; cases h
              have qq3 : (ld < p0.toInt ∧ p0.toInt ≤ 100000 → (parF f n (n + 1) 0 ([], [], [])).1 = none → (g 9).toInt < 6 → (-1 : Int32).toInt = (g 9).toInt ∧ (g 9).toInt = (g 9).toInt + 1 ∧ c101_g7.toInt = 0 ∧ c101_g8.toInt = -1 ∧ (F 10) (Int32.toNatClampNeg (g 9)) = p0 ∧ (entR (c101_F13 (Int32.toNatClampNeg (g 9))) c101_F20 c101_F21 (80 * (Int32.toNatClampNeg (g 9))), prtR (c101_F12 (Int32.toNatClampNeg (g 9))) c101_F18 c101_F19 (40 * (Int32.toNatClampNeg (g 9))), lwsR (c101_F11 (Int32.toNatClampNeg (g 9))) c101_F14 c101_F15 c101_F16 c101_F17 (40 * (Int32.toNatClampNeg (g 9)))) = (parF f n (n + 1) 0 ([], [], [])).2) := by obtain ⟨x, hx1, hx2⟩ := p101_3.1 (by omega); obtain ⟨k2, rfl⟩ : ∃ k2, k = k2 + 1 := ⟨k - 1, by omega⟩; have hR : parF f n (n + 1) 0 ([], [], []) = (some x, d1) := (by rw [v1]; exact par_err (TKS_n0 v4 (by omega)) hx1); intro _ h; rw [hR] at h; cases h
              have qq4 : (∀ q, q < (Int32.toNatClampNeg (g 9)) → (F 10) q = (F 10) q ∧ (entR (c101_F13 q) c101_F20 c101_F21 (80 * q), prtR (c101_F12 q) c101_F18 c101_F19 (40 * q), lwsR (c101_F11 q) c101_F14 c101_F15 c101_F16 c101_F17 (40 * q)) = (entR ((F 13) q) (F 20) (F 21) (80 * q), prtR ((F 12) q) (F 18) (F 19) (40 * q), lwsR ((F 11) q) (F 14) (F 15) (F 16) (F 17) (40 * q))) := by have hfl : (∀ q, q < 480 → WR c101_F20 c101_F21 q = WR (F 20) (F 21) q ∧ c101_F21 q = (F 21) q) ∧ (∀ q, q ≠ 6 → c101_F13 q = (F 13) q) := ⟨fun q hq => by obtain ⟨a1, a2⟩ := p101_0.1 q hq; obtain ⟨b1, b2⟩ := fl92.1 q hq; exact ⟨a1.trans b1, a2.trans b2⟩, fun q hq => (p101_0.2 q hq).trans (fl92.2 q hq)⟩; have hfp : (∀ q, q < 240 → WR c101_F18 c101_F19 q = WR (F 18) (F 19) q) ∧ (∀ q, q ≠ 6 → c101_F12 q = (F 12) q) := ⟨fun q hq => (p101_1.1 q hq).trans (fp92.1 q hq), fun q hq => (p101_1.2 q hq).trans (fp92.2 q hq)⟩; have hfw : (∀ q, q < 960 → WR c101_F14 c101_F15 q = WR (F 14) (F 15) q) ∧ (∀ q, q < 240 → c101_F16 q = (F 16) q ∧ c101_F17 q = (F 17) q) ∧ (∀ q, q ≠ 6 → c101_F11 q = (F 11) q) := ⟨fun q hq => (p101_2.1 q hq).trans (fw92.1 q hq), fun q hq => ⟨((p101_2.2.1 q hq).1).trans (fw92.2.1 q hq).1, ((p101_2.2.1 q hq).2).trans (fw92.2.1 q hq).2⟩, fun q hq => (p101_2.2.2 q hq).trans (fw92.2.2 q hq)⟩; exact fun q hq => ⟨rfl, by rw [hfl.2 q (by omega), hfp.2 q (by omega), hfw.2.2 q (by omega)]; refine Prod.ext (ent_far (fun z h1 h2 => hfl.1 z (by have := hzF13 q; have := clampI (x := (F 13) q) (by omega); omega))) (Prod.ext (prt_far (fun z h1 h2 => hfp.1 z (by have := hzF12 q; have := clampI (x := (F 12) q) (by omega); omega))) (lws_far (fun z h1 h2 => hfw.1 z (by have := hzF11 q; have := clampI (x := (F 11) q) (by omega); omega)) (fun z h1 h2 => hfw.2.1 z (by have := hzF11 q; have := clampI (x := (F 11) q) (by omega); omega))))⟩
              have qq5 : (((g 9).toInt = (g 9).toInt → (g 51) = (g 51)) ∧ ((g 9).toInt = (g 9).toInt + 1 → (g 51).toInt = 0)) := by exact ⟨fun _ => rfl, fun h => by omega⟩
              exact pw_some ⟨qq0, qq1, qq2, qq3, qq4, qq5⟩
            · have c104 := z_ne c104
              obtain ⟨e2, d2, ho, w1, w2, w3, w4⟩ := p101_3.2 (by omega)
              have iv92_0 : c101_g7.toInt = 0 := by omega
              have iv92_1 : c101_g8.toInt = -1 := by omega
              have iv92_2 : (∃ (k e1 : Nat) (d1 : Dr), parF f n (n + 1) 0 ([], [], []) = parF f n k e1 d1 ∧ n + 1 ≤ k + e1 ∧ e1 ≤ n ∧ TKS f n e1 c101_g3.toInt c101_g4.toInt c101_g5.toInt c101_g6.toInt ∧ (entR (c101_F13 6) c101_F20 c101_F21 480, prtR (c101_F12 6) c101_F18 c101_F19 240, lwsR (c101_F11 6) c101_F14 c101_F15 c101_F16 c101_F17 240) = d1 ∧ WFD d1) := by have ho2 := itm_ok (f := f) (n := n) (e := e1) (d := d1) e2 d2 ho; obtain ⟨k2, rfl⟩ : ∃ k2, k = k2 + 1 := ⟨k - 1, by omega⟩; exact ⟨k2, e2, d2, by rw [v1]; exact par_ok (TKS_n0 v4 (by omega)) ho, by omega, by omega, w1, w2, itm_wf (z := (e2, d2)) hfit v6 ho⟩
              have iv92_3 : ((∀ q, q < 480 → WR c101_F20 c101_F21 q = WR (F 20) (F 21) q ∧ c101_F21 q = (F 21) q) ∧ (∀ q, q ≠ 6 → c101_F13 q = (F 13) q)) := by exact ⟨fun q hq => by obtain ⟨a1, a2⟩ := p101_0.1 q hq; obtain ⟨b1, b2⟩ := fl92.1 q hq; exact ⟨a1.trans b1, a2.trans b2⟩, fun q hq => (p101_0.2 q hq).trans (fl92.2 q hq)⟩
              have iv92_4 : ((∀ q, q < 240 → WR c101_F18 c101_F19 q = WR (F 18) (F 19) q) ∧ (∀ q, q ≠ 6 → c101_F12 q = (F 12) q)) := by exact ⟨fun q hq => (p101_1.1 q hq).trans (fp92.1 q hq), fun q hq => (p101_1.2 q hq).trans (fp92.2 q hq)⟩
              have iv92_5 : ((∀ q, q < 960 → WR c101_F14 c101_F15 q = WR (F 14) (F 15) q) ∧ (∀ q, q < 240 → c101_F16 q = (F 16) q ∧ c101_F17 q = (F 17) q) ∧ (∀ q, q ≠ 6 → c101_F11 q = (F 11) q)) := by exact ⟨fun q hq => (p101_2.1 q hq).trans (fw92.1 q hq), fun q hq => ⟨((p101_2.2.1 q hq).1).trans (fw92.2.1 q hq).1, ((p101_2.2.1 q hq).2).trans (fw92.2.1 q hq).2⟩, fun q hq => (p101_2.2.2 q hq).trans (fw92.2.2 q hq)⟩
              exact ih92 c101_g3 c101_g4 c101_g5 c101_g6 c101_g7 c101_g8 c101_F11 c101_F12 c101_F13 c101_F14 c101_F15 c101_F16 c101_F17 c101_F18 c101_F19 c101_F20 c101_F21 hg197 hg198 hg199 hg200 hg201 hg202 hg203 hg204 hg205 hg206 hg207 hg208 hLQ209 iv92_0 iv92_1 iv92_2 iv92_3 iv92_4 iv92_5
      exact lp92 NN c89_g3 c89_g4 c89_g5 c89_g6 (0 : Int32) (-1 : Int32) w66 w74 w82 (F 14) (F 15) (F 16) (F 17) (F 18) (F 19) (F 20) (F 21) hg118 hg119 hg120 hg121 hg111 hg112 hF113 hF115 hF116 hzF15 hzF19 hzF21 hLQ114 (show (0 : Int32).toInt = 0 from by omega) (show (-1 : Int32).toInt = -1 from by omega) (show (∃ (k e1 : Nat) (d1 : Dr), parF f n (n + 1) 0 ([], [], []) = parF f n k e1 d1 ∧ n + 1 ≤ k + e1 ∧ e1 ≤ n ∧ TKS f n e1 c89_g3.toInt c89_g4.toInt c89_g5.toInt c89_g6.toInt ∧ (entR (w82 6) (F 20) (F 21) 480, prtR (w74 6) (F 18) (F 19) 240, lwsR (w66 6) (F 14) (F 15) (F 16) (F 17) 240) = d1 ∧ WFD d1) from by exact ⟨n + 1, 0, ([], [], []), rfl, by omega, by omega, p89_0, by rw [ew66, ew74, ew82, pk_us, pk_us, pk_us]; rfl, wfd_0⟩) (show ((∀ q, q < 480 → WR (F 20) (F 21) q = WR (F 20) (F 21) q ∧ (F 21) q = (F 21) q) ∧ (∀ q, q ≠ 6 → w82 q = (F 13) q)) from by exact ⟨fun _ _ => ⟨rfl, rfl⟩, fun q hq => by rw [ew82]; exact pk_un hq⟩) (show ((∀ q, q < 240 → WR (F 18) (F 19) q = WR (F 18) (F 19) q) ∧ (∀ q, q ≠ 6 → w74 q = (F 12) q)) from by exact ⟨fun _ _ => rfl, fun q hq => by rw [ew74]; exact pk_un hq⟩) (show ((∀ q, q < 960 → WR (F 14) (F 15) q = WR (F 14) (F 15) q) ∧ (∀ q, q < 240 → (F 16) q = (F 16) q ∧ (F 17) q = (F 17) q) ∧ (∀ q, q ≠ 6 → w66 q = (F 11) q)) from by exact ⟨fun _ _ => rfl, fun _ _ => ⟨rfl, rfl⟩, fun q hq => by rw [ew66]; exact pk_un hq⟩)
