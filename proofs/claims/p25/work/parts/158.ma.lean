abbrev QF_readListed (g : Nat → Int32) (F : Nat → Nat → Int32) (p0 : Int32) (f : Nat → Int32) (n : Nat) (pl : Nat) (e : Nat) (d : Dr) (isL : Bool) : (Int32 × Int32 × Int32 × Int32 × Int32 × Int32 × Int32 × (Nat → Int32) × (Nat → Int32) × (Nat → Int32)) → Prop := (fun t => ((∀ q, q < 480 → WR (t.2.2.2.2.2.2.2.2.1) (t.2.2.2.2.2.2.2.2.2) q = WR (F 20) (F 21) q ∧ (t.2.2.2.2.2.2.2.2.2) q = (F 21) q) ∧ (∀ q, q ≠ 6 → (t.2.2.2.2.2.2.2.1) q = (F 13) q)) ∧ (OUTS (entF f n pl e d isL) (t.1) (t.2.2.2.2.2.1) (t.2.2.2.2.2.2.1) f n (fun e1 d1 => TKS f n e1 (t.2.1).toInt (t.2.2.1).toInt (t.2.2.2.1).toInt (t.2.2.2.2.1).toInt ∧ (entR ((t.2.2.2.2.2.2.2.1) 6) (t.2.2.2.2.2.2.2.2.1) (t.2.2.2.2.2.2.2.2.2) 480, prtR ((F 12) 6) (F 18) (F 19) 240, lwsR ((F 11) 6) (F 14) (F 15) (F 16) (F 17) 240) = d1 ∧ (t.2.2.2.2.2.1).toInt = (g 7).toInt ∧ (t.2.2.2.2.2.2.1).toInt = (g 8).toInt)))
set_option maxHeartbeats 4000000 in
set_option maxRecDepth 100000 in
theorem fn_readListed (g : Nat → Int32) (F : Nat → Nat → Int32) (p0 : Int32) (f : Nat → Int32) (n : Nat) (pl : Nat) (e : Nat) (d : Dr) (isL : Bool) (hI : MInv g F) (hf : (F 0) = f) (hn : Int32.toNatClampNeg (g 2) = n) (he : Int32.toNatClampNeg (g 6) = e) (hat : (g 5).toInt = (pl : Int)) (hd : (entR ((F 13) 6) (F 20) (F 21) 480, prtR ((F 12) 6) (F 18) (F 19) 240, lwsR ((F 11) 6) (F 14) (F 15) (F 16) (F 17) 240) = d) (hwf : WFD d) (hfit : ∀ i, fits .byte (.int (f i)) = true) (hisL : isL = decide (p0.toInt ≠ 0)) : pw (f_readListed g F p0) (QF_readListed g F p0 f n pl e d isL) := by
  unfold f_readListed
  have hI9 : id (MInv g F) := hI
  obtain ⟨-, hzg2, hzg3, hzg4, hzg5, hzg6, hzg7, hzg8, -, -, -, -, -, -, -, -, -, -, -, -, -, -, -, -, -, hzF11, hzF12, hzF13, hzF15, hzF19, hzF21, hzF24, hzF25, hzF26, hzF33, hzF38, hzF41, hzF43, hzF45, hzF46, hzF50, hzF53, hzF54, hzLQ⟩ := hI
  have zkm1 : (-1 : Int32).toInt = -1 := by decide +kernel
  have zk0 : (0 : Int32).toInt = 0 := by decide +kernel
  have zk1 : (1 : Int32).toInt = 1 := by decide +kernel
  have zk2 : (2 : Int32).toInt = 2 := by decide +kernel
  have zk3 : (3 : Int32).toInt = 3 := by decide +kernel
  have zk4 : (4 : Int32).toInt = 4 := by decide +kernel
  have zk6 : (6 : Int32).toInt = 6 := by decide +kernel
  have zk40 : (40 : Int32).toInt = 40 := by decide +kernel
  have zk240 : (240 : Int32).toInt = 240 := by decide +kernel
  have zk480 : (480 : Int32).toInt = 480 := by decide +kernel
  have e6 : Int32.toNatClampNeg (6 : Int32) = 6 := by decide
  have e13 : ((F 13) (Int32.toNatClampNeg (6 : Int32))).toInt = ((F 13) 6).toInt := by rw [e6]
  have e12 : ((F 12) (Int32.toNatClampNeg (6 : Int32))).toInt = ((F 12) 6).toInt := by rw [e6]
  have e11 : ((F 11) (Int32.toNatClampNeg (6 : Int32))).toInt = ((F 11) 6).toInt := by rw [e6]
  have hd1 : d.1 = entR ((F 13) 6) (F 20) (F 21) 480 := by rw [← hd]
  have hd2 : d.2.1 = prtR ((F 12) 6) (F 18) (F 19) 240 := by rw [← hd]
  have hd3 : d.2.2 = lwsR ((F 11) 6) (F 14) (F 15) (F 16) (F 17) 240 := by rw [← hd]
  have hde : d.1.length = Int32.toNatClampNeg ((F 13) 6) := by rw [hd1]; exact ent_lenR
  have hdp : d.2.1.length = Int32.toNatClampNeg ((F 12) 6) := by rw [hd2]; exact prt_lenR
  have hdl : d.2.2.length = Int32.toNatClampNeg ((F 11) 6) := by rw [hd3]; exact lws_lenR
  have hb13 := hzF13 6
  have hb12 := hzF12 6
  have hb11 := hzF11 6
  have c13 := clampI (x := (F 13) 6) (by omega)
  have c12 := clampI (x := (F 12) 6) (by omega)
  have c11 := clampI (x := (F 11) 6) (by omega)
  refine pw_if (fun hb6 => ?_)
  obtain ⟨hbl6, hbr6⟩ := hb6
  have f1 := hzF13 (Int32.toNatClampNeg (6 : Int32))
  refine pw_ite (fun c9 => ?_) (fun c9 => ?_)
  · have c9 := congrArg Int32.toInt c9
    have hMI14 : id (MInv g F) := show MInv g F from (MInv_i ((hI9.1)) hzg2 hzg3 hzg4 hzg5 hzg6 hzg7 hzg8 ((hI9.2.2.2.2.2.2.2.2.1)) ((hI9.2.2.2.2.2.2.2.2.2.1)) ((hI9.2.2.2.2.2.2.2.2.2.2.1)) ((hI9.2.2.2.2.2.2.2.2.2.2.2.1)) ((hI9.2.2.2.2.2.2.2.2.2.2.2.2.1)) ((hI9.2.2.2.2.2.2.2.2.2.2.2.2.2.1)) ((hI9.2.2.2.2.2.2.2.2.2.2.2.2.2.2.1)) ((hI9.2.2.2.2.2.2.2.2.2.2.2.2.2.2.2.1)) ((hI9.2.2.2.2.2.2.2.2.2.2.2.2.2.2.2.2.1)) ((hI9.2.2.2.2.2.2.2.2.2.2.2.2.2.2.2.2.2.1)) ((hI9.2.2.2.2.2.2.2.2.2.2.2.2.2.2.2.2.2.2.1)) ((hI9.2.2.2.2.2.2.2.2.2.2.2.2.2.2.2.2.2.2.2.1)) ((hI9.2.2.2.2.2.2.2.2.2.2.2.2.2.2.2.2.2.2.2.2.1)) ((hI9.2.2.2.2.2.2.2.2.2.2.2.2.2.2.2.2.2.2.2.2.2.1)) ((hI9.2.2.2.2.2.2.2.2.2.2.2.2.2.2.2.2.2.2.2.2.2.2.1)) ((hI9.2.2.2.2.2.2.2.2.2.2.2.2.2.2.2.2.2.2.2.2.2.2.2.1)) ((hI9.2.2.2.2.2.2.2.2.2.2.2.2.2.2.2.2.2.2.2.2.2.2.2.2.1)) hzF11 hzF12 hzF13 hzF15 hzF19 hzF21 hzF24 hzF25 hzF26 hzF33 hzF38 hzF41 hzF43 hzF45 hzF46 hzF50 hzF53 hzF54 hzLQ)
    have hpr14_0 : 0 ≤ (4 : Int32).toInt ∧ (4 : Int32).toInt ≤ 4 := by first | assumption | omega
    refine pw_b3 (fun r14 c14_g7 c14_g8 hc14 => ?_)
    have hq14 := wp_at (ok_wrong g F (4 : Int32) hMI14 hpr14_0) hc14
    obtain ⟨hg2, hg3, f4, f5⟩ : (((0) ≤ c14_g7.toInt ∧ c14_g7.toInt ≤ 4)) ∧ (((-1) ≤ c14_g8.toInt ∧ c14_g8.toInt ≤ 2001)) ∧ (r14.toInt = 0) ∧ ((0 ≤ r14.toInt ∧ r14.toInt ≤ 1)) := hq14
    have hx14 := pwq (fn_wrong g F (4 : Int32) hMI14 hpr14_0) hc14
    obtain ⟨p14_0, p14_1, p14_2⟩ : (r14.toInt = 0) ∧ (c14_g7.toInt = (4 : Int32).toInt) ∧ (c14_g8.toInt = (g 5).toInt) := hx14
    refine pw_if (fun hb17 => ?_)
    obtain ⟨hbl17, hbr17⟩ := hb17
    have qq0 : (∀ q, q < 480 → WR (F 20) (F 21) q = WR (F 20) (F 21) q ∧ (F 21) q = (F 21) q) ∧ (∀ q, q ≠ 6 → (F 13) q = (F 13) q) := by exact ⟨fun _ _ => ⟨rfl, rfl⟩, fun _ _ => rfl⟩
    have qq1 : OUTS (entF f n pl e d isL) r14 c14_g7 c14_g8 f n (fun e1 d1 => TKS f n e1 (g 3).toInt (g 4).toInt (g 5).toInt (g 6).toInt ∧ (entR ((F 13) 6) (F 20) (F 21) 480, prtR ((F 12) 6) (F 18) (F 19) 240, lwsR ((F 11) 6) (F 14) (F 15) (F 16) (F 17) 240) = d1 ∧ c14_g7.toInt = (g 7).toInt ∧ c14_g8.toInt = (g 8).toInt) := by rw [e6] at c9; exact outs_bad (by omega) (z := some (4, pl)) (err_of rfl (by omega) (by omega) (by omega)) (fun q hq => by cases hq; exact entF_full (by omega))
    exact pw_some ⟨qq0, qq1⟩
  · have c9 := z_ne c9
    rw [e6] at c9
    have hMI19 : id (MInv g F) := show MInv g F from (MInv_i ((hI9.1)) hzg2 hzg3 hzg4 hzg5 hzg6 hzg7 hzg8 ((hI9.2.2.2.2.2.2.2.2.1)) ((hI9.2.2.2.2.2.2.2.2.2.1)) ((hI9.2.2.2.2.2.2.2.2.2.2.1)) ((hI9.2.2.2.2.2.2.2.2.2.2.2.1)) ((hI9.2.2.2.2.2.2.2.2.2.2.2.2.1)) ((hI9.2.2.2.2.2.2.2.2.2.2.2.2.2.1)) ((hI9.2.2.2.2.2.2.2.2.2.2.2.2.2.2.1)) ((hI9.2.2.2.2.2.2.2.2.2.2.2.2.2.2.2.1)) ((hI9.2.2.2.2.2.2.2.2.2.2.2.2.2.2.2.2.1)) ((hI9.2.2.2.2.2.2.2.2.2.2.2.2.2.2.2.2.2.1)) ((hI9.2.2.2.2.2.2.2.2.2.2.2.2.2.2.2.2.2.2.1)) ((hI9.2.2.2.2.2.2.2.2.2.2.2.2.2.2.2.2.2.2.2.1)) ((hI9.2.2.2.2.2.2.2.2.2.2.2.2.2.2.2.2.2.2.2.2.1)) ((hI9.2.2.2.2.2.2.2.2.2.2.2.2.2.2.2.2.2.2.2.2.2.1)) ((hI9.2.2.2.2.2.2.2.2.2.2.2.2.2.2.2.2.2.2.2.2.2.2.1)) ((hI9.2.2.2.2.2.2.2.2.2.2.2.2.2.2.2.2.2.2.2.2.2.2.2.1)) ((hI9.2.2.2.2.2.2.2.2.2.2.2.2.2.2.2.2.2.2.2.2.2.2.2.2.1)) hzF11 hzF12 hzF13 hzF15 hzF19 hzF21 hzF24 hzF25 hzF26 hzF33 hzF38 hzF41 hzF43 hzF45 hzF46 hzF50 hzF53 hzF54 hzLQ)
    refine pw_b4 (fun c19_g3 c19_g4 c19_g5 c19_g6 hc19 => ?_)
    have hq19 := wp_at (ok_scan g F hMI19) hc19
    obtain ⟨hg6, hg7, hg8, hg9, f10, f11, f12⟩ : (((0) ≤ c19_g3.toInt ∧ c19_g3.toInt ≤ 4)) ∧ (((-1) ≤ c19_g4.toInt ∧ c19_g4.toInt ≤ 8)) ∧ (((0) ≤ c19_g5.toInt ∧ c19_g5.toInt ≤ 2001)) ∧ (((0) ≤ c19_g6.toInt ∧ c19_g6.toInt ≤ 2001)) ∧ (id ((c19_g3.toInt = 2 → c19_g5.toInt + 2 ≤ c19_g6.toInt ∧ c19_g6.toInt ≤ c19_g5.toInt + 18 ∧ c19_g6.toInt ≤ 2000))) ∧ (id ((c19_g3.toInt ≠ 4 → (g 6).toInt < c19_g6.toInt))) ∧ ((g 6).toInt ≤ c19_g6.toInt) := hq19
    have h819_hf : (F 0) = f := by first | assumption | omega
    have h819_hn : Int32.toNatClampNeg (g 2) = n := by first | assumption | omega
    have h819_he : Int32.toNatClampNeg (g 6) = e := by first | assumption | omega
    have h819_hfit : ∀ i, fits .byte (.int (f i)) = true := by first | assumption | omega
    have hx19 := pwq (fn_scan g F (f) (n) (e) hMI19 h819_hf h819_hn h819_he h819_hfit) hc19
    have p19_0 : TKS f n e c19_g3.toInt c19_g4.toInt c19_g5.toInt c19_g6.toInt := hx19
    clear hx19
    refine pw_if (fun hb32 => ?_)
    obtain ⟨hbl32, hbr32⟩ := hb32
    have f14 : (240 + ((F 13) (Int32.toNatClampNeg 6))).toInt = 240 + ((F 13) (Int32.toNatClampNeg 6)).toInt := z_addd (by decide +kernel) (by omega) (by omega)
    have f15 : (2 * (240 + ((F 13) (Int32.toNatClampNeg 6)))).toInt = 2 * (240 + ((F 13) (Int32.toNatClampNeg 6))).toInt := z_muld (by decide +kernel) (by omega) (by omega)
    refine pw_vl (fun x35 ex35 => ?_)
    have f16 : x35.toInt = (2 * (240 + ((F 13) (Int32.toNatClampNeg 6)))).toInt := congrArg Int32.toInt ex35
    have hMI47 : id (MInv (upd (upd (upd (upd g 3 c19_g3) 4 c19_g4) 5 c19_g5) 6 c19_g6) F) := show MInv (upd (upd (upd (upd g 3 c19_g3) 4 c19_g4) 5 c19_g5) 6 c19_g6) F from (MInv_i ((hI9.1)) hzg2 hg6 hg7 hg8 hg9 hzg7 hzg8 ((hI9.2.2.2.2.2.2.2.2.1)) ((hI9.2.2.2.2.2.2.2.2.2.1)) ((hI9.2.2.2.2.2.2.2.2.2.2.1)) ((hI9.2.2.2.2.2.2.2.2.2.2.2.1)) ((hI9.2.2.2.2.2.2.2.2.2.2.2.2.1)) ((hI9.2.2.2.2.2.2.2.2.2.2.2.2.2.1)) ((hI9.2.2.2.2.2.2.2.2.2.2.2.2.2.2.1)) ((hI9.2.2.2.2.2.2.2.2.2.2.2.2.2.2.2.1)) ((hI9.2.2.2.2.2.2.2.2.2.2.2.2.2.2.2.2.1)) ((hI9.2.2.2.2.2.2.2.2.2.2.2.2.2.2.2.2.2.1)) ((hI9.2.2.2.2.2.2.2.2.2.2.2.2.2.2.2.2.2.2.1)) ((hI9.2.2.2.2.2.2.2.2.2.2.2.2.2.2.2.2.2.2.2.1)) ((hI9.2.2.2.2.2.2.2.2.2.2.2.2.2.2.2.2.2.2.2.2.1)) ((hI9.2.2.2.2.2.2.2.2.2.2.2.2.2.2.2.2.2.2.2.2.2.1)) ((hI9.2.2.2.2.2.2.2.2.2.2.2.2.2.2.2.2.2.2.2.2.2.2.1)) ((hI9.2.2.2.2.2.2.2.2.2.2.2.2.2.2.2.2.2.2.2.2.2.2.2.1)) ((hI9.2.2.2.2.2.2.2.2.2.2.2.2.2.2.2.2.2.2.2.2.2.2.2.2.1)) hzF11 hzF12 hzF13 hzF15 hzF19 hzF21 hzF24 hzF25 hzF26 hzF33 hzF38 hzF41 hzF43 hzF45 hzF46 hzF50 hzF53 hzF54 hzLQ)
    have hpr47_0 : (0 ≤ x35.toInt ∧ x35.toInt < 560) := by first | assumption | omega
    have hpr47_1 : 16 * 560 ≤ 8960 := by first | assumption | omega
    have hpr47_2 : 8960 ≤ 500000 := by first | assumption | omega
    have hpr47_3 : id ((c19_g3.toInt = 2 → c19_g5.toInt + 2 ≤ c19_g6.toInt ∧ c19_g6.toInt ≤ c19_g5.toInt + 18 ∧ c19_g6.toInt ≤ 2000)) := show (c19_g3.toInt = 2 → c19_g5.toInt + 2 ≤ c19_g6.toInt ∧ c19_g6.toInt ≤ c19_g5.toInt + 18 ∧ c19_g6.toInt ≤ 2000) from by first | assumption | omega
    refine pw_b5 (fun r47 c47_g7 c47_g8 c47_F20 c47_F21 hc47 => ?_)
    have hq47 := wp_at (ok_take (upd (upd (upd (upd g 3 c19_g3) 4 c19_g4) 5 c19_g5) 6 c19_g6) F (F 20) 8960 (F 21) 560 x35 (1 : Int32) hMI47 hzF21 hpr47_0 hpr47_1 hpr47_2 hpr47_3) hc47
    obtain ⟨hg17, hg18, hg19, f20, f21, f22, f23⟩ : (((0) ≤ c47_g7.toInt ∧ c47_g7.toInt ≤ 4)) ∧ (((-1) ≤ c47_g8.toInt ∧ c47_g8.toInt ≤ 2001)) ∧ (rng (-1) 16 c47_F21) ∧ (id ((r47.toInt = 1 → c19_g3.toInt = 2))) ∧ (id ((∀ k : Nat, (k : Int) ≠ x35.toInt → c47_F21 k = (F 21) k))) ∧ (id ((r47.toInt = 1 → (1 : Int32).toInt ≠ 0 → 1 ≤ (c47_F21 (Int32.toNatClampNeg x35)).toInt))) ∧ ((0 ≤ r47.toInt ∧ r47.toInt ≤ 1)) := hq47
    have h847_hf : (F 0) = f := by first | assumption | omega
    have h847_htk : TKS f n e c19_g3.toInt c19_g4.toInt c19_g5.toInt c19_g6.toInt := by exact p19_0
    have h847_hsm : (true) = decide ((1 : Int32).toInt ≠ 0) := by decide
    have h847_hfit : ∀ i, fits .byte (.int (f i)) = true := by first | assumption | omega
    have hx47 := pwq (fn_take (upd (upd (upd (upd g 3 c19_g3) 4 c19_g4) 5 c19_g5) 6 c19_g6) F (F 20) 8960 (F 21) 560 x35 (1 : Int32) (f) (n) (e) (true) hMI47 hzF21 hpr47_0 hpr47_1 hpr47_2 hpr47_3 h847_hf h847_htk h847_hsm h847_hfit) hc47
    obtain ⟨p47_0, p47_1, p47_2⟩ : (id ((r47.toInt ≠ 0 → fLet f n e (true) = none ∧ TAKEN (F 20) c47_F20 (F 21) c47_F21 (Int32.toNatClampNeg x35) f (tP f n e + 1) (tL f n e) ∧ c47_g7.toInt = (g 7).toInt ∧ c47_g8.toInt = (g 8).toInt ∧ c19_g6.toInt = ((tE f n e : Nat) : Int)))) ∧ (id ((r47.toInt = 0 → ERR (fLet f n e (true)) c47_g7 c47_g8))) ∧ (id ((r47.toInt = 0 → c47_F20 = (F 20) ∧ c47_F21 = (F 21)))) := hx47
    have cx := clampI (x := x35) (by omega)
    have hx35 : x35.toInt = 480 + 2 * ((F 13) 6).toInt := by have h := congrArg (fun z => ((F 13) z).toInt) e6; omega
    have hxk : Int32.toNatClampNeg x35 = 480 + 2 * Int32.toNatClampNeg ((F 13) 6) := by omega
    refine pw_ite (fun c50 => ?_) (fun c50 => ?_)
    · have c50 := congrArg Int32.toInt c50
      have qq0 : (∀ q, q < 480 → WR c47_F20 c47_F21 q = WR (F 20) (F 21) q ∧ c47_F21 q = (F 21) q) ∧ (∀ q, q ≠ 6 → (F 13) q = (F 13) q) := by obtain ⟨a1, a2⟩ := p47_2 (by omega); rw [a1, a2]; exact ⟨fun _ _ => ⟨rfl, rfl⟩, fun _ _ => rfl⟩
      have qq1 : OUTS (entF f n pl e d isL) (0 : Int32) c47_g7 c47_g8 f n (fun e1 d1 => TKS f n e1 c19_g3.toInt c19_g4.toInt c19_g5.toInt c19_g6.toInt ∧ (entR ((F 13) 6) c47_F20 c47_F21 480, prtR ((F 12) 6) (F 18) (F 19) 240, lwsR ((F 11) 6) (F 14) (F 15) (F 16) (F 17) 240) = d1 ∧ c47_g7.toInt = (g 7).toInt ∧ c47_g8.toInt = (g 8).toInt) := by exact outs_bad (by omega) (p47_1 (by omega)) (fun q hq => entF_new (by omega) (newF_let hq))
      exact pw_some ⟨qq0, qq1⟩
    · have c50 := z_ne c50
      obtain ⟨g1, g2, g3, g4, g5⟩ := p47_0 (by omega)
      have gk := TK_k g2
      have gf := fLet_k g1
      rw [hxk] at g2 gk
      have gw : ∀ q, q ≠ 480 + 2 * Int32.toNatClampNeg ((F 13) 6) → WR c47_F20 c47_F21 q = WR (F 20) (F 21) q := fun q hq => TK_w g2 (hzF21 q).2 hq
      have gs : ∀ q, q ≠ 480 + 2 * Int32.toNatClampNeg ((F 13) 6) → c47_F21 q = (F 21) q := fun q hq => TK_s g2 hq
      have hg47b : rng (-1) 16 c47_F21 := by assumption
      have hfa : ∀ q, q < 480 → WR c47_F20 c47_F21 q = WR (F 20) (F 21) q ∧ c47_F21 q = (F 21) q := fun q hq => ⟨gw q (by omega), gs q (by omega)⟩
      refine pw_jE (fun k92 ek92 => ?_)
      have lp59 : ∀ (n59 : Nat) (y59_3 : Int32), (480 ≤ y59_3.toInt ∧ y59_3.toInt ≤ 561) → (y59_3.toInt - 480) % 2 = 0 → (∀ i : Nat, 480 + 2 * (i : Int) < y59_3.toInt → WR (F 20) (F 21) (480 + 2 * i) ≠ tW f n e) → pw (L_readListed_59 g F c19_g3 c19_g4 c19_g5 c19_g6 x35 c47_g7 c47_g8 c47_F20 c47_F21 k92 n59 y59_3) (QF_readListed g F p0 f n pl e d isL) := by
        intro n59
        induction n59 with
        | zero => intros; exact pw_none
        | succ n59 ih59 =>
          intro y59_3 f24 f25 in59
          show pw (B_readListed_59 g F c19_g3 c19_g4 c19_g5 c19_g6 x35 c47_g7 c47_g8 c47_F20 c47_F21 k92 (L_readListed_59 g F c19_g3 c19_g4 c19_g5 c19_g6 x35 c47_g7 c47_g8 c47_F20 c47_F21 k92 n59) y59_3) _
          unfold B_readListed_59
          have c3 := clampI (x := y59_3) (by omega)
          refine pw_ite (fun c61 => ?_) (fun c61 => ?_)
          · have c61 := (z_le _ _).mp c61
            refine pw_j0 ek92 ?_
            have hnw : newF f n e (d.1.map Prod.fst) = none := newF_ok g1 (by rw [hd1, ent_fstR]; intro h; obtain ⟨j, hj, h⟩ := tab_mem.mp h; exact in59 j (by omega) h)
            have f26 : (x35 + 1).toInt = x35.toInt + 1 := z_addc (by decide +kernel) (by omega) (by omega)
            refine pw_if (fun hb100 => ?_)
            obtain ⟨hbl100, hbr100⟩ := hb100
            refine pw_vl (fun w100 ew100 => ?_)
            have hF27 : rng (-1) 16 w100 := by rw [ew100]; exact rng_upd hg19 (by omega) (by omega)
            have cx1 := clampI (x := x35 + 1) (by omega)
            have hx1 : Int32.toNatClampNeg (x35 + 1) = 480 + 2 * Int32.toNatClampNeg ((F 13) 6) + 1 := by omega
            rw [hx1] at ew100
            have hfb : ∀ q, q < 480 → WR c47_F20 w100 q = WR (F 20) (F 21) q ∧ w100 q = (F 21) q := fun q hq => by rw [show WR c47_F20 w100 q = WR c47_F20 c47_F21 q by unfold WR; rw [ew100, pk_un (by omega)], ew100, pk_un (by omega)]; exact hfa q hq
            have hMI102 : id (MInv (upd (upd (upd (upd (upd (upd g 3 c19_g3) 4 c19_g4) 5 c19_g5) 6 c19_g6) 7 c47_g7) 8 c47_g8) (upF (upF F 20 c47_F20) 21 w100)) := show MInv (upd (upd (upd (upd (upd (upd g 3 c19_g3) 4 c19_g4) 5 c19_g5) 6 c19_g6) 7 c47_g7) 8 c47_g8) (upF (upF F 20 c47_F20) 21 w100) from (MInv_i ((hI9.1)) hzg2 hg6 hg7 hg8 hg9 hg17 hg18 ((hI9.2.2.2.2.2.2.2.2.1)) ((hI9.2.2.2.2.2.2.2.2.2.1)) ((hI9.2.2.2.2.2.2.2.2.2.2.1)) ((hI9.2.2.2.2.2.2.2.2.2.2.2.1)) ((hI9.2.2.2.2.2.2.2.2.2.2.2.2.1)) ((hI9.2.2.2.2.2.2.2.2.2.2.2.2.2.1)) ((hI9.2.2.2.2.2.2.2.2.2.2.2.2.2.2.1)) ((hI9.2.2.2.2.2.2.2.2.2.2.2.2.2.2.2.1)) ((hI9.2.2.2.2.2.2.2.2.2.2.2.2.2.2.2.2.1)) ((hI9.2.2.2.2.2.2.2.2.2.2.2.2.2.2.2.2.2.1)) ((hI9.2.2.2.2.2.2.2.2.2.2.2.2.2.2.2.2.2.2.1)) ((hI9.2.2.2.2.2.2.2.2.2.2.2.2.2.2.2.2.2.2.2.1)) ((hI9.2.2.2.2.2.2.2.2.2.2.2.2.2.2.2.2.2.2.2.2.1)) ((hI9.2.2.2.2.2.2.2.2.2.2.2.2.2.2.2.2.2.2.2.2.2.1)) ((hI9.2.2.2.2.2.2.2.2.2.2.2.2.2.2.2.2.2.2.2.2.2.2.1)) ((hI9.2.2.2.2.2.2.2.2.2.2.2.2.2.2.2.2.2.2.2.2.2.2.2.1)) ((hI9.2.2.2.2.2.2.2.2.2.2.2.2.2.2.2.2.2.2.2.2.2.2.2.2.1)) hzF11 hzF12 hzF13 hzF15 hzF19 hF27 hzF24 hzF25 hzF26 hzF33 hzF38 hzF41 hzF43 hzF45 hzF46 hzF50 hzF53 hzF54 hzLQ)
            refine pw_b4 (fun c102_g3 c102_g4 c102_g5 c102_g6 hc102 => ?_)
            have hq102 := wp_at (ok_scan (upd (upd (upd (upd (upd (upd g 3 c19_g3) 4 c19_g4) 5 c19_g5) 6 c19_g6) 7 c47_g7) 8 c47_g8) (upF (upF F 20 c47_F20) 21 w100) hMI102) hc102
            obtain ⟨hg28, hg29, hg30, hg31, f32, f33, f34⟩ : (((0) ≤ c102_g3.toInt ∧ c102_g3.toInt ≤ 4)) ∧ (((-1) ≤ c102_g4.toInt ∧ c102_g4.toInt ≤ 8)) ∧ (((0) ≤ c102_g5.toInt ∧ c102_g5.toInt ≤ 2001)) ∧ (((0) ≤ c102_g6.toInt ∧ c102_g6.toInt ≤ 2001)) ∧ (id ((c102_g3.toInt = 2 → c102_g5.toInt + 2 ≤ c102_g6.toInt ∧ c102_g6.toInt ≤ c102_g5.toInt + 18 ∧ c102_g6.toInt ≤ 2000))) ∧ (id ((c102_g3.toInt ≠ 4 → c19_g6.toInt < c102_g6.toInt))) ∧ (c19_g6.toInt ≤ c102_g6.toInt) := hq102
            have h8102_hf : (F 0) = f := by first | assumption | omega
            have h8102_hn : Int32.toNatClampNeg (g 2) = n := by first | assumption | omega
            have h8102_he : Int32.toNatClampNeg c19_g6 = (tE f n e) := by have c9 := clampI (x := c19_g6) (by omega); omega
            have h8102_hfit : ∀ i, fits .byte (.int (f i)) = true := by first | assumption | omega
            have hx102 := pwq (fn_scan (upd (upd (upd (upd (upd (upd g 3 c19_g3) 4 c19_g4) 5 c19_g5) 6 c19_g6) 7 c47_g7) 8 c47_g8) (upF (upF F 20 c47_F20) 21 w100) (f) (n) (tE f n e) hMI102 h8102_hf h8102_hn h8102_he h8102_hfit) hc102
            have p102_0 : TKS f n (tE f n e) c102_g3.toInt c102_g4.toInt c102_g5.toInt c102_g6.toInt := hx102
            clear hx102
            refine pw_jE (fun j160 ej160 => ?_)
            refine pw_ite (fun c106 => ?_) (fun c106 => ?_)
            · have c106 := congrArg Int32.toInt c106
              refine pw_j8 ej160 (fun z160_1 ez160_1 z160_2 ez160_2 z160_3 ez160_3 z160_4 ez160_4 z160_5 ez160_5 z160_6 ez160_6 z160_7 ez160_7 z160_8 ez160_8 => ?_)
              subst ez160_1 ez160_2 ez160_3 ez160_4 ez160_5 ez160_6 ez160_7 ez160_8
              refine pw_if (fun hb167 => ?_)
              obtain ⟨hbl167, hbr167⟩ := hb167
              have f36 : (((F 13) (Int32.toNatClampNeg 6)) + 1).toInt = ((F 13) (Int32.toNatClampNeg 6)).toInt + 1 := z_addc (by decide +kernel) (by omega) (by omega)
              refine pw_if (fun hb170 => ?_)
              obtain ⟨hbl170, hbr170⟩ := hb170
              refine pw_vl (fun w170 ew170 => ?_)
              have hF37 : rng (0) 40 w170 := by rw [ew170]; exact rng_upd hzF13 (by omega) (by omega)
              have qq0 : (∀ q, q < 480 → WR c47_F20 w100 q = WR (F 20) (F 21) q ∧ w100 q = (F 21) q) ∧ (∀ q, q ≠ 6 → w170 q = (F 13) q) := by exact ⟨hfb, fun q hq => by rw [ew170, e6]; exact pk_un hq⟩
              have qq1 : OUTS (entF f n pl e d isL) (1 : Int32) c47_g7 c47_g8 f n (fun e1 d1 => TKS f n e1 c102_g3.toInt c102_g4.toInt c102_g5.toInt c102_g6.toInt ∧ (entR (w170 6) c47_F20 w100 480, prtR ((F 12) 6) (F 18) (F 19) 240, lwsR ((F 11) 6) (F 14) (F 15) (F 16) (F 17) 240) = d1 ∧ c47_g7.toInt = (g 7).toInt ∧ c47_g8.toInt = (g 8).toInt) := by refine outs_ok (d1 := (d.1 ++ [(tW f n e, none)], d.2)) (by omega) (e1 := tE f n e) (by rw [hisL, decide_eq_false (show ¬ p0.toInt ≠ 0 from by omega)]; exact entF_kO (by omega) hnw) ⟨p102_0, Prod.ext ?_ (Prod.ext hd2.symm hd3.symm), by omega, by omega⟩; show entR _ _ _ _ = d.1 ++ _; rw [hd1]; exact ent_addR (by rw [ew170]; show Int32.toNatClampNeg (upd (F 13) (Int32.toNatClampNeg 6) _ 6) = _; rw [e6, pk_us]; have hz9 : ((F 13) 6 + 1).toInt = ((F 13) 6).toInt + 1 := z_addc (by decide +kernel) (by omega) (by omega); have cz := clampI (x := (F 13) 6 + 1) (by omega); omega) (fun q hq => by rw [show WR c47_F20 w100 q = WR c47_F20 c47_F21 q by unfold WR; rw [ew100, pk_un (by omega)], ew100, pk_un (by omega)]; exact ⟨gw q (by omega), gs q (by omega)⟩) (by rw [show WR c47_F20 w100 (480 + 2 * Int32.toNatClampNeg ((F 13) 6)) = WR c47_F20 c47_F21 (480 + 2 * Int32.toNatClampNeg ((F 13) 6)) by unfold WR; rw [ew100, pk_un (by omega)]]; exact gk.1) (by rw [ew100, pk_us]; exact if_pos (by decide))
              exact pw_some ⟨qq0, qq1⟩
            · have c106 := z_ne c106
              refine pw_jE (fun j125 ej125 => ?_)
              refine pw_ite (fun c114 => ?_) (fun c114 => ?_)
              · have c114 := congrArg Int32.toInt c114
                refine pw_ite (fun c122 => ?_) (fun c122 => ?_)
                · have c122 := congrArg Int32.toInt c122
                  obtain ⟨hto, hen⟩ := TKS_key (k := 2) p102_0 (by omega) (by omega)
                  have hto := fTo_ok hto
                  have hMI132 : id (MInv (upd (upd (upd (upd (upd (upd g 3 c102_g3) 4 c102_g4) 5 c102_g5) 6 c102_g6) 7 c47_g7) 8 c47_g8) (upF (upF F 20 c47_F20) 21 w100)) := show MInv (upd (upd (upd (upd (upd (upd g 3 c102_g3) 4 c102_g4) 5 c102_g5) 6 c102_g6) 7 c47_g7) 8 c47_g8) (upF (upF F 20 c47_F20) 21 w100) from (MInv_i ((hI9.1)) hzg2 hg28 hg29 hg30 hg31 hg17 hg18 ((hI9.2.2.2.2.2.2.2.2.1)) ((hI9.2.2.2.2.2.2.2.2.2.1)) ((hI9.2.2.2.2.2.2.2.2.2.2.1)) ((hI9.2.2.2.2.2.2.2.2.2.2.2.1)) ((hI9.2.2.2.2.2.2.2.2.2.2.2.2.1)) ((hI9.2.2.2.2.2.2.2.2.2.2.2.2.2.1)) ((hI9.2.2.2.2.2.2.2.2.2.2.2.2.2.2.1)) ((hI9.2.2.2.2.2.2.2.2.2.2.2.2.2.2.2.1)) ((hI9.2.2.2.2.2.2.2.2.2.2.2.2.2.2.2.2.1)) ((hI9.2.2.2.2.2.2.2.2.2.2.2.2.2.2.2.2.2.1)) ((hI9.2.2.2.2.2.2.2.2.2.2.2.2.2.2.2.2.2.2.1)) ((hI9.2.2.2.2.2.2.2.2.2.2.2.2.2.2.2.2.2.2.2.1)) ((hI9.2.2.2.2.2.2.2.2.2.2.2.2.2.2.2.2.2.2.2.2.1)) ((hI9.2.2.2.2.2.2.2.2.2.2.2.2.2.2.2.2.2.2.2.2.2.1)) ((hI9.2.2.2.2.2.2.2.2.2.2.2.2.2.2.2.2.2.2.2.2.2.2.1)) ((hI9.2.2.2.2.2.2.2.2.2.2.2.2.2.2.2.2.2.2.2.2.2.2.2.1)) ((hI9.2.2.2.2.2.2.2.2.2.2.2.2.2.2.2.2.2.2.2.2.2.2.2.2.1)) hzF11 hzF12 hzF13 hzF15 hzF19 hF27 hzF24 hzF25 hzF26 hzF33 hzF38 hzF41 hzF43 hzF45 hzF46 hzF50 hzF53 hzF54 hzLQ)
                  refine pw_b4 (fun c132_g3 c132_g4 c132_g5 c132_g6 hc132 => ?_)
                  have hq132 := wp_at (ok_scan (upd (upd (upd (upd (upd (upd g 3 c102_g3) 4 c102_g4) 5 c102_g5) 6 c102_g6) 7 c47_g7) 8 c47_g8) (upF (upF F 20 c47_F20) 21 w100) hMI132) hc132
                  obtain ⟨hg38, hg39, hg40, hg41, f42, f43, f44⟩ : (((0) ≤ c132_g3.toInt ∧ c132_g3.toInt ≤ 4)) ∧ (((-1) ≤ c132_g4.toInt ∧ c132_g4.toInt ≤ 8)) ∧ (((0) ≤ c132_g5.toInt ∧ c132_g5.toInt ≤ 2001)) ∧ (((0) ≤ c132_g6.toInt ∧ c132_g6.toInt ≤ 2001)) ∧ (id ((c132_g3.toInt = 2 → c132_g5.toInt + 2 ≤ c132_g6.toInt ∧ c132_g6.toInt ≤ c132_g5.toInt + 18 ∧ c132_g6.toInt ≤ 2000))) ∧ (id ((c132_g3.toInt ≠ 4 → c102_g6.toInt < c132_g6.toInt))) ∧ (c102_g6.toInt ≤ c132_g6.toInt) := hq132
                  have h8132_hf : (F 0) = f := by first | assumption | omega
                  have h8132_hn : Int32.toNatClampNeg (g 2) = n := by first | assumption | omega
                  have h8132_he : Int32.toNatClampNeg c102_g6 = (tE f n (tE f n e)) := by have c9 := clampI (x := c102_g6) (by omega); omega
                  have h8132_hfit : ∀ i, fits .byte (.int (f i)) = true := by first | assumption | omega
                  have hx132 := pwq (fn_scan (upd (upd (upd (upd (upd (upd g 3 c102_g3) 4 c102_g4) 5 c102_g5) 6 c102_g6) 7 c47_g7) 8 c47_g8) (upF (upF F 20 c47_F20) 21 w100) (f) (n) (tE f n (tE f n e)) hMI132 h8132_hf h8132_hn h8132_he h8132_hfit) hc132
                  have p132_0 : TKS f n (tE f n (tE f n e)) c132_g3.toInt c132_g4.toInt c132_g5.toInt c132_g6.toInt := hx132
                  clear hx132
                  have hMI148 : id (MInv (upd (upd (upd (upd (upd (upd g 3 c132_g3) 4 c132_g4) 5 c132_g5) 6 c132_g6) 7 c47_g7) 8 c47_g8) (upF (upF F 20 c47_F20) 21 w100)) := show MInv (upd (upd (upd (upd (upd (upd g 3 c132_g3) 4 c132_g4) 5 c132_g5) 6 c132_g6) 7 c47_g7) 8 c47_g8) (upF (upF F 20 c47_F20) 21 w100) from (MInv_i ((hI9.1)) hzg2 hg38 hg39 hg40 hg41 hg17 hg18 ((hI9.2.2.2.2.2.2.2.2.1)) ((hI9.2.2.2.2.2.2.2.2.2.1)) ((hI9.2.2.2.2.2.2.2.2.2.2.1)) ((hI9.2.2.2.2.2.2.2.2.2.2.2.1)) ((hI9.2.2.2.2.2.2.2.2.2.2.2.2.1)) ((hI9.2.2.2.2.2.2.2.2.2.2.2.2.2.1)) ((hI9.2.2.2.2.2.2.2.2.2.2.2.2.2.2.1)) ((hI9.2.2.2.2.2.2.2.2.2.2.2.2.2.2.2.1)) ((hI9.2.2.2.2.2.2.2.2.2.2.2.2.2.2.2.2.1)) ((hI9.2.2.2.2.2.2.2.2.2.2.2.2.2.2.2.2.2.1)) ((hI9.2.2.2.2.2.2.2.2.2.2.2.2.2.2.2.2.2.2.1)) ((hI9.2.2.2.2.2.2.2.2.2.2.2.2.2.2.2.2.2.2.2.1)) ((hI9.2.2.2.2.2.2.2.2.2.2.2.2.2.2.2.2.2.2.2.2.1)) ((hI9.2.2.2.2.2.2.2.2.2.2.2.2.2.2.2.2.2.2.2.2.2.1)) ((hI9.2.2.2.2.2.2.2.2.2.2.2.2.2.2.2.2.2.2.2.2.2.2.1)) ((hI9.2.2.2.2.2.2.2.2.2.2.2.2.2.2.2.2.2.2.2.2.2.2.2.1)) ((hI9.2.2.2.2.2.2.2.2.2.2.2.2.2.2.2.2.2.2.2.2.2.2.2.2.1)) hzF11 hzF12 hzF13 hzF15 hzF19 hF27 hzF24 hzF25 hzF26 hzF33 hzF38 hzF41 hzF43 hzF45 hzF46 hzF50 hzF53 hzF54 hzLQ)
                  have hpr148_0 : (0 ≤ (x35 + 1).toInt ∧ (x35 + 1).toInt < 560) := by first | assumption | omega
                  have hpr148_1 : 16 * 560 ≤ 8960 := by first | assumption | omega
                  have hpr148_2 : 8960 ≤ 500000 := by first | assumption | omega
                  have hpr148_3 : id ((c132_g3.toInt = 2 → c132_g5.toInt + 2 ≤ c132_g6.toInt ∧ c132_g6.toInt ≤ c132_g5.toInt + 18 ∧ c132_g6.toInt ≤ 2000)) := show (c132_g3.toInt = 2 → c132_g5.toInt + 2 ≤ c132_g6.toInt ∧ c132_g6.toInt ≤ c132_g5.toInt + 18 ∧ c132_g6.toInt ≤ 2000) from by first | assumption | omega
                  refine pw_b5 (fun r148 c148_g7 c148_g8 c148_F20 c148_F21 hc148 => ?_)
                  have hq148 := wp_at (ok_take (upd (upd (upd (upd (upd (upd g 3 c132_g3) 4 c132_g4) 5 c132_g5) 6 c132_g6) 7 c47_g7) 8 c47_g8) (upF (upF F 20 c47_F20) 21 w100) c47_F20 8960 w100 560 (x35 + 1) (0 : Int32) hMI148 hF27 hpr148_0 hpr148_1 hpr148_2 hpr148_3) hc148
                  obtain ⟨hg46, hg47, hg48, f49, f50, f51, f52⟩ : (((0) ≤ c148_g7.toInt ∧ c148_g7.toInt ≤ 4)) ∧ (((-1) ≤ c148_g8.toInt ∧ c148_g8.toInt ≤ 2001)) ∧ (rng (-1) 16 c148_F21) ∧ (id ((r148.toInt = 1 → c132_g3.toInt = 2))) ∧ (id ((∀ k : Nat, (k : Int) ≠ (x35 + 1).toInt → c148_F21 k = w100 k))) ∧ (id ((r148.toInt = 1 → (0 : Int32).toInt ≠ 0 → 1 ≤ (c148_F21 (Int32.toNatClampNeg (x35 + 1))).toInt))) ∧ ((0 ≤ r148.toInt ∧ r148.toInt ≤ 1)) := hq148
                  have h8148_hf : (F 0) = f := by first | assumption | omega
                  have h8148_htk : TKS f n (tE f n (tE f n e)) c132_g3.toInt c132_g4.toInt c132_g5.toInt c132_g6.toInt := by exact p132_0
                  have h8148_hsm : (false) = decide ((0 : Int32).toInt ≠ 0) := by decide
                  have h8148_hfit : ∀ i, fits .byte (.int (f i)) = true := by first | assumption | omega
                  have hx148 := pwq (fn_take (upd (upd (upd (upd (upd (upd g 3 c132_g3) 4 c132_g4) 5 c132_g5) 6 c132_g6) 7 c47_g7) 8 c47_g8) (upF (upF F 20 c47_F20) 21 w100) c47_F20 8960 w100 560 (x35 + 1) (0 : Int32) (f) (n) (tE f n (tE f n e)) (false) hMI148 hF27 hpr148_0 hpr148_1 hpr148_2 hpr148_3 h8148_hf h8148_htk h8148_hsm h8148_hfit) hc148
                  obtain ⟨p148_0, p148_1, p148_2⟩ : (id ((r148.toInt ≠ 0 → fLet f n (tE f n (tE f n e)) (false) = none ∧ TAKEN c47_F20 c148_F20 w100 c148_F21 (Int32.toNatClampNeg (x35 + 1)) f (tP f n (tE f n (tE f n e)) + 1) (tL f n (tE f n (tE f n e))) ∧ c148_g7.toInt = c47_g7.toInt ∧ c148_g8.toInt = c47_g8.toInt ∧ c132_g6.toInt = ((tE f n (tE f n (tE f n e)) : Nat) : Int)))) ∧ (id ((r148.toInt = 0 → ERR (fLet f n (tE f n (tE f n e)) (false)) c148_g7 c148_g8))) ∧ (id ((r148.toInt = 0 → c148_F20 = c47_F20 ∧ c148_F21 = w100))) := hx148
                  refine pw_ite (fun c151 => ?_) (fun c151 => ?_)
                  · have c151 := congrArg Int32.toInt c151
                    have qq0 : (∀ q, q < 480 → WR c148_F20 c148_F21 q = WR (F 20) (F 21) q ∧ c148_F21 q = (F 21) q) ∧ (∀ q, q ≠ 6 → (F 13) q = (F 13) q) := by obtain ⟨a1, a2⟩ := p148_2 (by omega); rw [a1, a2]; exact ⟨hfb, fun _ _ => rfl⟩
                    have qq1 : OUTS (entF f n pl e d isL) (0 : Int32) c148_g7 c148_g8 f n (fun e1 d1 => TKS f n e1 c132_g3.toInt c132_g4.toInt c132_g5.toInt c132_g6.toInt ∧ (entR ((F 13) 6) c148_F20 c148_F21 480, prtR ((F 12) 6) (F 18) (F 19) 240, lwsR ((F 11) 6) (F 14) (F 15) (F 16) (F 17) 240) = d1 ∧ c148_g7.toInt = (g 7).toInt ∧ c148_g8.toInt = (g 8).toInt) := by exact outs_bad (by omega) (p148_1 (by omega)) (fun q hq => by rw [hisL, decide_eq_true (show p0.toInt ≠ 0 from by omega)]; exact entF_l2 (by omega) hnw hto hq)
                    exact pw_some ⟨qq0, qq1⟩
                  · have c151 := z_ne c151
                    obtain ⟨k1, k2, k3, k4, k5⟩ := p148_0 (by omega)
                    rw [hx1] at k2
                    have kk := TK_k k2
                    have hMI157 : id (MInv (upd (upd (upd (upd (upd (upd g 3 c132_g3) 4 c132_g4) 5 c132_g5) 6 c132_g6) 7 c148_g7) 8 c148_g8) (upF (upF F 20 c148_F20) 21 c148_F21)) := show MInv (upd (upd (upd (upd (upd (upd g 3 c132_g3) 4 c132_g4) 5 c132_g5) 6 c132_g6) 7 c148_g7) 8 c148_g8) (upF (upF F 20 c148_F20) 21 c148_F21) from (MInv_i ((hI9.1)) hzg2 hg38 hg39 hg40 hg41 hg46 hg47 ((hI9.2.2.2.2.2.2.2.2.1)) ((hI9.2.2.2.2.2.2.2.2.2.1)) ((hI9.2.2.2.2.2.2.2.2.2.2.1)) ((hI9.2.2.2.2.2.2.2.2.2.2.2.1)) ((hI9.2.2.2.2.2.2.2.2.2.2.2.2.1)) ((hI9.2.2.2.2.2.2.2.2.2.2.2.2.2.1)) ((hI9.2.2.2.2.2.2.2.2.2.2.2.2.2.2.1)) ((hI9.2.2.2.2.2.2.2.2.2.2.2.2.2.2.2.1)) ((hI9.2.2.2.2.2.2.2.2.2.2.2.2.2.2.2.2.1)) ((hI9.2.2.2.2.2.2.2.2.2.2.2.2.2.2.2.2.2.1)) ((hI9.2.2.2.2.2.2.2.2.2.2.2.2.2.2.2.2.2.2.1)) ((hI9.2.2.2.2.2.2.2.2.2.2.2.2.2.2.2.2.2.2.2.1)) ((hI9.2.2.2.2.2.2.2.2.2.2.2.2.2.2.2.2.2.2.2.2.1)) ((hI9.2.2.2.2.2.2.2.2.2.2.2.2.2.2.2.2.2.2.2.2.2.1)) ((hI9.2.2.2.2.2.2.2.2.2.2.2.2.2.2.2.2.2.2.2.2.2.2.1)) ((hI9.2.2.2.2.2.2.2.2.2.2.2.2.2.2.2.2.2.2.2.2.2.2.2.1)) ((hI9.2.2.2.2.2.2.2.2.2.2.2.2.2.2.2.2.2.2.2.2.2.2.2.2.1)) hzF11 hzF12 hzF13 hzF15 hzF19 hg48 hzF24 hzF25 hzF26 hzF33 hzF38 hzF41 hzF43 hzF45 hzF46 hzF50 hzF53 hzF54 hzLQ)
                    refine pw_b4 (fun c157_g3 c157_g4 c157_g5 c157_g6 hc157 => ?_)
                    have hq157 := wp_at (ok_scan (upd (upd (upd (upd (upd (upd g 3 c132_g3) 4 c132_g4) 5 c132_g5) 6 c132_g6) 7 c148_g7) 8 c148_g8) (upF (upF F 20 c148_F20) 21 c148_F21) hMI157) hc157
                    obtain ⟨hg53, hg54, hg55, hg56, f57, f58, f59⟩ : (((0) ≤ c157_g3.toInt ∧ c157_g3.toInt ≤ 4)) ∧ (((-1) ≤ c157_g4.toInt ∧ c157_g4.toInt ≤ 8)) ∧ (((0) ≤ c157_g5.toInt ∧ c157_g5.toInt ≤ 2001)) ∧ (((0) ≤ c157_g6.toInt ∧ c157_g6.toInt ≤ 2001)) ∧ (id ((c157_g3.toInt = 2 → c157_g5.toInt + 2 ≤ c157_g6.toInt ∧ c157_g6.toInt ≤ c157_g5.toInt + 18 ∧ c157_g6.toInt ≤ 2000))) ∧ (id ((c157_g3.toInt ≠ 4 → c132_g6.toInt < c157_g6.toInt))) ∧ (c132_g6.toInt ≤ c157_g6.toInt) := hq157
                    have h8157_hf : (F 0) = f := by first | assumption | omega
                    have h8157_hn : Int32.toNatClampNeg (g 2) = n := by first | assumption | omega
                    have h8157_he : Int32.toNatClampNeg c132_g6 = (tE f n (tE f n (tE f n e))) := by have c9 := clampI (x := c132_g6) (by omega); omega
                    have h8157_hfit : ∀ i, fits .byte (.int (f i)) = true := by first | assumption | omega
                    have hx157 := pwq (fn_scan (upd (upd (upd (upd (upd (upd g 3 c132_g3) 4 c132_g4) 5 c132_g5) 6 c132_g6) 7 c148_g7) 8 c148_g8) (upF (upF F 20 c148_F20) 21 c148_F21) (f) (n) (tE f n (tE f n (tE f n e))) hMI157 h8157_hf h8157_hn h8157_he h8157_hfit) hc157
                    have p157_0 : TKS f n (tE f n (tE f n (tE f n e))) c157_g3.toInt c157_g4.toInt c157_g5.toInt c157_g6.toInt := hx157
                    clear hx157
                    refine pw_j8 ej160 (fun z160_1 ez160_1 z160_2 ez160_2 z160_3 ez160_3 z160_4 ez160_4 z160_5 ez160_5 z160_6 ez160_6 z160_7 ez160_7 z160_8 ez160_8 => ?_)
                    subst ez160_1 ez160_2 ez160_3 ez160_4 ez160_5 ez160_6 ez160_7 ez160_8
                    refine pw_if (fun hb167 => ?_)
                    obtain ⟨hbl167, hbr167⟩ := hb167
                    have f61 : (((F 13) (Int32.toNatClampNeg 6)) + 1).toInt = ((F 13) (Int32.toNatClampNeg 6)).toInt + 1 := z_addc (by decide +kernel) (by omega) (by omega)
                    refine pw_if (fun hb170 => ?_)
                    obtain ⟨hbl170, hbr170⟩ := hb170
                    refine pw_vl (fun w170 ew170 => ?_)
                    have hF62 : rng (0) 40 w170 := by rw [ew170]; exact rng_upd hzF13 (by omega) (by omega)
                    have qq0 : (∀ q, q < 480 → WR c148_F20 c148_F21 q = WR (F 20) (F 21) q ∧ c148_F21 q = (F 21) q) ∧ (∀ q, q ≠ 6 → w170 q = (F 13) q) := by exact ⟨fun q hq => by rw [TK_w k2 (by rw [ew100, pk_un (by omega)]; exact (hg47b q).2) (by omega), TK_s k2 (by omega)]; exact hfb q hq, fun q hq => by rw [ew170, e6]; exact pk_un hq⟩
                    have qq1 : OUTS (entF f n pl e d isL) (1 : Int32) c148_g7 c148_g8 f n (fun e1 d1 => TKS f n e1 c157_g3.toInt c157_g4.toInt c157_g5.toInt c157_g6.toInt ∧ (entR (w170 6) c148_F20 c148_F21 480, prtR ((F 12) 6) (F 18) (F 19) 240, lwsR ((F 11) 6) (F 14) (F 15) (F 16) (F 17) 240) = d1 ∧ c148_g7.toInt = (g 7).toInt ∧ c148_g8.toInt = (g 8).toInt) := by refine outs_ok (d1 := (d.1 ++ [(tW f n e, some (tW f n (tE f n (tE f n e))))], d.2)) (by omega) (e1 := tE f n (tE f n (tE f n e))) (by rw [hisL, decide_eq_true (show p0.toInt ≠ 0 from by omega)]; exact entF_lO (by omega) hnw hto k1) ⟨p157_0, Prod.ext ?_ (Prod.ext hd2.symm hd3.symm), by omega, by omega⟩; show entR _ _ _ _ = d.1 ++ _; rw [hd1]; have hs2 : ∀ q, q ≠ 480 + 2 * Int32.toNatClampNeg ((F 13) 6) + 1 → WR c148_F20 c148_F21 q = WR c47_F20 c47_F21 q ∧ c148_F21 q = c47_F21 q := (fun q hq => by rw [TK_w k2 (by rw [ew100, pk_un hq]; exact (hg47b q).2) hq, TK_s k2 hq]; rw [show WR c47_F20 w100 q = WR c47_F20 c47_F21 q by unfold WR; rw [ew100, pk_un hq], ew100, pk_un hq]; exact ⟨rfl, rfl⟩); exact ent_addR (by rw [ew170]; show Int32.toNatClampNeg (upd (F 13) (Int32.toNatClampNeg 6) _ 6) = _; rw [e6, pk_us]; have hz9 : ((F 13) 6 + 1).toInt = ((F 13) 6).toInt + 1 := z_addc (by decide +kernel) (by omega) (by omega); have cz := clampI (x := (F 13) 6 + 1) (by omega); omega) (fun q hq => by obtain ⟨a1, a2⟩ := hs2 q (by omega); rw [a1, a2]; exact ⟨gw q (by omega), gs q (by omega)⟩) (by rw [(hs2 _ (by omega)).1]; exact gk.1) (by rw [if_neg (by omega), kk.1]; rfl)
                    exact pw_some ⟨qq0, qq1⟩
                · have c122 := z_ne c122
                  refine pw_j0 ej125 ?_
                  have hMI127 : id (MInv (upd (upd (upd (upd (upd (upd g 3 c102_g3) 4 c102_g4) 5 c102_g5) 6 c102_g6) 7 c47_g7) 8 c47_g8) (upF (upF F 20 c47_F20) 21 w100)) := show MInv (upd (upd (upd (upd (upd (upd g 3 c102_g3) 4 c102_g4) 5 c102_g5) 6 c102_g6) 7 c47_g7) 8 c47_g8) (upF (upF F 20 c47_F20) 21 w100) from (MInv_i ((hI9.1)) hzg2 hg28 hg29 hg30 hg31 hg17 hg18 ((hI9.2.2.2.2.2.2.2.2.1)) ((hI9.2.2.2.2.2.2.2.2.2.1)) ((hI9.2.2.2.2.2.2.2.2.2.2.1)) ((hI9.2.2.2.2.2.2.2.2.2.2.2.1)) ((hI9.2.2.2.2.2.2.2.2.2.2.2.2.1)) ((hI9.2.2.2.2.2.2.2.2.2.2.2.2.2.1)) ((hI9.2.2.2.2.2.2.2.2.2.2.2.2.2.2.1)) ((hI9.2.2.2.2.2.2.2.2.2.2.2.2.2.2.2.1)) ((hI9.2.2.2.2.2.2.2.2.2.2.2.2.2.2.2.2.1)) ((hI9.2.2.2.2.2.2.2.2.2.2.2.2.2.2.2.2.2.1)) ((hI9.2.2.2.2.2.2.2.2.2.2.2.2.2.2.2.2.2.2.1)) ((hI9.2.2.2.2.2.2.2.2.2.2.2.2.2.2.2.2.2.2.2.1)) ((hI9.2.2.2.2.2.2.2.2.2.2.2.2.2.2.2.2.2.2.2.2.1)) ((hI9.2.2.2.2.2.2.2.2.2.2.2.2.2.2.2.2.2.2.2.2.2.1)) ((hI9.2.2.2.2.2.2.2.2.2.2.2.2.2.2.2.2.2.2.2.2.2.2.1)) ((hI9.2.2.2.2.2.2.2.2.2.2.2.2.2.2.2.2.2.2.2.2.2.2.2.1)) ((hI9.2.2.2.2.2.2.2.2.2.2.2.2.2.2.2.2.2.2.2.2.2.2.2.2.1)) hzF11 hzF12 hzF13 hzF15 hzF19 hF27 hzF24 hzF25 hzF26 hzF33 hzF38 hzF41 hzF43 hzF45 hzF46 hzF50 hzF53 hzF54 hzLQ)
                  have hpr127_0 : 0 ≤ (1 : Int32).toInt ∧ (1 : Int32).toInt ≤ 4 := by first | assumption | omega
                  refine pw_b3 (fun r127 c127_g7 c127_g8 hc127 => ?_)
                  have hq127 := wp_at (ok_wrong (upd (upd (upd (upd (upd (upd g 3 c102_g3) 4 c102_g4) 5 c102_g5) 6 c102_g6) 7 c47_g7) 8 c47_g8) (upF (upF F 20 c47_F20) 21 w100) (1 : Int32) hMI127 hpr127_0) hc127
                  obtain ⟨hg63, hg64, f65, f66⟩ : (((0) ≤ c127_g7.toInt ∧ c127_g7.toInt ≤ 4)) ∧ (((-1) ≤ c127_g8.toInt ∧ c127_g8.toInt ≤ 2001)) ∧ (r127.toInt = 0) ∧ ((0 ≤ r127.toInt ∧ r127.toInt ≤ 1)) := hq127
                  have hx127 := pwq (fn_wrong (upd (upd (upd (upd (upd (upd g 3 c102_g3) 4 c102_g4) 5 c102_g5) 6 c102_g6) 7 c47_g7) 8 c47_g8) (upF (upF F 20 c47_F20) 21 w100) (1 : Int32) hMI127 hpr127_0) hc127
                  obtain ⟨p127_0, p127_1, p127_2⟩ : (r127.toInt = 0) ∧ (c127_g7.toInt = (1 : Int32).toInt) ∧ (c127_g8.toInt = c102_g5.toInt) := hx127
                  refine pw_if (fun hb130 => ?_)
                  obtain ⟨hbl130, hbr130⟩ := hb130
                  have qq0 : (∀ q, q < 480 → WR c47_F20 w100 q = WR (F 20) (F 21) q ∧ w100 q = (F 21) q) ∧ (∀ q, q ≠ 6 → (F 13) q = (F 13) q) := by exact ⟨hfb, fun _ _ => rfl⟩
                  have qq1 : OUTS (entF f n pl e d isL) r127 c127_g7 c127_g8 f n (fun e1 d1 => TKS f n e1 c102_g3.toInt c102_g4.toInt c102_g5.toInt c102_g6.toInt ∧ (entR ((F 13) 6) c47_F20 w100 480, prtR ((F 12) 6) (F 18) (F 19) 240, lwsR ((F 11) 6) (F 14) (F 15) (F 16) (F 17) 240) = d1 ∧ c127_g7.toInt = (g 7).toInt ∧ c127_g8.toInt = (g 8).toInt) := by exact outs_bad (by omega) (z := some (1, tP f n (tE f n e))) (err_of rfl (by omega) (by have t1 := TKS_at p102_0; omega) (by omega)) (fun q hq => by cases hq; rw [hisL, decide_eq_true (show p0.toInt ≠ 0 from by omega)]; exact entF_l1 (by omega) hnw (fTo_bad (TKS_nkey p102_0 (by omega) (by omega))))
                  exact pw_some ⟨qq0, qq1⟩
              · have c114 := z_ne c114
                refine pw_j0 ej125 ?_
                have hMI127 : id (MInv (upd (upd (upd (upd (upd (upd g 3 c102_g3) 4 c102_g4) 5 c102_g5) 6 c102_g6) 7 c47_g7) 8 c47_g8) (upF (upF F 20 c47_F20) 21 w100)) := show MInv (upd (upd (upd (upd (upd (upd g 3 c102_g3) 4 c102_g4) 5 c102_g5) 6 c102_g6) 7 c47_g7) 8 c47_g8) (upF (upF F 20 c47_F20) 21 w100) from (MInv_i ((hI9.1)) hzg2 hg28 hg29 hg30 hg31 hg17 hg18 ((hI9.2.2.2.2.2.2.2.2.1)) ((hI9.2.2.2.2.2.2.2.2.2.1)) ((hI9.2.2.2.2.2.2.2.2.2.2.1)) ((hI9.2.2.2.2.2.2.2.2.2.2.2.1)) ((hI9.2.2.2.2.2.2.2.2.2.2.2.2.1)) ((hI9.2.2.2.2.2.2.2.2.2.2.2.2.2.1)) ((hI9.2.2.2.2.2.2.2.2.2.2.2.2.2.2.1)) ((hI9.2.2.2.2.2.2.2.2.2.2.2.2.2.2.2.1)) ((hI9.2.2.2.2.2.2.2.2.2.2.2.2.2.2.2.2.1)) ((hI9.2.2.2.2.2.2.2.2.2.2.2.2.2.2.2.2.2.1)) ((hI9.2.2.2.2.2.2.2.2.2.2.2.2.2.2.2.2.2.2.1)) ((hI9.2.2.2.2.2.2.2.2.2.2.2.2.2.2.2.2.2.2.2.1)) ((hI9.2.2.2.2.2.2.2.2.2.2.2.2.2.2.2.2.2.2.2.2.1)) ((hI9.2.2.2.2.2.2.2.2.2.2.2.2.2.2.2.2.2.2.2.2.2.1)) ((hI9.2.2.2.2.2.2.2.2.2.2.2.2.2.2.2.2.2.2.2.2.2.2.1)) ((hI9.2.2.2.2.2.2.2.2.2.2.2.2.2.2.2.2.2.2.2.2.2.2.2.1)) ((hI9.2.2.2.2.2.2.2.2.2.2.2.2.2.2.2.2.2.2.2.2.2.2.2.2.1)) hzF11 hzF12 hzF13 hzF15 hzF19 hF27 hzF24 hzF25 hzF26 hzF33 hzF38 hzF41 hzF43 hzF45 hzF46 hzF50 hzF53 hzF54 hzLQ)
                have hpr127_0 : 0 ≤ (1 : Int32).toInt ∧ (1 : Int32).toInt ≤ 4 := by first | assumption | omega
                refine pw_b3 (fun r127 c127_g7 c127_g8 hc127 => ?_)
                have hq127 := wp_at (ok_wrong (upd (upd (upd (upd (upd (upd g 3 c102_g3) 4 c102_g4) 5 c102_g5) 6 c102_g6) 7 c47_g7) 8 c47_g8) (upF (upF F 20 c47_F20) 21 w100) (1 : Int32) hMI127 hpr127_0) hc127
                obtain ⟨hg67, hg68, f69, f70⟩ : (((0) ≤ c127_g7.toInt ∧ c127_g7.toInt ≤ 4)) ∧ (((-1) ≤ c127_g8.toInt ∧ c127_g8.toInt ≤ 2001)) ∧ (r127.toInt = 0) ∧ ((0 ≤ r127.toInt ∧ r127.toInt ≤ 1)) := hq127
                have hx127 := pwq (fn_wrong (upd (upd (upd (upd (upd (upd g 3 c102_g3) 4 c102_g4) 5 c102_g5) 6 c102_g6) 7 c47_g7) 8 c47_g8) (upF (upF F 20 c47_F20) 21 w100) (1 : Int32) hMI127 hpr127_0) hc127
                obtain ⟨p127_0, p127_1, p127_2⟩ : (r127.toInt = 0) ∧ (c127_g7.toInt = (1 : Int32).toInt) ∧ (c127_g8.toInt = c102_g5.toInt) := hx127
                refine pw_if (fun hb130 => ?_)
                obtain ⟨hbl130, hbr130⟩ := hb130
                have qq0 : (∀ q, q < 480 → WR c47_F20 w100 q = WR (F 20) (F 21) q ∧ w100 q = (F 21) q) ∧ (∀ q, q ≠ 6 → (F 13) q = (F 13) q) := by exact ⟨hfb, fun _ _ => rfl⟩
                have qq1 : OUTS (entF f n pl e d isL) r127 c127_g7 c127_g8 f n (fun e1 d1 => TKS f n e1 c102_g3.toInt c102_g4.toInt c102_g5.toInt c102_g6.toInt ∧ (entR ((F 13) 6) c47_F20 w100 480, prtR ((F 12) 6) (F 18) (F 19) 240, lwsR ((F 11) 6) (F 14) (F 15) (F 16) (F 17) 240) = d1 ∧ c127_g7.toInt = (g 7).toInt ∧ c127_g8.toInt = (g 8).toInt) := by exact outs_bad (by omega) (z := some (1, tP f n (tE f n e))) (err_of rfl (by omega) (by have t1 := TKS_at p102_0; omega) (by omega)) (fun q hq => by cases hq; rw [hisL, decide_eq_true (show p0.toInt ≠ 0 from by omega)]; exact entF_l1 (by omega) hnw (fTo_bad (TKS_nkey p102_0 (by omega) (by omega))))
                exact pw_some ⟨qq0, qq1⟩
          · have c61 := z_nle c61
            have hpr74_0 : (0 ≤ y59_3.toInt ∧ y59_3.toInt < 560) := by first | assumption | omega
            have hpr74_1 : 16 * 560 ≤ 8960 := by first | assumption | omega
            have hpr74_2 : 8960 ≤ 500000 := by first | assumption | omega
            have hpr74_3 : (0 ≤ x35.toInt ∧ x35.toInt < 560) := by first | assumption | omega
            refine pw_b1 (fun r74 hc74 => ?_)
            have hq74 := wp_at (ok_same c47_F20 8960 c47_F21 560 y59_3 x35 hg19 hpr74_0 hpr74_1 hpr74_2 hpr74_3) hc74
            have f71 : (0 ≤ r74.toInt ∧ r74.toInt ≤ 1) := hq74
            clear hq74
            have h874_hsa : 0 ≤ (c47_F21 (Int32.toNatClampNeg y59_3)).toInt := by have h0 := (by have h0 := wfd_e (j := ((Int32.toNatClampNeg y59_3 - 480) / 2)) hwf hd1 (by omega); rw [show 480 + 2 * ((Int32.toNatClampNeg y59_3 - 480) / 2) = Int32.toNatClampNeg y59_3 by omega] at h0; exact wr_pos h0); rw [gs _ (by omega)]; omega
            have h874_hsb : 0 ≤ (c47_F21 (Int32.toNatClampNeg x35)).toInt := by rw [hxk]; omega
            have hx74 := pwq (fn_same c47_F20 8960 c47_F21 560 y59_3 x35 hg19 hpr74_0 hpr74_1 hpr74_2 hpr74_3 h874_hsa h874_hsb) hc74
            obtain ⟨p74_0, p74_1⟩ : (id ((r74.toInt ≠ 0 → WR c47_F20 c47_F21 (Int32.toNatClampNeg y59_3) = WR c47_F20 c47_F21 (Int32.toNatClampNeg x35)))) ∧ (id ((r74.toInt = 0 → WR c47_F20 c47_F21 (Int32.toNatClampNeg y59_3) ≠ WR c47_F20 c47_F21 (Int32.toNatClampNeg x35)))) := hx74
            refine pw_ite (fun c77 => ?_) (fun c77 => ?_)
            · have c77 := congrArg Int32.toInt c77
              have f72 : (y59_3 + 2).toInt = y59_3.toInt + (2) := z_addc (by decide +kernel) (by omega) (by omega)
              have iv59_0 : (480 ≤ (y59_3 + 2).toInt ∧ (y59_3 + 2).toInt ≤ 561) := by omega
              have iv59_1 : ((y59_3 + 2).toInt - 480) % 2 = 0 := by omega
              have iv59_2 : (∀ i : Nat, 480 + 2 * (i : Int) < (y59_3 + 2).toInt → WR (F 20) (F 21) (480 + 2 * i) ≠ tW f n e) := by intro i hi; by_cases q : 480 + 2 * (i : Int) < y59_3.toInt; (exact in59 i q); (have h := p74_1 (by omega); rw [hxk, gk.1, show Int32.toNatClampNeg y59_3 = 480 + 2 * i by omega, gw _ (by omega)] at h; exact h)
              exact ih59 (y59_3 + 2) iv59_0 iv59_1 iv59_2
            · have c77 := z_ne c77
              have hMI82 : id (MInv (upd (upd (upd (upd (upd (upd g 3 c19_g3) 4 c19_g4) 5 c19_g5) 6 c19_g6) 7 c47_g7) 8 c47_g8) (upF (upF F 20 c47_F20) 21 c47_F21)) := show MInv (upd (upd (upd (upd (upd (upd g 3 c19_g3) 4 c19_g4) 5 c19_g5) 6 c19_g6) 7 c47_g7) 8 c47_g8) (upF (upF F 20 c47_F20) 21 c47_F21) from (MInv_i ((hI9.1)) hzg2 hg6 hg7 hg8 hg9 hg17 hg18 ((hI9.2.2.2.2.2.2.2.2.1)) ((hI9.2.2.2.2.2.2.2.2.2.1)) ((hI9.2.2.2.2.2.2.2.2.2.2.1)) ((hI9.2.2.2.2.2.2.2.2.2.2.2.1)) ((hI9.2.2.2.2.2.2.2.2.2.2.2.2.1)) ((hI9.2.2.2.2.2.2.2.2.2.2.2.2.2.1)) ((hI9.2.2.2.2.2.2.2.2.2.2.2.2.2.2.1)) ((hI9.2.2.2.2.2.2.2.2.2.2.2.2.2.2.2.1)) ((hI9.2.2.2.2.2.2.2.2.2.2.2.2.2.2.2.2.1)) ((hI9.2.2.2.2.2.2.2.2.2.2.2.2.2.2.2.2.2.1)) ((hI9.2.2.2.2.2.2.2.2.2.2.2.2.2.2.2.2.2.2.1)) ((hI9.2.2.2.2.2.2.2.2.2.2.2.2.2.2.2.2.2.2.2.1)) ((hI9.2.2.2.2.2.2.2.2.2.2.2.2.2.2.2.2.2.2.2.2.1)) ((hI9.2.2.2.2.2.2.2.2.2.2.2.2.2.2.2.2.2.2.2.2.2.1)) ((hI9.2.2.2.2.2.2.2.2.2.2.2.2.2.2.2.2.2.2.2.2.2.2.1)) ((hI9.2.2.2.2.2.2.2.2.2.2.2.2.2.2.2.2.2.2.2.2.2.2.2.1)) ((hI9.2.2.2.2.2.2.2.2.2.2.2.2.2.2.2.2.2.2.2.2.2.2.2.2.1)) hzF11 hzF12 hzF13 hzF15 hzF19 hg19 hzF24 hzF25 hzF26 hzF33 hzF38 hzF41 hzF43 hzF45 hzF46 hzF50 hzF53 hzF54 hzLQ)
              have hpr82_0 : 0 ≤ (3 : Int32).toInt ∧ (3 : Int32).toInt ≤ 4 := by first | assumption | omega
              refine pw_b3 (fun r82 c82_g7 c82_g8 hc82 => ?_)
              have hq82 := wp_at (ok_wrong (upd (upd (upd (upd (upd (upd g 3 c19_g3) 4 c19_g4) 5 c19_g5) 6 c19_g6) 7 c47_g7) 8 c47_g8) (upF (upF F 20 c47_F20) 21 c47_F21) (3 : Int32) hMI82 hpr82_0) hc82
              obtain ⟨hg73, hg74, f75, f76⟩ : (((0) ≤ c82_g7.toInt ∧ c82_g7.toInt ≤ 4)) ∧ (((-1) ≤ c82_g8.toInt ∧ c82_g8.toInt ≤ 2001)) ∧ (r82.toInt = 0) ∧ ((0 ≤ r82.toInt ∧ r82.toInt ≤ 1)) := hq82
              have hx82 := pwq (fn_wrong (upd (upd (upd (upd (upd (upd g 3 c19_g3) 4 c19_g4) 5 c19_g5) 6 c19_g6) 7 c47_g7) 8 c47_g8) (upF (upF F 20 c47_F20) 21 c47_F21) (3 : Int32) hMI82 hpr82_0) hc82
              obtain ⟨p82_0, p82_1, p82_2⟩ : (r82.toInt = 0) ∧ (c82_g7.toInt = (3 : Int32).toInt) ∧ (c82_g8.toInt = c19_g5.toInt) := hx82
              refine pw_if (fun hb85 => ?_)
              obtain ⟨hbl85, hbr85⟩ := hb85
              have qq0 : (∀ q, q < 480 → WR c47_F20 c47_F21 q = WR (F 20) (F 21) q ∧ c47_F21 q = (F 21) q) ∧ (∀ q, q ≠ 6 → (F 13) q = (F 13) q) := by exact ⟨hfa, fun _ _ => rfl⟩
              have qq1 : OUTS (entF f n pl e d isL) r82 c82_g7 c82_g8 f n (fun e1 d1 => TKS f n e1 c19_g3.toInt c19_g4.toInt c19_g5.toInt c19_g6.toInt ∧ (entR ((F 13) 6) c47_F20 c47_F21 480, prtR ((F 12) 6) (F 18) (F 19) 240, lwsR ((F 11) 6) (F 14) (F 15) (F 16) (F 17) 240) = d1 ∧ c82_g7.toInt = (g 7).toInt ∧ c82_g8.toInt = (g 8).toInt) := by have h := p74_0 (by omega); rw [hxk, gk.1, gw _ (by omega)] at h; exact outs_bad (by omega) (z := some (3, tP f n e)) (err_of rfl (by omega) (by have t1 := TKS_at p19_0; omega) (by omega)) (fun q hq => by cases hq; exact entF_new (by omega) (newF_two g1 (by rw [hd1, ent_fstR]; exact tab_mem.mpr ⟨(Int32.toNatClampNeg y59_3 - 480) / 2, by omega, by show WR (F 20) (F 21) (480 + 2 * ((Int32.toNatClampNeg y59_3 - 480) / 2)) = _; rw [show 480 + 2 * ((Int32.toNatClampNeg y59_3 - 480) / 2) = Int32.toNatClampNeg y59_3 by omega]; exact h⟩)))
              exact pw_some ⟨qq0, qq1⟩
      exact lp59 NN (480 : Int32) (show (480 ≤ (480 : Int32).toInt ∧ (480 : Int32).toInt ≤ 561) from by omega) (show ((480 : Int32).toInt - 480) % 2 = 0 from by omega) (show (∀ i : Nat, 480 + 2 * (i : Int) < (480 : Int32).toInt → WR (F 20) (F 21) (480 + 2 * i) ≠ tW f n e) from by intro i hi; omega)
