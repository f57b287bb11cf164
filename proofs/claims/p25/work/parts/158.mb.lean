abbrev QF_readPart (g : Nat → Int32) (F : Nat → Nat → Int32) (f : Nat → Int32) (n : Nat) (pl : Nat) (e : Nat) (d : Dr) : (Int32 × Int32 × Int32 × Int32 × Int32 × Int32 × Int32 × (Nat → Int32) × (Nat → Int32) × (Nat → Int32)) → Prop := (fun t => ((∀ q, q < 240 → WR (t.2.2.2.2.2.2.2.2.1) (t.2.2.2.2.2.2.2.2.2) q = WR (F 18) (F 19) q) ∧ (∀ q, q ≠ 6 → (t.2.2.2.2.2.2.2.1) q = (F 12) q)) ∧ (OUTS (prtF f n pl e d) (t.1) (t.2.2.2.2.2.1) (t.2.2.2.2.2.2.1) f n (fun e1 d1 => TKS f n e1 (t.2.1).toInt (t.2.2.1).toInt (t.2.2.2.1).toInt (t.2.2.2.2.1).toInt ∧ (entR ((F 13) 6) (F 20) (F 21) 480, prtR ((t.2.2.2.2.2.2.2.1) 6) (t.2.2.2.2.2.2.2.2.1) (t.2.2.2.2.2.2.2.2.2) 240, lwsR ((F 11) 6) (F 14) (F 15) (F 16) (F 17) 240) = d1 ∧ (t.2.2.2.2.2.1).toInt = (g 7).toInt ∧ (t.2.2.2.2.2.2.1).toInt = (g 8).toInt)))
set_option maxHeartbeats 4000000 in
set_option maxRecDepth 100000 in
theorem fn_readPart (g : Nat → Int32) (F : Nat → Nat → Int32) (f : Nat → Int32) (n : Nat) (pl : Nat) (e : Nat) (d : Dr) (hI : MInv g F) (hf : (F 0) = f) (hn : Int32.toNatClampNeg (g 2) = n) (he : Int32.toNatClampNeg (g 6) = e) (hat : (g 5).toInt = (pl : Int)) (hd : (entR ((F 13) 6) (F 20) (F 21) 480, prtR ((F 12) 6) (F 18) (F 19) 240, lwsR ((F 11) 6) (F 14) (F 15) (F 16) (F 17) 240) = d) (hwf : WFD d) (hfit : ∀ i, fits .byte (.int (f i)) = true) : pw (f_readPart g F) (QF_readPart g F f n pl e d) := by
  unfold f_readPart
  have hI9 : id (MInv g F) := hI
  obtain ⟨-, hzg2, hzg3, hzg4, hzg5, hzg6, hzg7, hzg8, -, -, -, -, -, -, -, -, -, -, -, -, -, -, -, -, -, hzF11, hzF12, hzF13, hzF15, hzF19, hzF21, hzF24, hzF25, hzF26, hzF33, hzF38, hzF41, hzF43, hzF45, hzF46, hzF50, hzF53, hzF54, hzLQ⟩ := hI
  have zk0 : (0 : Int32).toInt = 0 := by decide +kernel
  have zk1 : (1 : Int32).toInt = 1 := by decide +kernel
  have zk3 : (3 : Int32).toInt = 3 := by decide +kernel
  have zk4 : (4 : Int32).toInt = 4 := by decide +kernel
  have zk6 : (6 : Int32).toInt = 6 := by decide +kernel
  have zk40 : (40 : Int32).toInt = 40 := by decide +kernel
  have zk240 : (240 : Int32).toInt = 240 := by decide +kernel
  have e6 : Int32.toNatClampNeg (6 : Int32) = 6 := by decide
  have e13 : ((F 13) (Int32.toNatClampNeg (6 : Int32))).toInt = ((F 13) 6).toInt := by rw [e6]
  have e12 : ((F 12) (Int32.toNatClampNeg (6 : Int32))).toInt = ((F 12) 6).toInt := by rw [e6]
  have e11 : ((F 11) (Int32.toNatClampNeg (6 : Int32))).toInt = ((F 11) 6).toInt := by rw [e6]
  have hd1 : d.1 = entR ((F 13) 6) (F 20) (F 21) 480 := by rw [← hd]
  have hd2 : d.2.1 = prtR ((F 12) 6) (F 18) (F 19) 240 := by rw [← hd]
  have hd3 : d.2.2 = lwsR ((F 11) 6) (F 14) (F 15) (F 16) (F 17) 240 := by rw [← hd]
  have hde : d.1.length = Int32.toNatClampNeg ((F 13) 6) := by rw [hd1]; exact ent_lenR
  have hdp : d.2.1.length = Int32.toNatClampNeg ((F 12) 6) := by rw [hd2]; exact prt_lenR
  have hdl : d.2.2.length = Int32.toNatClampNeg ((F 11) 6) := by rw [hd3]; exact lws_lenR
  have hb13 := hzF13 6
  have hb12 := hzF12 6
  have hb11 := hzF11 6
  have c13 := clampI (x := (F 13) 6) (by omega)
  have c12 := clampI (x := (F 12) 6) (by omega)
  have c11 := clampI (x := (F 11) 6) (by omega)
  refine pw_if (fun hb6 => ?_)
  obtain ⟨hbl6, hbr6⟩ := hb6
  have f1 := hzF12 (Int32.toNatClampNeg (6 : Int32))
  refine pw_ite (fun c9 => ?_) (fun c9 => ?_)
  · have c9 := congrArg Int32.toInt c9
    have hMI14 : id (MInv g F) := show MInv g F from (MInv_i ((hI9.1)) hzg2 hzg3 hzg4 hzg5 hzg6 hzg7 hzg8 ((hI9.2.2.2.2.2.2.2.2.1)) ((hI9.2.2.2.2.2.2.2.2.2.1)) ((hI9.2.2.2.2.2.2.2.2.2.2.1)) ((hI9.2.2.2.2.2.2.2.2.2.2.2.1)) ((hI9.2.2.2.2.2.2.2.2.2.2.2.2.1)) ((hI9.2.2.2.2.2.2.2.2.2.2.2.2.2.1)) ((hI9.2.2.2.2.2.2.2.2.2.2.2.2.2.2.1)) ((hI9.2.2.2.2.2.2.2.2.2.2.2.2.2.2.2.1)) ((hI9.2.2.2.2.2.2.2.2.2.2.2.2.2.2.2.2.1)) ((hI9.2.2.2.2.2.2.2.2.2.2.2.2.2.2.2.2.2.1)) ((hI9.2.2.2.2.2.2.2.2.2.2.2.2.2.2.2.2.2.2.1)) ((hI9.2.2.2.2.2.2.2.2.2.2.2.2.2.2.2.2.2.2.2.1)) ((hI9.2.2.2.2.2.2.2.2.2.2.2.2.2.2.2.2.2.2.2.2.1)) ((hI9.2.2.2.2.2.2.2.2.2.2.2.2.2.2.2.2.2.2.2.2.2.1)) ((hI9.2.2.2.2.2.2.2.2.2.2.2.2.2.2.2.2.2.2.2.2.2.2.1)) ((hI9.2.2.2.2.2.2.2.2.2.2.2.2.2.2.2.2.2.2.2.2.2.2.2.1)) ((hI9.2.2.2.2.2.2.2.2.2.2.2.2.2.2.2.2.2.2.2.2.2.2.2.2.1)) hzF11 hzF12 hzF13 hzF15 hzF19 hzF21 hzF24 hzF25 hzF26 hzF33 hzF38 hzF41 hzF43 hzF45 hzF46 hzF50 hzF53 hzF54 hzLQ)
    have hpr14_0 : 0 ≤ (4 : Int32).toInt ∧ (4 : Int32).toInt ≤ 4 := by first | assumption | omega
    refine pw_b3 (fun r14 c14_g7 c14_g8 hc14 => ?_)
    have hq14 := wp_at (ok_wrong g F (4 : Int32) hMI14 hpr14_0) hc14
    obtain ⟨hg2, hg3, f4, f5⟩ : (((0) ≤ c14_g7.toInt ∧ c14_g7.toInt ≤ 4)) ∧ (((-1) ≤ c14_g8.toInt ∧ c14_g8.toInt ≤ 2001)) ∧ (r14.toInt = 0) ∧ ((0 ≤ r14.toInt ∧ r14.toInt ≤ 1)) := hq14
    have hx14 := pwq (fn_wrong g F (4 : Int32) hMI14 hpr14_0) hc14
    obtain ⟨p14_0, p14_1, p14_2⟩ : (r14.toInt = 0) ∧ (c14_g7.toInt = (4 : Int32).toInt) ∧ (c14_g8.toInt = (g 5).toInt) := hx14
    refine pw_if (fun hb17 => ?_)
    obtain ⟨hbl17, hbr17⟩ := hb17
    have qq0 : (∀ q, q < 240 → WR (F 18) (F 19) q = WR (F 18) (F 19) q) ∧ (∀ q, q ≠ 6 → (F 12) q = (F 12) q) := by exact ⟨fun _ _ => rfl, fun _ _ => rfl⟩
    have qq1 : OUTS (prtF f n pl e d) r14 c14_g7 c14_g8 f n (fun e1 d1 => TKS f n e1 (g 3).toInt (g 4).toInt (g 5).toInt (g 6).toInt ∧ (entR ((F 13) 6) (F 20) (F 21) 480, prtR ((F 12) 6) (F 18) (F 19) 240, lwsR ((F 11) 6) (F 14) (F 15) (F 16) (F 17) 240) = d1 ∧ c14_g7.toInt = (g 7).toInt ∧ c14_g8.toInt = (g 8).toInt) := by rw [e6] at c9; exact outs_bad (by omega) (z := some (4, pl)) (err_of rfl (by omega) (by omega) (by omega)) (fun q hq => by cases hq; exact prtF_full (by omega))
    exact pw_some ⟨qq0, qq1⟩
  · have c9 := z_ne c9
    rw [e6] at c9
    have hMI19 : id (MInv g F) := show MInv g F from (MInv_i ((hI9.1)) hzg2 hzg3 hzg4 hzg5 hzg6 hzg7 hzg8 ((hI9.2.2.2.2.2.2.2.2.1)) ((hI9.2.2.2.2.2.2.2.2.2.1)) ((hI9.2.2.2.2.2.2.2.2.2.2.1)) ((hI9.2.2.2.2.2.2.2.2.2.2.2.1)) ((hI9.2.2.2.2.2.2.2.2.2.2.2.2.1)) ((hI9.2.2.2.2.2.2.2.2.2.2.2.2.2.1)) ((hI9.2.2.2.2.2.2.2.2.2.2.2.2.2.2.1)) ((hI9.2.2.2.2.2.2.2.2.2.2.2.2.2.2.2.1)) ((hI9.2.2.2.2.2.2.2.2.2.2.2.2.2.2.2.2.1)) ((hI9.2.2.2.2.2.2.2.2.2.2.2.2.2.2.2.2.2.1)) ((hI9.2.2.2.2.2.2.2.2.2.2.2.2.2.2.2.2.2.2.1)) ((hI9.2.2.2.2.2.2.2.2.2.2.2.2.2.2.2.2.2.2.2.1)) ((hI9.2.2.2.2.2.2.2.2.2.2.2.2.2.2.2.2.2.2.2.2.1)) ((hI9.2.2.2.2.2.2.2.2.2.2.2.2.2.2.2.2.2.2.2.2.2.1)) ((hI9.2.2.2.2.2.2.2.2.2.2.2.2.2.2.2.2.2.2.2.2.2.2.1)) ((hI9.2.2.2.2.2.2.2.2.2.2.2.2.2.2.2.2.2.2.2.2.2.2.2.1)) ((hI9.2.2.2.2.2.2.2.2.2.2.2.2.2.2.2.2.2.2.2.2.2.2.2.2.1)) hzF11 hzF12 hzF13 hzF15 hzF19 hzF21 hzF24 hzF25 hzF26 hzF33 hzF38 hzF41 hzF43 hzF45 hzF46 hzF50 hzF53 hzF54 hzLQ)
    refine pw_b4 (fun c19_g3 c19_g4 c19_g5 c19_g6 hc19 => ?_)
    have hq19 := wp_at (ok_scan g F hMI19) hc19
    obtain ⟨hg6, hg7, hg8, hg9, f10, f11, f12⟩ : (((0) ≤ c19_g3.toInt ∧ c19_g3.toInt ≤ 4)) ∧ (((-1) ≤ c19_g4.toInt ∧ c19_g4.toInt ≤ 8)) ∧ (((0) ≤ c19_g5.toInt ∧ c19_g5.toInt ≤ 2001)) ∧ (((0) ≤ c19_g6.toInt ∧ c19_g6.toInt ≤ 2001)) ∧ (id ((c19_g3.toInt = 2 → c19_g5.toInt + 2 ≤ c19_g6.toInt ∧ c19_g6.toInt ≤ c19_g5.toInt + 18 ∧ c19_g6.toInt ≤ 2000))) ∧ (id ((c19_g3.toInt ≠ 4 → (g 6).toInt < c19_g6.toInt))) ∧ ((g 6).toInt ≤ c19_g6.toInt) := hq19
    have h819_hf : (F 0) = f := by first | assumption | omega
    have h819_hn : Int32.toNatClampNeg (g 2) = n := by first | assumption | omega
    have h819_he : Int32.toNatClampNeg (g 6) = e := by first | assumption | omega
    have h819_hfit : ∀ i, fits .byte (.int (f i)) = true := by first | assumption | omega
    have hx19 := pwq (fn_scan g F (f) (n) (e) hMI19 h819_hf h819_hn h819_he h819_hfit) hc19
    have p19_0 : TKS f n e c19_g3.toInt c19_g4.toInt c19_g5.toInt c19_g6.toInt := hx19
    clear hx19
    refine pw_if (fun hb31 => ?_)
    obtain ⟨hbl31, hbr31⟩ := hb31
    have f14 : (240 + ((F 12) (Int32.toNatClampNeg 6))).toInt = 240 + ((F 12) (Int32.toNatClampNeg 6)).toInt := z_addd (by decide +kernel) (by omega) (by omega)
    refine pw_vl (fun x33 ex33 => ?_)
    have f15 : x33.toInt = (240 + ((F 12) (Int32.toNatClampNeg 6))).toInt := congrArg Int32.toInt ex33
    have hMI45 : id (MInv (upd (upd (upd (upd g 3 c19_g3) 4 c19_g4) 5 c19_g5) 6 c19_g6) F) := show MInv (upd (upd (upd (upd g 3 c19_g3) 4 c19_g4) 5 c19_g5) 6 c19_g6) F from (MInv_i ((hI9.1)) hzg2 hg6 hg7 hg8 hg9 hzg7 hzg8 ((hI9.2.2.2.2.2.2.2.2.1)) ((hI9.2.2.2.2.2.2.2.2.2.1)) ((hI9.2.2.2.2.2.2.2.2.2.2.1)) ((hI9.2.2.2.2.2.2.2.2.2.2.2.1)) ((hI9.2.2.2.2.2.2.2.2.2.2.2.2.1)) ((hI9.2.2.2.2.2.2.2.2.2.2.2.2.2.1)) ((hI9.2.2.2.2.2.2.2.2.2.2.2.2.2.2.1)) ((hI9.2.2.2.2.2.2.2.2.2.2.2.2.2.2.2.1)) ((hI9.2.2.2.2.2.2.2.2.2.2.2.2.2.2.2.2.1)) ((hI9.2.2.2.2.2.2.2.2.2.2.2.2.2.2.2.2.2.1)) ((hI9.2.2.2.2.2.2.2.2.2.2.2.2.2.2.2.2.2.2.1)) ((hI9.2.2.2.2.2.2.2.2.2.2.2.2.2.2.2.2.2.2.2.1)) ((hI9.2.2.2.2.2.2.2.2.2.2.2.2.2.2.2.2.2.2.2.2.1)) ((hI9.2.2.2.2.2.2.2.2.2.2.2.2.2.2.2.2.2.2.2.2.2.1)) ((hI9.2.2.2.2.2.2.2.2.2.2.2.2.2.2.2.2.2.2.2.2.2.2.1)) ((hI9.2.2.2.2.2.2.2.2.2.2.2.2.2.2.2.2.2.2.2.2.2.2.2.1)) ((hI9.2.2.2.2.2.2.2.2.2.2.2.2.2.2.2.2.2.2.2.2.2.2.2.2.1)) hzF11 hzF12 hzF13 hzF15 hzF19 hzF21 hzF24 hzF25 hzF26 hzF33 hzF38 hzF41 hzF43 hzF45 hzF46 hzF50 hzF53 hzF54 hzLQ)
    have hpr45_0 : (0 ≤ x33.toInt ∧ x33.toInt < 280) := by first | assumption | omega
    have hpr45_1 : 16 * 280 ≤ 4480 := by first | assumption | omega
    have hpr45_2 : 4480 ≤ 500000 := by first | assumption | omega
    have hpr45_3 : id ((c19_g3.toInt = 2 → c19_g5.toInt + 2 ≤ c19_g6.toInt ∧ c19_g6.toInt ≤ c19_g5.toInt + 18 ∧ c19_g6.toInt ≤ 2000)) := show (c19_g3.toInt = 2 → c19_g5.toInt + 2 ≤ c19_g6.toInt ∧ c19_g6.toInt ≤ c19_g5.toInt + 18 ∧ c19_g6.toInt ≤ 2000) from by first | assumption | omega
    refine pw_b5 (fun r45 c45_g7 c45_g8 c45_F18 c45_F19 hc45 => ?_)
    have hq45 := wp_at (ok_take (upd (upd (upd (upd g 3 c19_g3) 4 c19_g4) 5 c19_g5) 6 c19_g6) F (F 18) 4480 (F 19) 280 x33 (1 : Int32) hMI45 hzF19 hpr45_0 hpr45_1 hpr45_2 hpr45_3) hc45
    obtain ⟨hg16, hg17, hg18, f19, f20, f21, f22⟩ : (((0) ≤ c45_g7.toInt ∧ c45_g7.toInt ≤ 4)) ∧ (((-1) ≤ c45_g8.toInt ∧ c45_g8.toInt ≤ 2001)) ∧ (rng (-1) 16 c45_F19) ∧ (id ((r45.toInt = 1 → c19_g3.toInt = 2))) ∧ (id ((∀ k : Nat, (k : Int) ≠ x33.toInt → c45_F19 k = (F 19) k))) ∧ (id ((r45.toInt = 1 → (1 : Int32).toInt ≠ 0 → 1 ≤ (c45_F19 (Int32.toNatClampNeg x33)).toInt))) ∧ ((0 ≤ r45.toInt ∧ r45.toInt ≤ 1)) := hq45
    have h845_hf : (F 0) = f := by first | assumption | omega
    have h845_htk : TKS f n e c19_g3.toInt c19_g4.toInt c19_g5.toInt c19_g6.toInt := by exact p19_0
    have h845_hsm : (true) = decide ((1 : Int32).toInt ≠ 0) := by decide
    have h845_hfit : ∀ i, fits .byte (.int (f i)) = true := by first | assumption | omega
    have hx45 := pwq (fn_take (upd (upd (upd (upd g 3 c19_g3) 4 c19_g4) 5 c19_g5) 6 c19_g6) F (F 18) 4480 (F 19) 280 x33 (1 : Int32) (f) (n) (e) (true) hMI45 hzF19 hpr45_0 hpr45_1 hpr45_2 hpr45_3 h845_hf h845_htk h845_hsm h845_hfit) hc45
    obtain ⟨p45_0, p45_1, p45_2⟩ : (id ((r45.toInt ≠ 0 → fLet f n e (true) = none ∧ TAKEN (F 18) c45_F18 (F 19) c45_F19 (Int32.toNatClampNeg x33) f (tP f n e + 1) (tL f n e) ∧ c45_g7.toInt = (g 7).toInt ∧ c45_g8.toInt = (g 8).toInt ∧ c19_g6.toInt = ((tE f n e : Nat) : Int)))) ∧ (id ((r45.toInt = 0 → ERR (fLet f n e (true)) c45_g7 c45_g8))) ∧ (id ((r45.toInt = 0 → c45_F18 = (F 18) ∧ c45_F19 = (F 19)))) := hx45
    have cx := clampI (x := x33) (by omega)
    have hx33 : x33.toInt = 240 + ((F 12) 6).toInt := by have h := congrArg (fun z => ((F 12) z).toInt) e6; omega
    have hxk : Int32.toNatClampNeg x33 = 240 + Int32.toNatClampNeg ((F 12) 6) := by omega
    refine pw_ite (fun c48 => ?_) (fun c48 => ?_)
    · have c48 := congrArg Int32.toInt c48
      have qq0 : (∀ q, q < 240 → WR c45_F18 c45_F19 q = WR (F 18) (F 19) q) ∧ (∀ q, q ≠ 6 → (F 12) q = (F 12) q) := by obtain ⟨a1, a2⟩ := p45_2 (by omega); rw [a1, a2]; exact ⟨fun _ _ => rfl, fun _ _ => rfl⟩
      have qq1 : OUTS (prtF f n pl e d) (0 : Int32) c45_g7 c45_g8 f n (fun e1 d1 => TKS f n e1 c19_g3.toInt c19_g4.toInt c19_g5.toInt c19_g6.toInt ∧ (entR ((F 13) 6) (F 20) (F 21) 480, prtR ((F 12) 6) c45_F18 c45_F19 240, lwsR ((F 11) 6) (F 14) (F 15) (F 16) (F 17) 240) = d1 ∧ c45_g7.toInt = (g 7).toInt ∧ c45_g8.toInt = (g 8).toInt) := by exact outs_bad (by omega) (p45_1 (by omega)) (fun q hq => prtF_new (by omega) (newF_let hq))
      exact pw_some ⟨qq0, qq1⟩
    · have c48 := z_ne c48
      obtain ⟨g1, g2, g3, g4, g5⟩ := p45_0 (by omega)
      have gk := TK_k g2
      have gf := fLet_k g1
      rw [hxk] at g2 gk
      have gw : ∀ q, q ≠ 240 + Int32.toNatClampNeg ((F 12) 6) → WR c45_F18 c45_F19 q = WR (F 18) (F 19) q := fun q hq => TK_w g2 (hzF19 q).2 hq
      have gs : ∀ q, q ≠ 240 + Int32.toNatClampNeg ((F 12) 6) → c45_F19 q = (F 19) q := fun q hq => TK_s g2 hq
      have lp57 : ∀ (n57 : Nat) (y57_2 : Int32), (240 ≤ y57_2.toInt ∧ y57_2.toInt ≤ 280) → (∀ i : Nat, 240 + (i : Int) < y57_2.toInt → WR (F 18) (F 19) (240 + i) ≠ tW f n e) → pw (L_readPart_57 g F c19_g3 c19_g4 c19_g5 c19_g6 x33 c45_g7 c45_g8 c45_F18 c45_F19 n57 y57_2) (QF_readPart g F f n pl e d) := by
        intro n57
        induction n57 with
        | zero => intros; exact pw_none
        | succ n57 ih57 =>
          intro y57_2 f23 in57
          show pw (B_readPart_57 g F c19_g3 c19_g4 c19_g5 c19_g6 x33 c45_g7 c45_g8 c45_F18 c45_F19 (L_readPart_57 g F c19_g3 c19_g4 c19_g5 c19_g6 x33 c45_g7 c45_g8 c45_F18 c45_F19 n57) y57_2) _
          unfold B_readPart_57
          have c3 := clampI (x := y57_2) (by omega)
          refine pw_ite (fun c59 => ?_) (fun c59 => ?_)
          · have c59 := (z_le _ _).mp c59
            have hnw : newF f n e d.2.1 = none := newF_ok g1 (by rw [hd2]; intro h; obtain ⟨j, hj, h⟩ := tab_mem.mp h; exact in57 j (by omega) h)
            refine pw_if (fun hb97 => ?_)
            obtain ⟨hbl97, hbr97⟩ := hb97
            have f25 : (((F 12) (Int32.toNatClampNeg 6)) + 1).toInt = ((F 12) (Int32.toNatClampNeg 6)).toInt + 1 := z_addc (by decide +kernel) (by omega) (by omega)
            refine pw_if (fun hb100 => ?_)
            obtain ⟨hbl100, hbr100⟩ := hb100
            refine pw_vl (fun w100 ew100 => ?_)
            have hF26 : rng (0) 40 w100 := by rw [ew100]; exact rng_upd hzF12 (by omega) (by omega)
            have hMI102 : id (MInv (upd (upd (upd (upd (upd (upd g 3 c19_g3) 4 c19_g4) 5 c19_g5) 6 c19_g6) 7 c45_g7) 8 c45_g8) (upF (upF (upF F 12 w100) 18 c45_F18) 19 c45_F19)) := show MInv (upd (upd (upd (upd (upd (upd g 3 c19_g3) 4 c19_g4) 5 c19_g5) 6 c19_g6) 7 c45_g7) 8 c45_g8) (upF (upF (upF F 12 w100) 18 c45_F18) 19 c45_F19) from (MInv_i ((hI9.1)) hzg2 hg6 hg7 hg8 hg9 hg16 hg17 ((hI9.2.2.2.2.2.2.2.2.1)) ((hI9.2.2.2.2.2.2.2.2.2.1)) ((hI9.2.2.2.2.2.2.2.2.2.2.1)) ((hI9.2.2.2.2.2.2.2.2.2.2.2.1)) ((hI9.2.2.2.2.2.2.2.2.2.2.2.2.1)) ((hI9.2.2.2.2.2.2.2.2.2.2.2.2.2.1)) ((hI9.2.2.2.2.2.2.2.2.2.2.2.2.2.2.1)) ((hI9.2.2.2.2.2.2.2.2.2.2.2.2.2.2.2.1)) ((hI9.2.2.2.2.2.2.2.2.2.2.2.2.2.2.2.2.1)) ((hI9.2.2.2.2.2.2.2.2.2.2.2.2.2.2.2.2.2.1)) ((hI9.2.2.2.2.2.2.2.2.2.2.2.2.2.2.2.2.2.2.1)) ((hI9.2.2.2.2.2.2.2.2.2.2.2.2.2.2.2.2.2.2.2.1)) ((hI9.2.2.2.2.2.2.2.2.2.2.2.2.2.2.2.2.2.2.2.2.1)) ((hI9.2.2.2.2.2.2.2.2.2.2.2.2.2.2.2.2.2.2.2.2.2.1)) ((hI9.2.2.2.2.2.2.2.2.2.2.2.2.2.2.2.2.2.2.2.2.2.2.1)) ((hI9.2.2.2.2.2.2.2.2.2.2.2.2.2.2.2.2.2.2.2.2.2.2.2.1)) ((hI9.2.2.2.2.2.2.2.2.2.2.2.2.2.2.2.2.2.2.2.2.2.2.2.2.1)) hzF11 hF26 hzF13 hzF15 hg18 hzF21 hzF24 hzF25 hzF26 hzF33 hzF38 hzF41 hzF43 hzF45 hzF46 hzF50 hzF53 hzF54 hzLQ)
            refine pw_b4 (fun c102_g3 c102_g4 c102_g5 c102_g6 hc102 => ?_)
            have hq102 := wp_at (ok_scan (upd (upd (upd (upd (upd (upd g 3 c19_g3) 4 c19_g4) 5 c19_g5) 6 c19_g6) 7 c45_g7) 8 c45_g8) (upF (upF (upF F 12 w100) 18 c45_F18) 19 c45_F19) hMI102) hc102
            obtain ⟨hg27, hg28, hg29, hg30, f31, f32, f33⟩ : (((0) ≤ c102_g3.toInt ∧ c102_g3.toInt ≤ 4)) ∧ (((-1) ≤ c102_g4.toInt ∧ c102_g4.toInt ≤ 8)) ∧ (((0) ≤ c102_g5.toInt ∧ c102_g5.toInt ≤ 2001)) ∧ (((0) ≤ c102_g6.toInt ∧ c102_g6.toInt ≤ 2001)) ∧ (id ((c102_g3.toInt = 2 → c102_g5.toInt + 2 ≤ c102_g6.toInt ∧ c102_g6.toInt ≤ c102_g5.toInt + 18 ∧ c102_g6.toInt ≤ 2000))) ∧ (id ((c102_g3.toInt ≠ 4 → c19_g6.toInt < c102_g6.toInt))) ∧ (c19_g6.toInt ≤ c102_g6.toInt) := hq102
            have h8102_hf : (F 0) = f := by first | assumption | omega
            have h8102_hn : Int32.toNatClampNeg (g 2) = n := by first | assumption | omega
            have h8102_he : Int32.toNatClampNeg c19_g6 = (tE f n e) := by have c9 := clampI (x := c19_g6) (by omega); omega
            have h8102_hfit : ∀ i, fits .byte (.int (f i)) = true := by first | assumption | omega
            have hx102 := pwq (fn_scan (upd (upd (upd (upd (upd (upd g 3 c19_g3) 4 c19_g4) 5 c19_g5) 6 c19_g6) 7 c45_g7) 8 c45_g8) (upF (upF (upF F 12 w100) 18 c45_F18) 19 c45_F19) (f) (n) (tE f n e) hMI102 h8102_hf h8102_hn h8102_he h8102_hfit) hc102
            have p102_0 : TKS f n (tE f n e) c102_g3.toInt c102_g4.toInt c102_g5.toInt c102_g6.toInt := hx102
            clear hx102
            have qq0 : (∀ q, q < 240 → WR c45_F18 c45_F19 q = WR (F 18) (F 19) q) ∧ (∀ q, q ≠ 6 → w100 q = (F 12) q) := by exact ⟨fun q hq => gw q (by omega), fun q hq => by rw [ew100, e6]; exact pk_un hq⟩
            have qq1 : OUTS (prtF f n pl e d) (1 : Int32) c45_g7 c45_g8 f n (fun e1 d1 => TKS f n e1 c102_g3.toInt c102_g4.toInt c102_g5.toInt c102_g6.toInt ∧ (entR ((F 13) 6) (F 20) (F 21) 480, prtR (w100 6) c45_F18 c45_F19 240, lwsR ((F 11) 6) (F 14) (F 15) (F 16) (F 17) 240) = d1 ∧ c45_g7.toInt = (g 7).toInt ∧ c45_g8.toInt = (g 8).toInt) := by refine outs_ok (d1 := (d.1, d.2.1 ++ [tW f n e], d.2.2)) (by omega) (e1 := tE f n e) (prtF_kO (by omega) hnw) ⟨p102_0, Prod.ext hd1.symm (Prod.ext ?_ hd3.symm), by omega, by omega⟩; show prtR _ _ _ _ = d.2.1 ++ _; rw [hd2]; exact prt_addR (by rw [ew100]; show Int32.toNatClampNeg (upd (F 12) (Int32.toNatClampNeg 6) _ 6) = _; rw [e6, pk_us]; have hz9 : ((F 12) 6 + 1).toInt = ((F 12) 6).toInt + 1 := z_addc (by decide +kernel) (by omega) (by omega); have cz := clampI (x := (F 12) 6 + 1) (by omega); omega) (fun q hq => gw q (by omega)) gk.1
            exact pw_some ⟨qq0, qq1⟩
          · have c59 := z_nle c59
            have hpr72_0 : (0 ≤ y57_2.toInt ∧ y57_2.toInt < 280) := by first | assumption | omega
            have hpr72_1 : 16 * 280 ≤ 4480 := by first | assumption | omega
            have hpr72_2 : 4480 ≤ 500000 := by first | assumption | omega
            have hpr72_3 : (0 ≤ x33.toInt ∧ x33.toInt < 280) := by first | assumption | omega
            refine pw_b1 (fun r72 hc72 => ?_)
            have hq72 := wp_at (ok_same c45_F18 4480 c45_F19 280 y57_2 x33 hg18 hpr72_0 hpr72_1 hpr72_2 hpr72_3) hc72
            have f34 : (0 ≤ r72.toInt ∧ r72.toInt ≤ 1) := hq72
            clear hq72
            have h872_hsa : 0 ≤ (c45_F19 (Int32.toNatClampNeg y57_2)).toInt := by have h0 := wfd_p (j := Int32.toNatClampNeg y57_2 - 240) hwf hd2 (by omega); rw [show 240 + (Int32.toNatClampNeg y57_2 - 240) = Int32.toNatClampNeg y57_2 by omega] at h0; have h1 := wr_pos h0; rw [gs _ (by omega)]; omega
            have h872_hsb : 0 ≤ (c45_F19 (Int32.toNatClampNeg x33)).toInt := by rw [hxk]; omega
            have hx72 := pwq (fn_same c45_F18 4480 c45_F19 280 y57_2 x33 hg18 hpr72_0 hpr72_1 hpr72_2 hpr72_3 h872_hsa h872_hsb) hc72
            obtain ⟨p72_0, p72_1⟩ : (id ((r72.toInt ≠ 0 → WR c45_F18 c45_F19 (Int32.toNatClampNeg y57_2) = WR c45_F18 c45_F19 (Int32.toNatClampNeg x33)))) ∧ (id ((r72.toInt = 0 → WR c45_F18 c45_F19 (Int32.toNatClampNeg y57_2) ≠ WR c45_F18 c45_F19 (Int32.toNatClampNeg x33)))) := hx72
            refine pw_ite (fun c75 => ?_) (fun c75 => ?_)
            · have c75 := congrArg Int32.toInt c75
              have f35 : (y57_2 + 1).toInt = y57_2.toInt + (1) := z_addc (by decide +kernel) (by omega) (by omega)
              have iv57_0 : (240 ≤ (y57_2 + 1).toInt ∧ (y57_2 + 1).toInt ≤ 280) := by omega
              have iv57_1 : (∀ i : Nat, 240 + (i : Int) < (y57_2 + 1).toInt → WR (F 18) (F 19) (240 + i) ≠ tW f n e) := by intro i hi; by_cases q : 240 + (i : Int) < y57_2.toInt; (exact in57 i q); (have h := p72_1 (by omega); rw [hxk, gk.1, show Int32.toNatClampNeg y57_2 = 240 + i by omega, gw _ (by omega)] at h; exact h)
              exact ih57 (y57_2 + 1) iv57_0 iv57_1
            · have c75 := z_ne c75
              have hMI80 : id (MInv (upd (upd (upd (upd (upd (upd g 3 c19_g3) 4 c19_g4) 5 c19_g5) 6 c19_g6) 7 c45_g7) 8 c45_g8) (upF (upF F 18 c45_F18) 19 c45_F19)) := show MInv (upd (upd (upd (upd (upd (upd g 3 c19_g3) 4 c19_g4) 5 c19_g5) 6 c19_g6) 7 c45_g7) 8 c45_g8) (upF (upF F 18 c45_F18) 19 c45_F19) from (MInv_i ((hI9.1)) hzg2 hg6 hg7 hg8 hg9 hg16 hg17 ((hI9.2.2.2.2.2.2.2.2.1)) ((hI9.2.2.2.2.2.2.2.2.2.1)) ((hI9.2.2.2.2.2.2.2.2.2.2.1)) ((hI9.2.2.2.2.2.2.2.2.2.2.2.1)) ((hI9.2.2.2.2.2.2.2.2.2.2.2.2.1)) ((hI9.2.2.2.2.2.2.2.2.2.2.2.2.2.1)) ((hI9.2.2.2.2.2.2.2.2.2.2.2.2.2.2.1)) ((hI9.2.2.2.2.2.2.2.2.2.2.2.2.2.2.2.1)) ((hI9.2.2.2.2.2.2.2.2.2.2.2.2.2.2.2.2.1)) ((hI9.2.2.2.2.2.2.2.2.2.2.2.2.2.2.2.2.2.1)) ((hI9.2.2.2.2.2.2.2.2.2.2.2.2.2.2.2.2.2.2.1)) ((hI9.2.2.2.2.2.2.2.2.2.2.2.2.2.2.2.2.2.2.2.1)) ((hI9.2.2.2.2.2.2.2.2.2.2.2.2.2.2.2.2.2.2.2.2.1)) ((hI9.2.2.2.2.2.2.2.2.2.2.2.2.2.2.2.2.2.2.2.2.2.1)) ((hI9.2.2.2.2.2.2.2.2.2.2.2.2.2.2.2.2.2.2.2.2.2.2.1)) ((hI9.2.2.2.2.2.2.2.2.2.2.2.2.2.2.2.2.2.2.2.2.2.2.2.1)) ((hI9.2.2.2.2.2.2.2.2.2.2.2.2.2.2.2.2.2.2.2.2.2.2.2.2.1)) hzF11 hzF12 hzF13 hzF15 hg18 hzF21 hzF24 hzF25 hzF26 hzF33 hzF38 hzF41 hzF43 hzF45 hzF46 hzF50 hzF53 hzF54 hzLQ)
              have hpr80_0 : 0 ≤ (3 : Int32).toInt ∧ (3 : Int32).toInt ≤ 4 := by first | assumption | omega
              refine pw_b3 (fun r80 c80_g7 c80_g8 hc80 => ?_)
              have hq80 := wp_at (ok_wrong (upd (upd (upd (upd (upd (upd g 3 c19_g3) 4 c19_g4) 5 c19_g5) 6 c19_g6) 7 c45_g7) 8 c45_g8) (upF (upF F 18 c45_F18) 19 c45_F19) (3 : Int32) hMI80 hpr80_0) hc80
              obtain ⟨hg36, hg37, f38, f39⟩ : (((0) ≤ c80_g7.toInt ∧ c80_g7.toInt ≤ 4)) ∧ (((-1) ≤ c80_g8.toInt ∧ c80_g8.toInt ≤ 2001)) ∧ (r80.toInt = 0) ∧ ((0 ≤ r80.toInt ∧ r80.toInt ≤ 1)) := hq80
              have hx80 := pwq (fn_wrong (upd (upd (upd (upd (upd (upd g 3 c19_g3) 4 c19_g4) 5 c19_g5) 6 c19_g6) 7 c45_g7) 8 c45_g8) (upF (upF F 18 c45_F18) 19 c45_F19) (3 : Int32) hMI80 hpr80_0) hc80
              obtain ⟨p80_0, p80_1, p80_2⟩ : (r80.toInt = 0) ∧ (c80_g7.toInt = (3 : Int32).toInt) ∧ (c80_g8.toInt = c19_g5.toInt) := hx80
              refine pw_if (fun hb83 => ?_)
              obtain ⟨hbl83, hbr83⟩ := hb83
              have qq0 : (∀ q, q < 240 → WR c45_F18 c45_F19 q = WR (F 18) (F 19) q) ∧ (∀ q, q ≠ 6 → (F 12) q = (F 12) q) := by exact ⟨fun q hq => gw q (by omega), fun _ _ => rfl⟩
              have qq1 : OUTS (prtF f n pl e d) r80 c80_g7 c80_g8 f n (fun e1 d1 => TKS f n e1 c19_g3.toInt c19_g4.toInt c19_g5.toInt c19_g6.toInt ∧ (entR ((F 13) 6) (F 20) (F 21) 480, prtR ((F 12) 6) c45_F18 c45_F19 240, lwsR ((F 11) 6) (F 14) (F 15) (F 16) (F 17) 240) = d1 ∧ c80_g7.toInt = (g 7).toInt ∧ c80_g8.toInt = (g 8).toInt) := by have h := p72_0 (by omega); rw [hxk, gk.1, gw _ (by omega)] at h; exact outs_bad (by omega) (z := some (3, tP f n e)) (err_of rfl (by omega) (by have t1 := TKS_at p19_0; omega) (by omega)) (fun q hq => by cases hq; exact prtF_new (by omega) (newF_two g1 (by rw [hd2]; exact tab_mem.mpr ⟨Int32.toNatClampNeg y57_2 - 240, by omega, by show WR (F 18) (F 19) (240 + (Int32.toNatClampNeg y57_2 - 240)) = _; rw [show 240 + (Int32.toNatClampNeg y57_2 - 240) = Int32.toNatClampNeg y57_2 by omega]; exact h⟩)))
              exact pw_some ⟨qq0, qq1⟩
      exact lp57 NN (240 : Int32) (show (240 ≤ (240 : Int32).toInt ∧ (240 : Int32).toInt ≤ 280) from by omega) (show (∀ i : Nat, 240 + (i : Int) < (240 : Int32).toInt → WR (F 18) (F 19) (240 + i) ≠ tW f n e) from by intro i hi; omega)
