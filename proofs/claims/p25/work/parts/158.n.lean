theorem pw_j17 {α0 α1 α2 α3 α4 α5 α6 α7 α8 α9 α10 α11 α12 α13 α14 α15 α16 β : Type} {j f : α0 → α1 → α2 → α3 → α4 → α5 → α6 → α7 → α8 → α9 → α10 → α11 → α12 → α13 → α14 → α15 → α16 → Option β} {Q : β → Prop} {a0 : α0} {a1 : α1} {a2 : α2} {a3 : α3} {a4 : α4} {a5 : α5} {a6 : α6} {a7 : α7} {a8 : α8} {a9 : α9} {a10 : α10} {a11 : α11} {a12 : α12} {a13 : α13} {a14 : α14} {a15 : α15} {a16 : α16} (e : j = f) (h : ∀ x0, a0 = x0 → ∀ x1, a1 = x1 → ∀ x2, a2 = x2 → ∀ x3, a3 = x3 → ∀ x4, a4 = x4 → ∀ x5, a5 = x5 → ∀ x6, a6 = x6 → ∀ x7, a7 = x7 → ∀ x8, a8 = x8 → ∀ x9, a9 = x9 → ∀ x10, a10 = x10 → ∀ x11, a11 = x11 → ∀ x12, a12 = x12 → ∀ x13, a13 = x13 → ∀ x14, a14 = x14 → ∀ x15, a15 = x15 → ∀ x16, a16 = x16 → pw (f x0 x1 x2 x3 x4 x5 x6 x7 x8 x9 x10 x11 x12 x13 x14 x15 x16) Q) : pw (j a0 a1 a2 a3 a4 a5 a6 a7 a8 a9 a10 a11 a12 a13 a14 a15 a16) Q := by
  rw [e]
  exact h a0 rfl a1 rfl a2 rfl a3 rfl a4 rfl a5 rfl a6 rfl a7 rfl a8 rfl a9 rfl a10 rfl a11 rfl a12 rfl a13 rfl a14 rfl a15 rfl a16 rfl
theorem pw_j18 {α0 α1 α2 α3 α4 α5 α6 α7 α8 α9 α10 α11 α12 α13 α14 α15 α16 α17 β : Type} {j f : α0 → α1 → α2 → α3 → α4 → α5 → α6 → α7 → α8 → α9 → α10 → α11 → α12 → α13 → α14 → α15 → α16 → α17 → Option β} {Q : β → Prop} {a0 : α0} {a1 : α1} {a2 : α2} {a3 : α3} {a4 : α4} {a5 : α5} {a6 : α6} {a7 : α7} {a8 : α8} {a9 : α9} {a10 : α10} {a11 : α11} {a12 : α12} {a13 : α13} {a14 : α14} {a15 : α15} {a16 : α16} {a17 : α17} (e : j = f) (h : ∀ x0, a0 = x0 → ∀ x1, a1 = x1 → ∀ x2, a2 = x2 → ∀ x3, a3 = x3 → ∀ x4, a4 = x4 → ∀ x5, a5 = x5 → ∀ x6, a6 = x6 → ∀ x7, a7 = x7 → ∀ x8, a8 = x8 → ∀ x9, a9 = x9 → ∀ x10, a10 = x10 → ∀ x11, a11 = x11 → ∀ x12, a12 = x12 → ∀ x13, a13 = x13 → ∀ x14, a14 = x14 → ∀ x15, a15 = x15 → ∀ x16, a16 = x16 → ∀ x17, a17 = x17 → pw (f x0 x1 x2 x3 x4 x5 x6 x7 x8 x9 x10 x11 x12 x13 x14 x15 x16 x17) Q) : pw (j a0 a1 a2 a3 a4 a5 a6 a7 a8 a9 a10 a11 a12 a13 a14 a15 a16 a17) Q := by
  rw [e]
  exact h a0 rfl a1 rfl a2 rfl a3 rfl a4 rfl a5 rfl a6 rfl a7 rfl a8 rfl a9 rfl a10 rfl a11 rfl a12 rfl a13 rfl a14 rfl a15 rfl a16 rfl a17 rfl
theorem pw_j22 {α0 α1 α2 α3 α4 α5 α6 α7 α8 α9 α10 α11 α12 α13 α14 α15 α16 α17 α18 α19 α20 α21 β : Type} {j f : α0 → α1 → α2 → α3 → α4 → α5 → α6 → α7 → α8 → α9 → α10 → α11 → α12 → α13 → α14 → α15 → α16 → α17 → α18 → α19 → α20 → α21 → Option β} {Q : β → Prop} {a0 : α0} {a1 : α1} {a2 : α2} {a3 : α3} {a4 : α4} {a5 : α5} {a6 : α6} {a7 : α7} {a8 : α8} {a9 : α9} {a10 : α10} {a11 : α11} {a12 : α12} {a13 : α13} {a14 : α14} {a15 : α15} {a16 : α16} {a17 : α17} {a18 : α18} {a19 : α19} {a20 : α20} {a21 : α21} (e : j = f) (h : ∀ x0, a0 = x0 → ∀ x1, a1 = x1 → ∀ x2, a2 = x2 → ∀ x3, a3 = x3 → ∀ x4, a4 = x4 → ∀ x5, a5 = x5 → ∀ x6, a6 = x6 → ∀ x7, a7 = x7 → ∀ x8, a8 = x8 → ∀ x9, a9 = x9 → ∀ x10, a10 = x10 → ∀ x11, a11 = x11 → ∀ x12, a12 = x12 → ∀ x13, a13 = x13 → ∀ x14, a14 = x14 → ∀ x15, a15 = x15 → ∀ x16, a16 = x16 → ∀ x17, a17 = x17 → ∀ x18, a18 = x18 → ∀ x19, a19 = x19 → ∀ x20, a20 = x20 → ∀ x21, a21 = x21 → pw (f x0 x1 x2 x3 x4 x5 x6 x7 x8 x9 x10 x11 x12 x13 x14 x15 x16 x17 x18 x19 x20 x21) Q) : pw (j a0 a1 a2 a3 a4 a5 a6 a7 a8 a9 a10 a11 a12 a13 a14 a15 a16 a17 a18 a19 a20 a21) Q := by
  rw [e]
  exact h a0 rfl a1 rfl a2 rfl a3 rfl a4 rfl a5 rfl a6 rfl a7 rfl a8 rfl a9 rfl a10 rfl a11 rfl a12 rfl a13 rfl a14 rfl a15 rfl a16 rfl a17 rfl a18 rfl a19 rfl a20 rfl a21 rfl
abbrev QF_readLaw (g : Nat → Int32) (F : Nat → Nat → Int32) (f : Nat → Int32) (n : Nat) (pl : Nat) (e : Nat) (d : Dr) : (Int32 × Int32 × Int32 × Int32 × Int32 × Int32 × Int32 × (Nat → Int32) × (Nat → Int32) × (Nat → Int32) × (Nat → Int32) × (Nat → Int32)) → Prop := (fun t => ((∀ q, q < 960 → WR (t.2.2.2.2.2.2.2.2.1) (t.2.2.2.2.2.2.2.2.2.1) q = WR (F 14) (F 15) q) ∧ (∀ q, q < 240 → (t.2.2.2.2.2.2.2.2.2.2.1) q = (F 16) q ∧ (t.2.2.2.2.2.2.2.2.2.2.2) q = (F 17) q) ∧ (∀ q, q ≠ 6 → (t.2.2.2.2.2.2.2.1) q = (F 11) q)) ∧ (OUTS (lawF f n pl e d) (t.1) (t.2.2.2.2.2.1) (t.2.2.2.2.2.2.1) f n (fun e1 d1 => TKS f n e1 (t.2.1).toInt (t.2.2.1).toInt (t.2.2.2.1).toInt (t.2.2.2.2.1).toInt ∧ (entR ((F 13) 6) (F 20) (F 21) 480, prtR ((F 12) 6) (F 18) (F 19) 240, lwsR ((t.2.2.2.2.2.2.2.1) 6) (t.2.2.2.2.2.2.2.2.1) (t.2.2.2.2.2.2.2.2.2.1) (t.2.2.2.2.2.2.2.2.2.2.1) (t.2.2.2.2.2.2.2.2.2.2.2) 240) = d1 ∧ (t.2.2.2.2.2.1).toInt = (g 7).toInt ∧ (t.2.2.2.2.2.2.1).toInt = (g 8).toInt)))
set_option maxHeartbeats 4000000 in
set_option maxRecDepth 100000 in
theorem fn_readLaw (g : Nat → Int32) (F : Nat → Nat → Int32) (f : Nat → Int32) (n : Nat) (pl : Nat) (e : Nat) (d : Dr) (hI : MInv g F) (hf : (F 0) = f) (hn : Int32.toNatClampNeg (g 2) = n) (he : Int32.toNatClampNeg (g 6) = e) (hat : (g 5).toInt = (pl : Int)) (hd : (entR ((F 13) 6) (F 20) (F 21) 480, prtR ((F 12) 6) (F 18) (F 19) 240, lwsR ((F 11) 6) (F 14) (F 15) (F 16) (F 17) 240) = d) (hwf : WFD d) (hfit : ∀ i, fits .byte (.int (f i)) = true) : pw (f_readLaw g F) (QF_readLaw g F f n pl e d) := by
  unfold f_readLaw
  have hI9 : id (MInv g F) := hI
  obtain ⟨-, hzg2, hzg3, hzg4, hzg5, hzg6, hzg7, hzg8, hzg9, -, -, -, -, -, -, -, -, -, -, -, -, -, -, -, -, hzF11, hzF12, hzF13, hzF15, hzF19, hzF21, hzF24, hzF25, hzF26, hzF33, hzF38, hzF41, hzF43, hzF45, hzF46, hzF50, hzF53, hzF54, hzLQ⟩ := hI
  have zkm1 : (-1 : Int32).toInt = -1 := by decide +kernel
  have zk0 : (0 : Int32).toInt = 0 := by decide +kernel
  have zk1 : (1 : Int32).toInt = 1 := by decide +kernel
  have zk2 : (2 : Int32).toInt = 2 := by decide +kernel
  have zk3 : (3 : Int32).toInt = 3 := by decide +kernel
  have zk4 : (4 : Int32).toInt = 4 := by decide +kernel
  have zk5 : (5 : Int32).toInt = 5 := by decide +kernel
  have zk6 : (6 : Int32).toInt = 6 := by decide +kernel
  have zk7 : (7 : Int32).toInt = 7 := by decide +kernel
  have zk40 : (40 : Int32).toInt = 40 := by decide +kernel
  have zk240 : (240 : Int32).toInt = 240 := by decide +kernel
  have e6 : Int32.toNatClampNeg (6 : Int32) = 6 := by decide
  have e13 : ((F 13) (Int32.toNatClampNeg (6 : Int32))).toInt = ((F 13) 6).toInt := by rw [e6]
  have e12 : ((F 12) (Int32.toNatClampNeg (6 : Int32))).toInt = ((F 12) 6).toInt := by rw [e6]
  have e11 : ((F 11) (Int32.toNatClampNeg (6 : Int32))).toInt = ((F 11) 6).toInt := by rw [e6]
  have hd1 : d.1 = entR ((F 13) 6) (F 20) (F 21) 480 := by rw [← hd]
  have hd2 : d.2.1 = prtR ((F 12) 6) (F 18) (F 19) 240 := by rw [← hd]
  have hd3 : d.2.2 = lwsR ((F 11) 6) (F 14) (F 15) (F 16) (F 17) 240 := by rw [← hd]
  have hde : d.1.length = Int32.toNatClampNeg ((F 13) 6) := by rw [hd1]; exact ent_lenR
  have hdp : d.2.1.length = Int32.toNatClampNeg ((F 12) 6) := by rw [hd2]; exact prt_lenR
  have hdl : d.2.2.length = Int32.toNatClampNeg ((F 11) 6) := by rw [hd3]; exact lws_lenR
  have hb13 := hzF13 6
  have hb12 := hzF12 6
  have hb11 := hzF11 6
  have c13 := clampI (x := (F 13) 6) (by omega)
  have c12 := clampI (x := (F 12) 6) (by omega)
  have c11 := clampI (x := (F 11) 6) (by omega)
  refine pw_if (fun hb6 => ?_)
  obtain ⟨hbl6, hbr6⟩ := hb6
  have f1 := hzF11 (Int32.toNatClampNeg (6 : Int32))
  refine pw_ite (fun c9 => ?_) (fun c9 => ?_)
  · have c9 := congrArg Int32.toInt c9
    have hMI14 : id (MInv g F) := show MInv g F from (MInv_i ((hI9.1)) hzg2 hzg3 hzg4 hzg5 hzg6 hzg7 hzg8 hzg9 ((hI9.2.2.2.2.2.2.2.2.2.1)) ((hI9.2.2.2.2.2.2.2.2.2.2.1)) ((hI9.2.2.2.2.2.2.2.2.2.2.2.1)) ((hI9.2.2.2.2.2.2.2.2.2.2.2.2.1)) ((hI9.2.2.2.2.2.2.2.2.2.2.2.2.2.1)) ((hI9.2.2.2.2.2.2.2.2.2.2.2.2.2.2.1)) ((hI9.2.2.2.2.2.2.2.2.2.2.2.2.2.2.2.1)) ((hI9.2.2.2.2.2.2.2.2.2.2.2.2.2.2.2.2.1)) ((hI9.2.2.2.2.2.2.2.2.2.2.2.2.2.2.2.2.2.1)) ((hI9.2.2.2.2.2.2.2.2.2.2.2.2.2.2.2.2.2.2.1)) ((hI9.2.2.2.2.2.2.2.2.2.2.2.2.2.2.2.2.2.2.2.1)) ((hI9.2.2.2.2.2.2.2.2.2.2.2.2.2.2.2.2.2.2.2.2.1)) ((hI9.2.2.2.2.2.2.2.2.2.2.2.2.2.2.2.2.2.2.2.2.2.1)) ((hI9.2.2.2.2.2.2.2.2.2.2.2.2.2.2.2.2.2.2.2.2.2.2.1)) ((hI9.2.2.2.2.2.2.2.2.2.2.2.2.2.2.2.2.2.2.2.2.2.2.2.1)) ((hI9.2.2.2.2.2.2.2.2.2.2.2.2.2.2.2.2.2.2.2.2.2.2.2.2.1)) hzF11 hzF12 hzF13 hzF15 hzF19 hzF21 hzF24 hzF25 hzF26 hzF33 hzF38 hzF41 hzF43 hzF45 hzF46 hzF50 hzF53 hzF54 hzLQ)
    have hpr14_0 : 0 ≤ (4 : Int32).toInt ∧ (4 : Int32).toInt ≤ 4 := by first | assumption | omega
    refine pw_b3 (fun r14 c14_g7 c14_g8 hc14 => ?_)
    have hq14 := wp_at (ok_wrong g F (4 : Int32) hMI14 hpr14_0) hc14
    obtain ⟨hg2, hg3, f4, f5⟩ : (((0) ≤ c14_g7.toInt ∧ c14_g7.toInt ≤ 4)) ∧ (((-1) ≤ c14_g8.toInt ∧ c14_g8.toInt ≤ 2001)) ∧ (r14.toInt = 0) ∧ ((0 ≤ r14.toInt ∧ r14.toInt ≤ 1)) := hq14
    have hx14 := pwq (fn_wrong g F (4 : Int32) hMI14 hpr14_0) hc14
    obtain ⟨p14_0, p14_1, p14_2⟩ : (r14.toInt = 0) ∧ (c14_g7.toInt = (4 : Int32).toInt) ∧ (c14_g8.toInt = (g 5).toInt) := hx14
    refine pw_if (fun hb17 => ?_)
    obtain ⟨hbl17, hbr17⟩ := hb17
    have qq0 : (∀ q, q < 960 → WR (F 14) (F 15) q = WR (F 14) (F 15) q) ∧ (∀ q, q < 240 → (F 16) q = (F 16) q ∧ (F 17) q = (F 17) q) ∧ (∀ q, q ≠ 6 → (F 11) q = (F 11) q) := by exact ⟨fun _ _ => rfl, (fun _ _ => ⟨rfl, rfl⟩), fun _ _ => rfl⟩
    have qq1 : OUTS (lawF f n pl e d) r14 c14_g7 c14_g8 f n (fun e1 d1 => TKS f n e1 (g 3).toInt (g 4).toInt (g 5).toInt (g 6).toInt ∧ (entR ((F 13) 6) (F 20) (F 21) 480, prtR ((F 12) 6) (F 18) (F 19) 240, lwsR ((F 11) 6) (F 14) (F 15) (F 16) (F 17) 240) = d1 ∧ c14_g7.toInt = (g 7).toInt ∧ c14_g8.toInt = (g 8).toInt) := by rw [e6] at c9; exact outs_bad (by omega) (z := some (4, pl)) (err_of rfl (by omega) (by omega) (by omega)) (fun q hq => by cases hq; exact lawF_full (by omega))
    exact pw_some ⟨qq0, qq1⟩
  · have c9 := z_ne c9
    rw [e6] at c9
    have hMI19 : id (MInv g F) := show MInv g F from (MInv_i ((hI9.1)) hzg2 hzg3 hzg4 hzg5 hzg6 hzg7 hzg8 hzg9 ((hI9.2.2.2.2.2.2.2.2.2.1)) ((hI9.2.2.2.2.2.2.2.2.2.2.1)) ((hI9.2.2.2.2.2.2.2.2.2.2.2.1)) ((hI9.2.2.2.2.2.2.2.2.2.2.2.2.1)) ((hI9.2.2.2.2.2.2.2.2.2.2.2.2.2.1)) ((hI9.2.2.2.2.2.2.2.2.2.2.2.2.2.2.1)) ((hI9.2.2.2.2.2.2.2.2.2.2.2.2.2.2.2.1)) ((hI9.2.2.2.2.2.2.2.2.2.2.2.2.2.2.2.2.1)) ((hI9.2.2.2.2.2.2.2.2.2.2.2.2.2.2.2.2.2.1)) ((hI9.2.2.2.2.2.2.2.2.2.2.2.2.2.2.2.2.2.2.1)) ((hI9.2.2.2.2.2.2.2.2.2.2.2.2.2.2.2.2.2.2.2.1)) ((hI9.2.2.2.2.2.2.2.2.2.2.2.2.2.2.2.2.2.2.2.2.1)) ((hI9.2.2.2.2.2.2.2.2.2.2.2.2.2.2.2.2.2.2.2.2.2.1)) ((hI9.2.2.2.2.2.2.2.2.2.2.2.2.2.2.2.2.2.2.2.2.2.2.1)) ((hI9.2.2.2.2.2.2.2.2.2.2.2.2.2.2.2.2.2.2.2.2.2.2.2.1)) ((hI9.2.2.2.2.2.2.2.2.2.2.2.2.2.2.2.2.2.2.2.2.2.2.2.2.1)) hzF11 hzF12 hzF13 hzF15 hzF19 hzF21 hzF24 hzF25 hzF26 hzF33 hzF38 hzF41 hzF43 hzF45 hzF46 hzF50 hzF53 hzF54 hzLQ)
    refine pw_b4 (fun c19_g3 c19_g4 c19_g5 c19_g6 hc19 => ?_)
    have hq19 := wp_at (ok_scan g F hMI19) hc19
    obtain ⟨hg6, hg7, hg8, hg9, f10, f11, f12⟩ : (((0) ≤ c19_g3.toInt ∧ c19_g3.toInt ≤ 4)) ∧ (((-1) ≤ c19_g4.toInt ∧ c19_g4.toInt ≤ 8)) ∧ (((0) ≤ c19_g5.toInt ∧ c19_g5.toInt ≤ 2001)) ∧ (((0) ≤ c19_g6.toInt ∧ c19_g6.toInt ≤ 2001)) ∧ (id ((c19_g3.toInt = 2 → c19_g5.toInt + 2 ≤ c19_g6.toInt ∧ c19_g6.toInt ≤ c19_g5.toInt + 18 ∧ c19_g6.toInt ≤ 2000))) ∧ (id ((c19_g3.toInt ≠ 4 → (g 6).toInt < c19_g6.toInt))) ∧ ((g 6).toInt ≤ c19_g6.toInt) := hq19
    have h819_hf : (F 0) = f := by first | assumption | omega
    have h819_hn : Int32.toNatClampNeg (g 2) = n := by first | assumption | omega
    have h819_he : Int32.toNatClampNeg (g 6) = e := by first | assumption | omega
    have h819_hfit : ∀ i, fits .byte (.int (f i)) = true := by first | assumption | omega
    have hx19 := pwq (fn_scan g F (f) (n) (e) hMI19 h819_hf h819_hn h819_he h819_hfit) hc19
    have p19_0 : TKS f n e c19_g3.toInt c19_g4.toInt c19_g5.toInt c19_g6.toInt := hx19
    clear hx19
    refine pw_if (fun hb31 => ?_)
    obtain ⟨hbl31, hbr31⟩ := hb31
    have f14 : (240 + ((F 11) (Int32.toNatClampNeg 6))).toInt = 240 + ((F 11) (Int32.toNatClampNeg 6)).toInt := z_addd (by decide +kernel) (by omega) (by omega)
    refine pw_vl (fun x33 ex33 => ?_)
    have f15 : x33.toInt = (240 + ((F 11) (Int32.toNatClampNeg 6))).toInt := congrArg Int32.toInt ex33
    have f16 : (4 * x33).toInt = 4 * x33.toInt := z_muld (by decide +kernel) (by omega) (by omega)
    have hMI47 : id (MInv (upd (upd (upd (upd g 3 c19_g3) 4 c19_g4) 5 c19_g5) 6 c19_g6) F) := show MInv (upd (upd (upd (upd g 3 c19_g3) 4 c19_g4) 5 c19_g5) 6 c19_g6) F from (MInv_i ((hI9.1)) hzg2 hg6 hg7 hg8 hg9 hzg7 hzg8 hzg9 ((hI9.2.2.2.2.2.2.2.2.2.1)) ((hI9.2.2.2.2.2.2.2.2.2.2.1)) ((hI9.2.2.2.2.2.2.2.2.2.2.2.1)) ((hI9.2.2.2.2.2.2.2.2.2.2.2.2.1)) ((hI9.2.2.2.2.2.2.2.2.2.2.2.2.2.1)) ((hI9.2.2.2.2.2.2.2.2.2.2.2.2.2.2.1)) ((hI9.2.2.2.2.2.2.2.2.2.2.2.2.2.2.2.1)) ((hI9.2.2.2.2.2.2.2.2.2.2.2.2.2.2.2.2.1)) ((hI9.2.2.2.2.2.2.2.2.2.2.2.2.2.2.2.2.2.1)) ((hI9.2.2.2.2.2.2.2.2.2.2.2.2.2.2.2.2.2.2.1)) ((hI9.2.2.2.2.2.2.2.2.2.2.2.2.2.2.2.2.2.2.2.1)) ((hI9.2.2.2.2.2.2.2.2.2.2.2.2.2.2.2.2.2.2.2.2.1)) ((hI9.2.2.2.2.2.2.2.2.2.2.2.2.2.2.2.2.2.2.2.2.2.1)) ((hI9.2.2.2.2.2.2.2.2.2.2.2.2.2.2.2.2.2.2.2.2.2.2.1)) ((hI9.2.2.2.2.2.2.2.2.2.2.2.2.2.2.2.2.2.2.2.2.2.2.2.1)) ((hI9.2.2.2.2.2.2.2.2.2.2.2.2.2.2.2.2.2.2.2.2.2.2.2.2.1)) hzF11 hzF12 hzF13 hzF15 hzF19 hzF21 hzF24 hzF25 hzF26 hzF33 hzF38 hzF41 hzF43 hzF45 hzF46 hzF50 hzF53 hzF54 hzLQ)
    have hpr47_0 : (0 ≤ (4 * x33).toInt ∧ (4 * x33).toInt < 1120) := by first | assumption | omega
    have hpr47_1 : 16 * 1120 ≤ 17920 := by first | assumption | omega
    have hpr47_2 : 17920 ≤ 500000 := by first | assumption | omega
    have hpr47_3 : id ((c19_g3.toInt = 2 → c19_g5.toInt + 2 ≤ c19_g6.toInt ∧ c19_g6.toInt ≤ c19_g5.toInt + 18 ∧ c19_g6.toInt ≤ 2000)) := show (c19_g3.toInt = 2 → c19_g5.toInt + 2 ≤ c19_g6.toInt ∧ c19_g6.toInt ≤ c19_g5.toInt + 18 ∧ c19_g6.toInt ≤ 2000) from by first | assumption | omega
    refine pw_b5 (fun r47 c47_g7 c47_g8 c47_F14 c47_F15 hc47 => ?_)
    have hq47 := wp_at (ok_take (upd (upd (upd (upd g 3 c19_g3) 4 c19_g4) 5 c19_g5) 6 c19_g6) F (F 14) 17920 (F 15) 1120 (4 * x33) (1 : Int32) hMI47 hzF15 hpr47_0 hpr47_1 hpr47_2 hpr47_3) hc47
    obtain ⟨hg17, hg18, hg19, f20, f21, f22, f23⟩ : (((0) ≤ c47_g7.toInt ∧ c47_g7.toInt ≤ 4)) ∧ (((-1) ≤ c47_g8.toInt ∧ c47_g8.toInt ≤ 2001)) ∧ (rng (-1) 16 c47_F15) ∧ (id ((r47.toInt = 1 → c19_g3.toInt = 2))) ∧ (id ((∀ k : Nat, (k : Int) ≠ (4 * x33).toInt → c47_F15 k = (F 15) k))) ∧ (id ((r47.toInt = 1 → (1 : Int32).toInt ≠ 0 → 1 ≤ (c47_F15 (Int32.toNatClampNeg (4 * x33))).toInt))) ∧ ((0 ≤ r47.toInt ∧ r47.toInt ≤ 1)) := hq47
    have h847_hf : (F 0) = f := by first | assumption | omega
    have h847_htk : TKS f n e c19_g3.toInt c19_g4.toInt c19_g5.toInt c19_g6.toInt := by exact p19_0
    have h847_hsm : (true) = decide ((1 : Int32).toInt ≠ 0) := by decide
    have h847_hfit : ∀ i, fits .byte (.int (f i)) = true := by first | assumption | omega
    have hx47 := pwq (fn_take (upd (upd (upd (upd g 3 c19_g3) 4 c19_g4) 5 c19_g5) 6 c19_g6) F (F 14) 17920 (F 15) 1120 (4 * x33) (1 : Int32) (f) (n) (e) (true) hMI47 hzF15 hpr47_0 hpr47_1 hpr47_2 hpr47_3 h847_hf h847_htk h847_hsm h847_hfit) hc47
    obtain ⟨p47_0, p47_1, p47_2⟩ : (id ((r47.toInt ≠ 0 → fLet f n e (true) = none ∧ TAKEN (F 14) c47_F14 (F 15) c47_F15 (Int32.toNatClampNeg (4 * x33)) f (tP f n e + 1) (tL f n e) ∧ c47_g7.toInt = (g 7).toInt ∧ c47_g8.toInt = (g 8).toInt ∧ c19_g6.toInt = ((tE f n e : Nat) : Int)))) ∧ (id ((r47.toInt = 0 → ERR (fLet f n e (true)) c47_g7 c47_g8))) ∧ (id ((r47.toInt = 0 → c47_F14 = (F 14) ∧ c47_F15 = (F 15)))) := hx47
    have hLQ24 : LQ (F 11) c47_F15 (g 9) := by
      exact lq_take hzLQ (4 * x33) (by assumption) hzF11 (by omega) (by omega)
    have cx := clampI (x := x33) (by omega)
    have hx33 : x33.toInt = 240 + ((F 11) 6).toInt := by have h := congrArg (fun z => ((F 11) z).toInt) e6; omega
    have hxk : Int32.toNatClampNeg x33 = (240 + Int32.toNatClampNeg ((F 11) 6)) := by omega
    have cx4 := clampI (x := 4 * x33) (by omega)
    have hx4 : Int32.toNatClampNeg (4 * x33) = 4 * (240 + Int32.toNatClampNeg ((F 11) 6)) := by omega
    have hp47 : r47.toInt = 1 → 1 ≤ (c47_F15 (Int32.toNatClampNeg (4 * x33))).toInt := fun h => f22 h (by omega)
    refine pw_ite (fun c50 => ?_) (fun c50 => ?_)
    · have c50 := congrArg Int32.toInt c50
      have qq0 : (∀ q, q < 960 → WR c47_F14 c47_F15 q = WR (F 14) (F 15) q) ∧ (∀ q, q < 240 → (F 16) q = (F 16) q ∧ (F 17) q = (F 17) q) ∧ (∀ q, q ≠ 6 → (F 11) q = (F 11) q) := by obtain ⟨a1, a2⟩ := p47_2 (by omega); rw [a1, a2]; exact ⟨fun _ _ => rfl, (fun _ _ => ⟨rfl, rfl⟩), fun _ _ => rfl⟩
      have qq1 : OUTS (lawF f n pl e d) (0 : Int32) c47_g7 c47_g8 f n (fun e1 d1 => TKS f n e1 c19_g3.toInt c19_g4.toInt c19_g5.toInt c19_g6.toInt ∧ (entR ((F 13) 6) (F 20) (F 21) 480, prtR ((F 12) 6) (F 18) (F 19) 240, lwsR ((F 11) 6) c47_F14 c47_F15 (F 16) (F 17) 240) = d1 ∧ c47_g7.toInt = (g 7).toInt ∧ c47_g8.toInt = (g 8).toInt) := by exact outs_bad (by omega) (p47_1 (by omega)) (fun q hq => lawF_1 (by omega) hq)
      exact pw_some ⟨qq0, qq1⟩
    · have c50 := z_ne c50
      obtain ⟨g1, g2, g3, g4, g5⟩ := p47_0 (by omega)
      rw [hx4] at g2
      have gk := TK_k g2
      have hr47 : rng (-1) 16 c47_F15 := by assumption
      have hMI56 : id (MInv (upd (upd (upd (upd (upd (upd g 3 c19_g3) 4 c19_g4) 5 c19_g5) 6 c19_g6) 7 c47_g7) 8 c47_g8) (upF (upF F 14 c47_F14) 15 c47_F15)) := show MInv (upd (upd (upd (upd (upd (upd g 3 c19_g3) 4 c19_g4) 5 c19_g5) 6 c19_g6) 7 c47_g7) 8 c47_g8) (upF (upF F 14 c47_F14) 15 c47_F15) from (MInv_i ((hI9.1)) hzg2 hg6 hg7 hg8 hg9 hg17 hg18 hzg9 ((hI9.2.2.2.2.2.2.2.2.2.1)) ((hI9.2.2.2.2.2.2.2.2.2.2.1)) ((hI9.2.2.2.2.2.2.2.2.2.2.2.1)) ((hI9.2.2.2.2.2.2.2.2.2.2.2.2.1)) ((hI9.2.2.2.2.2.2.2.2.2.2.2.2.2.1)) ((hI9.2.2.2.2.2.2.2.2.2.2.2.2.2.2.1)) ((hI9.2.2.2.2.2.2.2.2.2.2.2.2.2.2.2.1)) ((hI9.2.2.2.2.2.2.2.2.2.2.2.2.2.2.2.2.1)) ((hI9.2.2.2.2.2.2.2.2.2.2.2.2.2.2.2.2.2.1)) ((hI9.2.2.2.2.2.2.2.2.2.2.2.2.2.2.2.2.2.2.1)) ((hI9.2.2.2.2.2.2.2.2.2.2.2.2.2.2.2.2.2.2.2.1)) ((hI9.2.2.2.2.2.2.2.2.2.2.2.2.2.2.2.2.2.2.2.2.1)) ((hI9.2.2.2.2.2.2.2.2.2.2.2.2.2.2.2.2.2.2.2.2.2.1)) ((hI9.2.2.2.2.2.2.2.2.2.2.2.2.2.2.2.2.2.2.2.2.2.2.1)) ((hI9.2.2.2.2.2.2.2.2.2.2.2.2.2.2.2.2.2.2.2.2.2.2.2.1)) ((hI9.2.2.2.2.2.2.2.2.2.2.2.2.2.2.2.2.2.2.2.2.2.2.2.2.1)) hzF11 hzF12 hzF13 hg19 hzF19 hzF21 hzF24 hzF25 hzF26 hzF33 hzF38 hzF41 hzF43 hzF45 hzF46 hzF50 hzF53 hzF54 hLQ24)
      refine pw_b4 (fun c56_g3 c56_g4 c56_g5 c56_g6 hc56 => ?_)
      have hq56 := wp_at (ok_scan (upd (upd (upd (upd (upd (upd g 3 c19_g3) 4 c19_g4) 5 c19_g5) 6 c19_g6) 7 c47_g7) 8 c47_g8) (upF (upF F 14 c47_F14) 15 c47_F15) hMI56) hc56
      obtain ⟨hg25, hg26, hg27, hg28, f29, f30, f31⟩ : (((0) ≤ c56_g3.toInt ∧ c56_g3.toInt ≤ 4)) ∧ (((-1) ≤ c56_g4.toInt ∧ c56_g4.toInt ≤ 8)) ∧ (((0) ≤ c56_g5.toInt ∧ c56_g5.toInt ≤ 2001)) ∧ (((0) ≤ c56_g6.toInt ∧ c56_g6.toInt ≤ 2001)) ∧ (id ((c56_g3.toInt = 2 → c56_g5.toInt + 2 ≤ c56_g6.toInt ∧ c56_g6.toInt ≤ c56_g5.toInt + 18 ∧ c56_g6.toInt ≤ 2000))) ∧ (id ((c56_g3.toInt ≠ 4 → c19_g6.toInt < c56_g6.toInt))) ∧ (c19_g6.toInt ≤ c56_g6.toInt) := hq56
      have h856_hf : (F 0) = f := by first | assumption | omega
      have h856_hn : Int32.toNatClampNeg (g 2) = n := by first | assumption | omega
      have h856_he : Int32.toNatClampNeg c19_g6 = (tE f n e) := by have c9 := clampI (x := c19_g6) (by omega); omega
      have h856_hfit : ∀ i, fits .byte (.int (f i)) = true := by first | assumption | omega
      have hx56 := pwq (fn_scan (upd (upd (upd (upd (upd (upd g 3 c19_g3) 4 c19_g4) 5 c19_g5) 6 c19_g6) 7 c47_g7) 8 c47_g8) (upF (upF F 14 c47_F14) 15 c47_F15) (f) (n) (tE f n e) hMI56 h856_hf h856_hn h856_he h856_hfit) hc56
      have p56_0 : TKS f n (tE f n e) c56_g3.toInt c56_g4.toInt c56_g5.toInt c56_g6.toInt := hx56
      clear hx56
      refine pw_jE (fun j75 ej75 => ?_)
      refine pw_ite (fun c64 => ?_) (fun c64 => ?_)
      · have c64 := congrArg Int32.toInt c64
        refine pw_ite (fun c72 => ?_) (fun c72 => ?_)
        · have c72 := congrArg Int32.toInt c72
          obtain ⟨hto, hen⟩ := TKS_key (k := 2) p56_0 (by omega) (by omega)
          have hto := fTo_ok hto
          have hMI82 : id (MInv (upd (upd (upd (upd (upd (upd g 3 c56_g3) 4 c56_g4) 5 c56_g5) 6 c56_g6) 7 c47_g7) 8 c47_g8) (upF (upF F 14 c47_F14) 15 c47_F15)) := show MInv (upd (upd (upd (upd (upd (upd g 3 c56_g3) 4 c56_g4) 5 c56_g5) 6 c56_g6) 7 c47_g7) 8 c47_g8) (upF (upF F 14 c47_F14) 15 c47_F15) from (MInv_i ((hI9.1)) hzg2 hg25 hg26 hg27 hg28 hg17 hg18 hzg9 ((hI9.2.2.2.2.2.2.2.2.2.1)) ((hI9.2.2.2.2.2.2.2.2.2.2.1)) ((hI9.2.2.2.2.2.2.2.2.2.2.2.1)) ((hI9.2.2.2.2.2.2.2.2.2.2.2.2.1)) ((hI9.2.2.2.2.2.2.2.2.2.2.2.2.2.1)) ((hI9.2.2.2.2.2.2.2.2.2.2.2.2.2.2.1)) ((hI9.2.2.2.2.2.2.2.2.2.2.2.2.2.2.2.1)) ((hI9.2.2.2.2.2.2.2.2.2.2.2.2.2.2.2.2.1)) ((hI9.2.2.2.2.2.2.2.2.2.2.2.2.2.2.2.2.2.1)) ((hI9.2.2.2.2.2.2.2.2.2.2.2.2.2.2.2.2.2.2.1)) ((hI9.2.2.2.2.2.2.2.2.2.2.2.2.2.2.2.2.2.2.2.1)) ((hI9.2.2.2.2.2.2.2.2.2.2.2.2.2.2.2.2.2.2.2.2.1)) ((hI9.2.2.2.2.2.2.2.2.2.2.2.2.2.2.2.2.2.2.2.2.2.1)) ((hI9.2.2.2.2.2.2.2.2.2.2.2.2.2.2.2.2.2.2.2.2.2.2.1)) ((hI9.2.2.2.2.2.2.2.2.2.2.2.2.2.2.2.2.2.2.2.2.2.2.2.1)) ((hI9.2.2.2.2.2.2.2.2.2.2.2.2.2.2.2.2.2.2.2.2.2.2.2.2.1)) hzF11 hzF12 hzF13 hg19 hzF19 hzF21 hzF24 hzF25 hzF26 hzF33 hzF38 hzF41 hzF43 hzF45 hzF46 hzF50 hzF53 hzF54 hLQ24)
          refine pw_b4 (fun c82_g3 c82_g4 c82_g5 c82_g6 hc82 => ?_)
          have hq82 := wp_at (ok_scan (upd (upd (upd (upd (upd (upd g 3 c56_g3) 4 c56_g4) 5 c56_g5) 6 c56_g6) 7 c47_g7) 8 c47_g8) (upF (upF F 14 c47_F14) 15 c47_F15) hMI82) hc82
          obtain ⟨hg32, hg33, hg34, hg35, f36, f37, f38⟩ : (((0) ≤ c82_g3.toInt ∧ c82_g3.toInt ≤ 4)) ∧ (((-1) ≤ c82_g4.toInt ∧ c82_g4.toInt ≤ 8)) ∧ (((0) ≤ c82_g5.toInt ∧ c82_g5.toInt ≤ 2001)) ∧ (((0) ≤ c82_g6.toInt ∧ c82_g6.toInt ≤ 2001)) ∧ (id ((c82_g3.toInt = 2 → c82_g5.toInt + 2 ≤ c82_g6.toInt ∧ c82_g6.toInt ≤ c82_g5.toInt + 18 ∧ c82_g6.toInt ≤ 2000))) ∧ (id ((c82_g3.toInt ≠ 4 → c56_g6.toInt < c82_g6.toInt))) ∧ (c56_g6.toInt ≤ c82_g6.toInt) := hq82
          have h882_hf : (F 0) = f := by first | assumption | omega
          have h882_hn : Int32.toNatClampNeg (g 2) = n := by first | assumption | omega
          have h882_he : Int32.toNatClampNeg c56_g6 = (tE f n (tE f n e)) := by have c9 := clampI (x := c56_g6) (by omega); omega
          have h882_hfit : ∀ i, fits .byte (.int (f i)) = true := by first | assumption | omega
          have hx82 := pwq (fn_scan (upd (upd (upd (upd (upd (upd g 3 c56_g3) 4 c56_g4) 5 c56_g5) 6 c56_g6) 7 c47_g7) 8 c47_g8) (upF (upF F 14 c47_F14) 15 c47_F15) (f) (n) (tE f n (tE f n e)) hMI82 h882_hf h882_hn h882_he h882_hfit) hc82
          have p82_0 : TKS f n (tE f n (tE f n e)) c82_g3.toInt c82_g4.toInt c82_g5.toInt c82_g6.toInt := hx82
          clear hx82
          have f40 : ((4 * x33) + 1).toInt = (4 * x33).toInt + 1 := z_addc (by decide +kernel) (by omega) (by omega)
          have hMI100 : id (MInv (upd (upd (upd (upd (upd (upd g 3 c82_g3) 4 c82_g4) 5 c82_g5) 6 c82_g6) 7 c47_g7) 8 c47_g8) (upF (upF F 14 c47_F14) 15 c47_F15)) := show MInv (upd (upd (upd (upd (upd (upd g 3 c82_g3) 4 c82_g4) 5 c82_g5) 6 c82_g6) 7 c47_g7) 8 c47_g8) (upF (upF F 14 c47_F14) 15 c47_F15) from (MInv_i ((hI9.1)) hzg2 hg32 hg33 hg34 hg35 hg17 hg18 hzg9 ((hI9.2.2.2.2.2.2.2.2.2.1)) ((hI9.2.2.2.2.2.2.2.2.2.2.1)) ((hI9.2.2.2.2.2.2.2.2.2.2.2.1)) ((hI9.2.2.2.2.2.2.2.2.2.2.2.2.1)) ((hI9.2.2.2.2.2.2.2.2.2.2.2.2.2.1)) ((hI9.2.2.2.2.2.2.2.2.2.2.2.2.2.2.1)) ((hI9.2.2.2.2.2.2.2.2.2.2.2.2.2.2.2.1)) ((hI9.2.2.2.2.2.2.2.2.2.2.2.2.2.2.2.2.1)) ((hI9.2.2.2.2.2.2.2.2.2.2.2.2.2.2.2.2.2.1)) ((hI9.2.2.2.2.2.2.2.2.2.2.2.2.2.2.2.2.2.2.1)) ((hI9.2.2.2.2.2.2.2.2.2.2.2.2.2.2.2.2.2.2.2.1)) ((hI9.2.2.2.2.2.2.2.2.2.2.2.2.2.2.2.2.2.2.2.2.1)) ((hI9.2.2.2.2.2.2.2.2.2.2.2.2.2.2.2.2.2.2.2.2.2.1)) ((hI9.2.2.2.2.2.2.2.2.2.2.2.2.2.2.2.2.2.2.2.2.2.2.1)) ((hI9.2.2.2.2.2.2.2.2.2.2.2.2.2.2.2.2.2.2.2.2.2.2.2.1)) ((hI9.2.2.2.2.2.2.2.2.2.2.2.2.2.2.2.2.2.2.2.2.2.2.2.2.1)) hzF11 hzF12 hzF13 hg19 hzF19 hzF21 hzF24 hzF25 hzF26 hzF33 hzF38 hzF41 hzF43 hzF45 hzF46 hzF50 hzF53 hzF54 hLQ24)
          have hpr100_0 : (0 ≤ ((4 * x33) + 1).toInt ∧ ((4 * x33) + 1).toInt < 1120) := by first | assumption | omega
          have hpr100_1 : 16 * 1120 ≤ 17920 := by first | assumption | omega
          have hpr100_2 : 17920 ≤ 500000 := by first | assumption | omega
          have hpr100_3 : id ((c82_g3.toInt = 2 → c82_g5.toInt + 2 ≤ c82_g6.toInt ∧ c82_g6.toInt ≤ c82_g5.toInt + 18 ∧ c82_g6.toInt ≤ 2000)) := show (c82_g3.toInt = 2 → c82_g5.toInt + 2 ≤ c82_g6.toInt ∧ c82_g6.toInt ≤ c82_g5.toInt + 18 ∧ c82_g6.toInt ≤ 2000) from by first | assumption | omega
          refine pw_b5 (fun r100 c100_g7 c100_g8 c100_F14 c100_F15 hc100 => ?_)
          have hq100 := wp_at (ok_take (upd (upd (upd (upd (upd (upd g 3 c82_g3) 4 c82_g4) 5 c82_g5) 6 c82_g6) 7 c47_g7) 8 c47_g8) (upF (upF F 14 c47_F14) 15 c47_F15) c47_F14 17920 c47_F15 1120 ((4 * x33) + 1) (0 : Int32) hMI100 hg19 hpr100_0 hpr100_1 hpr100_2 hpr100_3) hc100
          obtain ⟨hg41, hg42, hg43, f44, f45, f46, f47⟩ : (((0) ≤ c100_g7.toInt ∧ c100_g7.toInt ≤ 4)) ∧ (((-1) ≤ c100_g8.toInt ∧ c100_g8.toInt ≤ 2001)) ∧ (rng (-1) 16 c100_F15) ∧ (id ((r100.toInt = 1 → c82_g3.toInt = 2))) ∧ (id ((∀ k : Nat, (k : Int) ≠ ((4 * x33) + 1).toInt → c100_F15 k = c47_F15 k))) ∧ (id ((r100.toInt = 1 → (0 : Int32).toInt ≠ 0 → 1 ≤ (c100_F15 (Int32.toNatClampNeg ((4 * x33) + 1))).toInt))) ∧ ((0 ≤ r100.toInt ∧ r100.toInt ≤ 1)) := hq100
          have h8100_hf : (F 0) = f := by first | assumption | omega
          have h8100_htk : TKS f n (tE f n (tE f n e)) c82_g3.toInt c82_g4.toInt c82_g5.toInt c82_g6.toInt := by exact p82_0
          have h8100_hsm : (false) = decide ((0 : Int32).toInt ≠ 0) := by decide
          have h8100_hfit : ∀ i, fits .byte (.int (f i)) = true := by first | assumption | omega
          have hx100 := pwq (fn_take (upd (upd (upd (upd (upd (upd g 3 c82_g3) 4 c82_g4) 5 c82_g5) 6 c82_g6) 7 c47_g7) 8 c47_g8) (upF (upF F 14 c47_F14) 15 c47_F15) c47_F14 17920 c47_F15 1120 ((4 * x33) + 1) (0 : Int32) (f) (n) (tE f n (tE f n e)) (false) hMI100 hg19 hpr100_0 hpr100_1 hpr100_2 hpr100_3 h8100_hf h8100_htk h8100_hsm h8100_hfit) hc100
          obtain ⟨p100_0, p100_1, p100_2⟩ : (id ((r100.toInt ≠ 0 → fLet f n (tE f n (tE f n e)) (false) = none ∧ TAKEN c47_F14 c100_F14 c47_F15 c100_F15 (Int32.toNatClampNeg ((4 * x33) + 1)) f (tP f n (tE f n (tE f n e)) + 1) (tL f n (tE f n (tE f n e))) ∧ c100_g7.toInt = c47_g7.toInt ∧ c100_g8.toInt = c47_g8.toInt ∧ c82_g6.toInt = ((tE f n (tE f n (tE f n e)) : Nat) : Int)))) ∧ (id ((r100.toInt = 0 → ERR (fLet f n (tE f n (tE f n e)) (false)) c100_g7 c100_g8))) ∧ (id ((r100.toInt = 0 → c100_F14 = c47_F14 ∧ c100_F15 = c47_F15))) := hx100
          have hLQ48 : LQ (F 11) c100_F15 (g 9) := by
            exact lq_take hLQ24 ((4 * x33) + 1) (by assumption) hzF11 (by omega) (by omega)
          have hpos100 : 1 ≤ (c100_F15 (Int32.toNatClampNeg (4 * x33))).toInt := pos_keep (k := (4 * x33) + 1) (size := c47_F15) (by assumption) (by omega) (by omega) (by omega)
          have cx5 := clampI (x := (4 * x33) + 1) (by omega)
          have hx5 : Int32.toNatClampNeg ((4 * x33) + 1) = 4 * (240 + Int32.toNatClampNeg ((F 11) 6)) + 1 := by omega
          refine pw_ite (fun c103 => ?_) (fun c103 => ?_)
          · have c103 := congrArg Int32.toInt c103
            have qq0 : (∀ q, q < 960 → WR c100_F14 c100_F15 q = WR (F 14) (F 15) q) ∧ (∀ q, q < 240 → (F 16) q = (F 16) q ∧ (F 17) q = (F 17) q) ∧ (∀ q, q ≠ 6 → (F 11) q = (F 11) q) := by obtain ⟨a1, a2⟩ := p100_2 (by omega); rw [a1, a2]; exact ⟨fun q hq => TK_w g2 (hzF15 q).2 (by omega), (fun _ _ => ⟨rfl, rfl⟩), fun _ _ => rfl⟩
            have qq1 : OUTS (lawF f n pl e d) (0 : Int32) c100_g7 c100_g8 f n (fun e1 d1 => TKS f n e1 c82_g3.toInt c82_g4.toInt c82_g5.toInt c82_g6.toInt ∧ (entR ((F 13) 6) (F 20) (F 21) 480, prtR ((F 12) 6) (F 18) (F 19) 240, lwsR ((F 11) 6) c100_F14 c100_F15 (F 16) (F 17) 240) = d1 ∧ c100_g7.toInt = (g 7).toInt ∧ c100_g8.toInt = (g 8).toInt) := by exact outs_bad (by omega) (p100_1 (by omega)) (fun q hq => lawF_3 (by omega) g1 hto hq)
            exact pw_some ⟨qq0, qq1⟩
          · have c103 := z_ne c103
            obtain ⟨k1, k2, k3, k4, k5⟩ := p100_0 (by omega)
            rw [hx5] at k2
            have kk := TK_k k2
            have hr100 : rng (-1) 16 c100_F15 := by assumption
            have hMI109 : id (MInv (upd (upd (upd (upd (upd (upd g 3 c82_g3) 4 c82_g4) 5 c82_g5) 6 c82_g6) 7 c100_g7) 8 c100_g8) (upF (upF F 14 c100_F14) 15 c100_F15)) := show MInv (upd (upd (upd (upd (upd (upd g 3 c82_g3) 4 c82_g4) 5 c82_g5) 6 c82_g6) 7 c100_g7) 8 c100_g8) (upF (upF F 14 c100_F14) 15 c100_F15) from (MInv_i ((hI9.1)) hzg2 hg32 hg33 hg34 hg35 hg41 hg42 hzg9 ((hI9.2.2.2.2.2.2.2.2.2.1)) ((hI9.2.2.2.2.2.2.2.2.2.2.1)) ((hI9.2.2.2.2.2.2.2.2.2.2.2.1)) ((hI9.2.2.2.2.2.2.2.2.2.2.2.2.1)) ((hI9.2.2.2.2.2.2.2.2.2.2.2.2.2.1)) ((hI9.2.2.2.2.2.2.2.2.2.2.2.2.2.2.1)) ((hI9.2.2.2.2.2.2.2.2.2.2.2.2.2.2.2.1)) ((hI9.2.2.2.2.2.2.2.2.2.2.2.2.2.2.2.2.1)) ((hI9.2.2.2.2.2.2.2.2.2.2.2.2.2.2.2.2.2.1)) ((hI9.2.2.2.2.2.2.2.2.2.2.2.2.2.2.2.2.2.2.1)) ((hI9.2.2.2.2.2.2.2.2.2.2.2.2.2.2.2.2.2.2.2.1)) ((hI9.2.2.2.2.2.2.2.2.2.2.2.2.2.2.2.2.2.2.2.2.1)) ((hI9.2.2.2.2.2.2.2.2.2.2.2.2.2.2.2.2.2.2.2.2.2.1)) ((hI9.2.2.2.2.2.2.2.2.2.2.2.2.2.2.2.2.2.2.2.2.2.2.1)) ((hI9.2.2.2.2.2.2.2.2.2.2.2.2.2.2.2.2.2.2.2.2.2.2.2.1)) ((hI9.2.2.2.2.2.2.2.2.2.2.2.2.2.2.2.2.2.2.2.2.2.2.2.2.1)) hzF11 hzF12 hzF13 hg43 hzF19 hzF21 hzF24 hzF25 hzF26 hzF33 hzF38 hzF41 hzF43 hzF45 hzF46 hzF50 hzF53 hzF54 hLQ48)
            refine pw_b4 (fun c109_g3 c109_g4 c109_g5 c109_g6 hc109 => ?_)
            have hq109 := wp_at (ok_scan (upd (upd (upd (upd (upd (upd g 3 c82_g3) 4 c82_g4) 5 c82_g5) 6 c82_g6) 7 c100_g7) 8 c100_g8) (upF (upF F 14 c100_F14) 15 c100_F15) hMI109) hc109
            obtain ⟨hg49, hg50, hg51, hg52, f53, f54, f55⟩ : (((0) ≤ c109_g3.toInt ∧ c109_g3.toInt ≤ 4)) ∧ (((-1) ≤ c109_g4.toInt ∧ c109_g4.toInt ≤ 8)) ∧ (((0) ≤ c109_g5.toInt ∧ c109_g5.toInt ≤ 2001)) ∧ (((0) ≤ c109_g6.toInt ∧ c109_g6.toInt ≤ 2001)) ∧ (id ((c109_g3.toInt = 2 → c109_g5.toInt + 2 ≤ c109_g6.toInt ∧ c109_g6.toInt ≤ c109_g5.toInt + 18 ∧ c109_g6.toInt ≤ 2000))) ∧ (id ((c109_g3.toInt ≠ 4 → c82_g6.toInt < c109_g6.toInt))) ∧ (c82_g6.toInt ≤ c109_g6.toInt) := hq109
            have h8109_hf : (F 0) = f := by first | assumption | omega
            have h8109_hn : Int32.toNatClampNeg (g 2) = n := by first | assumption | omega
            have h8109_he : Int32.toNatClampNeg c82_g6 = (tE f n (tE f n (tE f n e))) := by have c9 := clampI (x := c82_g6) (by omega); omega
            have h8109_hfit : ∀ i, fits .byte (.int (f i)) = true := by first | assumption | omega
            have hx109 := pwq (fn_scan (upd (upd (upd (upd (upd (upd g 3 c82_g3) 4 c82_g4) 5 c82_g5) 6 c82_g6) 7 c100_g7) 8 c100_g8) (upF (upF F 14 c100_F14) 15 c100_F15) (f) (n) (tE f n (tE f n (tE f n e))) hMI109 h8109_hf h8109_hn h8109_he h8109_hfit) hc109
            have p109_0 : TKS f n (tE f n (tE f n (tE f n e))) c109_g3.toInt c109_g4.toInt c109_g5.toInt c109_g6.toInt := hx109
            clear hx109
            refine pw_if (fun hb118 => ?_)
            obtain ⟨hbl118, hbr118⟩ := hb118
            refine pw_vl (fun w118 ew118 => ?_)
            rw [hxk] at ew118
            refine pw_if (fun hb125 => ?_)
            obtain ⟨hbl125, hbr125⟩ := hb125
            refine pw_vl (fun w125 ew125 => ?_)
            rw [hxk] at ew125
            have f57 : ((4 * x33) + 2).toInt = (4 * x33).toInt + 2 := z_addc (by decide +kernel) (by omega) (by omega)
            refine pw_if (fun hb136 => ?_)
            obtain ⟨hbl136, hbr136⟩ := hb136
            refine pw_vl (fun w136 ew136 => ?_)
            have hF58 : rng (-1) 16 w136 := by rw [ew136]; exact rng_upd hg43 (by omega) (by omega)
            have hpos136 := pos_keep (k := (4 * x33) + 2) (l := 4 * x33) (upd_ne ew136 (by omega)) hpos100 (by omega) (by omega)
            have cx6 := clampI (x := (4 * x33) + 2) (by omega)
            have hx6 : Int32.toNatClampNeg ((4 * x33) + 2) = 4 * (240 + Int32.toNatClampNeg ((F 11) 6)) + 2 := by omega
            have hLQ59 : LQ (F 11) w136 (g 9) := by
              exact lq_take hLQ48 ((4 * x33) + 2) (upd_ne ew136 (by omega)) hzF11 (by omega) (by omega)
            have f61 : ((4 * x33) + 3).toInt = (4 * x33).toInt + 3 := z_addc (by decide +kernel) (by omega) (by omega)
            refine pw_if (fun hb147 => ?_)
            obtain ⟨hbl147, hbr147⟩ := hb147
            refine pw_vl (fun w147 ew147 => ?_)
            have hF62 : rng (-1) 16 w147 := by rw [ew147]; exact rng_upd hF58 (by omega) (by omega)
            have hpos147 := pos_keep (k := (4 * x33) + 3) (l := 4 * x33) (upd_ne ew147 (by omega)) hpos136 (by omega) (by omega)
            have cx7 := clampI (x := (4 * x33) + 3) (by omega)
            have hx7 : Int32.toNatClampNeg ((4 * x33) + 3) = 4 * (240 + Int32.toNatClampNeg ((F 11) 6)) + 3 := by omega
            have hs147 : ∀ q, q < 4 * (240 + Int32.toNatClampNeg ((F 11) 6)) + 2 → w147 q = c100_F15 q := fun q hq => by rw [ew147, hx7, pk_un (by omega), ew136, hx6, pk_un (by omega)]
            have hs2 : (w147 (4 * (240 + Int32.toNatClampNeg ((F 11) 6)) + 2)).toInt = -1 := by rw [ew147, hx7, pk_un (by omega), ew136, hx6, pk_us]; decide
            have hs3 : (w147 (4 * (240 + Int32.toNatClampNeg ((F 11) 6)) + 3)).toInt = -1 := by rw [ew147, hx7, pk_us]; decide
            have hw147 : ∀ q, q < 4 * (240 + Int32.toNatClampNeg ((F 11) 6)) + 2 → WR c100_F14 w147 q = WR c100_F14 c100_F15 q := fun q hq => by unfold WR; rw [hs147 q hq]
            have hold : ∀ q, q < 4 * (240 + Int32.toNatClampNeg ((F 11) 6)) → WR c100_F14 w147 q = WR (F 14) (F 15) q := fun q hq => by rw [hw147 q (by omega), TK_w k2 (hr47 q).2 (by omega), TK_w g2 (hzF15 q).2 (by omega)]
            have hlaw : lawR c100_F14 w147 w118 w125 (240 + Int32.toNatClampNeg ((F 11) 6)) = (tW f n e, tW f n (tE f n (tE f n e)), [], [], 0, 0) := by unfold lawR; rw [hw147 _ (by omega), TK_w k2 (hr47 _).2 (by omega), gk.1, hw147 _ (by omega), kk.1, wr_m1 hs2, wr_m1 hs3, ew118, pk_us, ew125, pk_us]; rfl
            have hl0 : ∃ e1, LWI (lawF f n pl e d) f n d c100_F14 w147 w118 w125 (F 14) (F 15) (F 16) (F 17) (240 + Int32.toNatClampNeg ((F 11) 6)) c109_g3.toInt c109_g4.toInt c109_g5.toInt c109_g6.toInt e1 := ⟨tE f n (tE f n (tE f n e)), 5, p109_0, by rw [hlaw]; rfl, by rw [hlaw]; exact lawF_s (by omega) g1 hto k1, Or.inl hs2, Or.inl hs3, hold, fun q hq => by rw [ew118, ew125, pk_un (by omega), pk_un (by omega)]; exact ⟨rfl, rfl⟩⟩
            have hLQ63 : LQ (F 11) w147 (g 9) := by
              exact lq_take hLQ59 ((4 * x33) + 3) (upd_ne ew147 (by omega)) hzF11 (by omega) (by omega)
            refine pw_jE (fun k303 ek303 => ?_)
            have lp148 : ∀ (n148 : Nat) (d148_g3 : Int32) (d148_g4 : Int32) (d148_g5 : Int32) (d148_g6 : Int32) (d148_g7 : Int32) (d148_g8 : Int32) (d148_F14 : (Nat → Int32)) (d148_F15 : (Nat → Int32)) (d148_F16 : (Nat → Int32)) (d148_F17 : (Nat → Int32)), ((0) ≤ d148_g3.toInt ∧ d148_g3.toInt ≤ 4) → ((-1) ≤ d148_g4.toInt ∧ d148_g4.toInt ≤ 8) → ((0) ≤ d148_g5.toInt ∧ d148_g5.toInt ≤ 2001) → ((0) ≤ d148_g6.toInt ∧ d148_g6.toInt ≤ 2001) → ((0) ≤ d148_g7.toInt ∧ d148_g7.toInt ≤ 4) → ((-1) ≤ d148_g8.toInt ∧ d148_g8.toInt ≤ 2001) → rng (-1) 16 d148_F15 → LQ (F 11) d148_F15 (g 9) → (g 6).toInt ≤ d148_g6.toInt → 1 ≤ (d148_F15 (Int32.toNatClampNeg (4 * x33))).toInt → d148_g7.toInt = (g 7).toInt → d148_g8.toInt = (g 8).toInt → (∃ e1, LWI (lawF f n pl e d) f n d d148_F14 d148_F15 d148_F16 d148_F17 (F 14) (F 15) (F 16) (F 17) (240 + Int32.toNatClampNeg ((F 11) 6)) d148_g3.toInt d148_g4.toInt d148_g5.toInt d148_g6.toInt e1) → pw (L_readLaw_148 g F x33 k303 n148 d148_g3 d148_g4 d148_g5 d148_g6 d148_g7 d148_g8 d148_F14 d148_F15 d148_F16 d148_F17) (QF_readLaw g F f n pl e d) := by
              intro n148
              induction n148 with
              | zero => intros; exact pw_none
              | succ n148 ih148 =>
                intro d148_g3 d148_g4 d148_g5 d148_g6 d148_g7 d148_g8 d148_F14 d148_F15 d148_F16 d148_F17 hg64 hg65 hg66 hg67 hg68 hg69 hg70 hLQ71 f72 f73 f74 f75 lw148
                show pw (B_readLaw_148 g F x33 k303 (L_readLaw_148 g F x33 k303 n148) d148_g3 d148_g4 d148_g5 d148_g6 d148_g7 d148_g8 d148_F14 d148_F15 d148_F16 d148_F17) _
                unfold B_readLaw_148
                refine pw_ite (fun c153 => ?_) (fun c153 => ?_)
                · have c153 := congrArg Int32.toInt c153
                  refine pw_ite (fun c161 => ?_) (fun c161 => ?_)
                  · have c161 := (z_lt _ _).mp c161
                    refine pw_j10 ek303 (fun z303_1 ez303_1 z303_2 ez303_2 z303_3 ez303_3 z303_4 ez303_4 z303_5 ez303_5 z303_6 ez303_6 z303_7 ez303_7 z303_8 ez303_8 z303_9 ez303_9 z303_10 ez303_10 => ?_)
                    subst ez303_1 ez303_2 ez303_3 ez303_4 ez303_5 ez303_6 ez303_7 ez303_8 ez303_9 ez303_10
                    refine pw_if (fun hb310 => ?_)
                    obtain ⟨hbl310, hbr310⟩ := hb310
                    have f77 : (((F 11) (Int32.toNatClampNeg 6)) + 1).toInt = ((F 11) (Int32.toNatClampNeg 6)).toInt + 1 := z_addc (by decide +kernel) (by omega) (by omega)
                    refine pw_if (fun hb313 => ?_)
                    obtain ⟨hbl313, hbr313⟩ := hb313
                    refine pw_vl (fun w313 ew313 => ?_)
                    have hF78 : rng (0) 40 w313 := by rw [ew313]; exact rng_upd hzF11 (by omega) (by omega)
                    have hLQ79 : LQ w313 d148_F15 (g 9) := by
                      exact lq_inc (l := x33) hLQ71 ew313 (by omega) (by omega) (by assumption) (by omega) hzF11
                    have qq0 : (∀ q, q < 960 → WR d148_F14 d148_F15 q = WR (F 14) (F 15) q) ∧ (∀ q, q < 240 → d148_F16 q = (F 16) q ∧ d148_F17 q = (F 17) q) ∧ (∀ q, q ≠ 6 → w313 q = (F 11) q) := by obtain ⟨e1, lw⟩ := lw148; exact ⟨fun q hq => lwi_old lw q (by omega), fun q hq => lwi_olda lw q (by omega), fun q hq => by rw [ew313, e6]; exact pk_un hq⟩
                    have qq1 : OUTS (lawF f n pl e d) (1 : Int32) d148_g7 d148_g8 f n (fun e1 d1 => TKS f n e1 d148_g3.toInt d148_g4.toInt d148_g5.toInt d148_g6.toInt ∧ (entR ((F 13) 6) (F 20) (F 21) 480, prtR ((F 12) 6) (F 18) (F 19) 240, lwsR (w313 6) d148_F14 d148_F15 d148_F16 d148_F17 240) = d1 ∧ d148_g7.toInt = (g 7).toInt ∧ d148_g8.toInt = (g 8).toInt) := by obtain ⟨e1, lw⟩ := lw148; have htk := lwi_tok lw; obtain ⟨z1, z2, z3⟩ := lwi_end lw (by omega); refine outs_ok (by omega) (e1 := e1) z1 ⟨htk, Prod.ext hd1.symm (Prod.ext hd2.symm ?_), by omega, by omega⟩; show lwsR _ _ _ _ _ _ = d.2.2 ++ _; rw [hd3]; exact lws_addR (by rw [ew313]; show Int32.toNatClampNeg (upd (F 11) (Int32.toNatClampNeg 6) _ 6) = _; rw [e6, pk_us]; have hz9 : ((F 11) 6 + 1).toInt = ((F 11) 6).toInt + 1 := z_addc (by decide +kernel) (by omega) (by omega); have cz := clampI (x := (F 11) 6 + 1) (by omega); omega) z2 z3 rfl
                    exact pw_some ⟨qq0, qq1⟩
                  · have c161 := z_nlt c161
                    obtain ⟨e1, lw⟩ := lw148
                    have htk := lwi_tok lw
                    have hwh := TKS_wh htk (by omega)
                    have tat := TKS_at htk
                    have hr148 : rng (-1) 16 d148_F15 := by assumption
                    refine pw_jE (fun j222 ej222 => ?_)
                    refine pw_ite (fun c171 => ?_) (fun c171 => ?_)
                    · have c171 := congrArg Int32.toInt c171
                      refine pw_if (fun hb179 => ?_)
                      obtain ⟨hbl179, hbr179⟩ := hb179
                      refine pw_j1 ej222 (fun t222_0 et222_0 => ?_)
                      have et222_0 := et222_0.symm
                      have f_t222_0 : t222_0.toInt = (d148_F16 (Int32.toNatClampNeg x33)).toInt := by rw [et222_0]
                      refine pw_ite (fun c224 => ?_) (fun c224 => ?_)
                      · have c224 := congrArg Int32.toInt c224
                        have hMI234 : id (MInv (upd (upd (upd (upd (upd (upd g 3 d148_g3) 4 d148_g4) 5 d148_g5) 6 d148_g6) 7 d148_g7) 8 d148_g8) (upF (upF (upF (upF F 14 d148_F14) 15 d148_F15) 16 d148_F16) 17 d148_F17)) := show MInv (upd (upd (upd (upd (upd (upd g 3 d148_g3) 4 d148_g4) 5 d148_g5) 6 d148_g6) 7 d148_g7) 8 d148_g8) (upF (upF (upF (upF F 14 d148_F14) 15 d148_F15) 16 d148_F16) 17 d148_F17) from (MInv_i ((hI9.1)) hzg2 hg64 hg65 hg66 hg67 hg68 hg69 hzg9 ((hI9.2.2.2.2.2.2.2.2.2.1)) ((hI9.2.2.2.2.2.2.2.2.2.2.1)) ((hI9.2.2.2.2.2.2.2.2.2.2.2.1)) ((hI9.2.2.2.2.2.2.2.2.2.2.2.2.1)) ((hI9.2.2.2.2.2.2.2.2.2.2.2.2.2.1)) ((hI9.2.2.2.2.2.2.2.2.2.2.2.2.2.2.1)) ((hI9.2.2.2.2.2.2.2.2.2.2.2.2.2.2.2.1)) ((hI9.2.2.2.2.2.2.2.2.2.2.2.2.2.2.2.2.1)) ((hI9.2.2.2.2.2.2.2.2.2.2.2.2.2.2.2.2.2.1)) ((hI9.2.2.2.2.2.2.2.2.2.2.2.2.2.2.2.2.2.2.1)) ((hI9.2.2.2.2.2.2.2.2.2.2.2.2.2.2.2.2.2.2.2.1)) ((hI9.2.2.2.2.2.2.2.2.2.2.2.2.2.2.2.2.2.2.2.2.1)) ((hI9.2.2.2.2.2.2.2.2.2.2.2.2.2.2.2.2.2.2.2.2.2.1)) ((hI9.2.2.2.2.2.2.2.2.2.2.2.2.2.2.2.2.2.2.2.2.2.2.1)) ((hI9.2.2.2.2.2.2.2.2.2.2.2.2.2.2.2.2.2.2.2.2.2.2.2.1)) ((hI9.2.2.2.2.2.2.2.2.2.2.2.2.2.2.2.2.2.2.2.2.2.2.2.2.1)) hzF11 hzF12 hzF13 hg70 hzF19 hzF21 hzF24 hzF25 hzF26 hzF33 hzF38 hzF41 hzF43 hzF45 hzF46 hzF50 hzF53 hzF54 hLQ71)
                        refine pw_b4 (fun c234_g3 c234_g4 c234_g5 c234_g6 hc234 => ?_)
                        have hq234 := wp_at (ok_scan (upd (upd (upd (upd (upd (upd g 3 d148_g3) 4 d148_g4) 5 d148_g5) 6 d148_g6) 7 d148_g7) 8 d148_g8) (upF (upF (upF (upF F 14 d148_F14) 15 d148_F15) 16 d148_F16) 17 d148_F17) hMI234) hc234
                        obtain ⟨hg80, hg81, hg82, hg83, f84, f85, f86⟩ : (((0) ≤ c234_g3.toInt ∧ c234_g3.toInt ≤ 4)) ∧ (((-1) ≤ c234_g4.toInt ∧ c234_g4.toInt ≤ 8)) ∧ (((0) ≤ c234_g5.toInt ∧ c234_g5.toInt ≤ 2001)) ∧ (((0) ≤ c234_g6.toInt ∧ c234_g6.toInt ≤ 2001)) ∧ (id ((c234_g3.toInt = 2 → c234_g5.toInt + 2 ≤ c234_g6.toInt ∧ c234_g6.toInt ≤ c234_g5.toInt + 18 ∧ c234_g6.toInt ≤ 2000))) ∧ (id ((c234_g3.toInt ≠ 4 → d148_g6.toInt < c234_g6.toInt))) ∧ (d148_g6.toInt ≤ c234_g6.toInt) := hq234
                        have h8234_hf : (F 0) = f := by first | assumption | omega
                        have h8234_hn : Int32.toNatClampNeg (g 2) = n := by first | assumption | omega
                        have h8234_he : Int32.toNatClampNeg d148_g6 = (tE f n e1) := by rcases (show d148_g4.toInt = 5 ∨ d148_g4.toInt = 6 ∨ d148_g4.toInt = 7 ∨ d148_g4.toInt = 8 by omega) with h9 | h9 | h9 | h9 <;> (have c9 := clampI (x := d148_g6) (by omega); first | (have h8 := (TKS_key (k := 5) htk (by omega) h9).2; omega) | (have h8 := (TKS_key (k := 6) htk (by omega) h9).2; omega) | (have h8 := (TKS_key (k := 7) htk (by omega) h9).2; omega) | (have h8 := (TKS_key (k := 8) htk (by omega) h9).2; omega))
                        have h8234_hfit : ∀ i, fits .byte (.int (f i)) = true := by first | assumption | omega
                        have hx234 := pwq (fn_scan (upd (upd (upd (upd (upd (upd g 3 d148_g3) 4 d148_g4) 5 d148_g5) 6 d148_g6) 7 d148_g7) 8 d148_g8) (upF (upF (upF (upF F 14 d148_F14) 15 d148_F15) 16 d148_F16) 17 d148_F17) (f) (n) (tE f n e1) hMI234 h8234_hf h8234_hn h8234_he h8234_hfit) hc234
                        have p234_0 : TKS f n (tE f n e1) c234_g3.toInt c234_g4.toInt c234_g5.toInt c234_g6.toInt := hx234
                        clear hx234
                        refine pw_jE (fun j300 ej300 => ?_)
                        refine pw_ite (fun c239 => ?_) (fun c239 => ?_)
                        · have c239 := congrArg Int32.toInt c239
                          refine pw_if (fun hb248 => ?_)
                          obtain ⟨hbl248, hbr248⟩ := hb248
                          refine pw_vl (fun w248 ew248 => ?_)
                          refine pw_j10 ej300 (fun z300_1 ez300_1 z300_2 ez300_2 z300_3 ez300_3 z300_4 ez300_4 z300_5 ez300_5 z300_6 ez300_6 z300_7 ez300_7 z300_8 ez300_8 z300_9 ez300_9 z300_10 ez300_10 => ?_)
                          subst ez300_1 ez300_2 ez300_3 ez300_4 ez300_5 ez300_6 ez300_7 ez300_8 ez300_9 ez300_10
                          have iv148_0 : (g 6).toInt ≤ c234_g6.toInt := by first | omega | assumption | exact pos_keep (by assumption) (by assumption) (by omega) (by omega)
                          have iv148_1 : 1 ≤ (d148_F15 (Int32.toNatClampNeg (4 * x33))).toInt := by first | assumption | exact pos_keep (by assumption) (by assumption) (by omega) (by omega) | omega
                          have iv148_2 : d148_g7.toInt = (g 7).toInt := by first | omega | assumption | exact pos_keep (by assumption) (by assumption) (by omega) (by omega)
                          have iv148_3 : d148_g8.toInt = (g 8).toInt := by first | omega | assumption | exact pos_keep (by assumption) (by assumption) (by omega) (by omega)
                          have iv148_4 : (∃ e1, LWI (lawF f n pl e d) f n d d148_F14 d148_F15 w248 d148_F17 (F 14) (F 15) (F 16) (F 17) (240 + Int32.toNatClampNeg ((F 11) 6)) c234_g3.toInt c234_g4.toInt c234_g5.toInt c234_g6.toInt e1) := by exact ⟨_, lwi_st5 lw (by omega) (by omega) (by rw [← hxk]; exact z_e (by omega)) p234_0 (by rw [ew248, hxk]) (by decide)⟩
                          exact ih148 c234_g3 c234_g4 c234_g5 c234_g6 d148_g7 d148_g8 d148_F14 d148_F15 w248 d148_F17 hg80 hg81 hg82 hg83 hg68 hg69 hg70 hLQ71 iv148_0 iv148_1 iv148_2 iv148_3 iv148_4
                        · have c239 := z_ne c239
                          exfalso; omega
                      · have c224 := z_ne c224
                        have hMI229 : id (MInv (upd (upd (upd (upd (upd (upd g 3 d148_g3) 4 d148_g4) 5 d148_g5) 6 d148_g6) 7 d148_g7) 8 d148_g8) (upF (upF (upF (upF F 14 d148_F14) 15 d148_F15) 16 d148_F16) 17 d148_F17)) := show MInv (upd (upd (upd (upd (upd (upd g 3 d148_g3) 4 d148_g4) 5 d148_g5) 6 d148_g6) 7 d148_g7) 8 d148_g8) (upF (upF (upF (upF F 14 d148_F14) 15 d148_F15) 16 d148_F16) 17 d148_F17) from (MInv_i ((hI9.1)) hzg2 hg64 hg65 hg66 hg67 hg68 hg69 hzg9 ((hI9.2.2.2.2.2.2.2.2.2.1)) ((hI9.2.2.2.2.2.2.2.2.2.2.1)) ((hI9.2.2.2.2.2.2.2.2.2.2.2.1)) ((hI9.2.2.2.2.2.2.2.2.2.2.2.2.1)) ((hI9.2.2.2.2.2.2.2.2.2.2.2.2.2.1)) ((hI9.2.2.2.2.2.2.2.2.2.2.2.2.2.2.1)) ((hI9.2.2.2.2.2.2.2.2.2.2.2.2.2.2.2.1)) ((hI9.2.2.2.2.2.2.2.2.2.2.2.2.2.2.2.2.1)) ((hI9.2.2.2.2.2.2.2.2.2.2.2.2.2.2.2.2.2.1)) ((hI9.2.2.2.2.2.2.2.2.2.2.2.2.2.2.2.2.2.2.1)) ((hI9.2.2.2.2.2.2.2.2.2.2.2.2.2.2.2.2.2.2.2.1)) ((hI9.2.2.2.2.2.2.2.2.2.2.2.2.2.2.2.2.2.2.2.2.1)) ((hI9.2.2.2.2.2.2.2.2.2.2.2.2.2.2.2.2.2.2.2.2.2.1)) ((hI9.2.2.2.2.2.2.2.2.2.2.2.2.2.2.2.2.2.2.2.2.2.2.1)) ((hI9.2.2.2.2.2.2.2.2.2.2.2.2.2.2.2.2.2.2.2.2.2.2.2.1)) ((hI9.2.2.2.2.2.2.2.2.2.2.2.2.2.2.2.2.2.2.2.2.2.2.2.2.1)) hzF11 hzF12 hzF13 hg70 hzF19 hzF21 hzF24 hzF25 hzF26 hzF33 hzF38 hzF41 hzF43 hzF45 hzF46 hzF50 hzF53 hzF54 hLQ71)
                        have hpr229_0 : 0 ≤ (3 : Int32).toInt ∧ (3 : Int32).toInt ≤ 4 := by first | assumption | omega
                        refine pw_b3 (fun r229 c229_g7 c229_g8 hc229 => ?_)
                        have hq229 := wp_at (ok_wrong (upd (upd (upd (upd (upd (upd g 3 d148_g3) 4 d148_g4) 5 d148_g5) 6 d148_g6) 7 d148_g7) 8 d148_g8) (upF (upF (upF (upF F 14 d148_F14) 15 d148_F15) 16 d148_F16) 17 d148_F17) (3 : Int32) hMI229 hpr229_0) hc229
                        obtain ⟨hg87, hg88, f89, f90⟩ : (((0) ≤ c229_g7.toInt ∧ c229_g7.toInt ≤ 4)) ∧ (((-1) ≤ c229_g8.toInt ∧ c229_g8.toInt ≤ 2001)) ∧ (r229.toInt = 0) ∧ ((0 ≤ r229.toInt ∧ r229.toInt ≤ 1)) := hq229
                        have hx229 := pwq (fn_wrong (upd (upd (upd (upd (upd (upd g 3 d148_g3) 4 d148_g4) 5 d148_g5) 6 d148_g6) 7 d148_g7) 8 d148_g8) (upF (upF (upF (upF F 14 d148_F14) 15 d148_F15) 16 d148_F16) 17 d148_F17) (3 : Int32) hMI229 hpr229_0) hc229
                        obtain ⟨p229_0, p229_1, p229_2⟩ : (r229.toInt = 0) ∧ (c229_g7.toInt = (3 : Int32).toInt) ∧ (c229_g8.toInt = d148_g5.toInt) := hx229
                        refine pw_if (fun hb232 => ?_)
                        obtain ⟨hbl232, hbr232⟩ := hb232
                        have qq0 : (∀ q, q < 960 → WR d148_F14 d148_F15 q = WR (F 14) (F 15) q) ∧ (∀ q, q < 240 → d148_F16 q = (F 16) q ∧ d148_F17 q = (F 17) q) ∧ (∀ q, q ≠ 6 → (F 11) q = (F 11) q) := by exact ⟨fun q hq => lwi_old lw q (by omega), fun q hq => lwi_olda lw q (by omega), fun _ _ => rfl⟩
                        have qq1 : OUTS (lawF f n pl e d) r229 c229_g7 c229_g8 f n (fun e1 d1 => TKS f n e1 d148_g3.toInt d148_g4.toInt d148_g5.toInt d148_g6.toInt ∧ (entR ((F 13) 6) (F 20) (F 21) 480, prtR ((F 12) 6) (F 18) (F 19) 240, lwsR ((F 11) 6) d148_F14 d148_F15 d148_F16 d148_F17 240) = d1 ∧ c229_g7.toInt = (g 7).toInt ∧ c229_g8.toInt = (g 8).toInt) := by exact outs_bad (by omega) (z := some (3, tP f n e1)) (err_of rfl (by omega) (by omega) (by omega)) (fun q hq => by cases hq; exact lwi_had5 lw (by omega) (by omega) (by rw [← hxk]; intro h9; have h8 := congrArg Int32.toInt h9; omega))
                        exact pw_some ⟨qq0, qq1⟩
                    · have c171 := z_ne c171
                      refine pw_ite (fun c186 => ?_) (fun c186 => ?_)
                      · have c186 := congrArg Int32.toInt c186
                        refine pw_if (fun hb194 => ?_)
                        obtain ⟨hbl194, hbr194⟩ := hb194
                        refine pw_j1 ej222 (fun t222_0 et222_0 => ?_)
                        have et222_0 := et222_0.symm
                        have f_t222_0 : t222_0.toInt = (d148_F17 (Int32.toNatClampNeg x33)).toInt := by rw [et222_0]
                        refine pw_ite (fun c224 => ?_) (fun c224 => ?_)
                        · have c224 := congrArg Int32.toInt c224
                          have hMI234 : id (MInv (upd (upd (upd (upd (upd (upd g 3 d148_g3) 4 d148_g4) 5 d148_g5) 6 d148_g6) 7 d148_g7) 8 d148_g8) (upF (upF (upF (upF F 14 d148_F14) 15 d148_F15) 16 d148_F16) 17 d148_F17)) := show MInv (upd (upd (upd (upd (upd (upd g 3 d148_g3) 4 d148_g4) 5 d148_g5) 6 d148_g6) 7 d148_g7) 8 d148_g8) (upF (upF (upF (upF F 14 d148_F14) 15 d148_F15) 16 d148_F16) 17 d148_F17) from (MInv_i ((hI9.1)) hzg2 hg64 hg65 hg66 hg67 hg68 hg69 hzg9 ((hI9.2.2.2.2.2.2.2.2.2.1)) ((hI9.2.2.2.2.2.2.2.2.2.2.1)) ((hI9.2.2.2.2.2.2.2.2.2.2.2.1)) ((hI9.2.2.2.2.2.2.2.2.2.2.2.2.1)) ((hI9.2.2.2.2.2.2.2.2.2.2.2.2.2.1)) ((hI9.2.2.2.2.2.2.2.2.2.2.2.2.2.2.1)) ((hI9.2.2.2.2.2.2.2.2.2.2.2.2.2.2.2.1)) ((hI9.2.2.2.2.2.2.2.2.2.2.2.2.2.2.2.2.1)) ((hI9.2.2.2.2.2.2.2.2.2.2.2.2.2.2.2.2.2.1)) ((hI9.2.2.2.2.2.2.2.2.2.2.2.2.2.2.2.2.2.2.1)) ((hI9.2.2.2.2.2.2.2.2.2.2.2.2.2.2.2.2.2.2.2.1)) ((hI9.2.2.2.2.2.2.2.2.2.2.2.2.2.2.2.2.2.2.2.2.1)) ((hI9.2.2.2.2.2.2.2.2.2.2.2.2.2.2.2.2.2.2.2.2.2.1)) ((hI9.2.2.2.2.2.2.2.2.2.2.2.2.2.2.2.2.2.2.2.2.2.2.1)) ((hI9.2.2.2.2.2.2.2.2.2.2.2.2.2.2.2.2.2.2.2.2.2.2.2.1)) ((hI9.2.2.2.2.2.2.2.2.2.2.2.2.2.2.2.2.2.2.2.2.2.2.2.2.1)) hzF11 hzF12 hzF13 hg70 hzF19 hzF21 hzF24 hzF25 hzF26 hzF33 hzF38 hzF41 hzF43 hzF45 hzF46 hzF50 hzF53 hzF54 hLQ71)
                          refine pw_b4 (fun c234_g3 c234_g4 c234_g5 c234_g6 hc234 => ?_)
                          have hq234 := wp_at (ok_scan (upd (upd (upd (upd (upd (upd g 3 d148_g3) 4 d148_g4) 5 d148_g5) 6 d148_g6) 7 d148_g7) 8 d148_g8) (upF (upF (upF (upF F 14 d148_F14) 15 d148_F15) 16 d148_F16) 17 d148_F17) hMI234) hc234
                          obtain ⟨hg91, hg92, hg93, hg94, f95, f96, f97⟩ : (((0) ≤ c234_g3.toInt ∧ c234_g3.toInt ≤ 4)) ∧ (((-1) ≤ c234_g4.toInt ∧ c234_g4.toInt ≤ 8)) ∧ (((0) ≤ c234_g5.toInt ∧ c234_g5.toInt ≤ 2001)) ∧ (((0) ≤ c234_g6.toInt ∧ c234_g6.toInt ≤ 2001)) ∧ (id ((c234_g3.toInt = 2 → c234_g5.toInt + 2 ≤ c234_g6.toInt ∧ c234_g6.toInt ≤ c234_g5.toInt + 18 ∧ c234_g6.toInt ≤ 2000))) ∧ (id ((c234_g3.toInt ≠ 4 → d148_g6.toInt < c234_g6.toInt))) ∧ (d148_g6.toInt ≤ c234_g6.toInt) := hq234
                          have h8234_hf : (F 0) = f := by first | assumption | omega
                          have h8234_hn : Int32.toNatClampNeg (g 2) = n := by first | assumption | omega
                          have h8234_he : Int32.toNatClampNeg d148_g6 = (tE f n e1) := by rcases (show d148_g4.toInt = 5 ∨ d148_g4.toInt = 6 ∨ d148_g4.toInt = 7 ∨ d148_g4.toInt = 8 by omega) with h9 | h9 | h9 | h9 <;> (have c9 := clampI (x := d148_g6) (by omega); first | (have h8 := (TKS_key (k := 5) htk (by omega) h9).2; omega) | (have h8 := (TKS_key (k := 6) htk (by omega) h9).2; omega) | (have h8 := (TKS_key (k := 7) htk (by omega) h9).2; omega) | (have h8 := (TKS_key (k := 8) htk (by omega) h9).2; omega))
                          have h8234_hfit : ∀ i, fits .byte (.int (f i)) = true := by first | assumption | omega
                          have hx234 := pwq (fn_scan (upd (upd (upd (upd (upd (upd g 3 d148_g3) 4 d148_g4) 5 d148_g5) 6 d148_g6) 7 d148_g7) 8 d148_g8) (upF (upF (upF (upF F 14 d148_F14) 15 d148_F15) 16 d148_F16) 17 d148_F17) (f) (n) (tE f n e1) hMI234 h8234_hf h8234_hn h8234_he h8234_hfit) hc234
                          have p234_0 : TKS f n (tE f n e1) c234_g3.toInt c234_g4.toInt c234_g5.toInt c234_g6.toInt := hx234
                          clear hx234
                          refine pw_jE (fun j300 ej300 => ?_)
                          refine pw_ite (fun c239 => ?_) (fun c239 => ?_)
                          · have c239 := congrArg Int32.toInt c239
                            exfalso; omega
                          · have c239 := z_ne c239
                            refine pw_ite (fun c255 => ?_) (fun c255 => ?_)
                            · have c255 := congrArg Int32.toInt c255
                              refine pw_if (fun hb264 => ?_)
                              obtain ⟨hbl264, hbr264⟩ := hb264
                              refine pw_vl (fun w264 ew264 => ?_)
                              refine pw_j10 ej300 (fun z300_1 ez300_1 z300_2 ez300_2 z300_3 ez300_3 z300_4 ez300_4 z300_5 ez300_5 z300_6 ez300_6 z300_7 ez300_7 z300_8 ez300_8 z300_9 ez300_9 z300_10 ez300_10 => ?_)
                              subst ez300_1 ez300_2 ez300_3 ez300_4 ez300_5 ez300_6 ez300_7 ez300_8 ez300_9 ez300_10
                              have iv148_0 : (g 6).toInt ≤ c234_g6.toInt := by first | omega | assumption | exact pos_keep (by assumption) (by assumption) (by omega) (by omega)
                              have iv148_1 : 1 ≤ (d148_F15 (Int32.toNatClampNeg (4 * x33))).toInt := by first | assumption | exact pos_keep (by assumption) (by assumption) (by omega) (by omega) | omega
                              have iv148_2 : d148_g7.toInt = (g 7).toInt := by first | omega | assumption | exact pos_keep (by assumption) (by assumption) (by omega) (by omega)
                              have iv148_3 : d148_g8.toInt = (g 8).toInt := by first | omega | assumption | exact pos_keep (by assumption) (by assumption) (by omega) (by omega)
                              have iv148_4 : (∃ e1, LWI (lawF f n pl e d) f n d d148_F14 d148_F15 d148_F16 w264 (F 14) (F 15) (F 16) (F 17) (240 + Int32.toNatClampNeg ((F 11) 6)) c234_g3.toInt c234_g4.toInt c234_g5.toInt c234_g6.toInt e1) := by exact ⟨_, lwi_st6 lw (by omega) (by omega) (by rw [← hxk]; exact z_e (by omega)) p234_0 (by rw [ew264, hxk]) (by decide)⟩
                              exact ih148 c234_g3 c234_g4 c234_g5 c234_g6 d148_g7 d148_g8 d148_F14 d148_F15 d148_F16 w264 hg91 hg92 hg93 hg94 hg68 hg69 hg70 hLQ71 iv148_0 iv148_1 iv148_2 iv148_3 iv148_4
                            · have c255 := z_ne c255
                              exfalso; omega
                        · have c224 := z_ne c224
                          have hMI229 : id (MInv (upd (upd (upd (upd (upd (upd g 3 d148_g3) 4 d148_g4) 5 d148_g5) 6 d148_g6) 7 d148_g7) 8 d148_g8) (upF (upF (upF (upF F 14 d148_F14) 15 d148_F15) 16 d148_F16) 17 d148_F17)) := show MInv (upd (upd (upd (upd (upd (upd g 3 d148_g3) 4 d148_g4) 5 d148_g5) 6 d148_g6) 7 d148_g7) 8 d148_g8) (upF (upF (upF (upF F 14 d148_F14) 15 d148_F15) 16 d148_F16) 17 d148_F17) from (MInv_i ((hI9.1)) hzg2 hg64 hg65 hg66 hg67 hg68 hg69 hzg9 ((hI9.2.2.2.2.2.2.2.2.2.1)) ((hI9.2.2.2.2.2.2.2.2.2.2.1)) ((hI9.2.2.2.2.2.2.2.2.2.2.2.1)) ((hI9.2.2.2.2.2.2.2.2.2.2.2.2.1)) ((hI9.2.2.2.2.2.2.2.2.2.2.2.2.2.1)) ((hI9.2.2.2.2.2.2.2.2.2.2.2.2.2.2.1)) ((hI9.2.2.2.2.2.2.2.2.2.2.2.2.2.2.2.1)) ((hI9.2.2.2.2.2.2.2.2.2.2.2.2.2.2.2.2.1)) ((hI9.2.2.2.2.2.2.2.2.2.2.2.2.2.2.2.2.2.1)) ((hI9.2.2.2.2.2.2.2.2.2.2.2.2.2.2.2.2.2.2.1)) ((hI9.2.2.2.2.2.2.2.2.2.2.2.2.2.2.2.2.2.2.2.1)) ((hI9.2.2.2.2.2.2.2.2.2.2.2.2.2.2.2.2.2.2.2.2.1)) ((hI9.2.2.2.2.2.2.2.2.2.2.2.2.2.2.2.2.2.2.2.2.2.1)) ((hI9.2.2.2.2.2.2.2.2.2.2.2.2.2.2.2.2.2.2.2.2.2.2.1)) ((hI9.2.2.2.2.2.2.2.2.2.2.2.2.2.2.2.2.2.2.2.2.2.2.2.1)) ((hI9.2.2.2.2.2.2.2.2.2.2.2.2.2.2.2.2.2.2.2.2.2.2.2.2.1)) hzF11 hzF12 hzF13 hg70 hzF19 hzF21 hzF24 hzF25 hzF26 hzF33 hzF38 hzF41 hzF43 hzF45 hzF46 hzF50 hzF53 hzF54 hLQ71)
                          have hpr229_0 : 0 ≤ (3 : Int32).toInt ∧ (3 : Int32).toInt ≤ 4 := by first | assumption | omega
                          refine pw_b3 (fun r229 c229_g7 c229_g8 hc229 => ?_)
                          have hq229 := wp_at (ok_wrong (upd (upd (upd (upd (upd (upd g 3 d148_g3) 4 d148_g4) 5 d148_g5) 6 d148_g6) 7 d148_g7) 8 d148_g8) (upF (upF (upF (upF F 14 d148_F14) 15 d148_F15) 16 d148_F16) 17 d148_F17) (3 : Int32) hMI229 hpr229_0) hc229
                          obtain ⟨hg98, hg99, f100, f101⟩ : (((0) ≤ c229_g7.toInt ∧ c229_g7.toInt ≤ 4)) ∧ (((-1) ≤ c229_g8.toInt ∧ c229_g8.toInt ≤ 2001)) ∧ (r229.toInt = 0) ∧ ((0 ≤ r229.toInt ∧ r229.toInt ≤ 1)) := hq229
                          have hx229 := pwq (fn_wrong (upd (upd (upd (upd (upd (upd g 3 d148_g3) 4 d148_g4) 5 d148_g5) 6 d148_g6) 7 d148_g7) 8 d148_g8) (upF (upF (upF (upF F 14 d148_F14) 15 d148_F15) 16 d148_F16) 17 d148_F17) (3 : Int32) hMI229 hpr229_0) hc229
                          obtain ⟨p229_0, p229_1, p229_2⟩ : (r229.toInt = 0) ∧ (c229_g7.toInt = (3 : Int32).toInt) ∧ (c229_g8.toInt = d148_g5.toInt) := hx229
                          refine pw_if (fun hb232 => ?_)
                          obtain ⟨hbl232, hbr232⟩ := hb232
                          have qq0 : (∀ q, q < 960 → WR d148_F14 d148_F15 q = WR (F 14) (F 15) q) ∧ (∀ q, q < 240 → d148_F16 q = (F 16) q ∧ d148_F17 q = (F 17) q) ∧ (∀ q, q ≠ 6 → (F 11) q = (F 11) q) := by exact ⟨fun q hq => lwi_old lw q (by omega), fun q hq => lwi_olda lw q (by omega), fun _ _ => rfl⟩
                          have qq1 : OUTS (lawF f n pl e d) r229 c229_g7 c229_g8 f n (fun e1 d1 => TKS f n e1 d148_g3.toInt d148_g4.toInt d148_g5.toInt d148_g6.toInt ∧ (entR ((F 13) 6) (F 20) (F 21) 480, prtR ((F 12) 6) (F 18) (F 19) 240, lwsR ((F 11) 6) d148_F14 d148_F15 d148_F16 d148_F17 240) = d1 ∧ c229_g7.toInt = (g 7).toInt ∧ c229_g8.toInt = (g 8).toInt) := by exact outs_bad (by omega) (z := some (3, tP f n e1)) (err_of rfl (by omega) (by omega) (by omega)) (fun q hq => by cases hq; exact lwi_had6 lw (by omega) (by omega) (by rw [← hxk]; intro h9; have h8 := congrArg Int32.toInt h9; omega))
                          exact pw_some ⟨qq0, qq1⟩
                      · have c186 := z_ne c186
                        have f103 : ((4 * x33) + d148_g4).toInt = (4 * x33).toInt + d148_g4.toInt := z_add (by omega) (by omega)
                        have f104 : (((4 * x33) + d148_g4) - 7).toInt = ((4 * x33) + d148_g4).toInt - 7 := z_subc (by decide +kernel) (by omega) (by omega)
                        have f105 : ((((4 * x33) + d148_g4) - 7) + 2).toInt = (((4 * x33) + d148_g4) - 7).toInt + 2 := z_addc (by decide +kernel) (by omega) (by omega)
                        refine pw_if (fun hb212 => ?_)
                        obtain ⟨hbl212, hbr212⟩ := hb212
                        have f106 := hg70 (Int32.toNatClampNeg ((((4 * x33) + d148_g4) - 7) + 2))
                        have ci7 := clampI (x := ((((4 * x33) + d148_g4) - 7) + 2)) (by omega)
                        refine pw_ite (fun c214 => ?_) (fun c214 => ?_)
                        · have c214 := congrArg Int32.toInt c214
                          refine pw_j1 ej222 (fun t222_0 et222_0 => ?_)
                          have et222_0 := et222_0.symm
                          have f_t222_0 : t222_0.toInt = 0 := by rw [et222_0]; decide +kernel
                          refine pw_ite (fun c224 => ?_) (fun c224 => ?_)
                          · have c224 := congrArg Int32.toInt c224
                            have hMI234 : id (MInv (upd (upd (upd (upd (upd (upd g 3 d148_g3) 4 d148_g4) 5 d148_g5) 6 d148_g6) 7 d148_g7) 8 d148_g8) (upF (upF (upF (upF F 14 d148_F14) 15 d148_F15) 16 d148_F16) 17 d148_F17)) := show MInv (upd (upd (upd (upd (upd (upd g 3 d148_g3) 4 d148_g4) 5 d148_g5) 6 d148_g6) 7 d148_g7) 8 d148_g8) (upF (upF (upF (upF F 14 d148_F14) 15 d148_F15) 16 d148_F16) 17 d148_F17) from (MInv_i ((hI9.1)) hzg2 hg64 hg65 hg66 hg67 hg68 hg69 hzg9 ((hI9.2.2.2.2.2.2.2.2.2.1)) ((hI9.2.2.2.2.2.2.2.2.2.2.1)) ((hI9.2.2.2.2.2.2.2.2.2.2.2.1)) ((hI9.2.2.2.2.2.2.2.2.2.2.2.2.1)) ((hI9.2.2.2.2.2.2.2.2.2.2.2.2.2.1)) ((hI9.2.2.2.2.2.2.2.2.2.2.2.2.2.2.1)) ((hI9.2.2.2.2.2.2.2.2.2.2.2.2.2.2.2.1)) ((hI9.2.2.2.2.2.2.2.2.2.2.2.2.2.2.2.2.1)) ((hI9.2.2.2.2.2.2.2.2.2.2.2.2.2.2.2.2.2.1)) ((hI9.2.2.2.2.2.2.2.2.2.2.2.2.2.2.2.2.2.2.1)) ((hI9.2.2.2.2.2.2.2.2.2.2.2.2.2.2.2.2.2.2.2.1)) ((hI9.2.2.2.2.2.2.2.2.2.2.2.2.2.2.2.2.2.2.2.2.1)) ((hI9.2.2.2.2.2.2.2.2.2.2.2.2.2.2.2.2.2.2.2.2.2.1)) ((hI9.2.2.2.2.2.2.2.2.2.2.2.2.2.2.2.2.2.2.2.2.2.2.1)) ((hI9.2.2.2.2.2.2.2.2.2.2.2.2.2.2.2.2.2.2.2.2.2.2.2.1)) ((hI9.2.2.2.2.2.2.2.2.2.2.2.2.2.2.2.2.2.2.2.2.2.2.2.2.1)) hzF11 hzF12 hzF13 hg70 hzF19 hzF21 hzF24 hzF25 hzF26 hzF33 hzF38 hzF41 hzF43 hzF45 hzF46 hzF50 hzF53 hzF54 hLQ71)
                            refine pw_b4 (fun c234_g3 c234_g4 c234_g5 c234_g6 hc234 => ?_)
                            have hq234 := wp_at (ok_scan (upd (upd (upd (upd (upd (upd g 3 d148_g3) 4 d148_g4) 5 d148_g5) 6 d148_g6) 7 d148_g7) 8 d148_g8) (upF (upF (upF (upF F 14 d148_F14) 15 d148_F15) 16 d148_F16) 17 d148_F17) hMI234) hc234
                            obtain ⟨hg107, hg108, hg109, hg110, f111, f112, f113⟩ : (((0) ≤ c234_g3.toInt ∧ c234_g3.toInt ≤ 4)) ∧ (((-1) ≤ c234_g4.toInt ∧ c234_g4.toInt ≤ 8)) ∧ (((0) ≤ c234_g5.toInt ∧ c234_g5.toInt ≤ 2001)) ∧ (((0) ≤ c234_g6.toInt ∧ c234_g6.toInt ≤ 2001)) ∧ (id ((c234_g3.toInt = 2 → c234_g5.toInt + 2 ≤ c234_g6.toInt ∧ c234_g6.toInt ≤ c234_g5.toInt + 18 ∧ c234_g6.toInt ≤ 2000))) ∧ (id ((c234_g3.toInt ≠ 4 → d148_g6.toInt < c234_g6.toInt))) ∧ (d148_g6.toInt ≤ c234_g6.toInt) := hq234
                            have h8234_hf : (F 0) = f := by first | assumption | omega
                            have h8234_hn : Int32.toNatClampNeg (g 2) = n := by first | assumption | omega
                            have h8234_he : Int32.toNatClampNeg d148_g6 = (tE f n e1) := by rcases (show d148_g4.toInt = 5 ∨ d148_g4.toInt = 6 ∨ d148_g4.toInt = 7 ∨ d148_g4.toInt = 8 by omega) with h9 | h9 | h9 | h9 <;> (have c9 := clampI (x := d148_g6) (by omega); first | (have h8 := (TKS_key (k := 5) htk (by omega) h9).2; omega) | (have h8 := (TKS_key (k := 6) htk (by omega) h9).2; omega) | (have h8 := (TKS_key (k := 7) htk (by omega) h9).2; omega) | (have h8 := (TKS_key (k := 8) htk (by omega) h9).2; omega))
                            have h8234_hfit : ∀ i, fits .byte (.int (f i)) = true := by first | assumption | omega
                            have hx234 := pwq (fn_scan (upd (upd (upd (upd (upd (upd g 3 d148_g3) 4 d148_g4) 5 d148_g5) 6 d148_g6) 7 d148_g7) 8 d148_g8) (upF (upF (upF (upF F 14 d148_F14) 15 d148_F15) 16 d148_F16) 17 d148_F17) (f) (n) (tE f n e1) hMI234 h8234_hf h8234_hn h8234_he h8234_hfit) hc234
                            have p234_0 : TKS f n (tE f n e1) c234_g3.toInt c234_g4.toInt c234_g5.toInt c234_g6.toInt := hx234
                            clear hx234
                            refine pw_jE (fun j300 ej300 => ?_)
                            refine pw_ite (fun c239 => ?_) (fun c239 => ?_)
                            · have c239 := congrArg Int32.toInt c239
                              exfalso; omega
                            · have c239 := z_ne c239
                              refine pw_ite (fun c255 => ?_) (fun c255 => ?_)
                              · have c255 := congrArg Int32.toInt c255
                                exfalso; omega
                              · have c255 := z_ne c255
                                have hMI288 : id (MInv (upd (upd (upd (upd (upd (upd g 3 c234_g3) 4 c234_g4) 5 c234_g5) 6 c234_g6) 7 d148_g7) 8 d148_g8) (upF (upF (upF (upF F 14 d148_F14) 15 d148_F15) 16 d148_F16) 17 d148_F17)) := show MInv (upd (upd (upd (upd (upd (upd g 3 c234_g3) 4 c234_g4) 5 c234_g5) 6 c234_g6) 7 d148_g7) 8 d148_g8) (upF (upF (upF (upF F 14 d148_F14) 15 d148_F15) 16 d148_F16) 17 d148_F17) from (MInv_i ((hI9.1)) hzg2 hg107 hg108 hg109 hg110 hg68 hg69 hzg9 ((hI9.2.2.2.2.2.2.2.2.2.1)) ((hI9.2.2.2.2.2.2.2.2.2.2.1)) ((hI9.2.2.2.2.2.2.2.2.2.2.2.1)) ((hI9.2.2.2.2.2.2.2.2.2.2.2.2.1)) ((hI9.2.2.2.2.2.2.2.2.2.2.2.2.2.1)) ((hI9.2.2.2.2.2.2.2.2.2.2.2.2.2.2.1)) ((hI9.2.2.2.2.2.2.2.2.2.2.2.2.2.2.2.1)) ((hI9.2.2.2.2.2.2.2.2.2.2.2.2.2.2.2.2.1)) ((hI9.2.2.2.2.2.2.2.2.2.2.2.2.2.2.2.2.2.1)) ((hI9.2.2.2.2.2.2.2.2.2.2.2.2.2.2.2.2.2.2.1)) ((hI9.2.2.2.2.2.2.2.2.2.2.2.2.2.2.2.2.2.2.2.1)) ((hI9.2.2.2.2.2.2.2.2.2.2.2.2.2.2.2.2.2.2.2.2.1)) ((hI9.2.2.2.2.2.2.2.2.2.2.2.2.2.2.2.2.2.2.2.2.2.1)) ((hI9.2.2.2.2.2.2.2.2.2.2.2.2.2.2.2.2.2.2.2.2.2.2.1)) ((hI9.2.2.2.2.2.2.2.2.2.2.2.2.2.2.2.2.2.2.2.2.2.2.2.1)) ((hI9.2.2.2.2.2.2.2.2.2.2.2.2.2.2.2.2.2.2.2.2.2.2.2.2.1)) hzF11 hzF12 hzF13 hg70 hzF19 hzF21 hzF24 hzF25 hzF26 hzF33 hzF38 hzF41 hzF43 hzF45 hzF46 hzF50 hzF53 hzF54 hLQ71)
                                have hpr288_0 : (0 ≤ ((((4 * x33) + d148_g4) - 7) + 2).toInt ∧ ((((4 * x33) + d148_g4) - 7) + 2).toInt < 1120) := by first | assumption | omega
                                have hpr288_1 : 16 * 1120 ≤ 17920 := by first | assumption | omega
                                have hpr288_2 : 17920 ≤ 500000 := by first | assumption | omega
                                have hpr288_3 : id ((c234_g3.toInt = 2 → c234_g5.toInt + 2 ≤ c234_g6.toInt ∧ c234_g6.toInt ≤ c234_g5.toInt + 18 ∧ c234_g6.toInt ≤ 2000)) := show (c234_g3.toInt = 2 → c234_g5.toInt + 2 ≤ c234_g6.toInt ∧ c234_g6.toInt ≤ c234_g5.toInt + 18 ∧ c234_g6.toInt ≤ 2000) from by first | assumption | omega
                                refine pw_b5 (fun r288 c288_g7 c288_g8 c288_F14 c288_F15 hc288 => ?_)
                                have hq288 := wp_at (ok_take (upd (upd (upd (upd (upd (upd g 3 c234_g3) 4 c234_g4) 5 c234_g5) 6 c234_g6) 7 d148_g7) 8 d148_g8) (upF (upF (upF (upF F 14 d148_F14) 15 d148_F15) 16 d148_F16) 17 d148_F17) d148_F14 17920 d148_F15 1120 ((((4 * x33) + d148_g4) - 7) + 2) (1 : Int32) hMI288 hg70 hpr288_0 hpr288_1 hpr288_2 hpr288_3) hc288
                                obtain ⟨hg118, hg119, hg120, f121, f122, f123, f124⟩ : (((0) ≤ c288_g7.toInt ∧ c288_g7.toInt ≤ 4)) ∧ (((-1) ≤ c288_g8.toInt ∧ c288_g8.toInt ≤ 2001)) ∧ (rng (-1) 16 c288_F15) ∧ (id ((r288.toInt = 1 → c234_g3.toInt = 2))) ∧ (id ((∀ k : Nat, (k : Int) ≠ ((((4 * x33) + d148_g4) - 7) + 2).toInt → c288_F15 k = d148_F15 k))) ∧ (id ((r288.toInt = 1 → (1 : Int32).toInt ≠ 0 → 1 ≤ (c288_F15 (Int32.toNatClampNeg ((((4 * x33) + d148_g4) - 7) + 2))).toInt))) ∧ ((0 ≤ r288.toInt ∧ r288.toInt ≤ 1)) := hq288
                                have h8288_hf : (F 0) = f := by first | assumption | omega
                                have h8288_htk : TKS f n (tE f n e1) c234_g3.toInt c234_g4.toInt c234_g5.toInt c234_g6.toInt := by exact p234_0
                                have h8288_hsm : (true) = decide ((1 : Int32).toInt ≠ 0) := by decide
                                have h8288_hfit : ∀ i, fits .byte (.int (f i)) = true := by first | assumption | omega
                                have hx288 := pwq (fn_take (upd (upd (upd (upd (upd (upd g 3 c234_g3) 4 c234_g4) 5 c234_g5) 6 c234_g6) 7 d148_g7) 8 d148_g8) (upF (upF (upF (upF F 14 d148_F14) 15 d148_F15) 16 d148_F16) 17 d148_F17) d148_F14 17920 d148_F15 1120 ((((4 * x33) + d148_g4) - 7) + 2) (1 : Int32) (f) (n) (tE f n e1) (true) hMI288 hg70 hpr288_0 hpr288_1 hpr288_2 hpr288_3 h8288_hf h8288_htk h8288_hsm h8288_hfit) hc288
                                obtain ⟨p288_0, p288_1, p288_2⟩ : (id ((r288.toInt ≠ 0 → fLet f n (tE f n e1) (true) = none ∧ TAKEN d148_F14 c288_F14 d148_F15 c288_F15 (Int32.toNatClampNeg ((((4 * x33) + d148_g4) - 7) + 2)) f (tP f n (tE f n e1) + 1) (tL f n (tE f n e1)) ∧ c288_g7.toInt = d148_g7.toInt ∧ c288_g8.toInt = d148_g8.toInt ∧ c234_g6.toInt = ((tE f n (tE f n e1) : Nat) : Int)))) ∧ (id ((r288.toInt = 0 → ERR (fLet f n (tE f n e1) (true)) c288_g7 c288_g8))) ∧ (id ((r288.toInt = 0 → c288_F14 = d148_F14 ∧ c288_F15 = d148_F15))) := hx288
                                have hLQ125 : LQ (F 11) c288_F15 (g 9) := by
                                  exact lq_take hLQ71 ((((4 * x33) + d148_g4) - 7) + 2) (by assumption) hzF11 (by omega) (by omega)
                                refine pw_ite (fun c291 => ?_) (fun c291 => ?_)
                                · have c291 := congrArg Int32.toInt c291
                                  have qq0 : (∀ q, q < 960 → WR c288_F14 c288_F15 q = WR (F 14) (F 15) q) ∧ (∀ q, q < 240 → d148_F16 q = (F 16) q ∧ d148_F17 q = (F 17) q) ∧ (∀ q, q ≠ 6 → (F 11) q = (F 11) q) := by obtain ⟨a1, a2⟩ := p288_2 (by omega); rw [a1, a2]; exact ⟨fun q hq => lwi_old lw q (by omega), fun q hq => lwi_olda lw q (by omega), fun _ _ => rfl⟩
                                  have qq1 : OUTS (lawF f n pl e d) (0 : Int32) c288_g7 c288_g8 f n (fun e1 d1 => TKS f n e1 c234_g3.toInt c234_g4.toInt c234_g5.toInt c234_g6.toInt ∧ (entR ((F 13) 6) (F 20) (F 21) 480, prtR ((F 12) 6) (F 18) (F 19) 240, lwsR ((F 11) 6) c288_F14 c288_F15 d148_F16 d148_F17 240) = d1 ∧ c288_g7.toInt = (g 7).toInt ∧ c288_g8.toInt = (g 8).toInt) := by exact outs_bad (by omega) (p288_1 (by omega)) (fun q hq => by rcases (show d148_g4.toInt = 7 ∨ d148_g4.toInt = 8 by omega) with h7 | h7; (have hix : Int32.toNatClampNeg ((((4 * x33) + d148_g4) - 7) + 2) = 4 * (240 + Int32.toNatClampNeg ((F 11) 6)) + 2 := (by omega); exact lwi_er7 lw (by omega) h7 (by rw [← hix]; omega) hq); (have hix : Int32.toNatClampNeg ((((4 * x33) + d148_g4) - 7) + 2) = 4 * (240 + Int32.toNatClampNeg ((F 11) 6)) + 3 := (by omega); exact lwi_er8 lw (by omega) h7 (by rw [← hix]; omega) hq))
                                  exact pw_some ⟨qq0, qq1⟩
                                · have c291 := z_ne c291
                                  obtain ⟨kk1, kk2, kk3, kk4, kk5⟩ := p288_0 (by omega)
                                  have hMI297 : id (MInv (upd (upd (upd (upd (upd (upd g 3 c234_g3) 4 c234_g4) 5 c234_g5) 6 c234_g6) 7 c288_g7) 8 c288_g8) (upF (upF (upF (upF F 14 c288_F14) 15 c288_F15) 16 d148_F16) 17 d148_F17)) := show MInv (upd (upd (upd (upd (upd (upd g 3 c234_g3) 4 c234_g4) 5 c234_g5) 6 c234_g6) 7 c288_g7) 8 c288_g8) (upF (upF (upF (upF F 14 c288_F14) 15 c288_F15) 16 d148_F16) 17 d148_F17) from (MInv_i ((hI9.1)) hzg2 hg107 hg108 hg109 hg110 hg118 hg119 hzg9 ((hI9.2.2.2.2.2.2.2.2.2.1)) ((hI9.2.2.2.2.2.2.2.2.2.2.1)) ((hI9.2.2.2.2.2.2.2.2.2.2.2.1)) ((hI9.2.2.2.2.2.2.2.2.2.2.2.2.1)) ((hI9.2.2.2.2.2.2.2.2.2.2.2.2.2.1)) ((hI9.2.2.2.2.2.2.2.2.2.2.2.2.2.2.1)) ((hI9.2.2.2.2.2.2.2.2.2.2.2.2.2.2.2.1)) ((hI9.2.2.2.2.2.2.2.2.2.2.2.2.2.2.2.2.1)) ((hI9.2.2.2.2.2.2.2.2.2.2.2.2.2.2.2.2.2.1)) ((hI9.2.2.2.2.2.2.2.2.2.2.2.2.2.2.2.2.2.2.1)) ((hI9.2.2.2.2.2.2.2.2.2.2.2.2.2.2.2.2.2.2.2.1)) ((hI9.2.2.2.2.2.2.2.2.2.2.2.2.2.2.2.2.2.2.2.2.1)) ((hI9.2.2.2.2.2.2.2.2.2.2.2.2.2.2.2.2.2.2.2.2.2.1)) ((hI9.2.2.2.2.2.2.2.2.2.2.2.2.2.2.2.2.2.2.2.2.2.2.1)) ((hI9.2.2.2.2.2.2.2.2.2.2.2.2.2.2.2.2.2.2.2.2.2.2.2.1)) ((hI9.2.2.2.2.2.2.2.2.2.2.2.2.2.2.2.2.2.2.2.2.2.2.2.2.1)) hzF11 hzF12 hzF13 hg120 hzF19 hzF21 hzF24 hzF25 hzF26 hzF33 hzF38 hzF41 hzF43 hzF45 hzF46 hzF50 hzF53 hzF54 hLQ125)
                                  refine pw_b4 (fun c297_g3 c297_g4 c297_g5 c297_g6 hc297 => ?_)
                                  have hq297 := wp_at (ok_scan (upd (upd (upd (upd (upd (upd g 3 c234_g3) 4 c234_g4) 5 c234_g5) 6 c234_g6) 7 c288_g7) 8 c288_g8) (upF (upF (upF (upF F 14 c288_F14) 15 c288_F15) 16 d148_F16) 17 d148_F17) hMI297) hc297
                                  obtain ⟨hg126, hg127, hg128, hg129, f130, f131, f132⟩ : (((0) ≤ c297_g3.toInt ∧ c297_g3.toInt ≤ 4)) ∧ (((-1) ≤ c297_g4.toInt ∧ c297_g4.toInt ≤ 8)) ∧ (((0) ≤ c297_g5.toInt ∧ c297_g5.toInt ≤ 2001)) ∧ (((0) ≤ c297_g6.toInt ∧ c297_g6.toInt ≤ 2001)) ∧ (id ((c297_g3.toInt = 2 → c297_g5.toInt + 2 ≤ c297_g6.toInt ∧ c297_g6.toInt ≤ c297_g5.toInt + 18 ∧ c297_g6.toInt ≤ 2000))) ∧ (id ((c297_g3.toInt ≠ 4 → c234_g6.toInt < c297_g6.toInt))) ∧ (c234_g6.toInt ≤ c297_g6.toInt) := hq297
                                  have h8297_hf : (F 0) = f := by first | assumption | omega
                                  have h8297_hn : Int32.toNatClampNeg (g 2) = n := by first | assumption | omega
                                  have h8297_he : Int32.toNatClampNeg c234_g6 = (tE f n (tE f n e1)) := by have c9 := clampI (x := c234_g6) (by omega); omega
                                  have h8297_hfit : ∀ i, fits .byte (.int (f i)) = true := by first | assumption | omega
                                  have hx297 := pwq (fn_scan (upd (upd (upd (upd (upd (upd g 3 c234_g3) 4 c234_g4) 5 c234_g5) 6 c234_g6) 7 c288_g7) 8 c288_g8) (upF (upF (upF (upF F 14 c288_F14) 15 c288_F15) 16 d148_F16) 17 d148_F17) (f) (n) (tE f n (tE f n e1)) hMI297 h8297_hf h8297_hn h8297_he h8297_hfit) hc297
                                  have p297_0 : TKS f n (tE f n (tE f n e1)) c297_g3.toInt c297_g4.toInt c297_g5.toInt c297_g6.toInt := hx297
                                  clear hx297
                                  refine pw_j10 ej300 (fun z300_1 ez300_1 z300_2 ez300_2 z300_3 ez300_3 z300_4 ez300_4 z300_5 ez300_5 z300_6 ez300_6 z300_7 ez300_7 z300_8 ez300_8 z300_9 ez300_9 z300_10 ez300_10 => ?_)
                                  subst ez300_1 ez300_2 ez300_3 ez300_4 ez300_5 ez300_6 ez300_7 ez300_8 ez300_9 ez300_10
                                  have iv148_0 : (g 6).toInt ≤ c297_g6.toInt := by first | omega | assumption | exact pos_keep (by assumption) (by assumption) (by omega) (by omega)
                                  have iv148_1 : 1 ≤ (c288_F15 (Int32.toNatClampNeg (4 * x33))).toInt := by first | assumption | exact pos_keep (by assumption) (by assumption) (by omega) (by omega) | omega
                                  have iv148_2 : c288_g7.toInt = (g 7).toInt := by first | omega | assumption | exact pos_keep (by assumption) (by assumption) (by omega) (by omega)
                                  have iv148_3 : c288_g8.toInt = (g 8).toInt := by first | omega | assumption | exact pos_keep (by assumption) (by assumption) (by omega) (by omega)
                                  have iv148_4 : (∃ e1, LWI (lawF f n pl e d) f n d c288_F14 c288_F15 d148_F16 d148_F17 (F 14) (F 15) (F 16) (F 17) (240 + Int32.toNatClampNeg ((F 11) 6)) c297_g3.toInt c297_g4.toInt c297_g5.toInt c297_g6.toInt e1) := by rcases (show d148_g4.toInt = 7 ∨ d148_g4.toInt = 8 by omega) with h7 | h7; (have hix : Int32.toNatClampNeg ((((4 * x33) + d148_g4) - 7) + 2) = 4 * (240 + Int32.toNatClampNeg ((F 11) 6)) + 2 := (by omega); rw [hix] at kk2; have h9 : (d148_F15 (4 * (240 + Int32.toNatClampNeg ((F 11) 6)) + 2)).toInt = -1 := (by rw [← hix]; omega); exact ⟨_, lwi_st7 lw (by omega) h7 h9 hr148 kk1 kk2 p297_0⟩); (have hix : Int32.toNatClampNeg ((((4 * x33) + d148_g4) - 7) + 2) = 4 * (240 + Int32.toNatClampNeg ((F 11) 6)) + 3 := (by omega); rw [hix] at kk2; have h9 : (d148_F15 (4 * (240 + Int32.toNatClampNeg ((F 11) 6)) + 3)).toInt = -1 := (by rw [← hix]; omega); exact ⟨_, lwi_st8 lw (by omega) h7 h9 hr148 kk1 kk2 p297_0⟩)
                                  exact ih148 c297_g3 c297_g4 c297_g5 c297_g6 c288_g7 c288_g8 c288_F14 c288_F15 d148_F16 d148_F17 hg126 hg127 hg128 hg129 hg118 hg119 hg120 hLQ125 iv148_0 iv148_1 iv148_2 iv148_3 iv148_4
                          · have c224 := z_ne c224
                            exfalso; omega
                        · have c214 := z_ne c214
                          refine pw_j1 ej222 (fun t222_0 et222_0 => ?_)
                          have et222_0 := et222_0.symm
                          have f_t222_0 : t222_0.toInt = 1 := by rw [et222_0]; decide +kernel
                          refine pw_ite (fun c224 => ?_) (fun c224 => ?_)
                          · have c224 := congrArg Int32.toInt c224
                            exfalso; omega
                          · have c224 := z_ne c224
                            have hMI229 : id (MInv (upd (upd (upd (upd (upd (upd g 3 d148_g3) 4 d148_g4) 5 d148_g5) 6 d148_g6) 7 d148_g7) 8 d148_g8) (upF (upF (upF (upF F 14 d148_F14) 15 d148_F15) 16 d148_F16) 17 d148_F17)) := show MInv (upd (upd (upd (upd (upd (upd g 3 d148_g3) 4 d148_g4) 5 d148_g5) 6 d148_g6) 7 d148_g7) 8 d148_g8) (upF (upF (upF (upF F 14 d148_F14) 15 d148_F15) 16 d148_F16) 17 d148_F17) from (MInv_i ((hI9.1)) hzg2 hg64 hg65 hg66 hg67 hg68 hg69 hzg9 ((hI9.2.2.2.2.2.2.2.2.2.1)) ((hI9.2.2.2.2.2.2.2.2.2.2.1)) ((hI9.2.2.2.2.2.2.2.2.2.2.2.1)) ((hI9.2.2.2.2.2.2.2.2.2.2.2.2.1)) ((hI9.2.2.2.2.2.2.2.2.2.2.2.2.2.1)) ((hI9.2.2.2.2.2.2.2.2.2.2.2.2.2.2.1)) ((hI9.2.2.2.2.2.2.2.2.2.2.2.2.2.2.2.1)) ((hI9.2.2.2.2.2.2.2.2.2.2.2.2.2.2.2.2.1)) ((hI9.2.2.2.2.2.2.2.2.2.2.2.2.2.2.2.2.2.1)) ((hI9.2.2.2.2.2.2.2.2.2.2.2.2.2.2.2.2.2.2.1)) ((hI9.2.2.2.2.2.2.2.2.2.2.2.2.2.2.2.2.2.2.2.1)) ((hI9.2.2.2.2.2.2.2.2.2.2.2.2.2.2.2.2.2.2.2.2.1)) ((hI9.2.2.2.2.2.2.2.2.2.2.2.2.2.2.2.2.2.2.2.2.2.1)) ((hI9.2.2.2.2.2.2.2.2.2.2.2.2.2.2.2.2.2.2.2.2.2.2.1)) ((hI9.2.2.2.2.2.2.2.2.2.2.2.2.2.2.2.2.2.2.2.2.2.2.2.1)) ((hI9.2.2.2.2.2.2.2.2.2.2.2.2.2.2.2.2.2.2.2.2.2.2.2.2.1)) hzF11 hzF12 hzF13 hg70 hzF19 hzF21 hzF24 hzF25 hzF26 hzF33 hzF38 hzF41 hzF43 hzF45 hzF46 hzF50 hzF53 hzF54 hLQ71)
                            have hpr229_0 : 0 ≤ (3 : Int32).toInt ∧ (3 : Int32).toInt ≤ 4 := by first | assumption | omega
                            refine pw_b3 (fun r229 c229_g7 c229_g8 hc229 => ?_)
                            have hq229 := wp_at (ok_wrong (upd (upd (upd (upd (upd (upd g 3 d148_g3) 4 d148_g4) 5 d148_g5) 6 d148_g6) 7 d148_g7) 8 d148_g8) (upF (upF (upF (upF F 14 d148_F14) 15 d148_F15) 16 d148_F16) 17 d148_F17) (3 : Int32) hMI229 hpr229_0) hc229
                            obtain ⟨hg133, hg134, f135, f136⟩ : (((0) ≤ c229_g7.toInt ∧ c229_g7.toInt ≤ 4)) ∧ (((-1) ≤ c229_g8.toInt ∧ c229_g8.toInt ≤ 2001)) ∧ (r229.toInt = 0) ∧ ((0 ≤ r229.toInt ∧ r229.toInt ≤ 1)) := hq229
                            have hx229 := pwq (fn_wrong (upd (upd (upd (upd (upd (upd g 3 d148_g3) 4 d148_g4) 5 d148_g5) 6 d148_g6) 7 d148_g7) 8 d148_g8) (upF (upF (upF (upF F 14 d148_F14) 15 d148_F15) 16 d148_F16) 17 d148_F17) (3 : Int32) hMI229 hpr229_0) hc229
                            obtain ⟨p229_0, p229_1, p229_2⟩ : (r229.toInt = 0) ∧ (c229_g7.toInt = (3 : Int32).toInt) ∧ (c229_g8.toInt = d148_g5.toInt) := hx229
                            refine pw_if (fun hb232 => ?_)
                            obtain ⟨hbl232, hbr232⟩ := hb232
                            have qq0 : (∀ q, q < 960 → WR d148_F14 d148_F15 q = WR (F 14) (F 15) q) ∧ (∀ q, q < 240 → d148_F16 q = (F 16) q ∧ d148_F17 q = (F 17) q) ∧ (∀ q, q ≠ 6 → (F 11) q = (F 11) q) := by exact ⟨fun q hq => lwi_old lw q (by omega), fun q hq => lwi_olda lw q (by omega), fun _ _ => rfl⟩
                            have qq1 : OUTS (lawF f n pl e d) r229 c229_g7 c229_g8 f n (fun e1 d1 => TKS f n e1 d148_g3.toInt d148_g4.toInt d148_g5.toInt d148_g6.toInt ∧ (entR ((F 13) 6) (F 20) (F 21) 480, prtR ((F 12) 6) (F 18) (F 19) 240, lwsR ((F 11) 6) d148_F14 d148_F15 d148_F16 d148_F17 240) = d1 ∧ c229_g7.toInt = (g 7).toInt ∧ c229_g8.toInt = (g 8).toInt) := by exact outs_bad (by omega) (z := some (3, tP f n e1)) (err_of rfl (by omega) (by omega) (by omega)) (fun q hq => by cases hq; rcases (show d148_g4.toInt = 7 ∨ d148_g4.toInt = 8 by omega) with h7 | h7; (have hix : Int32.toNatClampNeg ((((4 * x33) + d148_g4) - 7) + 2) = 4 * (240 + Int32.toNatClampNeg ((F 11) 6)) + 2 := (by omega); exact lwi_had7 lw (by omega) h7 (by rw [← hix]; omega)); (have hix : Int32.toNatClampNeg ((((4 * x33) + d148_g4) - 7) + 2) = 4 * (240 + Int32.toNatClampNeg ((F 11) 6)) + 3 := (by omega); exact lwi_had8 lw (by omega) h7 (by rw [← hix]; omega)))
                            exact pw_some ⟨qq0, qq1⟩
                · have c153 := z_ne c153
                  refine pw_j10 ek303 (fun z303_1 ez303_1 z303_2 ez303_2 z303_3 ez303_3 z303_4 ez303_4 z303_5 ez303_5 z303_6 ez303_6 z303_7 ez303_7 z303_8 ez303_8 z303_9 ez303_9 z303_10 ez303_10 => ?_)
                  subst ez303_1 ez303_2 ez303_3 ez303_4 ez303_5 ez303_6 ez303_7 ez303_8 ez303_9 ez303_10
                  refine pw_if (fun hb310 => ?_)
                  obtain ⟨hbl310, hbr310⟩ := hb310
                  have f138 : (((F 11) (Int32.toNatClampNeg 6)) + 1).toInt = ((F 11) (Int32.toNatClampNeg 6)).toInt + 1 := z_addc (by decide +kernel) (by omega) (by omega)
                  refine pw_if (fun hb313 => ?_)
                  obtain ⟨hbl313, hbr313⟩ := hb313
                  refine pw_vl (fun w313 ew313 => ?_)
                  have hF139 : rng (0) 40 w313 := by rw [ew313]; exact rng_upd hzF11 (by omega) (by omega)
                  have hLQ140 : LQ w313 d148_F15 (g 9) := by
                    exact lq_inc (l := x33) hLQ71 ew313 (by omega) (by omega) (by assumption) (by omega) hzF11
                  have qq0 : (∀ q, q < 960 → WR d148_F14 d148_F15 q = WR (F 14) (F 15) q) ∧ (∀ q, q < 240 → d148_F16 q = (F 16) q ∧ d148_F17 q = (F 17) q) ∧ (∀ q, q ≠ 6 → w313 q = (F 11) q) := by obtain ⟨e1, lw⟩ := lw148; exact ⟨fun q hq => lwi_old lw q (by omega), fun q hq => lwi_olda lw q (by omega), fun q hq => by rw [ew313, e6]; exact pk_un hq⟩
                  have qq1 : OUTS (lawF f n pl e d) (1 : Int32) d148_g7 d148_g8 f n (fun e1 d1 => TKS f n e1 d148_g3.toInt d148_g4.toInt d148_g5.toInt d148_g6.toInt ∧ (entR ((F 13) 6) (F 20) (F 21) 480, prtR ((F 12) 6) (F 18) (F 19) 240, lwsR (w313 6) d148_F14 d148_F15 d148_F16 d148_F17 240) = d1 ∧ d148_g7.toInt = (g 7).toInt ∧ d148_g8.toInt = (g 8).toInt) := by obtain ⟨e1, lw⟩ := lw148; have htk := lwi_tok lw; obtain ⟨z1, z2, z3⟩ := lwi_end lw (by omega); refine outs_ok (by omega) (e1 := e1) z1 ⟨htk, Prod.ext hd1.symm (Prod.ext hd2.symm ?_), by omega, by omega⟩; show lwsR _ _ _ _ _ _ = d.2.2 ++ _; rw [hd3]; exact lws_addR (by rw [ew313]; show Int32.toNatClampNeg (upd (F 11) (Int32.toNatClampNeg 6) _ 6) = _; rw [e6, pk_us]; have hz9 : ((F 11) 6 + 1).toInt = ((F 11) 6).toInt + 1 := z_addc (by decide +kernel) (by omega) (by omega); have cz := clampI (x := (F 11) 6 + 1) (by omega); omega) z2 z3 rfl
                  exact pw_some ⟨qq0, qq1⟩
            exact lp148 NN c109_g3 c109_g4 c109_g5 c109_g6 c100_g7 c100_g8 c100_F14 w147 w118 w125 hg49 hg50 hg51 hg52 hg41 hg42 hF62 hLQ63 (show (g 6).toInt ≤ c109_g6.toInt from by first | omega | assumption) (show 1 ≤ (w147 (Int32.toNatClampNeg (4 * x33))).toInt from by first | omega | assumption) (show c100_g7.toInt = (g 7).toInt from by first | omega | assumption) (show c100_g8.toInt = (g 8).toInt from by first | omega | assumption) (show (∃ e1, LWI (lawF f n pl e d) f n d c100_F14 w147 w118 w125 (F 14) (F 15) (F 16) (F 17) (240 + Int32.toNatClampNeg ((F 11) 6)) c109_g3.toInt c109_g4.toInt c109_g5.toInt c109_g6.toInt e1) from by exact hl0)
        · have c72 := z_ne c72
          refine pw_j0 ej75 ?_
          have hMI77 : id (MInv (upd (upd (upd (upd (upd (upd g 3 c56_g3) 4 c56_g4) 5 c56_g5) 6 c56_g6) 7 c47_g7) 8 c47_g8) (upF (upF F 14 c47_F14) 15 c47_F15)) := show MInv (upd (upd (upd (upd (upd (upd g 3 c56_g3) 4 c56_g4) 5 c56_g5) 6 c56_g6) 7 c47_g7) 8 c47_g8) (upF (upF F 14 c47_F14) 15 c47_F15) from (MInv_i ((hI9.1)) hzg2 hg25 hg26 hg27 hg28 hg17 hg18 hzg9 ((hI9.2.2.2.2.2.2.2.2.2.1)) ((hI9.2.2.2.2.2.2.2.2.2.2.1)) ((hI9.2.2.2.2.2.2.2.2.2.2.2.1)) ((hI9.2.2.2.2.2.2.2.2.2.2.2.2.1)) ((hI9.2.2.2.2.2.2.2.2.2.2.2.2.2.1)) ((hI9.2.2.2.2.2.2.2.2.2.2.2.2.2.2.1)) ((hI9.2.2.2.2.2.2.2.2.2.2.2.2.2.2.2.1)) ((hI9.2.2.2.2.2.2.2.2.2.2.2.2.2.2.2.2.1)) ((hI9.2.2.2.2.2.2.2.2.2.2.2.2.2.2.2.2.2.1)) ((hI9.2.2.2.2.2.2.2.2.2.2.2.2.2.2.2.2.2.2.1)) ((hI9.2.2.2.2.2.2.2.2.2.2.2.2.2.2.2.2.2.2.2.1)) ((hI9.2.2.2.2.2.2.2.2.2.2.2.2.2.2.2.2.2.2.2.2.1)) ((hI9.2.2.2.2.2.2.2.2.2.2.2.2.2.2.2.2.2.2.2.2.2.1)) ((hI9.2.2.2.2.2.2.2.2.2.2.2.2.2.2.2.2.2.2.2.2.2.2.1)) ((hI9.2.2.2.2.2.2.2.2.2.2.2.2.2.2.2.2.2.2.2.2.2.2.2.1)) ((hI9.2.2.2.2.2.2.2.2.2.2.2.2.2.2.2.2.2.2.2.2.2.2.2.2.1)) hzF11 hzF12 hzF13 hg19 hzF19 hzF21 hzF24 hzF25 hzF26 hzF33 hzF38 hzF41 hzF43 hzF45 hzF46 hzF50 hzF53 hzF54 hLQ24)
          have hpr77_0 : 0 ≤ (1 : Int32).toInt ∧ (1 : Int32).toInt ≤ 4 := by first | assumption | omega
          refine pw_b3 (fun r77 c77_g7 c77_g8 hc77 => ?_)
          have hq77 := wp_at (ok_wrong (upd (upd (upd (upd (upd (upd g 3 c56_g3) 4 c56_g4) 5 c56_g5) 6 c56_g6) 7 c47_g7) 8 c47_g8) (upF (upF F 14 c47_F14) 15 c47_F15) (1 : Int32) hMI77 hpr77_0) hc77
          obtain ⟨hg141, hg142, f143, f144⟩ : (((0) ≤ c77_g7.toInt ∧ c77_g7.toInt ≤ 4)) ∧ (((-1) ≤ c77_g8.toInt ∧ c77_g8.toInt ≤ 2001)) ∧ (r77.toInt = 0) ∧ ((0 ≤ r77.toInt ∧ r77.toInt ≤ 1)) := hq77
          have hx77 := pwq (fn_wrong (upd (upd (upd (upd (upd (upd g 3 c56_g3) 4 c56_g4) 5 c56_g5) 6 c56_g6) 7 c47_g7) 8 c47_g8) (upF (upF F 14 c47_F14) 15 c47_F15) (1 : Int32) hMI77 hpr77_0) hc77
          obtain ⟨p77_0, p77_1, p77_2⟩ : (r77.toInt = 0) ∧ (c77_g7.toInt = (1 : Int32).toInt) ∧ (c77_g8.toInt = c56_g5.toInt) := hx77
          refine pw_if (fun hb80 => ?_)
          obtain ⟨hbl80, hbr80⟩ := hb80
          have qq0 : (∀ q, q < 960 → WR c47_F14 c47_F15 q = WR (F 14) (F 15) q) ∧ (∀ q, q < 240 → (F 16) q = (F 16) q ∧ (F 17) q = (F 17) q) ∧ (∀ q, q ≠ 6 → (F 11) q = (F 11) q) := by exact ⟨fun q hq => TK_w g2 (hzF15 q).2 (by omega), (fun _ _ => ⟨rfl, rfl⟩), fun _ _ => rfl⟩
          have qq1 : OUTS (lawF f n pl e d) r77 c77_g7 c77_g8 f n (fun e1 d1 => TKS f n e1 c56_g3.toInt c56_g4.toInt c56_g5.toInt c56_g6.toInt ∧ (entR ((F 13) 6) (F 20) (F 21) 480, prtR ((F 12) 6) (F 18) (F 19) 240, lwsR ((F 11) 6) c47_F14 c47_F15 (F 16) (F 17) 240) = d1 ∧ c77_g7.toInt = (g 7).toInt ∧ c77_g8.toInt = (g 8).toInt) := by exact outs_bad (by omega) (z := some (1, tP f n (tE f n e))) (err_of rfl (by omega) (by have t1 := TKS_at p56_0; omega) (by omega)) (fun q hq => by cases hq; exact lawF_2 (by omega) g1 (fTo_bad (TKS_nkey p56_0 (by omega) (by omega))))
          exact pw_some ⟨qq0, qq1⟩
      · have c64 := z_ne c64
        refine pw_j0 ej75 ?_
        have hMI77 : id (MInv (upd (upd (upd (upd (upd (upd g 3 c56_g3) 4 c56_g4) 5 c56_g5) 6 c56_g6) 7 c47_g7) 8 c47_g8) (upF (upF F 14 c47_F14) 15 c47_F15)) := show MInv (upd (upd (upd (upd (upd (upd g 3 c56_g3) 4 c56_g4) 5 c56_g5) 6 c56_g6) 7 c47_g7) 8 c47_g8) (upF (upF F 14 c47_F14) 15 c47_F15) from (MInv_i ((hI9.1)) hzg2 hg25 hg26 hg27 hg28 hg17 hg18 hzg9 ((hI9.2.2.2.2.2.2.2.2.2.1)) ((hI9.2.2.2.2.2.2.2.2.2.2.1)) ((hI9.2.2.2.2.2.2.2.2.2.2.2.1)) ((hI9.2.2.2.2.2.2.2.2.2.2.2.2.1)) ((hI9.2.2.2.2.2.2.2.2.2.2.2.2.2.1)) ((hI9.2.2.2.2.2.2.2.2.2.2.2.2.2.2.1)) ((hI9.2.2.2.2.2.2.2.2.2.2.2.2.2.2.2.1)) ((hI9.2.2.2.2.2.2.2.2.2.2.2.2.2.2.2.2.1)) ((hI9.2.2.2.2.2.2.2.2.2.2.2.2.2.2.2.2.2.1)) ((hI9.2.2.2.2.2.2.2.2.2.2.2.2.2.2.2.2.2.2.1)) ((hI9.2.2.2.2.2.2.2.2.2.2.2.2.2.2.2.2.2.2.2.1)) ((hI9.2.2.2.2.2.2.2.2.2.2.2.2.2.2.2.2.2.2.2.2.1)) ((hI9.2.2.2.2.2.2.2.2.2.2.2.2.2.2.2.2.2.2.2.2.2.1)) ((hI9.2.2.2.2.2.2.2.2.2.2.2.2.2.2.2.2.2.2.2.2.2.2.1)) ((hI9.2.2.2.2.2.2.2.2.2.2.2.2.2.2.2.2.2.2.2.2.2.2.2.1)) ((hI9.2.2.2.2.2.2.2.2.2.2.2.2.2.2.2.2.2.2.2.2.2.2.2.2.1)) hzF11 hzF12 hzF13 hg19 hzF19 hzF21 hzF24 hzF25 hzF26 hzF33 hzF38 hzF41 hzF43 hzF45 hzF46 hzF50 hzF53 hzF54 hLQ24)
        have hpr77_0 : 0 ≤ (1 : Int32).toInt ∧ (1 : Int32).toInt ≤ 4 := by first | assumption | omega
        refine pw_b3 (fun r77 c77_g7 c77_g8 hc77 => ?_)
        have hq77 := wp_at (ok_wrong (upd (upd (upd (upd (upd (upd g 3 c56_g3) 4 c56_g4) 5 c56_g5) 6 c56_g6) 7 c47_g7) 8 c47_g8) (upF (upF F 14 c47_F14) 15 c47_F15) (1 : Int32) hMI77 hpr77_0) hc77
        obtain ⟨hg145, hg146, f147, f148⟩ : (((0) ≤ c77_g7.toInt ∧ c77_g7.toInt ≤ 4)) ∧ (((-1) ≤ c77_g8.toInt ∧ c77_g8.toInt ≤ 2001)) ∧ (r77.toInt = 0) ∧ ((0 ≤ r77.toInt ∧ r77.toInt ≤ 1)) := hq77
        have hx77 := pwq (fn_wrong (upd (upd (upd (upd (upd (upd g 3 c56_g3) 4 c56_g4) 5 c56_g5) 6 c56_g6) 7 c47_g7) 8 c47_g8) (upF (upF F 14 c47_F14) 15 c47_F15) (1 : Int32) hMI77 hpr77_0) hc77
        obtain ⟨p77_0, p77_1, p77_2⟩ : (r77.toInt = 0) ∧ (c77_g7.toInt = (1 : Int32).toInt) ∧ (c77_g8.toInt = c56_g5.toInt) := hx77
        refine pw_if (fun hb80 => ?_)
        obtain ⟨hbl80, hbr80⟩ := hb80
        have qq0 : (∀ q, q < 960 → WR c47_F14 c47_F15 q = WR (F 14) (F 15) q) ∧ (∀ q, q < 240 → (F 16) q = (F 16) q ∧ (F 17) q = (F 17) q) ∧ (∀ q, q ≠ 6 → (F 11) q = (F 11) q) := by exact ⟨fun q hq => TK_w g2 (hzF15 q).2 (by omega), (fun _ _ => ⟨rfl, rfl⟩), fun _ _ => rfl⟩
        have qq1 : OUTS (lawF f n pl e d) r77 c77_g7 c77_g8 f n (fun e1 d1 => TKS f n e1 c56_g3.toInt c56_g4.toInt c56_g5.toInt c56_g6.toInt ∧ (entR ((F 13) 6) (F 20) (F 21) 480, prtR ((F 12) 6) (F 18) (F 19) 240, lwsR ((F 11) 6) c47_F14 c47_F15 (F 16) (F 17) 240) = d1 ∧ c77_g7.toInt = (g 7).toInt ∧ c77_g8.toInt = (g 8).toInt) := by exact outs_bad (by omega) (z := some (1, tP f n (tE f n e))) (err_of rfl (by omega) (by have t1 := TKS_at p56_0; omega) (by omega)) (fun q hq => by cases hq; exact lawF_2 (by omega) g1 (fTo_bad (TKS_nkey p56_0 (by omega) (by omega))))
        exact pw_some ⟨qq0, qq1⟩
abbrev QF_readItem (g : Nat → Int32) (F : Nat → Nat → Int32) (f : Nat → Int32) (n : Nat) (e : Nat) (d : Dr) : (Int32 × Int32 × Int32 × Int32 × Int32 × Int32 × Int32 × (Nat → Int32) × (Nat → Int32) × (Nat → Int32) × (Nat → Int32) × (Nat → Int32) × (Nat → Int32) × (Nat → Int32) × (Nat → Int32) × (Nat → Int32) × (Nat → Int32) × (Nat → Int32)) → Prop := (fun t => ((∀ q, q < 480 → WR (t.2.2.2.2.2.2.2.2.2.2.2.2.2.2.2.2.1) (t.2.2.2.2.2.2.2.2.2.2.2.2.2.2.2.2.2) q = WR (F 20) (F 21) q ∧ (t.2.2.2.2.2.2.2.2.2.2.2.2.2.2.2.2.2) q = (F 21) q) ∧ (∀ q, q ≠ 6 → (t.2.2.2.2.2.2.2.2.2.1) q = (F 13) q)) ∧ ((∀ q, q < 240 → WR (t.2.2.2.2.2.2.2.2.2.2.2.2.2.2.1) (t.2.2.2.2.2.2.2.2.2.2.2.2.2.2.2.1) q = WR (F 18) (F 19) q) ∧ (∀ q, q ≠ 6 → (t.2.2.2.2.2.2.2.2.1) q = (F 12) q)) ∧ ((∀ q, q < 960 → WR (t.2.2.2.2.2.2.2.2.2.2.1) (t.2.2.2.2.2.2.2.2.2.2.2.1) q = WR (F 14) (F 15) q) ∧ (∀ q, q < 240 → (t.2.2.2.2.2.2.2.2.2.2.2.2.1) q = (F 16) q ∧ (t.2.2.2.2.2.2.2.2.2.2.2.2.2.1) q = (F 17) q) ∧ (∀ q, q ≠ 6 → (t.2.2.2.2.2.2.2.1) q = (F 11) q)) ∧ (OUTI (itmF f n e d) (t.1) (t.2.2.2.2.2.1) (t.2.2.2.2.2.2.1) (fun e1 d1 => TKS f n e1 (t.2.1).toInt (t.2.2.1).toInt (t.2.2.2.1).toInt (t.2.2.2.2.1).toInt ∧ (entR ((t.2.2.2.2.2.2.2.2.2.1) 6) (t.2.2.2.2.2.2.2.2.2.2.2.2.2.2.2.2.1) (t.2.2.2.2.2.2.2.2.2.2.2.2.2.2.2.2.2) 480, prtR ((t.2.2.2.2.2.2.2.2.1) 6) (t.2.2.2.2.2.2.2.2.2.2.2.2.2.2.1) (t.2.2.2.2.2.2.2.2.2.2.2.2.2.2.2.1) 240, lwsR ((t.2.2.2.2.2.2.2.1) 6) (t.2.2.2.2.2.2.2.2.2.2.1) (t.2.2.2.2.2.2.2.2.2.2.2.1) (t.2.2.2.2.2.2.2.2.2.2.2.2.1) (t.2.2.2.2.2.2.2.2.2.2.2.2.2.1) 240) = d1 ∧ (t.2.2.2.2.2.1).toInt = (g 7).toInt ∧ (t.2.2.2.2.2.2.1).toInt = (g 8).toInt)))
set_option maxHeartbeats 4000000 in
set_option maxRecDepth 100000 in
theorem fn_readItem (g : Nat → Int32) (F : Nat → Nat → Int32) (f : Nat → Int32) (n : Nat) (e : Nat) (d : Dr) (hI : MInv g F) (hf : (F 0) = f) (hn : Int32.toNatClampNeg (g 2) = n) (htk : TKS f n e (g 3).toInt (g 4).toInt (g 5).toInt (g 6).toInt) (hs4 : (g 3).toInt ≠ 4) (hd : (entR ((F 13) 6) (F 20) (F 21) 480, prtR ((F 12) 6) (F 18) (F 19) 240, lwsR ((F 11) 6) (F 14) (F 15) (F 16) (F 17) 240) = d) (hwf : WFD d) (hfit : ∀ i, fits .byte (.int (f i)) = true) : pw (f_readItem g F) (QF_readItem g F f n e d) := by
  unfold f_readItem
  have hI9 : id (MInv g F) := hI
  obtain ⟨-, hzg2, hzg3, hzg4, hzg5, hzg6, hzg7, hzg8, hzg9, -, -, -, -, -, -, -, -, -, -, -, -, -, -, -, -, hzF11, hzF12, hzF13, hzF15, hzF19, hzF21, hzF24, hzF25, hzF26, hzF33, hzF38, hzF41, hzF43, hzF45, hzF46, hzF50, hzF53, hzF54, hzLQ⟩ := hI
  have zk0 : (0 : Int32).toInt = 0 := by decide +kernel
  have zk1 : (1 : Int32).toInt = 1 := by decide +kernel
  have zk3 : (3 : Int32).toInt = 3 := by decide +kernel
  have zk4 : (4 : Int32).toInt = 4 := by decide +kernel
  have t1 := TKS_at htk
  have tk0 := TKS_n0 htk hs4
  refine pw_ite (fun c5 => ?_) (fun c5 => ?_)
  · have c5 := congrArg Int32.toInt c5
    refine pw_jE (fun j88 ej88 => ?_)
    refine pw_jE (fun j29 ej29 => ?_)
    refine pw_ite (fun c18 => ?_) (fun c18 => ?_)
    · have c18 := congrArg Int32.toInt c18
      refine pw_j0 ej29 ?_
      refine pw_jE (fun j43 ej43 => ?_)
      refine pw_ite (fun c35 => ?_) (fun c35 => ?_)
      · have c35 := congrArg Int32.toInt c35
        refine pw_j1 ej43 (fun t43_0 et43_0 => ?_)
        have et43_0 := et43_0.symm
        have f_t43_0 : t43_0.toInt = 1 := by rw [et43_0]; decide +kernel
        have hMI43 : id (MInv g F) := show MInv g F from (MInv_i ((hI9.1)) hzg2 hzg3 hzg4 hzg5 hzg6 hzg7 hzg8 hzg9 ((hI9.2.2.2.2.2.2.2.2.2.1)) ((hI9.2.2.2.2.2.2.2.2.2.2.1)) ((hI9.2.2.2.2.2.2.2.2.2.2.2.1)) ((hI9.2.2.2.2.2.2.2.2.2.2.2.2.1)) ((hI9.2.2.2.2.2.2.2.2.2.2.2.2.2.1)) ((hI9.2.2.2.2.2.2.2.2.2.2.2.2.2.2.1)) ((hI9.2.2.2.2.2.2.2.2.2.2.2.2.2.2.2.1)) ((hI9.2.2.2.2.2.2.2.2.2.2.2.2.2.2.2.2.1)) ((hI9.2.2.2.2.2.2.2.2.2.2.2.2.2.2.2.2.2.1)) ((hI9.2.2.2.2.2.2.2.2.2.2.2.2.2.2.2.2.2.2.1)) ((hI9.2.2.2.2.2.2.2.2.2.2.2.2.2.2.2.2.2.2.2.1)) ((hI9.2.2.2.2.2.2.2.2.2.2.2.2.2.2.2.2.2.2.2.2.1)) ((hI9.2.2.2.2.2.2.2.2.2.2.2.2.2.2.2.2.2.2.2.2.2.1)) ((hI9.2.2.2.2.2.2.2.2.2.2.2.2.2.2.2.2.2.2.2.2.2.2.1)) ((hI9.2.2.2.2.2.2.2.2.2.2.2.2.2.2.2.2.2.2.2.2.2.2.2.1)) ((hI9.2.2.2.2.2.2.2.2.2.2.2.2.2.2.2.2.2.2.2.2.2.2.2.2.1)) hzF11 hzF12 hzF13 hzF15 hzF19 hzF21 hzF24 hzF25 hzF26 hzF33 hzF38 hzF41 hzF43 hzF45 hzF46 hzF50 hzF53 hzF54 hzLQ)
        refine pw_b10 (fun r43 c43_g3 c43_g4 c43_g5 c43_g6 c43_g7 c43_g8 c43_F13 c43_F20 c43_F21 hc43 => ?_)
        have hq43 := wp_at (ok_readListed g F t43_0 hMI43) hc43
        obtain ⟨hg1, hg2, hg3, hg4, hg5, hg6, hg7, hg8, f9, f10⟩ : (((0) ≤ c43_g3.toInt ∧ c43_g3.toInt ≤ 4)) ∧ (((-1) ≤ c43_g4.toInt ∧ c43_g4.toInt ≤ 8)) ∧ (((0) ≤ c43_g5.toInt ∧ c43_g5.toInt ≤ 2001)) ∧ (((0) ≤ c43_g6.toInt ∧ c43_g6.toInt ≤ 2001)) ∧ (((0) ≤ c43_g7.toInt ∧ c43_g7.toInt ≤ 4)) ∧ (((-1) ≤ c43_g8.toInt ∧ c43_g8.toInt ≤ 2001)) ∧ (rng (0) 40 c43_F13) ∧ (rng (-1) 16 c43_F21) ∧ ((g 6).toInt ≤ c43_g6.toInt) ∧ ((0 ≤ r43.toInt ∧ r43.toInt ≤ 1)) := hq43
        have h843_hf : (F 0) = f := by first | assumption | omega
        have h843_hn : Int32.toNatClampNeg (g 2) = n := by first | assumption | omega
        have h843_he : Int32.toNatClampNeg (g 6) = (tE f n e) := by rcases (show (g 4).toInt = 0 ∨ (g 4).toInt = 1 by omega) with h9 | h9; (have h := (TKS_key (k := 0) htk (by omega) h9).2; have c9 := clampI (x := (g 6)) (by omega); omega); (have h := (TKS_key (k := 1) htk (by omega) h9).2; have c9 := clampI (x := (g 6)) (by omega); omega)
        have h843_hat : (g 5).toInt = ((tP f n e) : Int) := by omega
        have h843_hd : (entR ((F 13) 6) (F 20) (F 21) 480, prtR ((F 12) 6) (F 18) (F 19) 240, lwsR ((F 11) 6) (F 14) (F 15) (F 16) (F 17) 240) = d := by first | assumption | omega
        have h843_hwf : WFD d := by first | assumption | omega
        have h843_hfit : ∀ i, fits .byte (.int (f i)) = true := by first | assumption | omega
        have h843_hisL : (decide ((g 4).toInt ≠ 0)) = decide (t43_0.toInt ≠ 0) := by refine decide_eq_decide.mpr ?_; omega
        have hx43 := pwq (fn_readListed g F t43_0 (f) (n) (tP f n e) (tE f n e) (d) (decide ((g 4).toInt ≠ 0)) hMI43 h843_hf h843_hn h843_he h843_hat h843_hd h843_hwf h843_hfit h843_hisL) hc43
        obtain ⟨p43_0, p43_1⟩ : (id ((∀ q, q < 480 → WR c43_F20 c43_F21 q = WR (F 20) (F 21) q ∧ c43_F21 q = (F 21) q) ∧ (∀ q, q ≠ 6 → c43_F13 q = (F 13) q))) ∧ (OUTS (entF f n (tP f n e) (tE f n e) d (decide ((g 4).toInt ≠ 0))) r43 c43_g7 c43_g8 f n (fun e1 d1 => TKS f n e1 c43_g3.toInt c43_g4.toInt c43_g5.toInt c43_g6.toInt ∧ (entR (c43_F13 6) c43_F20 c43_F21 480, prtR ((F 12) 6) (F 18) (F 19) 240, lwsR ((F 11) 6) (F 14) (F 15) (F 16) (F 17) 240) = d1 ∧ c43_g7.toInt = (g 7).toInt ∧ c43_g8.toInt = (g 8).toInt)) := hx43
        have hou : OUTS (itmF f n e d) r43 c43_g7 c43_g8 f n (fun e1 d1 => TKS f n e1 c43_g3.toInt c43_g4.toInt c43_g5.toInt c43_g6.toInt ∧ (entR (c43_F13 6) c43_F20 c43_F21 480, prtR ((F 12) 6) (F 18) (F 19) 240, lwsR ((F 11) 6) (F 14) (F 15) (F 16) (F 17) 240) = d1 ∧ c43_g7.toInt = (g 7).toInt ∧ c43_g8.toInt = (g 8).toInt) := by rcases (show (g 4).toInt = 0 ∨ (g 4).toInt = 1 by omega) with h9 | h9; (rw [itm_0 (TKS_key (k := 0) htk (by omega) h9).1]; rw [decide_eq_false (show ¬ (g 4).toInt ≠ 0 from by omega)] at p43_1; exact p43_1); (rw [itm_1 (TKS_nkey htk (by omega) (by omega)) (TKS_key (k := 1) htk (by omega) h9).1]; rw [decide_eq_true (show (g 4).toInt ≠ 0 from by omega)] at p43_1; exact p43_1)
        refine pw_j18 ej88 (fun x88_1 ex88_1 z88_1 ez88_1 z88_2 ez88_2 z88_3 ez88_3 z88_4 ez88_4 z88_5 ez88_5 z88_6 ez88_6 z88_7 ez88_7 z88_8 ez88_8 z88_9 ez88_9 z88_10 ez88_10 z88_11 ez88_11 z88_12 ez88_12 z88_13 ez88_13 z88_14 ez88_14 z88_15 ez88_15 z88_16 ez88_16 z88_17 ez88_17 => ?_)
        subst ez88_1 ez88_2 ez88_3 ez88_4 ez88_5 ez88_6 ez88_7 ez88_8 ez88_9 ez88_10 ez88_11 ez88_12 ez88_13 ez88_14 ez88_15 ez88_16 ez88_17
        have ex88_1 := ex88_1.symm
        have f_x88_1 : x88_1.toInt = r43.toInt := by rw [ex88_1]
        refine pw_ite (fun c89 => ?_) (fun c89 => ?_)
        · have c89 := congrArg Int32.toInt c89
          have qq0 : (∀ q, q < 480 → WR c43_F20 c43_F21 q = WR (F 20) (F 21) q ∧ c43_F21 q = (F 21) q) ∧ (∀ q, q ≠ 6 → c43_F13 q = (F 13) q) := by exact p43_0
          have qq1 : (∀ q, q < 240 → WR (F 18) (F 19) q = WR (F 18) (F 19) q) ∧ (∀ q, q ≠ 6 → (F 12) q = (F 12) q) := by exact ⟨fun _ _ => rfl, fun _ _ => rfl⟩
          have qq2 : (∀ q, q < 960 → WR (F 14) (F 15) q = WR (F 14) (F 15) q) ∧ (∀ q, q < 240 → (F 16) q = (F 16) q ∧ (F 17) q = (F 17) q) ∧ (∀ q, q ≠ 6 → (F 11) q = (F 11) q) := by exact ⟨fun _ _ => rfl, (fun _ _ => ⟨rfl, rfl⟩), fun _ _ => rfl⟩
          have qq3 : OUTI (itmF f n e d) (0 : Int32) c43_g7 c43_g8 (fun e1 d1 => TKS f n e1 c43_g3.toInt c43_g4.toInt c43_g5.toInt c43_g6.toInt ∧ (entR (c43_F13 6) c43_F20 c43_F21 480, prtR ((F 12) 6) (F 18) (F 19) 240, lwsR ((F 11) 6) (F 14) (F 15) (F 16) (F 17) 240) = d1 ∧ c43_g7.toInt = (g 7).toInt ∧ c43_g8.toInt = (g 8).toInt) := by exact ⟨fun _ => hou.1 (by omega), fun q => absurd q (by omega)⟩
          exact pw_some ⟨qq0, qq1, qq2, qq3⟩
        · have c89 := z_ne c89
          obtain ⟨e1, d1, ho, hk1, hdd, hf7, hf8⟩ := hou.2 (by omega)
          have t2 := TKS_at hk1
          refine pw_ite (fun c99 => ?_) (fun c99 => ?_)
          · have c99 := congrArg Int32.toInt c99
            have hMI109 : id (MInv (upd (upd (upd (upd (upd (upd g 3 c43_g3) 4 c43_g4) 5 c43_g5) 6 c43_g6) 7 c43_g7) 8 c43_g8) (upF (upF (upF F 13 c43_F13) 20 c43_F20) 21 c43_F21)) := show MInv (upd (upd (upd (upd (upd (upd g 3 c43_g3) 4 c43_g4) 5 c43_g5) 6 c43_g6) 7 c43_g7) 8 c43_g8) (upF (upF (upF F 13 c43_F13) 20 c43_F20) 21 c43_F21) from (MInv_i ((hI9.1)) hzg2 hg1 hg2 hg3 hg4 hg5 hg6 hzg9 ((hI9.2.2.2.2.2.2.2.2.2.1)) ((hI9.2.2.2.2.2.2.2.2.2.2.1)) ((hI9.2.2.2.2.2.2.2.2.2.2.2.1)) ((hI9.2.2.2.2.2.2.2.2.2.2.2.2.1)) ((hI9.2.2.2.2.2.2.2.2.2.2.2.2.2.1)) ((hI9.2.2.2.2.2.2.2.2.2.2.2.2.2.2.1)) ((hI9.2.2.2.2.2.2.2.2.2.2.2.2.2.2.2.1)) ((hI9.2.2.2.2.2.2.2.2.2.2.2.2.2.2.2.2.1)) ((hI9.2.2.2.2.2.2.2.2.2.2.2.2.2.2.2.2.2.1)) ((hI9.2.2.2.2.2.2.2.2.2.2.2.2.2.2.2.2.2.2.1)) ((hI9.2.2.2.2.2.2.2.2.2.2.2.2.2.2.2.2.2.2.2.1)) ((hI9.2.2.2.2.2.2.2.2.2.2.2.2.2.2.2.2.2.2.2.2.1)) ((hI9.2.2.2.2.2.2.2.2.2.2.2.2.2.2.2.2.2.2.2.2.2.1)) ((hI9.2.2.2.2.2.2.2.2.2.2.2.2.2.2.2.2.2.2.2.2.2.2.1)) ((hI9.2.2.2.2.2.2.2.2.2.2.2.2.2.2.2.2.2.2.2.2.2.2.2.1)) ((hI9.2.2.2.2.2.2.2.2.2.2.2.2.2.2.2.2.2.2.2.2.2.2.2.2.1)) hzF11 hzF12 hg7 hzF15 hzF19 hg8 hzF24 hzF25 hzF26 hzF33 hzF38 hzF41 hzF43 hzF45 hzF46 hzF50 hzF53 hzF54 hzLQ)
            refine pw_b4 (fun c109_g3 c109_g4 c109_g5 c109_g6 hc109 => ?_)
            have hq109 := wp_at (ok_scan (upd (upd (upd (upd (upd (upd g 3 c43_g3) 4 c43_g4) 5 c43_g5) 6 c43_g6) 7 c43_g7) 8 c43_g8) (upF (upF (upF F 13 c43_F13) 20 c43_F20) 21 c43_F21) hMI109) hc109
            obtain ⟨hg11, hg12, hg13, hg14, f15, f16, f17⟩ : (((0) ≤ c109_g3.toInt ∧ c109_g3.toInt ≤ 4)) ∧ (((-1) ≤ c109_g4.toInt ∧ c109_g4.toInt ≤ 8)) ∧ (((0) ≤ c109_g5.toInt ∧ c109_g5.toInt ≤ 2001)) ∧ (((0) ≤ c109_g6.toInt ∧ c109_g6.toInt ≤ 2001)) ∧ (id ((c109_g3.toInt = 2 → c109_g5.toInt + 2 ≤ c109_g6.toInt ∧ c109_g6.toInt ≤ c109_g5.toInt + 18 ∧ c109_g6.toInt ≤ 2000))) ∧ (id ((c109_g3.toInt ≠ 4 → c43_g6.toInt < c109_g6.toInt))) ∧ (c43_g6.toInt ≤ c109_g6.toInt) := hq109
            have h8109_hf : (F 0) = f := by first | assumption | omega
            have h8109_hn : Int32.toNatClampNeg (g 2) = n := by first | assumption | omega
            have h8109_he : Int32.toNatClampNeg c43_g6 = (tE f n e1) := by have h := (TKS_3 hk1 (by omega)).2; have c9 := clampI (x := c43_g6) (by omega); omega
            have h8109_hfit : ∀ i, fits .byte (.int (f i)) = true := by first | assumption | omega
            have hx109 := pwq (fn_scan (upd (upd (upd (upd (upd (upd g 3 c43_g3) 4 c43_g4) 5 c43_g5) 6 c43_g6) 7 c43_g7) 8 c43_g8) (upF (upF (upF F 13 c43_F13) 20 c43_F20) 21 c43_F21) (f) (n) (tE f n e1) hMI109 h8109_hf h8109_hn h8109_he h8109_hfit) hc109
            have p109_0 : TKS f n (tE f n e1) c109_g3.toInt c109_g4.toInt c109_g5.toInt c109_g6.toInt := hx109
            clear hx109
            have qq0 : (∀ q, q < 480 → WR c43_F20 c43_F21 q = WR (F 20) (F 21) q ∧ c43_F21 q = (F 21) q) ∧ (∀ q, q ≠ 6 → c43_F13 q = (F 13) q) := by exact p43_0
            have qq1 : (∀ q, q < 240 → WR (F 18) (F 19) q = WR (F 18) (F 19) q) ∧ (∀ q, q ≠ 6 → (F 12) q = (F 12) q) := by exact ⟨fun _ _ => rfl, fun _ _ => rfl⟩
            have qq2 : (∀ q, q < 960 → WR (F 14) (F 15) q = WR (F 14) (F 15) q) ∧ (∀ q, q < 240 → (F 16) q = (F 16) q ∧ (F 17) q = (F 17) q) ∧ (∀ q, q ≠ 6 → (F 11) q = (F 11) q) := by exact ⟨fun _ _ => rfl, (fun _ _ => ⟨rfl, rfl⟩), fun _ _ => rfl⟩
            have qq3 : OUTI (itmF f n e d) (1 : Int32) c43_g7 c43_g8 (fun e1 d1 => TKS f n e1 c109_g3.toInt c109_g4.toInt c109_g5.toInt c109_g6.toInt ∧ (entR (c43_F13 6) c43_F20 c43_F21 480, prtR ((F 12) 6) (F 18) (F 19) 240, lwsR ((F 11) 6) (F 14) (F 15) (F 16) (F 17) 240) = d1 ∧ c43_g7.toInt = (g 7).toInt ∧ c43_g8.toInt = (g 8).toInt) := by exact ⟨fun q => absurd q (by omega), fun _ => ⟨_, _, by rw [ho]; exact oB_o (fCl_ok (TKS_3 hk1 (by omega)).1), p109_0, hdd, by omega, by omega⟩⟩
            exact pw_some ⟨qq0, qq1, qq2, qq3⟩
          · have c99 := z_ne c99
            have hMI104 : id (MInv (upd (upd (upd (upd (upd (upd g 3 c43_g3) 4 c43_g4) 5 c43_g5) 6 c43_g6) 7 c43_g7) 8 c43_g8) (upF (upF (upF F 13 c43_F13) 20 c43_F20) 21 c43_F21)) := show MInv (upd (upd (upd (upd (upd (upd g 3 c43_g3) 4 c43_g4) 5 c43_g5) 6 c43_g6) 7 c43_g7) 8 c43_g8) (upF (upF (upF F 13 c43_F13) 20 c43_F20) 21 c43_F21) from (MInv_i ((hI9.1)) hzg2 hg1 hg2 hg3 hg4 hg5 hg6 hzg9 ((hI9.2.2.2.2.2.2.2.2.2.1)) ((hI9.2.2.2.2.2.2.2.2.2.2.1)) ((hI9.2.2.2.2.2.2.2.2.2.2.2.1)) ((hI9.2.2.2.2.2.2.2.2.2.2.2.2.1)) ((hI9.2.2.2.2.2.2.2.2.2.2.2.2.2.1)) ((hI9.2.2.2.2.2.2.2.2.2.2.2.2.2.2.1)) ((hI9.2.2.2.2.2.2.2.2.2.2.2.2.2.2.2.1)) ((hI9.2.2.2.2.2.2.2.2.2.2.2.2.2.2.2.2.1)) ((hI9.2.2.2.2.2.2.2.2.2.2.2.2.2.2.2.2.2.1)) ((hI9.2.2.2.2.2.2.2.2.2.2.2.2.2.2.2.2.2.2.1)) ((hI9.2.2.2.2.2.2.2.2.2.2.2.2.2.2.2.2.2.2.2.1)) ((hI9.2.2.2.2.2.2.2.2.2.2.2.2.2.2.2.2.2.2.2.2.1)) ((hI9.2.2.2.2.2.2.2.2.2.2.2.2.2.2.2.2.2.2.2.2.2.1)) ((hI9.2.2.2.2.2.2.2.2.2.2.2.2.2.2.2.2.2.2.2.2.2.2.1)) ((hI9.2.2.2.2.2.2.2.2.2.2.2.2.2.2.2.2.2.2.2.2.2.2.2.1)) ((hI9.2.2.2.2.2.2.2.2.2.2.2.2.2.2.2.2.2.2.2.2.2.2.2.2.1)) hzF11 hzF12 hg7 hzF15 hzF19 hg8 hzF24 hzF25 hzF26 hzF33 hzF38 hzF41 hzF43 hzF45 hzF46 hzF50 hzF53 hzF54 hzLQ)
            have hpr104_0 : 0 ≤ (1 : Int32).toInt ∧ (1 : Int32).toInt ≤ 4 := by first | assumption | omega
            refine pw_b3 (fun r104 c104_g7 c104_g8 hc104 => ?_)
            have hq104 := wp_at (ok_wrong (upd (upd (upd (upd (upd (upd g 3 c43_g3) 4 c43_g4) 5 c43_g5) 6 c43_g6) 7 c43_g7) 8 c43_g8) (upF (upF (upF F 13 c43_F13) 20 c43_F20) 21 c43_F21) (1 : Int32) hMI104 hpr104_0) hc104
            obtain ⟨hg18, hg19, f20, f21⟩ : (((0) ≤ c104_g7.toInt ∧ c104_g7.toInt ≤ 4)) ∧ (((-1) ≤ c104_g8.toInt ∧ c104_g8.toInt ≤ 2001)) ∧ (r104.toInt = 0) ∧ ((0 ≤ r104.toInt ∧ r104.toInt ≤ 1)) := hq104
            have hx104 := pwq (fn_wrong (upd (upd (upd (upd (upd (upd g 3 c43_g3) 4 c43_g4) 5 c43_g5) 6 c43_g6) 7 c43_g7) 8 c43_g8) (upF (upF (upF F 13 c43_F13) 20 c43_F20) 21 c43_F21) (1 : Int32) hMI104 hpr104_0) hc104
            obtain ⟨p104_0, p104_1, p104_2⟩ : (r104.toInt = 0) ∧ (c104_g7.toInt = (1 : Int32).toInt) ∧ (c104_g8.toInt = c43_g5.toInt) := hx104
            refine pw_if (fun hb107 => ?_)
            obtain ⟨hbl107, hbr107⟩ := hb107
            have qq0 : (∀ q, q < 480 → WR c43_F20 c43_F21 q = WR (F 20) (F 21) q ∧ c43_F21 q = (F 21) q) ∧ (∀ q, q ≠ 6 → c43_F13 q = (F 13) q) := by exact p43_0
            have qq1 : (∀ q, q < 240 → WR (F 18) (F 19) q = WR (F 18) (F 19) q) ∧ (∀ q, q ≠ 6 → (F 12) q = (F 12) q) := by exact ⟨fun _ _ => rfl, fun _ _ => rfl⟩
            have qq2 : (∀ q, q < 960 → WR (F 14) (F 15) q = WR (F 14) (F 15) q) ∧ (∀ q, q < 240 → (F 16) q = (F 16) q ∧ (F 17) q = (F 17) q) ∧ (∀ q, q ≠ 6 → (F 11) q = (F 11) q) := by exact ⟨fun _ _ => rfl, (fun _ _ => ⟨rfl, rfl⟩), fun _ _ => rfl⟩
            have qq3 : OUTI (itmF f n e d) r104 c104_g7 c104_g8 (fun e1 d1 => TKS f n e1 c43_g3.toInt c43_g4.toInt c43_g5.toInt c43_g6.toInt ∧ (entR (c43_F13 6) c43_F20 c43_F21 480, prtR ((F 12) 6) (F 18) (F 19) 240, lwsR ((F 11) 6) (F 14) (F 15) (F 16) (F 17) 240) = d1 ∧ c104_g7.toInt = (g 7).toInt ∧ c104_g8.toInt = (g 8).toInt) := by refine ⟨fun _ => ⟨_, by rw [ho]; exact oB_e (fCl_bad (TKS_n3 hk1 (by omega))), ?_⟩, fun q => absurd q (by omega)⟩; exact err_of rfl (by omega) (by omega) (by omega)
            exact pw_some ⟨qq0, qq1, qq2, qq3⟩
      · have c35 := z_ne c35
        refine pw_j1 ej43 (fun t43_0 et43_0 => ?_)
        have et43_0 := et43_0.symm
        have f_t43_0 : t43_0.toInt = 0 := by rw [et43_0]; decide +kernel
        have hMI43 : id (MInv g F) := show MInv g F from (MInv_i ((hI9.1)) hzg2 hzg3 hzg4 hzg5 hzg6 hzg7 hzg8 hzg9 ((hI9.2.2.2.2.2.2.2.2.2.1)) ((hI9.2.2.2.2.2.2.2.2.2.2.1)) ((hI9.2.2.2.2.2.2.2.2.2.2.2.1)) ((hI9.2.2.2.2.2.2.2.2.2.2.2.2.1)) ((hI9.2.2.2.2.2.2.2.2.2.2.2.2.2.1)) ((hI9.2.2.2.2.2.2.2.2.2.2.2.2.2.2.1)) ((hI9.2.2.2.2.2.2.2.2.2.2.2.2.2.2.2.1)) ((hI9.2.2.2.2.2.2.2.2.2.2.2.2.2.2.2.2.1)) ((hI9.2.2.2.2.2.2.2.2.2.2.2.2.2.2.2.2.2.1)) ((hI9.2.2.2.2.2.2.2.2.2.2.2.2.2.2.2.2.2.2.1)) ((hI9.2.2.2.2.2.2.2.2.2.2.2.2.2.2.2.2.2.2.2.1)) ((hI9.2.2.2.2.2.2.2.2.2.2.2.2.2.2.2.2.2.2.2.2.1)) ((hI9.2.2.2.2.2.2.2.2.2.2.2.2.2.2.2.2.2.2.2.2.2.1)) ((hI9.2.2.2.2.2.2.2.2.2.2.2.2.2.2.2.2.2.2.2.2.2.2.1)) ((hI9.2.2.2.2.2.2.2.2.2.2.2.2.2.2.2.2.2.2.2.2.2.2.2.1)) ((hI9.2.2.2.2.2.2.2.2.2.2.2.2.2.2.2.2.2.2.2.2.2.2.2.2.1)) hzF11 hzF12 hzF13 hzF15 hzF19 hzF21 hzF24 hzF25 hzF26 hzF33 hzF38 hzF41 hzF43 hzF45 hzF46 hzF50 hzF53 hzF54 hzLQ)
        refine pw_b10 (fun r43 c43_g3 c43_g4 c43_g5 c43_g6 c43_g7 c43_g8 c43_F13 c43_F20 c43_F21 hc43 => ?_)
        have hq43 := wp_at (ok_readListed g F t43_0 hMI43) hc43
        obtain ⟨hg22, hg23, hg24, hg25, hg26, hg27, hg28, hg29, f30, f31⟩ : (((0) ≤ c43_g3.toInt ∧ c43_g3.toInt ≤ 4)) ∧ (((-1) ≤ c43_g4.toInt ∧ c43_g4.toInt ≤ 8)) ∧ (((0) ≤ c43_g5.toInt ∧ c43_g5.toInt ≤ 2001)) ∧ (((0) ≤ c43_g6.toInt ∧ c43_g6.toInt ≤ 2001)) ∧ (((0) ≤ c43_g7.toInt ∧ c43_g7.toInt ≤ 4)) ∧ (((-1) ≤ c43_g8.toInt ∧ c43_g8.toInt ≤ 2001)) ∧ (rng (0) 40 c43_F13) ∧ (rng (-1) 16 c43_F21) ∧ ((g 6).toInt ≤ c43_g6.toInt) ∧ ((0 ≤ r43.toInt ∧ r43.toInt ≤ 1)) := hq43
        have h843_hf : (F 0) = f := by first | assumption | omega
        have h843_hn : Int32.toNatClampNeg (g 2) = n := by first | assumption | omega
        have h843_he : Int32.toNatClampNeg (g 6) = (tE f n e) := by rcases (show (g 4).toInt = 0 ∨ (g 4).toInt = 1 by omega) with h9 | h9; (have h := (TKS_key (k := 0) htk (by omega) h9).2; have c9 := clampI (x := (g 6)) (by omega); omega); (have h := (TKS_key (k := 1) htk (by omega) h9).2; have c9 := clampI (x := (g 6)) (by omega); omega)
        have h843_hat : (g 5).toInt = ((tP f n e) : Int) := by omega
        have h843_hd : (entR ((F 13) 6) (F 20) (F 21) 480, prtR ((F 12) 6) (F 18) (F 19) 240, lwsR ((F 11) 6) (F 14) (F 15) (F 16) (F 17) 240) = d := by first | assumption | omega
        have h843_hwf : WFD d := by first | assumption | omega
        have h843_hfit : ∀ i, fits .byte (.int (f i)) = true := by first | assumption | omega
        have h843_hisL : (decide ((g 4).toInt ≠ 0)) = decide (t43_0.toInt ≠ 0) := by refine decide_eq_decide.mpr ?_; omega
        have hx43 := pwq (fn_readListed g F t43_0 (f) (n) (tP f n e) (tE f n e) (d) (decide ((g 4).toInt ≠ 0)) hMI43 h843_hf h843_hn h843_he h843_hat h843_hd h843_hwf h843_hfit h843_hisL) hc43
        obtain ⟨p43_0, p43_1⟩ : (id ((∀ q, q < 480 → WR c43_F20 c43_F21 q = WR (F 20) (F 21) q ∧ c43_F21 q = (F 21) q) ∧ (∀ q, q ≠ 6 → c43_F13 q = (F 13) q))) ∧ (OUTS (entF f n (tP f n e) (tE f n e) d (decide ((g 4).toInt ≠ 0))) r43 c43_g7 c43_g8 f n (fun e1 d1 => TKS f n e1 c43_g3.toInt c43_g4.toInt c43_g5.toInt c43_g6.toInt ∧ (entR (c43_F13 6) c43_F20 c43_F21 480, prtR ((F 12) 6) (F 18) (F 19) 240, lwsR ((F 11) 6) (F 14) (F 15) (F 16) (F 17) 240) = d1 ∧ c43_g7.toInt = (g 7).toInt ∧ c43_g8.toInt = (g 8).toInt)) := hx43
        have hou : OUTS (itmF f n e d) r43 c43_g7 c43_g8 f n (fun e1 d1 => TKS f n e1 c43_g3.toInt c43_g4.toInt c43_g5.toInt c43_g6.toInt ∧ (entR (c43_F13 6) c43_F20 c43_F21 480, prtR ((F 12) 6) (F 18) (F 19) 240, lwsR ((F 11) 6) (F 14) (F 15) (F 16) (F 17) 240) = d1 ∧ c43_g7.toInt = (g 7).toInt ∧ c43_g8.toInt = (g 8).toInt) := by rcases (show (g 4).toInt = 0 ∨ (g 4).toInt = 1 by omega) with h9 | h9; (rw [itm_0 (TKS_key (k := 0) htk (by omega) h9).1]; rw [decide_eq_false (show ¬ (g 4).toInt ≠ 0 from by omega)] at p43_1; exact p43_1); (rw [itm_1 (TKS_nkey htk (by omega) (by omega)) (TKS_key (k := 1) htk (by omega) h9).1]; rw [decide_eq_true (show (g 4).toInt ≠ 0 from by omega)] at p43_1; exact p43_1)
        refine pw_j18 ej88 (fun x88_1 ex88_1 z88_1 ez88_1 z88_2 ez88_2 z88_3 ez88_3 z88_4 ez88_4 z88_5 ez88_5 z88_6 ez88_6 z88_7 ez88_7 z88_8 ez88_8 z88_9 ez88_9 z88_10 ez88_10 z88_11 ez88_11 z88_12 ez88_12 z88_13 ez88_13 z88_14 ez88_14 z88_15 ez88_15 z88_16 ez88_16 z88_17 ez88_17 => ?_)
        subst ez88_1 ez88_2 ez88_3 ez88_4 ez88_5 ez88_6 ez88_7 ez88_8 ez88_9 ez88_10 ez88_11 ez88_12 ez88_13 ez88_14 ez88_15 ez88_16 ez88_17
        have ex88_1 := ex88_1.symm
        have f_x88_1 : x88_1.toInt = r43.toInt := by rw [ex88_1]
        refine pw_ite (fun c89 => ?_) (fun c89 => ?_)
        · have c89 := congrArg Int32.toInt c89
          have qq0 : (∀ q, q < 480 → WR c43_F20 c43_F21 q = WR (F 20) (F 21) q ∧ c43_F21 q = (F 21) q) ∧ (∀ q, q ≠ 6 → c43_F13 q = (F 13) q) := by exact p43_0
          have qq1 : (∀ q, q < 240 → WR (F 18) (F 19) q = WR (F 18) (F 19) q) ∧ (∀ q, q ≠ 6 → (F 12) q = (F 12) q) := by exact ⟨fun _ _ => rfl, fun _ _ => rfl⟩
          have qq2 : (∀ q, q < 960 → WR (F 14) (F 15) q = WR (F 14) (F 15) q) ∧ (∀ q, q < 240 → (F 16) q = (F 16) q ∧ (F 17) q = (F 17) q) ∧ (∀ q, q ≠ 6 → (F 11) q = (F 11) q) := by exact ⟨fun _ _ => rfl, (fun _ _ => ⟨rfl, rfl⟩), fun _ _ => rfl⟩
          have qq3 : OUTI (itmF f n e d) (0 : Int32) c43_g7 c43_g8 (fun e1 d1 => TKS f n e1 c43_g3.toInt c43_g4.toInt c43_g5.toInt c43_g6.toInt ∧ (entR (c43_F13 6) c43_F20 c43_F21 480, prtR ((F 12) 6) (F 18) (F 19) 240, lwsR ((F 11) 6) (F 14) (F 15) (F 16) (F 17) 240) = d1 ∧ c43_g7.toInt = (g 7).toInt ∧ c43_g8.toInt = (g 8).toInt) := by exact ⟨fun _ => hou.1 (by omega), fun q => absurd q (by omega)⟩
          exact pw_some ⟨qq0, qq1, qq2, qq3⟩
        · have c89 := z_ne c89
          obtain ⟨e1, d1, ho, hk1, hdd, hf7, hf8⟩ := hou.2 (by omega)
          have t2 := TKS_at hk1
          refine pw_ite (fun c99 => ?_) (fun c99 => ?_)
          · have c99 := congrArg Int32.toInt c99
            have hMI109 : id (MInv (upd (upd (upd (upd (upd (upd g 3 c43_g3) 4 c43_g4) 5 c43_g5) 6 c43_g6) 7 c43_g7) 8 c43_g8) (upF (upF (upF F 13 c43_F13) 20 c43_F20) 21 c43_F21)) := show MInv (upd (upd (upd (upd (upd (upd g 3 c43_g3) 4 c43_g4) 5 c43_g5) 6 c43_g6) 7 c43_g7) 8 c43_g8) (upF (upF (upF F 13 c43_F13) 20 c43_F20) 21 c43_F21) from (MInv_i ((hI9.1)) hzg2 hg22 hg23 hg24 hg25 hg26 hg27 hzg9 ((hI9.2.2.2.2.2.2.2.2.2.1)) ((hI9.2.2.2.2.2.2.2.2.2.2.1)) ((hI9.2.2.2.2.2.2.2.2.2.2.2.1)) ((hI9.2.2.2.2.2.2.2.2.2.2.2.2.1)) ((hI9.2.2.2.2.2.2.2.2.2.2.2.2.2.1)) ((hI9.2.2.2.2.2.2.2.2.2.2.2.2.2.2.1)) ((hI9.2.2.2.2.2.2.2.2.2.2.2.2.2.2.2.1)) ((hI9.2.2.2.2.2.2.2.2.2.2.2.2.2.2.2.2.1)) ((hI9.2.2.2.2.2.2.2.2.2.2.2.2.2.2.2.2.2.1)) ((hI9.2.2.2.2.2.2.2.2.2.2.2.2.2.2.2.2.2.2.1)) ((hI9.2.2.2.2.2.2.2.2.2.2.2.2.2.2.2.2.2.2.2.1)) ((hI9.2.2.2.2.2.2.2.2.2.2.2.2.2.2.2.2.2.2.2.2.1)) ((hI9.2.2.2.2.2.2.2.2.2.2.2.2.2.2.2.2.2.2.2.2.2.1)) ((hI9.2.2.2.2.2.2.2.2.2.2.2.2.2.2.2.2.2.2.2.2.2.2.1)) ((hI9.2.2.2.2.2.2.2.2.2.2.2.2.2.2.2.2.2.2.2.2.2.2.2.1)) ((hI9.2.2.2.2.2.2.2.2.2.2.2.2.2.2.2.2.2.2.2.2.2.2.2.2.1)) hzF11 hzF12 hg28 hzF15 hzF19 hg29 hzF24 hzF25 hzF26 hzF33 hzF38 hzF41 hzF43 hzF45 hzF46 hzF50 hzF53 hzF54 hzLQ)
            refine pw_b4 (fun c109_g3 c109_g4 c109_g5 c109_g6 hc109 => ?_)
            have hq109 := wp_at (ok_scan (upd (upd (upd (upd (upd (upd g 3 c43_g3) 4 c43_g4) 5 c43_g5) 6 c43_g6) 7 c43_g7) 8 c43_g8) (upF (upF (upF F 13 c43_F13) 20 c43_F20) 21 c43_F21) hMI109) hc109
            obtain ⟨hg32, hg33, hg34, hg35, f36, f37, f38⟩ : (((0) ≤ c109_g3.toInt ∧ c109_g3.toInt ≤ 4)) ∧ (((-1) ≤ c109_g4.toInt ∧ c109_g4.toInt ≤ 8)) ∧ (((0) ≤ c109_g5.toInt ∧ c109_g5.toInt ≤ 2001)) ∧ (((0) ≤ c109_g6.toInt ∧ c109_g6.toInt ≤ 2001)) ∧ (id ((c109_g3.toInt = 2 → c109_g5.toInt + 2 ≤ c109_g6.toInt ∧ c109_g6.toInt ≤ c109_g5.toInt + 18 ∧ c109_g6.toInt ≤ 2000))) ∧ (id ((c109_g3.toInt ≠ 4 → c43_g6.toInt < c109_g6.toInt))) ∧ (c43_g6.toInt ≤ c109_g6.toInt) := hq109
            have h8109_hf : (F 0) = f := by first | assumption | omega
            have h8109_hn : Int32.toNatClampNeg (g 2) = n := by first | assumption | omega
            have h8109_he : Int32.toNatClampNeg c43_g6 = (tE f n e1) := by have h := (TKS_3 hk1 (by omega)).2; have c9 := clampI (x := c43_g6) (by omega); omega
            have h8109_hfit : ∀ i, fits .byte (.int (f i)) = true := by first | assumption | omega
            have hx109 := pwq (fn_scan (upd (upd (upd (upd (upd (upd g 3 c43_g3) 4 c43_g4) 5 c43_g5) 6 c43_g6) 7 c43_g7) 8 c43_g8) (upF (upF (upF F 13 c43_F13) 20 c43_F20) 21 c43_F21) (f) (n) (tE f n e1) hMI109 h8109_hf h8109_hn h8109_he h8109_hfit) hc109
            have p109_0 : TKS f n (tE f n e1) c109_g3.toInt c109_g4.toInt c109_g5.toInt c109_g6.toInt := hx109
            clear hx109
            have qq0 : (∀ q, q < 480 → WR c43_F20 c43_F21 q = WR (F 20) (F 21) q ∧ c43_F21 q = (F 21) q) ∧ (∀ q, q ≠ 6 → c43_F13 q = (F 13) q) := by exact p43_0
            have qq1 : (∀ q, q < 240 → WR (F 18) (F 19) q = WR (F 18) (F 19) q) ∧ (∀ q, q ≠ 6 → (F 12) q = (F 12) q) := by exact ⟨fun _ _ => rfl, fun _ _ => rfl⟩
            have qq2 : (∀ q, q < 960 → WR (F 14) (F 15) q = WR (F 14) (F 15) q) ∧ (∀ q, q < 240 → (F 16) q = (F 16) q ∧ (F 17) q = (F 17) q) ∧ (∀ q, q ≠ 6 → (F 11) q = (F 11) q) := by exact ⟨fun _ _ => rfl, (fun _ _ => ⟨rfl, rfl⟩), fun _ _ => rfl⟩
            have qq3 : OUTI (itmF f n e d) (1 : Int32) c43_g7 c43_g8 (fun e1 d1 => TKS f n e1 c109_g3.toInt c109_g4.toInt c109_g5.toInt c109_g6.toInt ∧ (entR (c43_F13 6) c43_F20 c43_F21 480, prtR ((F 12) 6) (F 18) (F 19) 240, lwsR ((F 11) 6) (F 14) (F 15) (F 16) (F 17) 240) = d1 ∧ c43_g7.toInt = (g 7).toInt ∧ c43_g8.toInt = (g 8).toInt) := by exact ⟨fun q => absurd q (by omega), fun _ => ⟨_, _, by rw [ho]; exact oB_o (fCl_ok (TKS_3 hk1 (by omega)).1), p109_0, hdd, by omega, by omega⟩⟩
            exact pw_some ⟨qq0, qq1, qq2, qq3⟩
          · have c99 := z_ne c99
            have hMI104 : id (MInv (upd (upd (upd (upd (upd (upd g 3 c43_g3) 4 c43_g4) 5 c43_g5) 6 c43_g6) 7 c43_g7) 8 c43_g8) (upF (upF (upF F 13 c43_F13) 20 c43_F20) 21 c43_F21)) := show MInv (upd (upd (upd (upd (upd (upd g 3 c43_g3) 4 c43_g4) 5 c43_g5) 6 c43_g6) 7 c43_g7) 8 c43_g8) (upF (upF (upF F 13 c43_F13) 20 c43_F20) 21 c43_F21) from (MInv_i ((hI9.1)) hzg2 hg22 hg23 hg24 hg25 hg26 hg27 hzg9 ((hI9.2.2.2.2.2.2.2.2.2.1)) ((hI9.2.2.2.2.2.2.2.2.2.2.1)) ((hI9.2.2.2.2.2.2.2.2.2.2.2.1)) ((hI9.2.2.2.2.2.2.2.2.2.2.2.2.1)) ((hI9.2.2.2.2.2.2.2.2.2.2.2.2.2.1)) ((hI9.2.2.2.2.2.2.2.2.2.2.2.2.2.2.1)) ((hI9.2.2.2.2.2.2.2.2.2.2.2.2.2.2.2.1)) ((hI9.2.2.2.2.2.2.2.2.2.2.2.2.2.2.2.2.1)) ((hI9.2.2.2.2.2.2.2.2.2.2.2.2.2.2.2.2.2.1)) ((hI9.2.2.2.2.2.2.2.2.2.2.2.2.2.2.2.2.2.2.1)) ((hI9.2.2.2.2.2.2.2.2.2.2.2.2.2.2.2.2.2.2.2.1)) ((hI9.2.2.2.2.2.2.2.2.2.2.2.2.2.2.2.2.2.2.2.2.1)) ((hI9.2.2.2.2.2.2.2.2.2.2.2.2.2.2.2.2.2.2.2.2.2.1)) ((hI9.2.2.2.2.2.2.2.2.2.2.2.2.2.2.2.2.2.2.2.2.2.2.1)) ((hI9.2.2.2.2.2.2.2.2.2.2.2.2.2.2.2.2.2.2.2.2.2.2.2.1)) ((hI9.2.2.2.2.2.2.2.2.2.2.2.2.2.2.2.2.2.2.2.2.2.2.2.2.1)) hzF11 hzF12 hg28 hzF15 hzF19 hg29 hzF24 hzF25 hzF26 hzF33 hzF38 hzF41 hzF43 hzF45 hzF46 hzF50 hzF53 hzF54 hzLQ)
            have hpr104_0 : 0 ≤ (1 : Int32).toInt ∧ (1 : Int32).toInt ≤ 4 := by first | assumption | omega
            refine pw_b3 (fun r104 c104_g7 c104_g8 hc104 => ?_)
            have hq104 := wp_at (ok_wrong (upd (upd (upd (upd (upd (upd g 3 c43_g3) 4 c43_g4) 5 c43_g5) 6 c43_g6) 7 c43_g7) 8 c43_g8) (upF (upF (upF F 13 c43_F13) 20 c43_F20) 21 c43_F21) (1 : Int32) hMI104 hpr104_0) hc104
            obtain ⟨hg39, hg40, f41, f42⟩ : (((0) ≤ c104_g7.toInt ∧ c104_g7.toInt ≤ 4)) ∧ (((-1) ≤ c104_g8.toInt ∧ c104_g8.toInt ≤ 2001)) ∧ (r104.toInt = 0) ∧ ((0 ≤ r104.toInt ∧ r104.toInt ≤ 1)) := hq104
            have hx104 := pwq (fn_wrong (upd (upd (upd (upd (upd (upd g 3 c43_g3) 4 c43_g4) 5 c43_g5) 6 c43_g6) 7 c43_g7) 8 c43_g8) (upF (upF (upF F 13 c43_F13) 20 c43_F20) 21 c43_F21) (1 : Int32) hMI104 hpr104_0) hc104
            obtain ⟨p104_0, p104_1, p104_2⟩ : (r104.toInt = 0) ∧ (c104_g7.toInt = (1 : Int32).toInt) ∧ (c104_g8.toInt = c43_g5.toInt) := hx104
            refine pw_if (fun hb107 => ?_)
            obtain ⟨hbl107, hbr107⟩ := hb107
            have qq0 : (∀ q, q < 480 → WR c43_F20 c43_F21 q = WR (F 20) (F 21) q ∧ c43_F21 q = (F 21) q) ∧ (∀ q, q ≠ 6 → c43_F13 q = (F 13) q) := by exact p43_0
            have qq1 : (∀ q, q < 240 → WR (F 18) (F 19) q = WR (F 18) (F 19) q) ∧ (∀ q, q ≠ 6 → (F 12) q = (F 12) q) := by exact ⟨fun _ _ => rfl, fun _ _ => rfl⟩
            have qq2 : (∀ q, q < 960 → WR (F 14) (F 15) q = WR (F 14) (F 15) q) ∧ (∀ q, q < 240 → (F 16) q = (F 16) q ∧ (F 17) q = (F 17) q) ∧ (∀ q, q ≠ 6 → (F 11) q = (F 11) q) := by exact ⟨fun _ _ => rfl, (fun _ _ => ⟨rfl, rfl⟩), fun _ _ => rfl⟩
            have qq3 : OUTI (itmF f n e d) r104 c104_g7 c104_g8 (fun e1 d1 => TKS f n e1 c43_g3.toInt c43_g4.toInt c43_g5.toInt c43_g6.toInt ∧ (entR (c43_F13 6) c43_F20 c43_F21 480, prtR ((F 12) 6) (F 18) (F 19) 240, lwsR ((F 11) 6) (F 14) (F 15) (F 16) (F 17) 240) = d1 ∧ c104_g7.toInt = (g 7).toInt ∧ c104_g8.toInt = (g 8).toInt) := by refine ⟨fun _ => ⟨_, by rw [ho]; exact oB_e (fCl_bad (TKS_n3 hk1 (by omega))), ?_⟩, fun q => absurd q (by omega)⟩; exact err_of rfl (by omega) (by omega) (by omega)
            exact pw_some ⟨qq0, qq1, qq2, qq3⟩
    · have c18 := z_ne c18
      refine pw_ite (fun c26 => ?_) (fun c26 => ?_)
      · have c26 := congrArg Int32.toInt c26
        refine pw_j0 ej29 ?_
        refine pw_jE (fun j43 ej43 => ?_)
        refine pw_ite (fun c35 => ?_) (fun c35 => ?_)
        · have c35 := congrArg Int32.toInt c35
          refine pw_j1 ej43 (fun t43_0 et43_0 => ?_)
          have et43_0 := et43_0.symm
          have f_t43_0 : t43_0.toInt = 1 := by rw [et43_0]; decide +kernel
          have hMI43 : id (MInv g F) := show MInv g F from (MInv_i ((hI9.1)) hzg2 hzg3 hzg4 hzg5 hzg6 hzg7 hzg8 hzg9 ((hI9.2.2.2.2.2.2.2.2.2.1)) ((hI9.2.2.2.2.2.2.2.2.2.2.1)) ((hI9.2.2.2.2.2.2.2.2.2.2.2.1)) ((hI9.2.2.2.2.2.2.2.2.2.2.2.2.1)) ((hI9.2.2.2.2.2.2.2.2.2.2.2.2.2.1)) ((hI9.2.2.2.2.2.2.2.2.2.2.2.2.2.2.1)) ((hI9.2.2.2.2.2.2.2.2.2.2.2.2.2.2.2.1)) ((hI9.2.2.2.2.2.2.2.2.2.2.2.2.2.2.2.2.1)) ((hI9.2.2.2.2.2.2.2.2.2.2.2.2.2.2.2.2.2.1)) ((hI9.2.2.2.2.2.2.2.2.2.2.2.2.2.2.2.2.2.2.1)) ((hI9.2.2.2.2.2.2.2.2.2.2.2.2.2.2.2.2.2.2.2.1)) ((hI9.2.2.2.2.2.2.2.2.2.2.2.2.2.2.2.2.2.2.2.2.1)) ((hI9.2.2.2.2.2.2.2.2.2.2.2.2.2.2.2.2.2.2.2.2.2.1)) ((hI9.2.2.2.2.2.2.2.2.2.2.2.2.2.2.2.2.2.2.2.2.2.2.1)) ((hI9.2.2.2.2.2.2.2.2.2.2.2.2.2.2.2.2.2.2.2.2.2.2.2.1)) ((hI9.2.2.2.2.2.2.2.2.2.2.2.2.2.2.2.2.2.2.2.2.2.2.2.2.1)) hzF11 hzF12 hzF13 hzF15 hzF19 hzF21 hzF24 hzF25 hzF26 hzF33 hzF38 hzF41 hzF43 hzF45 hzF46 hzF50 hzF53 hzF54 hzLQ)
          refine pw_b10 (fun r43 c43_g3 c43_g4 c43_g5 c43_g6 c43_g7 c43_g8 c43_F13 c43_F20 c43_F21 hc43 => ?_)
          have hq43 := wp_at (ok_readListed g F t43_0 hMI43) hc43
          obtain ⟨hg43, hg44, hg45, hg46, hg47, hg48, hg49, hg50, f51, f52⟩ : (((0) ≤ c43_g3.toInt ∧ c43_g3.toInt ≤ 4)) ∧ (((-1) ≤ c43_g4.toInt ∧ c43_g4.toInt ≤ 8)) ∧ (((0) ≤ c43_g5.toInt ∧ c43_g5.toInt ≤ 2001)) ∧ (((0) ≤ c43_g6.toInt ∧ c43_g6.toInt ≤ 2001)) ∧ (((0) ≤ c43_g7.toInt ∧ c43_g7.toInt ≤ 4)) ∧ (((-1) ≤ c43_g8.toInt ∧ c43_g8.toInt ≤ 2001)) ∧ (rng (0) 40 c43_F13) ∧ (rng (-1) 16 c43_F21) ∧ ((g 6).toInt ≤ c43_g6.toInt) ∧ ((0 ≤ r43.toInt ∧ r43.toInt ≤ 1)) := hq43
          have h843_hf : (F 0) = f := by first | assumption | omega
          have h843_hn : Int32.toNatClampNeg (g 2) = n := by first | assumption | omega
          have h843_he : Int32.toNatClampNeg (g 6) = (tE f n e) := by rcases (show (g 4).toInt = 0 ∨ (g 4).toInt = 1 by omega) with h9 | h9; (have h := (TKS_key (k := 0) htk (by omega) h9).2; have c9 := clampI (x := (g 6)) (by omega); omega); (have h := (TKS_key (k := 1) htk (by omega) h9).2; have c9 := clampI (x := (g 6)) (by omega); omega)
          have h843_hat : (g 5).toInt = ((tP f n e) : Int) := by omega
          have h843_hd : (entR ((F 13) 6) (F 20) (F 21) 480, prtR ((F 12) 6) (F 18) (F 19) 240, lwsR ((F 11) 6) (F 14) (F 15) (F 16) (F 17) 240) = d := by first | assumption | omega
          have h843_hwf : WFD d := by first | assumption | omega
          have h843_hfit : ∀ i, fits .byte (.int (f i)) = true := by first | assumption | omega
          have h843_hisL : (decide ((g 4).toInt ≠ 0)) = decide (t43_0.toInt ≠ 0) := by refine decide_eq_decide.mpr ?_; omega
          have hx43 := pwq (fn_readListed g F t43_0 (f) (n) (tP f n e) (tE f n e) (d) (decide ((g 4).toInt ≠ 0)) hMI43 h843_hf h843_hn h843_he h843_hat h843_hd h843_hwf h843_hfit h843_hisL) hc43
          obtain ⟨p43_0, p43_1⟩ : (id ((∀ q, q < 480 → WR c43_F20 c43_F21 q = WR (F 20) (F 21) q ∧ c43_F21 q = (F 21) q) ∧ (∀ q, q ≠ 6 → c43_F13 q = (F 13) q))) ∧ (OUTS (entF f n (tP f n e) (tE f n e) d (decide ((g 4).toInt ≠ 0))) r43 c43_g7 c43_g8 f n (fun e1 d1 => TKS f n e1 c43_g3.toInt c43_g4.toInt c43_g5.toInt c43_g6.toInt ∧ (entR (c43_F13 6) c43_F20 c43_F21 480, prtR ((F 12) 6) (F 18) (F 19) 240, lwsR ((F 11) 6) (F 14) (F 15) (F 16) (F 17) 240) = d1 ∧ c43_g7.toInt = (g 7).toInt ∧ c43_g8.toInt = (g 8).toInt)) := hx43
          have hou : OUTS (itmF f n e d) r43 c43_g7 c43_g8 f n (fun e1 d1 => TKS f n e1 c43_g3.toInt c43_g4.toInt c43_g5.toInt c43_g6.toInt ∧ (entR (c43_F13 6) c43_F20 c43_F21 480, prtR ((F 12) 6) (F 18) (F 19) 240, lwsR ((F 11) 6) (F 14) (F 15) (F 16) (F 17) 240) = d1 ∧ c43_g7.toInt = (g 7).toInt ∧ c43_g8.toInt = (g 8).toInt) := by rcases (show (g 4).toInt = 0 ∨ (g 4).toInt = 1 by omega) with h9 | h9; (rw [itm_0 (TKS_key (k := 0) htk (by omega) h9).1]; rw [decide_eq_false (show ¬ (g 4).toInt ≠ 0 from by omega)] at p43_1; exact p43_1); (rw [itm_1 (TKS_nkey htk (by omega) (by omega)) (TKS_key (k := 1) htk (by omega) h9).1]; rw [decide_eq_true (show (g 4).toInt ≠ 0 from by omega)] at p43_1; exact p43_1)
          refine pw_j18 ej88 (fun x88_1 ex88_1 z88_1 ez88_1 z88_2 ez88_2 z88_3 ez88_3 z88_4 ez88_4 z88_5 ez88_5 z88_6 ez88_6 z88_7 ez88_7 z88_8 ez88_8 z88_9 ez88_9 z88_10 ez88_10 z88_11 ez88_11 z88_12 ez88_12 z88_13 ez88_13 z88_14 ez88_14 z88_15 ez88_15 z88_16 ez88_16 z88_17 ez88_17 => ?_)
          subst ez88_1 ez88_2 ez88_3 ez88_4 ez88_5 ez88_6 ez88_7 ez88_8 ez88_9 ez88_10 ez88_11 ez88_12 ez88_13 ez88_14 ez88_15 ez88_16 ez88_17
          have ex88_1 := ex88_1.symm
          have f_x88_1 : x88_1.toInt = r43.toInt := by rw [ex88_1]
          refine pw_ite (fun c89 => ?_) (fun c89 => ?_)
          · have c89 := congrArg Int32.toInt c89
            have qq0 : (∀ q, q < 480 → WR c43_F20 c43_F21 q = WR (F 20) (F 21) q ∧ c43_F21 q = (F 21) q) ∧ (∀ q, q ≠ 6 → c43_F13 q = (F 13) q) := by exact p43_0
            have qq1 : (∀ q, q < 240 → WR (F 18) (F 19) q = WR (F 18) (F 19) q) ∧ (∀ q, q ≠ 6 → (F 12) q = (F 12) q) := by exact ⟨fun _ _ => rfl, fun _ _ => rfl⟩
            have qq2 : (∀ q, q < 960 → WR (F 14) (F 15) q = WR (F 14) (F 15) q) ∧ (∀ q, q < 240 → (F 16) q = (F 16) q ∧ (F 17) q = (F 17) q) ∧ (∀ q, q ≠ 6 → (F 11) q = (F 11) q) := by exact ⟨fun _ _ => rfl, (fun _ _ => ⟨rfl, rfl⟩), fun _ _ => rfl⟩
            have qq3 : OUTI (itmF f n e d) (0 : Int32) c43_g7 c43_g8 (fun e1 d1 => TKS f n e1 c43_g3.toInt c43_g4.toInt c43_g5.toInt c43_g6.toInt ∧ (entR (c43_F13 6) c43_F20 c43_F21 480, prtR ((F 12) 6) (F 18) (F 19) 240, lwsR ((F 11) 6) (F 14) (F 15) (F 16) (F 17) 240) = d1 ∧ c43_g7.toInt = (g 7).toInt ∧ c43_g8.toInt = (g 8).toInt) := by exact ⟨fun _ => hou.1 (by omega), fun q => absurd q (by omega)⟩
            exact pw_some ⟨qq0, qq1, qq2, qq3⟩
          · have c89 := z_ne c89
            obtain ⟨e1, d1, ho, hk1, hdd, hf7, hf8⟩ := hou.2 (by omega)
            have t2 := TKS_at hk1
            refine pw_ite (fun c99 => ?_) (fun c99 => ?_)
            · have c99 := congrArg Int32.toInt c99
              have hMI109 : id (MInv (upd (upd (upd (upd (upd (upd g 3 c43_g3) 4 c43_g4) 5 c43_g5) 6 c43_g6) 7 c43_g7) 8 c43_g8) (upF (upF (upF F 13 c43_F13) 20 c43_F20) 21 c43_F21)) := show MInv (upd (upd (upd (upd (upd (upd g 3 c43_g3) 4 c43_g4) 5 c43_g5) 6 c43_g6) 7 c43_g7) 8 c43_g8) (upF (upF (upF F 13 c43_F13) 20 c43_F20) 21 c43_F21) from (MInv_i ((hI9.1)) hzg2 hg43 hg44 hg45 hg46 hg47 hg48 hzg9 ((hI9.2.2.2.2.2.2.2.2.2.1)) ((hI9.2.2.2.2.2.2.2.2.2.2.1)) ((hI9.2.2.2.2.2.2.2.2.2.2.2.1)) ((hI9.2.2.2.2.2.2.2.2.2.2.2.2.1)) ((hI9.2.2.2.2.2.2.2.2.2.2.2.2.2.1)) ((hI9.2.2.2.2.2.2.2.2.2.2.2.2.2.2.1)) ((hI9.2.2.2.2.2.2.2.2.2.2.2.2.2.2.2.1)) ((hI9.2.2.2.2.2.2.2.2.2.2.2.2.2.2.2.2.1)) ((hI9.2.2.2.2.2.2.2.2.2.2.2.2.2.2.2.2.2.1)) ((hI9.2.2.2.2.2.2.2.2.2.2.2.2.2.2.2.2.2.2.1)) ((hI9.2.2.2.2.2.2.2.2.2.2.2.2.2.2.2.2.2.2.2.1)) ((hI9.2.2.2.2.2.2.2.2.2.2.2.2.2.2.2.2.2.2.2.2.1)) ((hI9.2.2.2.2.2.2.2.2.2.2.2.2.2.2.2.2.2.2.2.2.2.1)) ((hI9.2.2.2.2.2.2.2.2.2.2.2.2.2.2.2.2.2.2.2.2.2.2.1)) ((hI9.2.2.2.2.2.2.2.2.2.2.2.2.2.2.2.2.2.2.2.2.2.2.2.1)) ((hI9.2.2.2.2.2.2.2.2.2.2.2.2.2.2.2.2.2.2.2.2.2.2.2.2.1)) hzF11 hzF12 hg49 hzF15 hzF19 hg50 hzF24 hzF25 hzF26 hzF33 hzF38 hzF41 hzF43 hzF45 hzF46 hzF50 hzF53 hzF54 hzLQ)
              refine pw_b4 (fun c109_g3 c109_g4 c109_g5 c109_g6 hc109 => ?_)
              have hq109 := wp_at (ok_scan (upd (upd (upd (upd (upd (upd g 3 c43_g3) 4 c43_g4) 5 c43_g5) 6 c43_g6) 7 c43_g7) 8 c43_g8) (upF (upF (upF F 13 c43_F13) 20 c43_F20) 21 c43_F21) hMI109) hc109
              obtain ⟨hg53, hg54, hg55, hg56, f57, f58, f59⟩ : (((0) ≤ c109_g3.toInt ∧ c109_g3.toInt ≤ 4)) ∧ (((-1) ≤ c109_g4.toInt ∧ c109_g4.toInt ≤ 8)) ∧ (((0) ≤ c109_g5.toInt ∧ c109_g5.toInt ≤ 2001)) ∧ (((0) ≤ c109_g6.toInt ∧ c109_g6.toInt ≤ 2001)) ∧ (id ((c109_g3.toInt = 2 → c109_g5.toInt + 2 ≤ c109_g6.toInt ∧ c109_g6.toInt ≤ c109_g5.toInt + 18 ∧ c109_g6.toInt ≤ 2000))) ∧ (id ((c109_g3.toInt ≠ 4 → c43_g6.toInt < c109_g6.toInt))) ∧ (c43_g6.toInt ≤ c109_g6.toInt) := hq109
              have h8109_hf : (F 0) = f := by first | assumption | omega
              have h8109_hn : Int32.toNatClampNeg (g 2) = n := by first | assumption | omega
              have h8109_he : Int32.toNatClampNeg c43_g6 = (tE f n e1) := by have h := (TKS_3 hk1 (by omega)).2; have c9 := clampI (x := c43_g6) (by omega); omega
              have h8109_hfit : ∀ i, fits .byte (.int (f i)) = true := by first | assumption | omega
              have hx109 := pwq (fn_scan (upd (upd (upd (upd (upd (upd g 3 c43_g3) 4 c43_g4) 5 c43_g5) 6 c43_g6) 7 c43_g7) 8 c43_g8) (upF (upF (upF F 13 c43_F13) 20 c43_F20) 21 c43_F21) (f) (n) (tE f n e1) hMI109 h8109_hf h8109_hn h8109_he h8109_hfit) hc109
              have p109_0 : TKS f n (tE f n e1) c109_g3.toInt c109_g4.toInt c109_g5.toInt c109_g6.toInt := hx109
              clear hx109
              have qq0 : (∀ q, q < 480 → WR c43_F20 c43_F21 q = WR (F 20) (F 21) q ∧ c43_F21 q = (F 21) q) ∧ (∀ q, q ≠ 6 → c43_F13 q = (F 13) q) := by exact p43_0
              have qq1 : (∀ q, q < 240 → WR (F 18) (F 19) q = WR (F 18) (F 19) q) ∧ (∀ q, q ≠ 6 → (F 12) q = (F 12) q) := by exact ⟨fun _ _ => rfl, fun _ _ => rfl⟩
              have qq2 : (∀ q, q < 960 → WR (F 14) (F 15) q = WR (F 14) (F 15) q) ∧ (∀ q, q < 240 → (F 16) q = (F 16) q ∧ (F 17) q = (F 17) q) ∧ (∀ q, q ≠ 6 → (F 11) q = (F 11) q) := by exact ⟨fun _ _ => rfl, (fun _ _ => ⟨rfl, rfl⟩), fun _ _ => rfl⟩
              have qq3 : OUTI (itmF f n e d) (1 : Int32) c43_g7 c43_g8 (fun e1 d1 => TKS f n e1 c109_g3.toInt c109_g4.toInt c109_g5.toInt c109_g6.toInt ∧ (entR (c43_F13 6) c43_F20 c43_F21 480, prtR ((F 12) 6) (F 18) (F 19) 240, lwsR ((F 11) 6) (F 14) (F 15) (F 16) (F 17) 240) = d1 ∧ c43_g7.toInt = (g 7).toInt ∧ c43_g8.toInt = (g 8).toInt) := by exact ⟨fun q => absurd q (by omega), fun _ => ⟨_, _, by rw [ho]; exact oB_o (fCl_ok (TKS_3 hk1 (by omega)).1), p109_0, hdd, by omega, by omega⟩⟩
              exact pw_some ⟨qq0, qq1, qq2, qq3⟩
            · have c99 := z_ne c99
              have hMI104 : id (MInv (upd (upd (upd (upd (upd (upd g 3 c43_g3) 4 c43_g4) 5 c43_g5) 6 c43_g6) 7 c43_g7) 8 c43_g8) (upF (upF (upF F 13 c43_F13) 20 c43_F20) 21 c43_F21)) := show MInv (upd (upd (upd (upd (upd (upd g 3 c43_g3) 4 c43_g4) 5 c43_g5) 6 c43_g6) 7 c43_g7) 8 c43_g8) (upF (upF (upF F 13 c43_F13) 20 c43_F20) 21 c43_F21) from (MInv_i ((hI9.1)) hzg2 hg43 hg44 hg45 hg46 hg47 hg48 hzg9 ((hI9.2.2.2.2.2.2.2.2.2.1)) ((hI9.2.2.2.2.2.2.2.2.2.2.1)) ((hI9.2.2.2.2.2.2.2.2.2.2.2.1)) ((hI9.2.2.2.2.2.2.2.2.2.2.2.2.1)) ((hI9.2.2.2.2.2.2.2.2.2.2.2.2.2.1)) ((hI9.2.2.2.2.2.2.2.2.2.2.2.2.2.2.1)) ((hI9.2.2.2.2.2.2.2.2.2.2.2.2.2.2.2.1)) ((hI9.2.2.2.2.2.2.2.2.2.2.2.2.2.2.2.2.1)) ((hI9.2.2.2.2.2.2.2.2.2.2.2.2.2.2.2.2.2.1)) ((hI9.2.2.2.2.2.2.2.2.2.2.2.2.2.2.2.2.2.2.1)) ((hI9.2.2.2.2.2.2.2.2.2.2.2.2.2.2.2.2.2.2.2.1)) ((hI9.2.2.2.2.2.2.2.2.2.2.2.2.2.2.2.2.2.2.2.2.1)) ((hI9.2.2.2.2.2.2.2.2.2.2.2.2.2.2.2.2.2.2.2.2.2.1)) ((hI9.2.2.2.2.2.2.2.2.2.2.2.2.2.2.2.2.2.2.2.2.2.2.1)) ((hI9.2.2.2.2.2.2.2.2.2.2.2.2.2.2.2.2.2.2.2.2.2.2.2.1)) ((hI9.2.2.2.2.2.2.2.2.2.2.2.2.2.2.2.2.2.2.2.2.2.2.2.2.1)) hzF11 hzF12 hg49 hzF15 hzF19 hg50 hzF24 hzF25 hzF26 hzF33 hzF38 hzF41 hzF43 hzF45 hzF46 hzF50 hzF53 hzF54 hzLQ)
              have hpr104_0 : 0 ≤ (1 : Int32).toInt ∧ (1 : Int32).toInt ≤ 4 := by first | assumption | omega
              refine pw_b3 (fun r104 c104_g7 c104_g8 hc104 => ?_)
              have hq104 := wp_at (ok_wrong (upd (upd (upd (upd (upd (upd g 3 c43_g3) 4 c43_g4) 5 c43_g5) 6 c43_g6) 7 c43_g7) 8 c43_g8) (upF (upF (upF F 13 c43_F13) 20 c43_F20) 21 c43_F21) (1 : Int32) hMI104 hpr104_0) hc104
              obtain ⟨hg60, hg61, f62, f63⟩ : (((0) ≤ c104_g7.toInt ∧ c104_g7.toInt ≤ 4)) ∧ (((-1) ≤ c104_g8.toInt ∧ c104_g8.toInt ≤ 2001)) ∧ (r104.toInt = 0) ∧ ((0 ≤ r104.toInt ∧ r104.toInt ≤ 1)) := hq104
              have hx104 := pwq (fn_wrong (upd (upd (upd (upd (upd (upd g 3 c43_g3) 4 c43_g4) 5 c43_g5) 6 c43_g6) 7 c43_g7) 8 c43_g8) (upF (upF (upF F 13 c43_F13) 20 c43_F20) 21 c43_F21) (1 : Int32) hMI104 hpr104_0) hc104
              obtain ⟨p104_0, p104_1, p104_2⟩ : (r104.toInt = 0) ∧ (c104_g7.toInt = (1 : Int32).toInt) ∧ (c104_g8.toInt = c43_g5.toInt) := hx104
              refine pw_if (fun hb107 => ?_)
              obtain ⟨hbl107, hbr107⟩ := hb107
              have qq0 : (∀ q, q < 480 → WR c43_F20 c43_F21 q = WR (F 20) (F 21) q ∧ c43_F21 q = (F 21) q) ∧ (∀ q, q ≠ 6 → c43_F13 q = (F 13) q) := by exact p43_0
              have qq1 : (∀ q, q < 240 → WR (F 18) (F 19) q = WR (F 18) (F 19) q) ∧ (∀ q, q ≠ 6 → (F 12) q = (F 12) q) := by exact ⟨fun _ _ => rfl, fun _ _ => rfl⟩
              have qq2 : (∀ q, q < 960 → WR (F 14) (F 15) q = WR (F 14) (F 15) q) ∧ (∀ q, q < 240 → (F 16) q = (F 16) q ∧ (F 17) q = (F 17) q) ∧ (∀ q, q ≠ 6 → (F 11) q = (F 11) q) := by exact ⟨fun _ _ => rfl, (fun _ _ => ⟨rfl, rfl⟩), fun _ _ => rfl⟩
              have qq3 : OUTI (itmF f n e d) r104 c104_g7 c104_g8 (fun e1 d1 => TKS f n e1 c43_g3.toInt c43_g4.toInt c43_g5.toInt c43_g6.toInt ∧ (entR (c43_F13 6) c43_F20 c43_F21 480, prtR ((F 12) 6) (F 18) (F 19) 240, lwsR ((F 11) 6) (F 14) (F 15) (F 16) (F 17) 240) = d1 ∧ c104_g7.toInt = (g 7).toInt ∧ c104_g8.toInt = (g 8).toInt) := by refine ⟨fun _ => ⟨_, by rw [ho]; exact oB_e (fCl_bad (TKS_n3 hk1 (by omega))), ?_⟩, fun q => absurd q (by omega)⟩; exact err_of rfl (by omega) (by omega) (by omega)
              exact pw_some ⟨qq0, qq1, qq2, qq3⟩
        · have c35 := z_ne c35
          refine pw_j1 ej43 (fun t43_0 et43_0 => ?_)
          have et43_0 := et43_0.symm
          have f_t43_0 : t43_0.toInt = 0 := by rw [et43_0]; decide +kernel
          have hMI43 : id (MInv g F) := show MInv g F from (MInv_i ((hI9.1)) hzg2 hzg3 hzg4 hzg5 hzg6 hzg7 hzg8 hzg9 ((hI9.2.2.2.2.2.2.2.2.2.1)) ((hI9.2.2.2.2.2.2.2.2.2.2.1)) ((hI9.2.2.2.2.2.2.2.2.2.2.2.1)) ((hI9.2.2.2.2.2.2.2.2.2.2.2.2.1)) ((hI9.2.2.2.2.2.2.2.2.2.2.2.2.2.1)) ((hI9.2.2.2.2.2.2.2.2.2.2.2.2.2.2.1)) ((hI9.2.2.2.2.2.2.2.2.2.2.2.2.2.2.2.1)) ((hI9.2.2.2.2.2.2.2.2.2.2.2.2.2.2.2.2.1)) ((hI9.2.2.2.2.2.2.2.2.2.2.2.2.2.2.2.2.2.1)) ((hI9.2.2.2.2.2.2.2.2.2.2.2.2.2.2.2.2.2.2.1)) ((hI9.2.2.2.2.2.2.2.2.2.2.2.2.2.2.2.2.2.2.2.1)) ((hI9.2.2.2.2.2.2.2.2.2.2.2.2.2.2.2.2.2.2.2.2.1)) ((hI9.2.2.2.2.2.2.2.2.2.2.2.2.2.2.2.2.2.2.2.2.2.1)) ((hI9.2.2.2.2.2.2.2.2.2.2.2.2.2.2.2.2.2.2.2.2.2.2.1)) ((hI9.2.2.2.2.2.2.2.2.2.2.2.2.2.2.2.2.2.2.2.2.2.2.2.1)) ((hI9.2.2.2.2.2.2.2.2.2.2.2.2.2.2.2.2.2.2.2.2.2.2.2.2.1)) hzF11 hzF12 hzF13 hzF15 hzF19 hzF21 hzF24 hzF25 hzF26 hzF33 hzF38 hzF41 hzF43 hzF45 hzF46 hzF50 hzF53 hzF54 hzLQ)
          refine pw_b10 (fun r43 c43_g3 c43_g4 c43_g5 c43_g6 c43_g7 c43_g8 c43_F13 c43_F20 c43_F21 hc43 => ?_)
          have hq43 := wp_at (ok_readListed g F t43_0 hMI43) hc43
          obtain ⟨hg64, hg65, hg66, hg67, hg68, hg69, hg70, hg71, f72, f73⟩ : (((0) ≤ c43_g3.toInt ∧ c43_g3.toInt ≤ 4)) ∧ (((-1) ≤ c43_g4.toInt ∧ c43_g4.toInt ≤ 8)) ∧ (((0) ≤ c43_g5.toInt ∧ c43_g5.toInt ≤ 2001)) ∧ (((0) ≤ c43_g6.toInt ∧ c43_g6.toInt ≤ 2001)) ∧ (((0) ≤ c43_g7.toInt ∧ c43_g7.toInt ≤ 4)) ∧ (((-1) ≤ c43_g8.toInt ∧ c43_g8.toInt ≤ 2001)) ∧ (rng (0) 40 c43_F13) ∧ (rng (-1) 16 c43_F21) ∧ ((g 6).toInt ≤ c43_g6.toInt) ∧ ((0 ≤ r43.toInt ∧ r43.toInt ≤ 1)) := hq43
          have h843_hf : (F 0) = f := by first | assumption | omega
          have h843_hn : Int32.toNatClampNeg (g 2) = n := by first | assumption | omega
          have h843_he : Int32.toNatClampNeg (g 6) = (tE f n e) := by rcases (show (g 4).toInt = 0 ∨ (g 4).toInt = 1 by omega) with h9 | h9; (have h := (TKS_key (k := 0) htk (by omega) h9).2; have c9 := clampI (x := (g 6)) (by omega); omega); (have h := (TKS_key (k := 1) htk (by omega) h9).2; have c9 := clampI (x := (g 6)) (by omega); omega)
          have h843_hat : (g 5).toInt = ((tP f n e) : Int) := by omega
          have h843_hd : (entR ((F 13) 6) (F 20) (F 21) 480, prtR ((F 12) 6) (F 18) (F 19) 240, lwsR ((F 11) 6) (F 14) (F 15) (F 16) (F 17) 240) = d := by first | assumption | omega
          have h843_hwf : WFD d := by first | assumption | omega
          have h843_hfit : ∀ i, fits .byte (.int (f i)) = true := by first | assumption | omega
          have h843_hisL : (decide ((g 4).toInt ≠ 0)) = decide (t43_0.toInt ≠ 0) := by refine decide_eq_decide.mpr ?_; omega
          have hx43 := pwq (fn_readListed g F t43_0 (f) (n) (tP f n e) (tE f n e) (d) (decide ((g 4).toInt ≠ 0)) hMI43 h843_hf h843_hn h843_he h843_hat h843_hd h843_hwf h843_hfit h843_hisL) hc43
          obtain ⟨p43_0, p43_1⟩ : (id ((∀ q, q < 480 → WR c43_F20 c43_F21 q = WR (F 20) (F 21) q ∧ c43_F21 q = (F 21) q) ∧ (∀ q, q ≠ 6 → c43_F13 q = (F 13) q))) ∧ (OUTS (entF f n (tP f n e) (tE f n e) d (decide ((g 4).toInt ≠ 0))) r43 c43_g7 c43_g8 f n (fun e1 d1 => TKS f n e1 c43_g3.toInt c43_g4.toInt c43_g5.toInt c43_g6.toInt ∧ (entR (c43_F13 6) c43_F20 c43_F21 480, prtR ((F 12) 6) (F 18) (F 19) 240, lwsR ((F 11) 6) (F 14) (F 15) (F 16) (F 17) 240) = d1 ∧ c43_g7.toInt = (g 7).toInt ∧ c43_g8.toInt = (g 8).toInt)) := hx43
          have hou : OUTS (itmF f n e d) r43 c43_g7 c43_g8 f n (fun e1 d1 => TKS f n e1 c43_g3.toInt c43_g4.toInt c43_g5.toInt c43_g6.toInt ∧ (entR (c43_F13 6) c43_F20 c43_F21 480, prtR ((F 12) 6) (F 18) (F 19) 240, lwsR ((F 11) 6) (F 14) (F 15) (F 16) (F 17) 240) = d1 ∧ c43_g7.toInt = (g 7).toInt ∧ c43_g8.toInt = (g 8).toInt) := by rcases (show (g 4).toInt = 0 ∨ (g 4).toInt = 1 by omega) with h9 | h9; (rw [itm_0 (TKS_key (k := 0) htk (by omega) h9).1]; rw [decide_eq_false (show ¬ (g 4).toInt ≠ 0 from by omega)] at p43_1; exact p43_1); (rw [itm_1 (TKS_nkey htk (by omega) (by omega)) (TKS_key (k := 1) htk (by omega) h9).1]; rw [decide_eq_true (show (g 4).toInt ≠ 0 from by omega)] at p43_1; exact p43_1)
          refine pw_j18 ej88 (fun x88_1 ex88_1 z88_1 ez88_1 z88_2 ez88_2 z88_3 ez88_3 z88_4 ez88_4 z88_5 ez88_5 z88_6 ez88_6 z88_7 ez88_7 z88_8 ez88_8 z88_9 ez88_9 z88_10 ez88_10 z88_11 ez88_11 z88_12 ez88_12 z88_13 ez88_13 z88_14 ez88_14 z88_15 ez88_15 z88_16 ez88_16 z88_17 ez88_17 => ?_)
          subst ez88_1 ez88_2 ez88_3 ez88_4 ez88_5 ez88_6 ez88_7 ez88_8 ez88_9 ez88_10 ez88_11 ez88_12 ez88_13 ez88_14 ez88_15 ez88_16 ez88_17
          have ex88_1 := ex88_1.symm
          have f_x88_1 : x88_1.toInt = r43.toInt := by rw [ex88_1]
          refine pw_ite (fun c89 => ?_) (fun c89 => ?_)
          · have c89 := congrArg Int32.toInt c89
            have qq0 : (∀ q, q < 480 → WR c43_F20 c43_F21 q = WR (F 20) (F 21) q ∧ c43_F21 q = (F 21) q) ∧ (∀ q, q ≠ 6 → c43_F13 q = (F 13) q) := by exact p43_0
            have qq1 : (∀ q, q < 240 → WR (F 18) (F 19) q = WR (F 18) (F 19) q) ∧ (∀ q, q ≠ 6 → (F 12) q = (F 12) q) := by exact ⟨fun _ _ => rfl, fun _ _ => rfl⟩
            have qq2 : (∀ q, q < 960 → WR (F 14) (F 15) q = WR (F 14) (F 15) q) ∧ (∀ q, q < 240 → (F 16) q = (F 16) q ∧ (F 17) q = (F 17) q) ∧ (∀ q, q ≠ 6 → (F 11) q = (F 11) q) := by exact ⟨fun _ _ => rfl, (fun _ _ => ⟨rfl, rfl⟩), fun _ _ => rfl⟩
            have qq3 : OUTI (itmF f n e d) (0 : Int32) c43_g7 c43_g8 (fun e1 d1 => TKS f n e1 c43_g3.toInt c43_g4.toInt c43_g5.toInt c43_g6.toInt ∧ (entR (c43_F13 6) c43_F20 c43_F21 480, prtR ((F 12) 6) (F 18) (F 19) 240, lwsR ((F 11) 6) (F 14) (F 15) (F 16) (F 17) 240) = d1 ∧ c43_g7.toInt = (g 7).toInt ∧ c43_g8.toInt = (g 8).toInt) := by exact ⟨fun _ => hou.1 (by omega), fun q => absurd q (by omega)⟩
            exact pw_some ⟨qq0, qq1, qq2, qq3⟩
          · have c89 := z_ne c89
            obtain ⟨e1, d1, ho, hk1, hdd, hf7, hf8⟩ := hou.2 (by omega)
            have t2 := TKS_at hk1
            refine pw_ite (fun c99 => ?_) (fun c99 => ?_)
            · have c99 := congrArg Int32.toInt c99
              have hMI109 : id (MInv (upd (upd (upd (upd (upd (upd g 3 c43_g3) 4 c43_g4) 5 c43_g5) 6 c43_g6) 7 c43_g7) 8 c43_g8) (upF (upF (upF F 13 c43_F13) 20 c43_F20) 21 c43_F21)) := show MInv (upd (upd (upd (upd (upd (upd g 3 c43_g3) 4 c43_g4) 5 c43_g5) 6 c43_g6) 7 c43_g7) 8 c43_g8) (upF (upF (upF F 13 c43_F13) 20 c43_F20) 21 c43_F21) from (MInv_i ((hI9.1)) hzg2 hg64 hg65 hg66 hg67 hg68 hg69 hzg9 ((hI9.2.2.2.2.2.2.2.2.2.1)) ((hI9.2.2.2.2.2.2.2.2.2.2.1)) ((hI9.2.2.2.2.2.2.2.2.2.2.2.1)) ((hI9.2.2.2.2.2.2.2.2.2.2.2.2.1)) ((hI9.2.2.2.2.2.2.2.2.2.2.2.2.2.1)) ((hI9.2.2.2.2.2.2.2.2.2.2.2.2.2.2.1)) ((hI9.2.2.2.2.2.2.2.2.2.2.2.2.2.2.2.1)) ((hI9.2.2.2.2.2.2.2.2.2.2.2.2.2.2.2.2.1)) ((hI9.2.2.2.2.2.2.2.2.2.2.2.2.2.2.2.2.2.1)) ((hI9.2.2.2.2.2.2.2.2.2.2.2.2.2.2.2.2.2.2.1)) ((hI9.2.2.2.2.2.2.2.2.2.2.2.2.2.2.2.2.2.2.2.1)) ((hI9.2.2.2.2.2.2.2.2.2.2.2.2.2.2.2.2.2.2.2.2.1)) ((hI9.2.2.2.2.2.2.2.2.2.2.2.2.2.2.2.2.2.2.2.2.2.1)) ((hI9.2.2.2.2.2.2.2.2.2.2.2.2.2.2.2.2.2.2.2.2.2.2.1)) ((hI9.2.2.2.2.2.2.2.2.2.2.2.2.2.2.2.2.2.2.2.2.2.2.2.1)) ((hI9.2.2.2.2.2.2.2.2.2.2.2.2.2.2.2.2.2.2.2.2.2.2.2.2.1)) hzF11 hzF12 hg70 hzF15 hzF19 hg71 hzF24 hzF25 hzF26 hzF33 hzF38 hzF41 hzF43 hzF45 hzF46 hzF50 hzF53 hzF54 hzLQ)
              refine pw_b4 (fun c109_g3 c109_g4 c109_g5 c109_g6 hc109 => ?_)
              have hq109 := wp_at (ok_scan (upd (upd (upd (upd (upd (upd g 3 c43_g3) 4 c43_g4) 5 c43_g5) 6 c43_g6) 7 c43_g7) 8 c43_g8) (upF (upF (upF F 13 c43_F13) 20 c43_F20) 21 c43_F21) hMI109) hc109
              obtain ⟨hg74, hg75, hg76, hg77, f78, f79, f80⟩ : (((0) ≤ c109_g3.toInt ∧ c109_g3.toInt ≤ 4)) ∧ (((-1) ≤ c109_g4.toInt ∧ c109_g4.toInt ≤ 8)) ∧ (((0) ≤ c109_g5.toInt ∧ c109_g5.toInt ≤ 2001)) ∧ (((0) ≤ c109_g6.toInt ∧ c109_g6.toInt ≤ 2001)) ∧ (id ((c109_g3.toInt = 2 → c109_g5.toInt + 2 ≤ c109_g6.toInt ∧ c109_g6.toInt ≤ c109_g5.toInt + 18 ∧ c109_g6.toInt ≤ 2000))) ∧ (id ((c109_g3.toInt ≠ 4 → c43_g6.toInt < c109_g6.toInt))) ∧ (c43_g6.toInt ≤ c109_g6.toInt) := hq109
              have h8109_hf : (F 0) = f := by first | assumption | omega
              have h8109_hn : Int32.toNatClampNeg (g 2) = n := by first | assumption | omega
              have h8109_he : Int32.toNatClampNeg c43_g6 = (tE f n e1) := by have h := (TKS_3 hk1 (by omega)).2; have c9 := clampI (x := c43_g6) (by omega); omega
              have h8109_hfit : ∀ i, fits .byte (.int (f i)) = true := by first | assumption | omega
              have hx109 := pwq (fn_scan (upd (upd (upd (upd (upd (upd g 3 c43_g3) 4 c43_g4) 5 c43_g5) 6 c43_g6) 7 c43_g7) 8 c43_g8) (upF (upF (upF F 13 c43_F13) 20 c43_F20) 21 c43_F21) (f) (n) (tE f n e1) hMI109 h8109_hf h8109_hn h8109_he h8109_hfit) hc109
              have p109_0 : TKS f n (tE f n e1) c109_g3.toInt c109_g4.toInt c109_g5.toInt c109_g6.toInt := hx109
              clear hx109
              have qq0 : (∀ q, q < 480 → WR c43_F20 c43_F21 q = WR (F 20) (F 21) q ∧ c43_F21 q = (F 21) q) ∧ (∀ q, q ≠ 6 → c43_F13 q = (F 13) q) := by exact p43_0
              have qq1 : (∀ q, q < 240 → WR (F 18) (F 19) q = WR (F 18) (F 19) q) ∧ (∀ q, q ≠ 6 → (F 12) q = (F 12) q) := by exact ⟨fun _ _ => rfl, fun _ _ => rfl⟩
              have qq2 : (∀ q, q < 960 → WR (F 14) (F 15) q = WR (F 14) (F 15) q) ∧ (∀ q, q < 240 → (F 16) q = (F 16) q ∧ (F 17) q = (F 17) q) ∧ (∀ q, q ≠ 6 → (F 11) q = (F 11) q) := by exact ⟨fun _ _ => rfl, (fun _ _ => ⟨rfl, rfl⟩), fun _ _ => rfl⟩
              have qq3 : OUTI (itmF f n e d) (1 : Int32) c43_g7 c43_g8 (fun e1 d1 => TKS f n e1 c109_g3.toInt c109_g4.toInt c109_g5.toInt c109_g6.toInt ∧ (entR (c43_F13 6) c43_F20 c43_F21 480, prtR ((F 12) 6) (F 18) (F 19) 240, lwsR ((F 11) 6) (F 14) (F 15) (F 16) (F 17) 240) = d1 ∧ c43_g7.toInt = (g 7).toInt ∧ c43_g8.toInt = (g 8).toInt) := by exact ⟨fun q => absurd q (by omega), fun _ => ⟨_, _, by rw [ho]; exact oB_o (fCl_ok (TKS_3 hk1 (by omega)).1), p109_0, hdd, by omega, by omega⟩⟩
              exact pw_some ⟨qq0, qq1, qq2, qq3⟩
            · have c99 := z_ne c99
              have hMI104 : id (MInv (upd (upd (upd (upd (upd (upd g 3 c43_g3) 4 c43_g4) 5 c43_g5) 6 c43_g6) 7 c43_g7) 8 c43_g8) (upF (upF (upF F 13 c43_F13) 20 c43_F20) 21 c43_F21)) := show MInv (upd (upd (upd (upd (upd (upd g 3 c43_g3) 4 c43_g4) 5 c43_g5) 6 c43_g6) 7 c43_g7) 8 c43_g8) (upF (upF (upF F 13 c43_F13) 20 c43_F20) 21 c43_F21) from (MInv_i ((hI9.1)) hzg2 hg64 hg65 hg66 hg67 hg68 hg69 hzg9 ((hI9.2.2.2.2.2.2.2.2.2.1)) ((hI9.2.2.2.2.2.2.2.2.2.2.1)) ((hI9.2.2.2.2.2.2.2.2.2.2.2.1)) ((hI9.2.2.2.2.2.2.2.2.2.2.2.2.1)) ((hI9.2.2.2.2.2.2.2.2.2.2.2.2.2.1)) ((hI9.2.2.2.2.2.2.2.2.2.2.2.2.2.2.1)) ((hI9.2.2.2.2.2.2.2.2.2.2.2.2.2.2.2.1)) ((hI9.2.2.2.2.2.2.2.2.2.2.2.2.2.2.2.2.1)) ((hI9.2.2.2.2.2.2.2.2.2.2.2.2.2.2.2.2.2.1)) ((hI9.2.2.2.2.2.2.2.2.2.2.2.2.2.2.2.2.2.2.1)) ((hI9.2.2.2.2.2.2.2.2.2.2.2.2.2.2.2.2.2.2.2.1)) ((hI9.2.2.2.2.2.2.2.2.2.2.2.2.2.2.2.2.2.2.2.2.1)) ((hI9.2.2.2.2.2.2.2.2.2.2.2.2.2.2.2.2.2.2.2.2.2.1)) ((hI9.2.2.2.2.2.2.2.2.2.2.2.2.2.2.2.2.2.2.2.2.2.2.1)) ((hI9.2.2.2.2.2.2.2.2.2.2.2.2.2.2.2.2.2.2.2.2.2.2.2.1)) ((hI9.2.2.2.2.2.2.2.2.2.2.2.2.2.2.2.2.2.2.2.2.2.2.2.2.1)) hzF11 hzF12 hg70 hzF15 hzF19 hg71 hzF24 hzF25 hzF26 hzF33 hzF38 hzF41 hzF43 hzF45 hzF46 hzF50 hzF53 hzF54 hzLQ)
              have hpr104_0 : 0 ≤ (1 : Int32).toInt ∧ (1 : Int32).toInt ≤ 4 := by first | assumption | omega
              refine pw_b3 (fun r104 c104_g7 c104_g8 hc104 => ?_)
              have hq104 := wp_at (ok_wrong (upd (upd (upd (upd (upd (upd g 3 c43_g3) 4 c43_g4) 5 c43_g5) 6 c43_g6) 7 c43_g7) 8 c43_g8) (upF (upF (upF F 13 c43_F13) 20 c43_F20) 21 c43_F21) (1 : Int32) hMI104 hpr104_0) hc104
              obtain ⟨hg81, hg82, f83, f84⟩ : (((0) ≤ c104_g7.toInt ∧ c104_g7.toInt ≤ 4)) ∧ (((-1) ≤ c104_g8.toInt ∧ c104_g8.toInt ≤ 2001)) ∧ (r104.toInt = 0) ∧ ((0 ≤ r104.toInt ∧ r104.toInt ≤ 1)) := hq104
              have hx104 := pwq (fn_wrong (upd (upd (upd (upd (upd (upd g 3 c43_g3) 4 c43_g4) 5 c43_g5) 6 c43_g6) 7 c43_g7) 8 c43_g8) (upF (upF (upF F 13 c43_F13) 20 c43_F20) 21 c43_F21) (1 : Int32) hMI104 hpr104_0) hc104
              obtain ⟨p104_0, p104_1, p104_2⟩ : (r104.toInt = 0) ∧ (c104_g7.toInt = (1 : Int32).toInt) ∧ (c104_g8.toInt = c43_g5.toInt) := hx104
              refine pw_if (fun hb107 => ?_)
              obtain ⟨hbl107, hbr107⟩ := hb107
              have qq0 : (∀ q, q < 480 → WR c43_F20 c43_F21 q = WR (F 20) (F 21) q ∧ c43_F21 q = (F 21) q) ∧ (∀ q, q ≠ 6 → c43_F13 q = (F 13) q) := by exact p43_0
              have qq1 : (∀ q, q < 240 → WR (F 18) (F 19) q = WR (F 18) (F 19) q) ∧ (∀ q, q ≠ 6 → (F 12) q = (F 12) q) := by exact ⟨fun _ _ => rfl, fun _ _ => rfl⟩
              have qq2 : (∀ q, q < 960 → WR (F 14) (F 15) q = WR (F 14) (F 15) q) ∧ (∀ q, q < 240 → (F 16) q = (F 16) q ∧ (F 17) q = (F 17) q) ∧ (∀ q, q ≠ 6 → (F 11) q = (F 11) q) := by exact ⟨fun _ _ => rfl, (fun _ _ => ⟨rfl, rfl⟩), fun _ _ => rfl⟩
              have qq3 : OUTI (itmF f n e d) r104 c104_g7 c104_g8 (fun e1 d1 => TKS f n e1 c43_g3.toInt c43_g4.toInt c43_g5.toInt c43_g6.toInt ∧ (entR (c43_F13 6) c43_F20 c43_F21 480, prtR ((F 12) 6) (F 18) (F 19) 240, lwsR ((F 11) 6) (F 14) (F 15) (F 16) (F 17) 240) = d1 ∧ c104_g7.toInt = (g 7).toInt ∧ c104_g8.toInt = (g 8).toInt) := by refine ⟨fun _ => ⟨_, by rw [ho]; exact oB_e (fCl_bad (TKS_n3 hk1 (by omega))), ?_⟩, fun q => absurd q (by omega)⟩; exact err_of rfl (by omega) (by omega) (by omega)
              exact pw_some ⟨qq0, qq1, qq2, qq3⟩
      · have c26 := z_ne c26
        refine pw_ite (fun c55 => ?_) (fun c55 => ?_)
        · have c55 := congrArg Int32.toInt c55
          have hMI59 : id (MInv g F) := show MInv g F from (MInv_i ((hI9.1)) hzg2 hzg3 hzg4 hzg5 hzg6 hzg7 hzg8 hzg9 ((hI9.2.2.2.2.2.2.2.2.2.1)) ((hI9.2.2.2.2.2.2.2.2.2.2.1)) ((hI9.2.2.2.2.2.2.2.2.2.2.2.1)) ((hI9.2.2.2.2.2.2.2.2.2.2.2.2.1)) ((hI9.2.2.2.2.2.2.2.2.2.2.2.2.2.1)) ((hI9.2.2.2.2.2.2.2.2.2.2.2.2.2.2.1)) ((hI9.2.2.2.2.2.2.2.2.2.2.2.2.2.2.2.1)) ((hI9.2.2.2.2.2.2.2.2.2.2.2.2.2.2.2.2.1)) ((hI9.2.2.2.2.2.2.2.2.2.2.2.2.2.2.2.2.2.1)) ((hI9.2.2.2.2.2.2.2.2.2.2.2.2.2.2.2.2.2.2.1)) ((hI9.2.2.2.2.2.2.2.2.2.2.2.2.2.2.2.2.2.2.2.1)) ((hI9.2.2.2.2.2.2.2.2.2.2.2.2.2.2.2.2.2.2.2.2.1)) ((hI9.2.2.2.2.2.2.2.2.2.2.2.2.2.2.2.2.2.2.2.2.2.1)) ((hI9.2.2.2.2.2.2.2.2.2.2.2.2.2.2.2.2.2.2.2.2.2.2.1)) ((hI9.2.2.2.2.2.2.2.2.2.2.2.2.2.2.2.2.2.2.2.2.2.2.2.1)) ((hI9.2.2.2.2.2.2.2.2.2.2.2.2.2.2.2.2.2.2.2.2.2.2.2.2.1)) hzF11 hzF12 hzF13 hzF15 hzF19 hzF21 hzF24 hzF25 hzF26 hzF33 hzF38 hzF41 hzF43 hzF45 hzF46 hzF50 hzF53 hzF54 hzLQ)
          refine pw_b10 (fun r59 c59_g3 c59_g4 c59_g5 c59_g6 c59_g7 c59_g8 c59_F12 c59_F18 c59_F19 hc59 => ?_)
          have hq59 := wp_at (ok_readPart g F hMI59) hc59
          obtain ⟨hg85, hg86, hg87, hg88, hg89, hg90, hg91, hg92, f93, f94⟩ : (((0) ≤ c59_g3.toInt ∧ c59_g3.toInt ≤ 4)) ∧ (((-1) ≤ c59_g4.toInt ∧ c59_g4.toInt ≤ 8)) ∧ (((0) ≤ c59_g5.toInt ∧ c59_g5.toInt ≤ 2001)) ∧ (((0) ≤ c59_g6.toInt ∧ c59_g6.toInt ≤ 2001)) ∧ (((0) ≤ c59_g7.toInt ∧ c59_g7.toInt ≤ 4)) ∧ (((-1) ≤ c59_g8.toInt ∧ c59_g8.toInt ≤ 2001)) ∧ (rng (0) 40 c59_F12) ∧ (rng (-1) 16 c59_F19) ∧ ((g 6).toInt ≤ c59_g6.toInt) ∧ ((0 ≤ r59.toInt ∧ r59.toInt ≤ 1)) := hq59
          have h859_hf : (F 0) = f := by first | assumption | omega
          have h859_hn : Int32.toNatClampNeg (g 2) = n := by first | assumption | omega
          have h859_he : Int32.toNatClampNeg (g 6) = (tE f n e) := by have h := (TKS_key (k := 3) htk (by omega) (by omega)).2; have c9 := clampI (x := (g 6)) (by omega); omega
          have h859_hat : (g 5).toInt = ((tP f n e) : Int) := by omega
          have h859_hd : (entR ((F 13) 6) (F 20) (F 21) 480, prtR ((F 12) 6) (F 18) (F 19) 240, lwsR ((F 11) 6) (F 14) (F 15) (F 16) (F 17) 240) = d := by first | assumption | omega
          have h859_hwf : WFD d := by first | assumption | omega
          have h859_hfit : ∀ i, fits .byte (.int (f i)) = true := by first | assumption | omega
          have hx59 := pwq (fn_readPart g F (f) (n) (tP f n e) (tE f n e) (d) hMI59 h859_hf h859_hn h859_he h859_hat h859_hd h859_hwf h859_hfit) hc59
          obtain ⟨p59_0, p59_1⟩ : (id ((∀ q, q < 240 → WR c59_F18 c59_F19 q = WR (F 18) (F 19) q) ∧ (∀ q, q ≠ 6 → c59_F12 q = (F 12) q))) ∧ (OUTS (prtF f n (tP f n e) (tE f n e) d) r59 c59_g7 c59_g8 f n (fun e1 d1 => TKS f n e1 c59_g3.toInt c59_g4.toInt c59_g5.toInt c59_g6.toInt ∧ (entR ((F 13) 6) (F 20) (F 21) 480, prtR (c59_F12 6) c59_F18 c59_F19 240, lwsR ((F 11) 6) (F 14) (F 15) (F 16) (F 17) 240) = d1 ∧ c59_g7.toInt = (g 7).toInt ∧ c59_g8.toInt = (g 8).toInt)) := hx59
          have hou : OUTS (itmF f n e d) r59 c59_g7 c59_g8 f n (fun e1 d1 => TKS f n e1 c59_g3.toInt c59_g4.toInt c59_g5.toInt c59_g6.toInt ∧ (entR ((F 13) 6) (F 20) (F 21) 480, prtR (c59_F12 6) c59_F18 c59_F19 240, lwsR ((F 11) 6) (F 14) (F 15) (F 16) (F 17) 240) = d1 ∧ c59_g7.toInt = (g 7).toInt ∧ c59_g8.toInt = (g 8).toInt) := by rw [itm_3 (TKS_nkey htk (by omega) (by omega)) (TKS_nkey htk (by omega) (by omega)) (TKS_key (k := 3) htk (by omega) (by omega)).1]; exact p59_1
          refine pw_j18 ej88 (fun x88_1 ex88_1 z88_1 ez88_1 z88_2 ez88_2 z88_3 ez88_3 z88_4 ez88_4 z88_5 ez88_5 z88_6 ez88_6 z88_7 ez88_7 z88_8 ez88_8 z88_9 ez88_9 z88_10 ez88_10 z88_11 ez88_11 z88_12 ez88_12 z88_13 ez88_13 z88_14 ez88_14 z88_15 ez88_15 z88_16 ez88_16 z88_17 ez88_17 => ?_)
          subst ez88_1 ez88_2 ez88_3 ez88_4 ez88_5 ez88_6 ez88_7 ez88_8 ez88_9 ez88_10 ez88_11 ez88_12 ez88_13 ez88_14 ez88_15 ez88_16 ez88_17
          have ex88_1 := ex88_1.symm
          have f_x88_1 : x88_1.toInt = r59.toInt := by rw [ex88_1]
          refine pw_ite (fun c89 => ?_) (fun c89 => ?_)
          · have c89 := congrArg Int32.toInt c89
            have qq0 : (∀ q, q < 480 → WR (F 20) (F 21) q = WR (F 20) (F 21) q ∧ (F 21) q = (F 21) q) ∧ (∀ q, q ≠ 6 → (F 13) q = (F 13) q) := by exact ⟨fun _ _ => ⟨rfl, rfl⟩, fun _ _ => rfl⟩
            have qq1 : (∀ q, q < 240 → WR c59_F18 c59_F19 q = WR (F 18) (F 19) q) ∧ (∀ q, q ≠ 6 → c59_F12 q = (F 12) q) := by exact p59_0
            have qq2 : (∀ q, q < 960 → WR (F 14) (F 15) q = WR (F 14) (F 15) q) ∧ (∀ q, q < 240 → (F 16) q = (F 16) q ∧ (F 17) q = (F 17) q) ∧ (∀ q, q ≠ 6 → (F 11) q = (F 11) q) := by exact ⟨fun _ _ => rfl, (fun _ _ => ⟨rfl, rfl⟩), fun _ _ => rfl⟩
            have qq3 : OUTI (itmF f n e d) (0 : Int32) c59_g7 c59_g8 (fun e1 d1 => TKS f n e1 c59_g3.toInt c59_g4.toInt c59_g5.toInt c59_g6.toInt ∧ (entR ((F 13) 6) (F 20) (F 21) 480, prtR (c59_F12 6) c59_F18 c59_F19 240, lwsR ((F 11) 6) (F 14) (F 15) (F 16) (F 17) 240) = d1 ∧ c59_g7.toInt = (g 7).toInt ∧ c59_g8.toInt = (g 8).toInt) := by exact ⟨fun _ => hou.1 (by omega), fun q => absurd q (by omega)⟩
            exact pw_some ⟨qq0, qq1, qq2, qq3⟩
          · have c89 := z_ne c89
            obtain ⟨e1, d1, ho, hk1, hdd, hf7, hf8⟩ := hou.2 (by omega)
            have t2 := TKS_at hk1
            refine pw_ite (fun c99 => ?_) (fun c99 => ?_)
            · have c99 := congrArg Int32.toInt c99
              have hMI109 : id (MInv (upd (upd (upd (upd (upd (upd g 3 c59_g3) 4 c59_g4) 5 c59_g5) 6 c59_g6) 7 c59_g7) 8 c59_g8) (upF (upF (upF F 12 c59_F12) 18 c59_F18) 19 c59_F19)) := show MInv (upd (upd (upd (upd (upd (upd g 3 c59_g3) 4 c59_g4) 5 c59_g5) 6 c59_g6) 7 c59_g7) 8 c59_g8) (upF (upF (upF F 12 c59_F12) 18 c59_F18) 19 c59_F19) from (MInv_i ((hI9.1)) hzg2 hg85 hg86 hg87 hg88 hg89 hg90 hzg9 ((hI9.2.2.2.2.2.2.2.2.2.1)) ((hI9.2.2.2.2.2.2.2.2.2.2.1)) ((hI9.2.2.2.2.2.2.2.2.2.2.2.1)) ((hI9.2.2.2.2.2.2.2.2.2.2.2.2.1)) ((hI9.2.2.2.2.2.2.2.2.2.2.2.2.2.1)) ((hI9.2.2.2.2.2.2.2.2.2.2.2.2.2.2.1)) ((hI9.2.2.2.2.2.2.2.2.2.2.2.2.2.2.2.1)) ((hI9.2.2.2.2.2.2.2.2.2.2.2.2.2.2.2.2.1)) ((hI9.2.2.2.2.2.2.2.2.2.2.2.2.2.2.2.2.2.1)) ((hI9.2.2.2.2.2.2.2.2.2.2.2.2.2.2.2.2.2.2.1)) ((hI9.2.2.2.2.2.2.2.2.2.2.2.2.2.2.2.2.2.2.2.1)) ((hI9.2.2.2.2.2.2.2.2.2.2.2.2.2.2.2.2.2.2.2.2.1)) ((hI9.2.2.2.2.2.2.2.2.2.2.2.2.2.2.2.2.2.2.2.2.2.1)) ((hI9.2.2.2.2.2.2.2.2.2.2.2.2.2.2.2.2.2.2.2.2.2.2.1)) ((hI9.2.2.2.2.2.2.2.2.2.2.2.2.2.2.2.2.2.2.2.2.2.2.2.1)) ((hI9.2.2.2.2.2.2.2.2.2.2.2.2.2.2.2.2.2.2.2.2.2.2.2.2.1)) hzF11 hg91 hzF13 hzF15 hg92 hzF21 hzF24 hzF25 hzF26 hzF33 hzF38 hzF41 hzF43 hzF45 hzF46 hzF50 hzF53 hzF54 hzLQ)
              refine pw_b4 (fun c109_g3 c109_g4 c109_g5 c109_g6 hc109 => ?_)
              have hq109 := wp_at (ok_scan (upd (upd (upd (upd (upd (upd g 3 c59_g3) 4 c59_g4) 5 c59_g5) 6 c59_g6) 7 c59_g7) 8 c59_g8) (upF (upF (upF F 12 c59_F12) 18 c59_F18) 19 c59_F19) hMI109) hc109
              obtain ⟨hg95, hg96, hg97, hg98, f99, f100, f101⟩ : (((0) ≤ c109_g3.toInt ∧ c109_g3.toInt ≤ 4)) ∧ (((-1) ≤ c109_g4.toInt ∧ c109_g4.toInt ≤ 8)) ∧ (((0) ≤ c109_g5.toInt ∧ c109_g5.toInt ≤ 2001)) ∧ (((0) ≤ c109_g6.toInt ∧ c109_g6.toInt ≤ 2001)) ∧ (id ((c109_g3.toInt = 2 → c109_g5.toInt + 2 ≤ c109_g6.toInt ∧ c109_g6.toInt ≤ c109_g5.toInt + 18 ∧ c109_g6.toInt ≤ 2000))) ∧ (id ((c109_g3.toInt ≠ 4 → c59_g6.toInt < c109_g6.toInt))) ∧ (c59_g6.toInt ≤ c109_g6.toInt) := hq109
              have h8109_hf : (F 0) = f := by first | assumption | omega
              have h8109_hn : Int32.toNatClampNeg (g 2) = n := by first | assumption | omega
              have h8109_he : Int32.toNatClampNeg c59_g6 = (tE f n e1) := by have h := (TKS_3 hk1 (by omega)).2; have c9 := clampI (x := c59_g6) (by omega); omega
              have h8109_hfit : ∀ i, fits .byte (.int (f i)) = true := by first | assumption | omega
              have hx109 := pwq (fn_scan (upd (upd (upd (upd (upd (upd g 3 c59_g3) 4 c59_g4) 5 c59_g5) 6 c59_g6) 7 c59_g7) 8 c59_g8) (upF (upF (upF F 12 c59_F12) 18 c59_F18) 19 c59_F19) (f) (n) (tE f n e1) hMI109 h8109_hf h8109_hn h8109_he h8109_hfit) hc109
              have p109_0 : TKS f n (tE f n e1) c109_g3.toInt c109_g4.toInt c109_g5.toInt c109_g6.toInt := hx109
              clear hx109
              have qq0 : (∀ q, q < 480 → WR (F 20) (F 21) q = WR (F 20) (F 21) q ∧ (F 21) q = (F 21) q) ∧ (∀ q, q ≠ 6 → (F 13) q = (F 13) q) := by exact ⟨fun _ _ => ⟨rfl, rfl⟩, fun _ _ => rfl⟩
              have qq1 : (∀ q, q < 240 → WR c59_F18 c59_F19 q = WR (F 18) (F 19) q) ∧ (∀ q, q ≠ 6 → c59_F12 q = (F 12) q) := by exact p59_0
              have qq2 : (∀ q, q < 960 → WR (F 14) (F 15) q = WR (F 14) (F 15) q) ∧ (∀ q, q < 240 → (F 16) q = (F 16) q ∧ (F 17) q = (F 17) q) ∧ (∀ q, q ≠ 6 → (F 11) q = (F 11) q) := by exact ⟨fun _ _ => rfl, (fun _ _ => ⟨rfl, rfl⟩), fun _ _ => rfl⟩
              have qq3 : OUTI (itmF f n e d) (1 : Int32) c59_g7 c59_g8 (fun e1 d1 => TKS f n e1 c109_g3.toInt c109_g4.toInt c109_g5.toInt c109_g6.toInt ∧ (entR ((F 13) 6) (F 20) (F 21) 480, prtR (c59_F12 6) c59_F18 c59_F19 240, lwsR ((F 11) 6) (F 14) (F 15) (F 16) (F 17) 240) = d1 ∧ c59_g7.toInt = (g 7).toInt ∧ c59_g8.toInt = (g 8).toInt) := by exact ⟨fun q => absurd q (by omega), fun _ => ⟨_, _, by rw [ho]; exact oB_o (fCl_ok (TKS_3 hk1 (by omega)).1), p109_0, hdd, by omega, by omega⟩⟩
              exact pw_some ⟨qq0, qq1, qq2, qq3⟩
            · have c99 := z_ne c99
              have hMI104 : id (MInv (upd (upd (upd (upd (upd (upd g 3 c59_g3) 4 c59_g4) 5 c59_g5) 6 c59_g6) 7 c59_g7) 8 c59_g8) (upF (upF (upF F 12 c59_F12) 18 c59_F18) 19 c59_F19)) := show MInv (upd (upd (upd (upd (upd (upd g 3 c59_g3) 4 c59_g4) 5 c59_g5) 6 c59_g6) 7 c59_g7) 8 c59_g8) (upF (upF (upF F 12 c59_F12) 18 c59_F18) 19 c59_F19) from (MInv_i ((hI9.1)) hzg2 hg85 hg86 hg87 hg88 hg89 hg90 hzg9 ((hI9.2.2.2.2.2.2.2.2.2.1)) ((hI9.2.2.2.2.2.2.2.2.2.2.1)) ((hI9.2.2.2.2.2.2.2.2.2.2.2.1)) ((hI9.2.2.2.2.2.2.2.2.2.2.2.2.1)) ((hI9.2.2.2.2.2.2.2.2.2.2.2.2.2.1)) ((hI9.2.2.2.2.2.2.2.2.2.2.2.2.2.2.1)) ((hI9.2.2.2.2.2.2.2.2.2.2.2.2.2.2.2.1)) ((hI9.2.2.2.2.2.2.2.2.2.2.2.2.2.2.2.2.1)) ((hI9.2.2.2.2.2.2.2.2.2.2.2.2.2.2.2.2.2.1)) ((hI9.2.2.2.2.2.2.2.2.2.2.2.2.2.2.2.2.2.2.1)) ((hI9.2.2.2.2.2.2.2.2.2.2.2.2.2.2.2.2.2.2.2.1)) ((hI9.2.2.2.2.2.2.2.2.2.2.2.2.2.2.2.2.2.2.2.2.1)) ((hI9.2.2.2.2.2.2.2.2.2.2.2.2.2.2.2.2.2.2.2.2.2.1)) ((hI9.2.2.2.2.2.2.2.2.2.2.2.2.2.2.2.2.2.2.2.2.2.2.1)) ((hI9.2.2.2.2.2.2.2.2.2.2.2.2.2.2.2.2.2.2.2.2.2.2.2.1)) ((hI9.2.2.2.2.2.2.2.2.2.2.2.2.2.2.2.2.2.2.2.2.2.2.2.2.1)) hzF11 hg91 hzF13 hzF15 hg92 hzF21 hzF24 hzF25 hzF26 hzF33 hzF38 hzF41 hzF43 hzF45 hzF46 hzF50 hzF53 hzF54 hzLQ)
              have hpr104_0 : 0 ≤ (1 : Int32).toInt ∧ (1 : Int32).toInt ≤ 4 := by first | assumption | omega
              refine pw_b3 (fun r104 c104_g7 c104_g8 hc104 => ?_)
              have hq104 := wp_at (ok_wrong (upd (upd (upd (upd (upd (upd g 3 c59_g3) 4 c59_g4) 5 c59_g5) 6 c59_g6) 7 c59_g7) 8 c59_g8) (upF (upF (upF F 12 c59_F12) 18 c59_F18) 19 c59_F19) (1 : Int32) hMI104 hpr104_0) hc104
              obtain ⟨hg102, hg103, f104, f105⟩ : (((0) ≤ c104_g7.toInt ∧ c104_g7.toInt ≤ 4)) ∧ (((-1) ≤ c104_g8.toInt ∧ c104_g8.toInt ≤ 2001)) ∧ (r104.toInt = 0) ∧ ((0 ≤ r104.toInt ∧ r104.toInt ≤ 1)) := hq104
              have hx104 := pwq (fn_wrong (upd (upd (upd (upd (upd (upd g 3 c59_g3) 4 c59_g4) 5 c59_g5) 6 c59_g6) 7 c59_g7) 8 c59_g8) (upF (upF (upF F 12 c59_F12) 18 c59_F18) 19 c59_F19) (1 : Int32) hMI104 hpr104_0) hc104
              obtain ⟨p104_0, p104_1, p104_2⟩ : (r104.toInt = 0) ∧ (c104_g7.toInt = (1 : Int32).toInt) ∧ (c104_g8.toInt = c59_g5.toInt) := hx104
              refine pw_if (fun hb107 => ?_)
              obtain ⟨hbl107, hbr107⟩ := hb107
              have qq0 : (∀ q, q < 480 → WR (F 20) (F 21) q = WR (F 20) (F 21) q ∧ (F 21) q = (F 21) q) ∧ (∀ q, q ≠ 6 → (F 13) q = (F 13) q) := by exact ⟨fun _ _ => ⟨rfl, rfl⟩, fun _ _ => rfl⟩
              have qq1 : (∀ q, q < 240 → WR c59_F18 c59_F19 q = WR (F 18) (F 19) q) ∧ (∀ q, q ≠ 6 → c59_F12 q = (F 12) q) := by exact p59_0
              have qq2 : (∀ q, q < 960 → WR (F 14) (F 15) q = WR (F 14) (F 15) q) ∧ (∀ q, q < 240 → (F 16) q = (F 16) q ∧ (F 17) q = (F 17) q) ∧ (∀ q, q ≠ 6 → (F 11) q = (F 11) q) := by exact ⟨fun _ _ => rfl, (fun _ _ => ⟨rfl, rfl⟩), fun _ _ => rfl⟩
              have qq3 : OUTI (itmF f n e d) r104 c104_g7 c104_g8 (fun e1 d1 => TKS f n e1 c59_g3.toInt c59_g4.toInt c59_g5.toInt c59_g6.toInt ∧ (entR ((F 13) 6) (F 20) (F 21) 480, prtR (c59_F12 6) c59_F18 c59_F19 240, lwsR ((F 11) 6) (F 14) (F 15) (F 16) (F 17) 240) = d1 ∧ c104_g7.toInt = (g 7).toInt ∧ c104_g8.toInt = (g 8).toInt) := by refine ⟨fun _ => ⟨_, by rw [ho]; exact oB_e (fCl_bad (TKS_n3 hk1 (by omega))), ?_⟩, fun q => absurd q (by omega)⟩; exact err_of rfl (by omega) (by omega) (by omega)
              exact pw_some ⟨qq0, qq1, qq2, qq3⟩
        · have c55 := z_ne c55
          refine pw_ite (fun c71 => ?_) (fun c71 => ?_)
          · have c71 := congrArg Int32.toInt c71
            have hMI75 : id (MInv g F) := show MInv g F from (MInv_i ((hI9.1)) hzg2 hzg3 hzg4 hzg5 hzg6 hzg7 hzg8 hzg9 ((hI9.2.2.2.2.2.2.2.2.2.1)) ((hI9.2.2.2.2.2.2.2.2.2.2.1)) ((hI9.2.2.2.2.2.2.2.2.2.2.2.1)) ((hI9.2.2.2.2.2.2.2.2.2.2.2.2.1)) ((hI9.2.2.2.2.2.2.2.2.2.2.2.2.2.1)) ((hI9.2.2.2.2.2.2.2.2.2.2.2.2.2.2.1)) ((hI9.2.2.2.2.2.2.2.2.2.2.2.2.2.2.2.1)) ((hI9.2.2.2.2.2.2.2.2.2.2.2.2.2.2.2.2.1)) ((hI9.2.2.2.2.2.2.2.2.2.2.2.2.2.2.2.2.2.1)) ((hI9.2.2.2.2.2.2.2.2.2.2.2.2.2.2.2.2.2.2.1)) ((hI9.2.2.2.2.2.2.2.2.2.2.2.2.2.2.2.2.2.2.2.1)) ((hI9.2.2.2.2.2.2.2.2.2.2.2.2.2.2.2.2.2.2.2.2.1)) ((hI9.2.2.2.2.2.2.2.2.2.2.2.2.2.2.2.2.2.2.2.2.2.1)) ((hI9.2.2.2.2.2.2.2.2.2.2.2.2.2.2.2.2.2.2.2.2.2.2.1)) ((hI9.2.2.2.2.2.2.2.2.2.2.2.2.2.2.2.2.2.2.2.2.2.2.2.1)) ((hI9.2.2.2.2.2.2.2.2.2.2.2.2.2.2.2.2.2.2.2.2.2.2.2.2.1)) hzF11 hzF12 hzF13 hzF15 hzF19 hzF21 hzF24 hzF25 hzF26 hzF33 hzF38 hzF41 hzF43 hzF45 hzF46 hzF50 hzF53 hzF54 hzLQ)
            refine pw_b12 (fun r75 c75_g3 c75_g4 c75_g5 c75_g6 c75_g7 c75_g8 c75_F11 c75_F14 c75_F15 c75_F16 c75_F17 hc75 => ?_)
            have hq75 := wp_at (ok_readLaw g F hMI75) hc75
            obtain ⟨hg106, hg107, hg108, hg109, hg110, hg111, hg112, hg113, hLQ114, f115, f116⟩ : (((0) ≤ c75_g3.toInt ∧ c75_g3.toInt ≤ 4)) ∧ (((-1) ≤ c75_g4.toInt ∧ c75_g4.toInt ≤ 8)) ∧ (((0) ≤ c75_g5.toInt ∧ c75_g5.toInt ≤ 2001)) ∧ (((0) ≤ c75_g6.toInt ∧ c75_g6.toInt ≤ 2001)) ∧ (((0) ≤ c75_g7.toInt ∧ c75_g7.toInt ≤ 4)) ∧ (((-1) ≤ c75_g8.toInt ∧ c75_g8.toInt ≤ 2001)) ∧ (rng (0) 40 c75_F11) ∧ (rng (-1) 16 c75_F15) ∧ (LQ c75_F11 c75_F15 (g 9)) ∧ ((g 6).toInt ≤ c75_g6.toInt) ∧ ((0 ≤ r75.toInt ∧ r75.toInt ≤ 1)) := hq75
            have h875_hf : (F 0) = f := by first | assumption | omega
            have h875_hn : Int32.toNatClampNeg (g 2) = n := by first | assumption | omega
            have h875_he : Int32.toNatClampNeg (g 6) = (tE f n e) := by have h := (TKS_key (k := 4) htk (by omega) (by omega)).2; have c9 := clampI (x := (g 6)) (by omega); omega
            have h875_hat : (g 5).toInt = ((tP f n e) : Int) := by omega
            have h875_hd : (entR ((F 13) 6) (F 20) (F 21) 480, prtR ((F 12) 6) (F 18) (F 19) 240, lwsR ((F 11) 6) (F 14) (F 15) (F 16) (F 17) 240) = d := by first | assumption | omega
            have h875_hwf : WFD d := by first | assumption | omega
            have h875_hfit : ∀ i, fits .byte (.int (f i)) = true := by first | assumption | omega
            have hx75 := pwq (fn_readLaw g F (f) (n) (tP f n e) (tE f n e) (d) hMI75 h875_hf h875_hn h875_he h875_hat h875_hd h875_hwf h875_hfit) hc75
            obtain ⟨p75_0, p75_1⟩ : (id ((∀ q, q < 960 → WR c75_F14 c75_F15 q = WR (F 14) (F 15) q) ∧ (∀ q, q < 240 → c75_F16 q = (F 16) q ∧ c75_F17 q = (F 17) q) ∧ (∀ q, q ≠ 6 → c75_F11 q = (F 11) q))) ∧ (OUTS (lawF f n (tP f n e) (tE f n e) d) r75 c75_g7 c75_g8 f n (fun e1 d1 => TKS f n e1 c75_g3.toInt c75_g4.toInt c75_g5.toInt c75_g6.toInt ∧ (entR ((F 13) 6) (F 20) (F 21) 480, prtR ((F 12) 6) (F 18) (F 19) 240, lwsR (c75_F11 6) c75_F14 c75_F15 c75_F16 c75_F17 240) = d1 ∧ c75_g7.toInt = (g 7).toInt ∧ c75_g8.toInt = (g 8).toInt)) := hx75
            have hou : OUTS (itmF f n e d) r75 c75_g7 c75_g8 f n (fun e1 d1 => TKS f n e1 c75_g3.toInt c75_g4.toInt c75_g5.toInt c75_g6.toInt ∧ (entR ((F 13) 6) (F 20) (F 21) 480, prtR ((F 12) 6) (F 18) (F 19) 240, lwsR (c75_F11 6) c75_F14 c75_F15 c75_F16 c75_F17 240) = d1 ∧ c75_g7.toInt = (g 7).toInt ∧ c75_g8.toInt = (g 8).toInt) := by rw [itm_4 (TKS_nkey htk (by omega) (by omega)) (TKS_nkey htk (by omega) (by omega)) (TKS_nkey htk (by omega) (by omega)) (TKS_key (k := 4) htk (by omega) (by omega)).1]; exact p75_1
            refine pw_j18 ej88 (fun x88_1 ex88_1 z88_1 ez88_1 z88_2 ez88_2 z88_3 ez88_3 z88_4 ez88_4 z88_5 ez88_5 z88_6 ez88_6 z88_7 ez88_7 z88_8 ez88_8 z88_9 ez88_9 z88_10 ez88_10 z88_11 ez88_11 z88_12 ez88_12 z88_13 ez88_13 z88_14 ez88_14 z88_15 ez88_15 z88_16 ez88_16 z88_17 ez88_17 => ?_)
            subst ez88_1 ez88_2 ez88_3 ez88_4 ez88_5 ez88_6 ez88_7 ez88_8 ez88_9 ez88_10 ez88_11 ez88_12 ez88_13 ez88_14 ez88_15 ez88_16 ez88_17
            have ex88_1 := ex88_1.symm
            have f_x88_1 : x88_1.toInt = r75.toInt := by rw [ex88_1]
            refine pw_ite (fun c89 => ?_) (fun c89 => ?_)
            · have c89 := congrArg Int32.toInt c89
              have qq0 : (∀ q, q < 480 → WR (F 20) (F 21) q = WR (F 20) (F 21) q ∧ (F 21) q = (F 21) q) ∧ (∀ q, q ≠ 6 → (F 13) q = (F 13) q) := by exact ⟨fun _ _ => ⟨rfl, rfl⟩, fun _ _ => rfl⟩
              have qq1 : (∀ q, q < 240 → WR (F 18) (F 19) q = WR (F 18) (F 19) q) ∧ (∀ q, q ≠ 6 → (F 12) q = (F 12) q) := by exact ⟨fun _ _ => rfl, fun _ _ => rfl⟩
              have qq2 : (∀ q, q < 960 → WR c75_F14 c75_F15 q = WR (F 14) (F 15) q) ∧ (∀ q, q < 240 → c75_F16 q = (F 16) q ∧ c75_F17 q = (F 17) q) ∧ (∀ q, q ≠ 6 → c75_F11 q = (F 11) q) := by exact p75_0
              have qq3 : OUTI (itmF f n e d) (0 : Int32) c75_g7 c75_g8 (fun e1 d1 => TKS f n e1 c75_g3.toInt c75_g4.toInt c75_g5.toInt c75_g6.toInt ∧ (entR ((F 13) 6) (F 20) (F 21) 480, prtR ((F 12) 6) (F 18) (F 19) 240, lwsR (c75_F11 6) c75_F14 c75_F15 c75_F16 c75_F17 240) = d1 ∧ c75_g7.toInt = (g 7).toInt ∧ c75_g8.toInt = (g 8).toInt) := by exact ⟨fun _ => hou.1 (by omega), fun q => absurd q (by omega)⟩
              exact pw_some ⟨qq0, qq1, qq2, qq3⟩
            · have c89 := z_ne c89
              obtain ⟨e1, d1, ho, hk1, hdd, hf7, hf8⟩ := hou.2 (by omega)
              have t2 := TKS_at hk1
              refine pw_ite (fun c99 => ?_) (fun c99 => ?_)
              · have c99 := congrArg Int32.toInt c99
                have hMI109 : id (MInv (upd (upd (upd (upd (upd (upd g 3 c75_g3) 4 c75_g4) 5 c75_g5) 6 c75_g6) 7 c75_g7) 8 c75_g8) (upF (upF (upF (upF (upF F 11 c75_F11) 14 c75_F14) 15 c75_F15) 16 c75_F16) 17 c75_F17)) := show MInv (upd (upd (upd (upd (upd (upd g 3 c75_g3) 4 c75_g4) 5 c75_g5) 6 c75_g6) 7 c75_g7) 8 c75_g8) (upF (upF (upF (upF (upF F 11 c75_F11) 14 c75_F14) 15 c75_F15) 16 c75_F16) 17 c75_F17) from (MInv_i ((hI9.1)) hzg2 hg106 hg107 hg108 hg109 hg110 hg111 hzg9 ((hI9.2.2.2.2.2.2.2.2.2.1)) ((hI9.2.2.2.2.2.2.2.2.2.2.1)) ((hI9.2.2.2.2.2.2.2.2.2.2.2.1)) ((hI9.2.2.2.2.2.2.2.2.2.2.2.2.1)) ((hI9.2.2.2.2.2.2.2.2.2.2.2.2.2.1)) ((hI9.2.2.2.2.2.2.2.2.2.2.2.2.2.2.1)) ((hI9.2.2.2.2.2.2.2.2.2.2.2.2.2.2.2.1)) ((hI9.2.2.2.2.2.2.2.2.2.2.2.2.2.2.2.2.1)) ((hI9.2.2.2.2.2.2.2.2.2.2.2.2.2.2.2.2.2.1)) ((hI9.2.2.2.2.2.2.2.2.2.2.2.2.2.2.2.2.2.2.1)) ((hI9.2.2.2.2.2.2.2.2.2.2.2.2.2.2.2.2.2.2.2.1)) ((hI9.2.2.2.2.2.2.2.2.2.2.2.2.2.2.2.2.2.2.2.2.1)) ((hI9.2.2.2.2.2.2.2.2.2.2.2.2.2.2.2.2.2.2.2.2.2.1)) ((hI9.2.2.2.2.2.2.2.2.2.2.2.2.2.2.2.2.2.2.2.2.2.2.1)) ((hI9.2.2.2.2.2.2.2.2.2.2.2.2.2.2.2.2.2.2.2.2.2.2.2.1)) ((hI9.2.2.2.2.2.2.2.2.2.2.2.2.2.2.2.2.2.2.2.2.2.2.2.2.1)) hg112 hzF12 hzF13 hg113 hzF19 hzF21 hzF24 hzF25 hzF26 hzF33 hzF38 hzF41 hzF43 hzF45 hzF46 hzF50 hzF53 hzF54 hLQ114)
                refine pw_b4 (fun c109_g3 c109_g4 c109_g5 c109_g6 hc109 => ?_)
                have hq109 := wp_at (ok_scan (upd (upd (upd (upd (upd (upd g 3 c75_g3) 4 c75_g4) 5 c75_g5) 6 c75_g6) 7 c75_g7) 8 c75_g8) (upF (upF (upF (upF (upF F 11 c75_F11) 14 c75_F14) 15 c75_F15) 16 c75_F16) 17 c75_F17) hMI109) hc109
                obtain ⟨hg117, hg118, hg119, hg120, f121, f122, f123⟩ : (((0) ≤ c109_g3.toInt ∧ c109_g3.toInt ≤ 4)) ∧ (((-1) ≤ c109_g4.toInt ∧ c109_g4.toInt ≤ 8)) ∧ (((0) ≤ c109_g5.toInt ∧ c109_g5.toInt ≤ 2001)) ∧ (((0) ≤ c109_g6.toInt ∧ c109_g6.toInt ≤ 2001)) ∧ (id ((c109_g3.toInt = 2 → c109_g5.toInt + 2 ≤ c109_g6.toInt ∧ c109_g6.toInt ≤ c109_g5.toInt + 18 ∧ c109_g6.toInt ≤ 2000))) ∧ (id ((c109_g3.toInt ≠ 4 → c75_g6.toInt < c109_g6.toInt))) ∧ (c75_g6.toInt ≤ c109_g6.toInt) := hq109
                have h8109_hf : (F 0) = f := by first | assumption | omega
                have h8109_hn : Int32.toNatClampNeg (g 2) = n := by first | assumption | omega
                have h8109_he : Int32.toNatClampNeg c75_g6 = (tE f n e1) := by have h := (TKS_3 hk1 (by omega)).2; have c9 := clampI (x := c75_g6) (by omega); omega
                have h8109_hfit : ∀ i, fits .byte (.int (f i)) = true := by first | assumption | omega
                have hx109 := pwq (fn_scan (upd (upd (upd (upd (upd (upd g 3 c75_g3) 4 c75_g4) 5 c75_g5) 6 c75_g6) 7 c75_g7) 8 c75_g8) (upF (upF (upF (upF (upF F 11 c75_F11) 14 c75_F14) 15 c75_F15) 16 c75_F16) 17 c75_F17) (f) (n) (tE f n e1) hMI109 h8109_hf h8109_hn h8109_he h8109_hfit) hc109
                have p109_0 : TKS f n (tE f n e1) c109_g3.toInt c109_g4.toInt c109_g5.toInt c109_g6.toInt := hx109
                clear hx109
                have qq0 : (∀ q, q < 480 → WR (F 20) (F 21) q = WR (F 20) (F 21) q ∧ (F 21) q = (F 21) q) ∧ (∀ q, q ≠ 6 → (F 13) q = (F 13) q) := by exact ⟨fun _ _ => ⟨rfl, rfl⟩, fun _ _ => rfl⟩
                have qq1 : (∀ q, q < 240 → WR (F 18) (F 19) q = WR (F 18) (F 19) q) ∧ (∀ q, q ≠ 6 → (F 12) q = (F 12) q) := by exact ⟨fun _ _ => rfl, fun _ _ => rfl⟩
                have qq2 : (∀ q, q < 960 → WR c75_F14 c75_F15 q = WR (F 14) (F 15) q) ∧ (∀ q, q < 240 → c75_F16 q = (F 16) q ∧ c75_F17 q = (F 17) q) ∧ (∀ q, q ≠ 6 → c75_F11 q = (F 11) q) := by exact p75_0
                have qq3 : OUTI (itmF f n e d) (1 : Int32) c75_g7 c75_g8 (fun e1 d1 => TKS f n e1 c109_g3.toInt c109_g4.toInt c109_g5.toInt c109_g6.toInt ∧ (entR ((F 13) 6) (F 20) (F 21) 480, prtR ((F 12) 6) (F 18) (F 19) 240, lwsR (c75_F11 6) c75_F14 c75_F15 c75_F16 c75_F17 240) = d1 ∧ c75_g7.toInt = (g 7).toInt ∧ c75_g8.toInt = (g 8).toInt) := by exact ⟨fun q => absurd q (by omega), fun _ => ⟨_, _, by rw [ho]; exact oB_o (fCl_ok (TKS_3 hk1 (by omega)).1), p109_0, hdd, by omega, by omega⟩⟩
                exact pw_some ⟨qq0, qq1, qq2, qq3⟩
              · have c99 := z_ne c99
                have hMI104 : id (MInv (upd (upd (upd (upd (upd (upd g 3 c75_g3) 4 c75_g4) 5 c75_g5) 6 c75_g6) 7 c75_g7) 8 c75_g8) (upF (upF (upF (upF (upF F 11 c75_F11) 14 c75_F14) 15 c75_F15) 16 c75_F16) 17 c75_F17)) := show MInv (upd (upd (upd (upd (upd (upd g 3 c75_g3) 4 c75_g4) 5 c75_g5) 6 c75_g6) 7 c75_g7) 8 c75_g8) (upF (upF (upF (upF (upF F 11 c75_F11) 14 c75_F14) 15 c75_F15) 16 c75_F16) 17 c75_F17) from (MInv_i ((hI9.1)) hzg2 hg106 hg107 hg108 hg109 hg110 hg111 hzg9 ((hI9.2.2.2.2.2.2.2.2.2.1)) ((hI9.2.2.2.2.2.2.2.2.2.2.1)) ((hI9.2.2.2.2.2.2.2.2.2.2.2.1)) ((hI9.2.2.2.2.2.2.2.2.2.2.2.2.1)) ((hI9.2.2.2.2.2.2.2.2.2.2.2.2.2.1)) ((hI9.2.2.2.2.2.2.2.2.2.2.2.2.2.2.1)) ((hI9.2.2.2.2.2.2.2.2.2.2.2.2.2.2.2.1)) ((hI9.2.2.2.2.2.2.2.2.2.2.2.2.2.2.2.2.1)) ((hI9.2.2.2.2.2.2.2.2.2.2.2.2.2.2.2.2.2.1)) ((hI9.2.2.2.2.2.2.2.2.2.2.2.2.2.2.2.2.2.2.1)) ((hI9.2.2.2.2.2.2.2.2.2.2.2.2.2.2.2.2.2.2.2.1)) ((hI9.2.2.2.2.2.2.2.2.2.2.2.2.2.2.2.2.2.2.2.2.1)) ((hI9.2.2.2.2.2.2.2.2.2.2.2.2.2.2.2.2.2.2.2.2.2.1)) ((hI9.2.2.2.2.2.2.2.2.2.2.2.2.2.2.2.2.2.2.2.2.2.2.1)) ((hI9.2.2.2.2.2.2.2.2.2.2.2.2.2.2.2.2.2.2.2.2.2.2.2.1)) ((hI9.2.2.2.2.2.2.2.2.2.2.2.2.2.2.2.2.2.2.2.2.2.2.2.2.1)) hg112 hzF12 hzF13 hg113 hzF19 hzF21 hzF24 hzF25 hzF26 hzF33 hzF38 hzF41 hzF43 hzF45 hzF46 hzF50 hzF53 hzF54 hLQ114)
                have hpr104_0 : 0 ≤ (1 : Int32).toInt ∧ (1 : Int32).toInt ≤ 4 := by first | assumption | omega
                refine pw_b3 (fun r104 c104_g7 c104_g8 hc104 => ?_)
                have hq104 := wp_at (ok_wrong (upd (upd (upd (upd (upd (upd g 3 c75_g3) 4 c75_g4) 5 c75_g5) 6 c75_g6) 7 c75_g7) 8 c75_g8) (upF (upF (upF (upF (upF F 11 c75_F11) 14 c75_F14) 15 c75_F15) 16 c75_F16) 17 c75_F17) (1 : Int32) hMI104 hpr104_0) hc104
                obtain ⟨hg124, hg125, f126, f127⟩ : (((0) ≤ c104_g7.toInt ∧ c104_g7.toInt ≤ 4)) ∧ (((-1) ≤ c104_g8.toInt ∧ c104_g8.toInt ≤ 2001)) ∧ (r104.toInt = 0) ∧ ((0 ≤ r104.toInt ∧ r104.toInt ≤ 1)) := hq104
                have hx104 := pwq (fn_wrong (upd (upd (upd (upd (upd (upd g 3 c75_g3) 4 c75_g4) 5 c75_g5) 6 c75_g6) 7 c75_g7) 8 c75_g8) (upF (upF (upF (upF (upF F 11 c75_F11) 14 c75_F14) 15 c75_F15) 16 c75_F16) 17 c75_F17) (1 : Int32) hMI104 hpr104_0) hc104
                obtain ⟨p104_0, p104_1, p104_2⟩ : (r104.toInt = 0) ∧ (c104_g7.toInt = (1 : Int32).toInt) ∧ (c104_g8.toInt = c75_g5.toInt) := hx104
                refine pw_if (fun hb107 => ?_)
                obtain ⟨hbl107, hbr107⟩ := hb107
                have qq0 : (∀ q, q < 480 → WR (F 20) (F 21) q = WR (F 20) (F 21) q ∧ (F 21) q = (F 21) q) ∧ (∀ q, q ≠ 6 → (F 13) q = (F 13) q) := by exact ⟨fun _ _ => ⟨rfl, rfl⟩, fun _ _ => rfl⟩
                have qq1 : (∀ q, q < 240 → WR (F 18) (F 19) q = WR (F 18) (F 19) q) ∧ (∀ q, q ≠ 6 → (F 12) q = (F 12) q) := by exact ⟨fun _ _ => rfl, fun _ _ => rfl⟩
                have qq2 : (∀ q, q < 960 → WR c75_F14 c75_F15 q = WR (F 14) (F 15) q) ∧ (∀ q, q < 240 → c75_F16 q = (F 16) q ∧ c75_F17 q = (F 17) q) ∧ (∀ q, q ≠ 6 → c75_F11 q = (F 11) q) := by exact p75_0
                have qq3 : OUTI (itmF f n e d) r104 c104_g7 c104_g8 (fun e1 d1 => TKS f n e1 c75_g3.toInt c75_g4.toInt c75_g5.toInt c75_g6.toInt ∧ (entR ((F 13) 6) (F 20) (F 21) 480, prtR ((F 12) 6) (F 18) (F 19) 240, lwsR (c75_F11 6) c75_F14 c75_F15 c75_F16 c75_F17 240) = d1 ∧ c104_g7.toInt = (g 7).toInt ∧ c104_g8.toInt = (g 8).toInt) := by refine ⟨fun _ => ⟨_, by rw [ho]; exact oB_e (fCl_bad (TKS_n3 hk1 (by omega))), ?_⟩, fun q => absurd q (by omega)⟩; exact err_of rfl (by omega) (by omega) (by omega)
                exact pw_some ⟨qq0, qq1, qq2, qq3⟩
          · have c71 := z_ne c71
            have hMI84 : id (MInv g F) := show MInv g F from (MInv_i ((hI9.1)) hzg2 hzg3 hzg4 hzg5 hzg6 hzg7 hzg8 hzg9 ((hI9.2.2.2.2.2.2.2.2.2.1)) ((hI9.2.2.2.2.2.2.2.2.2.2.1)) ((hI9.2.2.2.2.2.2.2.2.2.2.2.1)) ((hI9.2.2.2.2.2.2.2.2.2.2.2.2.1)) ((hI9.2.2.2.2.2.2.2.2.2.2.2.2.2.1)) ((hI9.2.2.2.2.2.2.2.2.2.2.2.2.2.2.1)) ((hI9.2.2.2.2.2.2.2.2.2.2.2.2.2.2.2.1)) ((hI9.2.2.2.2.2.2.2.2.2.2.2.2.2.2.2.2.1)) ((hI9.2.2.2.2.2.2.2.2.2.2.2.2.2.2.2.2.2.1)) ((hI9.2.2.2.2.2.2.2.2.2.2.2.2.2.2.2.2.2.2.1)) ((hI9.2.2.2.2.2.2.2.2.2.2.2.2.2.2.2.2.2.2.2.1)) ((hI9.2.2.2.2.2.2.2.2.2.2.2.2.2.2.2.2.2.2.2.2.1)) ((hI9.2.2.2.2.2.2.2.2.2.2.2.2.2.2.2.2.2.2.2.2.2.1)) ((hI9.2.2.2.2.2.2.2.2.2.2.2.2.2.2.2.2.2.2.2.2.2.2.1)) ((hI9.2.2.2.2.2.2.2.2.2.2.2.2.2.2.2.2.2.2.2.2.2.2.2.1)) ((hI9.2.2.2.2.2.2.2.2.2.2.2.2.2.2.2.2.2.2.2.2.2.2.2.2.1)) hzF11 hzF12 hzF13 hzF15 hzF19 hzF21 hzF24 hzF25 hzF26 hzF33 hzF38 hzF41 hzF43 hzF45 hzF46 hzF50 hzF53 hzF54 hzLQ)
            have hpr84_0 : 0 ≤ (1 : Int32).toInt ∧ (1 : Int32).toInt ≤ 4 := by first | assumption | omega
            refine pw_b3 (fun r84 c84_g7 c84_g8 hc84 => ?_)
            have hq84 := wp_at (ok_wrong g F (1 : Int32) hMI84 hpr84_0) hc84
            obtain ⟨hg128, hg129, f130, f131⟩ : (((0) ≤ c84_g7.toInt ∧ c84_g7.toInt ≤ 4)) ∧ (((-1) ≤ c84_g8.toInt ∧ c84_g8.toInt ≤ 2001)) ∧ (r84.toInt = 0) ∧ ((0 ≤ r84.toInt ∧ r84.toInt ≤ 1)) := hq84
            have hx84 := pwq (fn_wrong g F (1 : Int32) hMI84 hpr84_0) hc84
            obtain ⟨p84_0, p84_1, p84_2⟩ : (r84.toInt = 0) ∧ (c84_g7.toInt = (1 : Int32).toInt) ∧ (c84_g8.toInt = (g 5).toInt) := hx84
            refine pw_if (fun hb87 => ?_)
            obtain ⟨hbl87, hbr87⟩ := hb87
            have qq0 : (∀ q, q < 480 → WR (F 20) (F 21) q = WR (F 20) (F 21) q ∧ (F 21) q = (F 21) q) ∧ (∀ q, q ≠ 6 → (F 13) q = (F 13) q) := by exact ⟨fun _ _ => ⟨rfl, rfl⟩, fun _ _ => rfl⟩
            have qq1 : (∀ q, q < 240 → WR (F 18) (F 19) q = WR (F 18) (F 19) q) ∧ (∀ q, q ≠ 6 → (F 12) q = (F 12) q) := by exact ⟨fun _ _ => rfl, fun _ _ => rfl⟩
            have qq2 : (∀ q, q < 960 → WR (F 14) (F 15) q = WR (F 14) (F 15) q) ∧ (∀ q, q < 240 → (F 16) q = (F 16) q ∧ (F 17) q = (F 17) q) ∧ (∀ q, q ≠ 6 → (F 11) q = (F 11) q) := by exact ⟨fun _ _ => rfl, (fun _ _ => ⟨rfl, rfl⟩), fun _ _ => rfl⟩
            have qq3 : OUTI (itmF f n e d) r84 c84_g7 c84_g8 (fun e1 d1 => TKS f n e1 (g 3).toInt (g 4).toInt (g 5).toInt (g 6).toInt ∧ (entR ((F 13) 6) (F 20) (F 21) 480, prtR ((F 12) 6) (F 18) (F 19) 240, lwsR ((F 11) 6) (F 14) (F 15) (F 16) (F 17) 240) = d1 ∧ c84_g7.toInt = (g 7).toInt ∧ c84_g8.toInt = (g 8).toInt) := by refine ⟨fun _ => ⟨_, itm_x (TKS_nkey htk (by omega) (by omega)) (TKS_nkey htk (by omega) (by omega)) (TKS_nkey htk (by omega) (by omega)) (TKS_nkey htk (by omega) (by omega)), ?_⟩, fun q => absurd q (by omega)⟩; exact err_of rfl (by omega) (by omega) (by omega)
            exact pw_some ⟨qq0, qq1, qq2, qq3⟩
  · have c5 := z_ne c5
    have hMI10 : id (MInv g F) := show MInv g F from (MInv_i ((hI9.1)) hzg2 hzg3 hzg4 hzg5 hzg6 hzg7 hzg8 hzg9 ((hI9.2.2.2.2.2.2.2.2.2.1)) ((hI9.2.2.2.2.2.2.2.2.2.2.1)) ((hI9.2.2.2.2.2.2.2.2.2.2.2.1)) ((hI9.2.2.2.2.2.2.2.2.2.2.2.2.1)) ((hI9.2.2.2.2.2.2.2.2.2.2.2.2.2.1)) ((hI9.2.2.2.2.2.2.2.2.2.2.2.2.2.2.1)) ((hI9.2.2.2.2.2.2.2.2.2.2.2.2.2.2.2.1)) ((hI9.2.2.2.2.2.2.2.2.2.2.2.2.2.2.2.2.1)) ((hI9.2.2.2.2.2.2.2.2.2.2.2.2.2.2.2.2.2.1)) ((hI9.2.2.2.2.2.2.2.2.2.2.2.2.2.2.2.2.2.2.1)) ((hI9.2.2.2.2.2.2.2.2.2.2.2.2.2.2.2.2.2.2.2.1)) ((hI9.2.2.2.2.2.2.2.2.2.2.2.2.2.2.2.2.2.2.2.2.1)) ((hI9.2.2.2.2.2.2.2.2.2.2.2.2.2.2.2.2.2.2.2.2.2.1)) ((hI9.2.2.2.2.2.2.2.2.2.2.2.2.2.2.2.2.2.2.2.2.2.2.1)) ((hI9.2.2.2.2.2.2.2.2.2.2.2.2.2.2.2.2.2.2.2.2.2.2.2.1)) ((hI9.2.2.2.2.2.2.2.2.2.2.2.2.2.2.2.2.2.2.2.2.2.2.2.2.1)) hzF11 hzF12 hzF13 hzF15 hzF19 hzF21 hzF24 hzF25 hzF26 hzF33 hzF38 hzF41 hzF43 hzF45 hzF46 hzF50 hzF53 hzF54 hzLQ)
    have hpr10_0 : 0 ≤ (1 : Int32).toInt ∧ (1 : Int32).toInt ≤ 4 := by first | assumption | omega
    refine pw_b3 (fun r10 c10_g7 c10_g8 hc10 => ?_)
    have hq10 := wp_at (ok_wrong g F (1 : Int32) hMI10 hpr10_0) hc10
    obtain ⟨hg132, hg133, f134, f135⟩ : (((0) ≤ c10_g7.toInt ∧ c10_g7.toInt ≤ 4)) ∧ (((-1) ≤ c10_g8.toInt ∧ c10_g8.toInt ≤ 2001)) ∧ (r10.toInt = 0) ∧ ((0 ≤ r10.toInt ∧ r10.toInt ≤ 1)) := hq10
    have hx10 := pwq (fn_wrong g F (1 : Int32) hMI10 hpr10_0) hc10
    obtain ⟨p10_0, p10_1, p10_2⟩ : (r10.toInt = 0) ∧ (c10_g7.toInt = (1 : Int32).toInt) ∧ (c10_g8.toInt = (g 5).toInt) := hx10
    refine pw_if (fun hb13 => ?_)
    obtain ⟨hbl13, hbr13⟩ := hb13
    have qq0 : (∀ q, q < 480 → WR (F 20) (F 21) q = WR (F 20) (F 21) q ∧ (F 21) q = (F 21) q) ∧ (∀ q, q ≠ 6 → (F 13) q = (F 13) q) := by exact ⟨fun _ _ => ⟨rfl, rfl⟩, fun _ _ => rfl⟩
    have qq1 : (∀ q, q < 240 → WR (F 18) (F 19) q = WR (F 18) (F 19) q) ∧ (∀ q, q ≠ 6 → (F 12) q = (F 12) q) := by exact ⟨fun _ _ => rfl, fun _ _ => rfl⟩
    have qq2 : (∀ q, q < 960 → WR (F 14) (F 15) q = WR (F 14) (F 15) q) ∧ (∀ q, q < 240 → (F 16) q = (F 16) q ∧ (F 17) q = (F 17) q) ∧ (∀ q, q ≠ 6 → (F 11) q = (F 11) q) := by exact ⟨fun _ _ => rfl, (fun _ _ => ⟨rfl, rfl⟩), fun _ _ => rfl⟩
    have qq3 : OUTI (itmF f n e d) r10 c10_g7 c10_g8 (fun e1 d1 => TKS f n e1 (g 3).toInt (g 4).toInt (g 5).toInt (g 6).toInt ∧ (entR ((F 13) 6) (F 20) (F 21) 480, prtR ((F 12) 6) (F 18) (F 19) 240, lwsR ((F 11) 6) (F 14) (F 15) (F 16) (F 17) 240) = d1 ∧ c10_g7.toInt = (g 7).toInt ∧ c10_g8.toInt = (g 8).toInt) := by refine ⟨fun _ => ⟨_, itm_x (TKS_nkey htk (by omega) (by omega)) (TKS_nkey htk (by omega) (by omega)) (TKS_nkey htk (by omega) (by omega)) (TKS_nkey htk (by omega) (by omega)), ?_⟩, fun q => absurd q (by omega)⟩; exact err_of rfl (by omega) (by omega) (by omega)
    exact pw_some ⟨qq0, qq1, qq2, qq3⟩
abbrev QF_copy (A0 : (Nat → Int32)) (n0 : Nat) (A1 : (Nat → Int32)) (n1 : Nat) (p2 : Int32) (p3 : Int32) : ((Nat → Int32) × (Nat → Int32)) → Prop := (fun t => (WR (t.1) (t.2) (Int32.toNatClampNeg p3) = WR A0 A1 (Int32.toNatClampNeg p2)) ∧ ((∀ q, q ≠ Int32.toNatClampNeg p3 → WR (t.1) (t.2) q = WR A0 A1 q)))
set_option maxHeartbeats 4000000 in
set_option maxRecDepth 100000 in
theorem fn_copy (A0 : (Nat → Int32)) (n0 : Nat) (A1 : (Nat → Int32)) (n1 : Nat) (p2 : Int32) (p3 : Int32) (hzA1 : rng (-1) 16 A1) (hp0 : (0 ≤ p2.toInt ∧ p2.toInt < n1)) (hp1 : 16 * n1 ≤ n0) (hp2 : n0 ≤ 500000) (hp3 : (0 ≤ p3.toInt ∧ p3.toInt < n1)) (hne : p2.toInt ≠ p3.toInt) (hbw : BW (WR A0 A1 (Int32.toNatClampNeg p2))) : pw (f_copy A0 n0 A1 n1 p2 p3) (QF_copy A0 n0 A1 n1 p2 p3) := by
  unfold f_copy
  have zk0 : (0 : Int32).toInt = 0 := by decide +kernel
  have zk16 : (16 : Int32).toInt = 16 := by decide +kernel
  have cp2 := clampI (x := p2) (by omega)
  have cp3 := clampI (x := p3) (by omega)
  have hs2 := hzA1 (Int32.toNatClampNeg p2)
  refine pw_if (fun hb4 => ?_)
  obtain ⟨hbl4, hbr4⟩ := hb4
  have f1 := hzA1 (Int32.toNatClampNeg p2)
  refine pw_if (fun hb5 => ?_)
  obtain ⟨hbl5, hbr5⟩ := hb5
  refine pw_vl (fun w5 ew5 => ?_)
  have hF2 : rng (-1) 16 w5 := by rw [ew5]; exact rng_upd hzA1 (by omega) (by omega)
  have hsz : w5 (Int32.toNatClampNeg p2) = A1 (Int32.toNatClampNeg p2) := by rw [ew5, pk_un (by omega)]
  have hw5 : (w5 (Int32.toNatClampNeg p2)).toInt = (A1 (Int32.toNatClampNeg p2)).toInt := by rw [ew5, pk_un (by omega)]
  have lp9 : ∀ (n9 : Nat) (y9_4 : Int32) (d9_A0 : (Nat → Int32)), 0 ≤ y9_4.toInt → ((y9_4.toInt = 0 ∨ y9_4.toInt ≤ (A1 (Int32.toNatClampNeg p2)).toInt) ∧ y9_4.toInt ≤ 16) → (∀ q, (q < 16 * Int32.toNatClampNeg p3 ∨ 16 * Int32.toNatClampNeg p3 + 16 ≤ q) → d9_A0 q = A0 q) → (∀ i : Nat, (i : Int) < y9_4.toInt → d9_A0 (16 * Int32.toNatClampNeg p3 + i) = vp_nar .byte (A0 (16 * Int32.toNatClampNeg p2 + i))) → pw (L_copy_9 n0 n1 p2 p3 w5 n9 y9_4 d9_A0) (QF_copy A0 n0 A1 n1 p2 p3) := by
    intro n9
    induction n9 with
    | zero => intros; exact pw_none
    | succ n9 ih9 =>
      intro y9_4 d9_A0 f3 f4 ic9 id9
      show pw (B_copy_9 n0 n1 p2 p3 w5 (L_copy_9 n0 n1 p2 p3 w5 n9) y9_4 d9_A0) _
      unfold B_copy_9
      refine pw_if (fun hb13 => ?_)
      obtain ⟨hbl13, hbr13⟩ := hb13
      have f5 := hF2 (Int32.toNatClampNeg p2)
      refine pw_ite (fun c14 => ?_) (fun c14 => ?_)
      · have c14 := (z_le _ _).mp c14
        have qq0 : WR d9_A0 w5 (Int32.toNatClampNeg p3) = WR A0 A1 (Int32.toNatClampNeg p2) := by unfold WR; rw [(show Int32.toNatClampNeg (w5 (Int32.toNatClampNeg p3)) = Int32.toNatClampNeg (A1 (Int32.toNatClampNeg p2)) by rw [ew5, pk_us])]; refine wdl_ext (fun j hj => ?_); rw [hsz] at c14; have hj2 : (j : Int) < y9_4.toInt := (by by_cases q : 0 ≤ (A1 (Int32.toNatClampNeg p2)).toInt; (have c9 := clampI q; omega); (exfalso; have hz : Int32.toNatClampNeg (A1 (Int32.toNatClampNeg p2)) = 0 := (by show (A1 (Int32.toNatClampNeg p2)).toInt.toNat = 0; omega); omega)); rw [id9 j hj2]; exact hbw _ (wdl_mem hj)
        have qq1 : (∀ q, q ≠ Int32.toNatClampNeg p3 → WR d9_A0 w5 q = WR A0 A1 q) := by intro q hq; unfold WR; rw [ew5, pk_un hq]; refine wdl_ext (fun j hj => ?_); have hz := hzA1 q; have hj2 : j < 16 := (by by_cases q0 : 0 ≤ (A1 q).toInt; (have c9 := clampI q0; omega); (exfalso; have hz0 : Int32.toNatClampNeg (A1 q) = 0 := (by show (A1 q).toInt.toNat = 0; omega); omega)); exact ic9 _ (by omega)
        exact pw_some ⟨qq0, qq1⟩
      · have c14 := z_nle c14
        have f6 : (16 * p3).toInt = 16 * p3.toInt := z_muld (by decide +kernel) (by omega) (by omega)
        have f7 : ((16 * p3) + y9_4).toInt = (16 * p3).toInt + y9_4.toInt := z_add (by omega) (by omega)
        have f8 : (16 * p2).toInt = 16 * p2.toInt := z_muld (by decide +kernel) (by omega) (by omega)
        have f9 : ((16 * p2) + y9_4).toInt = (16 * p2).toInt + y9_4.toInt := z_add (by omega) (by omega)
        refine pw_if (fun hb33 => ?_)
        obtain ⟨hbl33, hbr33⟩ := hb33
        refine pw_if (fun hb34 => ?_)
        obtain ⟨hbl34, hbr34⟩ := hb34
        refine pw_vl (fun w34 ew34 => ?_)
        have f10 : (y9_4 + 1).toInt = y9_4.toInt + (1) := z_addc (by decide +kernel) (by omega) (by omega)
        have iv9_0 : 0 ≤ (y9_4 + 1).toInt := by omega
        have iv9_1 : (((y9_4 + 1).toInt = 0 ∨ (y9_4 + 1).toInt ≤ (A1 (Int32.toNatClampNeg p2)).toInt) ∧ (y9_4 + 1).toInt ≤ 16) := by omega
        have iv9_2 : (∀ q, (q < 16 * Int32.toNatClampNeg p3 ∨ 16 * Int32.toNatClampNeg p3 + 16 ≤ q) → w34 q = A0 q) := by intro q hq; have c4 := clampI (x := y9_4) (by omega); have c5 := clampI (x := (16 * p2) + y9_4) (by omega); have c6 := clampI (x := (16 * p3) + y9_4) (by omega); have c7 := clampI (x := y9_4 + 1) (by omega); rw [ew34, pk_un (by omega)]; exact ic9 q hq
        have iv9_3 : (∀ i : Nat, (i : Int) < (y9_4 + 1).toInt → w34 (16 * Int32.toNatClampNeg p3 + i) = vp_nar .byte (A0 (16 * Int32.toNatClampNeg p2 + i))) := by intro i hi; have c4 := clampI (x := y9_4) (by omega); have c5 := clampI (x := (16 * p2) + y9_4) (by omega); have c6 := clampI (x := (16 * p3) + y9_4) (by omega); have c7 := clampI (x := y9_4 + 1) (by omega); by_cases q : (i : Int) < y9_4.toInt; (rw [ew34, pk_un (by omega)]; exact id9 i q); (rw [ew34, show 16 * Int32.toNatClampNeg p3 + i = Int32.toNatClampNeg ((16 * p3) + y9_4) by omega, pk_us, show Int32.toNatClampNeg ((16 * p2) + y9_4) = 16 * Int32.toNatClampNeg p2 + i by omega]; exact congrArg (vp_nar .byte) (ic9 _ (by omega)))
        exact ih9 (y9_4 + 1) w34 iv9_0 iv9_1 iv9_2 iv9_3
  exact lp9 NN (0 : Int32) A0 (show 0 ≤ (0 : Int32).toInt from by omega) (show (((0 : Int32).toInt = 0 ∨ (0 : Int32).toInt ≤ (A1 (Int32.toNatClampNeg p2)).toInt) ∧ (0 : Int32).toInt ≤ 16) from by omega) (show (∀ q, (q < 16 * Int32.toNatClampNeg p3 ∨ 16 * Int32.toNatClampNeg p3 + 16 ≤ q) → A0 q = A0 q) from by intro q _; rfl) (show (∀ i : Nat, (i : Int) < (0 : Int32).toInt → A0 (16 * Int32.toNatClampNeg p3 + i) = vp_nar .byte (A0 (16 * Int32.toNatClampNeg p2 + i))) from by intro i hi; omega)
