abbrev QF_mixed (g : Nat → Int32) (F : Nat → Nat → Int32) (p0 : Int32) (d : Nat → Dr) (Ws : List Wd) : (Int32 × Int32 × Int32 × Int32 × Int32 × Int32 × Int32 × Int32 × Int32 × Int32 × (Nat → Int32) × (Nat → Int32) × (Nat → Int32) × (Nat → Int32) × (Nat → Int32) × (Nat → Int32) × (Nat → Int32) × (Nat → Int32) × (Nat → Int32) × (Nat → Int32) × (Nat → Int32) × (Nat → Int32) × (Nat → Int32) × (Nat → Int32) × (Nat → Int32) × (Nat → Int32) × (Nat → Int32) × (Nat → Int32) × (Nat → Int32)) → Prop := (fun t => (((t.2.2.2.2.2.2.2.2.1).toInt ≠ 0 → MKT (t.2.2.2.2.2.2.2.2.2.2.2.2.2.2.2.2.2.2.2.2.2.2.2.2.2.1) (t.2.2.2.2.2.2.2.2.2.2.2.2.2.2.2.2.2.2.2.2.2.2.2.1) (t.2.2.2.2.2.2.2.2.2.2.2.2.2.2.2.2.2.2.2.2.2.2.2.2.1) d Ws (fun w s => w < Int32.toNatClampNeg (g 48) ∧ s ≤ Int32.toNatClampNeg (g 9)))) ∧ ((¬ (0 ≤ p0.toInt ∧ p0.toInt ≤ 50) → (t.1).toInt = -2 ∧ (t.2.2.2.2.2.2.2.2.2.1) = (g 70) ∧ (t.2.2.2.2.2.2.2.2.2.2.2.2.2.2.2.2.2.2.2.2.2.2.2.2.2.2.2.2) = (F 69))) ∧ (((0 ≤ p0.toInt ∧ p0.toInt ≤ 50) → ¬ (NZR (F 0) (Int32.toNatClampNeg (g 1)) ∧ (lnN (F 0) (Int32.toNatClampNeg (g 1))) ≤ 40) → (t.1).toInt = -1 ∧ (t.2.2.2.2.2.2.2.2.2.1) = (g 70) ∧ (t.2.2.2.2.2.2.2.2.2.2.2.2.2.2.2.2.2.2.2.2.2.2.2.2.2.2.2.2) = (F 69))) ∧ (((0 ≤ p0.toInt ∧ p0.toInt ≤ 50) → NZR (F 0) (Int32.toNatClampNeg (g 1)) → (lnN (F 0) (Int32.toNatClampNeg (g 1))) ≤ 40 → (t.1) = owF2 (smK (MXC (F 0) (Int32.toNatClampNeg (g 1)) d Ws) (Int32.toNatClampNeg (g 9)) p0 (lnN (F 0) (Int32.toNatClampNeg (g 1))) (lnN (F 0) (Int32.toNatClampNeg (g 1)))) (Int32.toNatClampNeg (g 9)) p0 (-1) ∧ (t.2.2.2.2.2.2.2.2.2.1).toInt = (((lnN (F 0) (Int32.toNatClampNeg (g 1))) : Nat) : Int) ∧ ∀ j, j < (lnN (F 0) (Int32.toNatClampNeg (g 1))) → (t.2.2.2.2.2.2.2.2.2.2.2.2.2.2.2.2.2.2.2.2.2.2.2.2.2.2.2.2) j = Int32.ofNat (tlF (MXC (F 0) (Int32.toNatClampNeg (g 1)) d Ws) (Int32.toNatClampNeg (g 9)) p0 (lnN (F 0) (Int32.toNatClampNeg (g 1))) j))))
set_option maxHeartbeats 4000000 in
set_option maxRecDepth 100000 in
theorem fn_mixed (g : Nat → Int32) (F : Nat → Nat → Int32) (p0 : Int32) (d : Nat → Dr) (Ws : List Wd) (hI : MInv g F) (hrd : ∀ q, q < Int32.toNatClampNeg (g 9) → RVd (F 13) (F 20) (F 21) (F 12) (F 18) (F 19) (F 11) (F 14) (F 15) (F 16) (F 17) q = d q ∧ WFD (d q)) (hWs : rwW (g 48) (F 49) (F 50) 24 = Ws) (hWw : WDS Ws) (hmk : (g 51).toInt ≠ 0 → MKT (F 54) (F 52) (F 53) d Ws (fun w s => w < Int32.toNatClampNeg (g 48) ∧ s ≤ Int32.toNatClampNeg (g 9))) : pw (f_mixed g F p0) (QF_mixed g F p0 d Ws) := by
  unfold f_mixed
  have hI9 : id (MInv g F) := hI
  obtain ⟨hzg1, -, -, -, -, -, -, -, hzg9, -, -, -, -, -, -, -, -, hzg48, hzg51, -, -, -, -, -, hzg70, hzF11, hzF12, hzF13, hzF15, hzF19, hzF21, hzF24, hzF25, hzF26, hzF33, hzF38, hzF41, hzF43, hzF45, hzF46, hzF50, hzF53, hzF54, hzLQ⟩ := hI
  have zkm2 : (-2 : Int32).toInt = -2 := by decide +kernel
  have zkm1 : (-1 : Int32).toInt = -1 := by decide +kernel
  have zk0 : (0 : Int32).toInt = 0 := by decide +kernel
  have zk1 : (1 : Int32).toInt = 1 := by decide +kernel
  have zk7 : (7 : Int32).toInt = 7 := by decide +kernel
  have zk10 : (10 : Int32).toInt = 10 := by decide +kernel
  have zk34 : (34 : Int32).toInt = 34 := by decide +kernel
  have zk40 : (40 : Int32).toInt = 40 := by decide +kernel
  have zk50 : (50 : Int32).toInt = 50 := by decide +kernel
  have zk280 : (280 : Int32).toInt = 280 := by decide +kernel
  have hb9 := hzg9
  have c9 := clampI (x := g 9) (by omega)
  have hb1 := hzg1
  have c1 := clampI (x := g 1) (by omega)
  have hb48 := hzg48
  have c48 := clampI (x := g 48) (by omega)
  have hWl : Ws.length = Int32.toNatClampNeg (g 48) := by rw [← hWs]; exact rw_len
  have hg1 : ((0) ≤ (0 : Int32).toInt ∧ (0 : Int32).toInt ≤ 2000) := ⟨by omega, by omega⟩
  refine pw_b1 (fun r14 hc14 => ?_)
  have hq14 := wp_at (ok_in p0 (0 : Int32) (50 : Int32) ) hc14
  obtain ⟨f2, f3, f4⟩ : ((r14.toInt = 1 → (0 : Int32).toInt ≤ p0.toInt ∧ p0.toInt ≤ (50 : Int32).toInt)) ∧ ((r14.toInt = 0 → p0.toInt < (0 : Int32).toInt ∨ (50 : Int32).toInt < p0.toInt)) ∧ ((0 ≤ r14.toInt ∧ r14.toInt ≤ 1)) := hq14
  refine pw_ite (fun c17 => ?_) (fun c17 => ?_)
  · have c17 := congrArg Int32.toInt c17
    have qq0 : ((g 51).toInt ≠ 0 → MKT (F 54) (F 52) (F 53) d Ws (fun w s => w < Int32.toNatClampNeg (g 48) ∧ s ≤ Int32.toNatClampNeg (g 9))) := by exact hmk
    have qq1 : (¬ (0 ≤ p0.toInt ∧ p0.toInt ≤ 50) → (-2 : Int32).toInt = -2 ∧ (g 70) = (g 70) ∧ (F 69) = (F 69)) := by intro _; exact ⟨by omega, rfl, rfl⟩
    have qq2 : ((0 ≤ p0.toInt ∧ p0.toInt ≤ 50) → ¬ (NZR (F 0) (Int32.toNatClampNeg (g 1)) ∧ (lnN (F 0) (Int32.toNatClampNeg (g 1))) ≤ 40) → (-2 : Int32).toInt = -1 ∧ (g 70) = (g 70) ∧ (F 69) = (F 69)) := by intro h; exfalso; omega
    have qq3 : ((0 ≤ p0.toInt ∧ p0.toInt ≤ 50) → NZR (F 0) (Int32.toNatClampNeg (g 1)) → (lnN (F 0) (Int32.toNatClampNeg (g 1))) ≤ 40 → (-2 : Int32) = owF2 (smK (MXC (F 0) (Int32.toNatClampNeg (g 1)) d Ws) (Int32.toNatClampNeg (g 9)) p0 (lnN (F 0) (Int32.toNatClampNeg (g 1))) (lnN (F 0) (Int32.toNatClampNeg (g 1)))) (Int32.toNatClampNeg (g 9)) p0 (-1) ∧ (g 70).toInt = (((lnN (F 0) (Int32.toNatClampNeg (g 1))) : Nat) : Int) ∧ ∀ j, j < (lnN (F 0) (Int32.toNatClampNeg (g 1))) → (F 69) j = Int32.ofNat (tlF (MXC (F 0) (Int32.toNatClampNeg (g 1)) d Ws) (Int32.toNatClampNeg (g 9)) p0 (lnN (F 0) (Int32.toNatClampNeg (g 1))) j)) := by intro h; exfalso; omega
    exact pw_some ⟨qq0, qq1, qq2, qq3⟩
  · have c17 := z_ne c17
    have hin : 0 ≤ p0.toInt ∧ p0.toInt ≤ 50 := by omega
    have hMI25 : id (MInv (upd g 1 0) F) := show MInv (upd g 1 0) F from (MInv_i hg1 ((hI9.2.1)) ((hI9.2.2.1)) ((hI9.2.2.2.1)) ((hI9.2.2.2.2.1)) ((hI9.2.2.2.2.2.1)) ((hI9.2.2.2.2.2.2.1)) ((hI9.2.2.2.2.2.2.2.1)) hzg9 ((hI9.2.2.2.2.2.2.2.2.2.1)) ((hI9.2.2.2.2.2.2.2.2.2.2.1)) ((hI9.2.2.2.2.2.2.2.2.2.2.2.1)) ((hI9.2.2.2.2.2.2.2.2.2.2.2.2.1)) ((hI9.2.2.2.2.2.2.2.2.2.2.2.2.2.1)) ((hI9.2.2.2.2.2.2.2.2.2.2.2.2.2.2.1)) ((hI9.2.2.2.2.2.2.2.2.2.2.2.2.2.2.2.1)) ((hI9.2.2.2.2.2.2.2.2.2.2.2.2.2.2.2.2.1)) hzg48 hzg51 ((hI9.2.2.2.2.2.2.2.2.2.2.2.2.2.2.2.2.2.2.2.1)) ((hI9.2.2.2.2.2.2.2.2.2.2.2.2.2.2.2.2.2.2.2.2.1)) ((hI9.2.2.2.2.2.2.2.2.2.2.2.2.2.2.2.2.2.2.2.2.2.1)) ((hI9.2.2.2.2.2.2.2.2.2.2.2.2.2.2.2.2.2.2.2.2.2.2.1)) ((hI9.2.2.2.2.2.2.2.2.2.2.2.2.2.2.2.2.2.2.2.2.2.2.2.1)) hzg70 hzF11 hzF12 hzF13 hzF15 hzF19 hzF21 hzF24 hzF25 hzF26 hzF33 hzF38 hzF41 hzF43 hzF45 hzF46 hzF50 hzF53 hzF54 hzLQ)
    have hpr25_0 : (g 1).toInt ≤ 2000 := by first | assumption | omega
    refine pw_b1 (fun r25 hc25 => ?_)
    have hq25 := wp_at (ok_hasNought (upd g 1 0) F (g 1) hMI25 hpr25_0) hc25
    have f5 : (0 ≤ r25.toInt ∧ r25.toInt ≤ 1) := hq25
    clear hq25
    have hx25 := pwq (fn_hasNought (upd g 1 0) F (g 1) hMI25 hpr25_0) hc25
    obtain ⟨p25_0, p25_1⟩ : (id ((r25.toInt ≠ 0 → ¬ NZR (F 0) (Int32.toNatClampNeg (g 1))))) ∧ (id ((r25.toInt = 0 → NZR (F 0) (Int32.toNatClampNeg (g 1))))) := hx25
    refine pw_ite (fun c28 => ?_) (fun c28 => ?_)
    · have c28 := congrArg Int32.toInt c28
      have hnz := p25_1 (by omega)
      refine pw_jE (fun k70 ek70 => ?_)
      have lp38 : ∀ (n38 : Nat) (y38_3 : Int32) (y38_4 : Int32), (0 ≤ y38_4.toInt ∧ y38_4.toInt ≤ (g 1).toInt) → y38_3.toInt = 1 + c10 (F 0) y38_4.toInt.toNat → pw (L_mixed_38 g F k70 n38 y38_3 y38_4) (QF_mixed g F p0 d Ws) := by
        intro n38
        induction n38 with
        | zero => intros; exact pw_none
        | succ n38 ih38 =>
          intro y38_3 y38_4 f6 f7
          show pw (B_mixed_38 g F k70 (L_mixed_38 g F k70 n38) y38_3 y38_4) _
          unfold B_mixed_38
          refine pw_ite (fun c41 => ?_) (fun c41 => ?_)
          · have c41 := (z_le _ _).mp c41
            have hL3 : y38_3.toInt = (((lnN (F 0) (Int32.toNatClampNeg (g 1))) : Nat) : Int) := by have h9 : y38_3.toInt = 1 + c10 (F 0) y38_4.toInt.toNat := (by assumption); unfold lnN; rw [show Int32.toNatClampNeg (g 1) = y38_4.toInt.toNat by omega]; have h8 := c10_n (F 0) y38_4.toInt.toNat; omega
            refine pw_j1 ek70 (fun x70_3 ex70_3 => ?_)
            have ex70_3 := ex70_3.symm
            have f_x70_3 : x70_3.toInt = y38_3.toInt := by rw [ex70_3]
            have hcbn := c10_b (F 0) (g 1).toInt.toNat
            have hcb38 := c10_b (F 0) y38_4.toInt.toNat
            refine pw_ite (fun c73 => ?_) (fun c73 => ?_)
            · have c73 := (z_le _ _).mp c73
              have hMI79 : id (MInv (upd g 1 0) F) := show MInv (upd g 1 0) F from (MInv_i hg1 ((hI9.2.1)) ((hI9.2.2.1)) ((hI9.2.2.2.1)) ((hI9.2.2.2.2.1)) ((hI9.2.2.2.2.2.1)) ((hI9.2.2.2.2.2.2.1)) ((hI9.2.2.2.2.2.2.2.1)) hzg9 ((hI9.2.2.2.2.2.2.2.2.2.1)) ((hI9.2.2.2.2.2.2.2.2.2.2.1)) ((hI9.2.2.2.2.2.2.2.2.2.2.2.1)) ((hI9.2.2.2.2.2.2.2.2.2.2.2.2.1)) ((hI9.2.2.2.2.2.2.2.2.2.2.2.2.2.1)) ((hI9.2.2.2.2.2.2.2.2.2.2.2.2.2.2.1)) ((hI9.2.2.2.2.2.2.2.2.2.2.2.2.2.2.2.1)) ((hI9.2.2.2.2.2.2.2.2.2.2.2.2.2.2.2.2.1)) hzg48 hzg51 ((hI9.2.2.2.2.2.2.2.2.2.2.2.2.2.2.2.2.2.2.2.1)) ((hI9.2.2.2.2.2.2.2.2.2.2.2.2.2.2.2.2.2.2.2.2.1)) ((hI9.2.2.2.2.2.2.2.2.2.2.2.2.2.2.2.2.2.2.2.2.2.1)) ((hI9.2.2.2.2.2.2.2.2.2.2.2.2.2.2.2.2.2.2.2.2.2.2.1)) ((hI9.2.2.2.2.2.2.2.2.2.2.2.2.2.2.2.2.2.2.2.2.2.2.2.1)) hzg70 hzF11 hzF12 hzF13 hzF15 hzF19 hzF21 hzF24 hzF25 hzF26 hzF33 hzF38 hzF41 hzF43 hzF45 hzF46 hzF50 hzF53 hzF54 hzLQ)
              refine pw_b23 (fun c79_g23 c79_g27 c79_g30 c79_g34 c79_g36 c79_g39 c79_g51 c79_F22 c79_F24 c79_F25 c79_F26 c79_F28 c79_F29 c79_F31 c79_F32 c79_F33 c79_F37 c79_F38 c79_F40 c79_F41 c79_F52 c79_F53 c79_F54 hc79 => ?_)
              have hq79 := wp_at (ok_make (upd g 1 0) F hMI79) hc79
              obtain ⟨hg8, hg9, hg10, hg11, hg12, hg13, hg14, hg15, hg16, hg17, hg18, hg19, hg20, hg21, hg22⟩ : (((0) ≤ c79_g23.toInt ∧ c79_g23.toInt ≤ 24)) ∧ (((0) ≤ c79_g27.toInt ∧ c79_g27.toInt ≤ 30)) ∧ (((0) ≤ c79_g30.toInt ∧ c79_g30.toInt ≤ 384)) ∧ (((0) ≤ c79_g34.toInt ∧ c79_g34.toInt ≤ 30)) ∧ (((0) ≤ c79_g36.toInt ∧ c79_g36.toInt ≤ 1)) ∧ (((0) ≤ c79_g39.toInt ∧ c79_g39.toInt ≤ 12)) ∧ (((0) ≤ c79_g51.toInt ∧ c79_g51.toInt ≤ 1)) ∧ (rng (0) 24 c79_F24) ∧ (rng (0) 24 c79_F25) ∧ (rng (0) 24 c79_F26) ∧ (rng (0) 24 c79_F33) ∧ (rng (0) 24 c79_F38) ∧ (rng (0) 24 c79_F41) ∧ (rng (0) 24 c79_F53) ∧ (rng (0) 12 c79_F54) := hq79
              have h879_hrd : id (∀ q, q < Int32.toNatClampNeg (g 9) → RVd (F 13) (F 20) (F 21) (F 12) (F 18) (F 19) (F 11) (F 14) (F 15) (F 16) (F 17) q = d q ∧ WFD (d q)) := show ∀ q, q < Int32.toNatClampNeg (g 9) → RVd (F 13) (F 20) (F 21) (F 12) (F 18) (F 19) (F 11) (F 14) (F 15) (F 16) (F 17) q = d q ∧ WFD (d q) from by exact hrd
              have h879_hWs : rwW (g 48) (F 49) (F 50) 24 = Ws := by exact hWs
              have h879_hWw : WDS Ws := by exact hWw
              have h879_hmk : id ((g 51).toInt ≠ 0 → MKT (F 54) (F 52) (F 53) d Ws (fun w s => w < Int32.toNatClampNeg (g 48) ∧ s ≤ Int32.toNatClampNeg (g 9))) := show (g 51).toInt ≠ 0 → MKT (F 54) (F 52) (F 53) d Ws (fun w s => w < Int32.toNatClampNeg (g 48) ∧ s ≤ Int32.toNatClampNeg (g 9)) from by exact hmk
              have hx79 := pwq (fn_make (upd g 1 0) F (d) (Ws) hMI79 h879_hrd h879_hWs h879_hWw h879_hmk) hc79
              obtain ⟨p79_0, p79_1⟩ : (MKT c79_F54 c79_F52 c79_F53 d Ws (fun w s => w < Int32.toNatClampNeg (g 48) ∧ s ≤ Int32.toNatClampNeg (g 9))) ∧ (c79_g51.toInt ≠ 0) := hx79
              have hmt := p79_0
              have hfw : id (∀ s w, s ≤ (Int32.toNatClampNeg (g 9)) → WDS (FMT d Ws s w)) := show ∀ s w, s ≤ (Int32.toNatClampNeg (g 9)) → WDS (FMT d Ws s w) from fun s w hs => FMT_wds hWw (fun q hq => (hrd q (by omega)).2)
              refine pw_jE (fun k107 ek107 => ?_)
              have lp85 : ∀ (n85 : Nat) (y85_4 : Int32) (d85_F67 : (Nat → Int32)), (0 ≤ y85_4.toInt ∧ y85_4.toInt ≤ 280) → (∀ j, j < Int32.toNatClampNeg y85_4 → d85_F67 j = 0) → pw (L_mixed_85 k107 n85 y85_4 d85_F67) (QF_mixed g F p0 d Ws) := by
                intro n85
                induction n85 with
                | zero => intros; exact pw_none
                | succ n85 ih85 =>
                  intro y85_4 d85_F67 f23 iz85
                  show pw (B_mixed_85 k107 (L_mixed_85 k107 n85) y85_4 d85_F67) _
                  unfold B_mixed_85
                  refine pw_ite (fun c90 => ?_) (fun c90 => ?_)
                  · have c90 := (z_le _ _).mp c90
                    have hct0 : CTB d85_F67 d Ws (Int32.toNatClampNeg (g 9)) [] := CTB_0 (fun j hj => iz85 j (by have k4 := clampI (x := y85_4) (by omega); omega)) (by omega)
                    refine pw_j1 ek107 (fun z107_1 ez107_1 => ?_)
                    subst ez107_1
                    refine pw_jE (fun k314 ek314 => ?_)
                    have lp113 : ∀ (n113 : Nat) (y113_4 : Int32) (y113_5 : Int32) (d113_F67 : (Nat → Int32)), (0 ≤ y113_5.toInt ∧ y113_5.toInt ≤ (g 1).toInt) → (y113_4.toInt = c10 (F 0) y113_5.toInt.toNat) → (MIV (F 0) (Int32.toNatClampNeg (g 1)) d Ws (Int32.toNatClampNeg (g 9)) (Int32.toNatClampNeg y113_5) d113_F67) → pw (L_mixed_113 g F c79_g23 c79_g27 c79_g30 c79_g34 c79_g36 c79_g39 c79_g51 c79_F22 c79_F24 c79_F25 c79_F26 c79_F28 c79_F29 c79_F31 c79_F32 c79_F33 c79_F37 c79_F38 c79_F40 c79_F41 c79_F52 c79_F53 c79_F54 k314 n113 y113_4 y113_5 d113_F67) (QF_mixed g F p0 d Ws) := by
                      intro n113
                      induction n113 with
                      | zero => intros; exact pw_none
                      | succ n113 ih113 =>
                        intro y113_4 y113_5 d113_F67 f24 ct113 iw113
                        show pw (B_mixed_113 g F c79_g23 c79_g27 c79_g30 c79_g34 c79_g36 c79_g39 c79_g51 c79_F22 c79_F24 c79_F25 c79_F26 c79_F28 c79_F29 c79_F31 c79_F32 c79_F33 c79_F37 c79_F38 c79_F40 c79_F41 c79_F52 c79_F53 c79_F54 k314 (L_mixed_113 g F c79_g23 c79_g27 c79_g30 c79_g34 c79_g36 c79_g39 c79_g51 c79_F22 c79_F24 c79_F25 c79_F26 c79_F28 c79_F29 c79_F31 c79_F32 c79_F33 c79_F37 c79_F38 c79_F40 c79_F41 c79_F52 c79_F53 c79_F54 k314 n113) y113_4 y113_5 d113_F67) _
                        unfold B_mixed_113
                        refine pw_ite (fun c116 => ?_) (fun c116 => ?_)
                        · have c116 := (z_le _ _).mp c116
                          have hcost : id (∀ l s, l < 40 → s ≤ (Int32.toNatClampNeg (g 9)) → d113_F67 (7 * l + s) = (MXC (F 0) (Int32.toNatClampNeg (g 1)) d Ws) l s) := show ∀ l s, l < 40 → s ≤ (Int32.toNatClampNeg (g 9)) → d113_F67 (7 * l + s) = (MXC (F 0) (Int32.toNatClampNeg (g 1)) d Ws) l s from MIV_end iw113 (by have k5 := clampI (x := y113_5) (by omega); omega)
                          have k3 := clampI (x := y38_3) (by omega)
                          have hLe : (lnN (F 0) (Int32.toNatClampNeg (g 1))) = Int32.toNatClampNeg y38_3 := by omega
                          refine pw_j1 ek314 (fun z314_1 ez314_1 => ?_)
                          subst ez314_1
                          refine pw_jE (fun k345 ek345 => ?_)
                          have lp317 : ∀ (n317 : Nat) (y317_6 : Int32) (d317_F68 : (Nat → Int32)), (0 ≤ y317_6.toInt ∧ y317_6.toInt ≤ 7) → pw (L_mixed_317 g x70_3 k345 n317 y317_6 d317_F68) (QF_mixed g F p0 d Ws) := by
                            intro n317
                            induction n317 with
                            | zero => intros; exact pw_none
                            | succ n317 ih317 =>
                              intro y317_6 d317_F68 f25
                              show pw (B_mixed_317 g x70_3 k345 (L_mixed_317 g x70_3 k345 n317) y317_6 d317_F68) _
                              unfold B_mixed_317
                              refine pw_ite (fun c323 => ?_) (fun c323 => ?_)
                              · have c323 := (z_lt _ _).mp c323
                                refine pw_j1 ek345 (fun z345_1 ez345_1 => ?_)
                                subst ez345_1
                                have f26 : (x70_3 - 1).toInt = x70_3.toInt - 1 := z_subc (by decide +kernel) (by omega) (by omega)
                                refine pw_vl (fun x348 ex348 => ?_)
                                have f27 : x348.toInt = (x70_3 - 1).toInt := congrArg Int32.toInt ex348
                                refine pw_jE (fun k429 ek429 => ?_)
                                have lp350 : ∀ (n350 : Nat) (y350_6 : Int32) (d350_F68 : (Nat → Int32)), ((-1) ≤ y350_6.toInt ∧ y350_6.toInt < 40) → y350_6.toInt < y38_3.toInt → (SMT d350_F68 (MXC (F 0) (Int32.toNatClampNeg (g 1)) d Ws) (Int32.toNatClampNeg (g 9)) p0 (lnN (F 0) (Int32.toNatClampNeg (g 1))) ((y350_6.toInt + 1).toNat)) → pw (L_mixed_350 g F p0 x70_3 c79_g23 c79_g27 c79_g30 c79_g34 c79_g36 c79_g39 c79_g51 c79_F22 c79_F24 c79_F25 c79_F26 c79_F28 c79_F29 c79_F31 c79_F32 c79_F33 c79_F37 c79_F38 c79_F40 c79_F41 c79_F52 c79_F53 c79_F54 d113_F67 k429 n350 y350_6 d350_F68) (QF_mixed g F p0 d Ws) := by
                                  intro n350
                                  induction n350 with
                                  | zero => intros; exact pw_none
                                  | succ n350 ih350 =>
                                    intro y350_6 d350_F68 f28 f29 is350
                                    show pw (B_mixed_350 g F p0 x70_3 c79_g23 c79_g27 c79_g30 c79_g34 c79_g36 c79_g39 c79_g51 c79_F22 c79_F24 c79_F25 c79_F26 c79_F28 c79_F29 c79_F31 c79_F32 c79_F33 c79_F37 c79_F38 c79_F40 c79_F41 c79_F52 c79_F53 c79_F54 d113_F67 k429 (L_mixed_350 g F p0 x70_3 c79_g23 c79_g27 c79_g30 c79_g34 c79_g36 c79_g39 c79_g51 c79_F22 c79_F24 c79_F25 c79_F26 c79_F28 c79_F29 c79_F31 c79_F32 c79_F33 c79_F37 c79_F38 c79_F40 c79_F41 c79_F52 c79_F53 c79_F54 d113_F67 k429 n350) y350_6 d350_F68) _
                                    unfold B_mixed_350
                                    refine pw_ite (fun c352 => ?_) (fun c352 => ?_)
                                    · have c352 := (z_lt _ _).mp c352
                                      have hsm : id (∀ i s, i < (lnN (F 0) (Int32.toNatClampNeg (g 1))) → s ≤ (Int32.toNatClampNeg (g 9)) → d350_F68 (7 * i + s) = smK (MXC (F 0) (Int32.toNatClampNeg (g 1)) d Ws) (Int32.toNatClampNeg (g 9)) p0 (lnN (F 0) (Int32.toNatClampNeg (g 1))) ((lnN (F 0) (Int32.toNatClampNeg (g 1))) - i) s) := show ∀ i s, i < (lnN (F 0) (Int32.toNatClampNeg (g 1))) → s ≤ (Int32.toNatClampNeg (g 9)) → d350_F68 (7 * i + s) = smK (MXC (F 0) (Int32.toNatClampNeg (g 1)) d Ws) (Int32.toNatClampNeg (g 9)) p0 (lnN (F 0) (Int32.toNatClampNeg (g 1))) ((lnN (F 0) (Int32.toNatClampNeg (g 1))) - i) s from fun i s h1 h2 => is350 i s (by omega) h1 h2
                                      refine pw_j1 ek429 (fun z429_1 ez429_1 => ?_)
                                      subst ez429_1
                                      have hg30 : ((0) ≤ x70_3.toInt ∧ x70_3.toInt ≤ 40) := ⟨by omega, by omega⟩
                                      have hMI438 : id (MInv (upd (upd (upd (upd (upd (upd (upd (upd (upd g 1 0) 23 c79_g23) 27 c79_g27) 30 c79_g30) 34 c79_g34) 36 c79_g36) 39 c79_g39) 51 c79_g51) 70 x70_3) (upF (upF (upF (upF (upF (upF (upF (upF (upF (upF (upF (upF (upF (upF (upF (upF (upF (upF F 22 c79_F22) 24 c79_F24) 25 c79_F25) 26 c79_F26) 28 c79_F28) 29 c79_F29) 31 c79_F31) 32 c79_F32) 33 c79_F33) 37 c79_F37) 38 c79_F38) 40 c79_F40) 41 c79_F41) 52 c79_F52) 53 c79_F53) 54 c79_F54) 67 d113_F67) 68 d350_F68)) := show MInv (upd (upd (upd (upd (upd (upd (upd (upd (upd g 1 0) 23 c79_g23) 27 c79_g27) 30 c79_g30) 34 c79_g34) 36 c79_g36) 39 c79_g39) 51 c79_g51) 70 x70_3) (upF (upF (upF (upF (upF (upF (upF (upF (upF (upF (upF (upF (upF (upF (upF (upF (upF (upF F 22 c79_F22) 24 c79_F24) 25 c79_F25) 26 c79_F26) 28 c79_F28) 29 c79_F29) 31 c79_F31) 32 c79_F32) 33 c79_F33) 37 c79_F37) 38 c79_F38) 40 c79_F40) 41 c79_F41) 52 c79_F52) 53 c79_F53) 54 c79_F54) 67 d113_F67) 68 d350_F68) from (MInv_i hg1 ((hI9.2.1)) ((hI9.2.2.1)) ((hI9.2.2.2.1)) ((hI9.2.2.2.2.1)) ((hI9.2.2.2.2.2.1)) ((hI9.2.2.2.2.2.2.1)) ((hI9.2.2.2.2.2.2.2.1)) hzg9 hg8 hg9 hg10 hg11 hg12 hg13 ((hI9.2.2.2.2.2.2.2.2.2.2.2.2.2.2.2.1)) ((hI9.2.2.2.2.2.2.2.2.2.2.2.2.2.2.2.2.1)) hzg48 hg14 ((hI9.2.2.2.2.2.2.2.2.2.2.2.2.2.2.2.2.2.2.2.1)) ((hI9.2.2.2.2.2.2.2.2.2.2.2.2.2.2.2.2.2.2.2.2.1)) ((hI9.2.2.2.2.2.2.2.2.2.2.2.2.2.2.2.2.2.2.2.2.2.1)) ((hI9.2.2.2.2.2.2.2.2.2.2.2.2.2.2.2.2.2.2.2.2.2.2.1)) ((hI9.2.2.2.2.2.2.2.2.2.2.2.2.2.2.2.2.2.2.2.2.2.2.2.1)) hg30 hzF11 hzF12 hzF13 hzF15 hzF19 hzF21 hg15 hg16 hg17 hg18 hg19 hg20 hzF43 hzF45 hzF46 hzF50 hg21 hg22 hzLQ)
                                      have hpr438_0 : (0 ≤ (0 : Int32).toInt ∧ (0 : Int32).toInt ≤ 40) := by first | assumption | omega
                                      refine pw_b1 (fun r438 hc438 => ?_)
                                      have hq438 := wp_at (ok_onward (upd (upd (upd (upd (upd (upd (upd (upd (upd g 1 0) 23 c79_g23) 27 c79_g27) 30 c79_g30) 34 c79_g34) 36 c79_g36) 39 c79_g39) 51 c79_g51) 70 x70_3) (upF (upF (upF (upF (upF (upF (upF (upF (upF (upF (upF (upF (upF (upF (upF (upF (upF (upF F 22 c79_F22) 24 c79_F24) 25 c79_F25) 26 c79_F26) 28 c79_F28) 29 c79_F29) 31 c79_F31) 32 c79_F32) 33 c79_F33) 37 c79_F37) 38 c79_F38) 40 c79_F40) 41 c79_F41) 52 c79_F52) 53 c79_F53) 54 c79_F54) 67 d113_F67) 68 d350_F68) (0 : Int32) (-1 : Int32) p0 hMI438 hpr438_0) hc438
                                      have f31 : owJ d350_F68 (0 : Int32) (-1 : Int32) p0 (g 9) r438 := hq438
                                      clear hq438
                                      have hx438 := pwq (fn_onward (upd (upd (upd (upd (upd (upd (upd (upd (upd g 1 0) 23 c79_g23) 27 c79_g27) 30 c79_g30) 34 c79_g34) 36 c79_g36) 39 c79_g39) 51 c79_g51) 70 x70_3) (upF (upF (upF (upF (upF (upF (upF (upF (upF (upF (upF (upF (upF (upF (upF (upF (upF (upF F 22 c79_F22) 24 c79_F24) 25 c79_F25) 26 c79_F26) 28 c79_F28) 29 c79_F29) 31 c79_F31) 32 c79_F32) 33 c79_F33) 37 c79_F37) 38 c79_F38) 40 c79_F40) 41 c79_F41) 52 c79_F52) 53 c79_F53) 54 c79_F54) 67 d113_F67) 68 d350_F68) (0 : Int32) (-1 : Int32) p0 hMI438 hpr438_0) hc438
                                      have p438_0 : r438 = owF2 (fun t => d350_F68 (7 * Int32.toNatClampNeg (0 : Int32) + t)) (Int32.toNatClampNeg (g 9)) p0 (-1 : Int32).toInt := hx438
                                      clear hx438
                                      have lp449 : ∀ (n449 : Nat) (y449_7 : Int32) (y449_8 : Int32) (d449_F69 : (Nat → Int32)), (0 ≤ y449_8.toInt ∧ y449_8.toInt ≤ 40) → ((-1) ≤ y449_7.toInt ∧ y449_7.toInt ≤ 6) → y449_8.toInt ≤ y38_3.toInt → (∀ j, j < Int32.toNatClampNeg y449_8 → d449_F69 j = Int32.ofNat (tlF (MXC (F 0) (Int32.toNatClampNeg (g 1)) d Ws) (Int32.toNatClampNeg (g 9)) p0 (lnN (F 0) (Int32.toNatClampNeg (g 1))) j)) → (y449_7.toInt = tlA (MXC (F 0) (Int32.toNatClampNeg (g 1)) d Ws) (Int32.toNatClampNeg (g 9)) p0 (lnN (F 0) (Int32.toNatClampNeg (g 1))) (Int32.toNatClampNeg y449_8)) → pw (L_mixed_449 g F p0 x70_3 c79_g23 c79_g27 c79_g30 c79_g34 c79_g36 c79_g39 c79_g51 c79_F22 c79_F24 c79_F25 c79_F26 c79_F28 c79_F29 c79_F31 c79_F32 c79_F33 c79_F37 c79_F38 c79_F40 c79_F41 c79_F52 c79_F53 c79_F54 d113_F67 d350_F68 r438 n449 y449_7 y449_8 d449_F69) (QF_mixed g F p0 d Ws) := by
                                        intro n449
                                        induction n449 with
                                        | zero => intros; exact pw_none
                                        | succ n449 ih449 =>
                                          intro y449_7 y449_8 d449_F69 f32 f33 f34 it449 ia449
                                          show pw (B_mixed_449 g F p0 x70_3 c79_g23 c79_g27 c79_g30 c79_g34 c79_g36 c79_g39 c79_g51 c79_F22 c79_F24 c79_F25 c79_F26 c79_F28 c79_F29 c79_F31 c79_F32 c79_F33 c79_F37 c79_F38 c79_F40 c79_F41 c79_F52 c79_F53 c79_F54 d113_F67 d350_F68 r438 (L_mixed_449 g F p0 x70_3 c79_g23 c79_g27 c79_g30 c79_g34 c79_g36 c79_g39 c79_g51 c79_F22 c79_F24 c79_F25 c79_F26 c79_F28 c79_F29 c79_F31 c79_F32 c79_F33 c79_F37 c79_F38 c79_F40 c79_F41 c79_F52 c79_F53 c79_F54 d113_F67 d350_F68 r438 n449) y449_7 y449_8 d449_F69) _
                                          unfold B_mixed_449
                                          refine pw_ite (fun c452 => ?_) (fun c452 => ?_)
                                          · have c452 := (z_le _ _).mp c452
                                            have qq0 : (c79_g51.toInt ≠ 0 → MKT c79_F54 c79_F52 c79_F53 d Ws (fun w s => w < Int32.toNatClampNeg (g 48) ∧ s ≤ Int32.toNatClampNeg (g 9))) := by exact fun _ => p79_0
                                            have qq1 : (¬ (0 ≤ p0.toInt ∧ p0.toInt ≤ 50) → r438.toInt = -2 ∧ x70_3 = (g 70) ∧ d449_F69 = (F 69)) := by intro h; exfalso; exact h hin
                                            have qq2 : ((0 ≤ p0.toInt ∧ p0.toInt ≤ 50) → ¬ (NZR (F 0) (Int32.toNatClampNeg (g 1)) ∧ (lnN (F 0) (Int32.toNatClampNeg (g 1))) ≤ 40) → r438.toInt = -1 ∧ x70_3 = (g 70) ∧ d449_F69 = (F 69)) := by intro _ h; exfalso; exact h ⟨hnz, by omega⟩
                                            have qq3 : ((0 ≤ p0.toInt ∧ p0.toInt ≤ 50) → NZR (F 0) (Int32.toNatClampNeg (g 1)) → (lnN (F 0) (Int32.toNatClampNeg (g 1))) ≤ 40 → r438 = owF2 (smK (MXC (F 0) (Int32.toNatClampNeg (g 1)) d Ws) (Int32.toNatClampNeg (g 9)) p0 (lnN (F 0) (Int32.toNatClampNeg (g 1))) (lnN (F 0) (Int32.toNatClampNeg (g 1)))) (Int32.toNatClampNeg (g 9)) p0 (-1) ∧ x70_3.toInt = (((lnN (F 0) (Int32.toNatClampNeg (g 1))) : Nat) : Int) ∧ ∀ j, j < (lnN (F 0) (Int32.toNatClampNeg (g 1))) → d449_F69 j = Int32.ofNat (tlF (MXC (F 0) (Int32.toNatClampNeg (g 1)) d Ws) (Int32.toNatClampNeg (g 9)) p0 (lnN (F 0) (Int32.toNatClampNeg (g 1))) j)) := by intro _ _ _; have k8 := clampI (x := y449_8) (by omega); refine ⟨?_, by omega, fun j hj => it449 j (by omega)⟩; rw [p438_0, show (-1 : Int32).toInt = -1 by decide]; exact owF2_ext (fun t ht => by have h9 := hsm 0 t (by unfold lnN; omega) ht; rw [show Int32.toNatClampNeg (0 : Int32) = 0 from rfl]; exact h9)
                                            exact pw_some ⟨qq0, qq1, qq2, qq3⟩
                                          · have c452 := z_nle c452
                                            have k8 := clampI (x := y449_8) (by omega)
                                            have hMI461 : id (MInv (upd (upd (upd (upd (upd (upd (upd (upd (upd g 1 0) 23 c79_g23) 27 c79_g27) 30 c79_g30) 34 c79_g34) 36 c79_g36) 39 c79_g39) 51 c79_g51) 70 x70_3) (upF (upF (upF (upF (upF (upF (upF (upF (upF (upF (upF (upF (upF (upF (upF (upF (upF (upF (upF F 22 c79_F22) 24 c79_F24) 25 c79_F25) 26 c79_F26) 28 c79_F28) 29 c79_F29) 31 c79_F31) 32 c79_F32) 33 c79_F33) 37 c79_F37) 38 c79_F38) 40 c79_F40) 41 c79_F41) 52 c79_F52) 53 c79_F53) 54 c79_F54) 67 d113_F67) 68 d350_F68) 69 d449_F69)) := show MInv (upd (upd (upd (upd (upd (upd (upd (upd (upd g 1 0) 23 c79_g23) 27 c79_g27) 30 c79_g30) 34 c79_g34) 36 c79_g36) 39 c79_g39) 51 c79_g51) 70 x70_3) (upF (upF (upF (upF (upF (upF (upF (upF (upF (upF (upF (upF (upF (upF (upF (upF (upF (upF (upF F 22 c79_F22) 24 c79_F24) 25 c79_F25) 26 c79_F26) 28 c79_F28) 29 c79_F29) 31 c79_F31) 32 c79_F32) 33 c79_F33) 37 c79_F37) 38 c79_F38) 40 c79_F40) 41 c79_F41) 52 c79_F52) 53 c79_F53) 54 c79_F54) 67 d113_F67) 68 d350_F68) 69 d449_F69) from (MInv_i hg1 ((hI9.2.1)) ((hI9.2.2.1)) ((hI9.2.2.2.1)) ((hI9.2.2.2.2.1)) ((hI9.2.2.2.2.2.1)) ((hI9.2.2.2.2.2.2.1)) ((hI9.2.2.2.2.2.2.2.1)) hzg9 hg8 hg9 hg10 hg11 hg12 hg13 ((hI9.2.2.2.2.2.2.2.2.2.2.2.2.2.2.2.1)) ((hI9.2.2.2.2.2.2.2.2.2.2.2.2.2.2.2.2.1)) hzg48 hg14 ((hI9.2.2.2.2.2.2.2.2.2.2.2.2.2.2.2.2.2.2.2.1)) ((hI9.2.2.2.2.2.2.2.2.2.2.2.2.2.2.2.2.2.2.2.2.1)) ((hI9.2.2.2.2.2.2.2.2.2.2.2.2.2.2.2.2.2.2.2.2.2.1)) ((hI9.2.2.2.2.2.2.2.2.2.2.2.2.2.2.2.2.2.2.2.2.2.2.1)) ((hI9.2.2.2.2.2.2.2.2.2.2.2.2.2.2.2.2.2.2.2.2.2.2.2.1)) hg30 hzF11 hzF12 hzF13 hzF15 hzF19 hzF21 hg15 hg16 hg17 hg18 hg19 hg20 hzF43 hzF45 hzF46 hzF50 hg21 hg22 hzLQ)
                                            have hpr461_0 : (0 ≤ y449_8.toInt ∧ y449_8.toInt ≤ 40) := by first | assumption | omega
                                            refine pw_b1 (fun r461 hc461 => ?_)
                                            have hq461 := wp_at (ok_onward (upd (upd (upd (upd (upd (upd (upd (upd (upd g 1 0) 23 c79_g23) 27 c79_g27) 30 c79_g30) 34 c79_g34) 36 c79_g36) 39 c79_g39) 51 c79_g51) 70 x70_3) (upF (upF (upF (upF (upF (upF (upF (upF (upF (upF (upF (upF (upF (upF (upF (upF (upF (upF (upF F 22 c79_F22) 24 c79_F24) 25 c79_F25) 26 c79_F26) 28 c79_F28) 29 c79_F29) 31 c79_F31) 32 c79_F32) 33 c79_F33) 37 c79_F37) 38 c79_F38) 40 c79_F40) 41 c79_F41) 52 c79_F52) 53 c79_F53) 54 c79_F54) 67 d113_F67) 68 d350_F68) 69 d449_F69) y449_8 y449_7 p0 hMI461 hpr461_0) hc461
                                            have f35 : owJ d350_F68 y449_8 y449_7 p0 (g 9) r461 := hq461
                                            clear hq461
                                            have hx461 := pwq (fn_onward (upd (upd (upd (upd (upd (upd (upd (upd (upd g 1 0) 23 c79_g23) 27 c79_g27) 30 c79_g30) 34 c79_g34) 36 c79_g36) 39 c79_g39) 51 c79_g51) 70 x70_3) (upF (upF (upF (upF (upF (upF (upF (upF (upF (upF (upF (upF (upF (upF (upF (upF (upF (upF (upF F 22 c79_F22) 24 c79_F24) 25 c79_F25) 26 c79_F26) 28 c79_F28) 29 c79_F29) 31 c79_F31) 32 c79_F32) 33 c79_F33) 37 c79_F37) 38 c79_F38) 40 c79_F40) 41 c79_F41) 52 c79_F52) 53 c79_F53) 54 c79_F54) 67 d113_F67) 68 d350_F68) 69 d449_F69) y449_8 y449_7 p0 hMI461 hpr461_0) hc461
                                            have p461_0 : r461 = owF2 (fun t => d350_F68 (7 * Int32.toNatClampNeg y449_8 + t)) (Int32.toNatClampNeg (g 9)) p0 y449_7.toInt := hx461
                                            clear hx461
                                            have h461 : r461 = owF2 (smK (MXC (F 0) (Int32.toNatClampNeg (g 1)) d Ws) (Int32.toNatClampNeg (g 9)) p0 (lnN (F 0) (Int32.toNatClampNeg (g 1))) ((lnN (F 0) (Int32.toNatClampNeg (g 1))) - Int32.toNatClampNeg y449_8)) (Int32.toNatClampNeg (g 9)) p0 (tlA (MXC (F 0) (Int32.toNatClampNeg (g 1)) d Ws) (Int32.toNatClampNeg (g 9)) p0 (lnN (F 0) (Int32.toNatClampNeg (g 1))) (Int32.toNatClampNeg y449_8)) := by rw [p461_0, ia449]; exact owF2_ext (fun t ht => hsm _ t (by omega) ht)
                                            refine pw_jE (fun k512 ek512 => ?_)
                                            have lp469 : ∀ (n469 : Nat) (y469_10 : Int32), (0 ≤ y469_10.toInt ∧ y469_10.toInt ≤ 7) → owW d350_F68 y449_8 y449_7 p0 y469_10 (g 9) r461 → (∀ j, j < Int32.toNatClampNeg y469_10 → ((fun t => smK (MXC (F 0) (Int32.toNatClampNeg (g 1)) d Ws) (Int32.toNatClampNeg (g 9)) p0 (lnN (F 0) (Int32.toNatClampNeg (g 1))) ((lnN (F 0) (Int32.toNatClampNeg (g 1))) - Int32.toNatClampNeg y449_8) t + prF p0 (tlA (MXC (F 0) (Int32.toNatClampNeg (g 1)) d Ws) (Int32.toNatClampNeg (g 9)) p0 (lnN (F 0) (Int32.toNatClampNeg (g 1))) (Int32.toNatClampNeg y449_8)) t) j) ≠ r461) → pw (L_mixed_469 p0 d350_F68 y449_7 y449_8 r461 k512 n469 y469_10) (QF_mixed g F p0 d Ws) := by
                                              intro n469
                                              induction n469 with
                                              | zero => intros; exact pw_none
                                              | succ n469 ih469 =>
                                                intro y469_10 f36 f37 iq469
                                                show pw (B_mixed_469 p0 d350_F68 y449_7 y449_8 r461 k512 (L_mixed_469 p0 d350_F68 y449_7 y449_8 r461 k512 n469) y469_10) _
                                                unfold B_mixed_469
                                                have how : owW d350_F68 y449_8 y449_7 p0 y469_10 (g 9) r461 := by assumption
                                                have hob := ow_b how
                                                have f38 : (7 * y449_8).toInt = 7 * y449_8.toInt := z_muld (by decide +kernel) (by omega) (by omega)
                                                have f39 : ((7 * y449_8) + y469_10).toInt = (7 * y449_8).toInt + y469_10.toInt := z_add (by omega) (by omega)
                                                refine pw_if (fun hb481 => ?_)
                                                obtain ⟨hbl481, hbr481⟩ := hb481
                                                refine pw_jE (fun j500 ej500 => ?_)
                                                refine pw_jE (fun j495 ej495 => ?_)
                                                refine pw_ite (fun c485 => ?_) (fun c485 => ?_)
                                                · have c485 := congrArg Int32.toInt c485
                                                  refine pw_j0 ej495 ?_
                                                  refine pw_j1 ej500 (fun t500_0 et500_0 => ?_)
                                                  have et500_0 := et500_0.symm
                                                  have f_t500_0 : t500_0.toInt = 0 := by rw [et500_0]; decide +kernel
                                                  refine pw_ite (fun c503 => ?_) (fun c503 => ?_)
                                                  · have c503 := congrArg Int32.toInt c503
                                                    have hval : (d350_F68 (Int32.toNatClampNeg ((7 * y449_8) + y469_10))) + t500_0 = ((fun t => smK (MXC (F 0) (Int32.toNatClampNeg (g 1)) d Ws) (Int32.toNatClampNeg (g 9)) p0 (lnN (F 0) (Int32.toNatClampNeg (g 1))) ((lnN (F 0) (Int32.toNatClampNeg (g 1))) - Int32.toNatClampNeg y449_8) t + prF p0 (tlA (MXC (F 0) (Int32.toNatClampNeg (g 1)) d Ws) (Int32.toNatClampNeg (g 9)) p0 (lnN (F 0) (Int32.toNatClampNeg (g 1))) (Int32.toNatClampNeg y449_8)) t) (Int32.toNatClampNeg y469_10)) := by have k10 := clampI (x := y469_10) (by omega); have ki := clampI (x := (7 * y449_8) + y469_10) (by omega); show _ = smK (MXC (F 0) (Int32.toNatClampNeg (g 1)) d Ws) (Int32.toNatClampNeg (g 9)) p0 (lnN (F 0) (Int32.toNatClampNeg (g 1))) ((lnN (F 0) (Int32.toNatClampNeg (g 1))) - Int32.toNatClampNeg y449_8) (Int32.toNatClampNeg y469_10) + prF p0 (tlA (MXC (F 0) (Int32.toNatClampNeg (g 1)) d Ws) (Int32.toNatClampNeg (g 9)) p0 (lnN (F 0) (Int32.toNatClampNeg (g 1))) (Int32.toNatClampNeg y449_8)) (Int32.toNatClampNeg y469_10); rw [← ia449, show Int32.toNatClampNeg ((7 * y449_8) + y469_10) = 7 * Int32.toNatClampNeg y449_8 + Int32.toNatClampNeg y469_10 by omega, hsm _ _ (by omega) (by omega), et500_0]; first | rw [prF_0 (by omega)] | rw [prF_1 (by omega)]
                                                    have k10 := clampI (x := y469_10) (by omega)
                                                    have hfs : Int32.toNatClampNeg y469_10 = tlF (MXC (F 0) (Int32.toNatClampNeg (g 1)) d Ws) (Int32.toNatClampNeg (g 9)) p0 (lnN (F 0) (Int32.toNatClampNeg (g 1))) (Int32.toNatClampNeg y449_8) := by rw [tl_un]; exact fs_uniq (hval.symm.trans ((z_e c503).trans h461)) (fun j hj => by have h9 := iq469 j hj; rw [h461] at h9; exact h9)
                                                    refine pw_j1 ek512 (fun x512_10 ex512_10 => ?_)
                                                    have ex512_10 := ex512_10.symm
                                                    have f_x512_10 : x512_10.toInt = y469_10.toInt := by rw [ex512_10]
                                                    refine pw_if (fun hb520 => ?_)
                                                    obtain ⟨hbl520, hbr520⟩ := hb520
                                                    refine pw_vl (fun w520 ew520 => ?_)
                                                    have f40 : (y449_8 + 1).toInt = y449_8.toInt + (1) := z_addc (by decide +kernel) (by omega) (by omega)
                                                    have iv449_0 : (0 ≤ (y449_8 + 1).toInt ∧ (y449_8 + 1).toInt ≤ 40) := by omega
                                                    have iv449_1 : ((-1) ≤ x512_10.toInt ∧ x512_10.toInt ≤ 6) := by omega
                                                    have iv449_2 : (y449_8 + 1).toInt ≤ y38_3.toInt := by omega
                                                    have iv449_3 : (∀ j, j < Int32.toNatClampNeg (y449_8 + 1) → w520 j = Int32.ofNat (tlF (MXC (F 0) (Int32.toNatClampNeg (g 1)) d Ws) (Int32.toNatClampNeg (g 9)) p0 (lnN (F 0) (Int32.toNatClampNeg (g 1))) j)) := by have k8 := clampI (x := y449_8) (by omega); have k9 := clampI (x := y449_8 + 1) (by omega); have k10 := clampI (x := y469_10) (by omega); intro j hj; by_cases q9 : j = Int32.toNatClampNeg y449_8; (rw [q9, ew520, pk_us, ← hfs]; exact z_e (by rw [Int32.toInt_ofNat_of_lt (by omega)]; omega)); (rw [ew520, pk_un q9]; exact it449 j (by omega))
                                                    have iv449_4 : (x512_10.toInt = tlA (MXC (F 0) (Int32.toNatClampNeg (g 1)) d Ws) (Int32.toNatClampNeg (g 9)) p0 (lnN (F 0) (Int32.toNatClampNeg (g 1))) (Int32.toNatClampNeg (y449_8 + 1))) := by have k8 := clampI (x := y449_8) (by omega); have k9 := clampI (x := y449_8 + 1) (by omega); have k10 := clampI (x := y469_10) (by omega); rw [show Int32.toNatClampNeg (y449_8 + 1) = Int32.toNatClampNeg y449_8 + 1 by omega]; show _ = ((tlF (MXC (F 0) (Int32.toNatClampNeg (g 1)) d Ws) (Int32.toNatClampNeg (g 9)) p0 (lnN (F 0) (Int32.toNatClampNeg (g 1))) (Int32.toNatClampNeg y449_8) : Nat) : Int); rw [← hfs]; omega
                                                    exact ih449 x512_10 (y449_8 + 1) w520 iv449_0 iv449_1 iv449_2 iv449_3 iv449_4
                                                  · have c503 := z_ne c503
                                                    have hval : (d350_F68 (Int32.toNatClampNeg ((7 * y449_8) + y469_10))) + t500_0 = ((fun t => smK (MXC (F 0) (Int32.toNatClampNeg (g 1)) d Ws) (Int32.toNatClampNeg (g 9)) p0 (lnN (F 0) (Int32.toNatClampNeg (g 1))) ((lnN (F 0) (Int32.toNatClampNeg (g 1))) - Int32.toNatClampNeg y449_8) t + prF p0 (tlA (MXC (F 0) (Int32.toNatClampNeg (g 1)) d Ws) (Int32.toNatClampNeg (g 9)) p0 (lnN (F 0) (Int32.toNatClampNeg (g 1))) (Int32.toNatClampNeg y449_8)) t) (Int32.toNatClampNeg y469_10)) := by have k10 := clampI (x := y469_10) (by omega); have ki := clampI (x := (7 * y449_8) + y469_10) (by omega); show _ = smK (MXC (F 0) (Int32.toNatClampNeg (g 1)) d Ws) (Int32.toNatClampNeg (g 9)) p0 (lnN (F 0) (Int32.toNatClampNeg (g 1))) ((lnN (F 0) (Int32.toNatClampNeg (g 1))) - Int32.toNatClampNeg y449_8) (Int32.toNatClampNeg y469_10) + prF p0 (tlA (MXC (F 0) (Int32.toNatClampNeg (g 1)) d Ws) (Int32.toNatClampNeg (g 9)) p0 (lnN (F 0) (Int32.toNatClampNeg (g 1))) (Int32.toNatClampNeg y449_8)) (Int32.toNatClampNeg y469_10); rw [← ia449, show Int32.toNatClampNeg ((7 * y449_8) + y469_10) = 7 * Int32.toNatClampNeg y449_8 + Int32.toNatClampNeg y469_10 by omega, hsm _ _ (by omega) (by omega), et500_0]; first | rw [prF_0 (by omega)] | rw [prF_1 (by omega)]
                                                    have hup := ow_up (s1 := y469_10 + 1) how c503 (by omega) (by omega) (by omega) (by intro h9; first | exact et500_0 | (exfalso; omega)) (by intro h9; first | exact et500_0 | (exfalso; omega)) (z_addc (by decide +kernel) (by omega) (by omega))
                                                    have f41 : (y469_10 + 1).toInt = y469_10.toInt + (1) := z_addc (by decide +kernel) (by omega) (by omega)
                                                    have iv469_0 : (0 ≤ (y469_10 + 1).toInt ∧ (y469_10 + 1).toInt ≤ 7) := by first | omega | exact hup
                                                    have iv469_1 : owW d350_F68 y449_8 y449_7 p0 (y469_10 + 1) (g 9) r461 := by first | exact hup | omega
                                                    have iv469_2 : (∀ j, j < Int32.toNatClampNeg (y469_10 + 1) → ((fun t => smK (MXC (F 0) (Int32.toNatClampNeg (g 1)) d Ws) (Int32.toNatClampNeg (g 9)) p0 (lnN (F 0) (Int32.toNatClampNeg (g 1))) ((lnN (F 0) (Int32.toNatClampNeg (g 1))) - Int32.toNatClampNeg y449_8) t + prF p0 (tlA (MXC (F 0) (Int32.toNatClampNeg (g 1)) d Ws) (Int32.toNatClampNeg (g 9)) p0 (lnN (F 0) (Int32.toNatClampNeg (g 1))) (Int32.toNatClampNeg y449_8)) t) j) ≠ r461) := by have k10 := clampI (x := y469_10) (by omega); have k11 := clampI (x := y469_10 + 1) (by omega); intro j hj; by_cases q9 : j = Int32.toNatClampNeg y469_10; (rw [q9]; intro z; exact c503 (congrArg Int32.toInt (hval.trans z))); (exact iq469 j (by omega))
                                                    exact ih469 (y469_10 + 1) iv469_0 iv469_1 iv469_2
                                                · have c485 := z_ne c485
                                                  refine pw_ite (fun c492 => ?_) (fun c492 => ?_)
                                                  · have c492 := congrArg Int32.toInt c492
                                                    refine pw_j0 ej495 ?_
                                                    refine pw_j1 ej500 (fun t500_0 et500_0 => ?_)
                                                    have et500_0 := et500_0.symm
                                                    have f_t500_0 : t500_0.toInt = 0 := by rw [et500_0]; decide +kernel
                                                    refine pw_ite (fun c503 => ?_) (fun c503 => ?_)
                                                    · have c503 := congrArg Int32.toInt c503
                                                      have hval : (d350_F68 (Int32.toNatClampNeg ((7 * y449_8) + y469_10))) + t500_0 = ((fun t => smK (MXC (F 0) (Int32.toNatClampNeg (g 1)) d Ws) (Int32.toNatClampNeg (g 9)) p0 (lnN (F 0) (Int32.toNatClampNeg (g 1))) ((lnN (F 0) (Int32.toNatClampNeg (g 1))) - Int32.toNatClampNeg y449_8) t + prF p0 (tlA (MXC (F 0) (Int32.toNatClampNeg (g 1)) d Ws) (Int32.toNatClampNeg (g 9)) p0 (lnN (F 0) (Int32.toNatClampNeg (g 1))) (Int32.toNatClampNeg y449_8)) t) (Int32.toNatClampNeg y469_10)) := by have k10 := clampI (x := y469_10) (by omega); have ki := clampI (x := (7 * y449_8) + y469_10) (by omega); show _ = smK (MXC (F 0) (Int32.toNatClampNeg (g 1)) d Ws) (Int32.toNatClampNeg (g 9)) p0 (lnN (F 0) (Int32.toNatClampNeg (g 1))) ((lnN (F 0) (Int32.toNatClampNeg (g 1))) - Int32.toNatClampNeg y449_8) (Int32.toNatClampNeg y469_10) + prF p0 (tlA (MXC (F 0) (Int32.toNatClampNeg (g 1)) d Ws) (Int32.toNatClampNeg (g 9)) p0 (lnN (F 0) (Int32.toNatClampNeg (g 1))) (Int32.toNatClampNeg y449_8)) (Int32.toNatClampNeg y469_10); rw [← ia449, show Int32.toNatClampNeg ((7 * y449_8) + y469_10) = 7 * Int32.toNatClampNeg y449_8 + Int32.toNatClampNeg y469_10 by omega, hsm _ _ (by omega) (by omega), et500_0]; first | rw [prF_0 (by omega)] | rw [prF_1 (by omega)]
                                                      have k10 := clampI (x := y469_10) (by omega)
                                                      have hfs : Int32.toNatClampNeg y469_10 = tlF (MXC (F 0) (Int32.toNatClampNeg (g 1)) d Ws) (Int32.toNatClampNeg (g 9)) p0 (lnN (F 0) (Int32.toNatClampNeg (g 1))) (Int32.toNatClampNeg y449_8) := by rw [tl_un]; exact fs_uniq (hval.symm.trans ((z_e c503).trans h461)) (fun j hj => by have h9 := iq469 j hj; rw [h461] at h9; exact h9)
                                                      refine pw_j1 ek512 (fun x512_10 ex512_10 => ?_)
                                                      have ex512_10 := ex512_10.symm
                                                      have f_x512_10 : x512_10.toInt = y469_10.toInt := by rw [ex512_10]
                                                      refine pw_if (fun hb520 => ?_)
                                                      obtain ⟨hbl520, hbr520⟩ := hb520
                                                      refine pw_vl (fun w520 ew520 => ?_)
                                                      have f42 : (y449_8 + 1).toInt = y449_8.toInt + (1) := z_addc (by decide +kernel) (by omega) (by omega)
                                                      have iv449_0 : (0 ≤ (y449_8 + 1).toInt ∧ (y449_8 + 1).toInt ≤ 40) := by omega
                                                      have iv449_1 : ((-1) ≤ x512_10.toInt ∧ x512_10.toInt ≤ 6) := by omega
                                                      have iv449_2 : (y449_8 + 1).toInt ≤ y38_3.toInt := by omega
                                                      have iv449_3 : (∀ j, j < Int32.toNatClampNeg (y449_8 + 1) → w520 j = Int32.ofNat (tlF (MXC (F 0) (Int32.toNatClampNeg (g 1)) d Ws) (Int32.toNatClampNeg (g 9)) p0 (lnN (F 0) (Int32.toNatClampNeg (g 1))) j)) := by have k8 := clampI (x := y449_8) (by omega); have k9 := clampI (x := y449_8 + 1) (by omega); have k10 := clampI (x := y469_10) (by omega); intro j hj; by_cases q9 : j = Int32.toNatClampNeg y449_8; (rw [q9, ew520, pk_us, ← hfs]; exact z_e (by rw [Int32.toInt_ofNat_of_lt (by omega)]; omega)); (rw [ew520, pk_un q9]; exact it449 j (by omega))
                                                      have iv449_4 : (x512_10.toInt = tlA (MXC (F 0) (Int32.toNatClampNeg (g 1)) d Ws) (Int32.toNatClampNeg (g 9)) p0 (lnN (F 0) (Int32.toNatClampNeg (g 1))) (Int32.toNatClampNeg (y449_8 + 1))) := by have k8 := clampI (x := y449_8) (by omega); have k9 := clampI (x := y449_8 + 1) (by omega); have k10 := clampI (x := y469_10) (by omega); rw [show Int32.toNatClampNeg (y449_8 + 1) = Int32.toNatClampNeg y449_8 + 1 by omega]; show _ = ((tlF (MXC (F 0) (Int32.toNatClampNeg (g 1)) d Ws) (Int32.toNatClampNeg (g 9)) p0 (lnN (F 0) (Int32.toNatClampNeg (g 1))) (Int32.toNatClampNeg y449_8) : Nat) : Int); rw [← hfs]; omega
                                                      exact ih449 x512_10 (y449_8 + 1) w520 iv449_0 iv449_1 iv449_2 iv449_3 iv449_4
                                                    · have c503 := z_ne c503
                                                      have hval : (d350_F68 (Int32.toNatClampNeg ((7 * y449_8) + y469_10))) + t500_0 = ((fun t => smK (MXC (F 0) (Int32.toNatClampNeg (g 1)) d Ws) (Int32.toNatClampNeg (g 9)) p0 (lnN (F 0) (Int32.toNatClampNeg (g 1))) ((lnN (F 0) (Int32.toNatClampNeg (g 1))) - Int32.toNatClampNeg y449_8) t + prF p0 (tlA (MXC (F 0) (Int32.toNatClampNeg (g 1)) d Ws) (Int32.toNatClampNeg (g 9)) p0 (lnN (F 0) (Int32.toNatClampNeg (g 1))) (Int32.toNatClampNeg y449_8)) t) (Int32.toNatClampNeg y469_10)) := by have k10 := clampI (x := y469_10) (by omega); have ki := clampI (x := (7 * y449_8) + y469_10) (by omega); show _ = smK (MXC (F 0) (Int32.toNatClampNeg (g 1)) d Ws) (Int32.toNatClampNeg (g 9)) p0 (lnN (F 0) (Int32.toNatClampNeg (g 1))) ((lnN (F 0) (Int32.toNatClampNeg (g 1))) - Int32.toNatClampNeg y449_8) (Int32.toNatClampNeg y469_10) + prF p0 (tlA (MXC (F 0) (Int32.toNatClampNeg (g 1)) d Ws) (Int32.toNatClampNeg (g 9)) p0 (lnN (F 0) (Int32.toNatClampNeg (g 1))) (Int32.toNatClampNeg y449_8)) (Int32.toNatClampNeg y469_10); rw [← ia449, show Int32.toNatClampNeg ((7 * y449_8) + y469_10) = 7 * Int32.toNatClampNeg y449_8 + Int32.toNatClampNeg y469_10 by omega, hsm _ _ (by omega) (by omega), et500_0]; first | rw [prF_0 (by omega)] | rw [prF_1 (by omega)]
                                                      have hup := ow_up (s1 := y469_10 + 1) how c503 (by omega) (by omega) (by omega) (by intro h9; first | exact et500_0 | (exfalso; omega)) (by intro h9; first | exact et500_0 | (exfalso; omega)) (z_addc (by decide +kernel) (by omega) (by omega))
                                                      have f43 : (y469_10 + 1).toInt = y469_10.toInt + (1) := z_addc (by decide +kernel) (by omega) (by omega)
                                                      have iv469_0 : (0 ≤ (y469_10 + 1).toInt ∧ (y469_10 + 1).toInt ≤ 7) := by first | omega | exact hup
                                                      have iv469_1 : owW d350_F68 y449_8 y449_7 p0 (y469_10 + 1) (g 9) r461 := by first | exact hup | omega
                                                      have iv469_2 : (∀ j, j < Int32.toNatClampNeg (y469_10 + 1) → ((fun t => smK (MXC (F 0) (Int32.toNatClampNeg (g 1)) d Ws) (Int32.toNatClampNeg (g 9)) p0 (lnN (F 0) (Int32.toNatClampNeg (g 1))) ((lnN (F 0) (Int32.toNatClampNeg (g 1))) - Int32.toNatClampNeg y449_8) t + prF p0 (tlA (MXC (F 0) (Int32.toNatClampNeg (g 1)) d Ws) (Int32.toNatClampNeg (g 9)) p0 (lnN (F 0) (Int32.toNatClampNeg (g 1))) (Int32.toNatClampNeg y449_8)) t) j) ≠ r461) := by have k10 := clampI (x := y469_10) (by omega); have k11 := clampI (x := y469_10 + 1) (by omega); intro j hj; by_cases q9 : j = Int32.toNatClampNeg y469_10; (rw [q9]; intro z; exact c503 (congrArg Int32.toInt (hval.trans z))); (exact iq469 j (by omega))
                                                      exact ih469 (y469_10 + 1) iv469_0 iv469_1 iv469_2
                                                  · have c492 := z_ne c492
                                                    refine pw_j1 ej500 (fun t500_0 et500_0 => ?_)
                                                    have et500_0 := et500_0.symm
                                                    have f_t500_0 : t500_0.toInt = p0.toInt := by rw [et500_0]
                                                    refine pw_ite (fun c503 => ?_) (fun c503 => ?_)
                                                    · have c503 := congrArg Int32.toInt c503
                                                      have hval : (d350_F68 (Int32.toNatClampNeg ((7 * y449_8) + y469_10))) + t500_0 = ((fun t => smK (MXC (F 0) (Int32.toNatClampNeg (g 1)) d Ws) (Int32.toNatClampNeg (g 9)) p0 (lnN (F 0) (Int32.toNatClampNeg (g 1))) ((lnN (F 0) (Int32.toNatClampNeg (g 1))) - Int32.toNatClampNeg y449_8) t + prF p0 (tlA (MXC (F 0) (Int32.toNatClampNeg (g 1)) d Ws) (Int32.toNatClampNeg (g 9)) p0 (lnN (F 0) (Int32.toNatClampNeg (g 1))) (Int32.toNatClampNeg y449_8)) t) (Int32.toNatClampNeg y469_10)) := by have k10 := clampI (x := y469_10) (by omega); have ki := clampI (x := (7 * y449_8) + y469_10) (by omega); show _ = smK (MXC (F 0) (Int32.toNatClampNeg (g 1)) d Ws) (Int32.toNatClampNeg (g 9)) p0 (lnN (F 0) (Int32.toNatClampNeg (g 1))) ((lnN (F 0) (Int32.toNatClampNeg (g 1))) - Int32.toNatClampNeg y449_8) (Int32.toNatClampNeg y469_10) + prF p0 (tlA (MXC (F 0) (Int32.toNatClampNeg (g 1)) d Ws) (Int32.toNatClampNeg (g 9)) p0 (lnN (F 0) (Int32.toNatClampNeg (g 1))) (Int32.toNatClampNeg y449_8)) (Int32.toNatClampNeg y469_10); rw [← ia449, show Int32.toNatClampNeg ((7 * y449_8) + y469_10) = 7 * Int32.toNatClampNeg y449_8 + Int32.toNatClampNeg y469_10 by omega, hsm _ _ (by omega) (by omega), et500_0]; first | rw [prF_0 (by omega)] | rw [prF_1 (by omega)]
                                                      have k10 := clampI (x := y469_10) (by omega)
                                                      have hfs : Int32.toNatClampNeg y469_10 = tlF (MXC (F 0) (Int32.toNatClampNeg (g 1)) d Ws) (Int32.toNatClampNeg (g 9)) p0 (lnN (F 0) (Int32.toNatClampNeg (g 1))) (Int32.toNatClampNeg y449_8) := by rw [tl_un]; exact fs_uniq (hval.symm.trans ((z_e c503).trans h461)) (fun j hj => by have h9 := iq469 j hj; rw [h461] at h9; exact h9)
                                                      refine pw_j1 ek512 (fun x512_10 ex512_10 => ?_)
                                                      have ex512_10 := ex512_10.symm
                                                      have f_x512_10 : x512_10.toInt = y469_10.toInt := by rw [ex512_10]
                                                      refine pw_if (fun hb520 => ?_)
                                                      obtain ⟨hbl520, hbr520⟩ := hb520
                                                      refine pw_vl (fun w520 ew520 => ?_)
                                                      have f44 : (y449_8 + 1).toInt = y449_8.toInt + (1) := z_addc (by decide +kernel) (by omega) (by omega)
                                                      have iv449_0 : (0 ≤ (y449_8 + 1).toInt ∧ (y449_8 + 1).toInt ≤ 40) := by omega
                                                      have iv449_1 : ((-1) ≤ x512_10.toInt ∧ x512_10.toInt ≤ 6) := by omega
                                                      have iv449_2 : (y449_8 + 1).toInt ≤ y38_3.toInt := by omega
                                                      have iv449_3 : (∀ j, j < Int32.toNatClampNeg (y449_8 + 1) → w520 j = Int32.ofNat (tlF (MXC (F 0) (Int32.toNatClampNeg (g 1)) d Ws) (Int32.toNatClampNeg (g 9)) p0 (lnN (F 0) (Int32.toNatClampNeg (g 1))) j)) := by have k8 := clampI (x := y449_8) (by omega); have k9 := clampI (x := y449_8 + 1) (by omega); have k10 := clampI (x := y469_10) (by omega); intro j hj; by_cases q9 : j = Int32.toNatClampNeg y449_8; (rw [q9, ew520, pk_us, ← hfs]; exact z_e (by rw [Int32.toInt_ofNat_of_lt (by omega)]; omega)); (rw [ew520, pk_un q9]; exact it449 j (by omega))
                                                      have iv449_4 : (x512_10.toInt = tlA (MXC (F 0) (Int32.toNatClampNeg (g 1)) d Ws) (Int32.toNatClampNeg (g 9)) p0 (lnN (F 0) (Int32.toNatClampNeg (g 1))) (Int32.toNatClampNeg (y449_8 + 1))) := by have k8 := clampI (x := y449_8) (by omega); have k9 := clampI (x := y449_8 + 1) (by omega); have k10 := clampI (x := y469_10) (by omega); rw [show Int32.toNatClampNeg (y449_8 + 1) = Int32.toNatClampNeg y449_8 + 1 by omega]; show _ = ((tlF (MXC (F 0) (Int32.toNatClampNeg (g 1)) d Ws) (Int32.toNatClampNeg (g 9)) p0 (lnN (F 0) (Int32.toNatClampNeg (g 1))) (Int32.toNatClampNeg y449_8) : Nat) : Int); rw [← hfs]; omega
                                                      exact ih449 x512_10 (y449_8 + 1) w520 iv449_0 iv449_1 iv449_2 iv449_3 iv449_4
                                                    · have c503 := z_ne c503
                                                      have hval : (d350_F68 (Int32.toNatClampNeg ((7 * y449_8) + y469_10))) + t500_0 = ((fun t => smK (MXC (F 0) (Int32.toNatClampNeg (g 1)) d Ws) (Int32.toNatClampNeg (g 9)) p0 (lnN (F 0) (Int32.toNatClampNeg (g 1))) ((lnN (F 0) (Int32.toNatClampNeg (g 1))) - Int32.toNatClampNeg y449_8) t + prF p0 (tlA (MXC (F 0) (Int32.toNatClampNeg (g 1)) d Ws) (Int32.toNatClampNeg (g 9)) p0 (lnN (F 0) (Int32.toNatClampNeg (g 1))) (Int32.toNatClampNeg y449_8)) t) (Int32.toNatClampNeg y469_10)) := by have k10 := clampI (x := y469_10) (by omega); have ki := clampI (x := (7 * y449_8) + y469_10) (by omega); show _ = smK (MXC (F 0) (Int32.toNatClampNeg (g 1)) d Ws) (Int32.toNatClampNeg (g 9)) p0 (lnN (F 0) (Int32.toNatClampNeg (g 1))) ((lnN (F 0) (Int32.toNatClampNeg (g 1))) - Int32.toNatClampNeg y449_8) (Int32.toNatClampNeg y469_10) + prF p0 (tlA (MXC (F 0) (Int32.toNatClampNeg (g 1)) d Ws) (Int32.toNatClampNeg (g 9)) p0 (lnN (F 0) (Int32.toNatClampNeg (g 1))) (Int32.toNatClampNeg y449_8)) (Int32.toNatClampNeg y469_10); rw [← ia449, show Int32.toNatClampNeg ((7 * y449_8) + y469_10) = 7 * Int32.toNatClampNeg y449_8 + Int32.toNatClampNeg y469_10 by omega, hsm _ _ (by omega) (by omega), et500_0]; first | rw [prF_0 (by omega)] | rw [prF_1 (by omega)]
                                                      have hup := ow_up (s1 := y469_10 + 1) how c503 (by omega) (by omega) (by omega) (by intro h9; first | exact et500_0 | (exfalso; omega)) (by intro h9; first | exact et500_0 | (exfalso; omega)) (z_addc (by decide +kernel) (by omega) (by omega))
                                                      have f45 : (y469_10 + 1).toInt = y469_10.toInt + (1) := z_addc (by decide +kernel) (by omega) (by omega)
                                                      have iv469_0 : (0 ≤ (y469_10 + 1).toInt ∧ (y469_10 + 1).toInt ≤ 7) := by first | omega | exact hup
                                                      have iv469_1 : owW d350_F68 y449_8 y449_7 p0 (y469_10 + 1) (g 9) r461 := by first | exact hup | omega
                                                      have iv469_2 : (∀ j, j < Int32.toNatClampNeg (y469_10 + 1) → ((fun t => smK (MXC (F 0) (Int32.toNatClampNeg (g 1)) d Ws) (Int32.toNatClampNeg (g 9)) p0 (lnN (F 0) (Int32.toNatClampNeg (g 1))) ((lnN (F 0) (Int32.toNatClampNeg (g 1))) - Int32.toNatClampNeg y449_8) t + prF p0 (tlA (MXC (F 0) (Int32.toNatClampNeg (g 1)) d Ws) (Int32.toNatClampNeg (g 9)) p0 (lnN (F 0) (Int32.toNatClampNeg (g 1))) (Int32.toNatClampNeg y449_8)) t) j) ≠ r461) := by have k10 := clampI (x := y469_10) (by omega); have k11 := clampI (x := y469_10 + 1) (by omega); intro j hj; by_cases q9 : j = Int32.toNatClampNeg y469_10; (rw [q9]; intro z; exact c503 (congrArg Int32.toInt (hval.trans z))); (exact iq469 j (by omega))
                                                      exact ih469 (y469_10 + 1) iv469_0 iv469_1 iv469_2
                                            exact lp469 NN (0 : Int32) (show (0 ≤ (0 : Int32).toInt ∧ (0 : Int32).toInt ≤ 7) from by first | omega | exact ow_0 (by assumption) (by omega)) (show owW d350_F68 y449_8 y449_7 p0 (0 : Int32) (g 9) r461 from by first | exact ow_0 (by assumption) (by omega) | omega) (show (∀ j, j < Int32.toNatClampNeg (0 : Int32) → ((fun t => smK (MXC (F 0) (Int32.toNatClampNeg (g 1)) d Ws) (Int32.toNatClampNeg (g 9)) p0 (lnN (F 0) (Int32.toNatClampNeg (g 1))) ((lnN (F 0) (Int32.toNatClampNeg (g 1))) - Int32.toNatClampNeg y449_8) t + prF p0 (tlA (MXC (F 0) (Int32.toNatClampNeg (g 1)) d Ws) (Int32.toNatClampNeg (g 9)) p0 (lnN (F 0) (Int32.toNatClampNeg (g 1))) (Int32.toNatClampNeg y449_8)) t) j) ≠ r461) from by intro j hj; exact absurd hj (Nat.not_lt_zero _))
                                      exact lp449 NN (-1 : Int32) (0 : Int32) (F 69) (show (0 ≤ (0 : Int32).toInt ∧ (0 : Int32).toInt ≤ 40) from by omega) (show ((-1) ≤ (-1 : Int32).toInt ∧ (-1 : Int32).toInt ≤ 6) from by omega) (show (0 : Int32).toInt ≤ y38_3.toInt from by omega) (show (∀ j, j < Int32.toNatClampNeg (0 : Int32) → (F 69) j = Int32.ofNat (tlF (MXC (F 0) (Int32.toNatClampNeg (g 1)) d Ws) (Int32.toNatClampNeg (g 9)) p0 (lnN (F 0) (Int32.toNatClampNeg (g 1))) j)) from by intro j hj; exact absurd hj (Nat.not_lt_zero _)) (show ((-1 : Int32).toInt = tlA (MXC (F 0) (Int32.toNatClampNeg (g 1)) d Ws) (Int32.toNatClampNeg (g 9)) p0 (lnN (F 0) (Int32.toNatClampNeg (g 1))) (Int32.toNatClampNeg (0 : Int32))) from by show (-1 : Int32).toInt = -1; decide)
                                    · have c352 := z_nlt c352
                                      have k6 := clampI (x := y350_6) (by omega)
                                      refine pw_jE (fun k423 ek423 => ?_)
                                      have lp358 : ∀ (n358 : Nat) (y358_7 : Int32) (d358_F68 : (Nat → Int32)), (0 ≤ y358_7.toInt ∧ y358_7.toInt ≤ 7) → y358_7.toInt ≤ (g 9).toInt + 1 → (SMT d358_F68 (MXC (F 0) (Int32.toNatClampNeg (g 1)) d Ws) (Int32.toNatClampNeg (g 9)) p0 (lnN (F 0) (Int32.toNatClampNeg (g 1))) ((y350_6.toInt + 1).toNat)) → (∀ s, s < Int32.toNatClampNeg y358_7 → d358_F68 (7 * Int32.toNatClampNeg y350_6 + s) = smK (MXC (F 0) (Int32.toNatClampNeg (g 1)) d Ws) (Int32.toNatClampNeg (g 9)) p0 (lnN (F 0) (Int32.toNatClampNeg (g 1))) ((lnN (F 0) (Int32.toNatClampNeg (g 1))) - Int32.toNatClampNeg y350_6) s) → pw (L_mixed_358 g F p0 x70_3 c79_g23 c79_g27 c79_g30 c79_g34 c79_g36 c79_g39 c79_g51 c79_F22 c79_F24 c79_F25 c79_F26 c79_F28 c79_F29 c79_F31 c79_F32 c79_F33 c79_F37 c79_F38 c79_F40 c79_F41 c79_F52 c79_F53 c79_F54 d113_F67 y350_6 k423 n358 y358_7 d358_F68) (QF_mixed g F p0 d Ws) := by
                                        intro n358
                                        induction n358 with
                                        | zero => intros; exact pw_none
                                        | succ n358 ih358 =>
                                          intro y358_7 d358_F68 f46 f47 ik358 ir358
                                          show pw (B_mixed_358 g F p0 x70_3 c79_g23 c79_g27 c79_g30 c79_g34 c79_g36 c79_g39 c79_g51 c79_F22 c79_F24 c79_F25 c79_F26 c79_F28 c79_F29 c79_F31 c79_F32 c79_F33 c79_F37 c79_F38 c79_F40 c79_F41 c79_F52 c79_F53 c79_F54 d113_F67 y350_6 k423 (L_mixed_358 g F p0 x70_3 c79_g23 c79_g27 c79_g30 c79_g34 c79_g36 c79_g39 c79_g51 c79_F22 c79_F24 c79_F25 c79_F26 c79_F28 c79_F29 c79_F31 c79_F32 c79_F33 c79_F37 c79_F38 c79_F40 c79_F41 c79_F52 c79_F53 c79_F54 d113_F67 y350_6 k423 n358) y358_7 d358_F68) _
                                          unfold B_mixed_358
                                          refine pw_ite (fun c364 => ?_) (fun c364 => ?_)
                                          · have c364 := (z_lt _ _).mp c364
                                            refine pw_j1 ek423 (fun z423_1 ez423_1 => ?_)
                                            subst ez423_1
                                            have f48 : (y350_6 + (-1)).toInt = y350_6.toInt + (-1) := z_addc (by decide +kernel) (by omega) (by omega)
                                            obtain ⟨z49, ez49⟩ : ∃ z : Int32, z = (y350_6 + (-1)) := ⟨_, rfl⟩
                                            have fz49 : z49.toInt = y350_6.toInt + (-1) := by rw [ez49]; exact f48
                                            rw [← ez49]
                                            clear f48 ez49
                                            have iv350_0 : ((-1) ≤ z49.toInt ∧ z49.toInt < 40) := by omega
                                            have iv350_1 : z49.toInt < y38_3.toInt := by omega
                                            have iv350_2 : (SMT d358_F68 (MXC (F 0) (Int32.toNatClampNeg (g 1)) d Ws) (Int32.toNatClampNeg (g 9)) p0 (lnN (F 0) (Int32.toNatClampNeg (g 1))) ((z49.toInt + 1).toNat)) := by intro i s h1 h2 h3; by_cases q9 : i = Int32.toNatClampNeg y350_6; (rw [q9]; exact ir358 s (by have k7 := clampI (x := y358_7) (by omega); omega)); (exact ik358 i s (by omega) h2 h3)
                                            exact ih350 z49 d358_F68 iv350_0 iv350_1 iv350_2
                                          · have c364 := z_nlt c364
                                            have f50 : (7 * y350_6).toInt = 7 * y350_6.toInt := z_muld (by decide +kernel) (by omega) (by omega)
                                            have f51 : ((7 * y350_6) + y358_7).toInt = (7 * y350_6).toInt + y358_7.toInt := z_add (by omega) (by omega)
                                            refine pw_if (fun hb391 => ?_)
                                            obtain ⟨hbl391, hbr391⟩ := hb391
                                            have f54 : (y350_6 + 1).toInt = y350_6.toInt + 1 := z_addc (by decide +kernel) (by omega) (by omega)
                                            refine pw_jE (fun j415 ej415 => ?_)
                                            refine pw_ite (fun c397 => ?_) (fun c397 => ?_)
                                            · have c397 := (z_le _ _).mp c397
                                              refine pw_j1 ej415 (fun t415_0 et415_0 => ?_)
                                              have et415_0 := et415_0.symm
                                              have f_t415_0 : t415_0.toInt = 0 := by rw [et415_0]; decide +kernel
                                              refine pw_if (fun hb416 => ?_)
                                              obtain ⟨hbl416, hbr416⟩ := hb416
                                              refine pw_vl (fun w416 ew416 => ?_)
                                              have f55 : (y358_7 + 1).toInt = y358_7.toInt + (1) := z_addc (by decide +kernel) (by omega) (by omega)
                                              have iv358_0 : (0 ≤ (y358_7 + 1).toInt ∧ (y358_7 + 1).toInt ≤ 7) := by omega
                                              have iv358_1 : (y358_7 + 1).toInt ≤ (g 9).toInt + 1 := by omega
                                              have iv358_2 : (SMT w416 (MXC (F 0) (Int32.toNatClampNeg (g 1)) d Ws) (Int32.toNatClampNeg (g 9)) p0 (lnN (F 0) (Int32.toNatClampNeg (g 1))) ((y350_6.toInt + 1).toNat)) := by have k7 := clampI (x := y358_7) (by omega); have ki := clampI (x := (7 * y350_6) + y358_7) (by omega); intro i s h1 h2 h3; rw [ew416, pk_un (by omega)]; exact ik358 i s h1 h2 h3
                                              have iv358_3 : (∀ s, s < Int32.toNatClampNeg (y358_7 + 1) → w416 (7 * Int32.toNatClampNeg y350_6 + s) = smK (MXC (F 0) (Int32.toNatClampNeg (g 1)) d Ws) (Int32.toNatClampNeg (g 9)) p0 (lnN (F 0) (Int32.toNatClampNeg (g 1))) ((lnN (F 0) (Int32.toNatClampNeg (g 1))) - Int32.toNatClampNeg y350_6) s) := by have k7 := clampI (x := y358_7) (by omega); have k8 := clampI (x := y358_7 + 1) (by omega); have ki := clampI (x := (7 * y350_6) + y358_7) (by omega); intro s hs; by_cases q9 : s = Int32.toNatClampNeg y358_7; (rw [q9, show 7 * Int32.toNatClampNeg y350_6 + Int32.toNatClampNeg y358_7 = Int32.toNatClampNeg ((7 * y350_6) + y358_7) by omega, ew416, pk_us, sm_un (by omega), if_neg (by omega), et415_0, show Int32.toNatClampNeg ((7 * y350_6) + y358_7) = 7 * Int32.toNatClampNeg y350_6 + Int32.toNatClampNeg y358_7 by omega, hcost _ _ (by omega) (by omega)]); (rw [ew416, pk_un (by omega)]; exact ir358 s (by omega))
                                              exact ih358 (y358_7 + 1) w416 iv358_0 iv358_1 iv358_2 iv358_3
                                            · have c397 := z_nle c397
                                              have hMI408 : id (MInv (upd (upd (upd (upd (upd (upd (upd (upd g 1 0) 23 c79_g23) 27 c79_g27) 30 c79_g30) 34 c79_g34) 36 c79_g36) 39 c79_g39) 51 c79_g51) (upF (upF (upF (upF (upF (upF (upF (upF (upF (upF (upF (upF (upF (upF (upF (upF (upF (upF F 22 c79_F22) 24 c79_F24) 25 c79_F25) 26 c79_F26) 28 c79_F28) 29 c79_F29) 31 c79_F31) 32 c79_F32) 33 c79_F33) 37 c79_F37) 38 c79_F38) 40 c79_F40) 41 c79_F41) 52 c79_F52) 53 c79_F53) 54 c79_F54) 67 d113_F67) 68 d358_F68)) := show MInv (upd (upd (upd (upd (upd (upd (upd (upd g 1 0) 23 c79_g23) 27 c79_g27) 30 c79_g30) 34 c79_g34) 36 c79_g36) 39 c79_g39) 51 c79_g51) (upF (upF (upF (upF (upF (upF (upF (upF (upF (upF (upF (upF (upF (upF (upF (upF (upF (upF F 22 c79_F22) 24 c79_F24) 25 c79_F25) 26 c79_F26) 28 c79_F28) 29 c79_F29) 31 c79_F31) 32 c79_F32) 33 c79_F33) 37 c79_F37) 38 c79_F38) 40 c79_F40) 41 c79_F41) 52 c79_F52) 53 c79_F53) 54 c79_F54) 67 d113_F67) 68 d358_F68) from (MInv_i hg1 ((hI9.2.1)) ((hI9.2.2.1)) ((hI9.2.2.2.1)) ((hI9.2.2.2.2.1)) ((hI9.2.2.2.2.2.1)) ((hI9.2.2.2.2.2.2.1)) ((hI9.2.2.2.2.2.2.2.1)) hzg9 hg8 hg9 hg10 hg11 hg12 hg13 ((hI9.2.2.2.2.2.2.2.2.2.2.2.2.2.2.2.1)) ((hI9.2.2.2.2.2.2.2.2.2.2.2.2.2.2.2.2.1)) hzg48 hg14 ((hI9.2.2.2.2.2.2.2.2.2.2.2.2.2.2.2.2.2.2.2.1)) ((hI9.2.2.2.2.2.2.2.2.2.2.2.2.2.2.2.2.2.2.2.2.1)) ((hI9.2.2.2.2.2.2.2.2.2.2.2.2.2.2.2.2.2.2.2.2.2.1)) ((hI9.2.2.2.2.2.2.2.2.2.2.2.2.2.2.2.2.2.2.2.2.2.2.1)) ((hI9.2.2.2.2.2.2.2.2.2.2.2.2.2.2.2.2.2.2.2.2.2.2.2.1)) hzg70 hzF11 hzF12 hzF13 hzF15 hzF19 hzF21 hg15 hg16 hg17 hg18 hg19 hg20 hzF43 hzF45 hzF46 hzF50 hg21 hg22 hzLQ)
                                              have hpr408_0 : (0 ≤ (y350_6 + 1).toInt ∧ (y350_6 + 1).toInt ≤ 40) := by first | assumption | omega
                                              refine pw_b1 (fun r408 hc408 => ?_)
                                              have hq408 := wp_at (ok_onward (upd (upd (upd (upd (upd (upd (upd (upd g 1 0) 23 c79_g23) 27 c79_g27) 30 c79_g30) 34 c79_g34) 36 c79_g36) 39 c79_g39) 51 c79_g51) (upF (upF (upF (upF (upF (upF (upF (upF (upF (upF (upF (upF (upF (upF (upF (upF (upF (upF F 22 c79_F22) 24 c79_F24) 25 c79_F25) 26 c79_F26) 28 c79_F28) 29 c79_F29) 31 c79_F31) 32 c79_F32) 33 c79_F33) 37 c79_F37) 38 c79_F38) 40 c79_F40) 41 c79_F41) 52 c79_F52) 53 c79_F53) 54 c79_F54) 67 d113_F67) 68 d358_F68) (y350_6 + 1) y358_7 p0 hMI408 hpr408_0) hc408
                                              have f57 : owJ d358_F68 (y350_6 + 1) y358_7 p0 (g 9) r408 := hq408
                                              clear hq408
                                              have hx408 := pwq (fn_onward (upd (upd (upd (upd (upd (upd (upd (upd g 1 0) 23 c79_g23) 27 c79_g27) 30 c79_g30) 34 c79_g34) 36 c79_g36) 39 c79_g39) 51 c79_g51) (upF (upF (upF (upF (upF (upF (upF (upF (upF (upF (upF (upF (upF (upF (upF (upF (upF (upF F 22 c79_F22) 24 c79_F24) 25 c79_F25) 26 c79_F26) 28 c79_F28) 29 c79_F29) 31 c79_F31) 32 c79_F32) 33 c79_F33) 37 c79_F37) 38 c79_F38) 40 c79_F40) 41 c79_F41) 52 c79_F52) 53 c79_F53) 54 c79_F54) 67 d113_F67) 68 d358_F68) (y350_6 + 1) y358_7 p0 hMI408 hpr408_0) hc408
                                              have p408_0 : r408 = owF2 (fun t => d358_F68 (7 * Int32.toNatClampNeg (y350_6 + 1) + t)) (Int32.toNatClampNeg (g 9)) p0 y358_7.toInt := hx408
                                              clear hx408
                                              refine pw_j1 ej415 (fun t415_0 et415_0 => ?_)
                                              have et415_0 := et415_0.symm
                                              have f_t415_0 : t415_0.toInt = r408.toInt := by rw [et415_0]
                                              refine pw_if (fun hb416 => ?_)
                                              obtain ⟨hbl416, hbr416⟩ := hb416
                                              refine pw_vl (fun w416 ew416 => ?_)
                                              have f58 : (y358_7 + 1).toInt = y358_7.toInt + (1) := z_addc (by decide +kernel) (by omega) (by omega)
                                              have iv358_0 : (0 ≤ (y358_7 + 1).toInt ∧ (y358_7 + 1).toInt ≤ 7) := by omega
                                              have iv358_1 : (y358_7 + 1).toInt ≤ (g 9).toInt + 1 := by omega
                                              have iv358_2 : (SMT w416 (MXC (F 0) (Int32.toNatClampNeg (g 1)) d Ws) (Int32.toNatClampNeg (g 9)) p0 (lnN (F 0) (Int32.toNatClampNeg (g 1))) ((y350_6.toInt + 1).toNat)) := by have k7 := clampI (x := y358_7) (by omega); have ki := clampI (x := (7 * y350_6) + y358_7) (by omega); intro i s h1 h2 h3; rw [ew416, pk_un (by omega)]; exact ik358 i s h1 h2 h3
                                              have iv358_3 : (∀ s, s < Int32.toNatClampNeg (y358_7 + 1) → w416 (7 * Int32.toNatClampNeg y350_6 + s) = smK (MXC (F 0) (Int32.toNatClampNeg (g 1)) d Ws) (Int32.toNatClampNeg (g 9)) p0 (lnN (F 0) (Int32.toNatClampNeg (g 1))) ((lnN (F 0) (Int32.toNatClampNeg (g 1))) - Int32.toNatClampNeg y350_6) s) := by have k7 := clampI (x := y358_7) (by omega); have k8 := clampI (x := y358_7 + 1) (by omega); have ki := clampI (x := (7 * y350_6) + y358_7) (by omega); have kn := clampI (x := y350_6 + 1) (by omega); have he9 : owF2 (fun t => d358_F68 (7 * Int32.toNatClampNeg (y350_6 + 1) + t)) (Int32.toNatClampNeg (g 9)) p0 ((Int32.toNatClampNeg y358_7 : Nat) : Int) = owF2 (smK (MXC (F 0) (Int32.toNatClampNeg (g 1)) d Ws) (Int32.toNatClampNeg (g 9)) p0 (lnN (F 0) (Int32.toNatClampNeg (g 1))) ((lnN (F 0) (Int32.toNatClampNeg (g 1))) - (Int32.toNatClampNeg y350_6 + 1))) (Int32.toNatClampNeg (g 9)) p0 ((Int32.toNatClampNeg y358_7 : Nat) : Int) := owF2_ext (fun t ht => by rw [show Int32.toNatClampNeg (y350_6 + 1) = Int32.toNatClampNeg y350_6 + 1 by omega]; exact ik358 (Int32.toNatClampNeg y350_6 + 1) t (by omega) (by omega) ht); intro s hs; by_cases q9 : s = Int32.toNatClampNeg y358_7; (rw [q9, show 7 * Int32.toNatClampNeg y350_6 + Int32.toNatClampNeg y358_7 = Int32.toNatClampNeg ((7 * y350_6) + y358_7) by omega, ew416, pk_us, sm_un (by omega), if_pos (by omega), et415_0, p408_0, show Int32.toNatClampNeg ((7 * y350_6) + y358_7) = 7 * Int32.toNatClampNeg y350_6 + Int32.toNatClampNeg y358_7 by omega, hcost _ _ (by omega) (by omega), show y358_7.toInt = ((Int32.toNatClampNeg y358_7 : Nat) : Int) by omega, he9]); (rw [ew416, pk_un (by omega)]; exact ir358 s (by omega))
                                              exact ih358 (y358_7 + 1) w416 iv358_0 iv358_1 iv358_2 iv358_3
                                      exact lp358 NN (0 : Int32) d350_F68 (show (0 ≤ (0 : Int32).toInt ∧ (0 : Int32).toInt ≤ 7) from by omega) (show (0 : Int32).toInt ≤ (g 9).toInt + 1 from by omega) (show (SMT d350_F68 (MXC (F 0) (Int32.toNatClampNeg (g 1)) d Ws) (Int32.toNatClampNeg (g 9)) p0 (lnN (F 0) (Int32.toNatClampNeg (g 1))) ((y350_6.toInt + 1).toNat)) from by exact is350) (show (∀ s, s < Int32.toNatClampNeg (0 : Int32) → d350_F68 (7 * Int32.toNatClampNeg y350_6 + s) = smK (MXC (F 0) (Int32.toNatClampNeg (g 1)) d Ws) (Int32.toNatClampNeg (g 9)) p0 (lnN (F 0) (Int32.toNatClampNeg (g 1))) ((lnN (F 0) (Int32.toNatClampNeg (g 1))) - Int32.toNatClampNeg y350_6) s) from by intro s hs; exact absurd hs (Nat.not_lt_zero _))
                                exact lp350 NN x348 d317_F68 (show ((-1) ≤ x348.toInt ∧ x348.toInt < 40) from by omega) (show x348.toInt < y38_3.toInt from by omega) (show (SMT d317_F68 (MXC (F 0) (Int32.toNatClampNeg (g 1)) d Ws) (Int32.toNatClampNeg (g 9)) p0 (lnN (F 0) (Int32.toNatClampNeg (g 1))) ((x348.toInt + 1).toNat)) from by intro i s h1 h2; exfalso; omega)
                              · have c323 := z_nlt c323
                                have f59 : (7 * x70_3).toInt = 7 * x70_3.toInt := z_muld (by decide +kernel) (by omega) (by omega)
                                have f60 : ((7 * x70_3) + y317_6).toInt = (7 * x70_3).toInt + y317_6.toInt := z_add (by omega) (by omega)
                                refine pw_if (fun hb338 => ?_)
                                obtain ⟨hbl338, hbr338⟩ := hb338
                                refine pw_vl (fun w338 ew338 => ?_)
                                have f61 : (y317_6 + 1).toInt = y317_6.toInt + (1) := z_addc (by decide +kernel) (by omega) (by omega)
                                have iv317_0 : (0 ≤ (y317_6 + 1).toInt ∧ (y317_6 + 1).toInt ≤ 7) := by omega
                                exact ih317 (y317_6 + 1) w338 iv317_0
                          exact lp317 NN (0 : Int32) (F 68) (show (0 ≤ (0 : Int32).toInt ∧ (0 : Int32).toInt ≤ 7) from by omega)
                        · have c116 := z_nle c116
                          have k5 := clampI (x := y113_5) (by omega)
                          have hcb := c10_b (F 0) y113_5.toInt.toNat
                          have hcl := c10_le (F 0) (a := y113_5) (b := (g 1)) (by omega) (by omega)
                          have f62 : (y113_5 + 1).toInt = y113_5.toInt + 1 := z_addc (by decide +kernel) (by omega) (by omega)
                          refine pw_vl (fun x123 ex123 => ?_)
                          have f63 : x123.toInt = (y113_5 + 1).toInt := congrArg Int32.toInt ex123
                          have hcs := c10_s (F 0) (a := y113_5) (b := x123) (by omega) (by omega)
                          refine pw_if (fun hb131 => ?_)
                          obtain ⟨hbl131, hbr131⟩ := hb131
                          refine pw_jE (fun j307 ej307 => ?_)
                          refine pw_ite (fun c134 => ?_) (fun c134 => ?_)
                          · have c134 := congrArg Int32.toInt c134
                            have hMI141 : id (MInv (upd (upd (upd (upd (upd (upd (upd (upd g 1 0) 23 c79_g23) 27 c79_g27) 30 c79_g30) 34 c79_g34) 36 c79_g36) 39 c79_g39) 51 c79_g51) (upF (upF (upF (upF (upF (upF (upF (upF (upF (upF (upF (upF (upF (upF (upF (upF (upF F 22 c79_F22) 24 c79_F24) 25 c79_F25) 26 c79_F26) 28 c79_F28) 29 c79_F29) 31 c79_F31) 32 c79_F32) 33 c79_F33) 37 c79_F37) 38 c79_F38) 40 c79_F40) 41 c79_F41) 52 c79_F52) 53 c79_F53) 54 c79_F54) 67 d113_F67)) := show MInv (upd (upd (upd (upd (upd (upd (upd (upd g 1 0) 23 c79_g23) 27 c79_g27) 30 c79_g30) 34 c79_g34) 36 c79_g36) 39 c79_g39) 51 c79_g51) (upF (upF (upF (upF (upF (upF (upF (upF (upF (upF (upF (upF (upF (upF (upF (upF (upF F 22 c79_F22) 24 c79_F24) 25 c79_F25) 26 c79_F26) 28 c79_F28) 29 c79_F29) 31 c79_F31) 32 c79_F32) 33 c79_F33) 37 c79_F37) 38 c79_F38) 40 c79_F40) 41 c79_F41) 52 c79_F52) 53 c79_F53) 54 c79_F54) 67 d113_F67) from (MInv_i hg1 ((hI9.2.1)) ((hI9.2.2.1)) ((hI9.2.2.2.1)) ((hI9.2.2.2.2.1)) ((hI9.2.2.2.2.2.1)) ((hI9.2.2.2.2.2.2.1)) ((hI9.2.2.2.2.2.2.2.1)) hzg9 hg8 hg9 hg10 hg11 hg12 hg13 ((hI9.2.2.2.2.2.2.2.2.2.2.2.2.2.2.2.1)) ((hI9.2.2.2.2.2.2.2.2.2.2.2.2.2.2.2.2.1)) hzg48 hg14 ((hI9.2.2.2.2.2.2.2.2.2.2.2.2.2.2.2.2.2.2.2.1)) ((hI9.2.2.2.2.2.2.2.2.2.2.2.2.2.2.2.2.2.2.2.2.1)) ((hI9.2.2.2.2.2.2.2.2.2.2.2.2.2.2.2.2.2.2.2.2.2.1)) ((hI9.2.2.2.2.2.2.2.2.2.2.2.2.2.2.2.2.2.2.2.2.2.2.1)) ((hI9.2.2.2.2.2.2.2.2.2.2.2.2.2.2.2.2.2.2.2.2.2.2.2.1)) hzg70 hzF11 hzF12 hzF13 hzF15 hzF19 hzF21 hg15 hg16 hg17 hg18 hg19 hg20 hzF43 hzF45 hzF46 hzF50 hg21 hg22 hzLQ)
                            have hpr141_0 : 0 ≤ y113_5.toInt := by first | assumption | omega
                            have hpr141_1 : y113_5.toInt < (g 1).toInt := by first | assumption | omega
                            have hpr141_2 : (g 1).toInt ≤ 2000 := by first | assumption | omega
                            refine pw_b1 (fun r141 hc141 => ?_)
                            have hq141 := wp_at (ok_quoted (upd (upd (upd (upd (upd (upd (upd (upd g 1 0) 23 c79_g23) 27 c79_g27) 30 c79_g30) 34 c79_g34) 36 c79_g36) 39 c79_g39) 51 c79_g51) (upF (upF (upF (upF (upF (upF (upF (upF (upF (upF (upF (upF (upF (upF (upF (upF (upF F 22 c79_F22) 24 c79_F24) 25 c79_F25) 26 c79_F26) 28 c79_F28) 29 c79_F29) 31 c79_F31) 32 c79_F32) 33 c79_F33) 37 c79_F37) 38 c79_F38) 40 c79_F40) 41 c79_F41) 52 c79_F52) 53 c79_F53) 54 c79_F54) 67 d113_F67) y113_5 (g 1) hMI141 hpr141_0 hpr141_1 hpr141_2) hc141
                            have f64 : (y113_5.toInt < r141.toInt ∧ r141.toInt ≤ (g 1).toInt) := hq141
                            clear hq141
                            have hx141 := pwq (fn_quoted (upd (upd (upd (upd (upd (upd (upd (upd g 1 0) 23 c79_g23) 27 c79_g27) 30 c79_g30) 34 c79_g34) 36 c79_g36) 39 c79_g39) 51 c79_g51) (upF (upF (upF (upF (upF (upF (upF (upF (upF (upF (upF (upF (upF (upF (upF (upF (upF F 22 c79_F22) 24 c79_F24) 25 c79_F25) 26 c79_F26) 28 c79_F28) 29 c79_F29) 31 c79_F31) 32 c79_F32) 33 c79_F33) 37 c79_F37) 38 c79_F38) 40 c79_F40) 41 c79_F41) 52 c79_F52) 53 c79_F53) 54 c79_F54) 67 d113_F67) y113_5 (g 1) hMI141 hpr141_0 hpr141_1 hpr141_2) hc141
                            have p141_0 : Int32.toNatClampNeg r141 = qN (F 0) (Int32.toNatClampNeg (g 1)) (Int32.toNatClampNeg y113_5 + 1) := hx141
                            clear hx141
                            have k141 := clampI (x := r141) (by omega)
                            refine pw_jE (fun k185 ek185 => ?_)
                            have lp150 : ∀ (n150 : Nat) (y150_4 : Int32) (y150_7 : Int32), (y113_5.toInt ≤ y150_7.toInt ∧ y150_7.toInt ≤ r141.toInt) → y150_4.toInt = c10 (F 0) y150_7.toInt.toNat → pw (L_mixed_150 F r141 k185 n150 y150_4 y150_7) (QF_mixed g F p0 d Ws) := by
                              intro n150
                              induction n150 with
                              | zero => intros; exact pw_none
                              | succ n150 ih150 =>
                                intro y150_4 y150_7 f65 f66
                                show pw (B_mixed_150 F r141 k185 (L_mixed_150 F r141 k185 n150) y150_4 y150_7) _
                                unfold B_mixed_150
                                refine pw_ite (fun c154 => ?_) (fun c154 => ?_)
                                · have c154 := (z_le _ _).mp c154
                                  refine pw_j1 ek185 (fun x185_4 ex185_4 => ?_)
                                  have ex185_4 := ex185_4.symm
                                  have f_x185_4 : x185_4.toInt = y150_4.toInt := by rw [ex185_4]
                                  refine pw_j3 ej307 (fun x307_4 ex307_4 x307_6 ex307_6 z307_1 ez307_1 => ?_)
                                  subst ez307_1
                                  have ex307_4 := ex307_4.symm
                                  have f_x307_4 : x307_4.toInt = x185_4.toInt := by rw [ex307_4]
                                  have ex307_6 := ex307_6.symm
                                  have f_x307_6 : x307_6.toInt = r141.toInt := by rw [ex307_6]
                                  have iv113_0 : (0 ≤ x307_6.toInt ∧ x307_6.toInt ≤ (g 1).toInt) := by omega
                                  have iv113_1 : (x307_4.toInt = c10 (F 0) x307_6.toInt.toNat) := by have e9 : x307_6.toInt.toNat = y150_7.toInt.toNat := (by omega); rw [e9]; omega
                                  have iv113_2 : (MIV (F 0) (Int32.toNatClampNeg (g 1)) d Ws (Int32.toNatClampNeg (g 9)) (Int32.toNatClampNeg x307_6) d113_F67) := by rw [ex307_6, p141_0]; exact MIV_q iw113 (by omega) c134
                                  exact ih113 x307_4 x307_6 d113_F67 iv113_0 iv113_1 iv113_2
                                · have c154 := z_nle c154
                                  have hcb := c10_b (F 0) y150_7.toInt.toNat
                                  have hcs := c10_s (F 0) (a := y150_7) (b := y150_7 + 1) (by omega) (z_addc (by decide +kernel) (by omega) (by omega))
                                  refine pw_if (fun hb165 => ?_)
                                  obtain ⟨hbl165, hbr165⟩ := hb165
                                  refine pw_jE (fun j176 ej176 => ?_)
                                  refine pw_ite (fun c168 => ?_) (fun c168 => ?_)
                                  · have c168 := congrArg Int32.toInt c168
                                    refine pw_j1 ej176 (fun t176_0 et176_0 => ?_)
                                    have et176_0 := et176_0.symm
                                    have f_t176_0 : t176_0.toInt = 1 := by rw [et176_0]; decide +kernel
                                    have f67 : (y150_4 + t176_0).toInt = y150_4.toInt + t176_0.toInt := z_add (by omega) (by omega)
                                    refine pw_vl (fun x177 ex177 => ?_)
                                    have f68 : x177.toInt = (y150_4 + t176_0).toInt := congrArg Int32.toInt ex177
                                    have f69 : (y150_7 + 1).toInt = y150_7.toInt + (1) := z_addc (by decide +kernel) (by omega) (by omega)
                                    have iv150_0 : (y113_5.toInt ≤ (y150_7 + 1).toInt ∧ (y150_7 + 1).toInt ≤ r141.toInt) := by omega
                                    have iv150_1 : x177.toInt = c10 (F 0) (y150_7 + 1).toInt.toNat := by omega
                                    exact ih150 x177 (y150_7 + 1) iv150_0 iv150_1
                                  · have c168 := z_ne c168
                                    refine pw_j1 ej176 (fun t176_0 et176_0 => ?_)
                                    have et176_0 := et176_0.symm
                                    have f_t176_0 : t176_0.toInt = 0 := by rw [et176_0]; decide +kernel
                                    have f70 : (y150_4 + t176_0).toInt = y150_4.toInt + t176_0.toInt := z_add (by omega) (by omega)
                                    refine pw_vl (fun x177 ex177 => ?_)
                                    have f71 : x177.toInt = (y150_4 + t176_0).toInt := congrArg Int32.toInt ex177
                                    have f72 : (y150_7 + 1).toInt = y150_7.toInt + (1) := z_addc (by decide +kernel) (by omega) (by omega)
                                    have iv150_0 : (y113_5.toInt ≤ (y150_7 + 1).toInt ∧ (y150_7 + 1).toInt ≤ r141.toInt) := by omega
                                    have iv150_1 : x177.toInt = c10 (F 0) (y150_7 + 1).toInt.toNat := by omega
                                    exact ih150 x177 (y150_7 + 1) iv150_0 iv150_1
                            exact lp150 NN y113_4 y113_5 (show (y113_5.toInt ≤ y113_5.toInt ∧ y113_5.toInt ≤ r141.toInt) from by omega) (show y113_4.toInt = c10 (F 0) y113_5.toInt.toNat from by omega)
                          · have c134 := z_ne c134
                            refine pw_if (fun hb194 => ?_)
                            obtain ⟨hbl194, hbr194⟩ := hb194
                            refine pw_b1 (fun r195 hc195 => ?_)
                            have hq195 := wp_at (ok_isLetter ((F 0) (Int32.toNatClampNeg y113_5)) ) hc195
                            obtain ⟨f73, f74⟩ : ((r195.toInt = 1 → 65 ≤ ((F 0) (Int32.toNatClampNeg y113_5)).toInt)) ∧ ((0 ≤ r195.toInt ∧ r195.toInt ≤ 1)) := hq195
                            have hx195 := pwq (fn_isLetter ((F 0) (Int32.toNatClampNeg y113_5)) ) hc195
                            obtain ⟨p195_0, p195_1⟩ : ((r195.toInt ≠ 0 → ((97 ≤ ((F 0) (Int32.toNatClampNeg y113_5)).toInt ∧ ((F 0) (Int32.toNatClampNeg y113_5)).toInt ≤ 122) ∨ (65 ≤ ((F 0) (Int32.toNatClampNeg y113_5)).toInt ∧ ((F 0) (Int32.toNatClampNeg y113_5)).toInt ≤ 90)))) ∧ ((r195.toInt = 0 → ¬ ((97 ≤ ((F 0) (Int32.toNatClampNeg y113_5)).toInt ∧ ((F 0) (Int32.toNatClampNeg y113_5)).toInt ≤ 122) ∨ (65 ≤ ((F 0) (Int32.toNatClampNeg y113_5)).toInt ∧ ((F 0) (Int32.toNatClampNeg y113_5)).toInt ≤ 90)))) := hx195
                            refine pw_ite (fun c198 => ?_) (fun c198 => ?_)
                            · have c198 := congrArg Int32.toInt c198
                              refine pw_if (fun hb298 => ?_)
                              obtain ⟨hbl298, hbr298⟩ := hb298
                              refine pw_ite (fun c301 => ?_) (fun c301 => ?_)
                              · have c301 := congrArg Int32.toInt c301
                                have f75 : (y113_4 + 1).toInt = y113_4.toInt + (1) := z_addc (by decide +kernel) (by omega) (by omega)
                                refine pw_j3 ej307 (fun x307_4 ex307_4 x307_6 ex307_6 z307_1 ez307_1 => ?_)
                                subst ez307_1
                                have ex307_4 := ex307_4.symm
                                have f_x307_4 : x307_4.toInt = (y113_4 + 1).toInt := by rw [ex307_4]
                                have ex307_6 := ex307_6.symm
                                have f_x307_6 : x307_6.toInt = x123.toInt := by rw [ex307_6]
                                have iv113_0 : (0 ≤ x307_6.toInt ∧ x307_6.toInt ≤ (g 1).toInt) := by omega
                                have iv113_1 : (x307_4.toInt = c10 (F 0) x307_6.toInt.toNat) := by have e9 : x307_6.toInt.toNat = x123.toInt.toNat := (by omega); rw [e9]; omega
                                have iv113_2 : (MIV (F 0) (Int32.toNatClampNeg (g 1)) d Ws (Int32.toNatClampNeg (g 9)) (Int32.toNatClampNeg x307_6) d113_F67) := by rw [ex307_6, show Int32.toNatClampNeg x123 = Int32.toNatClampNeg y113_5 + 1 by have kx := clampI (x := x123) (by omega); omega]; exact MIV_c iw113 (by omega) (fun z => by omega) (p195_1 (by omega))
                                exact ih113 x307_4 x307_6 d113_F67 iv113_0 iv113_1 iv113_2
                              · have c301 := z_ne c301
                                refine pw_j3 ej307 (fun x307_4 ex307_4 x307_6 ex307_6 z307_1 ez307_1 => ?_)
                                subst ez307_1
                                have ex307_4 := ex307_4.symm
                                have f_x307_4 : x307_4.toInt = y113_4.toInt := by rw [ex307_4]
                                have ex307_6 := ex307_6.symm
                                have f_x307_6 : x307_6.toInt = x123.toInt := by rw [ex307_6]
                                have iv113_0 : (0 ≤ x307_6.toInt ∧ x307_6.toInt ≤ (g 1).toInt) := by omega
                                have iv113_1 : (x307_4.toInt = c10 (F 0) x307_6.toInt.toNat) := by have e9 : x307_6.toInt.toNat = x123.toInt.toNat := (by omega); rw [e9]; omega
                                have iv113_2 : (MIV (F 0) (Int32.toNatClampNeg (g 1)) d Ws (Int32.toNatClampNeg (g 9)) (Int32.toNatClampNeg x307_6) d113_F67) := by rw [ex307_6, show Int32.toNatClampNeg x123 = Int32.toNatClampNeg y113_5 + 1 by have kx := clampI (x := x123) (by omega); omega]; exact MIV_c iw113 (by omega) (fun z => by omega) (p195_1 (by omega))
                                exact ih113 x307_4 x307_6 d113_F67 iv113_0 iv113_1 iv113_2
                            · have c198 := z_ne c198
                              obtain ⟨es, hes1, hes2⟩ := iw113
                              have kx := clampI (x := x123) (by omega)
                              refine pw_jE (fun k226 ek226 => ?_)
                              have lp201 : ∀ (n201 : Nat) (y201_6 : Int32), (y113_5.toInt + 1 ≤ y201_6.toInt ∧ y201_6.toInt ≤ (g 1).toInt) → y113_4.toInt = c10 (F 0) y201_6.toInt.toNat → (lnd (F 0) (Int32.toNatClampNeg (g 1)) (Int32.toNatClampNeg y113_5 + 1) = lnd (F 0) (Int32.toNatClampNeg (g 1)) (Int32.toNatClampNeg y201_6)) → pw (L_mixed_201 g F k226 n201 y201_6) (QF_mixed g F p0 d Ws) := by
                                intro n201
                                induction n201 with
                                | zero => intros; exact pw_none
                                | succ n201 ih201 =>
                                  intro y201_6 f76 f77 il201
                                  show pw (B_mixed_201 g F k226 (L_mixed_201 g F k226 n201) y201_6) _
                                  unfold B_mixed_201
                                  refine pw_ite (fun c204 => ?_) (fun c204 => ?_)
                                  · have c204 := (z_le _ _).mp c204
                                    have k6 := clampI (x := y201_6) (by omega)
                                    have hend : lnd (F 0) (Int32.toNatClampNeg (g 1)) (Int32.toNatClampNeg y113_5 + 1) = Int32.toNatClampNeg y201_6 := il201.trans (lnd_e (fun z => by omega))
                                    refine pw_j1 ek226 (fun x226_6 ex226_6 => ?_)
                                    have ex226_6 := ex226_6.symm
                                    have f_x226_6 : x226_6.toInt = y201_6.toInt := by rw [ex226_6]
                                    have hcl2 := c10_b (F 0) y113_5.toInt.toNat
                                    have k226 := clampI (x := x226_6) (by omega)
                                    have hend6 : lnd (F 0) (Int32.toNatClampNeg (g 1)) (Int32.toNatClampNeg y113_5 + 1) = Int32.toNatClampNeg x226_6 := by rw [ex226_6]; exact hend
                                    have hl4 : y113_4.toInt = ((n10 (F 0) (Int32.toNatClampNeg y113_5) : Nat) : Int) := by have h8 := c10_n (F 0) y113_5.toInt.toNat; have h7 : Int32.toNatClampNeg y113_5 = y113_5.toInt.toNat := rfl; rw [h7]; omega
                                    have hn10 := n10_mono (f := F 0) (p := Int32.toNatClampNeg y113_5) (q := (Int32.toNatClampNeg (g 1))) (by omega)
                                    have hl40 : n10 (F 0) (Int32.toNatClampNeg y113_5) < 40 := by have h9 : (lnN (F 0) (Int32.toNatClampNeg (g 1))) = 1 + n10 (F 0) (Int32.toNatClampNeg (g 1)) := rfl; omega
                                    have k4 := clampI (x := y113_4) (by omega)
                                    refine pw_jE (fun k289 ek289 => ?_)
                                    have lp229 : ∀ (n229 : Nat) (y229_7 : Int32) (d229_F67 : (Nat → Int32)), (0 ≤ y229_7.toInt ∧ y229_7.toInt ≤ 7) → y229_7.toInt ≤ (g 9).toInt + 1 → (CTP d229_F67 d Ws (Int32.toNatClampNeg (g 9)) es (n10 (F 0) (Int32.toNatClampNeg y113_5)) (wdl (F 0) (Int32.toNatClampNeg y113_5) (Int32.toNatClampNeg x226_6 - Int32.toNatClampNeg y113_5)) (Int32.toNatClampNeg y229_7)) → pw (L_mixed_229 g F c79_g23 c79_g27 c79_g30 c79_g34 c79_g36 c79_g39 c79_g51 c79_F22 c79_F24 c79_F25 c79_F26 c79_F28 c79_F29 c79_F31 c79_F32 c79_F33 c79_F37 c79_F38 c79_F40 c79_F41 c79_F52 c79_F53 c79_F54 y113_4 y113_5 x226_6 k289 n229 y229_7 d229_F67) (QF_mixed g F p0 d Ws) := by
                                      intro n229
                                      induction n229 with
                                      | zero => intros; exact pw_none
                                      | succ n229 ih229 =>
                                        intro y229_7 d229_F67 f78 f79 ip229
                                        show pw (B_mixed_229 g F c79_g23 c79_g27 c79_g30 c79_g34 c79_g36 c79_g39 c79_g51 c79_F22 c79_F24 c79_F25 c79_F26 c79_F28 c79_F29 c79_F31 c79_F32 c79_F33 c79_F37 c79_F38 c79_F40 c79_F41 c79_F52 c79_F53 c79_F54 y113_4 y113_5 x226_6 k289 (L_mixed_229 g F c79_g23 c79_g27 c79_g30 c79_g34 c79_g36 c79_g39 c79_g51 c79_F22 c79_F24 c79_F25 c79_F26 c79_F28 c79_F29 c79_F31 c79_F32 c79_F33 c79_F37 c79_F38 c79_F40 c79_F41 c79_F52 c79_F53 c79_F54 y113_4 y113_5 x226_6 k289 n229) y229_7 d229_F67) _
                                        unfold B_mixed_229
                                        refine pw_ite (fun c235 => ?_) (fun c235 => ?_)
                                        · have c235 := (z_lt _ _).mp c235
                                          refine pw_j1 ek289 (fun z289_1 ez289_1 => ?_)
                                          subst ez289_1
                                          refine pw_j3 ej307 (fun x307_4 ex307_4 x307_6 ex307_6 z307_1 ez307_1 => ?_)
                                          subst ez307_1
                                          have ex307_4 := ex307_4.symm
                                          have f_x307_4 : x307_4.toInt = y113_4.toInt := by rw [ex307_4]
                                          have ex307_6 := ex307_6.symm
                                          have f_x307_6 : x307_6.toInt = x226_6.toInt := by rw [ex307_6]
                                          have iv113_0 : (0 ≤ x307_6.toInt ∧ x307_6.toInt ≤ (g 1).toInt) := by omega
                                          have iv113_1 : (x307_4.toInt = c10 (F 0) x307_6.toInt.toNat) := by have e9 : x307_6.toInt.toNat = y201_6.toInt.toNat := (by omega); rw [e9]; omega
                                          have iv113_2 : (MIV (F 0) (Int32.toNatClampNeg (g 1)) d Ws (Int32.toNatClampNeg (g 9)) (Int32.toNatClampNeg x307_6) d229_F67) := by have hcp := CTP_end ip229 (by have k7 := clampI (x := y229_7) (by omega); omega); rw [← hend6] at hcp; rw [ex307_6, ← hend6]; exact MIV_w hes2 (by omega) (p195_0 (by omega)) hcp
                                          exact ih113 x307_4 x307_6 d229_F67 iv113_0 iv113_1 iv113_2
                                        · have c235 := z_nlt c235
                                          have k7 := clampI (x := y229_7) (by omega)
                                          have f80 : (7 * y113_4).toInt = 7 * y113_4.toInt := z_muld (by decide +kernel) (by omega) (by omega)
                                          have f81 : ((7 * y113_4) + y229_7).toInt = (7 * y113_4).toInt + y229_7.toInt := z_add (by omega) (by omega)
                                          refine pw_if (fun hb251 => ?_)
                                          obtain ⟨hbl251, hbr251⟩ := hb251
                                          have kix := clampI (x := (7 * y113_4) + y229_7) (by omega)
                                          have hix : Int32.toNatClampNeg ((7 * y113_4) + y229_7) = 7 * n10 (F 0) (Int32.toNatClampNeg y113_5) + Int32.toNatClampNeg y229_7 := by omega
                                          have hMI257 : id (MInv (upd (upd (upd (upd (upd (upd (upd (upd g 1 0) 23 c79_g23) 27 c79_g27) 30 c79_g30) 34 c79_g34) 36 c79_g36) 39 c79_g39) 51 c79_g51) (upF (upF (upF (upF (upF (upF (upF (upF (upF (upF (upF (upF (upF (upF (upF (upF (upF F 22 c79_F22) 24 c79_F24) 25 c79_F25) 26 c79_F26) 28 c79_F28) 29 c79_F29) 31 c79_F31) 32 c79_F32) 33 c79_F33) 37 c79_F37) 38 c79_F38) 40 c79_F40) 41 c79_F41) 52 c79_F52) 53 c79_F53) 54 c79_F54) 67 d229_F67)) := show MInv (upd (upd (upd (upd (upd (upd (upd (upd g 1 0) 23 c79_g23) 27 c79_g27) 30 c79_g30) 34 c79_g34) 36 c79_g36) 39 c79_g39) 51 c79_g51) (upF (upF (upF (upF (upF (upF (upF (upF (upF (upF (upF (upF (upF (upF (upF (upF (upF F 22 c79_F22) 24 c79_F24) 25 c79_F25) 26 c79_F26) 28 c79_F28) 29 c79_F29) 31 c79_F31) 32 c79_F32) 33 c79_F33) 37 c79_F37) 38 c79_F38) 40 c79_F40) 41 c79_F41) 52 c79_F52) 53 c79_F53) 54 c79_F54) 67 d229_F67) from (MInv_i hg1 ((hI9.2.1)) ((hI9.2.2.1)) ((hI9.2.2.2.1)) ((hI9.2.2.2.2.1)) ((hI9.2.2.2.2.2.1)) ((hI9.2.2.2.2.2.2.1)) ((hI9.2.2.2.2.2.2.2.1)) hzg9 hg8 hg9 hg10 hg11 hg12 hg13 ((hI9.2.2.2.2.2.2.2.2.2.2.2.2.2.2.2.1)) ((hI9.2.2.2.2.2.2.2.2.2.2.2.2.2.2.2.2.1)) hzg48 hg14 ((hI9.2.2.2.2.2.2.2.2.2.2.2.2.2.2.2.2.2.2.2.1)) ((hI9.2.2.2.2.2.2.2.2.2.2.2.2.2.2.2.2.2.2.2.2.1)) ((hI9.2.2.2.2.2.2.2.2.2.2.2.2.2.2.2.2.2.2.2.2.2.1)) ((hI9.2.2.2.2.2.2.2.2.2.2.2.2.2.2.2.2.2.2.2.2.2.2.1)) ((hI9.2.2.2.2.2.2.2.2.2.2.2.2.2.2.2.2.2.2.2.2.2.2.2.1)) hzg70 hzF11 hzF12 hzF13 hzF15 hzF19 hzF21 hg15 hg16 hg17 hg18 hg19 hg20 hzF43 hzF45 hzF46 hzF50 hg21 hg22 hzLQ)
                                          have hpr257_0 : 0 ≤ y113_5.toInt := by first | assumption | omega
                                          have hpr257_1 : x226_6.toInt ≤ 2000 := by first | assumption | omega
                                          refine pw_b1 (fun r257 hc257 => ?_)
                                          have hq257 := wp_at (ok_isName (upd (upd (upd (upd (upd (upd (upd (upd g 1 0) 23 c79_g23) 27 c79_g27) 30 c79_g30) 34 c79_g34) 36 c79_g36) 39 c79_g39) 51 c79_g51) (upF (upF (upF (upF (upF (upF (upF (upF (upF (upF (upF (upF (upF (upF (upF (upF (upF F 22 c79_F22) 24 c79_F24) 25 c79_F25) 26 c79_F26) 28 c79_F28) 29 c79_F29) 31 c79_F31) 32 c79_F32) 33 c79_F33) 37 c79_F37) 38 c79_F38) 40 c79_F40) 41 c79_F41) 52 c79_F52) 53 c79_F53) 54 c79_F54) 67 d229_F67) y113_5 x226_6 hMI257 hpr257_0 hpr257_1) hc257
                                          have f82 : (0 ≤ r257.toInt ∧ r257.toInt ≤ 1) := hq257
                                          clear hq257
                                          have h8257_hle : y113_5.toInt ≤ x226_6.toInt := by omega
                                          have hx257 := pwq (fn_isName (upd (upd (upd (upd (upd (upd (upd (upd g 1 0) 23 c79_g23) 27 c79_g27) 30 c79_g30) 34 c79_g34) 36 c79_g36) 39 c79_g39) 51 c79_g51) (upF (upF (upF (upF (upF (upF (upF (upF (upF (upF (upF (upF (upF (upF (upF (upF (upF F 22 c79_F22) 24 c79_F24) 25 c79_F25) 26 c79_F26) 28 c79_F28) 29 c79_F29) 31 c79_F31) 32 c79_F32) 33 c79_F33) 37 c79_F37) 38 c79_F38) 40 c79_F40) 41 c79_F41) 52 c79_F52) 53 c79_F53) 54 c79_F54) 67 d229_F67) y113_5 x226_6 hMI257 hpr257_0 hpr257_1 h8257_hle) hc257
                                          obtain ⟨p257_0, p257_1⟩ : (id ((r257.toInt ≠ 0 → nmB (wdl (F 0) (Int32.toNatClampNeg y113_5) (Int32.toNatClampNeg x226_6 - Int32.toNatClampNeg y113_5)) = true))) ∧ (id ((r257.toInt = 0 → nmB (wdl (F 0) (Int32.toNatClampNeg y113_5) (Int32.toNatClampNeg x226_6 - Int32.toNatClampNeg y113_5)) = false))) := hx257
                                          refine pw_jE (fun j281 ej281 => ?_)
                                          refine pw_jE (fun j276 ej276 => ?_)
                                          refine pw_ite (fun c260 => ?_) (fun c260 => ?_)
                                          · have c260 := congrArg Int32.toInt c260
                                            have hMI270 : id (MInv (upd (upd (upd (upd (upd (upd (upd (upd g 1 0) 23 c79_g23) 27 c79_g27) 30 c79_g30) 34 c79_g34) 36 c79_g36) 39 c79_g39) 51 c79_g51) (upF (upF (upF (upF (upF (upF (upF (upF (upF (upF (upF (upF (upF (upF (upF (upF (upF F 22 c79_F22) 24 c79_F24) 25 c79_F25) 26 c79_F26) 28 c79_F28) 29 c79_F29) 31 c79_F31) 32 c79_F32) 33 c79_F33) 37 c79_F37) 38 c79_F38) 40 c79_F40) 41 c79_F41) 52 c79_F52) 53 c79_F53) 54 c79_F54) 67 d229_F67)) := show MInv (upd (upd (upd (upd (upd (upd (upd (upd g 1 0) 23 c79_g23) 27 c79_g27) 30 c79_g30) 34 c79_g34) 36 c79_g36) 39 c79_g39) 51 c79_g51) (upF (upF (upF (upF (upF (upF (upF (upF (upF (upF (upF (upF (upF (upF (upF (upF (upF F 22 c79_F22) 24 c79_F24) 25 c79_F25) 26 c79_F26) 28 c79_F28) 29 c79_F29) 31 c79_F31) 32 c79_F32) 33 c79_F33) 37 c79_F37) 38 c79_F38) 40 c79_F40) 41 c79_F41) 52 c79_F52) 53 c79_F53) 54 c79_F54) 67 d229_F67) from (MInv_i hg1 ((hI9.2.1)) ((hI9.2.2.1)) ((hI9.2.2.2.1)) ((hI9.2.2.2.2.1)) ((hI9.2.2.2.2.2.1)) ((hI9.2.2.2.2.2.2.1)) ((hI9.2.2.2.2.2.2.2.1)) hzg9 hg8 hg9 hg10 hg11 hg12 hg13 ((hI9.2.2.2.2.2.2.2.2.2.2.2.2.2.2.2.1)) ((hI9.2.2.2.2.2.2.2.2.2.2.2.2.2.2.2.2.1)) hzg48 hg14 ((hI9.2.2.2.2.2.2.2.2.2.2.2.2.2.2.2.2.2.2.2.1)) ((hI9.2.2.2.2.2.2.2.2.2.2.2.2.2.2.2.2.2.2.2.2.1)) ((hI9.2.2.2.2.2.2.2.2.2.2.2.2.2.2.2.2.2.2.2.2.2.1)) ((hI9.2.2.2.2.2.2.2.2.2.2.2.2.2.2.2.2.2.2.2.2.2.2.1)) ((hI9.2.2.2.2.2.2.2.2.2.2.2.2.2.2.2.2.2.2.2.2.2.2.2.1)) hzg70 hzF11 hzF12 hzF13 hzF15 hzF19 hzF21 hg15 hg16 hg17 hg18 hg19 hg20 hzF43 hzF45 hzF46 hzF50 hg21 hg22 hzLQ)
                                            have hpr270_0 : (0 ≤ y229_7.toInt ∧ y229_7.toInt ≤ 6) := by first | assumption | omega
                                            have hpr270_1 : (0 ≤ y113_5.toInt ∧ y113_5.toInt ≤ x226_6.toInt ∧ x226_6.toInt ≤ 2000) := by first | assumption | omega
                                            refine pw_b1 (fun r270 hc270 => ?_)
                                            have hq270 := wp_at (ok_isKnown (upd (upd (upd (upd (upd (upd (upd (upd g 1 0) 23 c79_g23) 27 c79_g27) 30 c79_g30) 34 c79_g34) 36 c79_g36) 39 c79_g39) 51 c79_g51) (upF (upF (upF (upF (upF (upF (upF (upF (upF (upF (upF (upF (upF (upF (upF (upF (upF F 22 c79_F22) 24 c79_F24) 25 c79_F25) 26 c79_F26) 28 c79_F28) 29 c79_F29) 31 c79_F31) 32 c79_F32) 33 c79_F33) 37 c79_F37) 38 c79_F38) 40 c79_F40) 41 c79_F41) 52 c79_F52) 53 c79_F53) 54 c79_F54) 67 d229_F67) y229_7 y113_5 x226_6 hMI270 hpr270_0 hpr270_1) hc270
                                            have f83 : (0 ≤ r270.toInt ∧ r270.toInt ≤ 1) := hq270
                                            clear hq270
                                            have h8270_hmt : MKT c79_F54 c79_F52 c79_F53 d Ws (fun w s => w < Int32.toNatClampNeg (g 48) ∧ s ≤ Int32.toNatClampNeg (g 9)) := by exact hmt
                                            have h8270_hfw : id (∀ s w, s ≤ Int32.toNatClampNeg (g 9) → WDS (FMT d Ws s w)) := show ∀ s w, s ≤ Int32.toNatClampNeg (g 9) → WDS (FMT d Ws s w) from by exact hfw
                                            have h8270_hWl : Ws.length = Int32.toNatClampNeg (g 48) := by exact hWl
                                            have h8270_hps : y229_7.toInt ≤ (g 9).toInt := by omega
                                            have hx270 := pwq (fn_isKnown (upd (upd (upd (upd (upd (upd (upd (upd g 1 0) 23 c79_g23) 27 c79_g27) 30 c79_g30) 34 c79_g34) 36 c79_g36) 39 c79_g39) 51 c79_g51) (upF (upF (upF (upF (upF (upF (upF (upF (upF (upF (upF (upF (upF (upF (upF (upF (upF F 22 c79_F22) 24 c79_F24) 25 c79_F25) 26 c79_F26) 28 c79_F28) 29 c79_F29) 31 c79_F31) 32 c79_F32) 33 c79_F33) 37 c79_F37) 38 c79_F38) 40 c79_F40) 41 c79_F41) 52 c79_F52) 53 c79_F53) 54 c79_F54) 67 d229_F67) y229_7 y113_5 x226_6 (d) (Ws) hMI270 hpr270_0 hpr270_1 h8270_hmt h8270_hfw h8270_hWl h8270_hps) hc270
                                            obtain ⟨p270_0, p270_1⟩ : (id ((r270.toInt ≠ 0 → knB d Ws (Int32.toNatClampNeg y229_7) (wdl (F 0) (Int32.toNatClampNeg y113_5) (Int32.toNatClampNeg x226_6 - Int32.toNatClampNeg y113_5)) = true))) ∧ (id ((r270.toInt = 0 → knB d Ws (Int32.toNatClampNeg y229_7) (wdl (F 0) (Int32.toNatClampNeg y113_5) (Int32.toNatClampNeg x226_6 - Int32.toNatClampNeg y113_5)) = false))) := hx270
                                            refine pw_ite (fun c273 => ?_) (fun c273 => ?_)
                                            · have c273 := congrArg Int32.toInt c273
                                              refine pw_j1 ej281 (fun t281_0 et281_0 => ?_)
                                              have et281_0 := et281_0.symm
                                              have f_t281_0 : t281_0.toInt = 1 := by rw [et281_0]; decide +kernel
                                              refine pw_if (fun hb282 => ?_)
                                              obtain ⟨hbl282, hbr282⟩ := hb282
                                              refine pw_vl (fun w282 ew282 => ?_)
                                              have f84 : (y229_7 + 1).toInt = y229_7.toInt + (1) := z_addc (by decide +kernel) (by omega) (by omega)
                                              have iv229_0 : (0 ≤ (y229_7 + 1).toInt ∧ (y229_7 + 1).toInt ≤ 7) := by omega
                                              have iv229_1 : (y229_7 + 1).toInt ≤ (g 9).toInt + 1 := by omega
                                              have iv229_2 : (CTP w282 d Ws (Int32.toNatClampNeg (g 9)) es (n10 (F 0) (Int32.toNatClampNeg y113_5)) (wdl (F 0) (Int32.toNatClampNeg y113_5) (Int32.toNatClampNeg x226_6 - Int32.toNatClampNeg y113_5)) (Int32.toNatClampNeg (y229_7 + 1))) := by have k8 := clampI (x := y229_7 + 1) (by omega); rw [show Int32.toNatClampNeg (y229_7 + 1) = Int32.toNatClampNeg y229_7 + 1 by omega]; exact CTP_s ip229 (by omega) (by omega) hl40 (by rw [et281_0, chB_1 (p257_1 (by omega)) (p270_1 (by omega))]; rfl) (up_e ew282 hix)
                                              exact ih229 (y229_7 + 1) w282 iv229_0 iv229_1 iv229_2
                                            · have c273 := z_ne c273
                                              refine pw_j0 ej276 ?_
                                              refine pw_j1 ej281 (fun t281_0 et281_0 => ?_)
                                              have et281_0 := et281_0.symm
                                              have f_t281_0 : t281_0.toInt = 0 := by rw [et281_0]; decide +kernel
                                              refine pw_if (fun hb282 => ?_)
                                              obtain ⟨hbl282, hbr282⟩ := hb282
                                              refine pw_vl (fun w282 ew282 => ?_)
                                              have f85 : (y229_7 + 1).toInt = y229_7.toInt + (1) := z_addc (by decide +kernel) (by omega) (by omega)
                                              have iv229_0 : (0 ≤ (y229_7 + 1).toInt ∧ (y229_7 + 1).toInt ≤ 7) := by omega
                                              have iv229_1 : (y229_7 + 1).toInt ≤ (g 9).toInt + 1 := by omega
                                              have iv229_2 : (CTP w282 d Ws (Int32.toNatClampNeg (g 9)) es (n10 (F 0) (Int32.toNatClampNeg y113_5)) (wdl (F 0) (Int32.toNatClampNeg y113_5) (Int32.toNatClampNeg x226_6 - Int32.toNatClampNeg y113_5)) (Int32.toNatClampNeg (y229_7 + 1))) := by have k8 := clampI (x := y229_7 + 1) (by omega); rw [show Int32.toNatClampNeg (y229_7 + 1) = Int32.toNatClampNeg y229_7 + 1 by omega]; exact CTP_s ip229 (by omega) (by omega) hl40 (by rw [et281_0, chB_k (p270_0 (by omega))]; rfl) (up_e ew282 hix)
                                              exact ih229 (y229_7 + 1) w282 iv229_0 iv229_1 iv229_2
                                          · have c260 := z_ne c260
                                            refine pw_j0 ej276 ?_
                                            refine pw_j1 ej281 (fun t281_0 et281_0 => ?_)
                                            have et281_0 := et281_0.symm
                                            have f_t281_0 : t281_0.toInt = 0 := by rw [et281_0]; decide +kernel
                                            refine pw_if (fun hb282 => ?_)
                                            obtain ⟨hbl282, hbr282⟩ := hb282
                                            refine pw_vl (fun w282 ew282 => ?_)
                                            have f86 : (y229_7 + 1).toInt = y229_7.toInt + (1) := z_addc (by decide +kernel) (by omega) (by omega)
                                            have iv229_0 : (0 ≤ (y229_7 + 1).toInt ∧ (y229_7 + 1).toInt ≤ 7) := by omega
                                            have iv229_1 : (y229_7 + 1).toInt ≤ (g 9).toInt + 1 := by omega
                                            have iv229_2 : (CTP w282 d Ws (Int32.toNatClampNeg (g 9)) es (n10 (F 0) (Int32.toNatClampNeg y113_5)) (wdl (F 0) (Int32.toNatClampNeg y113_5) (Int32.toNatClampNeg x226_6 - Int32.toNatClampNeg y113_5)) (Int32.toNatClampNeg (y229_7 + 1))) := by have k8 := clampI (x := y229_7 + 1) (by omega); rw [show Int32.toNatClampNeg (y229_7 + 1) = Int32.toNatClampNeg y229_7 + 1 by omega]; exact CTP_s ip229 (by omega) (by omega) hl40 (by rw [et281_0, chB_n (p257_0 (by omega))]; rfl) (up_e ew282 hix)
                                            exact ih229 (y229_7 + 1) w282 iv229_0 iv229_1 iv229_2
                                    exact lp229 NN (0 : Int32) d113_F67 (show (0 ≤ (0 : Int32).toInt ∧ (0 : Int32).toInt ≤ 7) from by omega) (show (0 : Int32).toInt ≤ (g 9).toInt + 1 from by omega) (show (CTP d113_F67 d Ws (Int32.toNatClampNeg (g 9)) es (n10 (F 0) (Int32.toNatClampNeg y113_5)) (wdl (F 0) (Int32.toNatClampNeg y113_5) (Int32.toNatClampNeg x226_6 - Int32.toNatClampNeg y113_5)) (Int32.toNatClampNeg (0 : Int32))) from by exact CTP_0 hes1)
                                  · have c204 := z_nle c204
                                    have hcb := c10_b (F 0) y201_6.toInt.toNat
                                    have hcs := c10_s (F 0) (a := y201_6) (b := y201_6 + 1) (by omega) (z_addc (by decide +kernel) (by omega) (by omega))
                                    refine pw_if (fun hb213 => ?_)
                                    obtain ⟨hbl213, hbr213⟩ := hb213
                                    refine pw_b1 (fun r214 hc214 => ?_)
                                    have hq214 := wp_at (ok_isLetter ((F 0) (Int32.toNatClampNeg y201_6)) ) hc214
                                    obtain ⟨f87, f88⟩ : ((r214.toInt = 1 → 65 ≤ ((F 0) (Int32.toNatClampNeg y201_6)).toInt)) ∧ ((0 ≤ r214.toInt ∧ r214.toInt ≤ 1)) := hq214
                                    have hx214 := pwq (fn_isLetter ((F 0) (Int32.toNatClampNeg y201_6)) ) hc214
                                    obtain ⟨p214_0, p214_1⟩ : ((r214.toInt ≠ 0 → ((97 ≤ ((F 0) (Int32.toNatClampNeg y201_6)).toInt ∧ ((F 0) (Int32.toNatClampNeg y201_6)).toInt ≤ 122) ∨ (65 ≤ ((F 0) (Int32.toNatClampNeg y201_6)).toInt ∧ ((F 0) (Int32.toNatClampNeg y201_6)).toInt ≤ 90)))) ∧ ((r214.toInt = 0 → ¬ ((97 ≤ ((F 0) (Int32.toNatClampNeg y201_6)).toInt ∧ ((F 0) (Int32.toNatClampNeg y201_6)).toInt ≤ 122) ∨ (65 ≤ ((F 0) (Int32.toNatClampNeg y201_6)).toInt ∧ ((F 0) (Int32.toNatClampNeg y201_6)).toInt ≤ 90)))) := hx214
                                    refine pw_ite (fun c217 => ?_) (fun c217 => ?_)
                                    · have c217 := congrArg Int32.toInt c217
                                      have k6 := clampI (x := y201_6) (by omega)
                                      have hend : lnd (F 0) (Int32.toNatClampNeg (g 1)) (Int32.toNatClampNeg y113_5 + 1) = Int32.toNatClampNeg y201_6 := il201.trans (lnd_e (fun z => p214_1 (by omega) z.2))
                                      refine pw_j1 ek226 (fun x226_6 ex226_6 => ?_)
                                      have ex226_6 := ex226_6.symm
                                      have f_x226_6 : x226_6.toInt = y201_6.toInt := by rw [ex226_6]
                                      have hcl2 := c10_b (F 0) y113_5.toInt.toNat
                                      have k226 := clampI (x := x226_6) (by omega)
                                      have hend6 : lnd (F 0) (Int32.toNatClampNeg (g 1)) (Int32.toNatClampNeg y113_5 + 1) = Int32.toNatClampNeg x226_6 := by rw [ex226_6]; exact hend
                                      have hl4 : y113_4.toInt = ((n10 (F 0) (Int32.toNatClampNeg y113_5) : Nat) : Int) := by have h8 := c10_n (F 0) y113_5.toInt.toNat; have h7 : Int32.toNatClampNeg y113_5 = y113_5.toInt.toNat := rfl; rw [h7]; omega
                                      have hn10 := n10_mono (f := F 0) (p := Int32.toNatClampNeg y113_5) (q := (Int32.toNatClampNeg (g 1))) (by omega)
                                      have hl40 : n10 (F 0) (Int32.toNatClampNeg y113_5) < 40 := by have h9 : (lnN (F 0) (Int32.toNatClampNeg (g 1))) = 1 + n10 (F 0) (Int32.toNatClampNeg (g 1)) := rfl; omega
                                      have k4 := clampI (x := y113_4) (by omega)
                                      refine pw_jE (fun k289 ek289 => ?_)
                                      have lp229 : ∀ (n229 : Nat) (y229_7 : Int32) (d229_F67 : (Nat → Int32)), (0 ≤ y229_7.toInt ∧ y229_7.toInt ≤ 7) → y229_7.toInt ≤ (g 9).toInt + 1 → (CTP d229_F67 d Ws (Int32.toNatClampNeg (g 9)) es (n10 (F 0) (Int32.toNatClampNeg y113_5)) (wdl (F 0) (Int32.toNatClampNeg y113_5) (Int32.toNatClampNeg x226_6 - Int32.toNatClampNeg y113_5)) (Int32.toNatClampNeg y229_7)) → pw (L_mixed_229 g F c79_g23 c79_g27 c79_g30 c79_g34 c79_g36 c79_g39 c79_g51 c79_F22 c79_F24 c79_F25 c79_F26 c79_F28 c79_F29 c79_F31 c79_F32 c79_F33 c79_F37 c79_F38 c79_F40 c79_F41 c79_F52 c79_F53 c79_F54 y113_4 y113_5 x226_6 k289 n229 y229_7 d229_F67) (QF_mixed g F p0 d Ws) := by
                                        intro n229
                                        induction n229 with
                                        | zero => intros; exact pw_none
                                        | succ n229 ih229 =>
                                          intro y229_7 d229_F67 f89 f90 ip229
                                          show pw (B_mixed_229 g F c79_g23 c79_g27 c79_g30 c79_g34 c79_g36 c79_g39 c79_g51 c79_F22 c79_F24 c79_F25 c79_F26 c79_F28 c79_F29 c79_F31 c79_F32 c79_F33 c79_F37 c79_F38 c79_F40 c79_F41 c79_F52 c79_F53 c79_F54 y113_4 y113_5 x226_6 k289 (L_mixed_229 g F c79_g23 c79_g27 c79_g30 c79_g34 c79_g36 c79_g39 c79_g51 c79_F22 c79_F24 c79_F25 c79_F26 c79_F28 c79_F29 c79_F31 c79_F32 c79_F33 c79_F37 c79_F38 c79_F40 c79_F41 c79_F52 c79_F53 c79_F54 y113_4 y113_5 x226_6 k289 n229) y229_7 d229_F67) _
                                          unfold B_mixed_229
                                          refine pw_ite (fun c235 => ?_) (fun c235 => ?_)
                                          · have c235 := (z_lt _ _).mp c235
                                            refine pw_j1 ek289 (fun z289_1 ez289_1 => ?_)
                                            subst ez289_1
                                            refine pw_j3 ej307 (fun x307_4 ex307_4 x307_6 ex307_6 z307_1 ez307_1 => ?_)
                                            subst ez307_1
                                            have ex307_4 := ex307_4.symm
                                            have f_x307_4 : x307_4.toInt = y113_4.toInt := by rw [ex307_4]
                                            have ex307_6 := ex307_6.symm
                                            have f_x307_6 : x307_6.toInt = x226_6.toInt := by rw [ex307_6]
                                            have iv113_0 : (0 ≤ x307_6.toInt ∧ x307_6.toInt ≤ (g 1).toInt) := by omega
                                            have iv113_1 : (x307_4.toInt = c10 (F 0) x307_6.toInt.toNat) := by have e9 : x307_6.toInt.toNat = y201_6.toInt.toNat := (by omega); rw [e9]; omega
                                            have iv113_2 : (MIV (F 0) (Int32.toNatClampNeg (g 1)) d Ws (Int32.toNatClampNeg (g 9)) (Int32.toNatClampNeg x307_6) d229_F67) := by have hcp := CTP_end ip229 (by have k7 := clampI (x := y229_7) (by omega); omega); rw [← hend6] at hcp; rw [ex307_6, ← hend6]; exact MIV_w hes2 (by omega) (p195_0 (by omega)) hcp
                                            exact ih113 x307_4 x307_6 d229_F67 iv113_0 iv113_1 iv113_2
                                          · have c235 := z_nlt c235
                                            have k7 := clampI (x := y229_7) (by omega)
                                            have f91 : (7 * y113_4).toInt = 7 * y113_4.toInt := z_muld (by decide +kernel) (by omega) (by omega)
                                            have f92 : ((7 * y113_4) + y229_7).toInt = (7 * y113_4).toInt + y229_7.toInt := z_add (by omega) (by omega)
                                            refine pw_if (fun hb251 => ?_)
                                            obtain ⟨hbl251, hbr251⟩ := hb251
                                            have kix := clampI (x := (7 * y113_4) + y229_7) (by omega)
                                            have hix : Int32.toNatClampNeg ((7 * y113_4) + y229_7) = 7 * n10 (F 0) (Int32.toNatClampNeg y113_5) + Int32.toNatClampNeg y229_7 := by omega
                                            have hMI257 : id (MInv (upd (upd (upd (upd (upd (upd (upd (upd g 1 0) 23 c79_g23) 27 c79_g27) 30 c79_g30) 34 c79_g34) 36 c79_g36) 39 c79_g39) 51 c79_g51) (upF (upF (upF (upF (upF (upF (upF (upF (upF (upF (upF (upF (upF (upF (upF (upF (upF F 22 c79_F22) 24 c79_F24) 25 c79_F25) 26 c79_F26) 28 c79_F28) 29 c79_F29) 31 c79_F31) 32 c79_F32) 33 c79_F33) 37 c79_F37) 38 c79_F38) 40 c79_F40) 41 c79_F41) 52 c79_F52) 53 c79_F53) 54 c79_F54) 67 d229_F67)) := show MInv (upd (upd (upd (upd (upd (upd (upd (upd g 1 0) 23 c79_g23) 27 c79_g27) 30 c79_g30) 34 c79_g34) 36 c79_g36) 39 c79_g39) 51 c79_g51) (upF (upF (upF (upF (upF (upF (upF (upF (upF (upF (upF (upF (upF (upF (upF (upF (upF F 22 c79_F22) 24 c79_F24) 25 c79_F25) 26 c79_F26) 28 c79_F28) 29 c79_F29) 31 c79_F31) 32 c79_F32) 33 c79_F33) 37 c79_F37) 38 c79_F38) 40 c79_F40) 41 c79_F41) 52 c79_F52) 53 c79_F53) 54 c79_F54) 67 d229_F67) from (MInv_i hg1 ((hI9.2.1)) ((hI9.2.2.1)) ((hI9.2.2.2.1)) ((hI9.2.2.2.2.1)) ((hI9.2.2.2.2.2.1)) ((hI9.2.2.2.2.2.2.1)) ((hI9.2.2.2.2.2.2.2.1)) hzg9 hg8 hg9 hg10 hg11 hg12 hg13 ((hI9.2.2.2.2.2.2.2.2.2.2.2.2.2.2.2.1)) ((hI9.2.2.2.2.2.2.2.2.2.2.2.2.2.2.2.2.1)) hzg48 hg14 ((hI9.2.2.2.2.2.2.2.2.2.2.2.2.2.2.2.2.2.2.2.1)) ((hI9.2.2.2.2.2.2.2.2.2.2.2.2.2.2.2.2.2.2.2.2.1)) ((hI9.2.2.2.2.2.2.2.2.2.2.2.2.2.2.2.2.2.2.2.2.2.1)) ((hI9.2.2.2.2.2.2.2.2.2.2.2.2.2.2.2.2.2.2.2.2.2.2.1)) ((hI9.2.2.2.2.2.2.2.2.2.2.2.2.2.2.2.2.2.2.2.2.2.2.2.1)) hzg70 hzF11 hzF12 hzF13 hzF15 hzF19 hzF21 hg15 hg16 hg17 hg18 hg19 hg20 hzF43 hzF45 hzF46 hzF50 hg21 hg22 hzLQ)
                                            have hpr257_0 : 0 ≤ y113_5.toInt := by first | assumption | omega
                                            have hpr257_1 : x226_6.toInt ≤ 2000 := by first | assumption | omega
                                            refine pw_b1 (fun r257 hc257 => ?_)
                                            have hq257 := wp_at (ok_isName (upd (upd (upd (upd (upd (upd (upd (upd g 1 0) 23 c79_g23) 27 c79_g27) 30 c79_g30) 34 c79_g34) 36 c79_g36) 39 c79_g39) 51 c79_g51) (upF (upF (upF (upF (upF (upF (upF (upF (upF (upF (upF (upF (upF (upF (upF (upF (upF F 22 c79_F22) 24 c79_F24) 25 c79_F25) 26 c79_F26) 28 c79_F28) 29 c79_F29) 31 c79_F31) 32 c79_F32) 33 c79_F33) 37 c79_F37) 38 c79_F38) 40 c79_F40) 41 c79_F41) 52 c79_F52) 53 c79_F53) 54 c79_F54) 67 d229_F67) y113_5 x226_6 hMI257 hpr257_0 hpr257_1) hc257
                                            have f93 : (0 ≤ r257.toInt ∧ r257.toInt ≤ 1) := hq257
                                            clear hq257
                                            have h8257_hle : y113_5.toInt ≤ x226_6.toInt := by omega
                                            have hx257 := pwq (fn_isName (upd (upd (upd (upd (upd (upd (upd (upd g 1 0) 23 c79_g23) 27 c79_g27) 30 c79_g30) 34 c79_g34) 36 c79_g36) 39 c79_g39) 51 c79_g51) (upF (upF (upF (upF (upF (upF (upF (upF (upF (upF (upF (upF (upF (upF (upF (upF (upF F 22 c79_F22) 24 c79_F24) 25 c79_F25) 26 c79_F26) 28 c79_F28) 29 c79_F29) 31 c79_F31) 32 c79_F32) 33 c79_F33) 37 c79_F37) 38 c79_F38) 40 c79_F40) 41 c79_F41) 52 c79_F52) 53 c79_F53) 54 c79_F54) 67 d229_F67) y113_5 x226_6 hMI257 hpr257_0 hpr257_1 h8257_hle) hc257
                                            obtain ⟨p257_0, p257_1⟩ : (id ((r257.toInt ≠ 0 → nmB (wdl (F 0) (Int32.toNatClampNeg y113_5) (Int32.toNatClampNeg x226_6 - Int32.toNatClampNeg y113_5)) = true))) ∧ (id ((r257.toInt = 0 → nmB (wdl (F 0) (Int32.toNatClampNeg y113_5) (Int32.toNatClampNeg x226_6 - Int32.toNatClampNeg y113_5)) = false))) := hx257
                                            refine pw_jE (fun j281 ej281 => ?_)
                                            refine pw_jE (fun j276 ej276 => ?_)
                                            refine pw_ite (fun c260 => ?_) (fun c260 => ?_)
                                            · have c260 := congrArg Int32.toInt c260
                                              have hMI270 : id (MInv (upd (upd (upd (upd (upd (upd (upd (upd g 1 0) 23 c79_g23) 27 c79_g27) 30 c79_g30) 34 c79_g34) 36 c79_g36) 39 c79_g39) 51 c79_g51) (upF (upF (upF (upF (upF (upF (upF (upF (upF (upF (upF (upF (upF (upF (upF (upF (upF F 22 c79_F22) 24 c79_F24) 25 c79_F25) 26 c79_F26) 28 c79_F28) 29 c79_F29) 31 c79_F31) 32 c79_F32) 33 c79_F33) 37 c79_F37) 38 c79_F38) 40 c79_F40) 41 c79_F41) 52 c79_F52) 53 c79_F53) 54 c79_F54) 67 d229_F67)) := show MInv (upd (upd (upd (upd (upd (upd (upd (upd g 1 0) 23 c79_g23) 27 c79_g27) 30 c79_g30) 34 c79_g34) 36 c79_g36) 39 c79_g39) 51 c79_g51) (upF (upF (upF (upF (upF (upF (upF (upF (upF (upF (upF (upF (upF (upF (upF (upF (upF F 22 c79_F22) 24 c79_F24) 25 c79_F25) 26 c79_F26) 28 c79_F28) 29 c79_F29) 31 c79_F31) 32 c79_F32) 33 c79_F33) 37 c79_F37) 38 c79_F38) 40 c79_F40) 41 c79_F41) 52 c79_F52) 53 c79_F53) 54 c79_F54) 67 d229_F67) from (MInv_i hg1 ((hI9.2.1)) ((hI9.2.2.1)) ((hI9.2.2.2.1)) ((hI9.2.2.2.2.1)) ((hI9.2.2.2.2.2.1)) ((hI9.2.2.2.2.2.2.1)) ((hI9.2.2.2.2.2.2.2.1)) hzg9 hg8 hg9 hg10 hg11 hg12 hg13 ((hI9.2.2.2.2.2.2.2.2.2.2.2.2.2.2.2.1)) ((hI9.2.2.2.2.2.2.2.2.2.2.2.2.2.2.2.2.1)) hzg48 hg14 ((hI9.2.2.2.2.2.2.2.2.2.2.2.2.2.2.2.2.2.2.2.1)) ((hI9.2.2.2.2.2.2.2.2.2.2.2.2.2.2.2.2.2.2.2.2.1)) ((hI9.2.2.2.2.2.2.2.2.2.2.2.2.2.2.2.2.2.2.2.2.2.1)) ((hI9.2.2.2.2.2.2.2.2.2.2.2.2.2.2.2.2.2.2.2.2.2.2.1)) ((hI9.2.2.2.2.2.2.2.2.2.2.2.2.2.2.2.2.2.2.2.2.2.2.2.1)) hzg70 hzF11 hzF12 hzF13 hzF15 hzF19 hzF21 hg15 hg16 hg17 hg18 hg19 hg20 hzF43 hzF45 hzF46 hzF50 hg21 hg22 hzLQ)
                                              have hpr270_0 : (0 ≤ y229_7.toInt ∧ y229_7.toInt ≤ 6) := by first | assumption | omega
                                              have hpr270_1 : (0 ≤ y113_5.toInt ∧ y113_5.toInt ≤ x226_6.toInt ∧ x226_6.toInt ≤ 2000) := by first | assumption | omega
                                              refine pw_b1 (fun r270 hc270 => ?_)
                                              have hq270 := wp_at (ok_isKnown (upd (upd (upd (upd (upd (upd (upd (upd g 1 0) 23 c79_g23) 27 c79_g27) 30 c79_g30) 34 c79_g34) 36 c79_g36) 39 c79_g39) 51 c79_g51) (upF (upF (upF (upF (upF (upF (upF (upF (upF (upF (upF (upF (upF (upF (upF (upF (upF F 22 c79_F22) 24 c79_F24) 25 c79_F25) 26 c79_F26) 28 c79_F28) 29 c79_F29) 31 c79_F31) 32 c79_F32) 33 c79_F33) 37 c79_F37) 38 c79_F38) 40 c79_F40) 41 c79_F41) 52 c79_F52) 53 c79_F53) 54 c79_F54) 67 d229_F67) y229_7 y113_5 x226_6 hMI270 hpr270_0 hpr270_1) hc270
                                              have f94 : (0 ≤ r270.toInt ∧ r270.toInt ≤ 1) := hq270
                                              clear hq270
                                              have h8270_hmt : MKT c79_F54 c79_F52 c79_F53 d Ws (fun w s => w < Int32.toNatClampNeg (g 48) ∧ s ≤ Int32.toNatClampNeg (g 9)) := by exact hmt
                                              have h8270_hfw : id (∀ s w, s ≤ Int32.toNatClampNeg (g 9) → WDS (FMT d Ws s w)) := show ∀ s w, s ≤ Int32.toNatClampNeg (g 9) → WDS (FMT d Ws s w) from by exact hfw
                                              have h8270_hWl : Ws.length = Int32.toNatClampNeg (g 48) := by exact hWl
                                              have h8270_hps : y229_7.toInt ≤ (g 9).toInt := by omega
                                              have hx270 := pwq (fn_isKnown (upd (upd (upd (upd (upd (upd (upd (upd g 1 0) 23 c79_g23) 27 c79_g27) 30 c79_g30) 34 c79_g34) 36 c79_g36) 39 c79_g39) 51 c79_g51) (upF (upF (upF (upF (upF (upF (upF (upF (upF (upF (upF (upF (upF (upF (upF (upF (upF F 22 c79_F22) 24 c79_F24) 25 c79_F25) 26 c79_F26) 28 c79_F28) 29 c79_F29) 31 c79_F31) 32 c79_F32) 33 c79_F33) 37 c79_F37) 38 c79_F38) 40 c79_F40) 41 c79_F41) 52 c79_F52) 53 c79_F53) 54 c79_F54) 67 d229_F67) y229_7 y113_5 x226_6 (d) (Ws) hMI270 hpr270_0 hpr270_1 h8270_hmt h8270_hfw h8270_hWl h8270_hps) hc270
                                              obtain ⟨p270_0, p270_1⟩ : (id ((r270.toInt ≠ 0 → knB d Ws (Int32.toNatClampNeg y229_7) (wdl (F 0) (Int32.toNatClampNeg y113_5) (Int32.toNatClampNeg x226_6 - Int32.toNatClampNeg y113_5)) = true))) ∧ (id ((r270.toInt = 0 → knB d Ws (Int32.toNatClampNeg y229_7) (wdl (F 0) (Int32.toNatClampNeg y113_5) (Int32.toNatClampNeg x226_6 - Int32.toNatClampNeg y113_5)) = false))) := hx270
                                              refine pw_ite (fun c273 => ?_) (fun c273 => ?_)
                                              · have c273 := congrArg Int32.toInt c273
                                                refine pw_j1 ej281 (fun t281_0 et281_0 => ?_)
                                                have et281_0 := et281_0.symm
                                                have f_t281_0 : t281_0.toInt = 1 := by rw [et281_0]; decide +kernel
                                                refine pw_if (fun hb282 => ?_)
                                                obtain ⟨hbl282, hbr282⟩ := hb282
                                                refine pw_vl (fun w282 ew282 => ?_)
                                                have f95 : (y229_7 + 1).toInt = y229_7.toInt + (1) := z_addc (by decide +kernel) (by omega) (by omega)
                                                have iv229_0 : (0 ≤ (y229_7 + 1).toInt ∧ (y229_7 + 1).toInt ≤ 7) := by omega
                                                have iv229_1 : (y229_7 + 1).toInt ≤ (g 9).toInt + 1 := by omega
                                                have iv229_2 : (CTP w282 d Ws (Int32.toNatClampNeg (g 9)) es (n10 (F 0) (Int32.toNatClampNeg y113_5)) (wdl (F 0) (Int32.toNatClampNeg y113_5) (Int32.toNatClampNeg x226_6 - Int32.toNatClampNeg y113_5)) (Int32.toNatClampNeg (y229_7 + 1))) := by have k8 := clampI (x := y229_7 + 1) (by omega); rw [show Int32.toNatClampNeg (y229_7 + 1) = Int32.toNatClampNeg y229_7 + 1 by omega]; exact CTP_s ip229 (by omega) (by omega) hl40 (by rw [et281_0, chB_1 (p257_1 (by omega)) (p270_1 (by omega))]; rfl) (up_e ew282 hix)
                                                exact ih229 (y229_7 + 1) w282 iv229_0 iv229_1 iv229_2
                                              · have c273 := z_ne c273
                                                refine pw_j0 ej276 ?_
                                                refine pw_j1 ej281 (fun t281_0 et281_0 => ?_)
                                                have et281_0 := et281_0.symm
                                                have f_t281_0 : t281_0.toInt = 0 := by rw [et281_0]; decide +kernel
                                                refine pw_if (fun hb282 => ?_)
                                                obtain ⟨hbl282, hbr282⟩ := hb282
                                                refine pw_vl (fun w282 ew282 => ?_)
                                                have f96 : (y229_7 + 1).toInt = y229_7.toInt + (1) := z_addc (by decide +kernel) (by omega) (by omega)
                                                have iv229_0 : (0 ≤ (y229_7 + 1).toInt ∧ (y229_7 + 1).toInt ≤ 7) := by omega
                                                have iv229_1 : (y229_7 + 1).toInt ≤ (g 9).toInt + 1 := by omega
                                                have iv229_2 : (CTP w282 d Ws (Int32.toNatClampNeg (g 9)) es (n10 (F 0) (Int32.toNatClampNeg y113_5)) (wdl (F 0) (Int32.toNatClampNeg y113_5) (Int32.toNatClampNeg x226_6 - Int32.toNatClampNeg y113_5)) (Int32.toNatClampNeg (y229_7 + 1))) := by have k8 := clampI (x := y229_7 + 1) (by omega); rw [show Int32.toNatClampNeg (y229_7 + 1) = Int32.toNatClampNeg y229_7 + 1 by omega]; exact CTP_s ip229 (by omega) (by omega) hl40 (by rw [et281_0, chB_k (p270_0 (by omega))]; rfl) (up_e ew282 hix)
                                                exact ih229 (y229_7 + 1) w282 iv229_0 iv229_1 iv229_2
                                            · have c260 := z_ne c260
                                              refine pw_j0 ej276 ?_
                                              refine pw_j1 ej281 (fun t281_0 et281_0 => ?_)
                                              have et281_0 := et281_0.symm
                                              have f_t281_0 : t281_0.toInt = 0 := by rw [et281_0]; decide +kernel
                                              refine pw_if (fun hb282 => ?_)
                                              obtain ⟨hbl282, hbr282⟩ := hb282
                                              refine pw_vl (fun w282 ew282 => ?_)
                                              have f97 : (y229_7 + 1).toInt = y229_7.toInt + (1) := z_addc (by decide +kernel) (by omega) (by omega)
                                              have iv229_0 : (0 ≤ (y229_7 + 1).toInt ∧ (y229_7 + 1).toInt ≤ 7) := by omega
                                              have iv229_1 : (y229_7 + 1).toInt ≤ (g 9).toInt + 1 := by omega
                                              have iv229_2 : (CTP w282 d Ws (Int32.toNatClampNeg (g 9)) es (n10 (F 0) (Int32.toNatClampNeg y113_5)) (wdl (F 0) (Int32.toNatClampNeg y113_5) (Int32.toNatClampNeg x226_6 - Int32.toNatClampNeg y113_5)) (Int32.toNatClampNeg (y229_7 + 1))) := by have k8 := clampI (x := y229_7 + 1) (by omega); rw [show Int32.toNatClampNeg (y229_7 + 1) = Int32.toNatClampNeg y229_7 + 1 by omega]; exact CTP_s ip229 (by omega) (by omega) hl40 (by rw [et281_0, chB_n (p257_0 (by omega))]; rfl) (up_e ew282 hix)
                                              exact ih229 (y229_7 + 1) w282 iv229_0 iv229_1 iv229_2
                                      exact lp229 NN (0 : Int32) d113_F67 (show (0 ≤ (0 : Int32).toInt ∧ (0 : Int32).toInt ≤ 7) from by omega) (show (0 : Int32).toInt ≤ (g 9).toInt + 1 from by omega) (show (CTP d113_F67 d Ws (Int32.toNatClampNeg (g 9)) es (n10 (F 0) (Int32.toNatClampNeg y113_5)) (wdl (F 0) (Int32.toNatClampNeg y113_5) (Int32.toNatClampNeg x226_6 - Int32.toNatClampNeg y113_5)) (Int32.toNatClampNeg (0 : Int32))) from by exact CTP_0 hes1)
                                    · have c217 := z_ne c217
                                      have f98 : (y201_6 + 1).toInt = y201_6.toInt + (1) := z_addc (by decide +kernel) (by omega) (by omega)
                                      have iv201_0 : (y113_5.toInt + 1 ≤ (y201_6 + 1).toInt ∧ (y201_6 + 1).toInt ≤ (g 1).toInt) := by omega
                                      have iv201_1 : y113_4.toInt = c10 (F 0) (y201_6 + 1).toInt.toNat := by omega
                                      have iv201_2 : (lnd (F 0) (Int32.toNatClampNeg (g 1)) (Int32.toNatClampNeg y113_5 + 1) = lnd (F 0) (Int32.toNatClampNeg (g 1)) (Int32.toNatClampNeg (y201_6 + 1))) := by have k5 := clampI (x := y201_6) (by omega); have k6 := clampI (x := y201_6 + 1) (by omega); rw [il201, lnd_s (by omega) (p214_0 (by omega)), show Int32.toNatClampNeg y201_6 + 1 = Int32.toNatClampNeg (y201_6 + 1) by omega]
                                      exact ih201 (y201_6 + 1) iv201_0 iv201_1 iv201_2
                              exact lp201 NN x123 (show (y113_5.toInt + 1 ≤ x123.toInt ∧ x123.toInt ≤ (g 1).toInt) from by omega) (show y113_4.toInt = c10 (F 0) x123.toInt.toNat from by omega) (show (lnd (F 0) (Int32.toNatClampNeg (g 1)) (Int32.toNatClampNeg y113_5 + 1) = lnd (F 0) (Int32.toNatClampNeg (g 1)) (Int32.toNatClampNeg x123)) from by rw [show Int32.toNatClampNeg y113_5 + 1 = Int32.toNatClampNeg x123 by omega])
                    exact lp113 NN (0 : Int32) (0 : Int32) d85_F67 (show (0 ≤ (0 : Int32).toInt ∧ (0 : Int32).toInt ≤ (g 1).toInt) from by first | omega | exact c10_00 _) (show ((0 : Int32).toInt = c10 (F 0) (0 : Int32).toInt.toNat) from by exact c10_00 _) (show (MIV (F 0) (Int32.toNatClampNeg (g 1)) d Ws (Int32.toNatClampNeg (g 9)) (Int32.toNatClampNeg (0 : Int32)) d85_F67) from by exact MIV_0 hct0 rfl)
                  · have c90 := z_nle c90
                    refine pw_if (fun hb100 => ?_)
                    obtain ⟨hbl100, hbr100⟩ := hb100
                    refine pw_vl (fun w100 ew100 => ?_)
                    have f99 : (y85_4 + 1).toInt = y85_4.toInt + (1) := z_addc (by decide +kernel) (by omega) (by omega)
                    have iv85_0 : (0 ≤ (y85_4 + 1).toInt ∧ (y85_4 + 1).toInt ≤ 280) := by omega
                    have iv85_1 : (∀ j, j < Int32.toNatClampNeg (y85_4 + 1) → w100 j = 0) := by have k4 := clampI (x := y85_4) (by omega); have k5 := clampI (x := y85_4 + 1) (by omega); intro j hj; by_cases q9 : j = Int32.toNatClampNeg y85_4; (rw [q9, ew100, pk_us]); (rw [ew100, pk_un q9]; exact iz85 j (by omega))
                    exact ih85 (y85_4 + 1) w100 iv85_0 iv85_1
              exact lp85 NN (0 : Int32) (F 67) (show (0 ≤ (0 : Int32).toInt ∧ (0 : Int32).toInt ≤ 280) from by omega) (show (∀ j, j < Int32.toNatClampNeg (0 : Int32) → (F 67) j = 0) from by intro j hj; exact absurd hj (Nat.not_lt_zero _))
            · have c73 := z_nle c73
              have qq0 : ((g 51).toInt ≠ 0 → MKT (F 54) (F 52) (F 53) d Ws (fun w s => w < Int32.toNatClampNeg (g 48) ∧ s ≤ Int32.toNatClampNeg (g 9))) := by exact hmk
              have qq1 : (¬ (0 ≤ p0.toInt ∧ p0.toInt ≤ 50) → (-1 : Int32).toInt = -2 ∧ (g 70) = (g 70) ∧ (F 69) = (F 69)) := by intro h; exfalso; exact h hin
              have qq2 : ((0 ≤ p0.toInt ∧ p0.toInt ≤ 50) → ¬ (NZR (F 0) (Int32.toNatClampNeg (g 1)) ∧ (lnN (F 0) (Int32.toNatClampNeg (g 1))) ≤ 40) → (-1 : Int32).toInt = -1 ∧ (g 70) = (g 70) ∧ (F 69) = (F 69)) := by intro _ _; exact ⟨by omega, rfl, rfl⟩
              have qq3 : ((0 ≤ p0.toInt ∧ p0.toInt ≤ 50) → NZR (F 0) (Int32.toNatClampNeg (g 1)) → (lnN (F 0) (Int32.toNatClampNeg (g 1))) ≤ 40 → (-1 : Int32) = owF2 (smK (MXC (F 0) (Int32.toNatClampNeg (g 1)) d Ws) (Int32.toNatClampNeg (g 9)) p0 (lnN (F 0) (Int32.toNatClampNeg (g 1))) (lnN (F 0) (Int32.toNatClampNeg (g 1)))) (Int32.toNatClampNeg (g 9)) p0 (-1) ∧ (g 70).toInt = (((lnN (F 0) (Int32.toNatClampNeg (g 1))) : Nat) : Int) ∧ ∀ j, j < (lnN (F 0) (Int32.toNatClampNeg (g 1))) → (F 69) j = Int32.ofNat (tlF (MXC (F 0) (Int32.toNatClampNeg (g 1)) d Ws) (Int32.toNatClampNeg (g 9)) p0 (lnN (F 0) (Int32.toNatClampNeg (g 1))) j)) := by intro _ _ h; exfalso; omega
              exact pw_some ⟨qq0, qq1, qq2, qq3⟩
          · have c41 := z_nle c41
            have hcb := c10_b (F 0) y38_4.toInt.toNat
            have hcs := c10_s (F 0) (a := y38_4) (b := y38_4 + 1) (by omega) (z_addc (by decide +kernel) (by omega) (by omega))
            refine pw_if (fun hb51 => ?_)
            obtain ⟨hbl51, hbr51⟩ := hb51
            refine pw_jE (fun j62 ej62 => ?_)
            refine pw_ite (fun c54 => ?_) (fun c54 => ?_)
            · have c54 := congrArg Int32.toInt c54
              refine pw_j1 ej62 (fun t62_0 et62_0 => ?_)
              have et62_0 := et62_0.symm
              have f_t62_0 : t62_0.toInt = 1 := by rw [et62_0]; decide +kernel
              have f100 : (y38_3 + t62_0).toInt = y38_3.toInt + t62_0.toInt := z_add (by omega) (by omega)
              refine pw_vl (fun x63 ex63 => ?_)
              have f101 : x63.toInt = (y38_3 + t62_0).toInt := congrArg Int32.toInt ex63
              have f102 : (y38_4 + 1).toInt = y38_4.toInt + (1) := z_addc (by decide +kernel) (by omega) (by omega)
              have iv38_0 : (0 ≤ (y38_4 + 1).toInt ∧ (y38_4 + 1).toInt ≤ (g 1).toInt) := by omega
              have iv38_1 : x63.toInt = 1 + c10 (F 0) (y38_4 + 1).toInt.toNat := by omega
              exact ih38 x63 (y38_4 + 1) iv38_0 iv38_1
            · have c54 := z_ne c54
              refine pw_j1 ej62 (fun t62_0 et62_0 => ?_)
              have et62_0 := et62_0.symm
              have f_t62_0 : t62_0.toInt = 0 := by rw [et62_0]; decide +kernel
              have f103 : (y38_3 + t62_0).toInt = y38_3.toInt + t62_0.toInt := z_add (by omega) (by omega)
              refine pw_vl (fun x63 ex63 => ?_)
              have f104 : x63.toInt = (y38_3 + t62_0).toInt := congrArg Int32.toInt ex63
              have f105 : (y38_4 + 1).toInt = y38_4.toInt + (1) := z_addc (by decide +kernel) (by omega) (by omega)
              have iv38_0 : (0 ≤ (y38_4 + 1).toInt ∧ (y38_4 + 1).toInt ≤ (g 1).toInt) := by omega
              have iv38_1 : x63.toInt = 1 + c10 (F 0) (y38_4 + 1).toInt.toNat := by omega
              exact ih38 x63 (y38_4 + 1) iv38_0 iv38_1
      exact lp38 NN (1 : Int32) (0 : Int32) (show (0 ≤ (0 : Int32).toInt ∧ (0 : Int32).toInt ≤ (g 1).toInt) from by first | omega | exact c10_01 _) (show (1 : Int32).toInt = 1 + c10 (F 0) (0 : Int32).toInt.toNat from by first | omega | exact c10_01 _)
    · have c28 := z_ne c28
      have qq0 : ((g 51).toInt ≠ 0 → MKT (F 54) (F 52) (F 53) d Ws (fun w s => w < Int32.toNatClampNeg (g 48) ∧ s ≤ Int32.toNatClampNeg (g 9))) := by exact hmk
      have qq1 : (¬ (0 ≤ p0.toInt ∧ p0.toInt ≤ 50) → (-1 : Int32).toInt = -2 ∧ (g 70) = (g 70) ∧ (F 69) = (F 69)) := by intro h; exfalso; exact h hin
      have qq2 : ((0 ≤ p0.toInt ∧ p0.toInt ≤ 50) → ¬ (NZR (F 0) (Int32.toNatClampNeg (g 1)) ∧ (lnN (F 0) (Int32.toNatClampNeg (g 1))) ≤ 40) → (-1 : Int32).toInt = -1 ∧ (g 70) = (g 70) ∧ (F 69) = (F 69)) := by intro _ _; exact ⟨by omega, rfl, rfl⟩
      have qq3 : ((0 ≤ p0.toInt ∧ p0.toInt ≤ 50) → NZR (F 0) (Int32.toNatClampNeg (g 1)) → (lnN (F 0) (Int32.toNatClampNeg (g 1))) ≤ 40 → (-1 : Int32) = owF2 (smK (MXC (F 0) (Int32.toNatClampNeg (g 1)) d Ws) (Int32.toNatClampNeg (g 9)) p0 (lnN (F 0) (Int32.toNatClampNeg (g 1))) (lnN (F 0) (Int32.toNatClampNeg (g 1)))) (Int32.toNatClampNeg (g 9)) p0 (-1) ∧ (g 70).toInt = (((lnN (F 0) (Int32.toNatClampNeg (g 1))) : Nat) : Int) ∧ ∀ j, j < (lnN (F 0) (Int32.toNatClampNeg (g 1))) → (F 69) j = Int32.ofNat (tlF (MXC (F 0) (Int32.toNatClampNeg (g 1)) d Ws) (Int32.toNatClampNeg (g 9)) p0 (lnN (F 0) (Int32.toNatClampNeg (g 1))) j)) := by intro _ h; exfalso; exact p25_0 (by omega) h
      exact pw_some ⟨qq0, qq1, qq2, qq3⟩
