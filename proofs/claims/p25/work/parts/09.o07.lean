abbrev Q_readLaw (g : Nat → Int32) (F : Nat → Nat → Int32) : (Int32 × Int32 × Int32 × Int32 × Int32 × Int32 × Int32 × (Nat → Int32) × (Nat → Int32) × (Nat → Int32) × (Nat → Int32) × (Nat → Int32)) → Prop := (fun t => (((0) ≤ (t.2.1).toInt ∧ (t.2.1).toInt ≤ 4)) ∧ (((-1) ≤ (t.2.2.1).toInt ∧ (t.2.2.1).toInt ≤ 8)) ∧ (((0) ≤ (t.2.2.2.1).toInt ∧ (t.2.2.2.1).toInt ≤ 2001)) ∧ (((0) ≤ (t.2.2.2.2.1).toInt ∧ (t.2.2.2.2.1).toInt ≤ 2001)) ∧ (((0) ≤ (t.2.2.2.2.2.1).toInt ∧ (t.2.2.2.2.2.1).toInt ≤ 4)) ∧ (((-1) ≤ (t.2.2.2.2.2.2.1).toInt ∧ (t.2.2.2.2.2.2.1).toInt ≤ 2001)) ∧ (rng (0) 40 (t.2.2.2.2.2.2.2.1)) ∧ (rng (-1) 16 (t.2.2.2.2.2.2.2.2.2.1)) ∧ (LQ (t.2.2.2.2.2.2.2.1) (t.2.2.2.2.2.2.2.2.2.1) (g 9)) ∧ ((g 6).toInt ≤ (t.2.2.2.2.1).toInt) ∧ ((0 ≤ (t.1).toInt ∧ (t.1).toInt ≤ 1)))
set_option maxHeartbeats 40000000 in
set_option maxRecDepth 100000 in
theorem ok_readLaw (g : Nat → Int32) (F : Nat → Nat → Int32) (hI : MInv g F) : wp (f_readLaw g F) (Q_readLaw g F) := by
  unfold f_readLaw
  refine MInv_e hI (fun (hzg1 : id _) (hzg2 : id _) hzg3 hzg4 hzg5 hzg6 (hzg7 : id _) (hzg8 : id _) hzg9 (hzg23 : id _) (hzg27 : id _) (hzg30 : id _) (hzg34 : id _) (hzg36 : id _) (hzg39 : id _) (hzg44 : id _) (hzg47 : id _) (hzg48 : id _) (hzg51 : id _) (hzg56 : id _) (hzg59 : id _) (hzg62 : id _) (hzg65 : id _) (hzg66 : id _) (hzg70 : id _) hzF11 hzF12 hzF13 hzF15 hzF19 hzF21 hzF24 hzF25 hzF26 hzF33 hzF38 hzF41 hzF43 hzF45 hzF46 hzF50 hzF53 hzF54 hzLQ => ?_)
  clear hI
  have zkm1 : (-1 : Int32).toInt = -1 := by decide +kernel
  have zk0 : (0 : Int32).toInt = 0 := by decide +kernel
  have zk1 : (1 : Int32).toInt = 1 := by decide +kernel
  have zk2 : (2 : Int32).toInt = 2 := by decide +kernel
  have zk3 : (3 : Int32).toInt = 3 := by decide +kernel
  have zk4 : (4 : Int32).toInt = 4 := by decide +kernel
  have zk5 : (5 : Int32).toInt = 5 := by decide +kernel
  have zk6 : (6 : Int32).toInt = 6 := by decide +kernel
  have zk7 : (7 : Int32).toInt = 7 := by decide +kernel
  have zk40 : (40 : Int32).toInt = 40 := by decide +kernel
  have zk240 : (240 : Int32).toInt = 240 := by decide +kernel
  refine wp_if ⟨by (first | omega | (simp only [id_eq] at *; omega)), by (first | omega | (simp only [id_eq] at *; omega))⟩ ?_
  have f1 := hzF11 (Int32.toNatClampNeg (6 : Int32))
  refine wp_ite (fun c9 => ?_) (fun c9 => ?_)
  · have c9 := congrArg Int32.toInt c9
    obtain ⟨⟨r14, c14_g7, c14_g8⟩, hc14, hq14⟩ := ok_wrong g F 4 (MInv_i hzg1 hzg2 hzg3 hzg4 hzg5 hzg6 hzg7 hzg8 hzg9 hzg23 hzg27 hzg30 hzg34 hzg36 hzg39 hzg44 hzg47 hzg48 hzg51 hzg56 hzg59 hzg62 hzg65 hzg66 hzg70 hzF11 hzF12 hzF13 hzF15 hzF19 hzF21 hzF24 hzF25 hzF26 hzF33 hzF38 hzF41 hzF43 hzF45 hzF46 hzF50 hzF53 hzF54 hzLQ) (show 0 ≤ (4 : Int32).toInt ∧ (4 : Int32).toInt ≤ 4 from by (first | omega | (simp only [id_eq] at *; omega)))
    obtain ⟨hg2, hg3, f4, f5⟩ : (((0) ≤ c14_g7.toInt ∧ c14_g7.toInt ≤ 4)) ∧ (((-1) ≤ c14_g8.toInt ∧ c14_g8.toInt ≤ 2001)) ∧ (r14.toInt = 0) ∧ ((0 ≤ r14.toInt ∧ r14.toInt ≤ 1)) := hq14
    refine wp_b3 hc14 ?_
    clear hc14
    refine wp_if ⟨by (first | omega | (simp only [id_eq] at *; omega)), by (first | omega | (simp only [id_eq] at *; omega))⟩ ?_
    exact ⟨_, rfl, ⟨hzg3, hzg4, hzg5, hzg6, hg2, hg3, hzF11, hzF15, hzLQ, (show (g 6).toInt ≤ (g 6).toInt from by (first | omega | (simp only [id_eq] at *; omega))), (show (0 ≤ r14.toInt ∧ r14.toInt ≤ 1) from by (first | omega | (simp only [id_eq] at *; omega)))⟩⟩
  · have c9 := z_ne c9
    obtain ⟨⟨c19_g3, c19_g4, c19_g5, c19_g6⟩, hc19, hq19⟩ := ok_scan g F (MInv_i hzg1 hzg2 hzg3 hzg4 hzg5 hzg6 hzg7 hzg8 hzg9 hzg23 hzg27 hzg30 hzg34 hzg36 hzg39 hzg44 hzg47 hzg48 hzg51 hzg56 hzg59 hzg62 hzg65 hzg66 hzg70 hzF11 hzF12 hzF13 hzF15 hzF19 hzF21 hzF24 hzF25 hzF26 hzF33 hzF38 hzF41 hzF43 hzF45 hzF46 hzF50 hzF53 hzF54 hzLQ)
    obtain ⟨hg6, hg7, hg8, hg9, f10, f11, f12⟩ : (((0) ≤ c19_g3.toInt ∧ c19_g3.toInt ≤ 4)) ∧ (((-1) ≤ c19_g4.toInt ∧ c19_g4.toInt ≤ 8)) ∧ (((0) ≤ c19_g5.toInt ∧ c19_g5.toInt ≤ 2001)) ∧ (((0) ≤ c19_g6.toInt ∧ c19_g6.toInt ≤ 2001)) ∧ (id (c19_g3.toInt = 2 → c19_g5.toInt + 2 ≤ c19_g6.toInt ∧ c19_g6.toInt ≤ c19_g5.toInt + 18 ∧ c19_g6.toInt ≤ 2000)) ∧ (id (c19_g3.toInt ≠ 4 → (g 6).toInt < c19_g6.toInt)) ∧ ((g 6).toInt ≤ c19_g6.toInt) := hq19
    refine wp_b4 hc19 ?_
    clear hc19
    refine wp_if ⟨by (first | omega | (simp only [id_eq] at *; omega)), by (first | omega | (simp only [id_eq] at *; omega))⟩ ?_
    have f14 : (240 + ((F 11) (Int32.toNatClampNeg 6))).toInt = 240 + ((F 11) (Int32.toNatClampNeg 6)).toInt := z_addd (by decide +kernel) (by (first | omega | (simp only [id_eq] at *; omega))) (by (first | omega | (simp only [id_eq] at *; omega)))
    refine wp_vl (fun x33 ex33 => ?_)
    have f15 : x33.toInt = (240 + ((F 11) (Int32.toNatClampNeg 6))).toInt := congrArg Int32.toInt ex33
    clear ex33
    have f16 : (4 * x33).toInt = 4 * x33.toInt := z_muld (by decide +kernel) (by (first | omega | (simp only [id_eq] at *; omega))) (by (first | omega | (simp only [id_eq] at *; omega)))
    obtain ⟨⟨r47, c47_g7, c47_g8, c47_F14, c47_F15⟩, hc47, hq47⟩ := ok_take (upd (upd (upd (upd g 3 c19_g3) 4 c19_g4) 5 c19_g5) 6 c19_g6) F (F 14) 17920 (F 15) 1120 (4 * x33) 1 (MInv_i hzg1 hzg2 hg6 hg7 hg8 hg9 hzg7 hzg8 hzg9 hzg23 hzg27 hzg30 hzg34 hzg36 hzg39 hzg44 hzg47 hzg48 hzg51 hzg56 hzg59 hzg62 hzg65 hzg66 hzg70 hzF11 hzF12 hzF13 hzF15 hzF19 hzF21 hzF24 hzF25 hzF26 hzF33 hzF38 hzF41 hzF43 hzF45 hzF46 hzF50 hzF53 hzF54 hzLQ) hzF15 (show (0 ≤ (4 * x33).toInt ∧ (4 * x33).toInt < 1120) from by (first | omega | (simp only [id_eq] at *; omega))) (show 16 * 1120 ≤ 17920 from by (first | omega | (simp only [id_eq] at *; omega))) (show 17920 ≤ 500000 from by (first | omega | (simp only [id_eq] at *; omega))) (show (c19_g3.toInt = 2 → c19_g5.toInt + 2 ≤ c19_g6.toInt ∧ c19_g6.toInt ≤ c19_g5.toInt + 18 ∧ c19_g6.toInt ≤ 2000) from by (first | omega | (simp only [id_eq] at *; omega)))
    obtain ⟨hg17, hg18, hg19, f20, f21, f22, f23⟩ : (((0) ≤ c47_g7.toInt ∧ c47_g7.toInt ≤ 4)) ∧ (((-1) ≤ c47_g8.toInt ∧ c47_g8.toInt ≤ 2001)) ∧ (rng (-1) 16 c47_F15) ∧ (id (r47.toInt = 1 → c19_g3.toInt = 2)) ∧ ((∀ k : Nat, (k : Int) ≠ (4 * x33).toInt → c47_F15 k = (F 15) k)) ∧ (id (r47.toInt = 1 → (1 : Int32).toInt ≠ 0 → 1 ≤ (c47_F15 (Int32.toNatClampNeg (4 * x33))).toInt)) ∧ ((0 ≤ r47.toInt ∧ r47.toInt ≤ 1)) := hq47
    refine wp_b5 hc47 ?_
    clear hc47
    have hLQ24 : LQ (F 11) c47_F15 (g 9) := by
      exact lq_take hzLQ (4 * x33) (by assumption) hzF11 (by (first | omega | (simp only [id_eq] at *; omega))) (by (first | omega | (simp only [id_eq] at *; omega)))
    refine wp_ite (fun c50 => ?_) (fun c50 => ?_)
    · have c50 := congrArg Int32.toInt c50
      exact ⟨_, rfl, ⟨hg6, hg7, hg8, hg9, hg17, hg18, hzF11, hg19, hLQ24, (show (g 6).toInt ≤ c19_g6.toInt from by (first | omega | (simp only [id_eq] at *; omega))), (show (0 ≤ (0 : Int32).toInt ∧ (0 : Int32).toInt ≤ 1) from by (first | omega | (simp only [id_eq] at *; omega)))⟩⟩
    · have c50 := z_ne c50
      obtain ⟨⟨c56_g3, c56_g4, c56_g5, c56_g6⟩, hc56, hq56⟩ := ok_scan (upd (upd (upd (upd (upd (upd g 3 c19_g3) 4 c19_g4) 5 c19_g5) 6 c19_g6) 7 c47_g7) 8 c47_g8) (upF (upF F 14 c47_F14) 15 c47_F15) (MInv_i hzg1 hzg2 hg6 hg7 hg8 hg9 hg17 hg18 hzg9 hzg23 hzg27 hzg30 hzg34 hzg36 hzg39 hzg44 hzg47 hzg48 hzg51 hzg56 hzg59 hzg62 hzg65 hzg66 hzg70 hzF11 hzF12 hzF13 hg19 hzF19 hzF21 hzF24 hzF25 hzF26 hzF33 hzF38 hzF41 hzF43 hzF45 hzF46 hzF50 hzF53 hzF54 hLQ24)
      obtain ⟨hg25, hg26, hg27, hg28, f29, f30, f31⟩ : (((0) ≤ c56_g3.toInt ∧ c56_g3.toInt ≤ 4)) ∧ (((-1) ≤ c56_g4.toInt ∧ c56_g4.toInt ≤ 8)) ∧ (((0) ≤ c56_g5.toInt ∧ c56_g5.toInt ≤ 2001)) ∧ (((0) ≤ c56_g6.toInt ∧ c56_g6.toInt ≤ 2001)) ∧ (id (c56_g3.toInt = 2 → c56_g5.toInt + 2 ≤ c56_g6.toInt ∧ c56_g6.toInt ≤ c56_g5.toInt + 18 ∧ c56_g6.toInt ≤ 2000)) ∧ (id (c56_g3.toInt ≠ 4 → c19_g6.toInt < c56_g6.toInt)) ∧ (c19_g6.toInt ≤ c56_g6.toInt) := hq56
      refine wp_b4 hc56 ?_
      clear hc56
      refine wp_jn (fun j75 => wp (j75 ()) (Q_readLaw g F)) ?_ ?_
      · show wp _ _
        show wp _ _
        obtain ⟨⟨r77, c77_g7, c77_g8⟩, hc77, hq77⟩ := ok_wrong (upd (upd (upd (upd (upd (upd g 3 c56_g3) 4 c56_g4) 5 c56_g5) 6 c56_g6) 7 c47_g7) 8 c47_g8) (upF (upF F 14 c47_F14) 15 c47_F15) 1 (MInv_i hzg1 hzg2 hg25 hg26 hg27 hg28 hg17 hg18 hzg9 hzg23 hzg27 hzg30 hzg34 hzg36 hzg39 hzg44 hzg47 hzg48 hzg51 hzg56 hzg59 hzg62 hzg65 hzg66 hzg70 hzF11 hzF12 hzF13 hg19 hzF19 hzF21 hzF24 hzF25 hzF26 hzF33 hzF38 hzF41 hzF43 hzF45 hzF46 hzF50 hzF53 hzF54 hLQ24) (show 0 ≤ (1 : Int32).toInt ∧ (1 : Int32).toInt ≤ 4 from by (first | omega | (simp only [id_eq] at *; omega)))
        obtain ⟨hg32, hg33, f34, f35⟩ : (((0) ≤ c77_g7.toInt ∧ c77_g7.toInt ≤ 4)) ∧ (((-1) ≤ c77_g8.toInt ∧ c77_g8.toInt ≤ 2001)) ∧ (r77.toInt = 0) ∧ ((0 ≤ r77.toInt ∧ r77.toInt ≤ 1)) := hq77
        refine wp_b3 hc77 ?_
        clear hc77
        refine wp_if ⟨by (first | omega | (simp only [id_eq] at *; omega)), by (first | omega | (simp only [id_eq] at *; omega))⟩ ?_
        exact ⟨_, rfl, ⟨hg25, hg26, hg27, hg28, hg32, hg33, hzF11, hg19, hLQ24, (show (g 6).toInt ≤ c56_g6.toInt from by (first | omega | (simp only [id_eq] at *; omega))), (show (0 ≤ r77.toInt ∧ r77.toInt ≤ 1) from by (first | omega | (simp only [id_eq] at *; omega)))⟩⟩
      intro j75 Jj75
      refine wp_ite (fun c64 => ?_) (fun c64 => ?_)
      · have c64 := congrArg Int32.toInt c64
        refine wp_ite (fun c72 => ?_) (fun c72 => ?_)
        · have c72 := congrArg Int32.toInt c72
          obtain ⟨⟨c82_g3, c82_g4, c82_g5, c82_g6⟩, hc82, hq82⟩ := ok_scan (upd (upd (upd (upd (upd (upd g 3 c56_g3) 4 c56_g4) 5 c56_g5) 6 c56_g6) 7 c47_g7) 8 c47_g8) (upF (upF F 14 c47_F14) 15 c47_F15) (MInv_i hzg1 hzg2 hg25 hg26 hg27 hg28 hg17 hg18 hzg9 hzg23 hzg27 hzg30 hzg34 hzg36 hzg39 hzg44 hzg47 hzg48 hzg51 hzg56 hzg59 hzg62 hzg65 hzg66 hzg70 hzF11 hzF12 hzF13 hg19 hzF19 hzF21 hzF24 hzF25 hzF26 hzF33 hzF38 hzF41 hzF43 hzF45 hzF46 hzF50 hzF53 hzF54 hLQ24)
          obtain ⟨hg36, hg37, hg38, hg39, f40, f41, f42⟩ : (((0) ≤ c82_g3.toInt ∧ c82_g3.toInt ≤ 4)) ∧ (((-1) ≤ c82_g4.toInt ∧ c82_g4.toInt ≤ 8)) ∧ (((0) ≤ c82_g5.toInt ∧ c82_g5.toInt ≤ 2001)) ∧ (((0) ≤ c82_g6.toInt ∧ c82_g6.toInt ≤ 2001)) ∧ (id (c82_g3.toInt = 2 → c82_g5.toInt + 2 ≤ c82_g6.toInt ∧ c82_g6.toInt ≤ c82_g5.toInt + 18 ∧ c82_g6.toInt ≤ 2000)) ∧ (id (c82_g3.toInt ≠ 4 → c56_g6.toInt < c82_g6.toInt)) ∧ (c56_g6.toInt ≤ c82_g6.toInt) := hq82
          refine wp_b4 hc82 ?_
          clear hc82
          have f44 : ((4 * x33) + 1).toInt = (4 * x33).toInt + 1 := z_addc (by decide +kernel) (by (first | omega | (simp only [id_eq] at *; omega))) (by (first | omega | (simp only [id_eq] at *; omega)))
          obtain ⟨⟨r100, c100_g7, c100_g8, c100_F14, c100_F15⟩, hc100, hq100⟩ := ok_take (upd (upd (upd (upd (upd (upd g 3 c82_g3) 4 c82_g4) 5 c82_g5) 6 c82_g6) 7 c47_g7) 8 c47_g8) (upF (upF F 14 c47_F14) 15 c47_F15) c47_F14 17920 c47_F15 1120 ((4 * x33) + 1) 0 (MInv_i hzg1 hzg2 hg36 hg37 hg38 hg39 hg17 hg18 hzg9 hzg23 hzg27 hzg30 hzg34 hzg36 hzg39 hzg44 hzg47 hzg48 hzg51 hzg56 hzg59 hzg62 hzg65 hzg66 hzg70 hzF11 hzF12 hzF13 hg19 hzF19 hzF21 hzF24 hzF25 hzF26 hzF33 hzF38 hzF41 hzF43 hzF45 hzF46 hzF50 hzF53 hzF54 hLQ24) hg19 (show (0 ≤ ((4 * x33) + 1).toInt ∧ ((4 * x33) + 1).toInt < 1120) from by (first | omega | (simp only [id_eq] at *; omega))) (show 16 * 1120 ≤ 17920 from by (first | omega | (simp only [id_eq] at *; omega))) (show 17920 ≤ 500000 from by (first | omega | (simp only [id_eq] at *; omega))) (show (c82_g3.toInt = 2 → c82_g5.toInt + 2 ≤ c82_g6.toInt ∧ c82_g6.toInt ≤ c82_g5.toInt + 18 ∧ c82_g6.toInt ≤ 2000) from by (first | omega | (simp only [id_eq] at *; omega)))
          obtain ⟨hg45, hg46, hg47, f48, f49, f50, f51⟩ : (((0) ≤ c100_g7.toInt ∧ c100_g7.toInt ≤ 4)) ∧ (((-1) ≤ c100_g8.toInt ∧ c100_g8.toInt ≤ 2001)) ∧ (rng (-1) 16 c100_F15) ∧ (id (r100.toInt = 1 → c82_g3.toInt = 2)) ∧ ((∀ k : Nat, (k : Int) ≠ ((4 * x33) + 1).toInt → c100_F15 k = c47_F15 k)) ∧ (id (r100.toInt = 1 → (0 : Int32).toInt ≠ 0 → 1 ≤ (c100_F15 (Int32.toNatClampNeg ((4 * x33) + 1))).toInt)) ∧ ((0 ≤ r100.toInt ∧ r100.toInt ≤ 1)) := hq100
          refine wp_b5 hc100 ?_
          clear hc100
          have hLQ52 : LQ (F 11) c100_F15 (g 9) := by
            exact lq_take hLQ24 ((4 * x33) + 1) (by assumption) hzF11 (by (first | omega | (simp only [id_eq] at *; omega))) (by (first | omega | (simp only [id_eq] at *; omega)))
          have hpos100 : 1 ≤ (c100_F15 (Int32.toNatClampNeg (4 * x33))).toInt := pos_keep (k := (4 * x33) + 1) (size := c47_F15) (by assumption) (by (first | omega | (simp only [id_eq] at *; omega))) (by (first | omega | (simp only [id_eq] at *; omega))) (by (first | omega | (simp only [id_eq] at *; omega)))
          refine wp_ite (fun c103 => ?_) (fun c103 => ?_)
          · have c103 := congrArg Int32.toInt c103
            exact ⟨_, rfl, ⟨hg36, hg37, hg38, hg39, hg45, hg46, hzF11, hg47, hLQ52, (show (g 6).toInt ≤ c82_g6.toInt from by (first | omega | (simp only [id_eq] at *; omega))), (show (0 ≤ (0 : Int32).toInt ∧ (0 : Int32).toInt ≤ 1) from by (first | omega | (simp only [id_eq] at *; omega)))⟩⟩
          · have c103 := z_ne c103
            obtain ⟨⟨c109_g3, c109_g4, c109_g5, c109_g6⟩, hc109, hq109⟩ := ok_scan (upd (upd (upd (upd (upd (upd g 3 c82_g3) 4 c82_g4) 5 c82_g5) 6 c82_g6) 7 c100_g7) 8 c100_g8) (upF (upF F 14 c100_F14) 15 c100_F15) (MInv_i hzg1 hzg2 hg36 hg37 hg38 hg39 hg45 hg46 hzg9 hzg23 hzg27 hzg30 hzg34 hzg36 hzg39 hzg44 hzg47 hzg48 hzg51 hzg56 hzg59 hzg62 hzg65 hzg66 hzg70 hzF11 hzF12 hzF13 hg47 hzF19 hzF21 hzF24 hzF25 hzF26 hzF33 hzF38 hzF41 hzF43 hzF45 hzF46 hzF50 hzF53 hzF54 hLQ52)
            obtain ⟨hg53, hg54, hg55, hg56, f57, f58, f59⟩ : (((0) ≤ c109_g3.toInt ∧ c109_g3.toInt ≤ 4)) ∧ (((-1) ≤ c109_g4.toInt ∧ c109_g4.toInt ≤ 8)) ∧ (((0) ≤ c109_g5.toInt ∧ c109_g5.toInt ≤ 2001)) ∧ (((0) ≤ c109_g6.toInt ∧ c109_g6.toInt ≤ 2001)) ∧ (id (c109_g3.toInt = 2 → c109_g5.toInt + 2 ≤ c109_g6.toInt ∧ c109_g6.toInt ≤ c109_g5.toInt + 18 ∧ c109_g6.toInt ≤ 2000)) ∧ (id (c109_g3.toInt ≠ 4 → c82_g6.toInt < c109_g6.toInt)) ∧ (c82_g6.toInt ≤ c109_g6.toInt) := hq109
            refine wp_b4 hc109 ?_
            clear hc109
            refine wp_if ⟨by (first | omega | (simp only [id_eq] at *; omega)), by (first | omega | (simp only [id_eq] at *; omega))⟩ ?_
            refine wp_vl (fun w118 ew118 => ?_)
            clear ew118
            refine wp_if ⟨by (first | omega | (simp only [id_eq] at *; omega)), by (first | omega | (simp only [id_eq] at *; omega))⟩ ?_
            refine wp_vl (fun w125 ew125 => ?_)
            clear ew125
            have f61 : ((4 * x33) + 2).toInt = (4 * x33).toInt + 2 := z_addc (by decide +kernel) (by (first | omega | (simp only [id_eq] at *; omega))) (by (first | omega | (simp only [id_eq] at *; omega)))
            refine wp_if ⟨by (first | omega | (simp only [id_eq] at *; omega)), by (first | omega | (simp only [id_eq] at *; omega))⟩ ?_
            refine wp_vl (fun w136 ew136 => ?_)
            have hF62 : rng (-1) 16 w136 := by rw [ew136]; exact rng_upd hg47 (by (first | omega | (simp only [id_eq] at *; omega))) (by (first | omega | (simp only [id_eq] at *; omega)))
            have hpos136 := pos_keep (k := (4 * x33) + 2) (l := 4 * x33) (upd_ne ew136 (by (first | omega | (simp only [id_eq] at *; omega)))) hpos100 (by (first | omega | (simp only [id_eq] at *; omega))) (by (first | omega | (simp only [id_eq] at *; omega)))
            have hLQ63 : LQ (F 11) w136 (g 9) := by
              exact lq_take hLQ52 ((4 * x33) + 2) (upd_ne ew136 (by (first | omega | (simp only [id_eq] at *; omega)))) hzF11 (by (first | omega | (simp only [id_eq] at *; omega))) (by (first | omega | (simp only [id_eq] at *; omega)))
            clear ew136
            have f65 : ((4 * x33) + 3).toInt = (4 * x33).toInt + 3 := z_addc (by decide +kernel) (by (first | omega | (simp only [id_eq] at *; omega))) (by (first | omega | (simp only [id_eq] at *; omega)))
            refine wp_if ⟨by (first | omega | (simp only [id_eq] at *; omega)), by (first | omega | (simp only [id_eq] at *; omega))⟩ ?_
            refine wp_vl (fun w147 ew147 => ?_)
            have hF66 : rng (-1) 16 w147 := by rw [ew147]; exact rng_upd hF62 (by (first | omega | (simp only [id_eq] at *; omega))) (by (first | omega | (simp only [id_eq] at *; omega)))
            have hpos147 := pos_keep (k := (4 * x33) + 3) (l := 4 * x33) (upd_ne ew147 (by (first | omega | (simp only [id_eq] at *; omega)))) hpos136 (by (first | omega | (simp only [id_eq] at *; omega))) (by (first | omega | (simp only [id_eq] at *; omega)))
            have hmz0 := mz_le c109_g3 (e := c109_g6) (by (first | omega | (simp only [id_eq] at *; omega))) (by (first | omega | (simp only [id_eq] at *; omega)))
            have hLQ67 : LQ (F 11) w147 (g 9) := by
              exact lq_take hLQ63 ((4 * x33) + 3) (upd_ne ew147 (by (first | omega | (simp only [id_eq] at *; omega)))) hzF11 (by (first | omega | (simp only [id_eq] at *; omega))) (by (first | omega | (simp only [id_eq] at *; omega)))
            clear ew147
            refine wp_jn (fun k303 => ∀ (c303_g3 : Int32) (c303_g4 : Int32) (c303_g5 : Int32) (c303_g6 : Int32) (c303_g7 : Int32) (c303_g8 : Int32) (c303_F14 : (Nat → Int32)) (c303_F15 : (Nat → Int32)) (c303_F16 : (Nat → Int32)) (c303_F17 : (Nat → Int32)), ((0) ≤ c303_g3.toInt ∧ c303_g3.toInt ≤ 4) → ((-1) ≤ c303_g4.toInt ∧ c303_g4.toInt ≤ 8) → ((0) ≤ c303_g5.toInt ∧ c303_g5.toInt ≤ 2001) → ((0) ≤ c303_g6.toInt ∧ c303_g6.toInt ≤ 2001) → ((0) ≤ c303_g7.toInt ∧ c303_g7.toInt ≤ 4) → ((-1) ≤ c303_g8.toInt ∧ c303_g8.toInt ≤ 2001) → rng (-1) 16 c303_F15 → LQ (F 11) c303_F15 (g 9) → (g 6).toInt ≤ c303_g6.toInt → 1 ≤ (c303_F15 (Int32.toNatClampNeg (4 * x33))).toInt → wp (k303 c303_g3 c303_g4 c303_g5 c303_g6 c303_g7 c303_g8 c303_F14 c303_F15 c303_F16 c303_F17) (Q_readLaw g F)) ?_ ?_
            · intro c303_g3 c303_g4 c303_g5 c303_g6 c303_g7 c303_g8 c303_F14 c303_F15 c303_F16 c303_F17 hg68 hg69 hg70 hg71 hg72 hg73 hg74 hLQ75 f76 f77
              show wp _ _
              refine wp_if ⟨by (first | omega | (simp only [id_eq] at *; omega)), by (first | omega | (simp only [id_eq] at *; omega))⟩ ?_
              have f79 : (((F 11) (Int32.toNatClampNeg 6)) + 1).toInt = ((F 11) (Int32.toNatClampNeg 6)).toInt + 1 := z_addc (by decide +kernel) (by (first | omega | (simp only [id_eq] at *; omega))) (by (first | omega | (simp only [id_eq] at *; omega)))
              refine wp_if ⟨by (first | omega | (simp only [id_eq] at *; omega)), by (first | omega | (simp only [id_eq] at *; omega))⟩ ?_
              refine wp_vl (fun w313 ew313 => ?_)
              have hF80 : rng (0) 40 w313 := by rw [ew313]; exact rng_upd hzF11 (by (first | omega | (simp only [id_eq] at *; omega))) (by (first | omega | (simp only [id_eq] at *; omega)))
              have hLQ81 : LQ w313 c303_F15 (g 9) := by
                exact lq_inc (l := x33) hLQ75 ew313 (by (first | omega | (simp only [id_eq] at *; omega))) (by (first | omega | (simp only [id_eq] at *; omega))) (by assumption) (by (first | omega | (simp only [id_eq] at *; omega))) hzF11
              clear ew313
              exact ⟨_, rfl, ⟨hg68, hg69, hg70, hg71, hg72, hg73, hF80, hg74, hLQ81, (show (g 6).toInt ≤ c303_g6.toInt from by (first | omega | (simp only [id_eq] at *; omega))), (show (0 ≤ (1 : Int32).toInt ∧ (1 : Int32).toInt ≤ 1) from by (first | omega | (simp only [id_eq] at *; omega)))⟩⟩
            intro k303 Jk303
            have lp148 : ∀ (n148 : Nat) (d148_g3 : Int32) (d148_g4 : Int32) (d148_g5 : Int32) (d148_g6 : Int32) (d148_g7 : Int32) (d148_g8 : Int32) (d148_F14 : (Nat → Int32)) (d148_F15 : (Nat → Int32)) (d148_F16 : (Nat → Int32)) (d148_F17 : (Nat → Int32)), (mz d148_g3 d148_g6).toNat < n148 → ((0) ≤ d148_g3.toInt ∧ d148_g3.toInt ≤ 4) → ((-1) ≤ d148_g4.toInt ∧ d148_g4.toInt ≤ 8) → ((0) ≤ d148_g5.toInt ∧ d148_g5.toInt ≤ 2001) → ((0) ≤ d148_g6.toInt ∧ d148_g6.toInt ≤ 2001) → ((0) ≤ d148_g7.toInt ∧ d148_g7.toInt ≤ 4) → ((-1) ≤ d148_g8.toInt ∧ d148_g8.toInt ≤ 2001) → rng (-1) 16 d148_F15 → LQ (F 11) d148_F15 (g 9) → (g 6).toInt ≤ d148_g6.toInt → 1 ≤ (d148_F15 (Int32.toNatClampNeg (4 * x33))).toInt → wp (L_readLaw_148 g F x33 k303 n148 d148_g3 d148_g4 d148_g5 d148_g6 d148_g7 d148_g8 d148_F14 d148_F15 d148_F16 d148_F17) (Q_readLaw g F) := by
              intro n148
              induction n148 with
              | zero => intro d148_g3 d148_g4 d148_g5 d148_g6 d148_g7 d148_g8 d148_F14 d148_F15 d148_F16 d148_F17 hm; exact absurd hm (Nat.not_lt_zero _)
              | succ n148 ih148 =>
                intro d148_g3 d148_g4 d148_g5 d148_g6 d148_g7 d148_g8 d148_F14 d148_F15 d148_F16 d148_F17 hm148 hg82 hg83 hg84 hg85 hg86 hg87 hg88 hLQ89 f90 f91
                show wp (B_readLaw_148 g F x33 k303 (L_readLaw_148 g F x33 k303 n148) d148_g3 d148_g4 d148_g5 d148_g6 d148_g7 d148_g8 d148_F14 d148_F15 d148_F16 d148_F17) _
                unfold B_readLaw_148
                refine wp_ite (fun c153 => ?_) (fun c153 => ?_)
                · have c153 := congrArg Int32.toInt c153
                  refine wp_ite (fun c161 => ?_) (fun c161 => ?_)
                  · have c161 := (z_lt _ _).mp c161
                    exact Jk303 d148_g3 d148_g4 d148_g5 d148_g6 d148_g7 d148_g8 d148_F14 d148_F15 d148_F16 d148_F17 hg82 hg83 hg84 hg85 hg86 hg87 hg88 hLQ89 (show (g 6).toInt ≤ d148_g6.toInt from by first | (first | omega | (simp only [id_eq] at *; omega)) | assumption) (show 1 ≤ (d148_F15 (Int32.toNatClampNeg (4 * x33))).toInt from by first | (first | omega | (simp only [id_eq] at *; omega)) | assumption)
                  · have c161 := z_nlt c161
                    refine wp_jn (fun j222 => ∀ (t222_0 : Int32), wp (j222 t222_0) (Q_readLaw g F)) ?_ ?_
                    · intro t222_0
                      show wp _ _
                      refine wp_ite (fun c224 => ?_) (fun c224 => ?_)
                      · have c224 := congrArg Int32.toInt c224
                        obtain ⟨⟨c234_g3, c234_g4, c234_g5, c234_g6⟩, hc234, hq234⟩ := ok_scan (upd (upd (upd (upd (upd (upd g 3 d148_g3) 4 d148_g4) 5 d148_g5) 6 d148_g6) 7 d148_g7) 8 d148_g8) (upF (upF (upF (upF F 14 d148_F14) 15 d148_F15) 16 d148_F16) 17 d148_F17) (MInv_i hzg1 hzg2 hg82 hg83 hg84 hg85 hg86 hg87 hzg9 hzg23 hzg27 hzg30 hzg34 hzg36 hzg39 hzg44 hzg47 hzg48 hzg51 hzg56 hzg59 hzg62 hzg65 hzg66 hzg70 hzF11 hzF12 hzF13 hg88 hzF19 hzF21 hzF24 hzF25 hzF26 hzF33 hzF38 hzF41 hzF43 hzF45 hzF46 hzF50 hzF53 hzF54 hLQ89)
                        obtain ⟨hg92, hg93, hg94, hg95, f96, f97, f98⟩ : (((0) ≤ c234_g3.toInt ∧ c234_g3.toInt ≤ 4)) ∧ (((-1) ≤ c234_g4.toInt ∧ c234_g4.toInt ≤ 8)) ∧ (((0) ≤ c234_g5.toInt ∧ c234_g5.toInt ≤ 2001)) ∧ (((0) ≤ c234_g6.toInt ∧ c234_g6.toInt ≤ 2001)) ∧ (id (c234_g3.toInt = 2 → c234_g5.toInt + 2 ≤ c234_g6.toInt ∧ c234_g6.toInt ≤ c234_g5.toInt + 18 ∧ c234_g6.toInt ≤ 2000)) ∧ (id (c234_g3.toInt ≠ 4 → d148_g6.toInt < c234_g6.toInt)) ∧ (d148_g6.toInt ≤ c234_g6.toInt) := hq234
                        refine wp_b4 hc234 ?_
                        clear hc234
                        refine wp_jn (fun j300 => ∀ (c300_g3 : Int32) (c300_g4 : Int32) (c300_g5 : Int32) (c300_g6 : Int32) (c300_g7 : Int32) (c300_g8 : Int32) (c300_F14 : (Nat → Int32)) (c300_F15 : (Nat → Int32)) (c300_F16 : (Nat → Int32)) (c300_F17 : (Nat → Int32)), ((0) ≤ c300_g3.toInt ∧ c300_g3.toInt ≤ 4) → ((-1) ≤ c300_g4.toInt ∧ c300_g4.toInt ≤ 8) → ((0) ≤ c300_g5.toInt ∧ c300_g5.toInt ≤ 2001) → ((0) ≤ c300_g6.toInt ∧ c300_g6.toInt ≤ 2001) → ((0) ≤ c300_g7.toInt ∧ c300_g7.toInt ≤ 4) → ((-1) ≤ c300_g8.toInt ∧ c300_g8.toInt ≤ 2001) → rng (-1) 16 c300_F15 → LQ (F 11) c300_F15 (g 9) → (g 6).toInt ≤ c300_g6.toInt → 1 ≤ (c300_F15 (Int32.toNatClampNeg (4 * x33))).toInt → (c300_g3.toInt = 4 ∨ d148_g6.toInt < c300_g6.toInt) → wp (j300 c300_g3 c300_g4 c300_g5 c300_g6 c300_g7 c300_g8 c300_F14 c300_F15 c300_F16 c300_F17) (Q_readLaw g F)) ?_ ?_
                        · intro c300_g3 c300_g4 c300_g5 c300_g6 c300_g7 c300_g8 c300_F14 c300_F15 c300_F16 c300_F17 hg99 hg100 hg101 hg102 hg103 hg104 hg105 hLQ106 f107 f108 f109
                          show wp _ _
                          have hmz := mz_lt (s := d148_g3) (e := d148_g6) (s1 := c300_g3) (e1 := c300_g6) (by (first | omega | (simp only [id_eq] at *; omega))) (by (first | omega | (simp only [id_eq] at *; omega))) (by (first | omega | (simp only [id_eq] at *; omega)))
                          exact ih148 c300_g3 c300_g4 c300_g5 c300_g6 c300_g7 c300_g8 c300_F14 c300_F15 c300_F16 c300_F17 (show (mz c300_g3 c300_g6).toNat < n148 from by (first | omega | (simp only [id_eq] at *; omega))) hg99 hg100 hg101 hg102 hg103 hg104 hg105 hLQ106 (show (g 6).toInt ≤ c300_g6.toInt from by first | (first | omega | (simp only [id_eq] at *; omega)) | assumption) (show 1 ≤ (c300_F15 (Int32.toNatClampNeg (4 * x33))).toInt from by first | (first | omega | (simp only [id_eq] at *; omega)) | assumption)
                        intro j300 Jj300
                        refine wp_ite (fun c239 => ?_) (fun c239 => ?_)
                        · have c239 := congrArg Int32.toInt c239
                          refine wp_if ⟨by (first | omega | (simp only [id_eq] at *; omega)), by (first | omega | (simp only [id_eq] at *; omega))⟩ ?_
                          refine wp_vl (fun w248 ew248 => ?_)
                          clear ew248
                          exact Jj300 c234_g3 c234_g4 c234_g5 c234_g6 d148_g7 d148_g8 d148_F14 d148_F15 w248 d148_F17 hg92 hg93 hg94 hg95 hg86 hg87 hg88 hLQ89 (show (g 6).toInt ≤ c234_g6.toInt from by first | (first | omega | (simp only [id_eq] at *; omega)) | assumption | exact pos_keep (by assumption) (by assumption) (by (first | omega | (simp only [id_eq] at *; omega))) (by (first | omega | (simp only [id_eq] at *; omega)))) (show 1 ≤ (d148_F15 (Int32.toNatClampNeg (4 * x33))).toInt from by first | (first | omega | (simp only [id_eq] at *; omega)) | assumption | exact pos_keep (by assumption) (by assumption) (by (first | omega | (simp only [id_eq] at *; omega))) (by (first | omega | (simp only [id_eq] at *; omega)))) (show (c234_g3.toInt = 4 ∨ d148_g6.toInt < c234_g6.toInt) from by first | (first | omega | (simp only [id_eq] at *; omega)) | assumption | exact pos_keep (by assumption) (by assumption) (by (first | omega | (simp only [id_eq] at *; omega))) (by (first | omega | (simp only [id_eq] at *; omega))))
                        · have c239 := z_ne c239
                          refine wp_ite (fun c255 => ?_) (fun c255 => ?_)
                          · have c255 := congrArg Int32.toInt c255
                            refine wp_if ⟨by (first | omega | (simp only [id_eq] at *; omega)), by (first | omega | (simp only [id_eq] at *; omega))⟩ ?_
                            refine wp_vl (fun w264 ew264 => ?_)
                            clear ew264
                            exact Jj300 c234_g3 c234_g4 c234_g5 c234_g6 d148_g7 d148_g8 d148_F14 d148_F15 d148_F16 w264 hg92 hg93 hg94 hg95 hg86 hg87 hg88 hLQ89 (show (g 6).toInt ≤ c234_g6.toInt from by first | (first | omega | (simp only [id_eq] at *; omega)) | assumption | exact pos_keep (by assumption) (by assumption) (by (first | omega | (simp only [id_eq] at *; omega))) (by (first | omega | (simp only [id_eq] at *; omega)))) (show 1 ≤ (d148_F15 (Int32.toNatClampNeg (4 * x33))).toInt from by first | (first | omega | (simp only [id_eq] at *; omega)) | assumption | exact pos_keep (by assumption) (by assumption) (by (first | omega | (simp only [id_eq] at *; omega))) (by (first | omega | (simp only [id_eq] at *; omega)))) (show (c234_g3.toInt = 4 ∨ d148_g6.toInt < c234_g6.toInt) from by first | (first | omega | (simp only [id_eq] at *; omega)) | assumption | exact pos_keep (by assumption) (by assumption) (by (first | omega | (simp only [id_eq] at *; omega))) (by (first | omega | (simp only [id_eq] at *; omega))))
                          · have c255 := z_ne c255
                            have f111 : ((4 * x33) + d148_g4).toInt = (4 * x33).toInt + d148_g4.toInt := z_add (by (first | omega | (simp only [id_eq] at *; omega))) (by (first | omega | (simp only [id_eq] at *; omega)))
                            have f112 : (((4 * x33) + d148_g4) - 7).toInt = ((4 * x33) + d148_g4).toInt - 7 := z_subc (by decide +kernel) (by (first | omega | (simp only [id_eq] at *; omega))) (by (first | omega | (simp only [id_eq] at *; omega)))
                            have f113 : ((((4 * x33) + d148_g4) - 7) + 2).toInt = (((4 * x33) + d148_g4) - 7).toInt + 2 := z_addc (by decide +kernel) (by (first | omega | (simp only [id_eq] at *; omega))) (by (first | omega | (simp only [id_eq] at *; omega)))
                            obtain ⟨⟨r288, c288_g7, c288_g8, c288_F14, c288_F15⟩, hc288, hq288⟩ := ok_take (upd (upd (upd (upd (upd (upd g 3 c234_g3) 4 c234_g4) 5 c234_g5) 6 c234_g6) 7 d148_g7) 8 d148_g8) (upF (upF (upF (upF F 14 d148_F14) 15 d148_F15) 16 d148_F16) 17 d148_F17) d148_F14 17920 d148_F15 1120 ((((4 * x33) + d148_g4) - 7) + 2) 1 (MInv_i hzg1 hzg2 hg92 hg93 hg94 hg95 hg86 hg87 hzg9 hzg23 hzg27 hzg30 hzg34 hzg36 hzg39 hzg44 hzg47 hzg48 hzg51 hzg56 hzg59 hzg62 hzg65 hzg66 hzg70 hzF11 hzF12 hzF13 hg88 hzF19 hzF21 hzF24 hzF25 hzF26 hzF33 hzF38 hzF41 hzF43 hzF45 hzF46 hzF50 hzF53 hzF54 hLQ89) hg88 (show (0 ≤ ((((4 * x33) + d148_g4) - 7) + 2).toInt ∧ ((((4 * x33) + d148_g4) - 7) + 2).toInt < 1120) from by (first | omega | (simp only [id_eq] at *; omega))) (show 16 * 1120 ≤ 17920 from by (first | omega | (simp only [id_eq] at *; omega))) (show 17920 ≤ 500000 from by (first | omega | (simp only [id_eq] at *; omega))) (show (c234_g3.toInt = 2 → c234_g5.toInt + 2 ≤ c234_g6.toInt ∧ c234_g6.toInt ≤ c234_g5.toInt + 18 ∧ c234_g6.toInt ≤ 2000) from by (first | omega | (simp only [id_eq] at *; omega)))
                            obtain ⟨hg114, hg115, hg116, f117, f118, f119, f120⟩ : (((0) ≤ c288_g7.toInt ∧ c288_g7.toInt ≤ 4)) ∧ (((-1) ≤ c288_g8.toInt ∧ c288_g8.toInt ≤ 2001)) ∧ (rng (-1) 16 c288_F15) ∧ (id (r288.toInt = 1 → c234_g3.toInt = 2)) ∧ ((∀ k : Nat, (k : Int) ≠ ((((4 * x33) + d148_g4) - 7) + 2).toInt → c288_F15 k = d148_F15 k)) ∧ (id (r288.toInt = 1 → (1 : Int32).toInt ≠ 0 → 1 ≤ (c288_F15 (Int32.toNatClampNeg ((((4 * x33) + d148_g4) - 7) + 2))).toInt)) ∧ ((0 ≤ r288.toInt ∧ r288.toInt ≤ 1)) := hq288
                            refine wp_b5 hc288 ?_
                            clear hc288
                            have hLQ121 : LQ (F 11) c288_F15 (g 9) := by
                              exact lq_take hLQ89 ((((4 * x33) + d148_g4) - 7) + 2) (by assumption) hzF11 (by (first | omega | (simp only [id_eq] at *; omega))) (by (first | omega | (simp only [id_eq] at *; omega)))
                            refine wp_ite (fun c291 => ?_) (fun c291 => ?_)
                            · have c291 := congrArg Int32.toInt c291
                              exact ⟨_, rfl, ⟨hg92, hg93, hg94, hg95, hg114, hg115, hzF11, hg116, hLQ121, (show (g 6).toInt ≤ c234_g6.toInt from by (first | omega | (simp only [id_eq] at *; omega))), (show (0 ≤ (0 : Int32).toInt ∧ (0 : Int32).toInt ≤ 1) from by (first | omega | (simp only [id_eq] at *; omega)))⟩⟩
                            · have c291 := z_ne c291
                              obtain ⟨⟨c297_g3, c297_g4, c297_g5, c297_g6⟩, hc297, hq297⟩ := ok_scan (upd (upd (upd (upd (upd (upd g 3 c234_g3) 4 c234_g4) 5 c234_g5) 6 c234_g6) 7 c288_g7) 8 c288_g8) (upF (upF (upF (upF F 14 c288_F14) 15 c288_F15) 16 d148_F16) 17 d148_F17) (MInv_i hzg1 hzg2 hg92 hg93 hg94 hg95 hg114 hg115 hzg9 hzg23 hzg27 hzg30 hzg34 hzg36 hzg39 hzg44 hzg47 hzg48 hzg51 hzg56 hzg59 hzg62 hzg65 hzg66 hzg70 hzF11 hzF12 hzF13 hg116 hzF19 hzF21 hzF24 hzF25 hzF26 hzF33 hzF38 hzF41 hzF43 hzF45 hzF46 hzF50 hzF53 hzF54 hLQ121)
                              obtain ⟨hg122, hg123, hg124, hg125, f126, f127, f128⟩ : (((0) ≤ c297_g3.toInt ∧ c297_g3.toInt ≤ 4)) ∧ (((-1) ≤ c297_g4.toInt ∧ c297_g4.toInt ≤ 8)) ∧ (((0) ≤ c297_g5.toInt ∧ c297_g5.toInt ≤ 2001)) ∧ (((0) ≤ c297_g6.toInt ∧ c297_g6.toInt ≤ 2001)) ∧ (id (c297_g3.toInt = 2 → c297_g5.toInt + 2 ≤ c297_g6.toInt ∧ c297_g6.toInt ≤ c297_g5.toInt + 18 ∧ c297_g6.toInt ≤ 2000)) ∧ (id (c297_g3.toInt ≠ 4 → c234_g6.toInt < c297_g6.toInt)) ∧ (c234_g6.toInt ≤ c297_g6.toInt) := hq297
                              refine wp_b4 hc297 ?_
                              clear hc297
                              exact Jj300 c297_g3 c297_g4 c297_g5 c297_g6 c288_g7 c288_g8 c288_F14 c288_F15 d148_F16 d148_F17 hg122 hg123 hg124 hg125 hg114 hg115 hg116 hLQ121 (show (g 6).toInt ≤ c297_g6.toInt from by first | (first | omega | (simp only [id_eq] at *; omega)) | assumption | exact pos_keep (by assumption) (by assumption) (by (first | omega | (simp only [id_eq] at *; omega))) (by (first | omega | (simp only [id_eq] at *; omega)))) (show 1 ≤ (c288_F15 (Int32.toNatClampNeg (4 * x33))).toInt from by first | (first | omega | (simp only [id_eq] at *; omega)) | assumption | exact pos_keep (by assumption) (by assumption) (by (first | omega | (simp only [id_eq] at *; omega))) (by (first | omega | (simp only [id_eq] at *; omega)))) (show (c297_g3.toInt = 4 ∨ d148_g6.toInt < c297_g6.toInt) from by first | (first | omega | (simp only [id_eq] at *; omega)) | assumption | exact pos_keep (by assumption) (by assumption) (by (first | omega | (simp only [id_eq] at *; omega))) (by (first | omega | (simp only [id_eq] at *; omega))))
                      · have c224 := z_ne c224
                        obtain ⟨⟨r229, c229_g7, c229_g8⟩, hc229, hq229⟩ := ok_wrong (upd (upd (upd (upd (upd (upd g 3 d148_g3) 4 d148_g4) 5 d148_g5) 6 d148_g6) 7 d148_g7) 8 d148_g8) (upF (upF (upF (upF F 14 d148_F14) 15 d148_F15) 16 d148_F16) 17 d148_F17) 3 (MInv_i hzg1 hzg2 hg82 hg83 hg84 hg85 hg86 hg87 hzg9 hzg23 hzg27 hzg30 hzg34 hzg36 hzg39 hzg44 hzg47 hzg48 hzg51 hzg56 hzg59 hzg62 hzg65 hzg66 hzg70 hzF11 hzF12 hzF13 hg88 hzF19 hzF21 hzF24 hzF25 hzF26 hzF33 hzF38 hzF41 hzF43 hzF45 hzF46 hzF50 hzF53 hzF54 hLQ89) (show 0 ≤ (3 : Int32).toInt ∧ (3 : Int32).toInt ≤ 4 from by (first | omega | (simp only [id_eq] at *; omega)))
                        obtain ⟨hg129, hg130, f131, f132⟩ : (((0) ≤ c229_g7.toInt ∧ c229_g7.toInt ≤ 4)) ∧ (((-1) ≤ c229_g8.toInt ∧ c229_g8.toInt ≤ 2001)) ∧ (r229.toInt = 0) ∧ ((0 ≤ r229.toInt ∧ r229.toInt ≤ 1)) := hq229
                        refine wp_b3 hc229 ?_
                        clear hc229
                        refine wp_if ⟨by (first | omega | (simp only [id_eq] at *; omega)), by (first | omega | (simp only [id_eq] at *; omega))⟩ ?_
                        exact ⟨_, rfl, ⟨hg82, hg83, hg84, hg85, hg129, hg130, hzF11, hg88, hLQ89, (show (g 6).toInt ≤ d148_g6.toInt from by (first | omega | (simp only [id_eq] at *; omega))), (show (0 ≤ r229.toInt ∧ r229.toInt ≤ 1) from by (first | omega | (simp only [id_eq] at *; omega)))⟩⟩
                    intro j222 Jj222
                    refine wp_ite (fun c171 => ?_) (fun c171 => ?_)
                    · have c171 := congrArg Int32.toInt c171
                      refine wp_if ⟨by (first | omega | (simp only [id_eq] at *; omega)), by (first | omega | (simp only [id_eq] at *; omega))⟩ ?_
                      exact Jj222 (d148_F16 (Int32.toNatClampNeg x33))
                    · have c171 := z_ne c171
                      refine wp_ite (fun c186 => ?_) (fun c186 => ?_)
                      · have c186 := congrArg Int32.toInt c186
                        refine wp_if ⟨by (first | omega | (simp only [id_eq] at *; omega)), by (first | omega | (simp only [id_eq] at *; omega))⟩ ?_
                        exact Jj222 (d148_F17 (Int32.toNatClampNeg x33))
                      · have c186 := z_ne c186
                        have f134 : ((4 * x33) + d148_g4).toInt = (4 * x33).toInt + d148_g4.toInt := z_add (by (first | omega | (simp only [id_eq] at *; omega))) (by (first | omega | (simp only [id_eq] at *; omega)))
                        have f135 : (((4 * x33) + d148_g4) - 7).toInt = ((4 * x33) + d148_g4).toInt - 7 := z_subc (by decide +kernel) (by (first | omega | (simp only [id_eq] at *; omega))) (by (first | omega | (simp only [id_eq] at *; omega)))
                        have f136 : ((((4 * x33) + d148_g4) - 7) + 2).toInt = (((4 * x33) + d148_g4) - 7).toInt + 2 := z_addc (by decide +kernel) (by (first | omega | (simp only [id_eq] at *; omega))) (by (first | omega | (simp only [id_eq] at *; omega)))
                        refine wp_if ⟨by (first | omega | (simp only [id_eq] at *; omega)), by (first | omega | (simp only [id_eq] at *; omega))⟩ ?_
                        have f137 := hg88 (Int32.toNatClampNeg ((((4 * x33) + d148_g4) - 7) + 2))
                        refine wp_ite (fun c214 => ?_) (fun c214 => ?_)
                        · have c214 := congrArg Int32.toInt c214
                          exact Jj222 (0 : Int32)
                        · have c214 := z_ne c214
                          exact Jj222 (1 : Int32)
                · have c153 := z_ne c153
                  exact Jk303 d148_g3 d148_g4 d148_g5 d148_g6 d148_g7 d148_g8 d148_F14 d148_F15 d148_F16 d148_F17 hg82 hg83 hg84 hg85 hg86 hg87 hg88 hLQ89 (show (g 6).toInt ≤ d148_g6.toInt from by first | (first | omega | (simp only [id_eq] at *; omega)) | assumption) (show 1 ≤ (d148_F15 (Int32.toNatClampNeg (4 * x33))).toInt from by first | (first | omega | (simp only [id_eq] at *; omega)) | assumption)
            exact lp148 NN c109_g3 c109_g4 c109_g5 c109_g6 c100_g7 c100_g8 c100_F14 w147 w118 w125 (by have := NN_eq; (first | omega | (simp only [id_eq] at *; omega))) hg53 hg54 hg55 hg56 hg45 hg46 hF66 hLQ67 (show (g 6).toInt ≤ c109_g6.toInt from by first | (first | omega | (simp only [id_eq] at *; omega)) | assumption) (show 1 ≤ (w147 (Int32.toNatClampNeg (4 * x33))).toInt from by first | (first | omega | (simp only [id_eq] at *; omega)) | assumption)
        · have c72 := z_ne c72
          exact Jj75
      · have c64 := z_ne c64
        exact Jj75
