abbrev Q_readListed (g : Nat → Int32) (F : Nat → Nat → Int32) (p0 : Int32) : (Int32 × Int32 × Int32 × Int32 × Int32 × Int32 × Int32 × (Nat → Int32) × (Nat → Int32) × (Nat → Int32)) → Prop := (fun t => (((0) ≤ (t.2.1).toInt ∧ (t.2.1).toInt ≤ 4)) ∧ (((-1) ≤ (t.2.2.1).toInt ∧ (t.2.2.1).toInt ≤ 8)) ∧ (((0) ≤ (t.2.2.2.1).toInt ∧ (t.2.2.2.1).toInt ≤ 2001)) ∧ (((0) ≤ (t.2.2.2.2.1).toInt ∧ (t.2.2.2.2.1).toInt ≤ 2001)) ∧ (((0) ≤ (t.2.2.2.2.2.1).toInt ∧ (t.2.2.2.2.2.1).toInt ≤ 4)) ∧ (((-1) ≤ (t.2.2.2.2.2.2.1).toInt ∧ (t.2.2.2.2.2.2.1).toInt ≤ 2001)) ∧ (rng (0) 40 (t.2.2.2.2.2.2.2.1)) ∧ (rng (-1) 16 (t.2.2.2.2.2.2.2.2.2)) ∧ ((g 6).toInt ≤ (t.2.2.2.2.1).toInt) ∧ ((0 ≤ (t.1).toInt ∧ (t.1).toInt ≤ 1)))
set_option maxHeartbeats 4000000 in
set_option maxRecDepth 100000 in
theorem ok_readListed (g : Nat → Int32) (F : Nat → Nat → Int32) (p0 : Int32) (hI : MInv g F) : wp (f_readListed g F p0) (Q_readListed g F p0) := by
  unfold f_readListed
  refine MInv_e hI (fun (hzg1 : id _) (hzg2 : id _) hzg3 hzg4 hzg5 hzg6 (hzg7 : id _) (hzg8 : id _) (hzg9 : id _) (hzg23 : id _) (hzg27 : id _) (hzg30 : id _) (hzg34 : id _) (hzg36 : id _) (hzg39 : id _) (hzg44 : id _) (hzg47 : id _) (hzg48 : id _) (hzg51 : id _) (hzg56 : id _) (hzg59 : id _) (hzg62 : id _) (hzg65 : id _) (hzg66 : id _) (hzg70 : id _) hzF11 hzF12 hzF13 hzF15 hzF19 hzF21 hzF24 hzF25 hzF26 hzF33 hzF38 hzF41 hzF43 hzF45 hzF46 hzF50 hzF53 hzF54 hzLQ => ?_)
  clear hI
  have zkm1 : (-1 : Int32).toInt = -1 := by decide +kernel
  have zk0 : (0 : Int32).toInt = 0 := by decide +kernel
  have zk1 : (1 : Int32).toInt = 1 := by decide +kernel
  have zk2 : (2 : Int32).toInt = 2 := by decide +kernel
  have zk3 : (3 : Int32).toInt = 3 := by decide +kernel
  have zk4 : (4 : Int32).toInt = 4 := by decide +kernel
  have zk6 : (6 : Int32).toInt = 6 := by decide +kernel
  have zk40 : (40 : Int32).toInt = 40 := by decide +kernel
  have zk240 : (240 : Int32).toInt = 240 := by decide +kernel
  have zk480 : (480 : Int32).toInt = 480 := by decide +kernel
  refine wp_if ⟨by (first | omega | (simp only [id_eq] at *; omega)), by (first | omega | (simp only [id_eq] at *; omega))⟩ ?_
  have f1 := hzF13 (Int32.toNatClampNeg (6 : Int32))
  refine wp_ite (fun c9 => ?_) (fun c9 => ?_)
  · have c9 := congrArg Int32.toInt c9
    obtain ⟨⟨r14, c14_g7, c14_g8⟩, hc14, hq14⟩ := ok_wrong g F 4 (MInv_i hzg1 hzg2 hzg3 hzg4 hzg5 hzg6 hzg7 hzg8 hzg9 hzg23 hzg27 hzg30 hzg34 hzg36 hzg39 hzg44 hzg47 hzg48 hzg51 hzg56 hzg59 hzg62 hzg65 hzg66 hzg70 hzF11 hzF12 hzF13 hzF15 hzF19 hzF21 hzF24 hzF25 hzF26 hzF33 hzF38 hzF41 hzF43 hzF45 hzF46 hzF50 hzF53 hzF54 hzLQ) (show 0 ≤ (4 : Int32).toInt ∧ (4 : Int32).toInt ≤ 4 from by (first | omega | (simp only [id_eq] at *; omega)))
    obtain ⟨hg2, hg3, f4, f5⟩ : (((0) ≤ c14_g7.toInt ∧ c14_g7.toInt ≤ 4)) ∧ (((-1) ≤ c14_g8.toInt ∧ c14_g8.toInt ≤ 2001)) ∧ (r14.toInt = 0) ∧ ((0 ≤ r14.toInt ∧ r14.toInt ≤ 1)) := hq14
    refine wp_b3 hc14 ?_
    clear hc14
    refine wp_if ⟨by (first | omega | (simp only [id_eq] at *; omega)), by (first | omega | (simp only [id_eq] at *; omega))⟩ ?_
    exact ⟨_, rfl, ⟨hzg3, hzg4, hzg5, hzg6, hg2, hg3, hzF13, hzF21, (show (g 6).toInt ≤ (g 6).toInt from by (first | omega | (simp only [id_eq] at *; omega))), (show (0 ≤ r14.toInt ∧ r14.toInt ≤ 1) from by (first | omega | (simp only [id_eq] at *; omega)))⟩⟩
  · have c9 := z_ne c9
    obtain ⟨⟨c19_g3, c19_g4, c19_g5, c19_g6⟩, hc19, hq19⟩ := ok_scan g F (MInv_i hzg1 hzg2 hzg3 hzg4 hzg5 hzg6 hzg7 hzg8 hzg9 hzg23 hzg27 hzg30 hzg34 hzg36 hzg39 hzg44 hzg47 hzg48 hzg51 hzg56 hzg59 hzg62 hzg65 hzg66 hzg70 hzF11 hzF12 hzF13 hzF15 hzF19 hzF21 hzF24 hzF25 hzF26 hzF33 hzF38 hzF41 hzF43 hzF45 hzF46 hzF50 hzF53 hzF54 hzLQ)
    obtain ⟨hg6, hg7, hg8, hg9, f10, f11, f12⟩ : (((0) ≤ c19_g3.toInt ∧ c19_g3.toInt ≤ 4)) ∧ (((-1) ≤ c19_g4.toInt ∧ c19_g4.toInt ≤ 8)) ∧ (((0) ≤ c19_g5.toInt ∧ c19_g5.toInt ≤ 2001)) ∧ (((0) ≤ c19_g6.toInt ∧ c19_g6.toInt ≤ 2001)) ∧ (id (c19_g3.toInt = 2 → c19_g5.toInt + 2 ≤ c19_g6.toInt ∧ c19_g6.toInt ≤ c19_g5.toInt + 18 ∧ c19_g6.toInt ≤ 2000)) ∧ (id (c19_g3.toInt ≠ 4 → (g 6).toInt < c19_g6.toInt)) ∧ ((g 6).toInt ≤ c19_g6.toInt) := hq19
    refine wp_b4 hc19 ?_
    clear hc19
    refine wp_if ⟨by (first | omega | (simp only [id_eq] at *; omega)), by (first | omega | (simp only [id_eq] at *; omega))⟩ ?_
    have f14 : (240 + ((F 13) (Int32.toNatClampNeg 6))).toInt = 240 + ((F 13) (Int32.toNatClampNeg 6)).toInt := z_addd (by decide +kernel) (by (first | omega | (simp only [id_eq] at *; omega))) (by (first | omega | (simp only [id_eq] at *; omega)))
    have f15 : (2 * (240 + ((F 13) (Int32.toNatClampNeg 6)))).toInt = 2 * (240 + ((F 13) (Int32.toNatClampNeg 6))).toInt := z_muld (by decide +kernel) (by (first | omega | (simp only [id_eq] at *; omega))) (by (first | omega | (simp only [id_eq] at *; omega)))
    refine wp_vl (fun x35 ex35 => ?_)
    have f16 : x35.toInt = (2 * (240 + ((F 13) (Int32.toNatClampNeg 6)))).toInt := congrArg Int32.toInt ex35
    clear ex35
    obtain ⟨⟨r47, c47_g7, c47_g8, c47_F20, c47_F21⟩, hc47, hq47⟩ := ok_take (upd (upd (upd (upd g 3 c19_g3) 4 c19_g4) 5 c19_g5) 6 c19_g6) F (F 20) 8960 (F 21) 560 x35 1 (MInv_i hzg1 hzg2 hg6 hg7 hg8 hg9 hzg7 hzg8 hzg9 hzg23 hzg27 hzg30 hzg34 hzg36 hzg39 hzg44 hzg47 hzg48 hzg51 hzg56 hzg59 hzg62 hzg65 hzg66 hzg70 hzF11 hzF12 hzF13 hzF15 hzF19 hzF21 hzF24 hzF25 hzF26 hzF33 hzF38 hzF41 hzF43 hzF45 hzF46 hzF50 hzF53 hzF54 hzLQ) hzF21 (show (0 ≤ x35.toInt ∧ x35.toInt < 560) from by (first | omega | (simp only [id_eq] at *; omega))) (show 16 * 560 ≤ 8960 from by (first | omega | (simp only [id_eq] at *; omega))) (show 8960 ≤ 500000 from by (first | omega | (simp only [id_eq] at *; omega))) (show (c19_g3.toInt = 2 → c19_g5.toInt + 2 ≤ c19_g6.toInt ∧ c19_g6.toInt ≤ c19_g5.toInt + 18 ∧ c19_g6.toInt ≤ 2000) from by (first | omega | (simp only [id_eq] at *; omega)))
    obtain ⟨hg17, hg18, hg19, f20, f21, f22, f23⟩ : (((0) ≤ c47_g7.toInt ∧ c47_g7.toInt ≤ 4)) ∧ (((-1) ≤ c47_g8.toInt ∧ c47_g8.toInt ≤ 2001)) ∧ (rng (-1) 16 c47_F21) ∧ (id (r47.toInt = 1 → c19_g3.toInt = 2)) ∧ ((∀ k : Nat, (k : Int) ≠ x35.toInt → c47_F21 k = (F 21) k)) ∧ (id (r47.toInt = 1 → (1 : Int32).toInt ≠ 0 → 1 ≤ (c47_F21 (Int32.toNatClampNeg x35)).toInt)) ∧ ((0 ≤ r47.toInt ∧ r47.toInt ≤ 1)) := hq47
    refine wp_b5 hc47 ?_
    clear hc47
    refine wp_ite (fun c50 => ?_) (fun c50 => ?_)
    · have c50 := congrArg Int32.toInt c50
      exact ⟨_, rfl, ⟨hg6, hg7, hg8, hg9, hg17, hg18, hzF13, hg19, (show (g 6).toInt ≤ c19_g6.toInt from by (first | omega | (simp only [id_eq] at *; omega))), (show (0 ≤ (0 : Int32).toInt ∧ (0 : Int32).toInt ≤ 1) from by (first | omega | (simp only [id_eq] at *; omega)))⟩⟩
    · have c50 := z_ne c50
      refine wp_jn (fun k92 => wp (k92 ()) (Q_readListed g F p0)) ?_ ?_
      · show wp _ _
        show wp _ _
        have f24 : (x35 + 1).toInt = x35.toInt + 1 := z_addc (by decide +kernel) (by (first | omega | (simp only [id_eq] at *; omega))) (by (first | omega | (simp only [id_eq] at *; omega)))
        refine wp_if ⟨by (first | omega | (simp only [id_eq] at *; omega)), by (first | omega | (simp only [id_eq] at *; omega))⟩ ?_
        refine wp_vl (fun w100 ew100 => ?_)
        have hF25 : rng (-1) 16 w100 := by rw [ew100]; exact rng_upd hg19 (by (first | omega | (simp only [id_eq] at *; omega))) (by (first | omega | (simp only [id_eq] at *; omega)))
        clear ew100
        obtain ⟨⟨c102_g3, c102_g4, c102_g5, c102_g6⟩, hc102, hq102⟩ := ok_scan (upd (upd (upd (upd (upd (upd g 3 c19_g3) 4 c19_g4) 5 c19_g5) 6 c19_g6) 7 c47_g7) 8 c47_g8) (upF (upF F 20 c47_F20) 21 w100) (MInv_i hzg1 hzg2 hg6 hg7 hg8 hg9 hg17 hg18 hzg9 hzg23 hzg27 hzg30 hzg34 hzg36 hzg39 hzg44 hzg47 hzg48 hzg51 hzg56 hzg59 hzg62 hzg65 hzg66 hzg70 hzF11 hzF12 hzF13 hzF15 hzF19 hF25 hzF24 hzF25 hzF26 hzF33 hzF38 hzF41 hzF43 hzF45 hzF46 hzF50 hzF53 hzF54 hzLQ)
        obtain ⟨hg26, hg27, hg28, hg29, f30, f31, f32⟩ : (((0) ≤ c102_g3.toInt ∧ c102_g3.toInt ≤ 4)) ∧ (((-1) ≤ c102_g4.toInt ∧ c102_g4.toInt ≤ 8)) ∧ (((0) ≤ c102_g5.toInt ∧ c102_g5.toInt ≤ 2001)) ∧ (((0) ≤ c102_g6.toInt ∧ c102_g6.toInt ≤ 2001)) ∧ (id (c102_g3.toInt = 2 → c102_g5.toInt + 2 ≤ c102_g6.toInt ∧ c102_g6.toInt ≤ c102_g5.toInt + 18 ∧ c102_g6.toInt ≤ 2000)) ∧ (id (c102_g3.toInt ≠ 4 → c19_g6.toInt < c102_g6.toInt)) ∧ (c19_g6.toInt ≤ c102_g6.toInt) := hq102
        refine wp_b4 hc102 ?_
        clear hc102
        refine wp_jn (fun j160 => ∀ (c160_g3 : Int32) (c160_g4 : Int32) (c160_g5 : Int32) (c160_g6 : Int32) (c160_g7 : Int32) (c160_g8 : Int32) (c160_F20 : (Nat → Int32)) (c160_F21 : (Nat → Int32)), ((0) ≤ c160_g3.toInt ∧ c160_g3.toInt ≤ 4) → ((-1) ≤ c160_g4.toInt ∧ c160_g4.toInt ≤ 8) → ((0) ≤ c160_g5.toInt ∧ c160_g5.toInt ≤ 2001) → ((0) ≤ c160_g6.toInt ∧ c160_g6.toInt ≤ 2001) → ((0) ≤ c160_g7.toInt ∧ c160_g7.toInt ≤ 4) → ((-1) ≤ c160_g8.toInt ∧ c160_g8.toInt ≤ 2001) → rng (-1) 16 c160_F21 → (g 6).toInt ≤ c160_g6.toInt → wp (j160 c160_g3 c160_g4 c160_g5 c160_g6 c160_g7 c160_g8 c160_F20 c160_F21) (Q_readListed g F p0)) ?_ ?_
        · intro c160_g3 c160_g4 c160_g5 c160_g6 c160_g7 c160_g8 c160_F20 c160_F21 hg33 hg34 hg35 hg36 hg37 hg38 hg39 f40
          show wp _ _
          refine wp_if ⟨by (first | omega | (simp only [id_eq] at *; omega)), by (first | omega | (simp only [id_eq] at *; omega))⟩ ?_
          have f42 : (((F 13) (Int32.toNatClampNeg 6)) + 1).toInt = ((F 13) (Int32.toNatClampNeg 6)).toInt + 1 := z_addc (by decide +kernel) (by (first | omega | (simp only [id_eq] at *; omega))) (by (first | omega | (simp only [id_eq] at *; omega)))
          refine wp_if ⟨by (first | omega | (simp only [id_eq] at *; omega)), by (first | omega | (simp only [id_eq] at *; omega))⟩ ?_
          refine wp_vl (fun w170 ew170 => ?_)
          have hF43 : rng (0) 40 w170 := by rw [ew170]; exact rng_upd hzF13 (by (first | omega | (simp only [id_eq] at *; omega))) (by (first | omega | (simp only [id_eq] at *; omega)))
          clear ew170
          exact ⟨_, rfl, ⟨hg33, hg34, hg35, hg36, hg37, hg38, hF43, hg39, (show (g 6).toInt ≤ c160_g6.toInt from by (first | omega | (simp only [id_eq] at *; omega))), (show (0 ≤ (1 : Int32).toInt ∧ (1 : Int32).toInt ≤ 1) from by (first | omega | (simp only [id_eq] at *; omega)))⟩⟩
        intro j160 Jj160
        refine wp_ite (fun c106 => ?_) (fun c106 => ?_)
        · have c106 := congrArg Int32.toInt c106
          exact Jj160 c102_g3 c102_g4 c102_g5 c102_g6 c47_g7 c47_g8 c47_F20 w100 hg26 hg27 hg28 hg29 hg17 hg18 hF25 (show (g 6).toInt ≤ c102_g6.toInt from by (first | omega | (simp only [id_eq] at *; omega)))
        · have c106 := z_ne c106
          refine wp_jn (fun j125 => wp (j125 ()) (Q_readListed g F p0)) ?_ ?_
          · show wp _ _
            show wp _ _
            obtain ⟨⟨r127, c127_g7, c127_g8⟩, hc127, hq127⟩ := ok_wrong (upd (upd (upd (upd (upd (upd g 3 c102_g3) 4 c102_g4) 5 c102_g5) 6 c102_g6) 7 c47_g7) 8 c47_g8) (upF (upF F 20 c47_F20) 21 w100) 1 (MInv_i hzg1 hzg2 hg26 hg27 hg28 hg29 hg17 hg18 hzg9 hzg23 hzg27 hzg30 hzg34 hzg36 hzg39 hzg44 hzg47 hzg48 hzg51 hzg56 hzg59 hzg62 hzg65 hzg66 hzg70 hzF11 hzF12 hzF13 hzF15 hzF19 hF25 hzF24 hzF25 hzF26 hzF33 hzF38 hzF41 hzF43 hzF45 hzF46 hzF50 hzF53 hzF54 hzLQ) (show 0 ≤ (1 : Int32).toInt ∧ (1 : Int32).toInt ≤ 4 from by (first | omega | (simp only [id_eq] at *; omega)))
            obtain ⟨hg44, hg45, f46, f47⟩ : (((0) ≤ c127_g7.toInt ∧ c127_g7.toInt ≤ 4)) ∧ (((-1) ≤ c127_g8.toInt ∧ c127_g8.toInt ≤ 2001)) ∧ (r127.toInt = 0) ∧ ((0 ≤ r127.toInt ∧ r127.toInt ≤ 1)) := hq127
            refine wp_b3 hc127 ?_
            clear hc127
            refine wp_if ⟨by (first | omega | (simp only [id_eq] at *; omega)), by (first | omega | (simp only [id_eq] at *; omega))⟩ ?_
            exact ⟨_, rfl, ⟨hg26, hg27, hg28, hg29, hg44, hg45, hzF13, hF25, (show (g 6).toInt ≤ c102_g6.toInt from by (first | omega | (simp only [id_eq] at *; omega))), (show (0 ≤ r127.toInt ∧ r127.toInt ≤ 1) from by (first | omega | (simp only [id_eq] at *; omega)))⟩⟩
          intro j125 Jj125
          refine wp_ite (fun c114 => ?_) (fun c114 => ?_)
          · have c114 := congrArg Int32.toInt c114
            refine wp_ite (fun c122 => ?_) (fun c122 => ?_)
            · have c122 := congrArg Int32.toInt c122
              obtain ⟨⟨c132_g3, c132_g4, c132_g5, c132_g6⟩, hc132, hq132⟩ := ok_scan (upd (upd (upd (upd (upd (upd g 3 c102_g3) 4 c102_g4) 5 c102_g5) 6 c102_g6) 7 c47_g7) 8 c47_g8) (upF (upF F 20 c47_F20) 21 w100) (MInv_i hzg1 hzg2 hg26 hg27 hg28 hg29 hg17 hg18 hzg9 hzg23 hzg27 hzg30 hzg34 hzg36 hzg39 hzg44 hzg47 hzg48 hzg51 hzg56 hzg59 hzg62 hzg65 hzg66 hzg70 hzF11 hzF12 hzF13 hzF15 hzF19 hF25 hzF24 hzF25 hzF26 hzF33 hzF38 hzF41 hzF43 hzF45 hzF46 hzF50 hzF53 hzF54 hzLQ)
              obtain ⟨hg48, hg49, hg50, hg51, f52, f53, f54⟩ : (((0) ≤ c132_g3.toInt ∧ c132_g3.toInt ≤ 4)) ∧ (((-1) ≤ c132_g4.toInt ∧ c132_g4.toInt ≤ 8)) ∧ (((0) ≤ c132_g5.toInt ∧ c132_g5.toInt ≤ 2001)) ∧ (((0) ≤ c132_g6.toInt ∧ c132_g6.toInt ≤ 2001)) ∧ (id (c132_g3.toInt = 2 → c132_g5.toInt + 2 ≤ c132_g6.toInt ∧ c132_g6.toInt ≤ c132_g5.toInt + 18 ∧ c132_g6.toInt ≤ 2000)) ∧ (id (c132_g3.toInt ≠ 4 → c102_g6.toInt < c132_g6.toInt)) ∧ (c102_g6.toInt ≤ c132_g6.toInt) := hq132
              refine wp_b4 hc132 ?_
              clear hc132
              obtain ⟨⟨r148, c148_g7, c148_g8, c148_F20, c148_F21⟩, hc148, hq148⟩ := ok_take (upd (upd (upd (upd (upd (upd g 3 c132_g3) 4 c132_g4) 5 c132_g5) 6 c132_g6) 7 c47_g7) 8 c47_g8) (upF (upF F 20 c47_F20) 21 w100) c47_F20 8960 w100 560 (x35 + 1) 0 (MInv_i hzg1 hzg2 hg48 hg49 hg50 hg51 hg17 hg18 hzg9 hzg23 hzg27 hzg30 hzg34 hzg36 hzg39 hzg44 hzg47 hzg48 hzg51 hzg56 hzg59 hzg62 hzg65 hzg66 hzg70 hzF11 hzF12 hzF13 hzF15 hzF19 hF25 hzF24 hzF25 hzF26 hzF33 hzF38 hzF41 hzF43 hzF45 hzF46 hzF50 hzF53 hzF54 hzLQ) hF25 (show (0 ≤ (x35 + 1).toInt ∧ (x35 + 1).toInt < 560) from by (first | omega | (simp only [id_eq] at *; omega))) (show 16 * 560 ≤ 8960 from by (first | omega | (simp only [id_eq] at *; omega))) (show 8960 ≤ 500000 from by (first | omega | (simp only [id_eq] at *; omega))) (show (c132_g3.toInt = 2 → c132_g5.toInt + 2 ≤ c132_g6.toInt ∧ c132_g6.toInt ≤ c132_g5.toInt + 18 ∧ c132_g6.toInt ≤ 2000) from by (first | omega | (simp only [id_eq] at *; omega)))
              obtain ⟨hg56, hg57, hg58, f59, f60, f61, f62⟩ : (((0) ≤ c148_g7.toInt ∧ c148_g7.toInt ≤ 4)) ∧ (((-1) ≤ c148_g8.toInt ∧ c148_g8.toInt ≤ 2001)) ∧ (rng (-1) 16 c148_F21) ∧ (id (r148.toInt = 1 → c132_g3.toInt = 2)) ∧ ((∀ k : Nat, (k : Int) ≠ (x35 + 1).toInt → c148_F21 k = w100 k)) ∧ (id (r148.toInt = 1 → (0 : Int32).toInt ≠ 0 → 1 ≤ (c148_F21 (Int32.toNatClampNeg (x35 + 1))).toInt)) ∧ ((0 ≤ r148.toInt ∧ r148.toInt ≤ 1)) := hq148
              refine wp_b5 hc148 ?_
              clear hc148
              refine wp_ite (fun c151 => ?_) (fun c151 => ?_)
              · have c151 := congrArg Int32.toInt c151
                exact ⟨_, rfl, ⟨hg48, hg49, hg50, hg51, hg56, hg57, hzF13, hg58, (show (g 6).toInt ≤ c132_g6.toInt from by (first | omega | (simp only [id_eq] at *; omega))), (show (0 ≤ (0 : Int32).toInt ∧ (0 : Int32).toInt ≤ 1) from by (first | omega | (simp only [id_eq] at *; omega)))⟩⟩
              · have c151 := z_ne c151
                obtain ⟨⟨c157_g3, c157_g4, c157_g5, c157_g6⟩, hc157, hq157⟩ := ok_scan (upd (upd (upd (upd (upd (upd g 3 c132_g3) 4 c132_g4) 5 c132_g5) 6 c132_g6) 7 c148_g7) 8 c148_g8) (upF (upF F 20 c148_F20) 21 c148_F21) (MInv_i hzg1 hzg2 hg48 hg49 hg50 hg51 hg56 hg57 hzg9 hzg23 hzg27 hzg30 hzg34 hzg36 hzg39 hzg44 hzg47 hzg48 hzg51 hzg56 hzg59 hzg62 hzg65 hzg66 hzg70 hzF11 hzF12 hzF13 hzF15 hzF19 hg58 hzF24 hzF25 hzF26 hzF33 hzF38 hzF41 hzF43 hzF45 hzF46 hzF50 hzF53 hzF54 hzLQ)
                obtain ⟨hg63, hg64, hg65, hg66, f67, f68, f69⟩ : (((0) ≤ c157_g3.toInt ∧ c157_g3.toInt ≤ 4)) ∧ (((-1) ≤ c157_g4.toInt ∧ c157_g4.toInt ≤ 8)) ∧ (((0) ≤ c157_g5.toInt ∧ c157_g5.toInt ≤ 2001)) ∧ (((0) ≤ c157_g6.toInt ∧ c157_g6.toInt ≤ 2001)) ∧ (id (c157_g3.toInt = 2 → c157_g5.toInt + 2 ≤ c157_g6.toInt ∧ c157_g6.toInt ≤ c157_g5.toInt + 18 ∧ c157_g6.toInt ≤ 2000)) ∧ (id (c157_g3.toInt ≠ 4 → c132_g6.toInt < c157_g6.toInt)) ∧ (c132_g6.toInt ≤ c157_g6.toInt) := hq157
                refine wp_b4 hc157 ?_
                clear hc157
                exact Jj160 c157_g3 c157_g4 c157_g5 c157_g6 c148_g7 c148_g8 c148_F20 c148_F21 hg63 hg64 hg65 hg66 hg56 hg57 hg58 (show (g 6).toInt ≤ c157_g6.toInt from by (first | omega | (simp only [id_eq] at *; omega)))
            · have c122 := z_ne c122
              exact Jj125
          · have c114 := z_ne c114
            exact Jj125
      intro k92 Jk92
      have lp59 : ∀ (n59 : Nat) (y59_3 : Int32), (561 - y59_3.toInt).toNat < n59 → (480 ≤ y59_3.toInt ∧ y59_3.toInt ≤ 561) → wp (L_readListed_59 g F c19_g3 c19_g4 c19_g5 c19_g6 x35 c47_g7 c47_g8 c47_F20 c47_F21 k92 n59 y59_3) (Q_readListed g F p0) := by
        intro n59
        induction n59 with
        | zero => intro y59_3 hm; exact absurd hm (Nat.not_lt_zero _)
        | succ n59 ih59 =>
          intro y59_3 hm59 f70
          show wp (B_readListed_59 g F c19_g3 c19_g4 c19_g5 c19_g6 x35 c47_g7 c47_g8 c47_F20 c47_F21 k92 (L_readListed_59 g F c19_g3 c19_g4 c19_g5 c19_g6 x35 c47_g7 c47_g8 c47_F20 c47_F21 k92 n59) y59_3) _
          unfold B_readListed_59
          refine wp_ite (fun c61 => ?_) (fun c61 => ?_)
          · have c61 := (z_le _ _).mp c61
            exact Jk92
          · have c61 := z_nle c61
            obtain ⟨r74, hc74, hq74⟩ := ok_same c47_F20 8960 c47_F21 560 y59_3 x35 hg19 (show (0 ≤ y59_3.toInt ∧ y59_3.toInt < 560) from by (first | omega | (simp only [id_eq] at *; omega))) (show 16 * 560 ≤ 8960 from by (first | omega | (simp only [id_eq] at *; omega))) (show 8960 ≤ 500000 from by (first | omega | (simp only [id_eq] at *; omega))) (show (0 ≤ x35.toInt ∧ x35.toInt < 560) from by (first | omega | (simp only [id_eq] at *; omega)))
            have f71 : (0 ≤ r74.toInt ∧ r74.toInt ≤ 1) := hq74
            refine wp_b1 hc74 ?_
            clear hc74
            refine wp_ite (fun c77 => ?_) (fun c77 => ?_)
            · have c77 := congrArg Int32.toInt c77
              have f72 : (y59_3 + 2).toInt = y59_3.toInt + (2) := z_addc (by decide +kernel) (by (first | omega | (simp only [id_eq] at *; omega))) (by (first | omega | (simp only [id_eq] at *; omega)))
              exact ih59 (y59_3 + 2) (show (561 - (y59_3 + 2).toInt).toNat < n59 from by (first | omega | (simp only [id_eq] at *; omega))) (show (480 ≤ (y59_3 + 2).toInt ∧ (y59_3 + 2).toInt ≤ 561) from by (first | omega | (simp only [id_eq] at *; omega)))
            · have c77 := z_ne c77
              obtain ⟨⟨r82, c82_g7, c82_g8⟩, hc82, hq82⟩ := ok_wrong (upd (upd (upd (upd (upd (upd g 3 c19_g3) 4 c19_g4) 5 c19_g5) 6 c19_g6) 7 c47_g7) 8 c47_g8) (upF (upF F 20 c47_F20) 21 c47_F21) 3 (MInv_i hzg1 hzg2 hg6 hg7 hg8 hg9 hg17 hg18 hzg9 hzg23 hzg27 hzg30 hzg34 hzg36 hzg39 hzg44 hzg47 hzg48 hzg51 hzg56 hzg59 hzg62 hzg65 hzg66 hzg70 hzF11 hzF12 hzF13 hzF15 hzF19 hg19 hzF24 hzF25 hzF26 hzF33 hzF38 hzF41 hzF43 hzF45 hzF46 hzF50 hzF53 hzF54 hzLQ) (show 0 ≤ (3 : Int32).toInt ∧ (3 : Int32).toInt ≤ 4 from by (first | omega | (simp only [id_eq] at *; omega)))
              obtain ⟨hg73, hg74, f75, f76⟩ : (((0) ≤ c82_g7.toInt ∧ c82_g7.toInt ≤ 4)) ∧ (((-1) ≤ c82_g8.toInt ∧ c82_g8.toInt ≤ 2001)) ∧ (r82.toInt = 0) ∧ ((0 ≤ r82.toInt ∧ r82.toInt ≤ 1)) := hq82
              refine wp_b3 hc82 ?_
              clear hc82
              refine wp_if ⟨by (first | omega | (simp only [id_eq] at *; omega)), by (first | omega | (simp only [id_eq] at *; omega))⟩ ?_
              exact ⟨_, rfl, ⟨hg6, hg7, hg8, hg9, hg73, hg74, hzF13, hg19, (show (g 6).toInt ≤ c19_g6.toInt from by (first | omega | (simp only [id_eq] at *; omega))), (show (0 ≤ r82.toInt ∧ r82.toInt ≤ 1) from by (first | omega | (simp only [id_eq] at *; omega)))⟩⟩
      exact lp59 NN (480 : Int32) (by have := NN_eq; (first | omega | (simp only [id_eq] at *; omega))) (show (480 ≤ (480 : Int32).toInt ∧ (480 : Int32).toInt ≤ 561) from by (first | omega | (simp only [id_eq] at *; omega)))
abbrev Q_readPart (g : Nat → Int32) (F : Nat → Nat → Int32) : (Int32 × Int32 × Int32 × Int32 × Int32 × Int32 × Int32 × (Nat → Int32) × (Nat → Int32) × (Nat → Int32)) → Prop := (fun t => (((0) ≤ (t.2.1).toInt ∧ (t.2.1).toInt ≤ 4)) ∧ (((-1) ≤ (t.2.2.1).toInt ∧ (t.2.2.1).toInt ≤ 8)) ∧ (((0) ≤ (t.2.2.2.1).toInt ∧ (t.2.2.2.1).toInt ≤ 2001)) ∧ (((0) ≤ (t.2.2.2.2.1).toInt ∧ (t.2.2.2.2.1).toInt ≤ 2001)) ∧ (((0) ≤ (t.2.2.2.2.2.1).toInt ∧ (t.2.2.2.2.2.1).toInt ≤ 4)) ∧ (((-1) ≤ (t.2.2.2.2.2.2.1).toInt ∧ (t.2.2.2.2.2.2.1).toInt ≤ 2001)) ∧ (rng (0) 40 (t.2.2.2.2.2.2.2.1)) ∧ (rng (-1) 16 (t.2.2.2.2.2.2.2.2.2)) ∧ ((g 6).toInt ≤ (t.2.2.2.2.1).toInt) ∧ ((0 ≤ (t.1).toInt ∧ (t.1).toInt ≤ 1)))
set_option maxHeartbeats 4000000 in
set_option maxRecDepth 100000 in
theorem ok_readPart (g : Nat → Int32) (F : Nat → Nat → Int32) (hI : MInv g F) : wp (f_readPart g F) (Q_readPart g F) := by
  unfold f_readPart
  refine MInv_e hI (fun (hzg1 : id _) (hzg2 : id _) hzg3 hzg4 hzg5 hzg6 (hzg7 : id _) (hzg8 : id _) (hzg9 : id _) (hzg23 : id _) (hzg27 : id _) (hzg30 : id _) (hzg34 : id _) (hzg36 : id _) (hzg39 : id _) (hzg44 : id _) (hzg47 : id _) (hzg48 : id _) (hzg51 : id _) (hzg56 : id _) (hzg59 : id _) (hzg62 : id _) (hzg65 : id _) (hzg66 : id _) (hzg70 : id _) hzF11 hzF12 hzF13 hzF15 hzF19 hzF21 hzF24 hzF25 hzF26 hzF33 hzF38 hzF41 hzF43 hzF45 hzF46 hzF50 hzF53 hzF54 hzLQ => ?_)
  clear hI
  have zk0 : (0 : Int32).toInt = 0 := by decide +kernel
  have zk1 : (1 : Int32).toInt = 1 := by decide +kernel
  have zk3 : (3 : Int32).toInt = 3 := by decide +kernel
  have zk4 : (4 : Int32).toInt = 4 := by decide +kernel
  have zk6 : (6 : Int32).toInt = 6 := by decide +kernel
  have zk40 : (40 : Int32).toInt = 40 := by decide +kernel
  have zk240 : (240 : Int32).toInt = 240 := by decide +kernel
  refine wp_if ⟨by (first | omega | (simp only [id_eq] at *; omega)), by (first | omega | (simp only [id_eq] at *; omega))⟩ ?_
  have f1 := hzF12 (Int32.toNatClampNeg (6 : Int32))
  refine wp_ite (fun c9 => ?_) (fun c9 => ?_)
  · have c9 := congrArg Int32.toInt c9
    obtain ⟨⟨r14, c14_g7, c14_g8⟩, hc14, hq14⟩ := ok_wrong g F 4 (MInv_i hzg1 hzg2 hzg3 hzg4 hzg5 hzg6 hzg7 hzg8 hzg9 hzg23 hzg27 hzg30 hzg34 hzg36 hzg39 hzg44 hzg47 hzg48 hzg51 hzg56 hzg59 hzg62 hzg65 hzg66 hzg70 hzF11 hzF12 hzF13 hzF15 hzF19 hzF21 hzF24 hzF25 hzF26 hzF33 hzF38 hzF41 hzF43 hzF45 hzF46 hzF50 hzF53 hzF54 hzLQ) (show 0 ≤ (4 : Int32).toInt ∧ (4 : Int32).toInt ≤ 4 from by (first | omega | (simp only [id_eq] at *; omega)))
    obtain ⟨hg2, hg3, f4, f5⟩ : (((0) ≤ c14_g7.toInt ∧ c14_g7.toInt ≤ 4)) ∧ (((-1) ≤ c14_g8.toInt ∧ c14_g8.toInt ≤ 2001)) ∧ (r14.toInt = 0) ∧ ((0 ≤ r14.toInt ∧ r14.toInt ≤ 1)) := hq14
    refine wp_b3 hc14 ?_
    clear hc14
    refine wp_if ⟨by (first | omega | (simp only [id_eq] at *; omega)), by (first | omega | (simp only [id_eq] at *; omega))⟩ ?_
    exact ⟨_, rfl, ⟨hzg3, hzg4, hzg5, hzg6, hg2, hg3, hzF12, hzF19, (show (g 6).toInt ≤ (g 6).toInt from by (first | omega | (simp only [id_eq] at *; omega))), (show (0 ≤ r14.toInt ∧ r14.toInt ≤ 1) from by (first | omega | (simp only [id_eq] at *; omega)))⟩⟩
  · have c9 := z_ne c9
    obtain ⟨⟨c19_g3, c19_g4, c19_g5, c19_g6⟩, hc19, hq19⟩ := ok_scan g F (MInv_i hzg1 hzg2 hzg3 hzg4 hzg5 hzg6 hzg7 hzg8 hzg9 hzg23 hzg27 hzg30 hzg34 hzg36 hzg39 hzg44 hzg47 hzg48 hzg51 hzg56 hzg59 hzg62 hzg65 hzg66 hzg70 hzF11 hzF12 hzF13 hzF15 hzF19 hzF21 hzF24 hzF25 hzF26 hzF33 hzF38 hzF41 hzF43 hzF45 hzF46 hzF50 hzF53 hzF54 hzLQ)
    obtain ⟨hg6, hg7, hg8, hg9, f10, f11, f12⟩ : (((0) ≤ c19_g3.toInt ∧ c19_g3.toInt ≤ 4)) ∧ (((-1) ≤ c19_g4.toInt ∧ c19_g4.toInt ≤ 8)) ∧ (((0) ≤ c19_g5.toInt ∧ c19_g5.toInt ≤ 2001)) ∧ (((0) ≤ c19_g6.toInt ∧ c19_g6.toInt ≤ 2001)) ∧ (id (c19_g3.toInt = 2 → c19_g5.toInt + 2 ≤ c19_g6.toInt ∧ c19_g6.toInt ≤ c19_g5.toInt + 18 ∧ c19_g6.toInt ≤ 2000)) ∧ (id (c19_g3.toInt ≠ 4 → (g 6).toInt < c19_g6.toInt)) ∧ ((g 6).toInt ≤ c19_g6.toInt) := hq19
    refine wp_b4 hc19 ?_
    clear hc19
    refine wp_if ⟨by (first | omega | (simp only [id_eq] at *; omega)), by (first | omega | (simp only [id_eq] at *; omega))⟩ ?_
    have f14 : (240 + ((F 12) (Int32.toNatClampNeg 6))).toInt = 240 + ((F 12) (Int32.toNatClampNeg 6)).toInt := z_addd (by decide +kernel) (by (first | omega | (simp only [id_eq] at *; omega))) (by (first | omega | (simp only [id_eq] at *; omega)))
    refine wp_vl (fun x33 ex33 => ?_)
    have f15 : x33.toInt = (240 + ((F 12) (Int32.toNatClampNeg 6))).toInt := congrArg Int32.toInt ex33
    clear ex33
    obtain ⟨⟨r45, c45_g7, c45_g8, c45_F18, c45_F19⟩, hc45, hq45⟩ := ok_take (upd (upd (upd (upd g 3 c19_g3) 4 c19_g4) 5 c19_g5) 6 c19_g6) F (F 18) 4480 (F 19) 280 x33 1 (MInv_i hzg1 hzg2 hg6 hg7 hg8 hg9 hzg7 hzg8 hzg9 hzg23 hzg27 hzg30 hzg34 hzg36 hzg39 hzg44 hzg47 hzg48 hzg51 hzg56 hzg59 hzg62 hzg65 hzg66 hzg70 hzF11 hzF12 hzF13 hzF15 hzF19 hzF21 hzF24 hzF25 hzF26 hzF33 hzF38 hzF41 hzF43 hzF45 hzF46 hzF50 hzF53 hzF54 hzLQ) hzF19 (show (0 ≤ x33.toInt ∧ x33.toInt < 280) from by (first | omega | (simp only [id_eq] at *; omega))) (show 16 * 280 ≤ 4480 from by (first | omega | (simp only [id_eq] at *; omega))) (show 4480 ≤ 500000 from by (first | omega | (simp only [id_eq] at *; omega))) (show (c19_g3.toInt = 2 → c19_g5.toInt + 2 ≤ c19_g6.toInt ∧ c19_g6.toInt ≤ c19_g5.toInt + 18 ∧ c19_g6.toInt ≤ 2000) from by (first | omega | (simp only [id_eq] at *; omega)))
    obtain ⟨hg16, hg17, hg18, f19, f20, f21, f22⟩ : (((0) ≤ c45_g7.toInt ∧ c45_g7.toInt ≤ 4)) ∧ (((-1) ≤ c45_g8.toInt ∧ c45_g8.toInt ≤ 2001)) ∧ (rng (-1) 16 c45_F19) ∧ (id (r45.toInt = 1 → c19_g3.toInt = 2)) ∧ ((∀ k : Nat, (k : Int) ≠ x33.toInt → c45_F19 k = (F 19) k)) ∧ (id (r45.toInt = 1 → (1 : Int32).toInt ≠ 0 → 1 ≤ (c45_F19 (Int32.toNatClampNeg x33)).toInt)) ∧ ((0 ≤ r45.toInt ∧ r45.toInt ≤ 1)) := hq45
    refine wp_b5 hc45 ?_
    clear hc45
    refine wp_ite (fun c48 => ?_) (fun c48 => ?_)
    · have c48 := congrArg Int32.toInt c48
      exact ⟨_, rfl, ⟨hg6, hg7, hg8, hg9, hg16, hg17, hzF12, hg18, (show (g 6).toInt ≤ c19_g6.toInt from by (first | omega | (simp only [id_eq] at *; omega))), (show (0 ≤ (0 : Int32).toInt ∧ (0 : Int32).toInt ≤ 1) from by (first | omega | (simp only [id_eq] at *; omega)))⟩⟩
    · have c48 := z_ne c48
      have lp57 : ∀ (n57 : Nat) (y57_2 : Int32), (280 - y57_2.toInt).toNat < n57 → (240 ≤ y57_2.toInt ∧ y57_2.toInt ≤ 280) → wp (L_readPart_57 g F c19_g3 c19_g4 c19_g5 c19_g6 x33 c45_g7 c45_g8 c45_F18 c45_F19 n57 y57_2) (Q_readPart g F) := by
        intro n57
        induction n57 with
        | zero => intro y57_2 hm; exact absurd hm (Nat.not_lt_zero _)
        | succ n57 ih57 =>
          intro y57_2 hm57 f23
          show wp (B_readPart_57 g F c19_g3 c19_g4 c19_g5 c19_g6 x33 c45_g7 c45_g8 c45_F18 c45_F19 (L_readPart_57 g F c19_g3 c19_g4 c19_g5 c19_g6 x33 c45_g7 c45_g8 c45_F18 c45_F19 n57) y57_2) _
          unfold B_readPart_57
          refine wp_ite (fun c59 => ?_) (fun c59 => ?_)
          · have c59 := (z_le _ _).mp c59
            refine wp_if ⟨by (first | omega | (simp only [id_eq] at *; omega)), by (first | omega | (simp only [id_eq] at *; omega))⟩ ?_
            have f25 : (((F 12) (Int32.toNatClampNeg 6)) + 1).toInt = ((F 12) (Int32.toNatClampNeg 6)).toInt + 1 := z_addc (by decide +kernel) (by (first | omega | (simp only [id_eq] at *; omega))) (by (first | omega | (simp only [id_eq] at *; omega)))
            refine wp_if ⟨by (first | omega | (simp only [id_eq] at *; omega)), by (first | omega | (simp only [id_eq] at *; omega))⟩ ?_
            refine wp_vl (fun w100 ew100 => ?_)
            have hF26 : rng (0) 40 w100 := by rw [ew100]; exact rng_upd hzF12 (by (first | omega | (simp only [id_eq] at *; omega))) (by (first | omega | (simp only [id_eq] at *; omega)))
            clear ew100
            obtain ⟨⟨c102_g3, c102_g4, c102_g5, c102_g6⟩, hc102, hq102⟩ := ok_scan (upd (upd (upd (upd (upd (upd g 3 c19_g3) 4 c19_g4) 5 c19_g5) 6 c19_g6) 7 c45_g7) 8 c45_g8) (upF (upF (upF F 12 w100) 18 c45_F18) 19 c45_F19) (MInv_i hzg1 hzg2 hg6 hg7 hg8 hg9 hg16 hg17 hzg9 hzg23 hzg27 hzg30 hzg34 hzg36 hzg39 hzg44 hzg47 hzg48 hzg51 hzg56 hzg59 hzg62 hzg65 hzg66 hzg70 hzF11 hF26 hzF13 hzF15 hg18 hzF21 hzF24 hzF25 hzF26 hzF33 hzF38 hzF41 hzF43 hzF45 hzF46 hzF50 hzF53 hzF54 hzLQ)
            obtain ⟨hg27, hg28, hg29, hg30, f31, f32, f33⟩ : (((0) ≤ c102_g3.toInt ∧ c102_g3.toInt ≤ 4)) ∧ (((-1) ≤ c102_g4.toInt ∧ c102_g4.toInt ≤ 8)) ∧ (((0) ≤ c102_g5.toInt ∧ c102_g5.toInt ≤ 2001)) ∧ (((0) ≤ c102_g6.toInt ∧ c102_g6.toInt ≤ 2001)) ∧ (id (c102_g3.toInt = 2 → c102_g5.toInt + 2 ≤ c102_g6.toInt ∧ c102_g6.toInt ≤ c102_g5.toInt + 18 ∧ c102_g6.toInt ≤ 2000)) ∧ (id (c102_g3.toInt ≠ 4 → c19_g6.toInt < c102_g6.toInt)) ∧ (c19_g6.toInt ≤ c102_g6.toInt) := hq102
            refine wp_b4 hc102 ?_
            clear hc102
            exact ⟨_, rfl, ⟨hg27, hg28, hg29, hg30, hg16, hg17, hF26, hg18, (show (g 6).toInt ≤ c102_g6.toInt from by (first | omega | (simp only [id_eq] at *; omega))), (show (0 ≤ (1 : Int32).toInt ∧ (1 : Int32).toInt ≤ 1) from by (first | omega | (simp only [id_eq] at *; omega)))⟩⟩
          · have c59 := z_nle c59
            obtain ⟨r72, hc72, hq72⟩ := ok_same c45_F18 4480 c45_F19 280 y57_2 x33 hg18 (show (0 ≤ y57_2.toInt ∧ y57_2.toInt < 280) from by (first | omega | (simp only [id_eq] at *; omega))) (show 16 * 280 ≤ 4480 from by (first | omega | (simp only [id_eq] at *; omega))) (show 4480 ≤ 500000 from by (first | omega | (simp only [id_eq] at *; omega))) (show (0 ≤ x33.toInt ∧ x33.toInt < 280) from by (first | omega | (simp only [id_eq] at *; omega)))
            have f34 : (0 ≤ r72.toInt ∧ r72.toInt ≤ 1) := hq72
            refine wp_b1 hc72 ?_
            clear hc72
            refine wp_ite (fun c75 => ?_) (fun c75 => ?_)
            · have c75 := congrArg Int32.toInt c75
              have f35 : (y57_2 + 1).toInt = y57_2.toInt + (1) := z_addc (by decide +kernel) (by (first | omega | (simp only [id_eq] at *; omega))) (by (first | omega | (simp only [id_eq] at *; omega)))
              exact ih57 (y57_2 + 1) (show (280 - (y57_2 + 1).toInt).toNat < n57 from by (first | omega | (simp only [id_eq] at *; omega))) (show (240 ≤ (y57_2 + 1).toInt ∧ (y57_2 + 1).toInt ≤ 280) from by (first | omega | (simp only [id_eq] at *; omega)))
            · have c75 := z_ne c75
              obtain ⟨⟨r80, c80_g7, c80_g8⟩, hc80, hq80⟩ := ok_wrong (upd (upd (upd (upd (upd (upd g 3 c19_g3) 4 c19_g4) 5 c19_g5) 6 c19_g6) 7 c45_g7) 8 c45_g8) (upF (upF F 18 c45_F18) 19 c45_F19) 3 (MInv_i hzg1 hzg2 hg6 hg7 hg8 hg9 hg16 hg17 hzg9 hzg23 hzg27 hzg30 hzg34 hzg36 hzg39 hzg44 hzg47 hzg48 hzg51 hzg56 hzg59 hzg62 hzg65 hzg66 hzg70 hzF11 hzF12 hzF13 hzF15 hg18 hzF21 hzF24 hzF25 hzF26 hzF33 hzF38 hzF41 hzF43 hzF45 hzF46 hzF50 hzF53 hzF54 hzLQ) (show 0 ≤ (3 : Int32).toInt ∧ (3 : Int32).toInt ≤ 4 from by (first | omega | (simp only [id_eq] at *; omega)))
              obtain ⟨hg36, hg37, f38, f39⟩ : (((0) ≤ c80_g7.toInt ∧ c80_g7.toInt ≤ 4)) ∧ (((-1) ≤ c80_g8.toInt ∧ c80_g8.toInt ≤ 2001)) ∧ (r80.toInt = 0) ∧ ((0 ≤ r80.toInt ∧ r80.toInt ≤ 1)) := hq80
              refine wp_b3 hc80 ?_
              clear hc80
              refine wp_if ⟨by (first | omega | (simp only [id_eq] at *; omega)), by (first | omega | (simp only [id_eq] at *; omega))⟩ ?_
              exact ⟨_, rfl, ⟨hg6, hg7, hg8, hg9, hg36, hg37, hzF12, hg18, (show (g 6).toInt ≤ c19_g6.toInt from by (first | omega | (simp only [id_eq] at *; omega))), (show (0 ≤ r80.toInt ∧ r80.toInt ≤ 1) from by (first | omega | (simp only [id_eq] at *; omega)))⟩⟩
      exact lp57 NN (240 : Int32) (by have := NN_eq; (first | omega | (simp only [id_eq] at *; omega))) (show (240 ≤ (240 : Int32).toInt ∧ (240 : Int32).toInt ≤ 280) from by (first | omega | (simp only [id_eq] at *; omega)))
