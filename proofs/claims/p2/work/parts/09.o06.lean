abbrev Q_readListed (g : Nat → Int32) (F : Nat → Nat → Int32) (p0 : Int32) : (Int32 × Int32 × Int32 × Int32 × Int32 × Int32 × Int32 × (Nat → Int32) × (Nat → Int32) × (Nat → Int32)) → Prop := (fun t => (((0) ≤ (t.2.1).toInt ∧ (t.2.1).toInt ≤ 4)) ∧ (((-1) ≤ (t.2.2.1).toInt ∧ (t.2.2.1).toInt ≤ 8)) ∧ (((0) ≤ (t.2.2.2.1).toInt ∧ (t.2.2.2.1).toInt ≤ 2001)) ∧ (((0) ≤ (t.2.2.2.2.1).toInt ∧ (t.2.2.2.2.1).toInt ≤ 2001)) ∧ (((0) ≤ (t.2.2.2.2.2.1).toInt ∧ (t.2.2.2.2.2.1).toInt ≤ 4)) ∧ (((-1) ≤ (t.2.2.2.2.2.2.1).toInt ∧ (t.2.2.2.2.2.2.1).toInt ≤ 2001)) ∧ (rng (0) 40 (t.2.2.2.2.2.2.2.1)) ∧ (rng (-1) 16 (t.2.2.2.2.2.2.2.2.2)) ∧ ((g 6).toInt ≤ (t.2.2.2.2.1).toInt) ∧ ((0 ≤ (t.1).toInt ∧ (t.1).toInt ≤ 1)))
set_option maxHeartbeats 4000000 in
set_option maxRecDepth 100000 in
theorem ok_readListed (g : Nat → Int32) (F : Nat → Nat → Int32) (p0 : Int32) (hI : MInv g F) : wp (f_readListed g F p0) (Q_readListed g F p0) := by
  unfold f_readListed
  obtain ⟨hzg1, hzg2, hzg3, hzg4, hzg5, hzg6, hzg7, hzg8, hzg9, hzg23, hzg27, hzg30, hzg34, hzg36, hzg39, hzg44, hzg47, hzg48, hzg51, hzg56, hzg59, hzg62, hzg65, hzg66, hzg70, hzF11, hzF12, hzF13, hzF15, hzF19, hzF21, hzF24, hzF25, hzF26, hzF33, hzF38, hzF41, hzF43, hzF45, hzF46, hzF50, hzF53, hzF54, hzLQ⟩ := hI
  have zkm1 : (-1 : Int32).toInt = -1 := by decide +kernel
  have zk0 : (0 : Int32).toInt = 0 := by decide +kernel
  have zk1 : (1 : Int32).toInt = 1 := by decide +kernel
  have zk2 : (2 : Int32).toInt = 2 := by decide +kernel
  have zk3 : (3 : Int32).toInt = 3 := by decide +kernel
  have zk4 : (4 : Int32).toInt = 4 := by decide +kernel
  have zk6 : (6 : Int32).toInt = 6 := by decide +kernel
  have zk40 : (40 : Int32).toInt = 40 := by decide +kernel
  have zk240 : (240 : Int32).toInt = 240 := by decide +kernel
  have zk480 : (480 : Int32).toInt = 480 := by decide +kernel
  refine wp_if ⟨by omega, by omega⟩ ?_
  have f1 := hzF13 (Int32.toNatClampNeg (6 : Int32))
  refine wp_ite (fun c9 => ?_) (fun c9 => ?_)
  · have c9 := congrArg Int32.toInt c9
    obtain ⟨⟨r14, c14_g7, c14_g8⟩, hc14, hq14⟩ := ok_wrong g F 4 ⟨hzg1, hzg2, hzg3, hzg4, hzg5, hzg6, hzg7, hzg8, hzg9, hzg23, hzg27, hzg30, hzg34, hzg36, hzg39, hzg44, hzg47, hzg48, hzg51, hzg56, hzg59, hzg62, hzg65, hzg66, hzg70, hzF11, hzF12, hzF13, hzF15, hzF19, hzF21, hzF24, hzF25, hzF26, hzF33, hzF38, hzF41, hzF43, hzF45, hzF46, hzF50, hzF53, hzF54, hzLQ⟩ (show 0 ≤ (4 : Int32).toInt ∧ (4 : Int32).toInt ≤ 4 from by omega)
    obtain ⟨hg2, hg3, f4, f5⟩ : (((0) ≤ c14_g7.toInt ∧ c14_g7.toInt ≤ 4)) ∧ (((-1) ≤ c14_g8.toInt ∧ c14_g8.toInt ≤ 2001)) ∧ (r14.toInt = 0) ∧ ((0 ≤ r14.toInt ∧ r14.toInt ≤ 1)) := hq14
    refine wp_b3 hc14 ?_
    clear hc14
    refine wp_if ⟨by omega, by omega⟩ ?_
    exact ⟨_, rfl, ⟨hzg3, hzg4, hzg5, hzg6, hg2, hg3, hzF13, hzF21, (show (g 6).toInt ≤ (g 6).toInt from by omega), (show (0 ≤ r14.toInt ∧ r14.toInt ≤ 1) from by omega)⟩⟩
  · have c9 := z_ne c9
    obtain ⟨⟨c19_g3, c19_g4, c19_g5, c19_g6⟩, hc19, hq19⟩ := ok_scan g F ⟨hzg1, hzg2, hzg3, hzg4, hzg5, hzg6, hzg7, hzg8, hzg9, hzg23, hzg27, hzg30, hzg34, hzg36, hzg39, hzg44, hzg47, hzg48, hzg51, hzg56, hzg59, hzg62, hzg65, hzg66, hzg70, hzF11, hzF12, hzF13, hzF15, hzF19, hzF21, hzF24, hzF25, hzF26, hzF33, hzF38, hzF41, hzF43, hzF45, hzF46, hzF50, hzF53, hzF54, hzLQ⟩
    obtain ⟨hg6, hg7, hg8, hg9, f10, f11, f12⟩ : (((0) ≤ c19_g3.toInt ∧ c19_g3.toInt ≤ 4)) ∧ (((-1) ≤ c19_g4.toInt ∧ c19_g4.toInt ≤ 8)) ∧ (((0) ≤ c19_g5.toInt ∧ c19_g5.toInt ≤ 2001)) ∧ (((0) ≤ c19_g6.toInt ∧ c19_g6.toInt ≤ 2001)) ∧ ((c19_g3.toInt = 2 → c19_g5.toInt + 2 ≤ c19_g6.toInt ∧ c19_g6.toInt ≤ c19_g5.toInt + 18 ∧ c19_g6.toInt ≤ 2000)) ∧ ((c19_g3.toInt ≠ 4 → (g 6).toInt < c19_g6.toInt)) ∧ ((g 6).toInt ≤ c19_g6.toInt) := hq19
    refine wp_b4 hc19 ?_
    clear hc19
    refine wp_if ⟨by omega, by omega⟩ ?_
    have f14 : (240 + ((F 13) (Int32.toNatClampNeg 6))).toInt = 240 + ((F 13) (Int32.toNatClampNeg 6)).toInt := z_addd (by decide +kernel) (by omega) (by omega)
    have f15 : (2 * (240 + ((F 13) (Int32.toNatClampNeg 6)))).toInt = 2 * (240 + ((F 13) (Int32.toNatClampNeg 6))).toInt := z_muld (by decide +kernel) (by omega) (by omega)
    refine wp_vl (fun x35 ex35 => ?_)
    have f16 : x35.toInt = (2 * (240 + ((F 13) (Int32.toNatClampNeg 6)))).toInt := congrArg Int32.toInt ex35
    clear ex35
    obtain ⟨⟨r47, c47_g7, c47_g8, c47_F20, c47_F21⟩, hc47, hq47⟩ := ok_take (upd (upd (upd (upd g 3 c19_g3) 4 c19_g4) 5 c19_g5) 6 c19_g6) F (F 20) 8960 (F 21) 560 x35 1 ⟨hzg1, hzg2, hg6, hg7, hg8, hg9, hzg7, hzg8, hzg9, hzg23, hzg27, hzg30, hzg34, hzg36, hzg39, hzg44, hzg47, hzg48, hzg51, hzg56, hzg59, hzg62, hzg65, hzg66, hzg70, hzF11, hzF12, hzF13, hzF15, hzF19, hzF21, hzF24, hzF25, hzF26, hzF33, hzF38, hzF41, hzF43, hzF45, hzF46, hzF50, hzF53, hzF54, hzLQ⟩ hzF21 (show (0 ≤ x35.toInt ∧ x35.toInt < 560) from by omega) (show 16 * 560 ≤ 8960 from by omega) (show 8960 ≤ 500000 from by omega) (show (c19_g3.toInt = 2 → c19_g5.toInt + 2 ≤ c19_g6.toInt ∧ c19_g6.toInt ≤ c19_g5.toInt + 18 ∧ c19_g6.toInt ≤ 2000) from by omega)
    obtain ⟨hg17, hg18, hg19, f20, f21, f22, f23⟩ : (((0) ≤ c47_g7.toInt ∧ c47_g7.toInt ≤ 4)) ∧ (((-1) ≤ c47_g8.toInt ∧ c47_g8.toInt ≤ 2001)) ∧ (rng (-1) 16 c47_F21) ∧ ((r47.toInt = 1 → c19_g3.toInt = 2)) ∧ ((∀ k : Nat, (k : Int) ≠ x35.toInt → c47_F21 k = (F 21) k)) ∧ ((r47.toInt = 1 → (1 : Int32).toInt ≠ 0 → 1 ≤ (c47_F21 (Int32.toNatClampNeg x35)).toInt)) ∧ ((0 ≤ r47.toInt ∧ r47.toInt ≤ 1)) := hq47
    refine wp_b5 hc47 ?_
    clear hc47
    refine wp_ite (fun c50 => ?_) (fun c50 => ?_)
    · have c50 := congrArg Int32.toInt c50
      exact ⟨_, rfl, ⟨hg6, hg7, hg8, hg9, hg17, hg18, hzF13, hg19, (show (g 6).toInt ≤ c19_g6.toInt from by omega), (show (0 ≤ (0 : Int32).toInt ∧ (0 : Int32).toInt ≤ 1) from by omega)⟩⟩
    · have c50 := z_ne c50
      refine wp_jn (fun k92 => wp (k92 ()) (Q_readListed g F p0)) ?_ ?_
      · show wp _ _
        show wp _ _
        have f24 : (x35 + 1).toInt = x35.toInt + 1 := z_addc (by decide +kernel) (by omega) (by omega)
        refine wp_if ⟨by omega, by omega⟩ ?_
        refine wp_vl (fun w100 ew100 => ?_)
        have hF25 : rng (-1) 16 w100 := by rw [ew100]; exact rng_upd hg19 (by omega) (by omega)
        clear ew100
        obtain ⟨⟨c102_g3, c102_g4, c102_g5, c102_g6⟩, hc102, hq102⟩ := ok_scan (upd (upd (upd (upd (upd (upd g 3 c19_g3) 4 c19_g4) 5 c19_g5) 6 c19_g6) 7 c47_g7) 8 c47_g8) (upF (upF F 20 c47_F20) 21 w100) ⟨hzg1, hzg2, hg6, hg7, hg8, hg9, hg17, hg18, hzg9, hzg23, hzg27, hzg30, hzg34, hzg36, hzg39, hzg44, hzg47, hzg48, hzg51, hzg56, hzg59, hzg62, hzg65, hzg66, hzg70, hzF11, hzF12, hzF13, hzF15, hzF19, hF25, hzF24, hzF25, hzF26, hzF33, hzF38, hzF41, hzF43, hzF45, hzF46, hzF50, hzF53, hzF54, hzLQ⟩
        obtain ⟨hg26, hg27, hg28, hg29, f30, f31, f32⟩ : (((0) ≤ c102_g3.toInt ∧ c102_g3.toInt ≤ 4)) ∧ (((-1) ≤ c102_g4.toInt ∧ c102_g4.toInt ≤ 8)) ∧ (((0) ≤ c102_g5.toInt ∧ c102_g5.toInt ≤ 2001)) ∧ (((0) ≤ c102_g6.toInt ∧ c102_g6.toInt ≤ 2001)) ∧ ((c102_g3.toInt = 2 → c102_g5.toInt + 2 ≤ c102_g6.toInt ∧ c102_g6.toInt ≤ c102_g5.toInt + 18 ∧ c102_g6.toInt ≤ 2000)) ∧ ((c102_g3.toInt ≠ 4 → c19_g6.toInt < c102_g6.toInt)) ∧ (c19_g6.toInt ≤ c102_g6.toInt) := hq102
        refine wp_b4 hc102 ?_
        clear hc102
        refine wp_jn (fun j160 => ∀ (c160_g3 : Int32) (c160_g4 : Int32) (c160_g5 : Int32) (c160_g6 : Int32) (c160_g7 : Int32) (c160_g8 : Int32) (c160_F20 : (Nat → Int32)) (c160_F21 : (Nat → Int32)), ((0) ≤ c160_g3.toInt ∧ c160_g3.toInt ≤ 4) → ((-1) ≤ c160_g4.toInt ∧ c160_g4.toInt ≤ 8) → ((0) ≤ c160_g5.toInt ∧ c160_g5.toInt ≤ 2001) → ((0) ≤ c160_g6.toInt ∧ c160_g6.toInt ≤ 2001) → ((0) ≤ c160_g7.toInt ∧ c160_g7.toInt ≤ 4) → ((-1) ≤ c160_g8.toInt ∧ c160_g8.toInt ≤ 2001) → rng (-1) 16 c160_F21 → (g 6).toInt ≤ c160_g6.toInt → wp (j160 c160_g3 c160_g4 c160_g5 c160_g6 c160_g7 c160_g8 c160_F20 c160_F21) (Q_readListed g F p0)) ?_ ?_
        · intro c160_g3 c160_g4 c160_g5 c160_g6 c160_g7 c160_g8 c160_F20 c160_F21 hg33 hg34 hg35 hg36 hg37 hg38 hg39 f40
          show wp _ _
          refine wp_if ⟨by omega, by omega⟩ ?_
          have f42 : (((F 13) (Int32.toNatClampNeg 6)) + 1).toInt = ((F 13) (Int32.toNatClampNeg 6)).toInt + 1 := z_addc (by decide +kernel) (by omega) (by omega)
          refine wp_if ⟨by omega, by omega⟩ ?_
          refine wp_vl (fun w170 ew170 => ?_)
          have hF43 : rng (0) 40 w170 := by rw [ew170]; exact rng_upd hzF13 (by omega) (by omega)
          clear ew170
          exact ⟨_, rfl, ⟨hg33, hg34, hg35, hg36, hg37, hg38, hF43, hg39, (show (g 6).toInt ≤ c160_g6.toInt from by omega), (show (0 ≤ (1 : Int32).toInt ∧ (1 : Int32).toInt ≤ 1) from by omega)⟩⟩
        intro j160 Jj160
        refine wp_ite (fun c106 => ?_) (fun c106 => ?_)
        · have c106 := congrArg Int32.toInt c106
          exact Jj160 c102_g3 c102_g4 c102_g5 c102_g6 c47_g7 c47_g8 c47_F20 w100 hg26 hg27 hg28 hg29 hg17 hg18 hF25 (show (g 6).toInt ≤ c102_g6.toInt from by omega)
        · have c106 := z_ne c106
          refine wp_jn (fun j125 => wp (j125 ()) (Q_readListed g F p0)) ?_ ?_
          · show wp _ _
            show wp _ _
            obtain ⟨⟨r127, c127_g7, c127_g8⟩, hc127, hq127⟩ := ok_wrong (upd (upd (upd (upd (upd (upd g 3 c102_g3) 4 c102_g4) 5 c102_g5) 6 c102_g6) 7 c47_g7) 8 c47_g8) (upF (upF F 20 c47_F20) 21 w100) 1 ⟨hzg1, hzg2, hg26, hg27, hg28, hg29, hg17, hg18, hzg9, hzg23, hzg27, hzg30, hzg34, hzg36, hzg39, hzg44, hzg47, hzg48, hzg51, hzg56, hzg59, hzg62, hzg65, hzg66, hzg70, hzF11, hzF12, hzF13, hzF15, hzF19, hF25, hzF24, hzF25, hzF26, hzF33, hzF38, hzF41, hzF43, hzF45, hzF46, hzF50, hzF53, hzF54, hzLQ⟩ (show 0 ≤ (1 : Int32).toInt ∧ (1 : Int32).toInt ≤ 4 from by omega)
            obtain ⟨hg44, hg45, f46, f47⟩ : (((0) ≤ c127_g7.toInt ∧ c127_g7.toInt ≤ 4)) ∧ (((-1) ≤ c127_g8.toInt ∧ c127_g8.toInt ≤ 2001)) ∧ (r127.toInt = 0) ∧ ((0 ≤ r127.toInt ∧ r127.toInt ≤ 1)) := hq127
            refine wp_b3 hc127 ?_
            clear hc127
            refine wp_if ⟨by omega, by omega⟩ ?_
            exact ⟨_, rfl, ⟨hg26, hg27, hg28, hg29, hg44, hg45, hzF13, hF25, (show (g 6).toInt ≤ c102_g6.toInt from by omega), (show (0 ≤ r127.toInt ∧ r127.toInt ≤ 1) from by omega)⟩⟩
          intro j125 Jj125
          refine wp_ite (fun c114 => ?_) (fun c114 => ?_)
          · have c114 := congrArg Int32.toInt c114
            refine wp_ite (fun c122 => ?_) (fun c122 => ?_)
            · have c122 := congrArg Int32.toInt c122
              obtain ⟨⟨c132_g3, c132_g4, c132_g5, c132_g6⟩, hc132, hq132⟩ := ok_scan (upd (upd (upd (upd (upd (upd g 3 c102_g3) 4 c102_g4) 5 c102_g5) 6 c102_g6) 7 c47_g7) 8 c47_g8) (upF (upF F 20 c47_F20) 21 w100) ⟨hzg1, hzg2, hg26, hg27, hg28, hg29, hg17, hg18, hzg9, hzg23, hzg27, hzg30, hzg34, hzg36, hzg39, hzg44, hzg47, hzg48, hzg51, hzg56, hzg59, hzg62, hzg65, hzg66, hzg70, hzF11, hzF12, hzF13, hzF15, hzF19, hF25, hzF24, hzF25, hzF26, hzF33, hzF38, hzF41, hzF43, hzF45, hzF46, hzF50, hzF53, hzF54, hzLQ⟩
              obtain ⟨hg48, hg49, hg50, hg51, f52, f53, f54⟩ : (((0) ≤ c132_g3.toInt ∧ c132_g3.toInt ≤ 4)) ∧ (((-1) ≤ c132_g4.toInt ∧ c132_g4.toInt ≤ 8)) ∧ (((0) ≤ c132_g5.toInt ∧ c132_g5.toInt ≤ 2001)) ∧ (((0) ≤ c132_g6.toInt ∧ c132_g6.toInt ≤ 2001)) ∧ ((c132_g3.toInt = 2 → c132_g5.toInt + 2 ≤ c132_g6.toInt ∧ c132_g6.toInt ≤ c132_g5.toInt + 18 ∧ c132_g6.toInt ≤ 2000)) ∧ ((c132_g3.toInt ≠ 4 → c102_g6.toInt < c132_g6.toInt)) ∧ (c102_g6.toInt ≤ c132_g6.toInt) := hq132
              refine wp_b4 hc132 ?_
              clear hc132
              obtain ⟨⟨r148, c148_g7, c148_g8, c148_F20, c148_F21⟩, hc148, hq148⟩ := ok_take (upd (upd (upd (upd (upd (upd g 3 c132_g3) 4 c132_g4) 5 c132_g5) 6 c132_g6) 7 c47_g7) 8 c47_g8) (upF (upF F 20 c47_F20) 21 w100) c47_F20 8960 w100 560 (x35 + 1) 0 ⟨hzg1, hzg2, hg48, hg49, hg50, hg51, hg17, hg18, hzg9, hzg23, hzg27, hzg30, hzg34, hzg36, hzg39, hzg44, hzg47, hzg48, hzg51, hzg56, hzg59, hzg62, hzg65, hzg66, hzg70, hzF11, hzF12, hzF13, hzF15, hzF19, hF25, hzF24, hzF25, hzF26, hzF33, hzF38, hzF41, hzF43, hzF45, hzF46, hzF50, hzF53, hzF54, hzLQ⟩ hF25 (show (0 ≤ (x35 + 1).toInt ∧ (x35 + 1).toInt < 560) from by omega) (show 16 * 560 ≤ 8960 from by omega) (show 8960 ≤ 500000 from by omega) (show (c132_g3.toInt = 2 → c132_g5.toInt + 2 ≤ c132_g6.toInt ∧ c132_g6.toInt ≤ c132_g5.toInt + 18 ∧ c132_g6.toInt ≤ 2000) from by omega)
              obtain ⟨hg56, hg57, hg58, f59, f60, f61, f62⟩ : (((0) ≤ c148_g7.toInt ∧ c148_g7.toInt ≤ 4)) ∧ (((-1) ≤ c148_g8.toInt ∧ c148_g8.toInt ≤ 2001)) ∧ (rng (-1) 16 c148_F21) ∧ ((r148.toInt = 1 → c132_g3.toInt = 2)) ∧ ((∀ k : Nat, (k : Int) ≠ (x35 + 1).toInt → c148_F21 k = w100 k)) ∧ ((r148.toInt = 1 → (0 : Int32).toInt ≠ 0 → 1 ≤ (c148_F21 (Int32.toNatClampNeg (x35 + 1))).toInt)) ∧ ((0 ≤ r148.toInt ∧ r148.toInt ≤ 1)) := hq148
              refine wp_b5 hc148 ?_
              clear hc148
              refine wp_ite (fun c151 => ?_) (fun c151 => ?_)
              · have c151 := congrArg Int32.toInt c151
                exact ⟨_, rfl, ⟨hg48, hg49, hg50, hg51, hg56, hg57, hzF13, hg58, (show (g 6).toInt ≤ c132_g6.toInt from by omega), (show (0 ≤ (0 : Int32).toInt ∧ (0 : Int32).toInt ≤ 1) from by omega)⟩⟩
              · have c151 := z_ne c151
                obtain ⟨⟨c157_g3, c157_g4, c157_g5, c157_g6⟩, hc157, hq157⟩ := ok_scan (upd (upd (upd (upd (upd (upd g 3 c132_g3) 4 c132_g4) 5 c132_g5) 6 c132_g6) 7 c148_g7) 8 c148_g8) (upF (upF F 20 c148_F20) 21 c148_F21) ⟨hzg1, hzg2, hg48, hg49, hg50, hg51, hg56, hg57, hzg9, hzg23, hzg27, hzg30, hzg34, hzg36, hzg39, hzg44, hzg47, hzg48, hzg51, hzg56, hzg59, hzg62, hzg65, hzg66, hzg70, hzF11, hzF12, hzF13, hzF15, hzF19, hg58, hzF24, hzF25, hzF26, hzF33, hzF38, hzF41, hzF43, hzF45, hzF46, hzF50, hzF53, hzF54, hzLQ⟩
                obtain ⟨hg63, hg64, hg65, hg66, f67, f68, f69⟩ : (((0) ≤ c157_g3.toInt ∧ c157_g3.toInt ≤ 4)) ∧ (((-1) ≤ c157_g4.toInt ∧ c157_g4.toInt ≤ 8)) ∧ (((0) ≤ c157_g5.toInt ∧ c157_g5.toInt ≤ 2001)) ∧ (((0) ≤ c157_g6.toInt ∧ c157_g6.toInt ≤ 2001)) ∧ ((c157_g3.toInt = 2 → c157_g5.toInt + 2 ≤ c157_g6.toInt ∧ c157_g6.toInt ≤ c157_g5.toInt + 18 ∧ c157_g6.toInt ≤ 2000)) ∧ ((c157_g3.toInt ≠ 4 → c132_g6.toInt < c157_g6.toInt)) ∧ (c132_g6.toInt ≤ c157_g6.toInt) := hq157
                refine wp_b4 hc157 ?_
                clear hc157
                exact Jj160 c157_g3 c157_g4 c157_g5 c157_g6 c148_g7 c148_g8 c148_F20 c148_F21 hg63 hg64 hg65 hg66 hg56 hg57 hg58 (show (g 6).toInt ≤ c157_g6.toInt from by omega)
            · have c122 := z_ne c122
              exact Jj125
          · have c114 := z_ne c114
            exact Jj125
      intro k92 Jk92
      have lp59 : ∀ (n59 : Nat) (y59_3 : Int32), (561 - y59_3.toInt).toNat < n59 → (480 ≤ y59_3.toInt ∧ y59_3.toInt ≤ 561) → wp (L_readListed_59 g F c19_g3 c19_g4 c19_g5 c19_g6 x35 c47_g7 c47_g8 c47_F20 c47_F21 k92 n59 y59_3) (Q_readListed g F p0) := by
        intro n59
        induction n59 with
        | zero => intro y59_3 hm; exact absurd hm (Nat.not_lt_zero _)
        | succ n59 ih59 =>
          intro y59_3 hm59 f70
          show wp (B_readListed_59 g F c19_g3 c19_g4 c19_g5 c19_g6 x35 c47_g7 c47_g8 c47_F20 c47_F21 k92 (L_readListed_59 g F c19_g3 c19_g4 c19_g5 c19_g6 x35 c47_g7 c47_g8 c47_F20 c47_F21 k92 n59) y59_3) _
          unfold B_readListed_59
          refine wp_ite (fun c61 => ?_) (fun c61 => ?_)
          · have c61 := (z_le _ _).mp c61
            exact Jk92
          · have c61 := z_nle c61
            obtain ⟨r74, hc74, hq74⟩ := ok_same c47_F20 8960 c47_F21 560 y59_3 x35 hg19 (show (0 ≤ y59_3.toInt ∧ y59_3.toInt < 560) from by omega) (show 16 * 560 ≤ 8960 from by omega) (show 8960 ≤ 500000 from by omega) (show (0 ≤ x35.toInt ∧ x35.toInt < 560) from by omega)
            have f71 : (0 ≤ r74.toInt ∧ r74.toInt ≤ 1) := hq74
            refine wp_b1 hc74 ?_
            clear hc74
            refine wp_ite (fun c77 => ?_) (fun c77 => ?_)
            · have c77 := congrArg Int32.toInt c77
              have f72 : (y59_3 + 2).toInt = y59_3.toInt + (2) := z_addc (by decide +kernel) (by omega) (by omega)
              exact ih59 (y59_3 + 2) (show (561 - (y59_3 + 2).toInt).toNat < n59 from by omega) (show (480 ≤ (y59_3 + 2).toInt ∧ (y59_3 + 2).toInt ≤ 561) from by omega)
            · have c77 := z_ne c77
              obtain ⟨⟨r82, c82_g7, c82_g8⟩, hc82, hq82⟩ := ok_wrong (upd (upd (upd (upd (upd (upd g 3 c19_g3) 4 c19_g4) 5 c19_g5) 6 c19_g6) 7 c47_g7) 8 c47_g8) (upF (upF F 20 c47_F20) 21 c47_F21) 3 ⟨hzg1, hzg2, hg6, hg7, hg8, hg9, hg17, hg18, hzg9, hzg23, hzg27, hzg30, hzg34, hzg36, hzg39, hzg44, hzg47, hzg48, hzg51, hzg56, hzg59, hzg62, hzg65, hzg66, hzg70, hzF11, hzF12, hzF13, hzF15, hzF19, hg19, hzF24, hzF25, hzF26, hzF33, hzF38, hzF41, hzF43, hzF45, hzF46, hzF50, hzF53, hzF54, hzLQ⟩ (show 0 ≤ (3 : Int32).toInt ∧ (3 : Int32).toInt ≤ 4 from by omega)
              obtain ⟨hg73, hg74, f75, f76⟩ : (((0) ≤ c82_g7.toInt ∧ c82_g7.toInt ≤ 4)) ∧ (((-1) ≤ c82_g8.toInt ∧ c82_g8.toInt ≤ 2001)) ∧ (r82.toInt = 0) ∧ ((0 ≤ r82.toInt ∧ r82.toInt ≤ 1)) := hq82
              refine wp_b3 hc82 ?_
              clear hc82
              refine wp_if ⟨by omega, by omega⟩ ?_
              exact ⟨_, rfl, ⟨hg6, hg7, hg8, hg9, hg73, hg74, hzF13, hg19, (show (g 6).toInt ≤ c19_g6.toInt from by omega), (show (0 ≤ r82.toInt ∧ r82.toInt ≤ 1) from by omega)⟩⟩
      exact lp59 NN (480 : Int32) (by have := NN_eq; omega) (show (480 ≤ (480 : Int32).toInt ∧ (480 : Int32).toInt ≤ 561) from by omega)
abbrev Q_readPart (g : Nat → Int32) (F : Nat → Nat → Int32) : (Int32 × Int32 × Int32 × Int32 × Int32 × Int32 × Int32 × (Nat → Int32) × (Nat → Int32) × (Nat → Int32)) → Prop := (fun t => (((0) ≤ (t.2.1).toInt ∧ (t.2.1).toInt ≤ 4)) ∧ (((-1) ≤ (t.2.2.1).toInt ∧ (t.2.2.1).toInt ≤ 8)) ∧ (((0) ≤ (t.2.2.2.1).toInt ∧ (t.2.2.2.1).toInt ≤ 2001)) ∧ (((0) ≤ (t.2.2.2.2.1).toInt ∧ (t.2.2.2.2.1).toInt ≤ 2001)) ∧ (((0) ≤ (t.2.2.2.2.2.1).toInt ∧ (t.2.2.2.2.2.1).toInt ≤ 4)) ∧ (((-1) ≤ (t.2.2.2.2.2.2.1).toInt ∧ (t.2.2.2.2.2.2.1).toInt ≤ 2001)) ∧ (rng (0) 40 (t.2.2.2.2.2.2.2.1)) ∧ (rng (-1) 16 (t.2.2.2.2.2.2.2.2.2)) ∧ ((g 6).toInt ≤ (t.2.2.2.2.1).toInt) ∧ ((0 ≤ (t.1).toInt ∧ (t.1).toInt ≤ 1)))
set_option maxHeartbeats 4000000 in
set_option maxRecDepth 100000 in
theorem ok_readPart (g : Nat → Int32) (F : Nat → Nat → Int32) (hI : MInv g F) : wp (f_readPart g F) (Q_readPart g F) := by
  unfold f_readPart
  obtain ⟨hzg1, hzg2, hzg3, hzg4, hzg5, hzg6, hzg7, hzg8, hzg9, hzg23, hzg27, hzg30, hzg34, hzg36, hzg39, hzg44, hzg47, hzg48, hzg51, hzg56, hzg59, hzg62, hzg65, hzg66, hzg70, hzF11, hzF12, hzF13, hzF15, hzF19, hzF21, hzF24, hzF25, hzF26, hzF33, hzF38, hzF41, hzF43, hzF45, hzF46, hzF50, hzF53, hzF54, hzLQ⟩ := hI
  have zk0 : (0 : Int32).toInt = 0 := by decide +kernel
  have zk1 : (1 : Int32).toInt = 1 := by decide +kernel
  have zk3 : (3 : Int32).toInt = 3 := by decide +kernel
  have zk4 : (4 : Int32).toInt = 4 := by decide +kernel
  have zk6 : (6 : Int32).toInt = 6 := by decide +kernel
  have zk40 : (40 : Int32).toInt = 40 := by decide +kernel
  have zk240 : (240 : Int32).toInt = 240 := by decide +kernel
  refine wp_if ⟨by omega, by omega⟩ ?_
  have f1 := hzF12 (Int32.toNatClampNeg (6 : Int32))
  refine wp_ite (fun c9 => ?_) (fun c9 => ?_)
  · have c9 := congrArg Int32.toInt c9
    obtain ⟨⟨r14, c14_g7, c14_g8⟩, hc14, hq14⟩ := ok_wrong g F 4 ⟨hzg1, hzg2, hzg3, hzg4, hzg5, hzg6, hzg7, hzg8, hzg9, hzg23, hzg27, hzg30, hzg34, hzg36, hzg39, hzg44, hzg47, hzg48, hzg51, hzg56, hzg59, hzg62, hzg65, hzg66, hzg70, hzF11, hzF12, hzF13, hzF15, hzF19, hzF21, hzF24, hzF25, hzF26, hzF33, hzF38, hzF41, hzF43, hzF45, hzF46, hzF50, hzF53, hzF54, hzLQ⟩ (show 0 ≤ (4 : Int32).toInt ∧ (4 : Int32).toInt ≤ 4 from by omega)
    obtain ⟨hg2, hg3, f4, f5⟩ : (((0) ≤ c14_g7.toInt ∧ c14_g7.toInt ≤ 4)) ∧ (((-1) ≤ c14_g8.toInt ∧ c14_g8.toInt ≤ 2001)) ∧ (r14.toInt = 0) ∧ ((0 ≤ r14.toInt ∧ r14.toInt ≤ 1)) := hq14
    refine wp_b3 hc14 ?_
    clear hc14
    refine wp_if ⟨by omega, by omega⟩ ?_
    exact ⟨_, rfl, ⟨hzg3, hzg4, hzg5, hzg6, hg2, hg3, hzF12, hzF19, (show (g 6).toInt ≤ (g 6).toInt from by omega), (show (0 ≤ r14.toInt ∧ r14.toInt ≤ 1) from by omega)⟩⟩
  · have c9 := z_ne c9
    obtain ⟨⟨c19_g3, c19_g4, c19_g5, c19_g6⟩, hc19, hq19⟩ := ok_scan g F ⟨hzg1, hzg2, hzg3, hzg4, hzg5, hzg6, hzg7, hzg8, hzg9, hzg23, hzg27, hzg30, hzg34, hzg36, hzg39, hzg44, hzg47, hzg48, hzg51, hzg56, hzg59, hzg62, hzg65, hzg66, hzg70, hzF11, hzF12, hzF13, hzF15, hzF19, hzF21, hzF24, hzF25, hzF26, hzF33, hzF38, hzF41, hzF43, hzF45, hzF46, hzF50, hzF53, hzF54, hzLQ⟩
    obtain ⟨hg6, hg7, hg8, hg9, f10, f11, f12⟩ : (((0) ≤ c19_g3.toInt ∧ c19_g3.toInt ≤ 4)) ∧ (((-1) ≤ c19_g4.toInt ∧ c19_g4.toInt ≤ 8)) ∧ (((0) ≤ c19_g5.toInt ∧ c19_g5.toInt ≤ 2001)) ∧ (((0) ≤ c19_g6.toInt ∧ c19_g6.toInt ≤ 2001)) ∧ ((c19_g3.toInt = 2 → c19_g5.toInt + 2 ≤ c19_g6.toInt ∧ c19_g6.toInt ≤ c19_g5.toInt + 18 ∧ c19_g6.toInt ≤ 2000)) ∧ ((c19_g3.toInt ≠ 4 → (g 6).toInt < c19_g6.toInt)) ∧ ((g 6).toInt ≤ c19_g6.toInt) := hq19
    refine wp_b4 hc19 ?_
    clear hc19
    refine wp_if ⟨by omega, by omega⟩ ?_
    have f14 : (240 + ((F 12) (Int32.toNatClampNeg 6))).toInt = 240 + ((F 12) (Int32.toNatClampNeg 6)).toInt := z_addd (by decide +kernel) (by omega) (by omega)
    refine wp_vl (fun x33 ex33 => ?_)
    have f15 : x33.toInt = (240 + ((F 12) (Int32.toNatClampNeg 6))).toInt := congrArg Int32.toInt ex33
    clear ex33
    obtain ⟨⟨r45, c45_g7, c45_g8, c45_F18, c45_F19⟩, hc45, hq45⟩ := ok_take (upd (upd (upd (upd g 3 c19_g3) 4 c19_g4) 5 c19_g5) 6 c19_g6) F (F 18) 4480 (F 19) 280 x33 1 ⟨hzg1, hzg2, hg6, hg7, hg8, hg9, hzg7, hzg8, hzg9, hzg23, hzg27, hzg30, hzg34, hzg36, hzg39, hzg44, hzg47, hzg48, hzg51, hzg56, hzg59, hzg62, hzg65, hzg66, hzg70, hzF11, hzF12, hzF13, hzF15, hzF19, hzF21, hzF24, hzF25, hzF26, hzF33, hzF38, hzF41, hzF43, hzF45, hzF46, hzF50, hzF53, hzF54, hzLQ⟩ hzF19 (show (0 ≤ x33.toInt ∧ x33.toInt < 280) from by omega) (show 16 * 280 ≤ 4480 from by omega) (show 4480 ≤ 500000 from by omega) (show (c19_g3.toInt = 2 → c19_g5.toInt + 2 ≤ c19_g6.toInt ∧ c19_g6.toInt ≤ c19_g5.toInt + 18 ∧ c19_g6.toInt ≤ 2000) from by omega)
    obtain ⟨hg16, hg17, hg18, f19, f20, f21, f22⟩ : (((0) ≤ c45_g7.toInt ∧ c45_g7.toInt ≤ 4)) ∧ (((-1) ≤ c45_g8.toInt ∧ c45_g8.toInt ≤ 2001)) ∧ (rng (-1) 16 c45_F19) ∧ ((r45.toInt = 1 → c19_g3.toInt = 2)) ∧ ((∀ k : Nat, (k : Int) ≠ x33.toInt → c45_F19 k = (F 19) k)) ∧ ((r45.toInt = 1 → (1 : Int32).toInt ≠ 0 → 1 ≤ (c45_F19 (Int32.toNatClampNeg x33)).toInt)) ∧ ((0 ≤ r45.toInt ∧ r45.toInt ≤ 1)) := hq45
    refine wp_b5 hc45 ?_
    clear hc45
    refine wp_ite (fun c48 => ?_) (fun c48 => ?_)
    · have c48 := congrArg Int32.toInt c48
      exact ⟨_, rfl, ⟨hg6, hg7, hg8, hg9, hg16, hg17, hzF12, hg18, (show (g 6).toInt ≤ c19_g6.toInt from by omega), (show (0 ≤ (0 : Int32).toInt ∧ (0 : Int32).toInt ≤ 1) from by omega)⟩⟩
    · have c48 := z_ne c48
      have lp57 : ∀ (n57 : Nat) (y57_2 : Int32), (280 - y57_2.toInt).toNat < n57 → (240 ≤ y57_2.toInt ∧ y57_2.toInt ≤ 280) → wp (L_readPart_57 g F c19_g3 c19_g4 c19_g5 c19_g6 x33 c45_g7 c45_g8 c45_F18 c45_F19 n57 y57_2) (Q_readPart g F) := by
        intro n57
        induction n57 with
        | zero => intro y57_2 hm; exact absurd hm (Nat.not_lt_zero _)
        | succ n57 ih57 =>
          intro y57_2 hm57 f23
          show wp (B_readPart_57 g F c19_g3 c19_g4 c19_g5 c19_g6 x33 c45_g7 c45_g8 c45_F18 c45_F19 (L_readPart_57 g F c19_g3 c19_g4 c19_g5 c19_g6 x33 c45_g7 c45_g8 c45_F18 c45_F19 n57) y57_2) _
          unfold B_readPart_57
          refine wp_ite (fun c59 => ?_) (fun c59 => ?_)
          · have c59 := (z_le _ _).mp c59
            refine wp_if ⟨by omega, by omega⟩ ?_
            have f25 : (((F 12) (Int32.toNatClampNeg 6)) + 1).toInt = ((F 12) (Int32.toNatClampNeg 6)).toInt + 1 := z_addc (by decide +kernel) (by omega) (by omega)
            refine wp_if ⟨by omega, by omega⟩ ?_
            refine wp_vl (fun w100 ew100 => ?_)
            have hF26 : rng (0) 40 w100 := by rw [ew100]; exact rng_upd hzF12 (by omega) (by omega)
            clear ew100
            obtain ⟨⟨c102_g3, c102_g4, c102_g5, c102_g6⟩, hc102, hq102⟩ := ok_scan (upd (upd (upd (upd (upd (upd g 3 c19_g3) 4 c19_g4) 5 c19_g5) 6 c19_g6) 7 c45_g7) 8 c45_g8) (upF (upF (upF F 12 w100) 18 c45_F18) 19 c45_F19) ⟨hzg1, hzg2, hg6, hg7, hg8, hg9, hg16, hg17, hzg9, hzg23, hzg27, hzg30, hzg34, hzg36, hzg39, hzg44, hzg47, hzg48, hzg51, hzg56, hzg59, hzg62, hzg65, hzg66, hzg70, hzF11, hF26, hzF13, hzF15, hg18, hzF21, hzF24, hzF25, hzF26, hzF33, hzF38, hzF41, hzF43, hzF45, hzF46, hzF50, hzF53, hzF54, hzLQ⟩
            obtain ⟨hg27, hg28, hg29, hg30, f31, f32, f33⟩ : (((0) ≤ c102_g3.toInt ∧ c102_g3.toInt ≤ 4)) ∧ (((-1) ≤ c102_g4.toInt ∧ c102_g4.toInt ≤ 8)) ∧ (((0) ≤ c102_g5.toInt ∧ c102_g5.toInt ≤ 2001)) ∧ (((0) ≤ c102_g6.toInt ∧ c102_g6.toInt ≤ 2001)) ∧ ((c102_g3.toInt = 2 → c102_g5.toInt + 2 ≤ c102_g6.toInt ∧ c102_g6.toInt ≤ c102_g5.toInt + 18 ∧ c102_g6.toInt ≤ 2000)) ∧ ((c102_g3.toInt ≠ 4 → c19_g6.toInt < c102_g6.toInt)) ∧ (c19_g6.toInt ≤ c102_g6.toInt) := hq102
            refine wp_b4 hc102 ?_
            clear hc102
            exact ⟨_, rfl, ⟨hg27, hg28, hg29, hg30, hg16, hg17, hF26, hg18, (show (g 6).toInt ≤ c102_g6.toInt from by omega), (show (0 ≤ (1 : Int32).toInt ∧ (1 : Int32).toInt ≤ 1) from by omega)⟩⟩
          · have c59 := z_nle c59
            obtain ⟨r72, hc72, hq72⟩ := ok_same c45_F18 4480 c45_F19 280 y57_2 x33 hg18 (show (0 ≤ y57_2.toInt ∧ y57_2.toInt < 280) from by omega) (show 16 * 280 ≤ 4480 from by omega) (show 4480 ≤ 500000 from by omega) (show (0 ≤ x33.toInt ∧ x33.toInt < 280) from by omega)
            have f34 : (0 ≤ r72.toInt ∧ r72.toInt ≤ 1) := hq72
            refine wp_b1 hc72 ?_
            clear hc72
            refine wp_ite (fun c75 => ?_) (fun c75 => ?_)
            · have c75 := congrArg Int32.toInt c75
              have f35 : (y57_2 + 1).toInt = y57_2.toInt + (1) := z_addc (by decide +kernel) (by omega) (by omega)
              exact ih57 (y57_2 + 1) (show (280 - (y57_2 + 1).toInt).toNat < n57 from by omega) (show (240 ≤ (y57_2 + 1).toInt ∧ (y57_2 + 1).toInt ≤ 280) from by omega)
            · have c75 := z_ne c75
              obtain ⟨⟨r80, c80_g7, c80_g8⟩, hc80, hq80⟩ := ok_wrong (upd (upd (upd (upd (upd (upd g 3 c19_g3) 4 c19_g4) 5 c19_g5) 6 c19_g6) 7 c45_g7) 8 c45_g8) (upF (upF F 18 c45_F18) 19 c45_F19) 3 ⟨hzg1, hzg2, hg6, hg7, hg8, hg9, hg16, hg17, hzg9, hzg23, hzg27, hzg30, hzg34, hzg36, hzg39, hzg44, hzg47, hzg48, hzg51, hzg56, hzg59, hzg62, hzg65, hzg66, hzg70, hzF11, hzF12, hzF13, hzF15, hg18, hzF21, hzF24, hzF25, hzF26, hzF33, hzF38, hzF41, hzF43, hzF45, hzF46, hzF50, hzF53, hzF54, hzLQ⟩ (show 0 ≤ (3 : Int32).toInt ∧ (3 : Int32).toInt ≤ 4 from by omega)
              obtain ⟨hg36, hg37, f38, f39⟩ : (((0) ≤ c80_g7.toInt ∧ c80_g7.toInt ≤ 4)) ∧ (((-1) ≤ c80_g8.toInt ∧ c80_g8.toInt ≤ 2001)) ∧ (r80.toInt = 0) ∧ ((0 ≤ r80.toInt ∧ r80.toInt ≤ 1)) := hq80
              refine wp_b3 hc80 ?_
              clear hc80
              refine wp_if ⟨by omega, by omega⟩ ?_
              exact ⟨_, rfl, ⟨hg6, hg7, hg8, hg9, hg36, hg37, hzF12, hg18, (show (g 6).toInt ≤ c19_g6.toInt from by omega), (show (0 ≤ r80.toInt ∧ r80.toInt ≤ 1) from by omega)⟩⟩
      exact lp57 NN (240 : Int32) (by have := NN_eq; omega) (show (240 ≤ (240 : Int32).toInt ∧ (240 : Int32).toInt ≤ 280) from by omega)
abbrev Q_readLaw (g : Nat → Int32) (F : Nat → Nat → Int32) : (Int32 × Int32 × Int32 × Int32 × Int32 × Int32 × Int32 × (Nat → Int32) × (Nat → Int32) × (Nat → Int32) × (Nat → Int32) × (Nat → Int32)) → Prop := (fun t => (((0) ≤ (t.2.1).toInt ∧ (t.2.1).toInt ≤ 4)) ∧ (((-1) ≤ (t.2.2.1).toInt ∧ (t.2.2.1).toInt ≤ 8)) ∧ (((0) ≤ (t.2.2.2.1).toInt ∧ (t.2.2.2.1).toInt ≤ 2001)) ∧ (((0) ≤ (t.2.2.2.2.1).toInt ∧ (t.2.2.2.2.1).toInt ≤ 2001)) ∧ (((0) ≤ (t.2.2.2.2.2.1).toInt ∧ (t.2.2.2.2.2.1).toInt ≤ 4)) ∧ (((-1) ≤ (t.2.2.2.2.2.2.1).toInt ∧ (t.2.2.2.2.2.2.1).toInt ≤ 2001)) ∧ (rng (0) 40 (t.2.2.2.2.2.2.2.1)) ∧ (rng (-1) 16 (t.2.2.2.2.2.2.2.2.2.1)) ∧ (LQ (t.2.2.2.2.2.2.2.1) (t.2.2.2.2.2.2.2.2.2.1) (g 9)) ∧ ((g 6).toInt ≤ (t.2.2.2.2.1).toInt) ∧ ((0 ≤ (t.1).toInt ∧ (t.1).toInt ≤ 1)))
set_option maxHeartbeats 4000000 in
set_option maxRecDepth 100000 in
theorem ok_readLaw (g : Nat → Int32) (F : Nat → Nat → Int32) (hI : MInv g F) : wp (f_readLaw g F) (Q_readLaw g F) := by
  unfold f_readLaw
  obtain ⟨hzg1, hzg2, hzg3, hzg4, hzg5, hzg6, hzg7, hzg8, hzg9, hzg23, hzg27, hzg30, hzg34, hzg36, hzg39, hzg44, hzg47, hzg48, hzg51, hzg56, hzg59, hzg62, hzg65, hzg66, hzg70, hzF11, hzF12, hzF13, hzF15, hzF19, hzF21, hzF24, hzF25, hzF26, hzF33, hzF38, hzF41, hzF43, hzF45, hzF46, hzF50, hzF53, hzF54, hzLQ⟩ := hI
  have zkm1 : (-1 : Int32).toInt = -1 := by decide +kernel
  have zk0 : (0 : Int32).toInt = 0 := by decide +kernel
  have zk1 : (1 : Int32).toInt = 1 := by decide +kernel
  have zk2 : (2 : Int32).toInt = 2 := by decide +kernel
  have zk3 : (3 : Int32).toInt = 3 := by decide +kernel
  have zk4 : (4 : Int32).toInt = 4 := by decide +kernel
  have zk5 : (5 : Int32).toInt = 5 := by decide +kernel
  have zk6 : (6 : Int32).toInt = 6 := by decide +kernel
  have zk7 : (7 : Int32).toInt = 7 := by decide +kernel
  have zk40 : (40 : Int32).toInt = 40 := by decide +kernel
  have zk240 : (240 : Int32).toInt = 240 := by decide +kernel
  refine wp_if ⟨by omega, by omega⟩ ?_
  have f1 := hzF11 (Int32.toNatClampNeg (6 : Int32))
  refine wp_ite (fun c9 => ?_) (fun c9 => ?_)
  · have c9 := congrArg Int32.toInt c9
    obtain ⟨⟨r14, c14_g7, c14_g8⟩, hc14, hq14⟩ := ok_wrong g F 4 ⟨hzg1, hzg2, hzg3, hzg4, hzg5, hzg6, hzg7, hzg8, hzg9, hzg23, hzg27, hzg30, hzg34, hzg36, hzg39, hzg44, hzg47, hzg48, hzg51, hzg56, hzg59, hzg62, hzg65, hzg66, hzg70, hzF11, hzF12, hzF13, hzF15, hzF19, hzF21, hzF24, hzF25, hzF26, hzF33, hzF38, hzF41, hzF43, hzF45, hzF46, hzF50, hzF53, hzF54, hzLQ⟩ (show 0 ≤ (4 : Int32).toInt ∧ (4 : Int32).toInt ≤ 4 from by omega)
    obtain ⟨hg2, hg3, f4, f5⟩ : (((0) ≤ c14_g7.toInt ∧ c14_g7.toInt ≤ 4)) ∧ (((-1) ≤ c14_g8.toInt ∧ c14_g8.toInt ≤ 2001)) ∧ (r14.toInt = 0) ∧ ((0 ≤ r14.toInt ∧ r14.toInt ≤ 1)) := hq14
    refine wp_b3 hc14 ?_
    clear hc14
    refine wp_if ⟨by omega, by omega⟩ ?_
    exact ⟨_, rfl, ⟨hzg3, hzg4, hzg5, hzg6, hg2, hg3, hzF11, hzF15, hzLQ, (show (g 6).toInt ≤ (g 6).toInt from by omega), (show (0 ≤ r14.toInt ∧ r14.toInt ≤ 1) from by omega)⟩⟩
  · have c9 := z_ne c9
    obtain ⟨⟨c19_g3, c19_g4, c19_g5, c19_g6⟩, hc19, hq19⟩ := ok_scan g F ⟨hzg1, hzg2, hzg3, hzg4, hzg5, hzg6, hzg7, hzg8, hzg9, hzg23, hzg27, hzg30, hzg34, hzg36, hzg39, hzg44, hzg47, hzg48, hzg51, hzg56, hzg59, hzg62, hzg65, hzg66, hzg70, hzF11, hzF12, hzF13, hzF15, hzF19, hzF21, hzF24, hzF25, hzF26, hzF33, hzF38, hzF41, hzF43, hzF45, hzF46, hzF50, hzF53, hzF54, hzLQ⟩
    obtain ⟨hg6, hg7, hg8, hg9, f10, f11, f12⟩ : (((0) ≤ c19_g3.toInt ∧ c19_g3.toInt ≤ 4)) ∧ (((-1) ≤ c19_g4.toInt ∧ c19_g4.toInt ≤ 8)) ∧ (((0) ≤ c19_g5.toInt ∧ c19_g5.toInt ≤ 2001)) ∧ (((0) ≤ c19_g6.toInt ∧ c19_g6.toInt ≤ 2001)) ∧ ((c19_g3.toInt = 2 → c19_g5.toInt + 2 ≤ c19_g6.toInt ∧ c19_g6.toInt ≤ c19_g5.toInt + 18 ∧ c19_g6.toInt ≤ 2000)) ∧ ((c19_g3.toInt ≠ 4 → (g 6).toInt < c19_g6.toInt)) ∧ ((g 6).toInt ≤ c19_g6.toInt) := hq19
    refine wp_b4 hc19 ?_
    clear hc19
    refine wp_if ⟨by omega, by omega⟩ ?_
    have f14 : (240 + ((F 11) (Int32.toNatClampNeg 6))).toInt = 240 + ((F 11) (Int32.toNatClampNeg 6)).toInt := z_addd (by decide +kernel) (by omega) (by omega)
    refine wp_vl (fun x33 ex33 => ?_)
    have f15 : x33.toInt = (240 + ((F 11) (Int32.toNatClampNeg 6))).toInt := congrArg Int32.toInt ex33
    clear ex33
    have f16 : (4 * x33).toInt = 4 * x33.toInt := z_muld (by decide +kernel) (by omega) (by omega)
    obtain ⟨⟨r47, c47_g7, c47_g8, c47_F14, c47_F15⟩, hc47, hq47⟩ := ok_take (upd (upd (upd (upd g 3 c19_g3) 4 c19_g4) 5 c19_g5) 6 c19_g6) F (F 14) 17920 (F 15) 1120 (4 * x33) 1 ⟨hzg1, hzg2, hg6, hg7, hg8, hg9, hzg7, hzg8, hzg9, hzg23, hzg27, hzg30, hzg34, hzg36, hzg39, hzg44, hzg47, hzg48, hzg51, hzg56, hzg59, hzg62, hzg65, hzg66, hzg70, hzF11, hzF12, hzF13, hzF15, hzF19, hzF21, hzF24, hzF25, hzF26, hzF33, hzF38, hzF41, hzF43, hzF45, hzF46, hzF50, hzF53, hzF54, hzLQ⟩ hzF15 (show (0 ≤ (4 * x33).toInt ∧ (4 * x33).toInt < 1120) from by omega) (show 16 * 1120 ≤ 17920 from by omega) (show 17920 ≤ 500000 from by omega) (show (c19_g3.toInt = 2 → c19_g5.toInt + 2 ≤ c19_g6.toInt ∧ c19_g6.toInt ≤ c19_g5.toInt + 18 ∧ c19_g6.toInt ≤ 2000) from by omega)
    obtain ⟨hg17, hg18, hg19, f20, f21, f22, f23⟩ : (((0) ≤ c47_g7.toInt ∧ c47_g7.toInt ≤ 4)) ∧ (((-1) ≤ c47_g8.toInt ∧ c47_g8.toInt ≤ 2001)) ∧ (rng (-1) 16 c47_F15) ∧ ((r47.toInt = 1 → c19_g3.toInt = 2)) ∧ ((∀ k : Nat, (k : Int) ≠ (4 * x33).toInt → c47_F15 k = (F 15) k)) ∧ ((r47.toInt = 1 → (1 : Int32).toInt ≠ 0 → 1 ≤ (c47_F15 (Int32.toNatClampNeg (4 * x33))).toInt)) ∧ ((0 ≤ r47.toInt ∧ r47.toInt ≤ 1)) := hq47
    refine wp_b5 hc47 ?_
    clear hc47
    have hLQ24 : LQ (F 11) c47_F15 (g 9) := by
      exact lq_take hzLQ (4 * x33) (by assumption) hzF11 (by omega) (by omega)
    refine wp_ite (fun c50 => ?_) (fun c50 => ?_)
    · have c50 := congrArg Int32.toInt c50
      exact ⟨_, rfl, ⟨hg6, hg7, hg8, hg9, hg17, hg18, hzF11, hg19, hLQ24, (show (g 6).toInt ≤ c19_g6.toInt from by omega), (show (0 ≤ (0 : Int32).toInt ∧ (0 : Int32).toInt ≤ 1) from by omega)⟩⟩
    · have c50 := z_ne c50
      obtain ⟨⟨c56_g3, c56_g4, c56_g5, c56_g6⟩, hc56, hq56⟩ := ok_scan (upd (upd (upd (upd (upd (upd g 3 c19_g3) 4 c19_g4) 5 c19_g5) 6 c19_g6) 7 c47_g7) 8 c47_g8) (upF (upF F 14 c47_F14) 15 c47_F15) ⟨hzg1, hzg2, hg6, hg7, hg8, hg9, hg17, hg18, hzg9, hzg23, hzg27, hzg30, hzg34, hzg36, hzg39, hzg44, hzg47, hzg48, hzg51, hzg56, hzg59, hzg62, hzg65, hzg66, hzg70, hzF11, hzF12, hzF13, hg19, hzF19, hzF21, hzF24, hzF25, hzF26, hzF33, hzF38, hzF41, hzF43, hzF45, hzF46, hzF50, hzF53, hzF54, hLQ24⟩
      obtain ⟨hg25, hg26, hg27, hg28, f29, f30, f31⟩ : (((0) ≤ c56_g3.toInt ∧ c56_g3.toInt ≤ 4)) ∧ (((-1) ≤ c56_g4.toInt ∧ c56_g4.toInt ≤ 8)) ∧ (((0) ≤ c56_g5.toInt ∧ c56_g5.toInt ≤ 2001)) ∧ (((0) ≤ c56_g6.toInt ∧ c56_g6.toInt ≤ 2001)) ∧ ((c56_g3.toInt = 2 → c56_g5.toInt + 2 ≤ c56_g6.toInt ∧ c56_g6.toInt ≤ c56_g5.toInt + 18 ∧ c56_g6.toInt ≤ 2000)) ∧ ((c56_g3.toInt ≠ 4 → c19_g6.toInt < c56_g6.toInt)) ∧ (c19_g6.toInt ≤ c56_g6.toInt) := hq56
      refine wp_b4 hc56 ?_
      clear hc56
      refine wp_jn (fun j75 => wp (j75 ()) (Q_readLaw g F)) ?_ ?_
      · show wp _ _
        show wp _ _
        obtain ⟨⟨r77, c77_g7, c77_g8⟩, hc77, hq77⟩ := ok_wrong (upd (upd (upd (upd (upd (upd g 3 c56_g3) 4 c56_g4) 5 c56_g5) 6 c56_g6) 7 c47_g7) 8 c47_g8) (upF (upF F 14 c47_F14) 15 c47_F15) 1 ⟨hzg1, hzg2, hg25, hg26, hg27, hg28, hg17, hg18, hzg9, hzg23, hzg27, hzg30, hzg34, hzg36, hzg39, hzg44, hzg47, hzg48, hzg51, hzg56, hzg59, hzg62, hzg65, hzg66, hzg70, hzF11, hzF12, hzF13, hg19, hzF19, hzF21, hzF24, hzF25, hzF26, hzF33, hzF38, hzF41, hzF43, hzF45, hzF46, hzF50, hzF53, hzF54, hLQ24⟩ (show 0 ≤ (1 : Int32).toInt ∧ (1 : Int32).toInt ≤ 4 from by omega)
        obtain ⟨hg32, hg33, f34, f35⟩ : (((0) ≤ c77_g7.toInt ∧ c77_g7.toInt ≤ 4)) ∧ (((-1) ≤ c77_g8.toInt ∧ c77_g8.toInt ≤ 2001)) ∧ (r77.toInt = 0) ∧ ((0 ≤ r77.toInt ∧ r77.toInt ≤ 1)) := hq77
        refine wp_b3 hc77 ?_
        clear hc77
        refine wp_if ⟨by omega, by omega⟩ ?_
        exact ⟨_, rfl, ⟨hg25, hg26, hg27, hg28, hg32, hg33, hzF11, hg19, hLQ24, (show (g 6).toInt ≤ c56_g6.toInt from by omega), (show (0 ≤ r77.toInt ∧ r77.toInt ≤ 1) from by omega)⟩⟩
      intro j75 Jj75
      refine wp_ite (fun c64 => ?_) (fun c64 => ?_)
      · have c64 := congrArg Int32.toInt c64
        refine wp_ite (fun c72 => ?_) (fun c72 => ?_)
        · have c72 := congrArg Int32.toInt c72
          obtain ⟨⟨c82_g3, c82_g4, c82_g5, c82_g6⟩, hc82, hq82⟩ := ok_scan (upd (upd (upd (upd (upd (upd g 3 c56_g3) 4 c56_g4) 5 c56_g5) 6 c56_g6) 7 c47_g7) 8 c47_g8) (upF (upF F 14 c47_F14) 15 c47_F15) ⟨hzg1, hzg2, hg25, hg26, hg27, hg28, hg17, hg18, hzg9, hzg23, hzg27, hzg30, hzg34, hzg36, hzg39, hzg44, hzg47, hzg48, hzg51, hzg56, hzg59, hzg62, hzg65, hzg66, hzg70, hzF11, hzF12, hzF13, hg19, hzF19, hzF21, hzF24, hzF25, hzF26, hzF33, hzF38, hzF41, hzF43, hzF45, hzF46, hzF50, hzF53, hzF54, hLQ24⟩
          obtain ⟨hg36, hg37, hg38, hg39, f40, f41, f42⟩ : (((0) ≤ c82_g3.toInt ∧ c82_g3.toInt ≤ 4)) ∧ (((-1) ≤ c82_g4.toInt ∧ c82_g4.toInt ≤ 8)) ∧ (((0) ≤ c82_g5.toInt ∧ c82_g5.toInt ≤ 2001)) ∧ (((0) ≤ c82_g6.toInt ∧ c82_g6.toInt ≤ 2001)) ∧ ((c82_g3.toInt = 2 → c82_g5.toInt + 2 ≤ c82_g6.toInt ∧ c82_g6.toInt ≤ c82_g5.toInt + 18 ∧ c82_g6.toInt ≤ 2000)) ∧ ((c82_g3.toInt ≠ 4 → c56_g6.toInt < c82_g6.toInt)) ∧ (c56_g6.toInt ≤ c82_g6.toInt) := hq82
          refine wp_b4 hc82 ?_
          clear hc82
          have f44 : ((4 * x33) + 1).toInt = (4 * x33).toInt + 1 := z_addc (by decide +kernel) (by omega) (by omega)
          obtain ⟨⟨r100, c100_g7, c100_g8, c100_F14, c100_F15⟩, hc100, hq100⟩ := ok_take (upd (upd (upd (upd (upd (upd g 3 c82_g3) 4 c82_g4) 5 c82_g5) 6 c82_g6) 7 c47_g7) 8 c47_g8) (upF (upF F 14 c47_F14) 15 c47_F15) c47_F14 17920 c47_F15 1120 ((4 * x33) + 1) 0 ⟨hzg1, hzg2, hg36, hg37, hg38, hg39, hg17, hg18, hzg9, hzg23, hzg27, hzg30, hzg34, hzg36, hzg39, hzg44, hzg47, hzg48, hzg51, hzg56, hzg59, hzg62, hzg65, hzg66, hzg70, hzF11, hzF12, hzF13, hg19, hzF19, hzF21, hzF24, hzF25, hzF26, hzF33, hzF38, hzF41, hzF43, hzF45, hzF46, hzF50, hzF53, hzF54, hLQ24⟩ hg19 (show (0 ≤ ((4 * x33) + 1).toInt ∧ ((4 * x33) + 1).toInt < 1120) from by omega) (show 16 * 1120 ≤ 17920 from by omega) (show 17920 ≤ 500000 from by omega) (show (c82_g3.toInt = 2 → c82_g5.toInt + 2 ≤ c82_g6.toInt ∧ c82_g6.toInt ≤ c82_g5.toInt + 18 ∧ c82_g6.toInt ≤ 2000) from by omega)
          obtain ⟨hg45, hg46, hg47, f48, f49, f50, f51⟩ : (((0) ≤ c100_g7.toInt ∧ c100_g7.toInt ≤ 4)) ∧ (((-1) ≤ c100_g8.toInt ∧ c100_g8.toInt ≤ 2001)) ∧ (rng (-1) 16 c100_F15) ∧ ((r100.toInt = 1 → c82_g3.toInt = 2)) ∧ ((∀ k : Nat, (k : Int) ≠ ((4 * x33) + 1).toInt → c100_F15 k = c47_F15 k)) ∧ ((r100.toInt = 1 → (0 : Int32).toInt ≠ 0 → 1 ≤ (c100_F15 (Int32.toNatClampNeg ((4 * x33) + 1))).toInt)) ∧ ((0 ≤ r100.toInt ∧ r100.toInt ≤ 1)) := hq100
          refine wp_b5 hc100 ?_
          clear hc100
          have hLQ52 : LQ (F 11) c100_F15 (g 9) := by
            exact lq_take hLQ24 ((4 * x33) + 1) (by assumption) hzF11 (by omega) (by omega)
          have hpos100 : 1 ≤ (c100_F15 (Int32.toNatClampNeg (4 * x33))).toInt := pos_keep (k := (4 * x33) + 1) (size := c47_F15) (by assumption) (by omega) (by omega) (by omega)
          refine wp_ite (fun c103 => ?_) (fun c103 => ?_)
          · have c103 := congrArg Int32.toInt c103
            exact ⟨_, rfl, ⟨hg36, hg37, hg38, hg39, hg45, hg46, hzF11, hg47, hLQ52, (show (g 6).toInt ≤ c82_g6.toInt from by omega), (show (0 ≤ (0 : Int32).toInt ∧ (0 : Int32).toInt ≤ 1) from by omega)⟩⟩
          · have c103 := z_ne c103
            obtain ⟨⟨c109_g3, c109_g4, c109_g5, c109_g6⟩, hc109, hq109⟩ := ok_scan (upd (upd (upd (upd (upd (upd g 3 c82_g3) 4 c82_g4) 5 c82_g5) 6 c82_g6) 7 c100_g7) 8 c100_g8) (upF (upF F 14 c100_F14) 15 c100_F15) ⟨hzg1, hzg2, hg36, hg37, hg38, hg39, hg45, hg46, hzg9, hzg23, hzg27, hzg30, hzg34, hzg36, hzg39, hzg44, hzg47, hzg48, hzg51, hzg56, hzg59, hzg62, hzg65, hzg66, hzg70, hzF11, hzF12, hzF13, hg47, hzF19, hzF21, hzF24, hzF25, hzF26, hzF33, hzF38, hzF41, hzF43, hzF45, hzF46, hzF50, hzF53, hzF54, hLQ52⟩
            obtain ⟨hg53, hg54, hg55, hg56, f57, f58, f59⟩ : (((0) ≤ c109_g3.toInt ∧ c109_g3.toInt ≤ 4)) ∧ (((-1) ≤ c109_g4.toInt ∧ c109_g4.toInt ≤ 8)) ∧ (((0) ≤ c109_g5.toInt ∧ c109_g5.toInt ≤ 2001)) ∧ (((0) ≤ c109_g6.toInt ∧ c109_g6.toInt ≤ 2001)) ∧ ((c109_g3.toInt = 2 → c109_g5.toInt + 2 ≤ c109_g6.toInt ∧ c109_g6.toInt ≤ c109_g5.toInt + 18 ∧ c109_g6.toInt ≤ 2000)) ∧ ((c109_g3.toInt ≠ 4 → c82_g6.toInt < c109_g6.toInt)) ∧ (c82_g6.toInt ≤ c109_g6.toInt) := hq109
            refine wp_b4 hc109 ?_
            clear hc109
            refine wp_if ⟨by omega, by omega⟩ ?_
            refine wp_vl (fun w118 ew118 => ?_)
            clear ew118
            refine wp_if ⟨by omega, by omega⟩ ?_
            refine wp_vl (fun w125 ew125 => ?_)
            clear ew125
            have f61 : ((4 * x33) + 2).toInt = (4 * x33).toInt + 2 := z_addc (by decide +kernel) (by omega) (by omega)
            refine wp_if ⟨by omega, by omega⟩ ?_
            refine wp_vl (fun w136 ew136 => ?_)
            have hF62 : rng (-1) 16 w136 := by rw [ew136]; exact rng_upd hg47 (by omega) (by omega)
            have hpos136 := pos_keep (k := (4 * x33) + 2) (l := 4 * x33) (upd_ne ew136 (by omega)) hpos100 (by omega) (by omega)
            have hLQ63 : LQ (F 11) w136 (g 9) := by
              exact lq_take hLQ52 ((4 * x33) + 2) (upd_ne ew136 (by omega)) hzF11 (by omega) (by omega)
            clear ew136
            have f65 : ((4 * x33) + 3).toInt = (4 * x33).toInt + 3 := z_addc (by decide +kernel) (by omega) (by omega)
            refine wp_if ⟨by omega, by omega⟩ ?_
            refine wp_vl (fun w147 ew147 => ?_)
            have hF66 : rng (-1) 16 w147 := by rw [ew147]; exact rng_upd hF62 (by omega) (by omega)
            have hpos147 := pos_keep (k := (4 * x33) + 3) (l := 4 * x33) (upd_ne ew147 (by omega)) hpos136 (by omega) (by omega)
            have hmz0 := mz_le c109_g3 (e := c109_g6) (by omega) (by omega)
            have hLQ67 : LQ (F 11) w147 (g 9) := by
              exact lq_take hLQ63 ((4 * x33) + 3) (upd_ne ew147 (by omega)) hzF11 (by omega) (by omega)
            clear ew147
            refine wp_jn (fun k303 => ∀ (c303_g3 : Int32) (c303_g4 : Int32) (c303_g5 : Int32) (c303_g6 : Int32) (c303_g7 : Int32) (c303_g8 : Int32) (c303_F14 : (Nat → Int32)) (c303_F15 : (Nat → Int32)) (c303_F16 : (Nat → Int32)) (c303_F17 : (Nat → Int32)), ((0) ≤ c303_g3.toInt ∧ c303_g3.toInt ≤ 4) → ((-1) ≤ c303_g4.toInt ∧ c303_g4.toInt ≤ 8) → ((0) ≤ c303_g5.toInt ∧ c303_g5.toInt ≤ 2001) → ((0) ≤ c303_g6.toInt ∧ c303_g6.toInt ≤ 2001) → ((0) ≤ c303_g7.toInt ∧ c303_g7.toInt ≤ 4) → ((-1) ≤ c303_g8.toInt ∧ c303_g8.toInt ≤ 2001) → rng (-1) 16 c303_F15 → LQ (F 11) c303_F15 (g 9) → (g 6).toInt ≤ c303_g6.toInt → 1 ≤ (c303_F15 (Int32.toNatClampNeg (4 * x33))).toInt → wp (k303 c303_g3 c303_g4 c303_g5 c303_g6 c303_g7 c303_g8 c303_F14 c303_F15 c303_F16 c303_F17) (Q_readLaw g F)) ?_ ?_
            · intro c303_g3 c303_g4 c303_g5 c303_g6 c303_g7 c303_g8 c303_F14 c303_F15 c303_F16 c303_F17 hg68 hg69 hg70 hg71 hg72 hg73 hg74 hLQ75 f76 f77
              show wp _ _
              refine wp_if ⟨by omega, by omega⟩ ?_
              have f79 : (((F 11) (Int32.toNatClampNeg 6)) + 1).toInt = ((F 11) (Int32.toNatClampNeg 6)).toInt + 1 := z_addc (by decide +kernel) (by omega) (by omega)
              refine wp_if ⟨by omega, by omega⟩ ?_
              refine wp_vl (fun w313 ew313 => ?_)
              have hF80 : rng (0) 40 w313 := by rw [ew313]; exact rng_upd hzF11 (by omega) (by omega)
              have hLQ81 : LQ w313 c303_F15 (g 9) := by
                exact lq_inc (l := x33) hLQ75 ew313 (by omega) (by omega) (by assumption) (by omega) hzF11
              clear ew313
              exact ⟨_, rfl, ⟨hg68, hg69, hg70, hg71, hg72, hg73, hF80, hg74, hLQ81, (show (g 6).toInt ≤ c303_g6.toInt from by omega), (show (0 ≤ (1 : Int32).toInt ∧ (1 : Int32).toInt ≤ 1) from by omega)⟩⟩
            intro k303 Jk303
            have lp148 : ∀ (n148 : Nat) (d148_g3 : Int32) (d148_g4 : Int32) (d148_g5 : Int32) (d148_g6 : Int32) (d148_g7 : Int32) (d148_g8 : Int32) (d148_F14 : (Nat → Int32)) (d148_F15 : (Nat → Int32)) (d148_F16 : (Nat → Int32)) (d148_F17 : (Nat → Int32)), (mz d148_g3 d148_g6).toNat < n148 → ((0) ≤ d148_g3.toInt ∧ d148_g3.toInt ≤ 4) → ((-1) ≤ d148_g4.toInt ∧ d148_g4.toInt ≤ 8) → ((0) ≤ d148_g5.toInt ∧ d148_g5.toInt ≤ 2001) → ((0) ≤ d148_g6.toInt ∧ d148_g6.toInt ≤ 2001) → ((0) ≤ d148_g7.toInt ∧ d148_g7.toInt ≤ 4) → ((-1) ≤ d148_g8.toInt ∧ d148_g8.toInt ≤ 2001) → rng (-1) 16 d148_F15 → LQ (F 11) d148_F15 (g 9) → (g 6).toInt ≤ d148_g6.toInt → 1 ≤ (d148_F15 (Int32.toNatClampNeg (4 * x33))).toInt → wp (L_readLaw_148 g F x33 k303 n148 d148_g3 d148_g4 d148_g5 d148_g6 d148_g7 d148_g8 d148_F14 d148_F15 d148_F16 d148_F17) (Q_readLaw g F) := by
              intro n148
              induction n148 with
              | zero => intro d148_g3 d148_g4 d148_g5 d148_g6 d148_g7 d148_g8 d148_F14 d148_F15 d148_F16 d148_F17 hm; exact absurd hm (Nat.not_lt_zero _)
              | succ n148 ih148 =>
                intro d148_g3 d148_g4 d148_g5 d148_g6 d148_g7 d148_g8 d148_F14 d148_F15 d148_F16 d148_F17 hm148 hg82 hg83 hg84 hg85 hg86 hg87 hg88 hLQ89 f90 f91
                show wp (B_readLaw_148 g F x33 k303 (L_readLaw_148 g F x33 k303 n148) d148_g3 d148_g4 d148_g5 d148_g6 d148_g7 d148_g8 d148_F14 d148_F15 d148_F16 d148_F17) _
                unfold B_readLaw_148
                refine wp_ite (fun c153 => ?_) (fun c153 => ?_)
                · have c153 := congrArg Int32.toInt c153
                  refine wp_ite (fun c161 => ?_) (fun c161 => ?_)
                  · have c161 := (z_lt _ _).mp c161
                    exact Jk303 d148_g3 d148_g4 d148_g5 d148_g6 d148_g7 d148_g8 d148_F14 d148_F15 d148_F16 d148_F17 hg82 hg83 hg84 hg85 hg86 hg87 hg88 hLQ89 (show (g 6).toInt ≤ d148_g6.toInt from by first | omega | assumption) (show 1 ≤ (d148_F15 (Int32.toNatClampNeg (4 * x33))).toInt from by first | omega | assumption)
                  · have c161 := z_nlt c161
                    refine wp_jn (fun j222 => ∀ (t222_0 : Int32), wp (j222 t222_0) (Q_readLaw g F)) ?_ ?_
                    · intro t222_0
                      show wp _ _
                      refine wp_ite (fun c224 => ?_) (fun c224 => ?_)
                      · have c224 := congrArg Int32.toInt c224
                        obtain ⟨⟨c234_g3, c234_g4, c234_g5, c234_g6⟩, hc234, hq234⟩ := ok_scan (upd (upd (upd (upd (upd (upd g 3 d148_g3) 4 d148_g4) 5 d148_g5) 6 d148_g6) 7 d148_g7) 8 d148_g8) (upF (upF (upF (upF F 14 d148_F14) 15 d148_F15) 16 d148_F16) 17 d148_F17) ⟨hzg1, hzg2, hg82, hg83, hg84, hg85, hg86, hg87, hzg9, hzg23, hzg27, hzg30, hzg34, hzg36, hzg39, hzg44, hzg47, hzg48, hzg51, hzg56, hzg59, hzg62, hzg65, hzg66, hzg70, hzF11, hzF12, hzF13, hg88, hzF19, hzF21, hzF24, hzF25, hzF26, hzF33, hzF38, hzF41, hzF43, hzF45, hzF46, hzF50, hzF53, hzF54, hLQ89⟩
                        obtain ⟨hg92, hg93, hg94, hg95, f96, f97, f98⟩ : (((0) ≤ c234_g3.toInt ∧ c234_g3.toInt ≤ 4)) ∧ (((-1) ≤ c234_g4.toInt ∧ c234_g4.toInt ≤ 8)) ∧ (((0) ≤ c234_g5.toInt ∧ c234_g5.toInt ≤ 2001)) ∧ (((0) ≤ c234_g6.toInt ∧ c234_g6.toInt ≤ 2001)) ∧ ((c234_g3.toInt = 2 → c234_g5.toInt + 2 ≤ c234_g6.toInt ∧ c234_g6.toInt ≤ c234_g5.toInt + 18 ∧ c234_g6.toInt ≤ 2000)) ∧ ((c234_g3.toInt ≠ 4 → d148_g6.toInt < c234_g6.toInt)) ∧ (d148_g6.toInt ≤ c234_g6.toInt) := hq234
                        refine wp_b4 hc234 ?_
                        clear hc234
                        refine wp_jn (fun j300 => ∀ (c300_g3 : Int32) (c300_g4 : Int32) (c300_g5 : Int32) (c300_g6 : Int32) (c300_g7 : Int32) (c300_g8 : Int32) (c300_F14 : (Nat → Int32)) (c300_F15 : (Nat → Int32)) (c300_F16 : (Nat → Int32)) (c300_F17 : (Nat → Int32)), ((0) ≤ c300_g3.toInt ∧ c300_g3.toInt ≤ 4) → ((-1) ≤ c300_g4.toInt ∧ c300_g4.toInt ≤ 8) → ((0) ≤ c300_g5.toInt ∧ c300_g5.toInt ≤ 2001) → ((0) ≤ c300_g6.toInt ∧ c300_g6.toInt ≤ 2001) → ((0) ≤ c300_g7.toInt ∧ c300_g7.toInt ≤ 4) → ((-1) ≤ c300_g8.toInt ∧ c300_g8.toInt ≤ 2001) → rng (-1) 16 c300_F15 → LQ (F 11) c300_F15 (g 9) → (g 6).toInt ≤ c300_g6.toInt → 1 ≤ (c300_F15 (Int32.toNatClampNeg (4 * x33))).toInt → (c300_g3.toInt = 4 ∨ d148_g6.toInt < c300_g6.toInt) → wp (j300 c300_g3 c300_g4 c300_g5 c300_g6 c300_g7 c300_g8 c300_F14 c300_F15 c300_F16 c300_F17) (Q_readLaw g F)) ?_ ?_
                        · intro c300_g3 c300_g4 c300_g5 c300_g6 c300_g7 c300_g8 c300_F14 c300_F15 c300_F16 c300_F17 hg99 hg100 hg101 hg102 hg103 hg104 hg105 hLQ106 f107 f108 f109
                          show wp _ _
                          have hmz := mz_lt (s := d148_g3) (e := d148_g6) (s1 := c300_g3) (e1 := c300_g6) (by omega) (by omega) (by omega)
                          exact ih148 c300_g3 c300_g4 c300_g5 c300_g6 c300_g7 c300_g8 c300_F14 c300_F15 c300_F16 c300_F17 (show (mz c300_g3 c300_g6).toNat < n148 from by omega) hg99 hg100 hg101 hg102 hg103 hg104 hg105 hLQ106 (show (g 6).toInt ≤ c300_g6.toInt from by first | omega | assumption) (show 1 ≤ (c300_F15 (Int32.toNatClampNeg (4 * x33))).toInt from by first | omega | assumption)
                        intro j300 Jj300
                        refine wp_ite (fun c239 => ?_) (fun c239 => ?_)
                        · have c239 := congrArg Int32.toInt c239
                          refine wp_if ⟨by omega, by omega⟩ ?_
                          refine wp_vl (fun w248 ew248 => ?_)
                          clear ew248
                          exact Jj300 c234_g3 c234_g4 c234_g5 c234_g6 d148_g7 d148_g8 d148_F14 d148_F15 w248 d148_F17 hg92 hg93 hg94 hg95 hg86 hg87 hg88 hLQ89 (show (g 6).toInt ≤ c234_g6.toInt from by first | omega | assumption | exact pos_keep (by assumption) (by assumption) (by omega) (by omega)) (show 1 ≤ (d148_F15 (Int32.toNatClampNeg (4 * x33))).toInt from by first | omega | assumption | exact pos_keep (by assumption) (by assumption) (by omega) (by omega)) (show (c234_g3.toInt = 4 ∨ d148_g6.toInt < c234_g6.toInt) from by first | omega | assumption | exact pos_keep (by assumption) (by assumption) (by omega) (by omega))
                        · have c239 := z_ne c239
                          refine wp_ite (fun c255 => ?_) (fun c255 => ?_)
                          · have c255 := congrArg Int32.toInt c255
                            refine wp_if ⟨by omega, by omega⟩ ?_
                            refine wp_vl (fun w264 ew264 => ?_)
                            clear ew264
                            exact Jj300 c234_g3 c234_g4 c234_g5 c234_g6 d148_g7 d148_g8 d148_F14 d148_F15 d148_F16 w264 hg92 hg93 hg94 hg95 hg86 hg87 hg88 hLQ89 (show (g 6).toInt ≤ c234_g6.toInt from by first | omega | assumption | exact pos_keep (by assumption) (by assumption) (by omega) (by omega)) (show 1 ≤ (d148_F15 (Int32.toNatClampNeg (4 * x33))).toInt from by first | omega | assumption | exact pos_keep (by assumption) (by assumption) (by omega) (by omega)) (show (c234_g3.toInt = 4 ∨ d148_g6.toInt < c234_g6.toInt) from by first | omega | assumption | exact pos_keep (by assumption) (by assumption) (by omega) (by omega))
                          · have c255 := z_ne c255
                            have f111 : ((4 * x33) + d148_g4).toInt = (4 * x33).toInt + d148_g4.toInt := z_add (by omega) (by omega)
                            have f112 : (((4 * x33) + d148_g4) - 7).toInt = ((4 * x33) + d148_g4).toInt - 7 := z_subc (by decide +kernel) (by omega) (by omega)
                            have f113 : ((((4 * x33) + d148_g4) - 7) + 2).toInt = (((4 * x33) + d148_g4) - 7).toInt + 2 := z_addc (by decide +kernel) (by omega) (by omega)
                            obtain ⟨⟨r288, c288_g7, c288_g8, c288_F14, c288_F15⟩, hc288, hq288⟩ := ok_take (upd (upd (upd (upd (upd (upd g 3 c234_g3) 4 c234_g4) 5 c234_g5) 6 c234_g6) 7 d148_g7) 8 d148_g8) (upF (upF (upF (upF F 14 d148_F14) 15 d148_F15) 16 d148_F16) 17 d148_F17) d148_F14 17920 d148_F15 1120 ((((4 * x33) + d148_g4) - 7) + 2) 1 ⟨hzg1, hzg2, hg92, hg93, hg94, hg95, hg86, hg87, hzg9, hzg23, hzg27, hzg30, hzg34, hzg36, hzg39, hzg44, hzg47, hzg48, hzg51, hzg56, hzg59, hzg62, hzg65, hzg66, hzg70, hzF11, hzF12, hzF13, hg88, hzF19, hzF21, hzF24, hzF25, hzF26, hzF33, hzF38, hzF41, hzF43, hzF45, hzF46, hzF50, hzF53, hzF54, hLQ89⟩ hg88 (show (0 ≤ ((((4 * x33) + d148_g4) - 7) + 2).toInt ∧ ((((4 * x33) + d148_g4) - 7) + 2).toInt < 1120) from by omega) (show 16 * 1120 ≤ 17920 from by omega) (show 17920 ≤ 500000 from by omega) (show (c234_g3.toInt = 2 → c234_g5.toInt + 2 ≤ c234_g6.toInt ∧ c234_g6.toInt ≤ c234_g5.toInt + 18 ∧ c234_g6.toInt ≤ 2000) from by omega)
                            obtain ⟨hg114, hg115, hg116, f117, f118, f119, f120⟩ : (((0) ≤ c288_g7.toInt ∧ c288_g7.toInt ≤ 4)) ∧ (((-1) ≤ c288_g8.toInt ∧ c288_g8.toInt ≤ 2001)) ∧ (rng (-1) 16 c288_F15) ∧ ((r288.toInt = 1 → c234_g3.toInt = 2)) ∧ ((∀ k : Nat, (k : Int) ≠ ((((4 * x33) + d148_g4) - 7) + 2).toInt → c288_F15 k = d148_F15 k)) ∧ ((r288.toInt = 1 → (1 : Int32).toInt ≠ 0 → 1 ≤ (c288_F15 (Int32.toNatClampNeg ((((4 * x33) + d148_g4) - 7) + 2))).toInt)) ∧ ((0 ≤ r288.toInt ∧ r288.toInt ≤ 1)) := hq288
                            refine wp_b5 hc288 ?_
                            clear hc288
                            have hLQ121 : LQ (F 11) c288_F15 (g 9) := by
                              exact lq_take hLQ89 ((((4 * x33) + d148_g4) - 7) + 2) (by assumption) hzF11 (by omega) (by omega)
                            refine wp_ite (fun c291 => ?_) (fun c291 => ?_)
                            · have c291 := congrArg Int32.toInt c291
                              exact ⟨_, rfl, ⟨hg92, hg93, hg94, hg95, hg114, hg115, hzF11, hg116, hLQ121, (show (g 6).toInt ≤ c234_g6.toInt from by omega), (show (0 ≤ (0 : Int32).toInt ∧ (0 : Int32).toInt ≤ 1) from by omega)⟩⟩
                            · have c291 := z_ne c291
                              obtain ⟨⟨c297_g3, c297_g4, c297_g5, c297_g6⟩, hc297, hq297⟩ := ok_scan (upd (upd (upd (upd (upd (upd g 3 c234_g3) 4 c234_g4) 5 c234_g5) 6 c234_g6) 7 c288_g7) 8 c288_g8) (upF (upF (upF (upF F 14 c288_F14) 15 c288_F15) 16 d148_F16) 17 d148_F17) ⟨hzg1, hzg2, hg92, hg93, hg94, hg95, hg114, hg115, hzg9, hzg23, hzg27, hzg30, hzg34, hzg36, hzg39, hzg44, hzg47, hzg48, hzg51, hzg56, hzg59, hzg62, hzg65, hzg66, hzg70, hzF11, hzF12, hzF13, hg116, hzF19, hzF21, hzF24, hzF25, hzF26, hzF33, hzF38, hzF41, hzF43, hzF45, hzF46, hzF50, hzF53, hzF54, hLQ121⟩
                              obtain ⟨hg122, hg123, hg124, hg125, f126, f127, f128⟩ : (((0) ≤ c297_g3.toInt ∧ c297_g3.toInt ≤ 4)) ∧ (((-1) ≤ c297_g4.toInt ∧ c297_g4.toInt ≤ 8)) ∧ (((0) ≤ c297_g5.toInt ∧ c297_g5.toInt ≤ 2001)) ∧ (((0) ≤ c297_g6.toInt ∧ c297_g6.toInt ≤ 2001)) ∧ ((c297_g3.toInt = 2 → c297_g5.toInt + 2 ≤ c297_g6.toInt ∧ c297_g6.toInt ≤ c297_g5.toInt + 18 ∧ c297_g6.toInt ≤ 2000)) ∧ ((c297_g3.toInt ≠ 4 → c234_g6.toInt < c297_g6.toInt)) ∧ (c234_g6.toInt ≤ c297_g6.toInt) := hq297
                              refine wp_b4 hc297 ?_
                              clear hc297
                              exact Jj300 c297_g3 c297_g4 c297_g5 c297_g6 c288_g7 c288_g8 c288_F14 c288_F15 d148_F16 d148_F17 hg122 hg123 hg124 hg125 hg114 hg115 hg116 hLQ121 (show (g 6).toInt ≤ c297_g6.toInt from by first | omega | assumption | exact pos_keep (by assumption) (by assumption) (by omega) (by omega)) (show 1 ≤ (c288_F15 (Int32.toNatClampNeg (4 * x33))).toInt from by first | omega | assumption | exact pos_keep (by assumption) (by assumption) (by omega) (by omega)) (show (c297_g3.toInt = 4 ∨ d148_g6.toInt < c297_g6.toInt) from by first | omega | assumption | exact pos_keep (by assumption) (by assumption) (by omega) (by omega))
                      · have c224 := z_ne c224
                        obtain ⟨⟨r229, c229_g7, c229_g8⟩, hc229, hq229⟩ := ok_wrong (upd (upd (upd (upd (upd (upd g 3 d148_g3) 4 d148_g4) 5 d148_g5) 6 d148_g6) 7 d148_g7) 8 d148_g8) (upF (upF (upF (upF F 14 d148_F14) 15 d148_F15) 16 d148_F16) 17 d148_F17) 3 ⟨hzg1, hzg2, hg82, hg83, hg84, hg85, hg86, hg87, hzg9, hzg23, hzg27, hzg30, hzg34, hzg36, hzg39, hzg44, hzg47, hzg48, hzg51, hzg56, hzg59, hzg62, hzg65, hzg66, hzg70, hzF11, hzF12, hzF13, hg88, hzF19, hzF21, hzF24, hzF25, hzF26, hzF33, hzF38, hzF41, hzF43, hzF45, hzF46, hzF50, hzF53, hzF54, hLQ89⟩ (show 0 ≤ (3 : Int32).toInt ∧ (3 : Int32).toInt ≤ 4 from by omega)
                        obtain ⟨hg129, hg130, f131, f132⟩ : (((0) ≤ c229_g7.toInt ∧ c229_g7.toInt ≤ 4)) ∧ (((-1) ≤ c229_g8.toInt ∧ c229_g8.toInt ≤ 2001)) ∧ (r229.toInt = 0) ∧ ((0 ≤ r229.toInt ∧ r229.toInt ≤ 1)) := hq229
                        refine wp_b3 hc229 ?_
                        clear hc229
                        refine wp_if ⟨by omega, by omega⟩ ?_
                        exact ⟨_, rfl, ⟨hg82, hg83, hg84, hg85, hg129, hg130, hzF11, hg88, hLQ89, (show (g 6).toInt ≤ d148_g6.toInt from by omega), (show (0 ≤ r229.toInt ∧ r229.toInt ≤ 1) from by omega)⟩⟩
                    intro j222 Jj222
                    refine wp_ite (fun c171 => ?_) (fun c171 => ?_)
                    · have c171 := congrArg Int32.toInt c171
                      refine wp_if ⟨by omega, by omega⟩ ?_
                      exact Jj222 (d148_F16 (Int32.toNatClampNeg x33))
                    · have c171 := z_ne c171
                      refine wp_ite (fun c186 => ?_) (fun c186 => ?_)
                      · have c186 := congrArg Int32.toInt c186
                        refine wp_if ⟨by omega, by omega⟩ ?_
                        exact Jj222 (d148_F17 (Int32.toNatClampNeg x33))
                      · have c186 := z_ne c186
                        have f134 : ((4 * x33) + d148_g4).toInt = (4 * x33).toInt + d148_g4.toInt := z_add (by omega) (by omega)
                        have f135 : (((4 * x33) + d148_g4) - 7).toInt = ((4 * x33) + d148_g4).toInt - 7 := z_subc (by decide +kernel) (by omega) (by omega)
                        have f136 : ((((4 * x33) + d148_g4) - 7) + 2).toInt = (((4 * x33) + d148_g4) - 7).toInt + 2 := z_addc (by decide +kernel) (by omega) (by omega)
                        refine wp_if ⟨by omega, by omega⟩ ?_
                        have f137 := hg88 (Int32.toNatClampNeg ((((4 * x33) + d148_g4) - 7) + 2))
                        refine wp_ite (fun c214 => ?_) (fun c214 => ?_)
                        · have c214 := congrArg Int32.toInt c214
                          exact Jj222 (0 : Int32)
                        · have c214 := z_ne c214
                          exact Jj222 (1 : Int32)
                · have c153 := z_ne c153
                  exact Jk303 d148_g3 d148_g4 d148_g5 d148_g6 d148_g7 d148_g8 d148_F14 d148_F15 d148_F16 d148_F17 hg82 hg83 hg84 hg85 hg86 hg87 hg88 hLQ89 (show (g 6).toInt ≤ d148_g6.toInt from by first | omega | assumption) (show 1 ≤ (d148_F15 (Int32.toNatClampNeg (4 * x33))).toInt from by first | omega | assumption)
            exact lp148 NN c109_g3 c109_g4 c109_g5 c109_g6 c100_g7 c100_g8 c100_F14 w147 w118 w125 (by have := NN_eq; omega) hg53 hg54 hg55 hg56 hg45 hg46 hF66 hLQ67 (show (g 6).toInt ≤ c109_g6.toInt from by first | omega | assumption) (show 1 ≤ (w147 (Int32.toNatClampNeg (4 * x33))).toInt from by first | omega | assumption)
        · have c72 := z_ne c72
          exact Jj75
      · have c64 := z_ne c64
        exact Jj75
