abbrev Q_reform (g : Nat → Int32) (F : Nat → Nat → Int32) (p0 : Int32) : (Int32 × Int32 × Int32 × Int32 × Int32 × Int32 × Int32 × Int32 × Int32 × Int32 × Int32 × (Nat → Int32) × (Nat → Int32) × (Nat → Int32) × (Nat → Int32) × (Nat → Int32) × (Nat → Int32) × (Nat → Int32) × (Nat → Int32) × (Nat → Int32) × (Nat → Int32) × (Nat → Int32) × (Nat → Int32)) → Prop := (fun t => (((0) ≤ (t.2.1).toInt ∧ (t.2.1).toInt ≤ 2000)) ∧ (((0) ≤ (t.2.2.1).toInt ∧ (t.2.2.1).toInt ≤ 2000)) ∧ (((0) ≤ (t.2.2.2.1).toInt ∧ (t.2.2.2.1).toInt ≤ 4)) ∧ (((-1) ≤ (t.2.2.2.2.1).toInt ∧ (t.2.2.2.2.1).toInt ≤ 8)) ∧ (((0) ≤ (t.2.2.2.2.2.1).toInt ∧ (t.2.2.2.2.2.1).toInt ≤ 2001)) ∧ (((0) ≤ (t.2.2.2.2.2.2.1).toInt ∧ (t.2.2.2.2.2.2.1).toInt ≤ 2001)) ∧ (((0) ≤ (t.2.2.2.2.2.2.2.1).toInt ∧ (t.2.2.2.2.2.2.2.1).toInt ≤ 4)) ∧ (((-1) ≤ (t.2.2.2.2.2.2.2.2.1).toInt ∧ (t.2.2.2.2.2.2.2.2.1).toInt ≤ 2001)) ∧ (((0) ≤ (t.2.2.2.2.2.2.2.2.2.1).toInt ∧ (t.2.2.2.2.2.2.2.2.2.1).toInt ≤ 6)) ∧ (((0) ≤ (t.2.2.2.2.2.2.2.2.2.2.1).toInt ∧ (t.2.2.2.2.2.2.2.2.2.2.1).toInt ≤ 1)) ∧ (rng (0) 40 (t.2.2.2.2.2.2.2.2.2.2.2.2.1)) ∧ (rng (0) 40 (t.2.2.2.2.2.2.2.2.2.2.2.2.2.1)) ∧ (rng (0) 40 (t.2.2.2.2.2.2.2.2.2.2.2.2.2.2.1)) ∧ (rng (-1) 16 (t.2.2.2.2.2.2.2.2.2.2.2.2.2.2.2.2.1)) ∧ (rng (-1) 16 (t.2.2.2.2.2.2.2.2.2.2.2.2.2.2.2.2.2.2.2.2.1)) ∧ (rng (-1) 16 (t.2.2.2.2.2.2.2.2.2.2.2.2.2.2.2.2.2.2.2.2.2.2)) ∧ (LQ (t.2.2.2.2.2.2.2.2.2.2.2.2.1) (t.2.2.2.2.2.2.2.2.2.2.2.2.2.2.2.2.1) (t.2.2.2.2.2.2.2.2.2.1)) ∧ ((t.2.1).toInt = 0))
set_option maxHeartbeats 4000000 in
set_option maxRecDepth 100000 in
theorem ok_reform (g : Nat → Int32) (F : Nat → Nat → Int32) (p0 : Int32) (hI : MInv g F) : wp (f_reform g F p0) (Q_reform g F p0) := by
  unfold f_reform
  refine MInv_e hI (fun hzg1 (hzg2 : id _) hzg3 hzg4 hzg5 hzg6 hzg7 hzg8 hzg9 (hzg23 : id _) (hzg27 : id _) (hzg30 : id _) (hzg34 : id _) (hzg36 : id _) (hzg39 : id _) (hzg44 : id _) (hzg47 : id _) (hzg48 : id _) hzg51 (hzg56 : id _) (hzg59 : id _) (hzg62 : id _) (hzg65 : id _) (hzg66 : id _) (hzg70 : id _) hzF11 hzF12 hzF13 hzF15 hzF19 hzF21 hzF24 hzF25 hzF26 hzF33 hzF38 hzF41 hzF43 hzF45 hzF46 hzF50 hzF53 hzF54 hzLQ => ?_)
  clear hI
  have zkm3 : (-3 : Int32).toInt = -3 := by decide +kernel
  have zkm2 : (-2 : Int32).toInt = -2 := by decide +kernel
  have zkm1 : (-1 : Int32).toInt = -1 := by decide +kernel
  have zk0 : (0 : Int32).toInt = 0 := by decide +kernel
  have zk1 : (1 : Int32).toInt = 1 := by decide +kernel
  have zk2 : (2 : Int32).toInt = 2 := by decide +kernel
  have zk4 : (4 : Int32).toInt = 4 := by decide +kernel
  have zk6 : (6 : Int32).toInt = 6 := by decide +kernel
  have zk40 : (40 : Int32).toInt = 40 := by decide +kernel
  have zk80 : (80 : Int32).toInt = 80 := by decide +kernel
  have zk160 : (160 : Int32).toInt = 160 := by decide +kernel
  have zk240 : (240 : Int32).toInt = 240 := by decide +kernel
  have zk480 : (480 : Int32).toInt = 480 := by decide +kernel
  have zk960 : (960 : Int32).toInt = 960 := by decide +kernel
  have zk100000 : (100000 : Int32).toInt = 100000 := by decide +kernel
  have hg1 : ((0) ≤ (g 1).toInt ∧ (g 1).toInt ≤ 2000) := ⟨by (first | omega | (simp only [id_eq] at *; omega)), by (first | omega | (simp only [id_eq] at *; omega))⟩
  have hg2 : ((0) ≤ (0 : Int32).toInt ∧ (0 : Int32).toInt ≤ 2000) := ⟨by (first | omega | (simp only [id_eq] at *; omega)), by (first | omega | (simp only [id_eq] at *; omega))⟩
  refine wp_jn (fun j38 => ∀ (t38_0 : Int32), wp (j38 t38_0) (Q_reform g F p0)) ?_ ?_
  · intro t38_0
    show wp _ _
    obtain ⟨r40, hc40, hq40⟩ := ok_in p0 t38_0 100000 
    obtain ⟨f3, f4, f5⟩ : (id (r40.toInt = 1 → t38_0.toInt ≤ p0.toInt ∧ p0.toInt ≤ (100000 : Int32).toInt)) ∧ (id (r40.toInt = 0 → p0.toInt < t38_0.toInt ∨ (100000 : Int32).toInt < p0.toInt)) ∧ ((0 ≤ r40.toInt ∧ r40.toInt ≤ 1)) := hq40
    refine wp_b1 hc40 ?_
    clear hc40
    refine wp_ite (fun c43 => ?_) (fun c43 => ?_)
    · have c43 := congrArg Int32.toInt c43
      exact ⟨_, rfl, ⟨hg2, hg1, hzg3, hzg4, hzg5, hzg6, hzg7, hzg8, hzg9, hzg51, hzF11, hzF12, hzF13, hzF15, hzF19, hzF21, hzLQ, (show (0 : Int32).toInt = 0 from by (first | omega | (simp only [id_eq] at *; omega)))⟩⟩
    · have c43 := z_ne c43
      have hg6 : ((0) ≤ (0 : Int32).toInt ∧ (0 : Int32).toInt ≤ 4) := ⟨by (first | omega | (simp only [id_eq] at *; omega)), by (first | omega | (simp only [id_eq] at *; omega))⟩
      have hg7 : ((-1) ≤ (-1 : Int32).toInt ∧ (-1 : Int32).toInt ≤ 2001) := ⟨by (first | omega | (simp only [id_eq] at *; omega)), by (first | omega | (simp only [id_eq] at *; omega))⟩
      refine wp_if ⟨by (first | omega | (simp only [id_eq] at *; omega)), by (first | omega | (simp only [id_eq] at *; omega))⟩ ?_
      refine wp_vl (fun w66 ew66 => ?_)
      have hF8 : rng (0) 40 w66 := by rw [ew66]; exact rng_upd hzF11 (by (first | omega | (simp only [id_eq] at *; omega))) (by (first | omega | (simp only [id_eq] at *; omega)))
      have hLQ9 : LQ w66 (F 15) (g 9) := by
        exact lq_zero hzLQ ew66 (by decide +kernel)
      refine wp_if ⟨by (first | omega | (simp only [id_eq] at *; omega)), by (first | omega | (simp only [id_eq] at *; omega))⟩ ?_
      refine wp_vl (fun w74 ew74 => ?_)
      have hF10 : rng (0) 40 w74 := by rw [ew74]; exact rng_upd hzF12 (by (first | omega | (simp only [id_eq] at *; omega))) (by (first | omega | (simp only [id_eq] at *; omega)))
      clear ew74
      refine wp_if ⟨by (first | omega | (simp only [id_eq] at *; omega)), by (first | omega | (simp only [id_eq] at *; omega))⟩ ?_
      refine wp_vl (fun w82 ew82 => ?_)
      have hF11 : rng (0) 40 w82 := by rw [ew82]; exact rng_upd hzF13 (by (first | omega | (simp only [id_eq] at *; omega))) (by (first | omega | (simp only [id_eq] at *; omega)))
      clear ew82
      have hg12 : ((0) ≤ (0 : Int32).toInt ∧ (0 : Int32).toInt ≤ 2001) := ⟨by (first | omega | (simp only [id_eq] at *; omega)), by (first | omega | (simp only [id_eq] at *; omega))⟩
      obtain ⟨⟨c89_g3, c89_g4, c89_g5, c89_g6⟩, hc89, hq89⟩ := ok_scan (upd (upd (upd (upd (upd g 1 0) 2 (g 1)) 6 0) 7 0) 8 (-1)) (upF (upF (upF F 11 w66) 12 w74) 13 w82) (MInv_i hg2 hg1 hzg3 hzg4 hzg5 hg12 hg6 hg7 hzg9 hzg23 hzg27 hzg30 hzg34 hzg36 hzg39 hzg44 hzg47 hzg48 hzg51 hzg56 hzg59 hzg62 hzg65 hzg66 hzg70 hF8 hF10 hF11 hzF15 hzF19 hzF21 hzF24 hzF25 hzF26 hzF33 hzF38 hzF41 hzF43 hzF45 hzF46 hzF50 hzF53 hzF54 hLQ9)
      obtain ⟨hg13, hg14, hg15, hg16, f17, f18, f19⟩ : (((0) ≤ c89_g3.toInt ∧ c89_g3.toInt ≤ 4)) ∧ (((-1) ≤ c89_g4.toInt ∧ c89_g4.toInt ≤ 8)) ∧ (((0) ≤ c89_g5.toInt ∧ c89_g5.toInt ≤ 2001)) ∧ (((0) ≤ c89_g6.toInt ∧ c89_g6.toInt ≤ 2001)) ∧ (id (c89_g3.toInt = 2 → c89_g5.toInt + 2 ≤ c89_g6.toInt ∧ c89_g6.toInt ≤ c89_g5.toInt + 18 ∧ c89_g6.toInt ≤ 2000)) ∧ (id (c89_g3.toInt ≠ 4 → (0 : Int32).toInt < c89_g6.toInt)) ∧ ((0 : Int32).toInt ≤ c89_g6.toInt) := hq89
      refine wp_b4 hc89 ?_
      clear hc89
      have hmz0 := mz_le c89_g3 (e := c89_g6) (by (first | omega | (simp only [id_eq] at *; omega))) (by (first | omega | (simp only [id_eq] at *; omega)))
      refine wp_jn (fun k109 => ∀ (c109_g3 : Int32) (c109_g4 : Int32) (c109_g5 : Int32) (c109_g6 : Int32) (c109_g7 : Int32) (c109_g8 : Int32) (c109_F11 : (Nat → Int32)) (c109_F12 : (Nat → Int32)) (c109_F13 : (Nat → Int32)) (c109_F14 : (Nat → Int32)) (c109_F15 : (Nat → Int32)) (c109_F16 : (Nat → Int32)) (c109_F17 : (Nat → Int32)) (c109_F18 : (Nat → Int32)) (c109_F19 : (Nat → Int32)) (c109_F20 : (Nat → Int32)) (c109_F21 : (Nat → Int32)), ((0) ≤ c109_g3.toInt ∧ c109_g3.toInt ≤ 4) → ((-1) ≤ c109_g4.toInt ∧ c109_g4.toInt ≤ 8) → ((0) ≤ c109_g5.toInt ∧ c109_g5.toInt ≤ 2001) → ((0) ≤ c109_g6.toInt ∧ c109_g6.toInt ≤ 2001) → ((0) ≤ c109_g7.toInt ∧ c109_g7.toInt ≤ 4) → ((-1) ≤ c109_g8.toInt ∧ c109_g8.toInt ≤ 2001) → rng (0) 40 c109_F11 → rng (0) 40 c109_F12 → rng (0) 40 c109_F13 → rng (-1) 16 c109_F15 → rng (-1) 16 c109_F19 → rng (-1) 16 c109_F21 → LQ c109_F11 c109_F15 (g 9) → wp (k109 c109_g3 c109_g4 c109_g5 c109_g6 c109_g7 c109_g8 c109_F11 c109_F12 c109_F13 c109_F14 c109_F15 c109_F16 c109_F17 c109_F18 c109_F19 c109_F20 c109_F21) (Q_reform g F p0)) ?_ ?_
      · intro c109_g3 c109_g4 c109_g5 c109_g6 c109_g7 c109_g8 c109_F11 c109_F12 c109_F13 c109_F14 c109_F15 c109_F16 c109_F17 c109_F18 c109_F19 c109_F20 c109_F21 hg20 hg21 hg22 hg23 hg24 hg25 hg26 hg27 hg28 hg29 hg30 hg31 hLQ32
        show wp _ _
        refine wp_ite (fun c115 => ?_) (fun c115 => ?_)
        · have c115 := congrArg Int32.toInt c115
          exact ⟨_, rfl, ⟨hg2, hg1, hg20, hg21, hg22, hg23, hg24, hg25, hzg9, hzg51, hg26, hg27, hg28, hg29, hg30, hg31, hLQ32, (show (0 : Int32).toInt = 0 from by (first | omega | (simp only [id_eq] at *; omega)))⟩⟩
        · have c115 := z_ne c115
          refine wp_if ⟨by (first | omega | (simp only [id_eq] at *; omega)), by (first | omega | (simp only [id_eq] at *; omega))⟩ ?_
          refine wp_vl (fun w132 ew132 => ?_)
          clear ew132
          refine wp_if ⟨by (first | omega | (simp only [id_eq] at *; omega)), by (first | omega | (simp only [id_eq] at *; omega))⟩ ?_
          have f33 := hg26 (Int32.toNatClampNeg (6 : Int32))
          refine wp_if ⟨by (first | omega | (simp only [id_eq] at *; omega)), by (first | omega | (simp only [id_eq] at *; omega))⟩ ?_
          refine wp_vl (fun w145 ew145 => ?_)
          have hF34 : rng (0) 40 w145 := by rw [ew145]; exact rng_upd hg26 (by (first | omega | (simp only [id_eq] at *; omega))) (by (first | omega | (simp only [id_eq] at *; omega)))
          have hl9 : w145 (g 9).toInt.toNat = w145 6 := lw_same ew145 (by (first | omega | (simp only [id_eq] at *; omega))) (by (first | omega | (simp only [id_eq] at *; omega)))
          have hl9i : (w145 (Int32.toNatClampNeg (g 9))).toInt = (w145 6).toInt := congrArg Int32.toInt hl9
          have hl6 : 0 ≤ (w145 6).toInt ∧ (w145 6).toInt ≤ 40 := (by assumption : rng 0 40 w145) 6
          have hLQ35 : LQ w145 c109_F15 (g 9) := by
            exact lq_row hLQ32 ew145 (by (first | omega | (simp only [id_eq] at *; omega))) (by (first | omega | (simp only [id_eq] at *; omega))) (by (first | omega | (simp only [id_eq] at *; omega)))
          refine wp_if ⟨by (first | omega | (simp only [id_eq] at *; omega)), by (first | omega | (simp only [id_eq] at *; omega))⟩ ?_
          have f36 := hg27 (Int32.toNatClampNeg (6 : Int32))
          refine wp_if ⟨by (first | omega | (simp only [id_eq] at *; omega)), by (first | omega | (simp only [id_eq] at *; omega))⟩ ?_
          refine wp_vl (fun w158 ew158 => ?_)
          have hF37 : rng (0) 40 w158 := by rw [ew158]; exact rng_upd hg27 (by (first | omega | (simp only [id_eq] at *; omega))) (by (first | omega | (simp only [id_eq] at *; omega)))
          clear ew158
          refine wp_if ⟨by (first | omega | (simp only [id_eq] at *; omega)), by (first | omega | (simp only [id_eq] at *; omega))⟩ ?_
          have f38 := hg28 (Int32.toNatClampNeg (6 : Int32))
          refine wp_if ⟨by (first | omega | (simp only [id_eq] at *; omega)), by (first | omega | (simp only [id_eq] at *; omega))⟩ ?_
          refine wp_vl (fun w171 ew171 => ?_)
          have hF39 : rng (0) 40 w171 := by rw [ew171]; exact rng_upd hg28 (by (first | omega | (simp only [id_eq] at *; omega))) (by (first | omega | (simp only [id_eq] at *; omega)))
          clear ew171
          refine wp_jn (fun k215 => ∀ (c215_F14 : (Nat → Int32)) (c215_F15 : (Nat → Int32)), rng (-1) 16 c215_F15 → LQ w145 c215_F15 (g 9) → (∀ t : Nat, (t : Int) < 4 * (w145 6).toInt → c215_F15 (160 * (g 9).toInt.toNat + t) = c215_F15 (960 + t)) → wp (k215 c215_F14 c215_F15) (Q_reform g F p0)) ?_ ?_
          · intro c215_F14 c215_F15 hg40 hLQ41 f42
            show wp _ _
            refine wp_jn (fun k275 => ∀ (c275_F16 : (Nat → Int32)) (c275_F17 : (Nat → Int32)), wp (k275 c275_F16 c275_F17) (Q_reform g F p0)) ?_ ?_
            · intro c275_F16 c275_F17
              show wp _ _
              refine wp_jn (fun k315 => ∀ (c315_F18 : (Nat → Int32)) (c315_F19 : (Nat → Int32)), rng (-1) 16 c315_F19 → wp (k315 c315_F18 c315_F19) (Q_reform g F p0)) ?_ ?_
              · intro c315_F18 c315_F19 hg43
                show wp _ _
                have lp317 : ∀ (n317 : Nat) (y317_3 : Int32) (d317_F20 : (Nat → Int32)) (d317_F21 : (Nat → Int32)), (80 - y317_3.toInt).toNat < n317 → rng (-1) 16 d317_F21 → (0 ≤ y317_3.toInt ∧ y317_3.toInt ≤ 80) → wp (L_reform_317 g c109_g3 c109_g4 c109_g5 c109_g6 c109_g7 c109_g8 w132 w145 w158 w171 c215_F14 c215_F15 c275_F16 c275_F17 c315_F18 c315_F19 n317 y317_3 d317_F20 d317_F21) (Q_reform g F p0) := by
                  intro n317
                  induction n317 with
                  | zero => intro y317_3 d317_F20 d317_F21 hm; exact absurd hm (Nat.not_lt_zero _)
                  | succ n317 ih317 =>
                    intro y317_3 d317_F20 d317_F21 hm317 hg44 f45
                    show wp (B_reform_317 g c109_g3 c109_g4 c109_g5 c109_g6 c109_g7 c109_g8 w132 w145 w158 w171 c215_F14 c215_F15 c275_F16 c275_F17 c315_F18 c315_F19 (L_reform_317 g c109_g3 c109_g4 c109_g5 c109_g6 c109_g7 c109_g8 w132 w145 w158 w171 c215_F14 c215_F15 c275_F16 c275_F17 c315_F18 c315_F19 n317) y317_3 d317_F20 d317_F21) _
                    unfold B_reform_317
                    refine wp_if ⟨by (first | omega | (simp only [id_eq] at *; omega)), by (first | omega | (simp only [id_eq] at *; omega))⟩ ?_
                    have f46 := hF39 (Int32.toNatClampNeg (g 9))
                    have f47 : (2 * (w171 (Int32.toNatClampNeg (g 9)))).toInt = 2 * (w171 (Int32.toNatClampNeg (g 9))).toInt := z_muld (by decide +kernel) (by (first | omega | (simp only [id_eq] at *; omega))) (by (first | omega | (simp only [id_eq] at *; omega)))
                    refine wp_ite (fun c326 => ?_) (fun c326 => ?_)
                    · have c326 := (z_le _ _).mp c326
                      have f48 : ((g 9) + 1).toInt = (g 9).toInt + 1 := z_addc (by decide +kernel) (by (first | omega | (simp only [id_eq] at *; omega))) (by (first | omega | (simp only [id_eq] at *; omega)))
                      refine wp_vl (fun x364 ex364 => ?_)
                      have f49 : x364.toInt = ((g 9) + 1).toInt := congrArg Int32.toInt ex364
                      clear ex364
                      have hg50 : ((0) ≤ x364.toInt ∧ x364.toInt ≤ 6) := ⟨by (first | omega | (simp only [id_eq] at *; omega)), by (first | omega | (simp only [id_eq] at *; omega))⟩
                      have hLQ51 : LQ w145 c215_F15 x364 := by
                        exact lq_new hLQ41 (by (first | omega | (simp only [id_eq] at *; omega))) (by (first | omega | (simp only [id_eq] at *; omega))) (by (first | omega | (simp only [id_eq] at *; omega))) hl9 (by assumption)
                      have hg52 : ((0) ≤ (0 : Int32).toInt ∧ (0 : Int32).toInt ≤ 1) := ⟨by (first | omega | (simp only [id_eq] at *; omega)), by (first | omega | (simp only [id_eq] at *; omega))⟩
                      exact ⟨_, rfl, ⟨hg2, hg1, hg20, hg21, hg22, hg23, hg24, hg25, hg50, hg52, hF34, hF37, hF39, hg40, hg43, hg44, hLQ51, (show (0 : Int32).toInt = 0 from by (first | omega | (simp only [id_eq] at *; omega)))⟩⟩
                    · have c326 := z_nle c326
                      have f53 : (480 + y317_3).toInt = 480 + y317_3.toInt := z_addd (by decide +kernel) (by (first | omega | (simp only [id_eq] at *; omega))) (by (first | omega | (simp only [id_eq] at *; omega)))
                      have f54 : (80 * (g 9)).toInt = 80 * (g 9).toInt := z_muld (by decide +kernel) (by (first | omega | (simp only [id_eq] at *; omega))) (by (first | omega | (simp only [id_eq] at *; omega)))
                      have f55 : ((80 * (g 9)) + y317_3).toInt = (80 * (g 9)).toInt + y317_3.toInt := z_add (by (first | omega | (simp only [id_eq] at *; omega))) (by (first | omega | (simp only [id_eq] at *; omega)))
                      obtain ⟨⟨c348_F20, c348_F21⟩, hc348, hq348⟩ := ok_copy d317_F20 8960 d317_F21 560 (480 + y317_3) ((80 * (g 9)) + y317_3) hg44 (show (0 ≤ (480 + y317_3).toInt ∧ (480 + y317_3).toInt < 560) from by (first | omega | (simp only [id_eq] at *; omega))) (show 16 * 560 ≤ 8960 from by (first | omega | (simp only [id_eq] at *; omega))) (show 8960 ≤ 500000 from by (first | omega | (simp only [id_eq] at *; omega))) (show (0 ≤ ((80 * (g 9)) + y317_3).toInt ∧ ((80 * (g 9)) + y317_3).toInt < 560) from by (first | omega | (simp only [id_eq] at *; omega)))
                      obtain ⟨hg56, f57⟩ : (rng (-1) 16 c348_F21) ∧ (c348_F21 = upd d317_F21 (Int32.toNatClampNeg ((80 * (g 9)) + y317_3)) (d317_F21 (Int32.toNatClampNeg (480 + y317_3)))) := hq348
                      refine wp_b2 hc348 ?_
                      clear hc348
                      have f58 : (y317_3 + 1).toInt = y317_3.toInt + (1) := z_addc (by decide +kernel) (by (first | omega | (simp only [id_eq] at *; omega))) (by (first | omega | (simp only [id_eq] at *; omega)))
                      exact ih317 (y317_3 + 1) c348_F20 c348_F21 (show (80 - (y317_3 + 1).toInt).toNat < n317 from by (first | omega | (simp only [id_eq] at *; omega))) hg56 (show (0 ≤ (y317_3 + 1).toInt ∧ (y317_3 + 1).toInt ≤ 80) from by (first | omega | (simp only [id_eq] at *; omega)))
                exact lp317 NN (0 : Int32) c109_F20 c109_F21 (by have := NN_eq; (first | omega | (simp only [id_eq] at *; omega))) hg31 (show (0 ≤ (0 : Int32).toInt ∧ (0 : Int32).toInt ≤ 80) from by (first | omega | (simp only [id_eq] at *; omega)))
              intro k315 Jk315
              have lp277 : ∀ (n277 : Nat) (y277_3 : Int32) (d277_F18 : (Nat → Int32)) (d277_F19 : (Nat → Int32)), (40 - y277_3.toInt).toNat < n277 → rng (-1) 16 d277_F19 → (0 ≤ y277_3.toInt ∧ y277_3.toInt ≤ 40) → wp (L_reform_277 g w158 k315 n277 y277_3 d277_F18 d277_F19) (Q_reform g F p0) := by
                intro n277
                induction n277 with
                | zero => intro y277_3 d277_F18 d277_F19 hm; exact absurd hm (Nat.not_lt_zero _)
                | succ n277 ih277 =>
                  intro y277_3 d277_F18 d277_F19 hm277 hg59 f60
                  show wp (B_reform_277 g w158 k315 (L_reform_277 g w158 k315 n277) y277_3 d277_F18 d277_F19) _
                  unfold B_reform_277
                  refine wp_if ⟨by (first | omega | (simp only [id_eq] at *; omega)), by (first | omega | (simp only [id_eq] at *; omega))⟩ ?_
                  have f61 := hF37 (Int32.toNatClampNeg (g 9))
                  refine wp_ite (fun c284 => ?_) (fun c284 => ?_)
                  · have c284 := (z_le _ _).mp c284
                    exact Jk315 d277_F18 d277_F19 hg59
                  · have c284 := z_nle c284
                    have f62 : (240 + y277_3).toInt = 240 + y277_3.toInt := z_addd (by decide +kernel) (by (first | omega | (simp only [id_eq] at *; omega))) (by (first | omega | (simp only [id_eq] at *; omega)))
                    have f63 : (40 * (g 9)).toInt = 40 * (g 9).toInt := z_muld (by decide +kernel) (by (first | omega | (simp only [id_eq] at *; omega))) (by (first | omega | (simp only [id_eq] at *; omega)))
                    have f64 : ((40 * (g 9)) + y277_3).toInt = (40 * (g 9)).toInt + y277_3.toInt := z_add (by (first | omega | (simp only [id_eq] at *; omega))) (by (first | omega | (simp only [id_eq] at *; omega)))
                    obtain ⟨⟨c306_F18, c306_F19⟩, hc306, hq306⟩ := ok_copy d277_F18 4480 d277_F19 280 (240 + y277_3) ((40 * (g 9)) + y277_3) hg59 (show (0 ≤ (240 + y277_3).toInt ∧ (240 + y277_3).toInt < 280) from by (first | omega | (simp only [id_eq] at *; omega))) (show 16 * 280 ≤ 4480 from by (first | omega | (simp only [id_eq] at *; omega))) (show 4480 ≤ 500000 from by (first | omega | (simp only [id_eq] at *; omega))) (show (0 ≤ ((40 * (g 9)) + y277_3).toInt ∧ ((40 * (g 9)) + y277_3).toInt < 280) from by (first | omega | (simp only [id_eq] at *; omega)))
                    obtain ⟨hg65, f66⟩ : (rng (-1) 16 c306_F19) ∧ (c306_F19 = upd d277_F19 (Int32.toNatClampNeg ((40 * (g 9)) + y277_3)) (d277_F19 (Int32.toNatClampNeg (240 + y277_3)))) := hq306
                    refine wp_b2 hc306 ?_
                    clear hc306
                    have f67 : (y277_3 + 1).toInt = y277_3.toInt + (1) := z_addc (by decide +kernel) (by (first | omega | (simp only [id_eq] at *; omega))) (by (first | omega | (simp only [id_eq] at *; omega)))
                    exact ih277 (y277_3 + 1) c306_F18 c306_F19 (show (40 - (y277_3 + 1).toInt).toNat < n277 from by (first | omega | (simp only [id_eq] at *; omega))) hg65 (show (0 ≤ (y277_3 + 1).toInt ∧ (y277_3 + 1).toInt ≤ 40) from by (first | omega | (simp only [id_eq] at *; omega)))
              exact lp277 NN (0 : Int32) c109_F18 c109_F19 (by have := NN_eq; (first | omega | (simp only [id_eq] at *; omega))) hg30 (show (0 ≤ (0 : Int32).toInt ∧ (0 : Int32).toInt ≤ 40) from by (first | omega | (simp only [id_eq] at *; omega)))
            intro k275 Jk275
            have lp217 : ∀ (n217 : Nat) (y217_3 : Int32) (d217_F16 : (Nat → Int32)) (d217_F17 : (Nat → Int32)), (40 - y217_3.toInt).toNat < n217 → (0 ≤ y217_3.toInt ∧ y217_3.toInt ≤ 40) → wp (L_reform_217 g w145 k275 n217 y217_3 d217_F16 d217_F17) (Q_reform g F p0) := by
              intro n217
              induction n217 with
              | zero => intro y217_3 d217_F16 d217_F17 hm; exact absurd hm (Nat.not_lt_zero _)
              | succ n217 ih217 =>
                intro y217_3 d217_F16 d217_F17 hm217 f68
                show wp (B_reform_217 g w145 k275 (L_reform_217 g w145 k275 n217) y217_3 d217_F16 d217_F17) _
                unfold B_reform_217
                refine wp_if ⟨by (first | omega | (simp only [id_eq] at *; omega)), by (first | omega | (simp only [id_eq] at *; omega))⟩ ?_
                have f69 := hF34 (Int32.toNatClampNeg (g 9))
                refine wp_ite (fun c224 => ?_) (fun c224 => ?_)
                · have c224 := (z_le _ _).mp c224
                  exact Jk275 d217_F16 d217_F17
                · have c224 := z_nle c224
                  have f70 : (40 * (g 9)).toInt = 40 * (g 9).toInt := z_muld (by decide +kernel) (by (first | omega | (simp only [id_eq] at *; omega))) (by (first | omega | (simp only [id_eq] at *; omega)))
                  have f71 : ((40 * (g 9)) + y217_3).toInt = (40 * (g 9)).toInt + y217_3.toInt := z_add (by (first | omega | (simp only [id_eq] at *; omega))) (by (first | omega | (simp only [id_eq] at *; omega)))
                  have f72 : (240 + y217_3).toInt = 240 + y217_3.toInt := z_addd (by decide +kernel) (by (first | omega | (simp only [id_eq] at *; omega))) (by (first | omega | (simp only [id_eq] at *; omega)))
                  refine wp_if ⟨by (first | omega | (simp only [id_eq] at *; omega)), by (first | omega | (simp only [id_eq] at *; omega))⟩ ?_
                  refine wp_if ⟨by (first | omega | (simp only [id_eq] at *; omega)), by (first | omega | (simp only [id_eq] at *; omega))⟩ ?_
                  refine wp_vl (fun w247 ew247 => ?_)
                  clear ew247
                  refine wp_if ⟨by (first | omega | (simp only [id_eq] at *; omega)), by (first | omega | (simp only [id_eq] at *; omega))⟩ ?_
                  refine wp_if ⟨by (first | omega | (simp only [id_eq] at *; omega)), by (first | omega | (simp only [id_eq] at *; omega))⟩ ?_
                  refine wp_vl (fun w268 ew268 => ?_)
                  clear ew268
                  have f76 : (y217_3 + 1).toInt = y217_3.toInt + (1) := z_addc (by decide +kernel) (by (first | omega | (simp only [id_eq] at *; omega))) (by (first | omega | (simp only [id_eq] at *; omega)))
                  exact ih217 (y217_3 + 1) w247 w268 (show (40 - (y217_3 + 1).toInt).toNat < n217 from by (first | omega | (simp only [id_eq] at *; omega))) (show (0 ≤ (y217_3 + 1).toInt ∧ (y217_3 + 1).toInt ≤ 40) from by (first | omega | (simp only [id_eq] at *; omega)))
            exact lp217 NN (0 : Int32) c109_F16 c109_F17 (by have := NN_eq; (first | omega | (simp only [id_eq] at *; omega))) (show (0 ≤ (0 : Int32).toInt ∧ (0 : Int32).toInt ≤ 40) from by (first | omega | (simp only [id_eq] at *; omega)))
          intro k215 Jk215
          have lp174 : ∀ (n174 : Nat) (y174_3 : Int32) (d174_F14 : (Nat → Int32)) (d174_F15 : (Nat → Int32)), (160 - y174_3.toInt).toNat < n174 → rng (-1) 16 d174_F15 → LQ w145 d174_F15 (g 9) → (0 ≤ y174_3.toInt ∧ y174_3.toInt ≤ 160) → y174_3.toInt ≤ 4 * (w145 6).toInt → (∀ t : Nat, (t : Int) < y174_3.toInt → d174_F15 (160 * (g 9).toInt.toNat + t) = d174_F15 (960 + t)) → wp (L_reform_174 g w145 k215 n174 y174_3 d174_F14 d174_F15) (Q_reform g F p0) := by
            intro n174
            induction n174 with
            | zero => intro y174_3 d174_F14 d174_F15 hm; exact absurd hm (Nat.not_lt_zero _)
            | succ n174 ih174 =>
              intro y174_3 d174_F14 d174_F15 hm174 hg77 hLQ78 f79 f80 f81
              show wp (B_reform_174 g w145 k215 (L_reform_174 g w145 k215 n174) y174_3 d174_F14 d174_F15) _
              unfold B_reform_174
              have hcp174 : (∀ t : Nat, (t : Int) < y174_3.toInt → d174_F15 (160 * (g 9).toInt.toNat + t) = d174_F15 (960 + t)) := by assumption
              refine wp_if ⟨by (first | omega | (simp only [id_eq] at *; omega)), by (first | omega | (simp only [id_eq] at *; omega))⟩ ?_
              have f82 := hF34 (Int32.toNatClampNeg (g 9))
              have f83 : (4 * (w145 (Int32.toNatClampNeg (g 9)))).toInt = 4 * (w145 (Int32.toNatClampNeg (g 9))).toInt := z_muld (by decide +kernel) (by (first | omega | (simp only [id_eq] at *; omega))) (by (first | omega | (simp only [id_eq] at *; omega)))
              refine wp_ite (fun c183 => ?_) (fun c183 => ?_)
              · have c183 := (z_le _ _).mp c183
                exact Jk215 d174_F14 d174_F15 hg77 hLQ78 (show (∀ t : Nat, (t : Int) < 4 * (w145 6).toInt → d174_F15 (160 * (g 9).toInt.toNat + t) = d174_F15 (960 + t)) from by exact (fun t ht => hcp174 t (by (first | omega | (simp only [id_eq] at *; omega)))))
              · have c183 := z_nle c183
                have f84 : (960 + y174_3).toInt = 960 + y174_3.toInt := z_addd (by decide +kernel) (by (first | omega | (simp only [id_eq] at *; omega))) (by (first | omega | (simp only [id_eq] at *; omega)))
                have f85 : (160 * (g 9)).toInt = 160 * (g 9).toInt := z_muld (by decide +kernel) (by (first | omega | (simp only [id_eq] at *; omega))) (by (first | omega | (simp only [id_eq] at *; omega)))
                have f86 : ((160 * (g 9)) + y174_3).toInt = (160 * (g 9)).toInt + y174_3.toInt := z_add (by (first | omega | (simp only [id_eq] at *; omega))) (by (first | omega | (simp only [id_eq] at *; omega)))
                obtain ⟨⟨c206_F14, c206_F15⟩, hc206, hq206⟩ := ok_copy d174_F14 17920 d174_F15 1120 (960 + y174_3) ((160 * (g 9)) + y174_3) hg77 (show (0 ≤ (960 + y174_3).toInt ∧ (960 + y174_3).toInt < 1120) from by (first | omega | (simp only [id_eq] at *; omega))) (show 16 * 1120 ≤ 17920 from by (first | omega | (simp only [id_eq] at *; omega))) (show 17920 ≤ 500000 from by (first | omega | (simp only [id_eq] at *; omega))) (show (0 ≤ ((160 * (g 9)) + y174_3).toInt ∧ ((160 * (g 9)) + y174_3).toInt < 1120) from by (first | omega | (simp only [id_eq] at *; omega)))
                obtain ⟨hg87, f88⟩ : (rng (-1) 16 c206_F15) ∧ (c206_F15 = upd d174_F15 (Int32.toNatClampNeg ((160 * (g 9)) + y174_3)) (d174_F15 (Int32.toNatClampNeg (960 + y174_3)))) := hq206
                refine wp_b2 hc206 ?_
                clear hc206
                have hLQ89 : LQ w145 c206_F15 (g 9) := by
                  exact lq_copy (k := y174_3) hLQ78 (by assumption) (by (first | omega | (simp only [id_eq] at *; omega))) (by (first | omega | (simp only [id_eq] at *; omega))) (by (first | omega | (simp only [id_eq] at *; omega))) (by (first | omega | (simp only [id_eq] at *; omega))) (by assumption)
                have f90 : (y174_3 + 1).toInt = y174_3.toInt + (1) := z_addc (by decide +kernel) (by (first | omega | (simp only [id_eq] at *; omega))) (by (first | omega | (simp only [id_eq] at *; omega)))
                exact ih174 (y174_3 + 1) c206_F14 c206_F15 (show (160 - (y174_3 + 1).toInt).toNat < n174 from by (first | omega | (simp only [id_eq] at *; omega))) hg87 hLQ89 (show (0 ≤ (y174_3 + 1).toInt ∧ (y174_3 + 1).toInt ≤ 160) from by first | (first | omega | (simp only [id_eq] at *; omega)) | exact cpy_step hcp174 (by assumption) (by (first | omega | (simp only [id_eq] at *; omega))) (by (first | omega | (simp only [id_eq] at *; omega))) (by (first | omega | (simp only [id_eq] at *; omega))) (by (first | omega | (simp only [id_eq] at *; omega))) (by (first | omega | (simp only [id_eq] at *; omega))) (by (first | omega | (simp only [id_eq] at *; omega)))) (show (y174_3 + 1).toInt ≤ 4 * (w145 6).toInt from by first | (first | omega | (simp only [id_eq] at *; omega)) | exact cpy_step hcp174 (by assumption) (by (first | omega | (simp only [id_eq] at *; omega))) (by (first | omega | (simp only [id_eq] at *; omega))) (by (first | omega | (simp only [id_eq] at *; omega))) (by (first | omega | (simp only [id_eq] at *; omega))) (by (first | omega | (simp only [id_eq] at *; omega))) (by (first | omega | (simp only [id_eq] at *; omega)))) (show (∀ t : Nat, (t : Int) < (y174_3 + 1).toInt → c206_F15 (160 * (g 9).toInt.toNat + t) = c206_F15 (960 + t)) from by first | (first | omega | (simp only [id_eq] at *; omega)) | exact cpy_step hcp174 (by assumption) (by (first | omega | (simp only [id_eq] at *; omega))) (by (first | omega | (simp only [id_eq] at *; omega))) (by (first | omega | (simp only [id_eq] at *; omega))) (by (first | omega | (simp only [id_eq] at *; omega))) (by (first | omega | (simp only [id_eq] at *; omega))) (by (first | omega | (simp only [id_eq] at *; omega))))
          exact lp174 NN (0 : Int32) c109_F14 c109_F15 (by have := NN_eq; (first | omega | (simp only [id_eq] at *; omega))) hg29 hLQ35 (show (0 ≤ (0 : Int32).toInt ∧ (0 : Int32).toInt ≤ 160) from by first | (first | omega | (simp only [id_eq] at *; omega)) | exact (fun t ht => absurd ht (by (first | omega | (simp only [id_eq] at *; omega))))) (show (0 : Int32).toInt ≤ 4 * (w145 6).toInt from by first | (first | omega | (simp only [id_eq] at *; omega)) | exact (fun t ht => absurd ht (by (first | omega | (simp only [id_eq] at *; omega))))) (show (∀ t : Nat, (t : Int) < (0 : Int32).toInt → c109_F15 (160 * (g 9).toInt.toNat + t) = c109_F15 (960 + t)) from by first | (first | omega | (simp only [id_eq] at *; omega)) | exact (fun t ht => absurd ht (by (first | omega | (simp only [id_eq] at *; omega)))))
      intro k109 Jk109
      have lp92 : ∀ (n92 : Nat) (d92_g3 : Int32) (d92_g4 : Int32) (d92_g5 : Int32) (d92_g6 : Int32) (d92_g7 : Int32) (d92_g8 : Int32) (d92_F11 : (Nat → Int32)) (d92_F12 : (Nat → Int32)) (d92_F13 : (Nat → Int32)) (d92_F14 : (Nat → Int32)) (d92_F15 : (Nat → Int32)) (d92_F16 : (Nat → Int32)) (d92_F17 : (Nat → Int32)) (d92_F18 : (Nat → Int32)) (d92_F19 : (Nat → Int32)) (d92_F20 : (Nat → Int32)) (d92_F21 : (Nat → Int32)), (mz d92_g3 d92_g6).toNat < n92 → ((0) ≤ d92_g3.toInt ∧ d92_g3.toInt ≤ 4) → ((-1) ≤ d92_g4.toInt ∧ d92_g4.toInt ≤ 8) → ((0) ≤ d92_g5.toInt ∧ d92_g5.toInt ≤ 2001) → ((0) ≤ d92_g6.toInt ∧ d92_g6.toInt ≤ 2001) → ((0) ≤ d92_g7.toInt ∧ d92_g7.toInt ≤ 4) → ((-1) ≤ d92_g8.toInt ∧ d92_g8.toInt ≤ 2001) → rng (0) 40 d92_F11 → rng (0) 40 d92_F12 → rng (0) 40 d92_F13 → rng (-1) 16 d92_F15 → rng (-1) 16 d92_F19 → rng (-1) 16 d92_F21 → LQ d92_F11 d92_F15 (g 9) → wp (L_reform_92 g F k109 n92 d92_g3 d92_g4 d92_g5 d92_g6 d92_g7 d92_g8 d92_F11 d92_F12 d92_F13 d92_F14 d92_F15 d92_F16 d92_F17 d92_F18 d92_F19 d92_F20 d92_F21) (Q_reform g F p0) := by
        intro n92
        induction n92 with
        | zero => intro d92_g3 d92_g4 d92_g5 d92_g6 d92_g7 d92_g8 d92_F11 d92_F12 d92_F13 d92_F14 d92_F15 d92_F16 d92_F17 d92_F18 d92_F19 d92_F20 d92_F21 hm; exact absurd hm (Nat.not_lt_zero _)
        | succ n92 ih92 =>
          intro d92_g3 d92_g4 d92_g5 d92_g6 d92_g7 d92_g8 d92_F11 d92_F12 d92_F13 d92_F14 d92_F15 d92_F16 d92_F17 d92_F18 d92_F19 d92_F20 d92_F21 hm92 hg91 hg92 hg93 hg94 hg95 hg96 hg97 hg98 hg99 hg100 hg101 hg102 hLQ103
          show wp (B_reform_92 g F k109 (L_reform_92 g F k109 n92) d92_g3 d92_g4 d92_g5 d92_g6 d92_g7 d92_g8 d92_F11 d92_F12 d92_F13 d92_F14 d92_F15 d92_F16 d92_F17 d92_F18 d92_F19 d92_F20 d92_F21) _
          unfold B_reform_92
          refine wp_ite (fun c97 => ?_) (fun c97 => ?_)
          · have c97 := congrArg Int32.toInt c97
            exact Jk109 d92_g3 d92_g4 d92_g5 d92_g6 d92_g7 d92_g8 d92_F11 d92_F12 d92_F13 d92_F14 d92_F15 d92_F16 d92_F17 d92_F18 d92_F19 d92_F20 d92_F21 hg91 hg92 hg93 hg94 hg95 hg96 hg97 hg98 hg99 hg100 hg101 hg102 hLQ103
          · have c97 := z_ne c97
            obtain ⟨⟨r101, c101_g3, c101_g4, c101_g5, c101_g6, c101_g7, c101_g8, c101_F11, c101_F12, c101_F13, c101_F14, c101_F15, c101_F16, c101_F17, c101_F18, c101_F19, c101_F20, c101_F21⟩, hc101, hq101⟩ := ok_readItem (upd (upd (upd (upd (upd (upd (upd (upd g 1 0) 2 (g 1)) 3 d92_g3) 4 d92_g4) 5 d92_g5) 6 d92_g6) 7 d92_g7) 8 d92_g8) (upF (upF (upF (upF (upF (upF (upF (upF (upF (upF (upF F 11 d92_F11) 12 d92_F12) 13 d92_F13) 14 d92_F14) 15 d92_F15) 16 d92_F16) 17 d92_F17) 18 d92_F18) 19 d92_F19) 20 d92_F20) 21 d92_F21) (MInv_i hg2 hg1 hg91 hg92 hg93 hg94 hg95 hg96 hzg9 hzg23 hzg27 hzg30 hzg34 hzg36 hzg39 hzg44 hzg47 hzg48 hzg51 hzg56 hzg59 hzg62 hzg65 hzg66 hzg70 hg97 hg98 hg99 hg100 hg101 hg102 hzF24 hzF25 hzF26 hzF33 hzF38 hzF41 hzF43 hzF45 hzF46 hzF50 hzF53 hzF54 hLQ103)
            obtain ⟨hg104, hg105, hg106, hg107, hg108, hg109, hg110, hg111, hg112, hg113, hg114, hg115, hLQ116, f117, f118⟩ : (((0) ≤ c101_g3.toInt ∧ c101_g3.toInt ≤ 4)) ∧ (((-1) ≤ c101_g4.toInt ∧ c101_g4.toInt ≤ 8)) ∧ (((0) ≤ c101_g5.toInt ∧ c101_g5.toInt ≤ 2001)) ∧ (((0) ≤ c101_g6.toInt ∧ c101_g6.toInt ≤ 2001)) ∧ (((0) ≤ c101_g7.toInt ∧ c101_g7.toInt ≤ 4)) ∧ (((-1) ≤ c101_g8.toInt ∧ c101_g8.toInt ≤ 2001)) ∧ (rng (0) 40 c101_F11) ∧ (rng (0) 40 c101_F12) ∧ (rng (0) 40 c101_F13) ∧ (rng (-1) 16 c101_F15) ∧ (rng (-1) 16 c101_F19) ∧ (rng (-1) 16 c101_F21) ∧ (LQ c101_F11 c101_F15 (g 9)) ∧ (id (r101.toInt = 1 → c101_g3.toInt = 4 ∨ d92_g6.toInt < c101_g6.toInt)) ∧ ((0 ≤ r101.toInt ∧ r101.toInt ≤ 1)) := hq101
            refine wp_b18 hc101 ?_
            clear hc101
            have hmz : r101.toInt = 1 → _ := fun h => mz_lt (s := d92_g3) (e := d92_g6) (s1 := c101_g3) (e1 := c101_g6) (by (first | omega | (simp only [id_eq] at *; omega))) (by (first | omega | (simp only [id_eq] at *; omega))) (by (first | omega | (simp only [id_eq] at *; omega)))
            refine wp_ite (fun c104 => ?_) (fun c104 => ?_)
            · have c104 := congrArg Int32.toInt c104
              exact ⟨_, rfl, ⟨hg2, hg1, hg104, hg105, hg106, hg107, hg108, hg109, hzg9, hzg51, hg110, hg111, hg112, hg113, hg114, hg115, hLQ116, (show (0 : Int32).toInt = 0 from by (first | omega | (simp only [id_eq] at *; omega)))⟩⟩
            · have c104 := z_ne c104
              exact ih92 c101_g3 c101_g4 c101_g5 c101_g6 c101_g7 c101_g8 c101_F11 c101_F12 c101_F13 c101_F14 c101_F15 c101_F16 c101_F17 c101_F18 c101_F19 c101_F20 c101_F21 (show (mz c101_g3 c101_g6).toNat < n92 from by (first | omega | (simp only [id_eq] at *; omega))) hg104 hg105 hg106 hg107 hg108 hg109 hg110 hg111 hg112 hg113 hg114 hg115 hLQ116
      exact lp92 NN c89_g3 c89_g4 c89_g5 c89_g6 (0 : Int32) (-1 : Int32) w66 w74 w82 (F 14) (F 15) (F 16) (F 17) (F 18) (F 19) (F 20) (F 21) (by have := NN_eq; (first | omega | (simp only [id_eq] at *; omega))) hg13 hg14 hg15 hg16 hg6 hg7 hF8 hF10 hF11 hzF15 hzF19 hzF21 hLQ9
  intro j38 Jj38
  refine wp_ite (fun c18 => ?_) (fun c18 => ?_)
  · have c18 := congrArg Int32.toInt c18
    exact Jj38 (0 : Int32)
  · have c18 := z_ne c18
    have f119 : ((g 9) - 1).toInt = (g 9).toInt - 1 := z_subc (by decide +kernel) (by (first | omega | (simp only [id_eq] at *; omega))) (by (first | omega | (simp only [id_eq] at *; omega)))
    refine wp_if ⟨by (first | omega | (simp only [id_eq] at *; omega)), by (first | omega | (simp only [id_eq] at *; omega))⟩ ?_
    exact Jj38 (((F 10) (Int32.toNatClampNeg ((g 9) - 1))) + 1)
