abbrev Q_readItem (g : Nat → Int32) (F : Nat → Nat → Int32) : (Int32 × Int32 × Int32 × Int32 × Int32 × Int32 × Int32 × (Nat → Int32) × (Nat → Int32) × (Nat → Int32) × (Nat → Int32) × (Nat → Int32) × (Nat → Int32) × (Nat → Int32) × (Nat → Int32) × (Nat → Int32) × (Nat → Int32) × (Nat → Int32)) → Prop := (fun t => (((0) ≤ (t.2.1).toInt ∧ (t.2.1).toInt ≤ 4)) ∧ (((-1) ≤ (t.2.2.1).toInt ∧ (t.2.2.1).toInt ≤ 8)) ∧ (((0) ≤ (t.2.2.2.1).toInt ∧ (t.2.2.2.1).toInt ≤ 2001)) ∧ (((0) ≤ (t.2.2.2.2.1).toInt ∧ (t.2.2.2.2.1).toInt ≤ 2001)) ∧ (((0) ≤ (t.2.2.2.2.2.1).toInt ∧ (t.2.2.2.2.2.1).toInt ≤ 4)) ∧ (((-1) ≤ (t.2.2.2.2.2.2.1).toInt ∧ (t.2.2.2.2.2.2.1).toInt ≤ 2001)) ∧ (rng (0) 40 (t.2.2.2.2.2.2.2.1)) ∧ (rng (0) 40 (t.2.2.2.2.2.2.2.2.1)) ∧ (rng (0) 40 (t.2.2.2.2.2.2.2.2.2.1)) ∧ (rng (-1) 16 (t.2.2.2.2.2.2.2.2.2.2.2.1)) ∧ (rng (-1) 16 (t.2.2.2.2.2.2.2.2.2.2.2.2.2.2.2.1)) ∧ (rng (-1) 16 (t.2.2.2.2.2.2.2.2.2.2.2.2.2.2.2.2.2)) ∧ (LQ (t.2.2.2.2.2.2.2.1) (t.2.2.2.2.2.2.2.2.2.2.2.1) (g 9)) ∧ (((t.1).toInt = 1 → (t.2.1).toInt = 4 ∨ (g 6).toInt < (t.2.2.2.2.1).toInt)) ∧ ((0 ≤ (t.1).toInt ∧ (t.1).toInt ≤ 1)))
set_option maxHeartbeats 4000000 in
set_option maxRecDepth 100000 in
theorem ok_readItem (g : Nat → Int32) (F : Nat → Nat → Int32) (hI : MInv g F) : wp (f_readItem g F) (Q_readItem g F) := by
  unfold f_readItem
  refine MInv_e hI (fun (hzg1 : id _) (hzg2 : id _) hzg3 hzg4 hzg5 hzg6 (hzg7 : id _) (hzg8 : id _) hzg9 (hzg23 : id _) (hzg27 : id _) (hzg30 : id _) (hzg34 : id _) (hzg36 : id _) (hzg39 : id _) (hzg44 : id _) (hzg47 : id _) (hzg48 : id _) (hzg51 : id _) (hzg56 : id _) (hzg59 : id _) (hzg62 : id _) (hzg65 : id _) (hzg66 : id _) (hzg70 : id _) hzF11 hzF12 hzF13 hzF15 hzF19 hzF21 hzF24 hzF25 hzF26 hzF33 hzF38 hzF41 hzF43 hzF45 hzF46 hzF50 hzF53 hzF54 hzLQ => ?_)
  clear hI
  have zk0 : (0 : Int32).toInt = 0 := by decide +kernel
  have zk1 : (1 : Int32).toInt = 1 := by decide +kernel
  have zk3 : (3 : Int32).toInt = 3 := by decide +kernel
  have zk4 : (4 : Int32).toInt = 4 := by decide +kernel
  refine wp_ite (fun c5 => ?_) (fun c5 => ?_)
  · have c5 := congrArg Int32.toInt c5
    refine wp_jn (fun j88 => ∀ (x88_1 : Int32) (c88_g3 : Int32) (c88_g4 : Int32) (c88_g5 : Int32) (c88_g6 : Int32) (c88_g7 : Int32) (c88_g8 : Int32) (c88_F11 : (Nat → Int32)) (c88_F12 : (Nat → Int32)) (c88_F13 : (Nat → Int32)) (c88_F14 : (Nat → Int32)) (c88_F15 : (Nat → Int32)) (c88_F16 : (Nat → Int32)) (c88_F17 : (Nat → Int32)) (c88_F18 : (Nat → Int32)) (c88_F19 : (Nat → Int32)) (c88_F20 : (Nat → Int32)) (c88_F21 : (Nat → Int32)), ((0) ≤ c88_g3.toInt ∧ c88_g3.toInt ≤ 4) → ((-1) ≤ c88_g4.toInt ∧ c88_g4.toInt ≤ 8) → ((0) ≤ c88_g5.toInt ∧ c88_g5.toInt ≤ 2001) → ((0) ≤ c88_g6.toInt ∧ c88_g6.toInt ≤ 2001) → ((0) ≤ c88_g7.toInt ∧ c88_g7.toInt ≤ 4) → ((-1) ≤ c88_g8.toInt ∧ c88_g8.toInt ≤ 2001) → rng (0) 40 c88_F11 → rng (0) 40 c88_F12 → rng (0) 40 c88_F13 → rng (-1) 16 c88_F15 → rng (-1) 16 c88_F19 → rng (-1) 16 c88_F21 → LQ c88_F11 c88_F15 (g 9) → (g 6).toInt ≤ c88_g6.toInt → (0 ≤ x88_1.toInt ∧ x88_1.toInt ≤ 1) → wp (j88 x88_1 c88_g3 c88_g4 c88_g5 c88_g6 c88_g7 c88_g8 c88_F11 c88_F12 c88_F13 c88_F14 c88_F15 c88_F16 c88_F17 c88_F18 c88_F19 c88_F20 c88_F21) (Q_readItem g F)) ?_ ?_
    · intro x88_1 c88_g3 c88_g4 c88_g5 c88_g6 c88_g7 c88_g8 c88_F11 c88_F12 c88_F13 c88_F14 c88_F15 c88_F16 c88_F17 c88_F18 c88_F19 c88_F20 c88_F21 hg1 hg2 hg3 hg4 hg5 hg6 hg7 hg8 hg9 hg10 hg11 hg12 hLQ13 f14 f15
      show wp _ _
      refine wp_ite (fun c89 => ?_) (fun c89 => ?_)
      · have c89 := congrArg Int32.toInt c89
        exact ⟨_, rfl, ⟨hg1, hg2, hg3, hg4, hg5, hg6, hg7, hg8, hg9, hg10, hg11, hg12, hLQ13, (show ((0 : Int32).toInt = 1 → c88_g3.toInt = 4 ∨ (g 6).toInt < c88_g6.toInt) from by (first | omega | (simp only [id_eq] at *; omega))), (show (0 ≤ (0 : Int32).toInt ∧ (0 : Int32).toInt ≤ 1) from by (first | omega | (simp only [id_eq] at *; omega)))⟩⟩
      · have c89 := z_ne c89
        refine wp_ite (fun c99 => ?_) (fun c99 => ?_)
        · have c99 := congrArg Int32.toInt c99
          obtain ⟨⟨c109_g3, c109_g4, c109_g5, c109_g6⟩, hc109, hq109⟩ := ok_scan (upd (upd (upd (upd (upd (upd g 3 c88_g3) 4 c88_g4) 5 c88_g5) 6 c88_g6) 7 c88_g7) 8 c88_g8) (upF (upF (upF (upF (upF (upF (upF (upF (upF (upF (upF F 11 c88_F11) 12 c88_F12) 13 c88_F13) 14 c88_F14) 15 c88_F15) 16 c88_F16) 17 c88_F17) 18 c88_F18) 19 c88_F19) 20 c88_F20) 21 c88_F21) (MInv_i hzg1 hzg2 hg1 hg2 hg3 hg4 hg5 hg6 hzg9 hzg23 hzg27 hzg30 hzg34 hzg36 hzg39 hzg44 hzg47 hzg48 hzg51 hzg56 hzg59 hzg62 hzg65 hzg66 hzg70 hg7 hg8 hg9 hg10 hg11 hg12 hzF24 hzF25 hzF26 hzF33 hzF38 hzF41 hzF43 hzF45 hzF46 hzF50 hzF53 hzF54 hLQ13)
          obtain ⟨hg16, hg17, hg18, hg19, f20, f21, f22⟩ : (((0) ≤ c109_g3.toInt ∧ c109_g3.toInt ≤ 4)) ∧ (((-1) ≤ c109_g4.toInt ∧ c109_g4.toInt ≤ 8)) ∧ (((0) ≤ c109_g5.toInt ∧ c109_g5.toInt ≤ 2001)) ∧ (((0) ≤ c109_g6.toInt ∧ c109_g6.toInt ≤ 2001)) ∧ (id (c109_g3.toInt = 2 → c109_g5.toInt + 2 ≤ c109_g6.toInt ∧ c109_g6.toInt ≤ c109_g5.toInt + 18 ∧ c109_g6.toInt ≤ 2000)) ∧ (id (c109_g3.toInt ≠ 4 → c88_g6.toInt < c109_g6.toInt)) ∧ (c88_g6.toInt ≤ c109_g6.toInt) := hq109
          refine wp_b4 hc109 ?_
          clear hc109
          exact ⟨_, rfl, ⟨hg16, hg17, hg18, hg19, hg5, hg6, hg7, hg8, hg9, hg10, hg11, hg12, hLQ13, (show ((1 : Int32).toInt = 1 → c109_g3.toInt = 4 ∨ (g 6).toInt < c109_g6.toInt) from by (first | omega | (simp only [id_eq] at *; omega))), (show (0 ≤ (1 : Int32).toInt ∧ (1 : Int32).toInt ≤ 1) from by (first | omega | (simp only [id_eq] at *; omega)))⟩⟩
        · have c99 := z_ne c99
          obtain ⟨⟨r104, c104_g7, c104_g8⟩, hc104, hq104⟩ := ok_wrong (upd (upd (upd (upd (upd (upd g 3 c88_g3) 4 c88_g4) 5 c88_g5) 6 c88_g6) 7 c88_g7) 8 c88_g8) (upF (upF (upF (upF (upF (upF (upF (upF (upF (upF (upF F 11 c88_F11) 12 c88_F12) 13 c88_F13) 14 c88_F14) 15 c88_F15) 16 c88_F16) 17 c88_F17) 18 c88_F18) 19 c88_F19) 20 c88_F20) 21 c88_F21) 1 (MInv_i hzg1 hzg2 hg1 hg2 hg3 hg4 hg5 hg6 hzg9 hzg23 hzg27 hzg30 hzg34 hzg36 hzg39 hzg44 hzg47 hzg48 hzg51 hzg56 hzg59 hzg62 hzg65 hzg66 hzg70 hg7 hg8 hg9 hg10 hg11 hg12 hzF24 hzF25 hzF26 hzF33 hzF38 hzF41 hzF43 hzF45 hzF46 hzF50 hzF53 hzF54 hLQ13) (show 0 ≤ (1 : Int32).toInt ∧ (1 : Int32).toInt ≤ 4 from by (first | omega | (simp only [id_eq] at *; omega)))
          obtain ⟨hg23, hg24, f25, f26⟩ : (((0) ≤ c104_g7.toInt ∧ c104_g7.toInt ≤ 4)) ∧ (((-1) ≤ c104_g8.toInt ∧ c104_g8.toInt ≤ 2001)) ∧ (r104.toInt = 0) ∧ ((0 ≤ r104.toInt ∧ r104.toInt ≤ 1)) := hq104
          refine wp_b3 hc104 ?_
          clear hc104
          refine wp_if ⟨by (first | omega | (simp only [id_eq] at *; omega)), by (first | omega | (simp only [id_eq] at *; omega))⟩ ?_
          exact ⟨_, rfl, ⟨hg1, hg2, hg3, hg4, hg23, hg24, hg7, hg8, hg9, hg10, hg11, hg12, hLQ13, (show (r104.toInt = 1 → c88_g3.toInt = 4 ∨ (g 6).toInt < c88_g6.toInt) from by (first | omega | (simp only [id_eq] at *; omega))), (show (0 ≤ r104.toInt ∧ r104.toInt ≤ 1) from by (first | omega | (simp only [id_eq] at *; omega)))⟩⟩
    intro j88 Jj88
    refine wp_jn (fun j29 => wp (j29 ()) (Q_readItem g F)) ?_ ?_
    · show wp _ _
      show wp _ _
      refine wp_jn (fun j43 => ∀ (t43_0 : Int32), (0 ≤ t43_0.toInt ∧ t43_0.toInt ≤ 1) → wp (j43 t43_0) (Q_readItem g F)) ?_ ?_
      · intro t43_0 f27
        show wp _ _
        obtain ⟨⟨r43, c43_g3, c43_g4, c43_g5, c43_g6, c43_g7, c43_g8, c43_F13, c43_F20, c43_F21⟩, hc43, hq43⟩ := ok_readListed g F t43_0 (MInv_i hzg1 hzg2 hzg3 hzg4 hzg5 hzg6 hzg7 hzg8 hzg9 hzg23 hzg27 hzg30 hzg34 hzg36 hzg39 hzg44 hzg47 hzg48 hzg51 hzg56 hzg59 hzg62 hzg65 hzg66 hzg70 hzF11 hzF12 hzF13 hzF15 hzF19 hzF21 hzF24 hzF25 hzF26 hzF33 hzF38 hzF41 hzF43 hzF45 hzF46 hzF50 hzF53 hzF54 hzLQ)
        obtain ⟨hg28, hg29, hg30, hg31, hg32, hg33, hg34, hg35, f36, f37⟩ : (((0) ≤ c43_g3.toInt ∧ c43_g3.toInt ≤ 4)) ∧ (((-1) ≤ c43_g4.toInt ∧ c43_g4.toInt ≤ 8)) ∧ (((0) ≤ c43_g5.toInt ∧ c43_g5.toInt ≤ 2001)) ∧ (((0) ≤ c43_g6.toInt ∧ c43_g6.toInt ≤ 2001)) ∧ (((0) ≤ c43_g7.toInt ∧ c43_g7.toInt ≤ 4)) ∧ (((-1) ≤ c43_g8.toInt ∧ c43_g8.toInt ≤ 2001)) ∧ (rng (0) 40 c43_F13) ∧ (rng (-1) 16 c43_F21) ∧ ((g 6).toInt ≤ c43_g6.toInt) ∧ ((0 ≤ r43.toInt ∧ r43.toInt ≤ 1)) := hq43
        refine wp_b10 hc43 ?_
        clear hc43
        exact Jj88 r43 c43_g3 c43_g4 c43_g5 c43_g6 c43_g7 c43_g8 (F 11) (F 12) c43_F13 (F 14) (F 15) (F 16) (F 17) (F 18) (F 19) c43_F20 c43_F21 hg28 hg29 hg30 hg31 hg32 hg33 hzF11 hzF12 hg34 hzF15 hzF19 hg35 hzLQ (show (g 6).toInt ≤ c43_g6.toInt from by (first | omega | (simp only [id_eq] at *; omega))) (show (0 ≤ r43.toInt ∧ r43.toInt ≤ 1) from by (first | omega | (simp only [id_eq] at *; omega)))
      intro j43 Jj43
      refine wp_ite (fun c35 => ?_) (fun c35 => ?_)
      · have c35 := congrArg Int32.toInt c35
        exact Jj43 (1 : Int32) (show (0 ≤ (1 : Int32).toInt ∧ (1 : Int32).toInt ≤ 1) from by (first | omega | (simp only [id_eq] at *; omega)))
      · have c35 := z_ne c35
        exact Jj43 (0 : Int32) (show (0 ≤ (0 : Int32).toInt ∧ (0 : Int32).toInt ≤ 1) from by (first | omega | (simp only [id_eq] at *; omega)))
    intro j29 Jj29
    refine wp_ite (fun c18 => ?_) (fun c18 => ?_)
    · have c18 := congrArg Int32.toInt c18
      exact Jj29
    · have c18 := z_ne c18
      refine wp_ite (fun c26 => ?_) (fun c26 => ?_)
      · have c26 := congrArg Int32.toInt c26
        exact Jj29
      · have c26 := z_ne c26
        refine wp_ite (fun c55 => ?_) (fun c55 => ?_)
        · have c55 := congrArg Int32.toInt c55
          obtain ⟨⟨r59, c59_g3, c59_g4, c59_g5, c59_g6, c59_g7, c59_g8, c59_F12, c59_F18, c59_F19⟩, hc59, hq59⟩ := ok_readPart g F (MInv_i hzg1 hzg2 hzg3 hzg4 hzg5 hzg6 hzg7 hzg8 hzg9 hzg23 hzg27 hzg30 hzg34 hzg36 hzg39 hzg44 hzg47 hzg48 hzg51 hzg56 hzg59 hzg62 hzg65 hzg66 hzg70 hzF11 hzF12 hzF13 hzF15 hzF19 hzF21 hzF24 hzF25 hzF26 hzF33 hzF38 hzF41 hzF43 hzF45 hzF46 hzF50 hzF53 hzF54 hzLQ)
          obtain ⟨hg38, hg39, hg40, hg41, hg42, hg43, hg44, hg45, f46, f47⟩ : (((0) ≤ c59_g3.toInt ∧ c59_g3.toInt ≤ 4)) ∧ (((-1) ≤ c59_g4.toInt ∧ c59_g4.toInt ≤ 8)) ∧ (((0) ≤ c59_g5.toInt ∧ c59_g5.toInt ≤ 2001)) ∧ (((0) ≤ c59_g6.toInt ∧ c59_g6.toInt ≤ 2001)) ∧ (((0) ≤ c59_g7.toInt ∧ c59_g7.toInt ≤ 4)) ∧ (((-1) ≤ c59_g8.toInt ∧ c59_g8.toInt ≤ 2001)) ∧ (rng (0) 40 c59_F12) ∧ (rng (-1) 16 c59_F19) ∧ ((g 6).toInt ≤ c59_g6.toInt) ∧ ((0 ≤ r59.toInt ∧ r59.toInt ≤ 1)) := hq59
          refine wp_b10 hc59 ?_
          clear hc59
          exact Jj88 r59 c59_g3 c59_g4 c59_g5 c59_g6 c59_g7 c59_g8 (F 11) c59_F12 (F 13) (F 14) (F 15) (F 16) (F 17) c59_F18 c59_F19 (F 20) (F 21) hg38 hg39 hg40 hg41 hg42 hg43 hzF11 hg44 hzF13 hzF15 hg45 hzF21 hzLQ (show (g 6).toInt ≤ c59_g6.toInt from by (first | omega | (simp only [id_eq] at *; omega))) (show (0 ≤ r59.toInt ∧ r59.toInt ≤ 1) from by (first | omega | (simp only [id_eq] at *; omega)))
        · have c55 := z_ne c55
          refine wp_ite (fun c71 => ?_) (fun c71 => ?_)
          · have c71 := congrArg Int32.toInt c71
            obtain ⟨⟨r75, c75_g3, c75_g4, c75_g5, c75_g6, c75_g7, c75_g8, c75_F11, c75_F14, c75_F15, c75_F16, c75_F17⟩, hc75, hq75⟩ := ok_readLaw g F (MInv_i hzg1 hzg2 hzg3 hzg4 hzg5 hzg6 hzg7 hzg8 hzg9 hzg23 hzg27 hzg30 hzg34 hzg36 hzg39 hzg44 hzg47 hzg48 hzg51 hzg56 hzg59 hzg62 hzg65 hzg66 hzg70 hzF11 hzF12 hzF13 hzF15 hzF19 hzF21 hzF24 hzF25 hzF26 hzF33 hzF38 hzF41 hzF43 hzF45 hzF46 hzF50 hzF53 hzF54 hzLQ)
            obtain ⟨hg48, hg49, hg50, hg51, hg52, hg53, hg54, hg55, hLQ56, f57, f58⟩ : (((0) ≤ c75_g3.toInt ∧ c75_g3.toInt ≤ 4)) ∧ (((-1) ≤ c75_g4.toInt ∧ c75_g4.toInt ≤ 8)) ∧ (((0) ≤ c75_g5.toInt ∧ c75_g5.toInt ≤ 2001)) ∧ (((0) ≤ c75_g6.toInt ∧ c75_g6.toInt ≤ 2001)) ∧ (((0) ≤ c75_g7.toInt ∧ c75_g7.toInt ≤ 4)) ∧ (((-1) ≤ c75_g8.toInt ∧ c75_g8.toInt ≤ 2001)) ∧ (rng (0) 40 c75_F11) ∧ (rng (-1) 16 c75_F15) ∧ (LQ c75_F11 c75_F15 (g 9)) ∧ ((g 6).toInt ≤ c75_g6.toInt) ∧ ((0 ≤ r75.toInt ∧ r75.toInt ≤ 1)) := hq75
            refine wp_b12 hc75 ?_
            clear hc75
            exact Jj88 r75 c75_g3 c75_g4 c75_g5 c75_g6 c75_g7 c75_g8 c75_F11 (F 12) (F 13) c75_F14 c75_F15 c75_F16 c75_F17 (F 18) (F 19) (F 20) (F 21) hg48 hg49 hg50 hg51 hg52 hg53 hg54 hzF12 hzF13 hg55 hzF19 hzF21 hLQ56 (show (g 6).toInt ≤ c75_g6.toInt from by (first | omega | (simp only [id_eq] at *; omega))) (show (0 ≤ r75.toInt ∧ r75.toInt ≤ 1) from by (first | omega | (simp only [id_eq] at *; omega)))
          · have c71 := z_ne c71
            obtain ⟨⟨r84, c84_g7, c84_g8⟩, hc84, hq84⟩ := ok_wrong g F 1 (MInv_i hzg1 hzg2 hzg3 hzg4 hzg5 hzg6 hzg7 hzg8 hzg9 hzg23 hzg27 hzg30 hzg34 hzg36 hzg39 hzg44 hzg47 hzg48 hzg51 hzg56 hzg59 hzg62 hzg65 hzg66 hzg70 hzF11 hzF12 hzF13 hzF15 hzF19 hzF21 hzF24 hzF25 hzF26 hzF33 hzF38 hzF41 hzF43 hzF45 hzF46 hzF50 hzF53 hzF54 hzLQ) (show 0 ≤ (1 : Int32).toInt ∧ (1 : Int32).toInt ≤ 4 from by (first | omega | (simp only [id_eq] at *; omega)))
            obtain ⟨hg59, hg60, f61, f62⟩ : (((0) ≤ c84_g7.toInt ∧ c84_g7.toInt ≤ 4)) ∧ (((-1) ≤ c84_g8.toInt ∧ c84_g8.toInt ≤ 2001)) ∧ (r84.toInt = 0) ∧ ((0 ≤ r84.toInt ∧ r84.toInt ≤ 1)) := hq84
            refine wp_b3 hc84 ?_
            clear hc84
            refine wp_if ⟨by (first | omega | (simp only [id_eq] at *; omega)), by (first | omega | (simp only [id_eq] at *; omega))⟩ ?_
            exact ⟨_, rfl, ⟨hzg3, hzg4, hzg5, hzg6, hg59, hg60, hzF11, hzF12, hzF13, hzF15, hzF19, hzF21, hzLQ, (show (r84.toInt = 1 → (g 3).toInt = 4 ∨ (g 6).toInt < (g 6).toInt) from by (first | omega | (simp only [id_eq] at *; omega))), (show (0 ≤ r84.toInt ∧ r84.toInt ≤ 1) from by (first | omega | (simp only [id_eq] at *; omega)))⟩⟩
  · have c5 := z_ne c5
    obtain ⟨⟨r10, c10_g7, c10_g8⟩, hc10, hq10⟩ := ok_wrong g F 1 (MInv_i hzg1 hzg2 hzg3 hzg4 hzg5 hzg6 hzg7 hzg8 hzg9 hzg23 hzg27 hzg30 hzg34 hzg36 hzg39 hzg44 hzg47 hzg48 hzg51 hzg56 hzg59 hzg62 hzg65 hzg66 hzg70 hzF11 hzF12 hzF13 hzF15 hzF19 hzF21 hzF24 hzF25 hzF26 hzF33 hzF38 hzF41 hzF43 hzF45 hzF46 hzF50 hzF53 hzF54 hzLQ) (show 0 ≤ (1 : Int32).toInt ∧ (1 : Int32).toInt ≤ 4 from by (first | omega | (simp only [id_eq] at *; omega)))
    obtain ⟨hg63, hg64, f65, f66⟩ : (((0) ≤ c10_g7.toInt ∧ c10_g7.toInt ≤ 4)) ∧ (((-1) ≤ c10_g8.toInt ∧ c10_g8.toInt ≤ 2001)) ∧ (r10.toInt = 0) ∧ ((0 ≤ r10.toInt ∧ r10.toInt ≤ 1)) := hq10
    refine wp_b3 hc10 ?_
    clear hc10
    refine wp_if ⟨by (first | omega | (simp only [id_eq] at *; omega)), by (first | omega | (simp only [id_eq] at *; omega))⟩ ?_
    exact ⟨_, rfl, ⟨hzg3, hzg4, hzg5, hzg6, hg63, hg64, hzF11, hzF12, hzF13, hzF15, hzF19, hzF21, hzLQ, (show (r10.toInt = 1 → (g 3).toInt = 4 ∨ (g 6).toInt < (g 6).toInt) from by (first | omega | (simp only [id_eq] at *; omega))), (show (0 ≤ r10.toInt ∧ r10.toInt ≤ 1) from by (first | omega | (simp only [id_eq] at *; omega)))⟩⟩
