abbrev QF_writeWord (g : Nat → Int32) (F : Nat → Nat → Int32) (p0 : Int32) (p1 : Int32) (p2 : Int32) (p3 : Int32) (d : Nat → Dr) (st : Wd × Ty) : (Int32 × Int32 × Int32 × Int32 × Int32 × Int32 × Int32 × Int32 × (Nat → Int32) × (Nat → Int32) × (Nat → Int32) × (Nat → Int32) × (Nat → Int32) × (Nat → Int32) × (Nat → Int32) × (Nat → Int32) × (Nat → Int32) × (Nat → Int32) × (Nat → Int32) × (Nat → Int32) × (Nat → Int32) × (Nat → Int32) × (Nat → Int32)) → Prop := (fun t => (((t.1).toInt ≠ 0 → wdl (t.2.2.2.2.2.2.2.2.2.2.2.2.2.2.2.2.2.2.2.2.2.1) 0 (Int32.toNatClampNeg (t.2.2.2.2.2.2.2.1)) = (wdS d (Int32.toNatClampNeg p2) (Int32.toNatClampNeg p3 - Int32.toNatClampNeg p2) (wdl (F 0) (Int32.toNatClampNeg p0) (Int32.toNatClampNeg p1 - Int32.toNatClampNeg p0)) st).1 ∧ TYA (t.2.2.2.2.2.2.2.2.2.2.2.2.2.2.2.2.2.2.2.2.2.2) (wdS d (Int32.toNatClampNeg p2) (Int32.toNatClampNeg p3 - Int32.toNatClampNeg p2) (wdl (F 0) (Int32.toNatClampNeg p0) (Int32.toNatClampNeg p1 - Int32.toNatClampNeg p0)) st).2)) ∧ (((t.1).toInt = 0 → 2500 < (wdS d (Int32.toNatClampNeg p2) (Int32.toNatClampNeg p3 - Int32.toNatClampNeg p2) (wdl (F 0) (Int32.toNatClampNeg p0) (Int32.toNatClampNeg p1 - Int32.toNatClampNeg p0)) st).1.length)) ∧ ((BW (wdl (F 61) 0 (Int32.toNatClampNeg (g 66))) → BW (wdl (t.2.2.2.2.2.2.2.2.2.2.2.2.2.2.2.2.2.2.2.2.2.1) 0 (Int32.toNatClampNeg (t.2.2.2.2.2.2.2.1))))))
set_option maxHeartbeats 4000000 in
set_option maxRecDepth 100000 in
theorem fn_writeWord (g : Nat → Int32) (F : Nat → Nat → Int32) (p0 : Int32) (p1 : Int32) (p2 : Int32) (p3 : Int32) (d : Nat → Dr) (st : Wd × Ty) (hI : MInv g F) (hp0 : (0 ≤ p0.toInt ∧ p0.toInt ≤ p1.toInt ∧ p1.toInt ≤ 2000)) (hp1 : (0 ≤ p2.toInt ∧ p2.toInt ≤ 6)) (hp2 : p3.toInt ≤ (g 9).toInt) (hrv : ∀ q : Nat, p2.toInt ≤ (q : Int) → (q : Int) < p3.toInt → RVd (F 13) (F 20) (F 21) (F 12) (F 18) (F 19) (F 11) (F 14) (F 15) (F 16) (F 17) q = d q ∧ WFD (d q)) (hfit : ∀ i, fits .byte (.int ((F 0) i)) = true) (hlt : p0.toInt < p1.toInt) (hst : wdl (F 61) 0 (Int32.toNatClampNeg (g 66)) = st.1 ∧ TYA (F 64) st.2) : pw (f_writeWord g F p0 p1 p2 p3) (QF_writeWord g F p0 p1 p2 p3 d st) := by
  unfold f_writeWord
  have hI9 : id (MInv g F) := hI
  obtain ⟨-, -, -, -, -, -, -, -, hzg9, hzg23, -, -, -, -, hzg39, -, -, -, -, -, -, -, -, hzg66, -, hzF11, hzF12, hzF13, hzF15, hzF19, hzF21, hzF24, hzF25, hzF26, hzF33, hzF38, hzF41, hzF43, hzF45, hzF46, hzF50, hzF53, hzF54, hzLQ⟩ := hI
  have zk0 : (0 : Int32).toInt = 0 := by decide +kernel
  have zk1 : (1 : Int32).toInt = 1 := by decide +kernel
  have zk2 : (2 : Int32).toInt = 2 := by decide +kernel
  have zk3 : (3 : Int32).toInt = 3 := by decide +kernel
  have zk4 : (4 : Int32).toInt = 4 := by decide +kernel
  have zk24 : (24 : Int32).toInt = 24 := by decide +kernel
  have cp0 := clampI (x := p0) (by omega)
  have cp1 := clampI (x := p1) (by omega)
  have cp2 := clampI (x := p2) (by omega)
  have hb66 := hzg66
  have c66 := clampI (x := g 66) (by omega)
  have hd0 := hst.1
  have hMI3 : id (MInv g F) := show MInv g F from (MInv_i ((hI9.1)) ((hI9.2.1)) ((hI9.2.2.1)) ((hI9.2.2.2.1)) ((hI9.2.2.2.2.1)) ((hI9.2.2.2.2.2.1)) ((hI9.2.2.2.2.2.2.1)) ((hI9.2.2.2.2.2.2.2.1)) hzg9 hzg23 ((hI9.2.2.2.2.2.2.2.2.2.2.1)) ((hI9.2.2.2.2.2.2.2.2.2.2.2.1)) ((hI9.2.2.2.2.2.2.2.2.2.2.2.2.1)) ((hI9.2.2.2.2.2.2.2.2.2.2.2.2.2.1)) hzg39 ((hI9.2.2.2.2.2.2.2.2.2.2.2.2.2.2.2.1)) ((hI9.2.2.2.2.2.2.2.2.2.2.2.2.2.2.2.2.1)) ((hI9.2.2.2.2.2.2.2.2.2.2.2.2.2.2.2.2.2.1)) ((hI9.2.2.2.2.2.2.2.2.2.2.2.2.2.2.2.2.2.2.1)) ((hI9.2.2.2.2.2.2.2.2.2.2.2.2.2.2.2.2.2.2.2.1)) ((hI9.2.2.2.2.2.2.2.2.2.2.2.2.2.2.2.2.2.2.2.2.1)) ((hI9.2.2.2.2.2.2.2.2.2.2.2.2.2.2.2.2.2.2.2.2.2.1)) ((hI9.2.2.2.2.2.2.2.2.2.2.2.2.2.2.2.2.2.2.2.2.2.2.1)) hzg66 ((hI9.2.2.2.2.2.2.2.2.2.2.2.2.2.2.2.2.2.2.2.2.2.2.2.2.1)) hzF11 hzF12 hzF13 hzF15 hzF19 hzF21 hzF24 hzF25 hzF26 hzF33 hzF38 hzF41 hzF43 hzF45 hzF46 hzF50 hzF53 hzF54 hzLQ)
  have hpr3_0 : 0 ≤ p0.toInt := by first | assumption | omega
  have hpr3_1 : p1.toInt ≤ 2000 := by first | assumption | omega
  refine pw_b1 (fun r3 hc3 => ?_)
  have hq3 := wp_at (ok_isName g F p0 p1 hMI3 hpr3_0 hpr3_1) hc3
  have f1 : (0 ≤ r3.toInt ∧ r3.toInt ≤ 1) := hq3
  clear hq3
  have h83_hle : p0.toInt ≤ p1.toInt := by omega
  have hx3 := pwq (fn_isName g F p0 p1 hMI3 hpr3_0 hpr3_1 h83_hle) hc3
  obtain ⟨p3_0, p3_1⟩ : (id ((r3.toInt ≠ 0 → nmB (wdl (F 0) (Int32.toNatClampNeg p0) (Int32.toNatClampNeg p1 - Int32.toNatClampNeg p0)) = true))) ∧ (id ((r3.toInt = 0 → nmB (wdl (F 0) (Int32.toNatClampNeg p0) (Int32.toNatClampNeg p1 - Int32.toNatClampNeg p0)) = false))) := hx3
  refine pw_ite (fun c6 => ?_) (fun c6 => ?_)
  · have c6 := congrArg Int32.toInt c6
    have hnm := p3_1 (by omega)
    refine pw_if (fun hb38 => ?_)
    obtain ⟨hbl38, hbr38⟩ := hb38
    refine pw_if (fun hb41 => ?_)
    obtain ⟨hbl41, hbr41⟩ := hb41
    refine pw_vl (fun w41 ew41 => ?_)
    have hg2 : ((0) ≤ (0 : Int32).toInt ∧ (0 : Int32).toInt ≤ 12) := ⟨by omega, by omega⟩
    have f3 : (p1 - p0).toInt = p1.toInt - p0.toInt := z_sub (by omega) (by omega)
    refine pw_jE (fun j74 ej74 => ?_)
    refine pw_ite (fun c52 => ?_) (fun c52 => ?_)
    · have c52 := (z_lt _ _).mp c52
      refine pw_j19 ej74 (fun z74_1 ez74_1 z74_2 ez74_2 z74_3 ez74_3 z74_4 ez74_4 z74_5 ez74_5 z74_6 ez74_6 z74_7 ez74_7 z74_8 ez74_8 z74_9 ez74_9 z74_10 ez74_10 z74_11 ez74_11 z74_12 ez74_12 z74_13 ez74_13 z74_14 ez74_14 z74_15 ez74_15 z74_16 ez74_16 z74_17 ez74_17 z74_18 ez74_18 z74_19 ez74_19 => ?_)
      subst ez74_1 ez74_2 ez74_3 ez74_4 ez74_5 ez74_6 ez74_7 ez74_8 ez74_9 ez74_10 ez74_11 ez74_12 ez74_13 ez74_14 ez74_15 ez74_16 ez74_17 ez74_18 ez74_19
      refine pw_if (fun hb80 => ?_)
      obtain ⟨hbl80, hbr80⟩ := hb80
      refine pw_jE (fun j94 ej94 => ?_)
      refine pw_ite (fun c86 => ?_) (fun c86 => ?_)
      · have c86 := (z_le _ _).mp c86
        refine pw_j1 ej94 (fun t94_0 et94_0 => ?_)
        have et94_0 := et94_0.symm
        have f_t94_0 : t94_0.toInt = 0 := by rw [et94_0]; decide +kernel
        refine pw_if (fun hb95 => ?_)
        obtain ⟨hbl95, hbr95⟩ := hb95
        refine pw_vl (fun w95 ew95 => ?_)
        refine pw_if (fun hb102 => ?_)
        obtain ⟨hbl102, hbr102⟩ := hb102
        refine pw_jE (fun j115 ej115 => ?_)
        refine pw_ite (fun c107 => ?_) (fun c107 => ?_)
        · have c107 := congrArg Int32.toInt c107
          refine pw_j1 ej115 (fun t115_0 et115_0 => ?_)
          have et115_0 := et115_0.symm
          have f_t115_0 : t115_0.toInt = 1 := by rw [et115_0]; decide +kernel
          refine pw_if (fun hb116 => ?_)
          obtain ⟨hbl116, hbr116⟩ := hb116
          refine pw_vl (fun w116 ew116 => ?_)
          refine pw_ite (fun c121 => ?_) (fun c121 => ?_)
          · have c121 := congrArg Int32.toInt c121
            have hlost : 24 < ((wdl (F 0) (Int32.toNatClampNeg p0) (Int32.toNatClampNeg p1 - Int32.toNatClampNeg p0))).length ∨ thF d (Int32.toNatClampNeg p2) (Int32.toNatClampNeg p3 - Int32.toNatClampNeg p2) [(wdl (F 0) (Int32.toNatClampNeg p0) (Int32.toNatClampNeg p1 - Int32.toNatClampNeg p0))] = [] := by first | exact Or.inl (by rw [wdl_len]; have km := clampI (x := p1 - p0) (by omega); omega) | exact Or.inr (by rw [← p71_0]; exact List.length_eq_zero_iff.mp (by rw [rw_len]; have k9 := clampI (x := c71_g39) (by omega); omega))
            have hMI133 : id (MInv (upd g 39 0) (upF F 64 w116)) := show MInv (upd g 39 0) (upF F 64 w116) from (MInv_i ((hI9.1)) ((hI9.2.1)) ((hI9.2.2.1)) ((hI9.2.2.2.1)) ((hI9.2.2.2.2.1)) ((hI9.2.2.2.2.2.1)) ((hI9.2.2.2.2.2.2.1)) ((hI9.2.2.2.2.2.2.2.1)) hzg9 hzg23 ((hI9.2.2.2.2.2.2.2.2.2.2.1)) ((hI9.2.2.2.2.2.2.2.2.2.2.2.1)) ((hI9.2.2.2.2.2.2.2.2.2.2.2.2.1)) ((hI9.2.2.2.2.2.2.2.2.2.2.2.2.2.1)) hg2 ((hI9.2.2.2.2.2.2.2.2.2.2.2.2.2.2.2.1)) ((hI9.2.2.2.2.2.2.2.2.2.2.2.2.2.2.2.2.1)) ((hI9.2.2.2.2.2.2.2.2.2.2.2.2.2.2.2.2.2.1)) ((hI9.2.2.2.2.2.2.2.2.2.2.2.2.2.2.2.2.2.2.1)) ((hI9.2.2.2.2.2.2.2.2.2.2.2.2.2.2.2.2.2.2.2.1)) ((hI9.2.2.2.2.2.2.2.2.2.2.2.2.2.2.2.2.2.2.2.2.1)) ((hI9.2.2.2.2.2.2.2.2.2.2.2.2.2.2.2.2.2.2.2.2.2.1)) ((hI9.2.2.2.2.2.2.2.2.2.2.2.2.2.2.2.2.2.2.2.2.2.2.1)) hzg66 ((hI9.2.2.2.2.2.2.2.2.2.2.2.2.2.2.2.2.2.2.2.2.2.2.2.2.1)) hzF11 hzF12 hzF13 hzF15 hzF19 hzF21 hzF24 hzF25 hzF26 hzF33 hzF38 hzF41 hzF43 hzF45 hzF46 hzF50 hzF53 hzF54 hzLQ)
            have hpr133_0 : (0 ≤ p0.toInt ∧ 0 ≤ (p1 - p0).toInt ∧ p0.toInt + (p1 - p0).toInt ≤ 2000) := by first | assumption | omega
            have hpr133_1 : 2000 ≤ 2500 := by first | assumption | omega
            refine pw_b3 (fun r133 c133_g66 c133_F61 hc133 => ?_)
            have hq133 := wp_at (ok_write1 (upd g 39 0) (upF F 64 w116) (F 0) 2000 p0 (p1 - p0) hMI133 hpr133_0 hpr133_1) hc133
            obtain ⟨hg5, f6⟩ : (((0) ≤ c133_g66.toInt ∧ c133_g66.toInt ≤ 2500)) ∧ ((0 ≤ r133.toInt ∧ r133.toInt ≤ 1)) := hq133
            have h8133_hbx : BW (wdl (F 0) (Int32.toNatClampNeg p0) (Int32.toNatClampNeg (p1 - p0))) := by intro y hy; unfold wdl at hy; obtain ⟨j, _, e9⟩ := List.mem_map.mp hy; rw [← e9]; exact fit_id (hfit _)
            have hx133 := pwq (fn_write1 (upd g 39 0) (upF F 64 w116) (F 0) 2000 p0 (p1 - p0) hMI133 hpr133_0 hpr133_1 h8133_hbx) hc133
            obtain ⟨p133_0, p133_1, p133_2⟩ : (id ((r133.toInt ≠ 0 → wdl c133_F61 0 (Int32.toNatClampNeg c133_g66) = wdl (F 61) 0 (Int32.toNatClampNeg (g 66)) ++ wdl (F 0) (Int32.toNatClampNeg p0) (Int32.toNatClampNeg (p1 - p0))))) ∧ (id ((r133.toInt = 0 → 2500 < Int32.toNatClampNeg (g 66) + Int32.toNatClampNeg (p1 - p0)))) ∧ (id ((BW (wdl (F 61) 0 (Int32.toNatClampNeg (g 66))) → BW (wdl c133_F61 0 (Int32.toNatClampNeg c133_g66))))) := hx133
            have km := clampI (x := p1 - p0) (by omega)
            rw [show Int32.toNatClampNeg (p1 - p0) = Int32.toNatClampNeg p1 - Int32.toNatClampNeg p0 by omega] at p133_0 p133_1
            refine pw_if (fun hb136 => ?_)
            obtain ⟨hbl136, hbr136⟩ := hb136
            have qq0 : (r133.toInt ≠ 0 → wdl c133_F61 0 (Int32.toNatClampNeg c133_g66) = (wdS d (Int32.toNatClampNeg p2) (Int32.toNatClampNeg p3 - Int32.toNatClampNeg p2) (wdl (F 0) (Int32.toNatClampNeg p0) (Int32.toNatClampNeg p1 - Int32.toNatClampNeg p0)) st).1 ∧ TYA w116 (wdS d (Int32.toNatClampNeg p2) (Int32.toNatClampNeg p3 - Int32.toNatClampNeg p2) (wdl (F 0) (Int32.toNatClampNeg p0) (Int32.toNatClampNeg p1 - Int32.toNatClampNeg p0)) st).2) := by intro h; have h9 := p133_0 (by omega); refine ⟨?_, ty_0 hnm hlost hst.2 ew41 ew95 et94_0 ew116 et115_0⟩; rw [h9, hst.1, wdS_0 hnm hlost]
            have qq1 : (r133.toInt = 0 → 2500 < (wdS d (Int32.toNatClampNeg p2) (Int32.toNatClampNeg p3 - Int32.toNatClampNeg p2) (wdl (F 0) (Int32.toNatClampNeg p0) (Int32.toNatClampNeg p1 - Int32.toNatClampNeg p0)) st).1.length) := by intro h; have h9 := p133_1 (by omega); rw [wdS_0 hnm hlost]; show 2500 < (st.1 ++ _).length; rw [List.length_append, wdl_len, ← hst.1, wdl_len]; exact h9
            have qq2 : (BW (wdl (F 61) 0 (Int32.toNatClampNeg (g 66))) → BW (wdl c133_F61 0 (Int32.toNatClampNeg c133_g66))) := by exact p133_2
            exact pw_some ⟨qq0, qq1, qq2⟩
          · have c121 := z_ne c121
            exfalso; omega
        · have c107 := z_ne c107
          exfalso; omega
      · have c86 := z_nle c86
        exfalso; omega
    · have c52 := z_nlt c52
      have km := clampI (x := p1 - p0) (by omega)
      have hMI64 : id (MInv (upd g 39 0) (upF F 64 w41)) := show MInv (upd g 39 0) (upF F 64 w41) from (MInv_i ((hI9.1)) ((hI9.2.1)) ((hI9.2.2.1)) ((hI9.2.2.2.1)) ((hI9.2.2.2.2.1)) ((hI9.2.2.2.2.2.1)) ((hI9.2.2.2.2.2.2.1)) ((hI9.2.2.2.2.2.2.2.1)) hzg9 hzg23 ((hI9.2.2.2.2.2.2.2.2.2.2.1)) ((hI9.2.2.2.2.2.2.2.2.2.2.2.1)) ((hI9.2.2.2.2.2.2.2.2.2.2.2.2.1)) ((hI9.2.2.2.2.2.2.2.2.2.2.2.2.2.1)) hg2 ((hI9.2.2.2.2.2.2.2.2.2.2.2.2.2.2.2.1)) ((hI9.2.2.2.2.2.2.2.2.2.2.2.2.2.2.2.2.1)) ((hI9.2.2.2.2.2.2.2.2.2.2.2.2.2.2.2.2.2.1)) ((hI9.2.2.2.2.2.2.2.2.2.2.2.2.2.2.2.2.2.2.1)) ((hI9.2.2.2.2.2.2.2.2.2.2.2.2.2.2.2.2.2.2.2.1)) ((hI9.2.2.2.2.2.2.2.2.2.2.2.2.2.2.2.2.2.2.2.2.1)) ((hI9.2.2.2.2.2.2.2.2.2.2.2.2.2.2.2.2.2.2.2.2.2.1)) ((hI9.2.2.2.2.2.2.2.2.2.2.2.2.2.2.2.2.2.2.2.2.2.2.1)) hzg66 ((hI9.2.2.2.2.2.2.2.2.2.2.2.2.2.2.2.2.2.2.2.2.2.2.2.2.1)) hzF11 hzF12 hzF13 hzF15 hzF19 hzF21 hzF24 hzF25 hzF26 hzF33 hzF38 hzF41 hzF43 hzF45 hzF46 hzF50 hzF53 hzF54 hzLQ)
      have hpr64_0 : (0 ≤ p0.toInt ∧ p0.toInt + (p1 - p0).toInt ≤ 2000) := by first | assumption | omega
      have hpr64_1 : 2000 ≤ 500000 := by first | assumption | omega
      have hpr64_2 : (0 ≤ (p1 - p0).toInt ∧ (p1 - p0).toInt ≤ 24) := by first | assumption | omega
      refine pw_b2 (fun c64_g23 c64_F22 hc64 => ?_)
      have hq64 := wp_at (ok_takeWord (upd g 39 0) (upF F 64 w41) (F 0) 2000 p0 (p1 - p0) hMI64 hpr64_0 hpr64_1 hpr64_2) hc64
      obtain ⟨hg8, f9⟩ : (((0) ≤ c64_g23.toInt ∧ c64_g23.toInt ≤ 24)) ∧ (c64_g23.toInt = (p1 - p0).toInt) := hq64
      have h864_hbx : BW (wdl (F 0) (Int32.toNatClampNeg p0) (Int32.toNatClampNeg (p1 - p0))) := by intro y hy; unfold wdl at hy; obtain ⟨j, _, e9⟩ := List.mem_map.mp hy; rw [← e9]; exact fit_id (hfit _)
      have hx64 := pwq (fn_takeWord (upd g 39 0) (upF F 64 w41) (F 0) 2000 p0 (p1 - p0) hMI64 hpr64_0 hpr64_1 hpr64_2 h864_hbx) hc64
      obtain ⟨p64_0, p64_1⟩ : (c64_g23.toInt = (p1 - p0).toInt) ∧ (wdl c64_F22 0 (Int32.toNatClampNeg c64_g23) = wdl (F 0) (Int32.toNatClampNeg p0) (Int32.toNatClampNeg (p1 - p0))) := hx64
      rw [show Int32.toNatClampNeg (p1 - p0) = Int32.toNatClampNeg p1 - Int32.toNatClampNeg p0 by omega] at p64_1
      have hMI71 : id (MInv (upd (upd g 23 c64_g23) 39 0) (upF (upF F 22 c64_F22) 64 w41)) := show MInv (upd (upd g 23 c64_g23) 39 0) (upF (upF F 22 c64_F22) 64 w41) from (MInv_i ((hI9.1)) ((hI9.2.1)) ((hI9.2.2.1)) ((hI9.2.2.2.1)) ((hI9.2.2.2.2.1)) ((hI9.2.2.2.2.2.1)) ((hI9.2.2.2.2.2.2.1)) ((hI9.2.2.2.2.2.2.2.1)) hzg9 hg8 ((hI9.2.2.2.2.2.2.2.2.2.2.1)) ((hI9.2.2.2.2.2.2.2.2.2.2.2.1)) ((hI9.2.2.2.2.2.2.2.2.2.2.2.2.1)) ((hI9.2.2.2.2.2.2.2.2.2.2.2.2.2.1)) hg2 ((hI9.2.2.2.2.2.2.2.2.2.2.2.2.2.2.2.1)) ((hI9.2.2.2.2.2.2.2.2.2.2.2.2.2.2.2.2.1)) ((hI9.2.2.2.2.2.2.2.2.2.2.2.2.2.2.2.2.2.1)) ((hI9.2.2.2.2.2.2.2.2.2.2.2.2.2.2.2.2.2.2.1)) ((hI9.2.2.2.2.2.2.2.2.2.2.2.2.2.2.2.2.2.2.2.1)) ((hI9.2.2.2.2.2.2.2.2.2.2.2.2.2.2.2.2.2.2.2.2.1)) ((hI9.2.2.2.2.2.2.2.2.2.2.2.2.2.2.2.2.2.2.2.2.2.1)) ((hI9.2.2.2.2.2.2.2.2.2.2.2.2.2.2.2.2.2.2.2.2.2.2.1)) hzg66 ((hI9.2.2.2.2.2.2.2.2.2.2.2.2.2.2.2.2.2.2.2.2.2.2.2.2.1)) hzF11 hzF12 hzF13 hzF15 hzF19 hzF21 hzF24 hzF25 hzF26 hzF33 hzF38 hzF41 hzF43 hzF45 hzF46 hzF50 hzF53 hzF54 hzLQ)
      have hpr71_0 : (0 ≤ p2.toInt ∧ p2.toInt ≤ 6) := by first | assumption | omega
      have hpr71_1 : p3.toInt ≤ (g 9).toInt := by first | assumption | omega
      refine pw_b19 (fun c71_g23 c71_g27 c71_g30 c71_g34 c71_g36 c71_g39 c71_F22 c71_F24 c71_F25 c71_F26 c71_F28 c71_F29 c71_F31 c71_F32 c71_F33 c71_F37 c71_F38 c71_F40 c71_F41 hc71 => ?_)
      have hq71 := wp_at (ok_through (upd (upd g 23 c64_g23) 39 0) (upF (upF F 22 c64_F22) 64 w41) p2 p3 hMI71 hpr71_0 hpr71_1) hc71
      obtain ⟨hg10, hg11, hg12, hg13, hg14, hg15, hg16, hg17, hg18, hg19, hg20, hg21⟩ : (((0) ≤ c71_g23.toInt ∧ c71_g23.toInt ≤ 24)) ∧ (((0) ≤ c71_g27.toInt ∧ c71_g27.toInt ≤ 30)) ∧ (((0) ≤ c71_g30.toInt ∧ c71_g30.toInt ≤ 384)) ∧ (((0) ≤ c71_g34.toInt ∧ c71_g34.toInt ≤ 30)) ∧ (((0) ≤ c71_g36.toInt ∧ c71_g36.toInt ≤ 1)) ∧ (((0) ≤ c71_g39.toInt ∧ c71_g39.toInt ≤ 12)) ∧ (rng (0) 24 c71_F24) ∧ (rng (0) 24 c71_F25) ∧ (rng (0) 24 c71_F26) ∧ (rng (0) 24 c71_F33) ∧ (rng (0) 24 c71_F38) ∧ (rng (0) 24 c71_F41) := hq71
      have h871_hrv : id (∀ q : Nat, p2.toInt ≤ (q : Int) → (q : Int) < p3.toInt → RVd (F 13) (F 20) (F 21) (F 12) (F 18) (F 19) (F 11) (F 14) (F 15) (F 16) (F 17) q = d q ∧ WFD (d q)) := show ∀ q : Nat, p2.toInt ≤ (q : Int) → (q : Int) < p3.toInt → RVd (F 13) (F 20) (F 21) (F 12) (F 18) (F 19) (F 11) (F 14) (F 15) (F 16) (F 17) q = d q ∧ WFD (d q) from by exact hrv
      have h871_hW : wdl c64_F22 0 (Int32.toNatClampNeg c64_g23) = ((wdl (F 0) (Int32.toNatClampNeg p0) (Int32.toNatClampNeg p1 - Int32.toNatClampNeg p0))) := by exact p64_1
      have h871_hl1 : 1 ≤ c64_g23.toInt := by omega
      have h871_hbw : BW ((wdl (F 0) (Int32.toNatClampNeg p0) (Int32.toNatClampNeg p1 - Int32.toNatClampNeg p0))) := by intro y hy; unfold wdl at hy; obtain ⟨j, _, e9⟩ := List.mem_map.mp hy; rw [← e9]; exact fit_id (hfit _)
      have hx71 := pwq (fn_through (upd (upd g 23 c64_g23) 39 0) (upF (upF F 22 c64_F22) 64 w41) p2 p3 (d) ((wdl (F 0) (Int32.toNatClampNeg p0) (Int32.toNatClampNeg p1 - Int32.toNatClampNeg p0))) hMI71 hpr71_0 hpr71_1 h871_hrv h871_hW h871_hl1 h871_hbw) hc71
      obtain ⟨p71_0, p71_1⟩ : (rwW c71_g39 c71_F37 c71_F38 24 = thF d (Int32.toNatClampNeg p2) (Int32.toNatClampNeg p3 - Int32.toNatClampNeg p2) [((wdl (F 0) (Int32.toNatClampNeg p0) (Int32.toNatClampNeg p1 - Int32.toNatClampNeg p0)))]) ∧ (WDS (thF d (Int32.toNatClampNeg p2) (Int32.toNatClampNeg p3 - Int32.toNatClampNeg p2) [((wdl (F 0) (Int32.toNatClampNeg p0) (Int32.toNatClampNeg p1 - Int32.toNatClampNeg p0)))])) := hx71
      refine pw_j19 ej74 (fun z74_1 ez74_1 z74_2 ez74_2 z74_3 ez74_3 z74_4 ez74_4 z74_5 ez74_5 z74_6 ez74_6 z74_7 ez74_7 z74_8 ez74_8 z74_9 ez74_9 z74_10 ez74_10 z74_11 ez74_11 z74_12 ez74_12 z74_13 ez74_13 z74_14 ez74_14 z74_15 ez74_15 z74_16 ez74_16 z74_17 ez74_17 z74_18 ez74_18 z74_19 ez74_19 => ?_)
      subst ez74_1 ez74_2 ez74_3 ez74_4 ez74_5 ez74_6 ez74_7 ez74_8 ez74_9 ez74_10 ez74_11 ez74_12 ez74_13 ez74_14 ez74_15 ez74_16 ez74_17 ez74_18 ez74_19
      refine pw_if (fun hb80 => ?_)
      obtain ⟨hbl80, hbr80⟩ := hb80
      refine pw_jE (fun j94 ej94 => ?_)
      refine pw_ite (fun c86 => ?_) (fun c86 => ?_)
      · have c86 := (z_le _ _).mp c86
        refine pw_j1 ej94 (fun t94_0 et94_0 => ?_)
        have et94_0 := et94_0.symm
        have f_t94_0 : t94_0.toInt = 0 := by rw [et94_0]; decide +kernel
        refine pw_if (fun hb95 => ?_)
        obtain ⟨hbl95, hbr95⟩ := hb95
        refine pw_vl (fun w95 ew95 => ?_)
        refine pw_if (fun hb102 => ?_)
        obtain ⟨hbl102, hbr102⟩ := hb102
        refine pw_jE (fun j115 ej115 => ?_)
        refine pw_ite (fun c107 => ?_) (fun c107 => ?_)
        · have c107 := congrArg Int32.toInt c107
          refine pw_j1 ej115 (fun t115_0 et115_0 => ?_)
          have et115_0 := et115_0.symm
          have f_t115_0 : t115_0.toInt = 1 := by rw [et115_0]; decide +kernel
          refine pw_if (fun hb116 => ?_)
          obtain ⟨hbl116, hbr116⟩ := hb116
          refine pw_vl (fun w116 ew116 => ?_)
          refine pw_ite (fun c121 => ?_) (fun c121 => ?_)
          · have c121 := congrArg Int32.toInt c121
            have hlost : 24 < ((wdl (F 0) (Int32.toNatClampNeg p0) (Int32.toNatClampNeg p1 - Int32.toNatClampNeg p0))).length ∨ thF d (Int32.toNatClampNeg p2) (Int32.toNatClampNeg p3 - Int32.toNatClampNeg p2) [(wdl (F 0) (Int32.toNatClampNeg p0) (Int32.toNatClampNeg p1 - Int32.toNatClampNeg p0))] = [] := by first | exact Or.inl (by rw [wdl_len]; have km := clampI (x := p1 - p0) (by omega); omega) | exact Or.inr (by rw [← p71_0]; exact List.length_eq_zero_iff.mp (by rw [rw_len]; have k9 := clampI (x := c71_g39) (by omega); omega))
            have hMI133 : id (MInv (upd (upd (upd (upd (upd (upd g 23 c71_g23) 27 c71_g27) 30 c71_g30) 34 c71_g34) 36 c71_g36) 39 c71_g39) (upF (upF (upF (upF (upF (upF (upF (upF (upF (upF (upF (upF (upF (upF F 22 c71_F22) 24 c71_F24) 25 c71_F25) 26 c71_F26) 28 c71_F28) 29 c71_F29) 31 c71_F31) 32 c71_F32) 33 c71_F33) 37 c71_F37) 38 c71_F38) 40 c71_F40) 41 c71_F41) 64 w116)) := show MInv (upd (upd (upd (upd (upd (upd g 23 c71_g23) 27 c71_g27) 30 c71_g30) 34 c71_g34) 36 c71_g36) 39 c71_g39) (upF (upF (upF (upF (upF (upF (upF (upF (upF (upF (upF (upF (upF (upF F 22 c71_F22) 24 c71_F24) 25 c71_F25) 26 c71_F26) 28 c71_F28) 29 c71_F29) 31 c71_F31) 32 c71_F32) 33 c71_F33) 37 c71_F37) 38 c71_F38) 40 c71_F40) 41 c71_F41) 64 w116) from (MInv_i ((hI9.1)) ((hI9.2.1)) ((hI9.2.2.1)) ((hI9.2.2.2.1)) ((hI9.2.2.2.2.1)) ((hI9.2.2.2.2.2.1)) ((hI9.2.2.2.2.2.2.1)) ((hI9.2.2.2.2.2.2.2.1)) hzg9 hg10 hg11 hg12 hg13 hg14 hg15 ((hI9.2.2.2.2.2.2.2.2.2.2.2.2.2.2.2.1)) ((hI9.2.2.2.2.2.2.2.2.2.2.2.2.2.2.2.2.1)) ((hI9.2.2.2.2.2.2.2.2.2.2.2.2.2.2.2.2.2.1)) ((hI9.2.2.2.2.2.2.2.2.2.2.2.2.2.2.2.2.2.2.1)) ((hI9.2.2.2.2.2.2.2.2.2.2.2.2.2.2.2.2.2.2.2.1)) ((hI9.2.2.2.2.2.2.2.2.2.2.2.2.2.2.2.2.2.2.2.2.1)) ((hI9.2.2.2.2.2.2.2.2.2.2.2.2.2.2.2.2.2.2.2.2.2.1)) ((hI9.2.2.2.2.2.2.2.2.2.2.2.2.2.2.2.2.2.2.2.2.2.2.1)) hzg66 ((hI9.2.2.2.2.2.2.2.2.2.2.2.2.2.2.2.2.2.2.2.2.2.2.2.2.1)) hzF11 hzF12 hzF13 hzF15 hzF19 hzF21 hg16 hg17 hg18 hg19 hg20 hg21 hzF43 hzF45 hzF46 hzF50 hzF53 hzF54 hzLQ)
            have hpr133_0 : (0 ≤ p0.toInt ∧ 0 ≤ (p1 - p0).toInt ∧ p0.toInt + (p1 - p0).toInt ≤ 2000) := by first | assumption | omega
            have hpr133_1 : 2000 ≤ 2500 := by first | assumption | omega
            refine pw_b3 (fun r133 c133_g66 c133_F61 hc133 => ?_)
            have hq133 := wp_at (ok_write1 (upd (upd (upd (upd (upd (upd g 23 c71_g23) 27 c71_g27) 30 c71_g30) 34 c71_g34) 36 c71_g36) 39 c71_g39) (upF (upF (upF (upF (upF (upF (upF (upF (upF (upF (upF (upF (upF (upF F 22 c71_F22) 24 c71_F24) 25 c71_F25) 26 c71_F26) 28 c71_F28) 29 c71_F29) 31 c71_F31) 32 c71_F32) 33 c71_F33) 37 c71_F37) 38 c71_F38) 40 c71_F40) 41 c71_F41) 64 w116) (F 0) 2000 p0 (p1 - p0) hMI133 hpr133_0 hpr133_1) hc133
            obtain ⟨hg23, f24⟩ : (((0) ≤ c133_g66.toInt ∧ c133_g66.toInt ≤ 2500)) ∧ ((0 ≤ r133.toInt ∧ r133.toInt ≤ 1)) := hq133
            have h8133_hbx : BW (wdl (F 0) (Int32.toNatClampNeg p0) (Int32.toNatClampNeg (p1 - p0))) := by intro y hy; unfold wdl at hy; obtain ⟨j, _, e9⟩ := List.mem_map.mp hy; rw [← e9]; exact fit_id (hfit _)
            have hx133 := pwq (fn_write1 (upd (upd (upd (upd (upd (upd g 23 c71_g23) 27 c71_g27) 30 c71_g30) 34 c71_g34) 36 c71_g36) 39 c71_g39) (upF (upF (upF (upF (upF (upF (upF (upF (upF (upF (upF (upF (upF (upF F 22 c71_F22) 24 c71_F24) 25 c71_F25) 26 c71_F26) 28 c71_F28) 29 c71_F29) 31 c71_F31) 32 c71_F32) 33 c71_F33) 37 c71_F37) 38 c71_F38) 40 c71_F40) 41 c71_F41) 64 w116) (F 0) 2000 p0 (p1 - p0) hMI133 hpr133_0 hpr133_1 h8133_hbx) hc133
            obtain ⟨p133_0, p133_1, p133_2⟩ : (id ((r133.toInt ≠ 0 → wdl c133_F61 0 (Int32.toNatClampNeg c133_g66) = wdl (F 61) 0 (Int32.toNatClampNeg (g 66)) ++ wdl (F 0) (Int32.toNatClampNeg p0) (Int32.toNatClampNeg (p1 - p0))))) ∧ (id ((r133.toInt = 0 → 2500 < Int32.toNatClampNeg (g 66) + Int32.toNatClampNeg (p1 - p0)))) ∧ (id ((BW (wdl (F 61) 0 (Int32.toNatClampNeg (g 66))) → BW (wdl c133_F61 0 (Int32.toNatClampNeg c133_g66))))) := hx133
            have km := clampI (x := p1 - p0) (by omega)
            rw [show Int32.toNatClampNeg (p1 - p0) = Int32.toNatClampNeg p1 - Int32.toNatClampNeg p0 by omega] at p133_0 p133_1
            refine pw_if (fun hb136 => ?_)
            obtain ⟨hbl136, hbr136⟩ := hb136
            have qq0 : (r133.toInt ≠ 0 → wdl c133_F61 0 (Int32.toNatClampNeg c133_g66) = (wdS d (Int32.toNatClampNeg p2) (Int32.toNatClampNeg p3 - Int32.toNatClampNeg p2) (wdl (F 0) (Int32.toNatClampNeg p0) (Int32.toNatClampNeg p1 - Int32.toNatClampNeg p0)) st).1 ∧ TYA w116 (wdS d (Int32.toNatClampNeg p2) (Int32.toNatClampNeg p3 - Int32.toNatClampNeg p2) (wdl (F 0) (Int32.toNatClampNeg p0) (Int32.toNatClampNeg p1 - Int32.toNatClampNeg p0)) st).2) := by intro h; have h9 := p133_0 (by omega); refine ⟨?_, ty_0 hnm hlost hst.2 ew41 ew95 et94_0 ew116 et115_0⟩; rw [h9, hst.1, wdS_0 hnm hlost]
            have qq1 : (r133.toInt = 0 → 2500 < (wdS d (Int32.toNatClampNeg p2) (Int32.toNatClampNeg p3 - Int32.toNatClampNeg p2) (wdl (F 0) (Int32.toNatClampNeg p0) (Int32.toNatClampNeg p1 - Int32.toNatClampNeg p0)) st).1.length) := by intro h; have h9 := p133_1 (by omega); rw [wdS_0 hnm hlost]; show 2500 < (st.1 ++ _).length; rw [List.length_append, wdl_len, ← hst.1, wdl_len]; exact h9
            have qq2 : (BW (wdl (F 61) 0 (Int32.toNatClampNeg (g 66))) → BW (wdl c133_F61 0 (Int32.toNatClampNeg c133_g66))) := by exact p133_2
            exact pw_some ⟨qq0, qq1, qq2⟩
          · have c121 := z_ne c121
            exfalso; omega
        · have c107 := z_ne c107
          refine pw_j1 ej115 (fun t115_0 et115_0 => ?_)
          have et115_0 := et115_0.symm
          have f_t115_0 : t115_0.toInt = 0 := by rw [et115_0]; decide +kernel
          refine pw_if (fun hb116 => ?_)
          obtain ⟨hbl116, hbr116⟩ := hb116
          refine pw_vl (fun w116 ew116 => ?_)
          refine pw_ite (fun c121 => ?_) (fun c121 => ?_)
          · have c121 := congrArg Int32.toInt c121
            exfalso; omega
          · have c121 := z_ne c121
            have k39 := clampI (x := c71_g39) (by omega)
            obtain ⟨xs, hx1, hx2⟩ := rw_hd p71_0 (by omega)
            have hx0 := p71_1 _ (by rw [hx1]; exact List.mem_cons_self)
            have hl24 : ((wdl (F 0) (Int32.toNatClampNeg p0) (Int32.toNatClampNeg p1 - Int32.toNatClampNeg p0))).length ≤ 24 := by rw [wdl_len]; omega
            have hz0 := hg20 0
            have k38 := clampI (x := c71_F38 0) (by omega)
            refine pw_if (fun hb143 => ?_)
            obtain ⟨hbl143, hbr143⟩ := hb143
            refine pw_if (fun hb154 => ?_)
            obtain ⟨hbl154, hbr154⟩ := hb154
            have f25 := hg20 (Int32.toNatClampNeg (0 : Int32))
            have hpr163_0 : (0 ≤ (0 : Int32).toInt ∧ (0 : Int32).toInt + (c71_F38 (Int32.toNatClampNeg 0)).toInt ≤ 288) := by first | assumption | omega
            have hpr163_1 : 288 ≤ 500000 := by first | assumption | omega
            have hpr163_2 : (0 ≤ p0.toInt ∧ p0.toInt + (p1 - p0).toInt ≤ 2000) := by first | assumption | omega
            have hpr163_3 : 2000 ≤ 500000 := by first | assumption | omega
            refine pw_b1 (fun r163 hc163 => ?_)
            have hq163 := wp_at (ok_sameBytes c71_F37 288 (0 : Int32) (c71_F38 (Int32.toNatClampNeg 0)) (F 0) 2000 p0 (p1 - p0) hpr163_0 hpr163_1 hpr163_2 hpr163_3) hc163
            have f27 : (0 ≤ r163.toInt ∧ r163.toInt ≤ 1) := hq163
            clear hq163
            have h8163_h02 : 0 ≤ (c71_F38 (Int32.toNatClampNeg 0)).toInt := by show 0 ≤ (c71_F38 0).toInt; omega
            have h8163_h05 : 0 ≤ (p1 - p0).toInt := by omega
            have hx163 := pwq (fn_sameBytes c71_F37 288 (0 : Int32) (c71_F38 (Int32.toNatClampNeg 0)) (F 0) 2000 p0 (p1 - p0) hpr163_0 hpr163_1 hpr163_2 hpr163_3 h8163_h02 h8163_h05) hc163
            obtain ⟨p163_0, p163_1⟩ : (id ((r163.toInt ≠ 0 → wdl c71_F37 (Int32.toNatClampNeg (0 : Int32)) (Int32.toNatClampNeg (c71_F38 (Int32.toNatClampNeg 0))) = wdl (F 0) (Int32.toNatClampNeg p0) (Int32.toNatClampNeg (p1 - p0))))) ∧ (id ((r163.toInt = 0 → wdl c71_F37 (Int32.toNatClampNeg (0 : Int32)) (Int32.toNatClampNeg (c71_F38 (Int32.toNatClampNeg 0))) ≠ wdl (F 0) (Int32.toNatClampNeg p0) (Int32.toNatClampNeg (p1 - p0))))) := hx163
            rw [show Int32.toNatClampNeg (p1 - p0) = Int32.toNatClampNeg p1 - Int32.toNatClampNeg p0 by omega] at p163_0 p163_1
            rw [show Int32.toNatClampNeg (0 : Int32) = 0 from rfl] at p163_0 p163_1
            refine pw_jE (fun j174 ej174 => ?_)
            refine pw_ite (fun c166 => ?_) (fun c166 => ?_)
            · have c166 := congrArg Int32.toInt c166
              refine pw_j1 ej174 (fun t174_0 et174_0 => ?_)
              have et174_0 := et174_0.symm
              have f_t174_0 : t174_0.toInt = 1 := by rw [et174_0]; decide +kernel
              refine pw_if (fun hb175 => ?_)
              obtain ⟨hbl175, hbr175⟩ := hb175
              refine pw_vl (fun w175 ew175 => ?_)
              refine pw_if (fun hb187 => ?_)
              obtain ⟨hbl187, hbr187⟩ := hb187
              have hMI188 : id (MInv (upd (upd (upd (upd (upd (upd g 23 c71_g23) 27 c71_g27) 30 c71_g30) 34 c71_g34) 36 c71_g36) 39 c71_g39) (upF (upF (upF (upF (upF (upF (upF (upF (upF (upF (upF (upF (upF (upF F 22 c71_F22) 24 c71_F24) 25 c71_F25) 26 c71_F26) 28 c71_F28) 29 c71_F29) 31 c71_F31) 32 c71_F32) 33 c71_F33) 37 c71_F37) 38 c71_F38) 40 c71_F40) 41 c71_F41) 64 w175)) := show MInv (upd (upd (upd (upd (upd (upd g 23 c71_g23) 27 c71_g27) 30 c71_g30) 34 c71_g34) 36 c71_g36) 39 c71_g39) (upF (upF (upF (upF (upF (upF (upF (upF (upF (upF (upF (upF (upF (upF F 22 c71_F22) 24 c71_F24) 25 c71_F25) 26 c71_F26) 28 c71_F28) 29 c71_F29) 31 c71_F31) 32 c71_F32) 33 c71_F33) 37 c71_F37) 38 c71_F38) 40 c71_F40) 41 c71_F41) 64 w175) from (MInv_i ((hI9.1)) ((hI9.2.1)) ((hI9.2.2.1)) ((hI9.2.2.2.1)) ((hI9.2.2.2.2.1)) ((hI9.2.2.2.2.2.1)) ((hI9.2.2.2.2.2.2.1)) ((hI9.2.2.2.2.2.2.2.1)) hzg9 hg10 hg11 hg12 hg13 hg14 hg15 ((hI9.2.2.2.2.2.2.2.2.2.2.2.2.2.2.2.1)) ((hI9.2.2.2.2.2.2.2.2.2.2.2.2.2.2.2.2.1)) ((hI9.2.2.2.2.2.2.2.2.2.2.2.2.2.2.2.2.2.1)) ((hI9.2.2.2.2.2.2.2.2.2.2.2.2.2.2.2.2.2.2.1)) ((hI9.2.2.2.2.2.2.2.2.2.2.2.2.2.2.2.2.2.2.2.1)) ((hI9.2.2.2.2.2.2.2.2.2.2.2.2.2.2.2.2.2.2.2.2.1)) ((hI9.2.2.2.2.2.2.2.2.2.2.2.2.2.2.2.2.2.2.2.2.2.1)) ((hI9.2.2.2.2.2.2.2.2.2.2.2.2.2.2.2.2.2.2.2.2.2.2.1)) hzg66 ((hI9.2.2.2.2.2.2.2.2.2.2.2.2.2.2.2.2.2.2.2.2.2.2.2.2.1)) hzF11 hzF12 hzF13 hzF15 hzF19 hzF21 hg16 hg17 hg18 hg19 hg20 hg21 hzF43 hzF45 hzF46 hzF50 hzF53 hzF54 hzLQ)
              have hpr188_0 : (0 ≤ (0 : Int32).toInt ∧ 0 ≤ (c71_F38 (Int32.toNatClampNeg 0)).toInt ∧ (0 : Int32).toInt + (c71_F38 (Int32.toNatClampNeg 0)).toInt ≤ 288) := by first | assumption | omega
              have hpr188_1 : 288 ≤ 2500 := by first | assumption | omega
              refine pw_b3 (fun r188 c188_g66 c188_F61 hc188 => ?_)
              have hq188 := wp_at (ok_write1 (upd (upd (upd (upd (upd (upd g 23 c71_g23) 27 c71_g27) 30 c71_g30) 34 c71_g34) 36 c71_g36) 39 c71_g39) (upF (upF (upF (upF (upF (upF (upF (upF (upF (upF (upF (upF (upF (upF F 22 c71_F22) 24 c71_F24) 25 c71_F25) 26 c71_F26) 28 c71_F28) 29 c71_F29) 31 c71_F31) 32 c71_F32) 33 c71_F33) 37 c71_F37) 38 c71_F38) 40 c71_F40) 41 c71_F41) 64 w175) c71_F37 288 (0 : Int32) (c71_F38 (Int32.toNatClampNeg 0)) hMI188 hpr188_0 hpr188_1) hc188
              obtain ⟨hg29, f30⟩ : (((0) ≤ c188_g66.toInt ∧ c188_g66.toInt ≤ 2500)) ∧ ((0 ≤ r188.toInt ∧ r188.toInt ≤ 1)) := hq188
              have h8188_hbx : BW (wdl c71_F37 (Int32.toNatClampNeg (0 : Int32)) (Int32.toNatClampNeg (c71_F38 (Int32.toNatClampNeg 0)))) := by rw [show Int32.toNatClampNeg (0 : Int32) = 0 from rfl]; exact hx0.2.2
              have hx188 := pwq (fn_write1 (upd (upd (upd (upd (upd (upd g 23 c71_g23) 27 c71_g27) 30 c71_g30) 34 c71_g34) 36 c71_g36) 39 c71_g39) (upF (upF (upF (upF (upF (upF (upF (upF (upF (upF (upF (upF (upF (upF F 22 c71_F22) 24 c71_F24) 25 c71_F25) 26 c71_F26) 28 c71_F28) 29 c71_F29) 31 c71_F31) 32 c71_F32) 33 c71_F33) 37 c71_F37) 38 c71_F38) 40 c71_F40) 41 c71_F41) 64 w175) c71_F37 288 (0 : Int32) (c71_F38 (Int32.toNatClampNeg 0)) hMI188 hpr188_0 hpr188_1 h8188_hbx) hc188
              obtain ⟨p188_0, p188_1, p188_2⟩ : (id ((r188.toInt ≠ 0 → wdl c188_F61 0 (Int32.toNatClampNeg c188_g66) = wdl (F 61) 0 (Int32.toNatClampNeg (g 66)) ++ wdl c71_F37 (Int32.toNatClampNeg (0 : Int32)) (Int32.toNatClampNeg (c71_F38 (Int32.toNatClampNeg 0)))))) ∧ (id ((r188.toInt = 0 → 2500 < Int32.toNatClampNeg (g 66) + Int32.toNatClampNeg (c71_F38 (Int32.toNatClampNeg 0))))) ∧ (id ((BW (wdl (F 61) 0 (Int32.toNatClampNeg (g 66))) → BW (wdl c188_F61 0 (Int32.toNatClampNeg c188_g66))))) := hx188
              rw [show Int32.toNatClampNeg (0 : Int32) = 0 from rfl] at p188_0 p188_1
              refine pw_if (fun hb191 => ?_)
              obtain ⟨hbl191, hbr191⟩ := hb191
              have qq0 : (r188.toInt ≠ 0 → wdl c188_F61 0 (Int32.toNatClampNeg c188_g66) = (wdS d (Int32.toNatClampNeg p2) (Int32.toNatClampNeg p3 - Int32.toNatClampNeg p2) (wdl (F 0) (Int32.toNatClampNeg p0) (Int32.toNatClampNeg p1 - Int32.toNatClampNeg p0)) st).1 ∧ TYA w175 (wdS d (Int32.toNatClampNeg p2) (Int32.toNatClampNeg p3 - Int32.toNatClampNeg p2) (wdl (F 0) (Int32.toNatClampNeg p0) (Int32.toNatClampNeg p1 - Int32.toNatClampNeg p0)) st).2) := by intro h; have h9 := p188_0 (by omega); refine ⟨?_, ty_1 hnm hl24 hx1 hst.2 ew41 ew95 (by rw [et94_0]; rw [if_pos (hx2.mpr (by omega))]; rfl) ew116 et115_0 ew175 (by rw [et174_0]; rw [if_neg (p163_1 (by omega))]; rfl)⟩; rw [h9, hst.1, wdS_1 hnm hl24 hx1]
              have qq1 : (r188.toInt = 0 → 2500 < (wdS d (Int32.toNatClampNeg p2) (Int32.toNatClampNeg p3 - Int32.toNatClampNeg p2) (wdl (F 0) (Int32.toNatClampNeg p0) (Int32.toNatClampNeg p1 - Int32.toNatClampNeg p0)) st).1.length) := by intro h; have h9 := p188_1 (by omega); rw [wdS_1 hnm hl24 hx1]; show 2500 < (st.1 ++ _).length; rw [List.length_append, wdl_len, ← hst.1, wdl_len]; exact h9
              have qq2 : (BW (wdl (F 61) 0 (Int32.toNatClampNeg (g 66))) → BW (wdl c188_F61 0 (Int32.toNatClampNeg c188_g66))) := by exact p188_2
              exact pw_some ⟨qq0, qq1, qq2⟩
            · have c166 := z_ne c166
              refine pw_j1 ej174 (fun t174_0 et174_0 => ?_)
              have et174_0 := et174_0.symm
              have f_t174_0 : t174_0.toInt = 0 := by rw [et174_0]; decide +kernel
              refine pw_if (fun hb175 => ?_)
              obtain ⟨hbl175, hbr175⟩ := hb175
              refine pw_vl (fun w175 ew175 => ?_)
              refine pw_if (fun hb187 => ?_)
              obtain ⟨hbl187, hbr187⟩ := hb187
              have hMI188 : id (MInv (upd (upd (upd (upd (upd (upd g 23 c71_g23) 27 c71_g27) 30 c71_g30) 34 c71_g34) 36 c71_g36) 39 c71_g39) (upF (upF (upF (upF (upF (upF (upF (upF (upF (upF (upF (upF (upF (upF F 22 c71_F22) 24 c71_F24) 25 c71_F25) 26 c71_F26) 28 c71_F28) 29 c71_F29) 31 c71_F31) 32 c71_F32) 33 c71_F33) 37 c71_F37) 38 c71_F38) 40 c71_F40) 41 c71_F41) 64 w175)) := show MInv (upd (upd (upd (upd (upd (upd g 23 c71_g23) 27 c71_g27) 30 c71_g30) 34 c71_g34) 36 c71_g36) 39 c71_g39) (upF (upF (upF (upF (upF (upF (upF (upF (upF (upF (upF (upF (upF (upF F 22 c71_F22) 24 c71_F24) 25 c71_F25) 26 c71_F26) 28 c71_F28) 29 c71_F29) 31 c71_F31) 32 c71_F32) 33 c71_F33) 37 c71_F37) 38 c71_F38) 40 c71_F40) 41 c71_F41) 64 w175) from (MInv_i ((hI9.1)) ((hI9.2.1)) ((hI9.2.2.1)) ((hI9.2.2.2.1)) ((hI9.2.2.2.2.1)) ((hI9.2.2.2.2.2.1)) ((hI9.2.2.2.2.2.2.1)) ((hI9.2.2.2.2.2.2.2.1)) hzg9 hg10 hg11 hg12 hg13 hg14 hg15 ((hI9.2.2.2.2.2.2.2.2.2.2.2.2.2.2.2.1)) ((hI9.2.2.2.2.2.2.2.2.2.2.2.2.2.2.2.2.1)) ((hI9.2.2.2.2.2.2.2.2.2.2.2.2.2.2.2.2.2.1)) ((hI9.2.2.2.2.2.2.2.2.2.2.2.2.2.2.2.2.2.2.1)) ((hI9.2.2.2.2.2.2.2.2.2.2.2.2.2.2.2.2.2.2.2.1)) ((hI9.2.2.2.2.2.2.2.2.2.2.2.2.2.2.2.2.2.2.2.2.1)) ((hI9.2.2.2.2.2.2.2.2.2.2.2.2.2.2.2.2.2.2.2.2.2.1)) ((hI9.2.2.2.2.2.2.2.2.2.2.2.2.2.2.2.2.2.2.2.2.2.2.1)) hzg66 ((hI9.2.2.2.2.2.2.2.2.2.2.2.2.2.2.2.2.2.2.2.2.2.2.2.2.1)) hzF11 hzF12 hzF13 hzF15 hzF19 hzF21 hg16 hg17 hg18 hg19 hg20 hg21 hzF43 hzF45 hzF46 hzF50 hzF53 hzF54 hzLQ)
              have hpr188_0 : (0 ≤ (0 : Int32).toInt ∧ 0 ≤ (c71_F38 (Int32.toNatClampNeg 0)).toInt ∧ (0 : Int32).toInt + (c71_F38 (Int32.toNatClampNeg 0)).toInt ≤ 288) := by first | assumption | omega
              have hpr188_1 : 288 ≤ 2500 := by first | assumption | omega
              refine pw_b3 (fun r188 c188_g66 c188_F61 hc188 => ?_)
              have hq188 := wp_at (ok_write1 (upd (upd (upd (upd (upd (upd g 23 c71_g23) 27 c71_g27) 30 c71_g30) 34 c71_g34) 36 c71_g36) 39 c71_g39) (upF (upF (upF (upF (upF (upF (upF (upF (upF (upF (upF (upF (upF (upF F 22 c71_F22) 24 c71_F24) 25 c71_F25) 26 c71_F26) 28 c71_F28) 29 c71_F29) 31 c71_F31) 32 c71_F32) 33 c71_F33) 37 c71_F37) 38 c71_F38) 40 c71_F40) 41 c71_F41) 64 w175) c71_F37 288 (0 : Int32) (c71_F38 (Int32.toNatClampNeg 0)) hMI188 hpr188_0 hpr188_1) hc188
              obtain ⟨hg32, f33⟩ : (((0) ≤ c188_g66.toInt ∧ c188_g66.toInt ≤ 2500)) ∧ ((0 ≤ r188.toInt ∧ r188.toInt ≤ 1)) := hq188
              have h8188_hbx : BW (wdl c71_F37 (Int32.toNatClampNeg (0 : Int32)) (Int32.toNatClampNeg (c71_F38 (Int32.toNatClampNeg 0)))) := by rw [show Int32.toNatClampNeg (0 : Int32) = 0 from rfl]; exact hx0.2.2
              have hx188 := pwq (fn_write1 (upd (upd (upd (upd (upd (upd g 23 c71_g23) 27 c71_g27) 30 c71_g30) 34 c71_g34) 36 c71_g36) 39 c71_g39) (upF (upF (upF (upF (upF (upF (upF (upF (upF (upF (upF (upF (upF (upF F 22 c71_F22) 24 c71_F24) 25 c71_F25) 26 c71_F26) 28 c71_F28) 29 c71_F29) 31 c71_F31) 32 c71_F32) 33 c71_F33) 37 c71_F37) 38 c71_F38) 40 c71_F40) 41 c71_F41) 64 w175) c71_F37 288 (0 : Int32) (c71_F38 (Int32.toNatClampNeg 0)) hMI188 hpr188_0 hpr188_1 h8188_hbx) hc188
              obtain ⟨p188_0, p188_1, p188_2⟩ : (id ((r188.toInt ≠ 0 → wdl c188_F61 0 (Int32.toNatClampNeg c188_g66) = wdl (F 61) 0 (Int32.toNatClampNeg (g 66)) ++ wdl c71_F37 (Int32.toNatClampNeg (0 : Int32)) (Int32.toNatClampNeg (c71_F38 (Int32.toNatClampNeg 0)))))) ∧ (id ((r188.toInt = 0 → 2500 < Int32.toNatClampNeg (g 66) + Int32.toNatClampNeg (c71_F38 (Int32.toNatClampNeg 0))))) ∧ (id ((BW (wdl (F 61) 0 (Int32.toNatClampNeg (g 66))) → BW (wdl c188_F61 0 (Int32.toNatClampNeg c188_g66))))) := hx188
              rw [show Int32.toNatClampNeg (0 : Int32) = 0 from rfl] at p188_0 p188_1
              refine pw_if (fun hb191 => ?_)
              obtain ⟨hbl191, hbr191⟩ := hb191
              have qq0 : (r188.toInt ≠ 0 → wdl c188_F61 0 (Int32.toNatClampNeg c188_g66) = (wdS d (Int32.toNatClampNeg p2) (Int32.toNatClampNeg p3 - Int32.toNatClampNeg p2) (wdl (F 0) (Int32.toNatClampNeg p0) (Int32.toNatClampNeg p1 - Int32.toNatClampNeg p0)) st).1 ∧ TYA w175 (wdS d (Int32.toNatClampNeg p2) (Int32.toNatClampNeg p3 - Int32.toNatClampNeg p2) (wdl (F 0) (Int32.toNatClampNeg p0) (Int32.toNatClampNeg p1 - Int32.toNatClampNeg p0)) st).2) := by intro h; have h9 := p188_0 (by omega); refine ⟨?_, ty_1 hnm hl24 hx1 hst.2 ew41 ew95 (by rw [et94_0]; rw [if_pos (hx2.mpr (by omega))]; rfl) ew116 et115_0 ew175 (by rw [et174_0]; rw [if_pos (p163_0 (by omega))]; rfl)⟩; rw [h9, hst.1, wdS_1 hnm hl24 hx1]
              have qq1 : (r188.toInt = 0 → 2500 < (wdS d (Int32.toNatClampNeg p2) (Int32.toNatClampNeg p3 - Int32.toNatClampNeg p2) (wdl (F 0) (Int32.toNatClampNeg p0) (Int32.toNatClampNeg p1 - Int32.toNatClampNeg p0)) st).1.length) := by intro h; have h9 := p188_1 (by omega); rw [wdS_1 hnm hl24 hx1]; show 2500 < (st.1 ++ _).length; rw [List.length_append, wdl_len, ← hst.1, wdl_len]; exact h9
              have qq2 : (BW (wdl (F 61) 0 (Int32.toNatClampNeg (g 66))) → BW (wdl c188_F61 0 (Int32.toNatClampNeg c188_g66))) := by exact p188_2
              exact pw_some ⟨qq0, qq1, qq2⟩
      · have c86 := z_nle c86
        refine pw_j1 ej94 (fun t94_0 et94_0 => ?_)
        have et94_0 := et94_0.symm
        have f_t94_0 : t94_0.toInt = 1 := by rw [et94_0]; decide +kernel
        refine pw_if (fun hb95 => ?_)
        obtain ⟨hbl95, hbr95⟩ := hb95
        refine pw_vl (fun w95 ew95 => ?_)
        refine pw_if (fun hb102 => ?_)
        obtain ⟨hbl102, hbr102⟩ := hb102
        refine pw_jE (fun j115 ej115 => ?_)
        refine pw_ite (fun c107 => ?_) (fun c107 => ?_)
        · have c107 := congrArg Int32.toInt c107
          exfalso; omega
        · have c107 := z_ne c107
          refine pw_j1 ej115 (fun t115_0 et115_0 => ?_)
          have et115_0 := et115_0.symm
          have f_t115_0 : t115_0.toInt = 0 := by rw [et115_0]; decide +kernel
          refine pw_if (fun hb116 => ?_)
          obtain ⟨hbl116, hbr116⟩ := hb116
          refine pw_vl (fun w116 ew116 => ?_)
          refine pw_ite (fun c121 => ?_) (fun c121 => ?_)
          · have c121 := congrArg Int32.toInt c121
            exfalso; omega
          · have c121 := z_ne c121
            have k39 := clampI (x := c71_g39) (by omega)
            obtain ⟨xs, hx1, hx2⟩ := rw_hd p71_0 (by omega)
            have hx0 := p71_1 _ (by rw [hx1]; exact List.mem_cons_self)
            have hl24 : ((wdl (F 0) (Int32.toNatClampNeg p0) (Int32.toNatClampNeg p1 - Int32.toNatClampNeg p0))).length ≤ 24 := by rw [wdl_len]; omega
            have hz0 := hg20 0
            have k38 := clampI (x := c71_F38 0) (by omega)
            refine pw_if (fun hb143 => ?_)
            obtain ⟨hbl143, hbr143⟩ := hb143
            refine pw_if (fun hb154 => ?_)
            obtain ⟨hbl154, hbr154⟩ := hb154
            have f34 := hg20 (Int32.toNatClampNeg (0 : Int32))
            have hpr163_0 : (0 ≤ (0 : Int32).toInt ∧ (0 : Int32).toInt + (c71_F38 (Int32.toNatClampNeg 0)).toInt ≤ 288) := by first | assumption | omega
            have hpr163_1 : 288 ≤ 500000 := by first | assumption | omega
            have hpr163_2 : (0 ≤ p0.toInt ∧ p0.toInt + (p1 - p0).toInt ≤ 2000) := by first | assumption | omega
            have hpr163_3 : 2000 ≤ 500000 := by first | assumption | omega
            refine pw_b1 (fun r163 hc163 => ?_)
            have hq163 := wp_at (ok_sameBytes c71_F37 288 (0 : Int32) (c71_F38 (Int32.toNatClampNeg 0)) (F 0) 2000 p0 (p1 - p0) hpr163_0 hpr163_1 hpr163_2 hpr163_3) hc163
            have f36 : (0 ≤ r163.toInt ∧ r163.toInt ≤ 1) := hq163
            clear hq163
            have h8163_h02 : 0 ≤ (c71_F38 (Int32.toNatClampNeg 0)).toInt := by show 0 ≤ (c71_F38 0).toInt; omega
            have h8163_h05 : 0 ≤ (p1 - p0).toInt := by omega
            have hx163 := pwq (fn_sameBytes c71_F37 288 (0 : Int32) (c71_F38 (Int32.toNatClampNeg 0)) (F 0) 2000 p0 (p1 - p0) hpr163_0 hpr163_1 hpr163_2 hpr163_3 h8163_h02 h8163_h05) hc163
            obtain ⟨p163_0, p163_1⟩ : (id ((r163.toInt ≠ 0 → wdl c71_F37 (Int32.toNatClampNeg (0 : Int32)) (Int32.toNatClampNeg (c71_F38 (Int32.toNatClampNeg 0))) = wdl (F 0) (Int32.toNatClampNeg p0) (Int32.toNatClampNeg (p1 - p0))))) ∧ (id ((r163.toInt = 0 → wdl c71_F37 (Int32.toNatClampNeg (0 : Int32)) (Int32.toNatClampNeg (c71_F38 (Int32.toNatClampNeg 0))) ≠ wdl (F 0) (Int32.toNatClampNeg p0) (Int32.toNatClampNeg (p1 - p0))))) := hx163
            rw [show Int32.toNatClampNeg (p1 - p0) = Int32.toNatClampNeg p1 - Int32.toNatClampNeg p0 by omega] at p163_0 p163_1
            rw [show Int32.toNatClampNeg (0 : Int32) = 0 from rfl] at p163_0 p163_1
            refine pw_jE (fun j174 ej174 => ?_)
            refine pw_ite (fun c166 => ?_) (fun c166 => ?_)
            · have c166 := congrArg Int32.toInt c166
              refine pw_j1 ej174 (fun t174_0 et174_0 => ?_)
              have et174_0 := et174_0.symm
              have f_t174_0 : t174_0.toInt = 1 := by rw [et174_0]; decide +kernel
              refine pw_if (fun hb175 => ?_)
              obtain ⟨hbl175, hbr175⟩ := hb175
              refine pw_vl (fun w175 ew175 => ?_)
              refine pw_if (fun hb187 => ?_)
              obtain ⟨hbl187, hbr187⟩ := hb187
              have hMI188 : id (MInv (upd (upd (upd (upd (upd (upd g 23 c71_g23) 27 c71_g27) 30 c71_g30) 34 c71_g34) 36 c71_g36) 39 c71_g39) (upF (upF (upF (upF (upF (upF (upF (upF (upF (upF (upF (upF (upF (upF F 22 c71_F22) 24 c71_F24) 25 c71_F25) 26 c71_F26) 28 c71_F28) 29 c71_F29) 31 c71_F31) 32 c71_F32) 33 c71_F33) 37 c71_F37) 38 c71_F38) 40 c71_F40) 41 c71_F41) 64 w175)) := show MInv (upd (upd (upd (upd (upd (upd g 23 c71_g23) 27 c71_g27) 30 c71_g30) 34 c71_g34) 36 c71_g36) 39 c71_g39) (upF (upF (upF (upF (upF (upF (upF (upF (upF (upF (upF (upF (upF (upF F 22 c71_F22) 24 c71_F24) 25 c71_F25) 26 c71_F26) 28 c71_F28) 29 c71_F29) 31 c71_F31) 32 c71_F32) 33 c71_F33) 37 c71_F37) 38 c71_F38) 40 c71_F40) 41 c71_F41) 64 w175) from (MInv_i ((hI9.1)) ((hI9.2.1)) ((hI9.2.2.1)) ((hI9.2.2.2.1)) ((hI9.2.2.2.2.1)) ((hI9.2.2.2.2.2.1)) ((hI9.2.2.2.2.2.2.1)) ((hI9.2.2.2.2.2.2.2.1)) hzg9 hg10 hg11 hg12 hg13 hg14 hg15 ((hI9.2.2.2.2.2.2.2.2.2.2.2.2.2.2.2.1)) ((hI9.2.2.2.2.2.2.2.2.2.2.2.2.2.2.2.2.1)) ((hI9.2.2.2.2.2.2.2.2.2.2.2.2.2.2.2.2.2.1)) ((hI9.2.2.2.2.2.2.2.2.2.2.2.2.2.2.2.2.2.2.1)) ((hI9.2.2.2.2.2.2.2.2.2.2.2.2.2.2.2.2.2.2.2.1)) ((hI9.2.2.2.2.2.2.2.2.2.2.2.2.2.2.2.2.2.2.2.2.1)) ((hI9.2.2.2.2.2.2.2.2.2.2.2.2.2.2.2.2.2.2.2.2.2.1)) ((hI9.2.2.2.2.2.2.2.2.2.2.2.2.2.2.2.2.2.2.2.2.2.2.1)) hzg66 ((hI9.2.2.2.2.2.2.2.2.2.2.2.2.2.2.2.2.2.2.2.2.2.2.2.2.1)) hzF11 hzF12 hzF13 hzF15 hzF19 hzF21 hg16 hg17 hg18 hg19 hg20 hg21 hzF43 hzF45 hzF46 hzF50 hzF53 hzF54 hzLQ)
              have hpr188_0 : (0 ≤ (0 : Int32).toInt ∧ 0 ≤ (c71_F38 (Int32.toNatClampNeg 0)).toInt ∧ (0 : Int32).toInt + (c71_F38 (Int32.toNatClampNeg 0)).toInt ≤ 288) := by first | assumption | omega
              have hpr188_1 : 288 ≤ 2500 := by first | assumption | omega
              refine pw_b3 (fun r188 c188_g66 c188_F61 hc188 => ?_)
              have hq188 := wp_at (ok_write1 (upd (upd (upd (upd (upd (upd g 23 c71_g23) 27 c71_g27) 30 c71_g30) 34 c71_g34) 36 c71_g36) 39 c71_g39) (upF (upF (upF (upF (upF (upF (upF (upF (upF (upF (upF (upF (upF (upF F 22 c71_F22) 24 c71_F24) 25 c71_F25) 26 c71_F26) 28 c71_F28) 29 c71_F29) 31 c71_F31) 32 c71_F32) 33 c71_F33) 37 c71_F37) 38 c71_F38) 40 c71_F40) 41 c71_F41) 64 w175) c71_F37 288 (0 : Int32) (c71_F38 (Int32.toNatClampNeg 0)) hMI188 hpr188_0 hpr188_1) hc188
              obtain ⟨hg38, f39⟩ : (((0) ≤ c188_g66.toInt ∧ c188_g66.toInt ≤ 2500)) ∧ ((0 ≤ r188.toInt ∧ r188.toInt ≤ 1)) := hq188
              have h8188_hbx : BW (wdl c71_F37 (Int32.toNatClampNeg (0 : Int32)) (Int32.toNatClampNeg (c71_F38 (Int32.toNatClampNeg 0)))) := by rw [show Int32.toNatClampNeg (0 : Int32) = 0 from rfl]; exact hx0.2.2
              have hx188 := pwq (fn_write1 (upd (upd (upd (upd (upd (upd g 23 c71_g23) 27 c71_g27) 30 c71_g30) 34 c71_g34) 36 c71_g36) 39 c71_g39) (upF (upF (upF (upF (upF (upF (upF (upF (upF (upF (upF (upF (upF (upF F 22 c71_F22) 24 c71_F24) 25 c71_F25) 26 c71_F26) 28 c71_F28) 29 c71_F29) 31 c71_F31) 32 c71_F32) 33 c71_F33) 37 c71_F37) 38 c71_F38) 40 c71_F40) 41 c71_F41) 64 w175) c71_F37 288 (0 : Int32) (c71_F38 (Int32.toNatClampNeg 0)) hMI188 hpr188_0 hpr188_1 h8188_hbx) hc188
              obtain ⟨p188_0, p188_1, p188_2⟩ : (id ((r188.toInt ≠ 0 → wdl c188_F61 0 (Int32.toNatClampNeg c188_g66) = wdl (F 61) 0 (Int32.toNatClampNeg (g 66)) ++ wdl c71_F37 (Int32.toNatClampNeg (0 : Int32)) (Int32.toNatClampNeg (c71_F38 (Int32.toNatClampNeg 0)))))) ∧ (id ((r188.toInt = 0 → 2500 < Int32.toNatClampNeg (g 66) + Int32.toNatClampNeg (c71_F38 (Int32.toNatClampNeg 0))))) ∧ (id ((BW (wdl (F 61) 0 (Int32.toNatClampNeg (g 66))) → BW (wdl c188_F61 0 (Int32.toNatClampNeg c188_g66))))) := hx188
              rw [show Int32.toNatClampNeg (0 : Int32) = 0 from rfl] at p188_0 p188_1
              refine pw_if (fun hb191 => ?_)
              obtain ⟨hbl191, hbr191⟩ := hb191
              have qq0 : (r188.toInt ≠ 0 → wdl c188_F61 0 (Int32.toNatClampNeg c188_g66) = (wdS d (Int32.toNatClampNeg p2) (Int32.toNatClampNeg p3 - Int32.toNatClampNeg p2) (wdl (F 0) (Int32.toNatClampNeg p0) (Int32.toNatClampNeg p1 - Int32.toNatClampNeg p0)) st).1 ∧ TYA w175 (wdS d (Int32.toNatClampNeg p2) (Int32.toNatClampNeg p3 - Int32.toNatClampNeg p2) (wdl (F 0) (Int32.toNatClampNeg p0) (Int32.toNatClampNeg p1 - Int32.toNatClampNeg p0)) st).2) := by intro h; have h9 := p188_0 (by omega); refine ⟨?_, ty_1 hnm hl24 hx1 hst.2 ew41 ew95 (by rw [et94_0]; rw [if_neg (fun z => by have z9 := hx2.mp z; omega)]; rfl) ew116 et115_0 ew175 (by rw [et174_0]; rw [if_neg (p163_1 (by omega))]; rfl)⟩; rw [h9, hst.1, wdS_1 hnm hl24 hx1]
              have qq1 : (r188.toInt = 0 → 2500 < (wdS d (Int32.toNatClampNeg p2) (Int32.toNatClampNeg p3 - Int32.toNatClampNeg p2) (wdl (F 0) (Int32.toNatClampNeg p0) (Int32.toNatClampNeg p1 - Int32.toNatClampNeg p0)) st).1.length) := by intro h; have h9 := p188_1 (by omega); rw [wdS_1 hnm hl24 hx1]; show 2500 < (st.1 ++ _).length; rw [List.length_append, wdl_len, ← hst.1, wdl_len]; exact h9
              have qq2 : (BW (wdl (F 61) 0 (Int32.toNatClampNeg (g 66))) → BW (wdl c188_F61 0 (Int32.toNatClampNeg c188_g66))) := by exact p188_2
              exact pw_some ⟨qq0, qq1, qq2⟩
            · have c166 := z_ne c166
              refine pw_j1 ej174 (fun t174_0 et174_0 => ?_)
              have et174_0 := et174_0.symm
              have f_t174_0 : t174_0.toInt = 0 := by rw [et174_0]; decide +kernel
              refine pw_if (fun hb175 => ?_)
              obtain ⟨hbl175, hbr175⟩ := hb175
              refine pw_vl (fun w175 ew175 => ?_)
              refine pw_if (fun hb187 => ?_)
              obtain ⟨hbl187, hbr187⟩ := hb187
              have hMI188 : id (MInv (upd (upd (upd (upd (upd (upd g 23 c71_g23) 27 c71_g27) 30 c71_g30) 34 c71_g34) 36 c71_g36) 39 c71_g39) (upF (upF (upF (upF (upF (upF (upF (upF (upF (upF (upF (upF (upF (upF F 22 c71_F22) 24 c71_F24) 25 c71_F25) 26 c71_F26) 28 c71_F28) 29 c71_F29) 31 c71_F31) 32 c71_F32) 33 c71_F33) 37 c71_F37) 38 c71_F38) 40 c71_F40) 41 c71_F41) 64 w175)) := show MInv (upd (upd (upd (upd (upd (upd g 23 c71_g23) 27 c71_g27) 30 c71_g30) 34 c71_g34) 36 c71_g36) 39 c71_g39) (upF (upF (upF (upF (upF (upF (upF (upF (upF (upF (upF (upF (upF (upF F 22 c71_F22) 24 c71_F24) 25 c71_F25) 26 c71_F26) 28 c71_F28) 29 c71_F29) 31 c71_F31) 32 c71_F32) 33 c71_F33) 37 c71_F37) 38 c71_F38) 40 c71_F40) 41 c71_F41) 64 w175) from (MInv_i ((hI9.1)) ((hI9.2.1)) ((hI9.2.2.1)) ((hI9.2.2.2.1)) ((hI9.2.2.2.2.1)) ((hI9.2.2.2.2.2.1)) ((hI9.2.2.2.2.2.2.1)) ((hI9.2.2.2.2.2.2.2.1)) hzg9 hg10 hg11 hg12 hg13 hg14 hg15 ((hI9.2.2.2.2.2.2.2.2.2.2.2.2.2.2.2.1)) ((hI9.2.2.2.2.2.2.2.2.2.2.2.2.2.2.2.2.1)) ((hI9.2.2.2.2.2.2.2.2.2.2.2.2.2.2.2.2.2.1)) ((hI9.2.2.2.2.2.2.2.2.2.2.2.2.2.2.2.2.2.2.1)) ((hI9.2.2.2.2.2.2.2.2.2.2.2.2.2.2.2.2.2.2.2.1)) ((hI9.2.2.2.2.2.2.2.2.2.2.2.2.2.2.2.2.2.2.2.2.1)) ((hI9.2.2.2.2.2.2.2.2.2.2.2.2.2.2.2.2.2.2.2.2.2.1)) ((hI9.2.2.2.2.2.2.2.2.2.2.2.2.2.2.2.2.2.2.2.2.2.2.1)) hzg66 ((hI9.2.2.2.2.2.2.2.2.2.2.2.2.2.2.2.2.2.2.2.2.2.2.2.2.1)) hzF11 hzF12 hzF13 hzF15 hzF19 hzF21 hg16 hg17 hg18 hg19 hg20 hg21 hzF43 hzF45 hzF46 hzF50 hzF53 hzF54 hzLQ)
              have hpr188_0 : (0 ≤ (0 : Int32).toInt ∧ 0 ≤ (c71_F38 (Int32.toNatClampNeg 0)).toInt ∧ (0 : Int32).toInt + (c71_F38 (Int32.toNatClampNeg 0)).toInt ≤ 288) := by first | assumption | omega
              have hpr188_1 : 288 ≤ 2500 := by first | assumption | omega
              refine pw_b3 (fun r188 c188_g66 c188_F61 hc188 => ?_)
              have hq188 := wp_at (ok_write1 (upd (upd (upd (upd (upd (upd g 23 c71_g23) 27 c71_g27) 30 c71_g30) 34 c71_g34) 36 c71_g36) 39 c71_g39) (upF (upF (upF (upF (upF (upF (upF (upF (upF (upF (upF (upF (upF (upF F 22 c71_F22) 24 c71_F24) 25 c71_F25) 26 c71_F26) 28 c71_F28) 29 c71_F29) 31 c71_F31) 32 c71_F32) 33 c71_F33) 37 c71_F37) 38 c71_F38) 40 c71_F40) 41 c71_F41) 64 w175) c71_F37 288 (0 : Int32) (c71_F38 (Int32.toNatClampNeg 0)) hMI188 hpr188_0 hpr188_1) hc188
              obtain ⟨hg41, f42⟩ : (((0) ≤ c188_g66.toInt ∧ c188_g66.toInt ≤ 2500)) ∧ ((0 ≤ r188.toInt ∧ r188.toInt ≤ 1)) := hq188
              have h8188_hbx : BW (wdl c71_F37 (Int32.toNatClampNeg (0 : Int32)) (Int32.toNatClampNeg (c71_F38 (Int32.toNatClampNeg 0)))) := by rw [show Int32.toNatClampNeg (0 : Int32) = 0 from rfl]; exact hx0.2.2
              have hx188 := pwq (fn_write1 (upd (upd (upd (upd (upd (upd g 23 c71_g23) 27 c71_g27) 30 c71_g30) 34 c71_g34) 36 c71_g36) 39 c71_g39) (upF (upF (upF (upF (upF (upF (upF (upF (upF (upF (upF (upF (upF (upF F 22 c71_F22) 24 c71_F24) 25 c71_F25) 26 c71_F26) 28 c71_F28) 29 c71_F29) 31 c71_F31) 32 c71_F32) 33 c71_F33) 37 c71_F37) 38 c71_F38) 40 c71_F40) 41 c71_F41) 64 w175) c71_F37 288 (0 : Int32) (c71_F38 (Int32.toNatClampNeg 0)) hMI188 hpr188_0 hpr188_1 h8188_hbx) hc188
              obtain ⟨p188_0, p188_1, p188_2⟩ : (id ((r188.toInt ≠ 0 → wdl c188_F61 0 (Int32.toNatClampNeg c188_g66) = wdl (F 61) 0 (Int32.toNatClampNeg (g 66)) ++ wdl c71_F37 (Int32.toNatClampNeg (0 : Int32)) (Int32.toNatClampNeg (c71_F38 (Int32.toNatClampNeg 0)))))) ∧ (id ((r188.toInt = 0 → 2500 < Int32.toNatClampNeg (g 66) + Int32.toNatClampNeg (c71_F38 (Int32.toNatClampNeg 0))))) ∧ (id ((BW (wdl (F 61) 0 (Int32.toNatClampNeg (g 66))) → BW (wdl c188_F61 0 (Int32.toNatClampNeg c188_g66))))) := hx188
              rw [show Int32.toNatClampNeg (0 : Int32) = 0 from rfl] at p188_0 p188_1
              refine pw_if (fun hb191 => ?_)
              obtain ⟨hbl191, hbr191⟩ := hb191
              have qq0 : (r188.toInt ≠ 0 → wdl c188_F61 0 (Int32.toNatClampNeg c188_g66) = (wdS d (Int32.toNatClampNeg p2) (Int32.toNatClampNeg p3 - Int32.toNatClampNeg p2) (wdl (F 0) (Int32.toNatClampNeg p0) (Int32.toNatClampNeg p1 - Int32.toNatClampNeg p0)) st).1 ∧ TYA w175 (wdS d (Int32.toNatClampNeg p2) (Int32.toNatClampNeg p3 - Int32.toNatClampNeg p2) (wdl (F 0) (Int32.toNatClampNeg p0) (Int32.toNatClampNeg p1 - Int32.toNatClampNeg p0)) st).2) := by intro h; have h9 := p188_0 (by omega); refine ⟨?_, ty_1 hnm hl24 hx1 hst.2 ew41 ew95 (by rw [et94_0]; rw [if_neg (fun z => by have z9 := hx2.mp z; omega)]; rfl) ew116 et115_0 ew175 (by rw [et174_0]; rw [if_pos (p163_0 (by omega))]; rfl)⟩; rw [h9, hst.1, wdS_1 hnm hl24 hx1]
              have qq1 : (r188.toInt = 0 → 2500 < (wdS d (Int32.toNatClampNeg p2) (Int32.toNatClampNeg p3 - Int32.toNatClampNeg p2) (wdl (F 0) (Int32.toNatClampNeg p0) (Int32.toNatClampNeg p1 - Int32.toNatClampNeg p0)) st).1.length) := by intro h; have h9 := p188_1 (by omega); rw [wdS_1 hnm hl24 hx1]; show 2500 < (st.1 ++ _).length; rw [List.length_append, wdl_len, ← hst.1, wdl_len]; exact h9
              have qq2 : (BW (wdl (F 61) 0 (Int32.toNatClampNeg (g 66))) → BW (wdl c188_F61 0 (Int32.toNatClampNeg c188_g66))) := by exact p188_2
              exact pw_some ⟨qq0, qq1, qq2⟩
  · have c6 := z_ne c6
    have hnm := p3_0 (by omega)
    refine pw_if (fun hb15 => ?_)
    obtain ⟨hbl15, hbr15⟩ := hb15
    refine pw_if (fun hb18 => ?_)
    obtain ⟨hbl18, hbr18⟩ := hb18
    refine pw_vl (fun w18 ew18 => ?_)
    have f43 : (p1 - p0).toInt = p1.toInt - p0.toInt := z_sub (by omega) (by omega)
    have hMI28 : id (MInv g (upF F 64 w18)) := show MInv g (upF F 64 w18) from (MInv_i ((hI9.1)) ((hI9.2.1)) ((hI9.2.2.1)) ((hI9.2.2.2.1)) ((hI9.2.2.2.2.1)) ((hI9.2.2.2.2.2.1)) ((hI9.2.2.2.2.2.2.1)) ((hI9.2.2.2.2.2.2.2.1)) hzg9 hzg23 ((hI9.2.2.2.2.2.2.2.2.2.2.1)) ((hI9.2.2.2.2.2.2.2.2.2.2.2.1)) ((hI9.2.2.2.2.2.2.2.2.2.2.2.2.1)) ((hI9.2.2.2.2.2.2.2.2.2.2.2.2.2.1)) hzg39 ((hI9.2.2.2.2.2.2.2.2.2.2.2.2.2.2.2.1)) ((hI9.2.2.2.2.2.2.2.2.2.2.2.2.2.2.2.2.1)) ((hI9.2.2.2.2.2.2.2.2.2.2.2.2.2.2.2.2.2.1)) ((hI9.2.2.2.2.2.2.2.2.2.2.2.2.2.2.2.2.2.2.1)) ((hI9.2.2.2.2.2.2.2.2.2.2.2.2.2.2.2.2.2.2.2.1)) ((hI9.2.2.2.2.2.2.2.2.2.2.2.2.2.2.2.2.2.2.2.2.1)) ((hI9.2.2.2.2.2.2.2.2.2.2.2.2.2.2.2.2.2.2.2.2.2.1)) ((hI9.2.2.2.2.2.2.2.2.2.2.2.2.2.2.2.2.2.2.2.2.2.2.1)) hzg66 ((hI9.2.2.2.2.2.2.2.2.2.2.2.2.2.2.2.2.2.2.2.2.2.2.2.2.1)) hzF11 hzF12 hzF13 hzF15 hzF19 hzF21 hzF24 hzF25 hzF26 hzF33 hzF38 hzF41 hzF43 hzF45 hzF46 hzF50 hzF53 hzF54 hzLQ)
    have hpr28_0 : (0 ≤ p0.toInt ∧ 0 ≤ (p1 - p0).toInt ∧ p0.toInt + (p1 - p0).toInt ≤ 2000) := by first | assumption | omega
    have hpr28_1 : 2000 ≤ 2500 := by first | assumption | omega
    refine pw_b3 (fun r28 c28_g66 c28_F61 hc28 => ?_)
    have hq28 := wp_at (ok_write1 g (upF F 64 w18) (F 0) 2000 p0 (p1 - p0) hMI28 hpr28_0 hpr28_1) hc28
    obtain ⟨hg44, f45⟩ : (((0) ≤ c28_g66.toInt ∧ c28_g66.toInt ≤ 2500)) ∧ ((0 ≤ r28.toInt ∧ r28.toInt ≤ 1)) := hq28
    have h828_hbx : BW (wdl (F 0) (Int32.toNatClampNeg p0) (Int32.toNatClampNeg (p1 - p0))) := by intro y hy; unfold wdl at hy; obtain ⟨j, _, e9⟩ := List.mem_map.mp hy; rw [← e9]; exact fit_id (hfit _)
    have hx28 := pwq (fn_write1 g (upF F 64 w18) (F 0) 2000 p0 (p1 - p0) hMI28 hpr28_0 hpr28_1 h828_hbx) hc28
    obtain ⟨p28_0, p28_1, p28_2⟩ : (id ((r28.toInt ≠ 0 → wdl c28_F61 0 (Int32.toNatClampNeg c28_g66) = wdl (F 61) 0 (Int32.toNatClampNeg (g 66)) ++ wdl (F 0) (Int32.toNatClampNeg p0) (Int32.toNatClampNeg (p1 - p0))))) ∧ (id ((r28.toInt = 0 → 2500 < Int32.toNatClampNeg (g 66) + Int32.toNatClampNeg (p1 - p0)))) ∧ (id ((BW (wdl (F 61) 0 (Int32.toNatClampNeg (g 66))) → BW (wdl c28_F61 0 (Int32.toNatClampNeg c28_g66))))) := hx28
    have km := clampI (x := p1 - p0) (by omega)
    rw [show Int32.toNatClampNeg (p1 - p0) = Int32.toNatClampNeg p1 - Int32.toNatClampNeg p0 by omega] at p28_0 p28_1
    refine pw_if (fun hb31 => ?_)
    obtain ⟨hbl31, hbr31⟩ := hb31
    have qq0 : (r28.toInt ≠ 0 → wdl c28_F61 0 (Int32.toNatClampNeg c28_g66) = (wdS d (Int32.toNatClampNeg p2) (Int32.toNatClampNeg p3 - Int32.toNatClampNeg p2) (wdl (F 0) (Int32.toNatClampNeg p0) (Int32.toNatClampNeg p1 - Int32.toNatClampNeg p0)) st).1 ∧ TYA w18 (wdS d (Int32.toNatClampNeg p2) (Int32.toNatClampNeg p3 - Int32.toNatClampNeg p2) (wdl (F 0) (Int32.toNatClampNeg p0) (Int32.toNatClampNeg p1 - Int32.toNatClampNeg p0)) st).2) := by intro h; have h9 := p28_0 (by omega); refine ⟨?_, ty_n hnm hst.2 ew18⟩; rw [h9, hst.1, wdS_n hnm]
    have qq1 : (r28.toInt = 0 → 2500 < (wdS d (Int32.toNatClampNeg p2) (Int32.toNatClampNeg p3 - Int32.toNatClampNeg p2) (wdl (F 0) (Int32.toNatClampNeg p0) (Int32.toNatClampNeg p1 - Int32.toNatClampNeg p0)) st).1.length) := by intro h; have h9 := p28_1 (by omega); rw [wdS_n hnm]; show 2500 < (st.1 ++ _).length; rw [List.length_append, wdl_len, ← hst.1, wdl_len]; exact h9
    have qq2 : (BW (wdl (F 61) 0 (Int32.toNatClampNeg (g 66))) → BW (wdl c28_F61 0 (Int32.toNatClampNeg c28_g66))) := by exact p28_2
    exact pw_some ⟨qq0, qq1, qq2⟩
