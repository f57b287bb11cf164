abbrev QF_part (g : Nat → Int32) (F : Nat → Nat → Int32) (p0 : Int32) (p1 : Int32) (p2 : Int32) (ps : List Wd) (W : Wd) (R : List (List Wd)) (L : List Wd) : (Int32 × (Nat → Int32) × (Nat → Int32) × (Nat → Int32)) → Prop := (fun t => (RWS lenP (t.1).toInt (t.2.2.2) (t.2.2.1) (AP R L (wy ps W (Int32.toNatClampNeg p1)))) ∧ ((∀ i : Nat, (i : Int) < p2.toInt → (t.2.1) i = (F 24) i)))
set_option maxHeartbeats 4000000 in
set_option maxRecDepth 100000 in
theorem fn_part (dn : Nat) : ∀ (g : Nat → Int32) (F : Nat → Nat → Int32) (p0 : Int32) (p1 : Int32) (p2 : Int32) (ps : List Wd) (W : Wd) (R : List (List Wd)) (L : List Wd) (hI : MInv g F) (hp0 : ((g 23).toInt - p1.toInt) < dn) (hp1 : (0 ≤ p0.toInt ∧ p0.toInt ≤ 6)) (hp2 : (0 ≤ p1.toInt ∧ p1.toInt ≤ (g 23).toInt)) (hp3 : (0 ≤ p2.toInt ∧ p2.toInt ≤ p1.toInt)) (hp4 : psum (F 24) 0 p2.toInt.toNat = p1.toInt) (hp5 : WS (F 25) (F 26) (g 27)) (hps : prtR ((F 12) (Int32.toNatClampNeg p0)) (F 18) (F 19) (40 * Int32.toNatClampNeg p0) = ps) (hW : wdl (F 22) 0 (Int32.toNatClampNeg (g 23)) = W) (hR : RWS lenP (g 27).toInt (F 26) (F 25) R) (hL : PTH lenP p2.toInt (F 24) L) (hce : CLO ps W 0 (F 28)), pw (f_part dn g F p0 p1 p2) (QF_part g F p0 p1 p2 ps W R L) := by
  induction dn with
  | zero => intros; exact pw_none
  | succ dn ihd =>
  intro g F p0 p1 p2 ps W R L hI hp0 hp1 hp2 hp3 hp4 hp5 hps hW hR hL hce
  show pw (F_part (f_part dn) g F p0 p1 p2) _
  unfold F_part
  have hI9 : id (MInv g F) := hI
  obtain ⟨-, -, -, -, -, -, -, -, -, hzg23, hzg27, -, -, -, -, -, -, -, -, -, -, -, -, -, -, hzF11, hzF12, hzF13, hzF15, hzF19, hzF21, hzF24, hzF25, hzF26, hzF33, hzF38, hzF41, hzF43, hzF45, hzF46, hzF50, hzF53, hzF54, hzLQ⟩ := hI
  have zk0 : (0 : Int32).toInt = 0 := by decide +kernel
  have zk1 : (1 : Int32).toInt = 1 := by decide +kernel
  have zk16 : (16 : Int32).toInt = 16 := by decide +kernel
  have zk24 : (24 : Int32).toInt = 24 := by decide +kernel
  have zk30 : (30 : Int32).toInt = 30 := by decide +kernel
  obtain ⟨hr1, hr2⟩ := hR.1
  have hl1 := hL.1
  have cp1 := clampI (x := p1) (by omega)
  have cp2 := clampI (x := p2) (by omega)
  have hb23 := hzg23
  have c23 := clampI (x := g 23) (by omega)
  have hb27 := hzg27
  have c27 := clampI (x := g 27) (by omega)
  have hWl : W.length = Int32.toNatClampNeg (g 23) := by rw [← hW]; exact wdl_len
  refine pw_ite (fun c6 => ?_) (fun c6 => ?_)
  · have c6 := congrArg Int32.toInt c6
    have qq0 : RWS lenP (g 27).toInt (F 26) (F 25) (AP R L (wy ps W (Int32.toNatClampNeg p1))) := by rw [AP_full (by omega)]; exact hR
    have qq1 : (∀ i : Nat, (i : Int) < p2.toInt → (F 24) i = (F 24) i) := by exact fun _ _ => rfl
    exact pw_some ⟨qq0, qq1⟩
  · have c6 := z_ne c6
    refine pw_ite (fun c15 => ?_) (fun c15 => ?_)
    · have c15 := congrArg Int32.toInt c15
      refine pw_jE (fun k55 ek55 => ?_)
      have lp21 : ∀ (n21 : Nat) (y21_4 : Int32) (d21_F25 : (Nat → Int32)), rng (0) 24 d21_F25 → (0 ≤ y21_4.toInt ∧ y21_4.toInt ≤ p2.toInt) → (∀ k : Nat, (k : Int) < y21_4.toInt → d21_F25 (24 * (g 27).toInt.toNat + k) = (F 24) k) → (∀ k : Nat, k < 24 * (g 27).toInt.toNat → d21_F25 k = (F 25) k) → pw (L_part_21 g F p2 k55 n21 y21_4 d21_F25) (QF_part g F p0 p1 p2 ps W R L) := by
        intro n21
        induction n21 with
        | zero => intros; exact pw_none
        | succ n21 ih21 =>
          intro y21_4 d21_F25 hg1 f2 wn21 wo21
          show pw (B_part_21 g F p2 k55 (L_part_21 g F p2 k55 n21) y21_4 d21_F25) _
          unfold B_part_21
          refine pw_ite (fun c24 => ?_) (fun c24 => ?_)
          · have c24 := (z_le _ _).mp c24
            refine pw_j1 ek55 (fun z55_1 ez55_1 => ?_)
            subst ez55_1
            refine pw_if (fun hb64 => ?_)
            obtain ⟨hbl64, hbr64⟩ := hb64
            refine pw_vl (fun w64 ew64 => ?_)
            have hF3 : rng (0) 24 w64 := by rw [ew64]; exact rng_upd hzF26 (by omega) (by omega)
            have f4 : ((g 27) + 1).toInt = (g 27).toInt + 1 := z_addc (by decide +kernel) (by omega) (by omega)
            refine pw_vl (fun x72 ex72 => ?_)
            have f5 : x72.toInt = ((g 27) + 1).toInt := congrArg Int32.toInt ex72
            have hg6 : ((0) ≤ x72.toInt ∧ x72.toInt ≤ 30) := ⟨by omega, by omega⟩
            have qq0 : RWS lenP x72.toInt w64 d21_F25 (AP R L (wy ps W (Int32.toNatClampNeg p1))) := by rw [wy_ge (by omega), AP_one (by omega)]; exact RWS_add hR hL (by omega) (by omega) (c := Int32.toNatClampNeg (g 27)) (by omega) rfl ew64 (fun q hq => wo21 q (by omega)) (fun i hi => by rw [show 24 * Int32.toNatClampNeg (g 27) + i = 24 * (g 27).toInt.toNat + i by omega]; exact wn21 i (by omega)) (by omega)
            have qq1 : (∀ i : Nat, (i : Int) < p2.toInt → (F 24) i = (F 24) i) := by exact fun _ _ => rfl
            exact pw_some ⟨qq0, qq1⟩
          · have c24 := z_nle c24
            have f7 : (24 * (g 27)).toInt = 24 * (g 27).toInt := z_muld (by decide +kernel) (by omega) (by omega)
            have f8 : ((24 * (g 27)) + y21_4).toInt = (24 * (g 27)).toInt + y21_4.toInt := z_add (by omega) (by omega)
            refine pw_if (fun hb47 => ?_)
            obtain ⟨hbl47, hbr47⟩ := hb47
            have f9 := hzF24 (Int32.toNatClampNeg y21_4)
            refine pw_if (fun hb48 => ?_)
            obtain ⟨hbl48, hbr48⟩ := hb48
            refine pw_vl (fun w48 ew48 => ?_)
            have hF10 : rng (0) 24 w48 := by rw [ew48]; exact rng_upd hg1 (by omega) (by omega)
            have f11 : (y21_4 + 1).toInt = y21_4.toInt + (1) := z_addc (by decide +kernel) (by omega) (by omega)
            have iv21_0 : (0 ≤ (y21_4 + 1).toInt ∧ (y21_4 + 1).toInt ≤ p2.toInt) := by first | omega | exact way_new ew48 (by omega) (by omega) (by omega) (by assumption) | exact way_old (i := y21_4) ew48 (by omega) (by omega) (by omega) (by assumption)
            have iv21_1 : (∀ k : Nat, (k : Int) < (y21_4 + 1).toInt → w48 (24 * (g 27).toInt.toNat + k) = (F 24) k) := by exact way_new ew48 (by omega) (by omega) (by omega) wn21
            have iv21_2 : (∀ k : Nat, k < 24 * (g 27).toInt.toNat → w48 k = (F 25) k) := by exact way_old (i := y21_4) ew48 (by omega) (by omega) (by omega) wo21
            exact ih21 (y21_4 + 1) w48 hF10 iv21_0 iv21_1 iv21_2
      exact lp21 NN (0 : Int32) (F 25) hzF25 (show (0 ≤ (0 : Int32).toInt ∧ (0 : Int32).toInt ≤ p2.toInt) from by first | omega | exact (fun k hk => absurd hk (by omega)) | exact (fun k hk => rfl)) (show (∀ k : Nat, (k : Int) < (0 : Int32).toInt → (F 25) (24 * (g 27).toInt.toNat + k) = (F 24) k) from by exact (fun k hk => absurd hk (by omega))) (show (∀ k : Nat, k < 24 * (g 27).toInt.toNat → (F 25) k = (F 25) k) from by exact (fun k hk => rfl))
    · have c15 := z_ne c15
      refine pw_jE (fun k149 ek149 => ?_)
      have lp79 : ∀ (n79 : Nat) (y79_4 : Int32) (d79_g27 : Int32) (d79_F24 : (Nat → Int32)) (d79_F25 : (Nat → Int32)) (d79_F26 : (Nat → Int32)), ((0) ≤ d79_g27.toInt ∧ d79_g27.toInt ≤ 30) → rng (0) 24 d79_F24 → rng (0) 24 d79_F25 → rng (0) 24 d79_F26 → (1 ≤ y79_4.toInt ∧ y79_4.toInt ≤ 17) → WS d79_F25 d79_F26 d79_g27 → (∀ k : Nat, (k : Int) < p2.toInt → d79_F24 k = (F 24) k) → (RWS lenP d79_g27.toInt d79_F26 d79_F25 (AP R L (wpre ps W (Int32.toNatClampNeg p1) (Int32.toNatClampNeg y79_4 - 1)))) → pw (L_part_79 (f_part dn) g F p0 p1 p2 k149 n79 y79_4 d79_g27 d79_F24 d79_F25 d79_F26) (QF_part g F p0 p1 p2 ps W R L) := by
        intro n79
        induction n79 with
        | zero => intros; exact pw_none
        | succ n79 ih79 =>
          intro y79_4 d79_g27 d79_F24 d79_F25 d79_F26 hg12 hg13 hg14 hg15 f16 ws79 ip79 ir79
          show pw (B_part_79 (f_part dn) g F p0 p1 p2 k149 (L_part_79 (f_part dn) g F p0 p1 p2 k149 n79) y79_4 d79_g27 d79_F24 d79_F25 d79_F26) _
          unfold B_part_79
          refine pw_ite (fun c83 => ?_) (fun c83 => ?_)
          · have c83 := (z_lt _ _).mp c83
            refine pw_j4 ek149 (fun z149_1 ez149_1 z149_2 ez149_2 z149_3 ez149_3 z149_4 ez149_4 => ?_)
            subst ez149_1 ez149_2 ez149_3 ez149_4
            have qq0 : RWS lenP d79_g27.toInt d79_F26 d79_F25 (AP R L (wy ps W (Int32.toNatClampNeg p1))) := by have k4 := clampI (x := y79_4) (by omega); have h9 := ir79; rw [show Int32.toNatClampNeg y79_4 - 1 = 16 by omega, wpre_16 (by omega)] at h9; exact h9
            have qq1 : (∀ i : Nat, (i : Int) < p2.toInt → d79_F24 i = (F 24) i) := by exact ip79
            exact pw_some ⟨qq0, qq1⟩
          · have c83 := z_nlt c83
            have f17 : (p1 + y79_4).toInt = p1.toInt + y79_4.toInt := z_add (by omega) (by omega)
            refine pw_ite (fun c94 => ?_) (fun c94 => ?_)
            · have c94 := (z_lt _ _).mp c94
              refine pw_j4 ek149 (fun z149_1 ez149_1 z149_2 ez149_2 z149_3 ez149_3 z149_4 ez149_4 => ?_)
              subst ez149_1 ez149_2 ez149_3 ez149_4
              have qq0 : RWS lenP d79_g27.toInt d79_F26 d79_F25 (AP R L (wy ps W (Int32.toNatClampNeg p1))) := by have k4 := clampI (x := y79_4) (by omega); have h9 := ir79; rw [wpre_all (by omega) (by omega) (by omega)] at h9; exact h9
              have qq1 : (∀ i : Nat, (i : Int) < p2.toInt → d79_F24 i = (F 24) i) := by exact ip79
              exact pw_some ⟨qq0, qq1⟩
            · have c94 := z_nlt c94
              have k4 := clampI (x := y79_4) (by omega)
              have kc := clampI (x := p1 + y79_4) (by omega)
              have hcj := hce (Int32.toNatClampNeg p1 + (Int32.toNatClampNeg y79_4 - 1) + 1) (by omega) (by omega)
              rw [show Int32.toNatClampNeg p1 + (Int32.toNatClampNeg y79_4 - 1) + 1 = Int32.toNatClampNeg (p1 + y79_4) by omega] at hcj
              refine pw_if (fun hb105 => ?_)
              obtain ⟨hbl105, hbr105⟩ := hb105
              refine pw_jE (fun j143 ej143 => ?_)
              refine pw_ite (fun c106 => ?_) (fun c106 => ?_)
              · have c106 := congrArg Int32.toInt c106
                have hnil : wy ps W (Int32.toNatClampNeg p1 + (Int32.toNatClampNeg y79_4 - 1) + 1) = [] := by rw [show Int32.toNatClampNeg p1 + (Int32.toNatClampNeg y79_4 - 1) + 1 = Int32.toNatClampNeg (p1 + y79_4) by omega]; by_cases q9 : wy ps W (Int32.toNatClampNeg (p1 + y79_4)) = []; (exact q9); (exact absurd (hcj.mpr q9) (fun q8 => q8 (by omega)))
                refine pw_j4 ej143 (fun z143_1 ez143_1 z143_2 ez143_2 z143_3 ez143_3 z143_4 ez143_4 => ?_)
                subst ez143_1 ez143_2 ez143_3 ez143_4
                have f19 : (y79_4 + 1).toInt = y79_4.toInt + (1) := z_addc (by decide +kernel) (by omega) (by omega)
                have iv79_0 : (1 ≤ (y79_4 + 1).toInt ∧ (y79_4 + 1).toInt ≤ 17) := by first | omega | assumption
                have iv79_1 : WS d79_F25 d79_F26 d79_g27 := by exact ws79
                have iv79_2 : (∀ k : Nat, (k : Int) < p2.toInt → d79_F24 k = (F 24) k) := by exact ip79
                have iv79_3 : (RWS lenP d79_g27.toInt d79_F26 d79_F25 (AP R L (wpre ps W (Int32.toNatClampNeg p1) (Int32.toNatClampNeg (y79_4 + 1) - 1)))) := by have k6 := clampI (x := y79_4 + 1) (by omega); rw [show Int32.toNatClampNeg (y79_4 + 1) - 1 = (Int32.toNatClampNeg y79_4 - 1) + 1 by omega, wpre_s]; rw [wst_nil hnil, List.append_nil]; exact ir79
                exact ih79 (y79_4 + 1) d79_g27 d79_F24 d79_F25 d79_F26 hg12 hg13 hg14 hg15 iv79_0 iv79_1 iv79_2 iv79_3
              · have c106 := z_ne c106
                have hMI114 : id (MInv (upd g 27 d79_g27) (upF (upF (upF F 24 d79_F24) 25 d79_F25) 26 d79_F26)) := show MInv (upd g 27 d79_g27) (upF (upF (upF F 24 d79_F24) 25 d79_F25) 26 d79_F26) from (MInv_i ((hI9.1)) ((hI9.2.1)) ((hI9.2.2.1)) ((hI9.2.2.2.1)) ((hI9.2.2.2.2.1)) ((hI9.2.2.2.2.2.1)) ((hI9.2.2.2.2.2.2.1)) ((hI9.2.2.2.2.2.2.2.1)) ((hI9.2.2.2.2.2.2.2.2.1)) hzg23 hg12 ((hI9.2.2.2.2.2.2.2.2.2.2.2.1)) ((hI9.2.2.2.2.2.2.2.2.2.2.2.2.1)) ((hI9.2.2.2.2.2.2.2.2.2.2.2.2.2.1)) ((hI9.2.2.2.2.2.2.2.2.2.2.2.2.2.2.1)) ((hI9.2.2.2.2.2.2.2.2.2.2.2.2.2.2.2.1)) ((hI9.2.2.2.2.2.2.2.2.2.2.2.2.2.2.2.2.1)) ((hI9.2.2.2.2.2.2.2.2.2.2.2.2.2.2.2.2.2.1)) ((hI9.2.2.2.2.2.2.2.2.2.2.2.2.2.2.2.2.2.2.1)) ((hI9.2.2.2.2.2.2.2.2.2.2.2.2.2.2.2.2.2.2.2.1)) ((hI9.2.2.2.2.2.2.2.2.2.2.2.2.2.2.2.2.2.2.2.2.1)) ((hI9.2.2.2.2.2.2.2.2.2.2.2.2.2.2.2.2.2.2.2.2.2.1)) ((hI9.2.2.2.2.2.2.2.2.2.2.2.2.2.2.2.2.2.2.2.2.2.2.1)) ((hI9.2.2.2.2.2.2.2.2.2.2.2.2.2.2.2.2.2.2.2.2.2.2.2.1)) ((hI9.2.2.2.2.2.2.2.2.2.2.2.2.2.2.2.2.2.2.2.2.2.2.2.2.1)) hzF11 hzF12 hzF13 hzF15 hzF19 hzF21 hg13 hg14 hg15 hzF33 hzF38 hzF41 hzF43 hzF45 hzF46 hzF50 hzF53 hzF54 hzLQ)
                have hpr114_0 : (0 ≤ p0.toInt ∧ p0.toInt ≤ 6) := by first | assumption | omega
                have hpr114_1 : (0 ≤ p1.toInt ∧ p1.toInt + y79_4.toInt ≤ 24 ∧ y79_4.toInt ≤ 16) := by first | assumption | omega
                refine pw_b1 (fun r114 hc114 => ?_)
                have hq114 := wp_at (ok_isWordPart (upd g 27 d79_g27) (upF (upF (upF F 24 d79_F24) 25 d79_F25) 26 d79_F26) p0 p1 y79_4 hMI114 hpr114_0 hpr114_1) hc114
                have f20 : (0 ≤ r114.toInt ∧ r114.toInt ≤ 1) := hq114
                clear hq114
                have h8114_hps : prtR ((F 12) (Int32.toNatClampNeg p0)) (F 18) (F 19) (40 * Int32.toNatClampNeg p0) = ps := by exact hps
                have h8114_hW : wdl (F 22) 0 (Int32.toNatClampNeg (g 23)) = W := by exact hW
                have h8114_hln : p1.toInt + y79_4.toInt ≤ (g 23).toInt := by first | assumption | omega
                have h8114_hn1 : 1 ≤ y79_4.toInt := by first | assumption | omega
                have hx114 := pwq (fn_isWordPart (upd g 27 d79_g27) (upF (upF (upF F 24 d79_F24) 25 d79_F25) 26 d79_F26) p0 p1 y79_4 (ps) (W) hMI114 hpr114_0 hpr114_1 h8114_hps h8114_hW h8114_hln h8114_hn1) hc114
                obtain ⟨p114_0, p114_1⟩ : (id ((r114.toInt ≠ 0 → ((W.drop (Int32.toNatClampNeg p1)).take (Int32.toNatClampNeg y79_4)) ∈ ps))) ∧ (id ((r114.toInt = 0 → ((W.drop (Int32.toNatClampNeg p1)).take (Int32.toNatClampNeg y79_4)) ∉ ps))) := hx114
                refine pw_ite (fun c117 => ?_) (fun c117 => ?_)
                · have c117 := congrArg Int32.toInt c117
                  have hnm : ((W.drop (Int32.toNatClampNeg p1)).take (Int32.toNatClampNeg y79_4 - 1 + 1)) ∉ ps := by rw [show Int32.toNatClampNeg y79_4 - 1 + 1 = Int32.toNatClampNeg y79_4 by omega]; exact p114_1 (by omega)
                  refine pw_j4 ej143 (fun z143_1 ez143_1 z143_2 ez143_2 z143_3 ez143_3 z143_4 ez143_4 => ?_)
                  subst ez143_1 ez143_2 ez143_3 ez143_4
                  have f21 : (y79_4 + 1).toInt = y79_4.toInt + (1) := z_addc (by decide +kernel) (by omega) (by omega)
                  have iv79_0 : (1 ≤ (y79_4 + 1).toInt ∧ (y79_4 + 1).toInt ≤ 17) := by first | omega | assumption
                  have iv79_1 : WS d79_F25 d79_F26 d79_g27 := by exact ws79
                  have iv79_2 : (∀ k : Nat, (k : Int) < p2.toInt → d79_F24 k = (F 24) k) := by exact ip79
                  have iv79_3 : (RWS lenP d79_g27.toInt d79_F26 d79_F25 (AP R L (wpre ps W (Int32.toNatClampNeg p1) (Int32.toNatClampNeg (y79_4 + 1) - 1)))) := by have k6 := clampI (x := y79_4 + 1) (by omega); rw [show Int32.toNatClampNeg (y79_4 + 1) - 1 = (Int32.toNatClampNeg y79_4 - 1) + 1 by omega, wpre_s]; rw [wst_no (fun q => hnm q.2), List.append_nil]; exact ir79
                  exact ih79 (y79_4 + 1) d79_g27 d79_F24 d79_F25 d79_F26 hg12 hg13 hg14 hg15 iv79_0 iv79_1 iv79_2 iv79_3
                · have c117 := z_ne c117
                  have hmm : ((W.drop (Int32.toNatClampNeg p1)).take (Int32.toNatClampNeg y79_4 - 1 + 1)) ∈ ps := by rw [show Int32.toNatClampNeg y79_4 - 1 + 1 = Int32.toNatClampNeg y79_4 by omega]; exact p114_0 (by omega)
                  refine pw_if (fun hb130 => ?_)
                  obtain ⟨hbl130, hbr130⟩ := hb130
                  refine pw_vl (fun w130 ew130 => ?_)
                  have hF22 : rng (0) 24 w130 := by rw [ew130]; exact rng_upd hg13 (by omega) (by omega)
                  have f24 : (p2 + 1).toInt = p2.toInt + 1 := z_addc (by decide +kernel) (by omega) (by omega)
                  have hMI140 : id (MInv (upd g 27 d79_g27) (upF (upF (upF F 24 w130) 25 d79_F25) 26 d79_F26)) := show MInv (upd g 27 d79_g27) (upF (upF (upF F 24 w130) 25 d79_F25) 26 d79_F26) from (MInv_i ((hI9.1)) ((hI9.2.1)) ((hI9.2.2.1)) ((hI9.2.2.2.1)) ((hI9.2.2.2.2.1)) ((hI9.2.2.2.2.2.1)) ((hI9.2.2.2.2.2.2.1)) ((hI9.2.2.2.2.2.2.2.1)) ((hI9.2.2.2.2.2.2.2.2.1)) hzg23 hg12 ((hI9.2.2.2.2.2.2.2.2.2.2.2.1)) ((hI9.2.2.2.2.2.2.2.2.2.2.2.2.1)) ((hI9.2.2.2.2.2.2.2.2.2.2.2.2.2.1)) ((hI9.2.2.2.2.2.2.2.2.2.2.2.2.2.2.1)) ((hI9.2.2.2.2.2.2.2.2.2.2.2.2.2.2.2.1)) ((hI9.2.2.2.2.2.2.2.2.2.2.2.2.2.2.2.2.1)) ((hI9.2.2.2.2.2.2.2.2.2.2.2.2.2.2.2.2.2.1)) ((hI9.2.2.2.2.2.2.2.2.2.2.2.2.2.2.2.2.2.2.1)) ((hI9.2.2.2.2.2.2.2.2.2.2.2.2.2.2.2.2.2.2.2.1)) ((hI9.2.2.2.2.2.2.2.2.2.2.2.2.2.2.2.2.2.2.2.2.1)) ((hI9.2.2.2.2.2.2.2.2.2.2.2.2.2.2.2.2.2.2.2.2.2.1)) ((hI9.2.2.2.2.2.2.2.2.2.2.2.2.2.2.2.2.2.2.2.2.2.2.1)) ((hI9.2.2.2.2.2.2.2.2.2.2.2.2.2.2.2.2.2.2.2.2.2.2.2.1)) ((hI9.2.2.2.2.2.2.2.2.2.2.2.2.2.2.2.2.2.2.2.2.2.2.2.2.1)) hzF11 hzF12 hzF13 hzF15 hzF19 hzF21 hF22 hg14 hg15 hzF33 hzF38 hzF41 hzF43 hzF45 hzF46 hzF50 hzF53 hzF54 hzLQ)
                  have hpr140_0 : ((g 23).toInt - (p1 + y79_4).toInt) < dn := by first | assumption | omega
                  have hpr140_1 : (0 ≤ p0.toInt ∧ p0.toInt ≤ 6) := by first | assumption | omega
                  have hpr140_2 : (0 ≤ (p1 + y79_4).toInt ∧ (p1 + y79_4).toInt ≤ (g 23).toInt) := by first | assumption | omega
                  have hpr140_3 : (0 ≤ (p2 + 1).toInt ∧ (p2 + 1).toInt ≤ (p1 + y79_4).toInt) := by first | assumption | omega
                  have hpr140_4 : psum w130 0 (p2 + 1).toInt.toNat = (p1 + y79_4).toInt := by rw [show (p2 + 1).toInt.toNat = p2.toInt.toNat + 1 by omega, ps_push ew130 (by omega) (by assumption), hp4]; omega
                  have hpr140_5 : WS d79_F25 d79_F26 d79_g27 := by first | assumption | exact WS_zero
                  refine pw_b4 (fun c140_g27 c140_F24 c140_F25 c140_F26 hc140 => ?_)
                  have hq140 := wp_at (ok_part dn (upd g 27 d79_g27) (upF (upF (upF F 24 w130) 25 d79_F25) 26 d79_F26) p0 (p1 + y79_4) (p2 + 1) hMI140 hpr140_0 hpr140_1 hpr140_2 hpr140_3 hpr140_4 hpr140_5) hc140
                  obtain ⟨hg25, hg26, hg27, hg28, f29, f30⟩ : (((0) ≤ c140_g27.toInt ∧ c140_g27.toInt ≤ 30)) ∧ (rng (0) 24 c140_F24) ∧ (rng (0) 24 c140_F25) ∧ (rng (0) 24 c140_F26) ∧ (WS c140_F25 c140_F26 c140_g27) ∧ (id ((∀ k : Nat, (k : Int) < (p2 + 1).toInt → c140_F24 k = w130 k))) := hq140
                  have h8140_hps : prtR ((F 12) (Int32.toNatClampNeg p0)) (F 18) (F 19) (40 * Int32.toNatClampNeg p0) = ps := by exact hps
                  have h8140_hW : wdl (F 22) 0 (Int32.toNatClampNeg (g 23)) = W := by exact hW
                  have h8140_hR : RWS lenP d79_g27.toInt d79_F26 d79_F25 (AP R L (wpre ps W (Int32.toNatClampNeg p1) (Int32.toNatClampNeg y79_4 - 1))) := by exact ir79
                  have h8140_hL : PTH lenP (p2 + 1).toInt w130 (L ++ [((W.drop (Int32.toNatClampNeg p1)).take (Int32.toNatClampNeg y79_4 - 1 + 1))]) := by exact PTH_add (PTH_eq hL ip79) (c := Int32.toNatClampNeg p2) (by omega) ew130 (by show y79_4.toInt = _; rw [sl_len (by omega)]; omega) (by omega)
                  have h8140_hce : CLO ps W 0 (F 28) := by exact hce
                  have hx140 := pwq (ihd (upd g 27 d79_g27) (upF (upF (upF F 24 w130) 25 d79_F25) 26 d79_F26) p0 (p1 + y79_4) (p2 + 1) (ps) (W) (AP R L (wpre ps W (Int32.toNatClampNeg p1) (Int32.toNatClampNeg y79_4 - 1))) (L ++ [((W.drop (Int32.toNatClampNeg p1)).take (Int32.toNatClampNeg y79_4 - 1 + 1))]) hMI140 hpr140_0 hpr140_1 hpr140_2 hpr140_3 hpr140_4 hpr140_5 h8140_hps h8140_hW h8140_hR h8140_hL h8140_hce) hc140
                  obtain ⟨p140_0, p140_1⟩ : (RWS lenP c140_g27.toInt c140_F26 c140_F25 (AP (AP R L (wpre ps W (Int32.toNatClampNeg p1) (Int32.toNatClampNeg y79_4 - 1))) (L ++ [((W.drop (Int32.toNatClampNeg p1)).take (Int32.toNatClampNeg y79_4 - 1 + 1))]) (wy ps W (Int32.toNatClampNeg (p1 + y79_4))))) ∧ (id ((∀ i : Nat, (i : Int) < (p2 + 1).toInt → c140_F24 i = w130 i))) := hx140
                  have hws := f29
                  have hpf := f30
                  refine pw_j4 ej143 (fun z143_1 ez143_1 z143_2 ez143_2 z143_3 ez143_3 z143_4 ez143_4 => ?_)
                  subst ez143_1 ez143_2 ez143_3 ez143_4
                  have f31 : (y79_4 + 1).toInt = y79_4.toInt + (1) := z_addc (by decide +kernel) (by omega) (by omega)
                  have iv79_0 : (1 ≤ (y79_4 + 1).toInt ∧ (y79_4 + 1).toInt ≤ 17) := by first | omega | assumption
                  have iv79_1 : WS c140_F25 c140_F26 c140_g27 := by exact hws
                  have iv79_2 : (∀ k : Nat, (k : Int) < p2.toInt → c140_F24 k = (F 24) k) := by exact pfx2 ip79 hpf ew130 (by omega)
                  have iv79_3 : (RWS lenP c140_g27.toInt c140_F26 c140_F25 (AP R L (wpre ps W (Int32.toNatClampNeg p1) (Int32.toNatClampNeg (y79_4 + 1) - 1)))) := by have k6 := clampI (x := y79_4 + 1) (by omega); rw [show Int32.toNatClampNeg (y79_4 + 1) - 1 = (Int32.toNatClampNeg y79_4 - 1) + 1 by omega, wpre_s]; rw [wst_yes (by omega) hmm, ← AP_add, AP_cons]; have h9 := p140_0; rw [show Int32.toNatClampNeg (p1 + y79_4) = Int32.toNatClampNeg p1 + (Int32.toNatClampNeg y79_4 - 1) + 1 by omega] at h9; exact h9
                  exact ih79 (y79_4 + 1) c140_g27 c140_F24 c140_F25 c140_F26 hg25 hg26 hg27 hg28 iv79_0 iv79_1 iv79_2 iv79_3
      exact lp79 NN (1 : Int32) (g 27) (F 24) (F 25) (F 26) hzg27 hzF24 hzF25 hzF26 (show (1 ≤ (1 : Int32).toInt ∧ (1 : Int32).toInt ≤ 17) from by first | omega | assumption | exact (fun k hk => rfl)) (show WS (F 25) (F 26) (g 27) from by assumption) (show (∀ k : Nat, (k : Int) < p2.toInt → (F 24) k = (F 24) k) from by exact (fun k hk => rfl)) (show (RWS lenP (g 27).toInt (F 26) (F 25) (AP R L (wpre ps W (Int32.toNatClampNeg p1) (Int32.toNatClampNeg (1 : Int32) - 1)))) from by rw [show Int32.toNatClampNeg (1 : Int32) - 1 = 0 from rfl, wpre_0, AP_nil (by omega)]; exact hR)
abbrev QF_makeWays (g : Nat → Int32) (F : Nat → Nat → Int32) (p0 : Int32) (ps : List Wd) (W : Wd) : (Int32 × (Nat → Int32) × (Nat → Int32) × (Nat → Int32) × (Nat → Int32)) → Prop := (fun t => (RWS lenP (t.1).toInt (t.2.2.2.1) (t.2.2.1) ((wy ps W 0).take 30)))
set_option maxHeartbeats 4000000 in
set_option maxRecDepth 100000 in
theorem fn_makeWays (g : Nat → Int32) (F : Nat → Nat → Int32) (p0 : Int32) (ps : List Wd) (W : Wd) (hI : MInv g F) (hp0 : (0 ≤ p0.toInt ∧ p0.toInt ≤ 6)) (hps : prtR ((F 12) (Int32.toNatClampNeg p0)) (F 18) (F 19) (40 * Int32.toNatClampNeg p0) = ps) (hW : wdl (F 22) 0 (Int32.toNatClampNeg (g 23)) = W) (hl1 : 1 ≤ (g 23).toInt) : pw (f_makeWays g F p0) (QF_makeWays g F p0 ps W) := by
  unfold f_makeWays
  have hI9 : id (MInv g F) := hI
  obtain ⟨-, -, -, -, -, -, -, -, -, hzg23, hzg27, -, -, -, -, -, -, -, -, -, -, -, -, -, -, hzF11, hzF12, hzF13, hzF15, hzF19, hzF21, hzF24, hzF25, hzF26, hzF33, hzF38, hzF41, hzF43, hzF45, hzF46, hzF50, hzF53, hzF54, hzLQ⟩ := hI
  have zk0 : (0 : Int32).toInt = 0 := by decide +kernel
  have zk1 : (1 : Int32).toInt = 1 := by decide +kernel
  have zk16 : (16 : Int32).toInt = 16 := by decide +kernel
  have hb23 := hzg23
  have c23 := clampI (x := g 23) (by omega)
  have hWl : W.length = Int32.toNatClampNeg (g 23) := by rw [← hW]; exact wdl_len
  refine pw_if (fun hb9 => ?_)
  obtain ⟨hbl9, hbr9⟩ := hb9
  refine pw_vl (fun w9 ew9 => ?_)
  have f1 : ((g 23) - 1).toInt = (g 23).toInt - 1 := z_subc (by decide +kernel) (by omega) (by omega)
  refine pw_vl (fun x16 ex16 => ?_)
  have f2 : x16.toInt = ((g 23) - 1).toInt := congrArg Int32.toInt ex16
  refine pw_jE (fun k99 ek99 => ?_)
  have lp17 : ∀ (n17 : Nat) (y17_2 : Int32) (d17_F28 : (Nat → Int32)), ((-1) ≤ y17_2.toInt ∧ y17_2.toInt < (g 23).toInt) → (CLO ps W (y17_2.toInt + 1).toNat d17_F28) → pw (L_makeWays_17 g F p0 k99 n17 y17_2 d17_F28) (QF_makeWays g F p0 ps W) := by
    intro n17
    induction n17 with
    | zero => intros; exact pw_none
    | succ n17 ih17 =>
      intro y17_2 d17_F28 f3 ic17
      show pw (B_makeWays_17 g F p0 k99 (L_makeWays_17 g F p0 k99 n17) y17_2 d17_F28) _
      unfold B_makeWays_17
      refine pw_ite (fun c18 => ?_) (fun c18 => ?_)
      · have c18 := (z_lt _ _).mp c18
        have hc0 := ic17
        rw [show (y17_2.toInt + 1).toNat = 0 by omega] at hc0
        refine pw_j1 ek99 (fun z99_1 ez99_1 => ?_)
        subst ez99_1
        have hg4 : ((0) ≤ (0 : Int32).toInt ∧ (0 : Int32).toInt ≤ 30) := ⟨by omega, by omega⟩
        refine pw_if (fun hb109 => ?_)
        obtain ⟨hbl109, hbr109⟩ := hb109
        refine pw_jE (fun j120 ej120 => ?_)
        refine pw_ite (fun c110 => ?_) (fun c110 => ?_)
        · have c110 := congrArg Int32.toInt c110
          refine pw_j4 ej120 (fun z120_1 ez120_1 z120_2 ez120_2 z120_3 ez120_3 z120_4 ez120_4 => ?_)
          subst ez120_1 ez120_2 ez120_3 ez120_4
          have qq0 : RWS lenP (0 : Int32).toInt (F 26) (F 25) ((wy ps W 0).take 30) := by have e9 : wy ps W 0 = [] := (by by_cases q9 : wy ps W 0 = []; (exact q9); (exact absurd ((hc0 0 (by omega) (by omega)).mpr q9) (fun q8 => q8 (by have z : Int32.toNatClampNeg (0 : Int32) = 0 := rfl; rw [z] at c110; omega)))); rw [e9]; exact RWS_0 (by omega)
          exact pw_some qq0
        · have c110 := z_ne c110
          have hMI117 : id (MInv (upd g 27 0) (upF F 28 d17_F28)) := show MInv (upd g 27 0) (upF F 28 d17_F28) from (MInv_i ((hI9.1)) ((hI9.2.1)) ((hI9.2.2.1)) ((hI9.2.2.2.1)) ((hI9.2.2.2.2.1)) ((hI9.2.2.2.2.2.1)) ((hI9.2.2.2.2.2.2.1)) ((hI9.2.2.2.2.2.2.2.1)) ((hI9.2.2.2.2.2.2.2.2.1)) hzg23 hg4 ((hI9.2.2.2.2.2.2.2.2.2.2.2.1)) ((hI9.2.2.2.2.2.2.2.2.2.2.2.2.1)) ((hI9.2.2.2.2.2.2.2.2.2.2.2.2.2.1)) ((hI9.2.2.2.2.2.2.2.2.2.2.2.2.2.2.1)) ((hI9.2.2.2.2.2.2.2.2.2.2.2.2.2.2.2.1)) ((hI9.2.2.2.2.2.2.2.2.2.2.2.2.2.2.2.2.1)) ((hI9.2.2.2.2.2.2.2.2.2.2.2.2.2.2.2.2.2.1)) ((hI9.2.2.2.2.2.2.2.2.2.2.2.2.2.2.2.2.2.2.1)) ((hI9.2.2.2.2.2.2.2.2.2.2.2.2.2.2.2.2.2.2.2.1)) ((hI9.2.2.2.2.2.2.2.2.2.2.2.2.2.2.2.2.2.2.2.2.1)) ((hI9.2.2.2.2.2.2.2.2.2.2.2.2.2.2.2.2.2.2.2.2.2.1)) ((hI9.2.2.2.2.2.2.2.2.2.2.2.2.2.2.2.2.2.2.2.2.2.2.1)) ((hI9.2.2.2.2.2.2.2.2.2.2.2.2.2.2.2.2.2.2.2.2.2.2.2.1)) ((hI9.2.2.2.2.2.2.2.2.2.2.2.2.2.2.2.2.2.2.2.2.2.2.2.2.1)) hzF11 hzF12 hzF13 hzF15 hzF19 hzF21 hzF24 hzF25 hzF26 hzF33 hzF38 hzF41 hzF43 hzF45 hzF46 hzF50 hzF53 hzF54 hzLQ)
          have hpr117_0 : ((g 23).toInt - (0 : Int32).toInt) < 40 := by first | assumption | omega
          have hpr117_1 : (0 ≤ p0.toInt ∧ p0.toInt ≤ 6) := by first | assumption | omega
          have hpr117_2 : (0 ≤ (0 : Int32).toInt ∧ (0 : Int32).toInt ≤ (g 23).toInt) := by first | assumption | omega
          have hpr117_3 : (0 ≤ (0 : Int32).toInt ∧ (0 : Int32).toInt ≤ (0 : Int32).toInt) := by first | assumption | omega
          have hpr117_4 : psum (F 24) 0 (0 : Int32).toInt.toNat = (0 : Int32).toInt := by rfl
          have hpr117_5 : WS (F 25) (F 26) (0 : Int32) := by first | assumption | exact WS_zero
          refine pw_b4 (fun c117_g27 c117_F24 c117_F25 c117_F26 hc117 => ?_)
          have hq117 := wp_at (ok_part 40 (upd g 27 0) (upF F 28 d17_F28) p0 (0 : Int32) (0 : Int32) hMI117 hpr117_0 hpr117_1 hpr117_2 hpr117_3 hpr117_4 hpr117_5) hc117
          obtain ⟨hg5, hg6, hg7, hg8, f9, f10⟩ : (((0) ≤ c117_g27.toInt ∧ c117_g27.toInt ≤ 30)) ∧ (rng (0) 24 c117_F24) ∧ (rng (0) 24 c117_F25) ∧ (rng (0) 24 c117_F26) ∧ (WS c117_F25 c117_F26 c117_g27) ∧ (id ((∀ k : Nat, (k : Int) < (0 : Int32).toInt → c117_F24 k = (F 24) k))) := hq117
          have h8117_hps : prtR ((F 12) (Int32.toNatClampNeg p0)) (F 18) (F 19) (40 * Int32.toNatClampNeg p0) = ps := by exact hps
          have h8117_hW : wdl (F 22) 0 (Int32.toNatClampNeg (g 23)) = W := by exact hW
          have h8117_hR : RWS lenP (0 : Int32).toInt (F 26) (F 25) ([]) := by exact RWS_0 (by omega)
          have h8117_hL : PTH lenP (0 : Int32).toInt (F 24) ([]) := by exact PTH_0 (by omega)
          have h8117_hce : CLO ps W 0 d17_F28 := by exact hc0
          have hx117 := pwq (fn_part 40 (upd g 27 0) (upF F 28 d17_F28) p0 (0 : Int32) (0 : Int32) (ps) (W) ([]) ([]) hMI117 hpr117_0 hpr117_1 hpr117_2 hpr117_3 hpr117_4 hpr117_5 h8117_hps h8117_hW h8117_hR h8117_hL h8117_hce) hc117
          obtain ⟨p117_0, p117_1⟩ : (RWS lenP c117_g27.toInt c117_F26 c117_F25 (AP ([]) ([]) (wy ps W (Int32.toNatClampNeg (0 : Int32))))) ∧ (id ((∀ i : Nat, (i : Int) < (0 : Int32).toInt → c117_F24 i = (F 24) i))) := hx117
          refine pw_j4 ej120 (fun z120_1 ez120_1 z120_2 ez120_2 z120_3 ez120_3 z120_4 ez120_4 => ?_)
          subst ez120_1 ez120_2 ez120_3 ez120_4
          have qq0 : RWS lenP c117_g27.toInt c117_F26 c117_F25 ((wy ps W 0).take 30) := by rw [← AP_0]; have h9 := p117_0; rw [show Int32.toNatClampNeg (0 : Int32) = 0 from rfl] at h9; exact h9
          exact pw_some qq0
      · have c18 := z_nlt c18
        refine pw_if (fun hb27 => ?_)
        obtain ⟨hbl27, hbr27⟩ := hb27
        refine pw_vl (fun w27 ew27 => ?_)
        refine pw_jE (fun k93 ek93 => ?_)
        have lp30 : ∀ (n30 : Nat) (y30_3 : Int32) (d30_F28 : (Nat → Int32)), (1 ≤ y30_3.toInt ∧ y30_3.toInt ≤ 17) → (∀ j, j ≠ Int32.toNatClampNeg y17_2 → d30_F28 j = d17_F28 j) → ((d30_F28 (Int32.toNatClampNeg y17_2)).toInt ≠ 0 ↔ wpre ps W (Int32.toNatClampNeg y17_2) (Int32.toNatClampNeg y30_3 - 1) ≠ []) → pw (L_makeWays_30 g F p0 y17_2 k93 n30 y30_3 d30_F28) (QF_makeWays g F p0 ps W) := by
          intro n30
          induction n30 with
          | zero => intros; exact pw_none
          | succ n30 ih30 =>
            intro y30_3 d30_F28 f11 io30 ib30
            show pw (B_makeWays_30 g F p0 y17_2 k93 (L_makeWays_30 g F p0 y17_2 k93 n30) y30_3 d30_F28) _
            unfold B_makeWays_30
            refine pw_ite (fun c33 => ?_) (fun c33 => ?_)
            · have c33 := (z_lt _ _).mp c33
              refine pw_j1 ek93 (fun z93_1 ez93_1 => ?_)
              subst ez93_1
              have f12 : (y17_2 + (-1)).toInt = y17_2.toInt + (-1) := z_addc (by decide +kernel) (by omega) (by omega)
              obtain ⟨z13, ez13⟩ : ∃ z : Int32, z = (y17_2 + (-1)) := ⟨_, rfl⟩
              have fz13 : z13.toInt = y17_2.toInt + (-1) := by rw [ez13]; exact f12
              rw [← ez13]
              clear f12 ez13
              have iv17_0 : ((-1) ≤ z13.toInt ∧ z13.toInt < (g 23).toInt) := by omega
              have iv17_1 : (CLO ps W (z13.toInt + 1).toNat d30_F28) := by have k2 := clampI (x := y17_2) (by omega); have k3 := clampI (x := y30_3) (by omega); rw [show (z13.toInt + 1).toNat = Int32.toNatClampNeg y17_2 by omega]; refine CLO_step ic17 (by omega) ?_ io30; have h9 := ib30; rw [show Int32.toNatClampNeg y30_3 - 1 = 16 by omega, wpre_16 (by omega)] at h9; exact h9
              exact ih17 z13 d30_F28 iv17_0 iv17_1
            · have c33 := z_nlt c33
              have f14 : (y17_2 + y30_3).toInt = y17_2.toInt + y30_3.toInt := z_add (by omega) (by omega)
              refine pw_ite (fun c43 => ?_) (fun c43 => ?_)
              · have c43 := (z_lt _ _).mp c43
                refine pw_j1 ek93 (fun z93_1 ez93_1 => ?_)
                subst ez93_1
                have f15 : (y17_2 + (-1)).toInt = y17_2.toInt + (-1) := z_addc (by decide +kernel) (by omega) (by omega)
                obtain ⟨z16, ez16⟩ : ∃ z : Int32, z = (y17_2 + (-1)) := ⟨_, rfl⟩
                have fz16 : z16.toInt = y17_2.toInt + (-1) := by rw [ez16]; exact f15
                rw [← ez16]
                clear f15 ez16
                have iv17_0 : ((-1) ≤ z16.toInt ∧ z16.toInt < (g 23).toInt) := by omega
                have iv17_1 : (CLO ps W (z16.toInt + 1).toNat d30_F28) := by have k2 := clampI (x := y17_2) (by omega); have k3 := clampI (x := y30_3) (by omega); rw [show (z16.toInt + 1).toNat = Int32.toNatClampNeg y17_2 by omega]; refine CLO_step ic17 (by omega) ?_ io30; have h9 := ib30; rw [wpre_all (by omega) (by omega) (by omega)] at h9; exact h9
                exact ih17 z16 d30_F28 iv17_0 iv17_1
              · have c43 := z_nlt c43
                refine pw_if (fun hb51 => ?_)
                obtain ⟨hbl51, hbr51⟩ := hb51
                refine pw_ite (fun c52 => ?_) (fun c52 => ?_)
                · have c52 := congrArg Int32.toInt c52
                  have hw0 : wpre ps W (Int32.toNatClampNeg y17_2) (Int32.toNatClampNeg y30_3 - 1) = [] := by by_cases q9 : wpre ps W (Int32.toNatClampNeg y17_2) (Int32.toNatClampNeg y30_3 - 1) = []; (exact q9); (exact absurd (ib30.mpr q9) (fun q8 => q8 (by omega)))
                  refine pw_if (fun hb67 => ?_)
                  obtain ⟨hbl67, hbr67⟩ := hb67
                  refine pw_jE (fun j86 ej86 => ?_)
                  refine pw_jE (fun j85 ej85 => ?_)
                  refine pw_ite (fun c68 => ?_) (fun c68 => ?_)
                  · have c68 := congrArg Int32.toInt c68
                    refine pw_j0 ej85 ?_
                    refine pw_j1 ej86 (fun t86_0 et86_0 => ?_)
                    have et86_0 := et86_0.symm
                    have f_t86_0 : t86_0.toInt = 0 := by rw [et86_0]; decide +kernel
                    refine pw_if (fun hb86 => ?_)
                    obtain ⟨hbl86, hbr86⟩ := hb86
                    refine pw_vl (fun w86 ew86 => ?_)
                    have f18 : (y30_3 + 1).toInt = y30_3.toInt + (1) := z_addc (by decide +kernel) (by omega) (by omega)
                    have iv30_0 : (1 ≤ (y30_3 + 1).toInt ∧ (y30_3 + 1).toInt ≤ 17) := by omega
                    have iv30_1 : (∀ j, j ≠ Int32.toNatClampNeg y17_2 → w86 j = d17_F28 j) := by intro j hj; rw [ew86, pk_un hj]; exact io30 j hj
                    have iv30_2 : ((w86 (Int32.toNatClampNeg y17_2)).toInt ≠ 0 ↔ wpre ps W (Int32.toNatClampNeg y17_2) (Int32.toNatClampNeg (y30_3 + 1) - 1) ≠ []) := by have k3 := clampI (x := y30_3) (by omega); have k6 := clampI (x := y30_3 + 1) (by omega); have k2 := clampI (x := y17_2) (by omega); rw [show Int32.toNatClampNeg (y30_3 + 1) - 1 = (Int32.toNatClampNeg y30_3 - 1) + 1 by omega, wpre_s, hw0, List.nil_append, ew86, pk_us]; have kc := clampI (x := y17_2 + y30_3) (by omega); have hcj := ic17 (Int32.toNatClampNeg (y17_2 + y30_3)) (by omega) (by omega); rw [← io30 _ (by omega)] at hcj; refine ⟨fun q => absurd (by rw [et86_0]; decide +kernel) q, fun q => absurd (wst_nil (by rw [show Int32.toNatClampNeg y17_2 + (Int32.toNatClampNeg y30_3 - 1) + 1 = Int32.toNatClampNeg (y17_2 + y30_3) by omega]; by_cases q9 : wy ps W (Int32.toNatClampNeg (y17_2 + y30_3)) = []; (exact q9); (exact absurd (hcj.mpr q9) (fun q8 => q8 (by omega))))) q⟩
                    exact ih30 (y30_3 + 1) w86 iv30_0 iv30_1 iv30_2
                  · have c68 := z_ne c68
                    have hMI75 : id (MInv g (upF F 28 d30_F28)) := show MInv g (upF F 28 d30_F28) from (MInv_i ((hI9.1)) ((hI9.2.1)) ((hI9.2.2.1)) ((hI9.2.2.2.1)) ((hI9.2.2.2.2.1)) ((hI9.2.2.2.2.2.1)) ((hI9.2.2.2.2.2.2.1)) ((hI9.2.2.2.2.2.2.2.1)) ((hI9.2.2.2.2.2.2.2.2.1)) hzg23 hzg27 ((hI9.2.2.2.2.2.2.2.2.2.2.2.1)) ((hI9.2.2.2.2.2.2.2.2.2.2.2.2.1)) ((hI9.2.2.2.2.2.2.2.2.2.2.2.2.2.1)) ((hI9.2.2.2.2.2.2.2.2.2.2.2.2.2.2.1)) ((hI9.2.2.2.2.2.2.2.2.2.2.2.2.2.2.2.1)) ((hI9.2.2.2.2.2.2.2.2.2.2.2.2.2.2.2.2.1)) ((hI9.2.2.2.2.2.2.2.2.2.2.2.2.2.2.2.2.2.1)) ((hI9.2.2.2.2.2.2.2.2.2.2.2.2.2.2.2.2.2.2.1)) ((hI9.2.2.2.2.2.2.2.2.2.2.2.2.2.2.2.2.2.2.2.1)) ((hI9.2.2.2.2.2.2.2.2.2.2.2.2.2.2.2.2.2.2.2.2.1)) ((hI9.2.2.2.2.2.2.2.2.2.2.2.2.2.2.2.2.2.2.2.2.2.1)) ((hI9.2.2.2.2.2.2.2.2.2.2.2.2.2.2.2.2.2.2.2.2.2.2.1)) ((hI9.2.2.2.2.2.2.2.2.2.2.2.2.2.2.2.2.2.2.2.2.2.2.2.1)) ((hI9.2.2.2.2.2.2.2.2.2.2.2.2.2.2.2.2.2.2.2.2.2.2.2.2.1)) hzF11 hzF12 hzF13 hzF15 hzF19 hzF21 hzF24 hzF25 hzF26 hzF33 hzF38 hzF41 hzF43 hzF45 hzF46 hzF50 hzF53 hzF54 hzLQ)
                    have hpr75_0 : (0 ≤ p0.toInt ∧ p0.toInt ≤ 6) := by first | assumption | omega
                    have hpr75_1 : (0 ≤ y17_2.toInt ∧ y17_2.toInt + y30_3.toInt ≤ 24 ∧ y30_3.toInt ≤ 16) := by first | assumption | omega
                    refine pw_b1 (fun r75 hc75 => ?_)
                    have hq75 := wp_at (ok_isWordPart g (upF F 28 d30_F28) p0 y17_2 y30_3 hMI75 hpr75_0 hpr75_1) hc75
                    have f19 : (0 ≤ r75.toInt ∧ r75.toInt ≤ 1) := hq75
                    clear hq75
                    have h875_hps : prtR ((F 12) (Int32.toNatClampNeg p0)) (F 18) (F 19) (40 * Int32.toNatClampNeg p0) = ps := by exact hps
                    have h875_hW : wdl (F 22) 0 (Int32.toNatClampNeg (g 23)) = W := by exact hW
                    have h875_hln : y17_2.toInt + y30_3.toInt ≤ (g 23).toInt := by first | assumption | omega
                    have h875_hn1 : 1 ≤ y30_3.toInt := by first | assumption | omega
                    have hx75 := pwq (fn_isWordPart g (upF F 28 d30_F28) p0 y17_2 y30_3 (ps) (W) hMI75 hpr75_0 hpr75_1 h875_hps h875_hW h875_hln h875_hn1) hc75
                    obtain ⟨p75_0, p75_1⟩ : (id ((r75.toInt ≠ 0 → ((W.drop (Int32.toNatClampNeg y17_2)).take (Int32.toNatClampNeg y30_3)) ∈ ps))) ∧ (id ((r75.toInt = 0 → ((W.drop (Int32.toNatClampNeg y17_2)).take (Int32.toNatClampNeg y30_3)) ∉ ps))) := hx75
                    refine pw_ite (fun c78 => ?_) (fun c78 => ?_)
                    · have c78 := congrArg Int32.toInt c78
                      refine pw_j0 ej85 ?_
                      refine pw_j1 ej86 (fun t86_0 et86_0 => ?_)
                      have et86_0 := et86_0.symm
                      have f_t86_0 : t86_0.toInt = 0 := by rw [et86_0]; decide +kernel
                      refine pw_if (fun hb86 => ?_)
                      obtain ⟨hbl86, hbr86⟩ := hb86
                      refine pw_vl (fun w86 ew86 => ?_)
                      have f20 : (y30_3 + 1).toInt = y30_3.toInt + (1) := z_addc (by decide +kernel) (by omega) (by omega)
                      have iv30_0 : (1 ≤ (y30_3 + 1).toInt ∧ (y30_3 + 1).toInt ≤ 17) := by omega
                      have iv30_1 : (∀ j, j ≠ Int32.toNatClampNeg y17_2 → w86 j = d17_F28 j) := by intro j hj; rw [ew86, pk_un hj]; exact io30 j hj
                      have iv30_2 : ((w86 (Int32.toNatClampNeg y17_2)).toInt ≠ 0 ↔ wpre ps W (Int32.toNatClampNeg y17_2) (Int32.toNatClampNeg (y30_3 + 1) - 1) ≠ []) := by have k3 := clampI (x := y30_3) (by omega); have k6 := clampI (x := y30_3 + 1) (by omega); have k2 := clampI (x := y17_2) (by omega); rw [show Int32.toNatClampNeg (y30_3 + 1) - 1 = (Int32.toNatClampNeg y30_3 - 1) + 1 by omega, wpre_s, hw0, List.nil_append, ew86, pk_us]; refine ⟨fun q => absurd (by rw [et86_0]; decide +kernel) q, fun q => absurd (wst_no (fun z => p75_1 (by omega) (by rw [← show Int32.toNatClampNeg y30_3 - 1 + 1 = Int32.toNatClampNeg y30_3 by omega]; exact z.2))) q⟩
                      exact ih30 (y30_3 + 1) w86 iv30_0 iv30_1 iv30_2
                    · have c78 := z_ne c78
                      refine pw_j1 ej86 (fun t86_0 et86_0 => ?_)
                      have et86_0 := et86_0.symm
                      have f_t86_0 : t86_0.toInt = 1 := by rw [et86_0]; decide +kernel
                      refine pw_if (fun hb86 => ?_)
                      obtain ⟨hbl86, hbr86⟩ := hb86
                      refine pw_vl (fun w86 ew86 => ?_)
                      have f21 : (y30_3 + 1).toInt = y30_3.toInt + (1) := z_addc (by decide +kernel) (by omega) (by omega)
                      have iv30_0 : (1 ≤ (y30_3 + 1).toInt ∧ (y30_3 + 1).toInt ≤ 17) := by omega
                      have iv30_1 : (∀ j, j ≠ Int32.toNatClampNeg y17_2 → w86 j = d17_F28 j) := by intro j hj; rw [ew86, pk_un hj]; exact io30 j hj
                      have iv30_2 : ((w86 (Int32.toNatClampNeg y17_2)).toInt ≠ 0 ↔ wpre ps W (Int32.toNatClampNeg y17_2) (Int32.toNatClampNeg (y30_3 + 1) - 1) ≠ []) := by have k3 := clampI (x := y30_3) (by omega); have k6 := clampI (x := y30_3 + 1) (by omega); have k2 := clampI (x := y17_2) (by omega); rw [show Int32.toNatClampNeg (y30_3 + 1) - 1 = (Int32.toNatClampNeg y30_3 - 1) + 1 by omega, wpre_s, hw0, List.nil_append, ew86, pk_us]; have kc := clampI (x := y17_2 + y30_3) (by omega); have hcj := ic17 (Int32.toNatClampNeg (y17_2 + y30_3)) (by omega) (by omega); rw [← io30 _ (by omega)] at hcj; refine ⟨fun _ => wst_ne.mpr ⟨by omega, by rw [show Int32.toNatClampNeg y30_3 - 1 + 1 = Int32.toNatClampNeg y30_3 by omega]; exact p75_0 (by omega), by rw [show Int32.toNatClampNeg y17_2 + (Int32.toNatClampNeg y30_3 - 1) + 1 = Int32.toNatClampNeg (y17_2 + y30_3) by omega]; exact hcj.mp (by omega)⟩, fun _ => by rw [et86_0]; decide +kernel⟩
                      exact ih30 (y30_3 + 1) w86 iv30_0 iv30_1 iv30_2
                · have c52 := z_ne c52
                  refine pw_j1 ek93 (fun z93_1 ez93_1 => ?_)
                  subst ez93_1
                  have f22 : (y17_2 + (-1)).toInt = y17_2.toInt + (-1) := z_addc (by decide +kernel) (by omega) (by omega)
                  obtain ⟨z23, ez23⟩ : ∃ z : Int32, z = (y17_2 + (-1)) := ⟨_, rfl⟩
                  have fz23 : z23.toInt = y17_2.toInt + (-1) := by rw [ez23]; exact f22
                  rw [← ez23]
                  clear f22 ez23
                  have iv17_0 : ((-1) ≤ z23.toInt ∧ z23.toInt < (g 23).toInt) := by omega
                  have iv17_1 : (CLO ps W (z23.toInt + 1).toNat d30_F28) := by have k2 := clampI (x := y17_2) (by omega); have k3 := clampI (x := y30_3) (by omega); rw [show (z23.toInt + 1).toNat = Int32.toNatClampNeg y17_2 by omega]; refine CLO_step ic17 (by omega) ?_ io30; exact ⟨fun q => wpre_sub (by omega) (by omega) (ib30.mp q), fun _ => by omega⟩
                  exact ih17 z23 d30_F28 iv17_0 iv17_1
        exact lp30 NN (1 : Int32) w27 (show (1 ≤ (1 : Int32).toInt ∧ (1 : Int32).toInt ≤ 17) from by omega) (show (∀ j, j ≠ Int32.toNatClampNeg y17_2 → w27 j = d17_F28 j) from by intro j hj; rw [ew27, pk_un hj]) (show ((w27 (Int32.toNatClampNeg y17_2)).toInt ≠ 0 ↔ wpre ps W (Int32.toNatClampNeg y17_2) (Int32.toNatClampNeg (1 : Int32) - 1) ≠ []) from by rw [ew27, pk_us]; exact ⟨fun q => absurd (by decide +kernel) q, fun q => absurd rfl q⟩)
  exact lp17 NN x16 w9 (show ((-1) ≤ x16.toInt ∧ x16.toInt < (g 23).toInt) from by omega) (show (CLO ps W (x16.toInt + 1).toNat w9) from by refine CLO_top (by omega) ?_; rw [ew9, show (x16.toInt + 1).toNat = Int32.toNatClampNeg (g 23) by omega, pk_us]; decide +kernel)
