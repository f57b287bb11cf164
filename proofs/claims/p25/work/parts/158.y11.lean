abbrev QF_X9_runLaws (κ : Nat → Nat) (wd : Nat) (la : Nat → Nat) (G : Nat → Nat → Int32) (P : Nat → Nat → Option Nat) (U : Nat → Nat → Int64) (V : Nat → Nat → Nat → Int32) (X : Nat → Nat → Nat → Int64) (O : Nat → Nat → Nat → Option Nat) (kd : Nat → Nat) (ln : Nat → Nat) (cnt : Nat) (this : Nat) (p0 : Nat) (p1 : Nat) (p2 : Int32) (p3 : Int32) (nw : Nat) (nx : Nat) (W : Wd) (lr : Nat) (ls : List Lw) : (Int32 × (Nat → Int32) × (Nat → Option Nat) × (Nat → Option Nat) × (Nat → Int64) × (Nat → Nat → Int32)) → Prop := (fun t => (((t.1).toInt = 0 → runL ls W = none)) ∧ ((∃ nwr nxr, (t.2.2.1) this = some nwr ∧ (t.2.2.2.1) this = some nxr ∧ nwr ≠ nxr ∧ ((nwr = nw ∧ nxr = nx) ∨ (nwr = nx ∧ nxr = nw)) ∧ ((t.1).toInt ≠ 0 → ∃ Wr, runL ls W = some Wr ∧ BW Wr ∧ wdl ((t.2.2.2.2.2) nwr) 0 (Int32.toNatClampNeg ((t.2.1) this)) = Wr))) ∧ ((∀ z, z ≠ nw → z ≠ nx → (t.2.2.2.2.2) z = (V 0) z)))
set_option maxHeartbeats 4000000 in
set_option maxRecDepth 100000 in
theorem fn_X9_runLaws (κ : Nat → Nat) (wd : Nat) (la : Nat → Nat) (G : Nat → Nat → Int32) (P : Nat → Nat → Option Nat) (U : Nat → Nat → Int64) (V : Nat → Nat → Nat → Int32) (X : Nat → Nat → Nat → Int64) (O : Nat → Nat → Nat → Option Nat) (kd : Nat → Nat) (ln : Nat → Nat) (cnt : Nat) (this : Nat) (p0 : Nat) (p1 : Nat) (p2 : Int32) (p3 : Int32) (nw : Nat) (nx : Nat) (W : Wd) (lr : Nat) (ls : List Lw) (hzG102 : rng (0) 40 (G 102)) (hzG183 : rng (0) 40 (G 183)) (hzP20 : PB κ ln wd 2 100 0 16 0 (P 20)) (hzP21 : PB κ ln wd 2 100 0 16 0 (P 21)) (hzP22 : PB κ ln wd 2 100 0 16 0 (P 22)) (hzP23 : PB κ ln wd 2 100 0 16 0 (P 23)) (hzP101 : PB κ ln wd 6 300 40 40 0 (P 101)) (hzP181 : PB κ ln wd 10 100 40 40 0 (P 181)) (hzP182 : PB κ ln wd 10 100 40 40 0 (P 182)) (hzO0 : OB κ 2 (O 0)) (hzLN : LN κ ln) (hk_this : κ this = 10) (hk_p0 : κ p0 = 6) (hk_p1 : κ p1 = 100) (hp0 : (0 ≤ p2.toInt ∧ 0 ≤ p3.toInt ∧ p2.toInt + p3.toInt ≤ ((ln p1 : Nat) : Int))) (hB : LB la cnt P) (hlt_this : this < cnt) (hlt_p0 : p0 < cnt) (hlt_p1 : p1 < cnt) (h181 : (P 181) this = some nw) (h182 : (P 182) this = some nx) (hne : nw ≠ nx) (hW : wdl ((V 0) p1) (Int32.toNatClampNeg p2) (Int32.toNatClampNeg p3) = W) (hp3 : p3.toInt ≤ 24) (hlr : (P 101) p0 = some lr) (hls : lwsV ((G 102) p0) ((O 0) lr) (P 20) (P 21) (P 22) (P 23) (G 24) (G 25) (V 0) ln = ls) (hLW : LWL ((G 102) p0) ((O 0) lr) la cnt (la p0 + 5)) (hld : 100000 ≤ la p0) (hlt9 : la this = 90) (hwf : ∀ L ∈ ls, 1 ≤ L.1.length ∧ BW L.2.1) (hbw : BW W) : pw (f_X9_runLaws G P U V X O kd ln cnt this p0 p1 p2 p3) (QF_X9_runLaws κ wd la G P U V X O kd ln cnt this p0 p1 p2 p3 nw nx W lr ls) := by
  unfold f_X9_runLaws
  have zk0 : (0 : Int32).toInt = 0 := by decide +kernel
  have zk1 : (1 : Int32).toInt = 1 := by decide +kernel
  have zk24 : (24 : Int32).toInt = 24 := by decide +kernel
  have r_p2 := i32r p2
  have r_p3 := i32r p3
  have hn1 : (P 181) this = some nw := h181
  obtain ⟨_, lt_nw2, lb_nw2⟩ := (hB.1 181 fl_181) this nw hn1
  have lb_nw2 : la this + 1 ≤ la nw ∧ la nw ≤ la this + 2 := or_bd (lk_181.mp lb_nw2) (by omega)
  have hk_nw := ((hzP181 this).2 nw hn1).1
  have hl1_nw := ((hzP181 this).2 nw hn1).2.1
  have hl2_nw := ((hzP181 this).2 nw hn1).2.2.1
  have hw_nw : id _ := ((hzP181 this).2 nw hn1).2.2.2
  have hz_nw : (Int32.ofNat (ln nw)).toInt = ((ln nw : Nat) : Int) := ofN_eq (by first | exact Nat.le_trans hl2_nw (by decide) | omega)
  have hn3 : (P 182) this = some nx := h182
  obtain ⟨_, lt_nx4, lb_nx4⟩ := (hB.1 182 fl_182) this nx hn3
  have lb_nx4 : la this + 1 ≤ la nx ∧ la nx ≤ la this + 2 := or_bd (lk_182.mp lb_nx4) (by omega)
  have hk_nx := ((hzP182 this).2 nx hn3).1
  have hl1_nx := ((hzP182 this).2 nx hn3).2.1
  have hl2_nx := ((hzP182 this).2 nx hn3).2.2.1
  have hw_nx : id _ := ((hzP182 this).2 nx hn3).2.2.2
  have hz_nx : (Int32.ofNat (ln nx)).toInt = ((ln nx : Nat) : Int) := ofN_eq (by first | exact Nat.le_trans hl2_nx (by decide) | omega)
  have hn5 : (P 101) p0 = some lr := hlr
  have lt_lr6 := ((hB.1 101 fl_101) p0 lr hn5).2.1
  have lb_lr6 : la lr = la p0 + 0 := lk_101.mp ((hB.1 101 fl_101) p0 lr hn5).2.2
  have hk_lr := ((hzP101 p0).2 lr hn5).1
  have hl1_lr := ((hzP101 p0).2 lr hn5).2.1
  have hl2_lr := ((hzP101 p0).2 lr hn5).2.2.1
  have hw_lr : id _ := ((hzP101 p0).2 lr hn5).2.2.2
  have hz_lr : (Int32.ofNat (ln lr)).toInt = ((ln lr : Nat) : Int) := ofN_eq (by first | exact Nat.le_trans hl2_lr (by decide) | omega)
  replace hne : id _ := hne
  have cp3 := clampI (x := p3) (by omega)
  have hb102 := hzG102 p0
  have c102 := clampI (x := (G 102) p0) (by omega)
  refine pw_vl (fun m2 em2 => ?_)
  have hfr7 : ∀ z, ((la z < la this ∨ la this + 8 < la z)) → m2 z = (U 184) z := fr_up (e0 := (U 184)) (fun _ _ => rfl) em2 (show ¬ ((la this < la this ∨ la this + 8 < la this)) from by omega)
  have mm8 := z_min 24 p3
  refine pw_vl (fun x13 ex13 => ?_)
  have f9 : x13.toInt = (if 24 < p3 then 24 else p3).toInt := congrArg Int32.toInt ex13
  refine pw_vl (fun m13 em13 => ?_)
  have hfr10 : ∀ z, ((la z < la this ∨ la this + 8 < la z)) → m13 z = (G 183) z := fr_up (e0 := (G 183)) (fun _ _ => rfl) em13 (show ¬ ((la this < la this ∨ la this + 8 < la this)) from by omega)
  have hg11 : rng (0) 40 m13 := by rw [em13]; exact rng_vup hzG183 (by omega) (by omega)
  have sm13 : (m13 this).toInt = x13.toInt := by rw [em13, va_up_self]
  have b12 := hg11 this
  refine pw_nne hn1 ?_
  refine pw_if (fun hb27 => ?_)
  obtain ⟨hb27_1, hb27_2, hb27_3, hb27_4, hb27_5⟩ := hb27
  refine pw_vl (fun m27 em27 => ?_)
  have hfr14 : ∀ z, ((la z < la this ∨ la this + 8 < la z)) → m27 z = (V 0) z := fr_up (e0 := (V 0)) (fun _ _ => rfl) em27 (show ¬ ((la nw < la this ∨ la this + 8 < la nw)) from by omega)
  refine pw_jE (fun k93 ek93 => ?_)
  have lp33 : ∀ (n33 : Nat) (y33_5 : Int32) (d33_G183 : Nat → Int32) (d33_P181 : Nat → Option Nat) (d33_P182 : Nat → Option Nat) (d33_U184 : Nat → Int64) (d33_V0 : Nat → Nat → Int32), rng (0) 40 d33_G183 → PB κ ln wd 10 100 40 40 0 d33_P181 → PB κ ln wd 10 100 40 40 0 d33_P182 → (∀ z, ((la z < la this ∨ la this + 8 < la z)) → d33_G183 z = (G 183) z) → (∀ z, ((la z < la this ∨ la this + 8 < la z)) → d33_P181 z = (P 181) z) → LC 181 la cnt d33_P181 → (∀ z, ((la z < la this ∨ la this + 8 < la z)) → d33_P182 z = (P 182) z) → LC 182 la cnt d33_P182 → (∀ z, ((la z < la this ∨ la this + 8 < la z)) → d33_U184 z = (U 184) z) → (∀ z, ((la z < la this ∨ la this + 8 < la z)) → d33_V0 z = (V 0) z) → (0 ≤ y33_5.toInt ∧ y33_5.toInt ≤ 40) → (∃ nw1 nx1, d33_P181 this = some nw1 ∧ d33_P182 this = some nx1 ∧ nw1 ≠ nx1 ∧ ((nw1 = nw ∧ nx1 = nx) ∨ (nw1 = nx ∧ nx1 = nw)) ∧ (∃ W1, ((d33_G183 this).toInt ≤ 24 ∧ runL ls W = runL (ls.drop (Int32.toNatClampNeg y33_5)) W1 ∧ BW W1 ∧ wdl (d33_V0 nw1) 0 (Int32.toNatClampNeg (d33_G183 this)) = W1) ∨ (24 < (d33_G183 this).toInt ∧ runL ls W = none))) → (∀ z, z ≠ nw → z ≠ nx → d33_V0 z = (V 0) z) → pw (L_X9_runLaws_33 G P U V X O kd ln cnt this p0 k93 n33 y33_5 d33_G183 d33_P181 d33_P182 d33_U184 d33_V0) (QF_X9_runLaws κ wd la G P U V X O kd ln cnt this p0 p1 p2 p3 nw nx W lr ls) := by
    intro n33
    clear hfr14 hb27_1 hb27_2 hb27_3 hb27_4 hb27_5 b12 sm13 hg11 hfr10 f9 mm8 hfr7
    induction n33 with
    | zero => intros; exact pw_none
    | succ n33 ih33 =>
      intro y33_5 d33_G183 d33_P181 d33_P182 d33_U184 d33_V0 hg15 hg16 hg17 hfr18 hfr19 hl20 hfr21 hl22 hfr23 hfr24 f25 ip33 iv33
      show pw (B_X9_runLaws_33 G P U V X O kd ln cnt this p0 k93 (L_X9_runLaws_33 G P U V X O kd ln cnt this p0 k93 n33) y33_5 d33_G183 d33_P181 d33_P182 d33_U184 d33_V0) _
      unfold B_X9_runLaws_33
      obtain ⟨nw1, nx1, e181, e182, hne1, hsw, W1, hrun⟩ := ip33
      replace hne1 : id _ := hne1
      replace hsw : id _ := hsw
      replace hrun : id _ := hrun
      have ky5 := clampI (x := y33_5) (by omega)
      have hn26 : d33_P181 this = some nw1 := e181
      obtain ⟨_, lt_nw127, lb_nw127⟩ := hl20 this nw1 hn26
      have lb_nw127 : la this + 1 ≤ la nw1 ∧ la nw1 ≤ la this + 2 := or_bd (lk_181.mp lb_nw127) (by omega)
      have hk_nw1 := ((hg16 this).2 nw1 hn26).1
      have hl1_nw1 := ((hg16 this).2 nw1 hn26).2.1
      have hl2_nw1 := ((hg16 this).2 nw1 hn26).2.2.1
      have hw_nw1 : id _ := ((hg16 this).2 nw1 hn26).2.2.2
      have hz_nw1 : (Int32.ofNat (ln nw1)).toInt = ((ln nw1 : Nat) : Int) := ofN_eq (by first | exact Nat.le_trans hl2_nw1 (by decide) | omega)
      have hn28 : d33_P182 this = some nx1 := e182
      obtain ⟨_, lt_nx129, lb_nx129⟩ := hl22 this nx1 hn28
      have lb_nx129 : la this + 1 ≤ la nx1 ∧ la nx1 ≤ la this + 2 := or_bd (lk_182.mp lb_nx129) (by omega)
      have hk_nx1 := ((hg17 this).2 nx1 hn28).1
      have hl1_nx1 := ((hg17 this).2 nx1 hn28).2.1
      have hl2_nx1 := ((hg17 this).2 nx1 hn28).2.2.1
      have hw_nx1 : id _ := ((hg17 this).2 nx1 hn28).2.2.2
      have hz_nx1 : (Int32.ofNat (ln nx1)).toInt = ((ln nx1 : Nat) : Int) := ofN_eq (by first | exact Nat.le_trans hl2_nx1 (by decide) | omega)
      have b30 := hzG102 p0
      refine pw_ite (fun c39 => ?_) (fun c39 => ?_)
      · have c39 := (z_le _ _).mp c39
        refine pw_j5 ek93 (fun z93_0 ez93_0 z93_1 ez93_1 z93_2 ez93_2 z93_3 ez93_3 z93_4 ez93_4 => ?_)
        subst ez93_0 ez93_1 ez93_2 ez93_3 ez93_4
        have b31 := hg15 this
        refine pw_jE (fun j107 ej107 => ?_)
        refine pw_ite (fun c99 => ?_) (fun c99 => ?_)
        · have c99 := (z_lt _ _).mp c99
          refine pw_j1 ej107 (fun t107_0 et107_0 => ?_)
          have et107_0 := et107_0.symm
          have f_t107_0 : t107_0.toInt = 0 := by rw [et107_0]; decide +kernel
          refine pw_if (fun hb107 => ?_)
          obtain ⟨hbl107, hbr107⟩ := hb107
          have qq0 : id ((t107_0.toInt = 0 → runL ls W = none)) := show (t107_0.toInt = 0 → runL ls W = none) from by intro _; rcases hrun with ⟨r1, r2, r3, r4⟩ | ⟨r1, r2⟩; (exfalso; omega); (exact r2)
          have qq1 : id ((∃ nwr nxr, d33_P181 this = some nwr ∧ d33_P182 this = some nxr ∧ nwr ≠ nxr ∧ ((nwr = nw ∧ nxr = nx) ∨ (nwr = nx ∧ nxr = nw)) ∧ (t107_0.toInt ≠ 0 → ∃ Wr, runL ls W = some Wr ∧ BW Wr ∧ wdl (d33_V0 nwr) 0 (Int32.toNatClampNeg (d33_G183 this)) = Wr))) := show (∃ nwr nxr, d33_P181 this = some nwr ∧ d33_P182 this = some nxr ∧ nwr ≠ nxr ∧ ((nwr = nw ∧ nxr = nx) ∨ (nwr = nx ∧ nxr = nw)) ∧ (t107_0.toInt ≠ 0 → ∃ Wr, runL ls W = some Wr ∧ BW Wr ∧ wdl (d33_V0 nwr) 0 (Int32.toNatClampNeg (d33_G183 this)) = Wr)) from by exact ⟨nw1, nx1, e181, e182, hne1, hsw, fun h => absurd h (by omega)⟩
          have qq2 : id ((∀ z, z ≠ nw → z ≠ nx → d33_V0 z = (V 0) z)) := show (∀ z, z ≠ nw → z ≠ nx → d33_V0 z = (V 0) z) from by exact iv33
          exact pw_some ⟨qq0, qq1, qq2⟩
        · have c99 := z_nlt c99
          refine pw_j1 ej107 (fun t107_0 et107_0 => ?_)
          have et107_0 := et107_0.symm
          have f_t107_0 : t107_0.toInt = 1 := by rw [et107_0]; decide +kernel
          refine pw_if (fun hb107 => ?_)
          obtain ⟨hbl107, hbr107⟩ := hb107
          have qq0 : id ((t107_0.toInt = 0 → runL ls W = none)) := show (t107_0.toInt = 0 → runL ls W = none) from by intro h; omega
          have qq1 : id ((∃ nwr nxr, d33_P181 this = some nwr ∧ d33_P182 this = some nxr ∧ nwr ≠ nxr ∧ ((nwr = nw ∧ nxr = nx) ∨ (nwr = nx ∧ nxr = nw)) ∧ (t107_0.toInt ≠ 0 → ∃ Wr, runL ls W = some Wr ∧ BW Wr ∧ wdl (d33_V0 nwr) 0 (Int32.toNatClampNeg (d33_G183 this)) = Wr))) := show (∃ nwr nxr, d33_P181 this = some nwr ∧ d33_P182 this = some nxr ∧ nwr ≠ nxr ∧ ((nwr = nw ∧ nxr = nx) ∨ (nwr = nx ∧ nxr = nw)) ∧ (t107_0.toInt ≠ 0 → ∃ Wr, runL ls W = some Wr ∧ BW Wr ∧ wdl (d33_V0 nwr) 0 (Int32.toNatClampNeg (d33_G183 this)) = Wr)) from by rcases hrun with ⟨r1, r2, r3, r4⟩ | ⟨r1, r2⟩; (have hll : ls.length = Int32.toNatClampNeg ((G 102) p0) := (by rw [← hls]; exact tab_len); exact ⟨nw1, nx1, e181, e182, hne1, hsw, fun _ => ⟨W1, r2.trans (runL_end (by omega)), r3, r4⟩⟩); (exfalso; omega)
          have qq2 : id ((∀ z, z ≠ nw → z ≠ nx → d33_V0 z = (V 0) z)) := show (∀ z, z ≠ nw → z ≠ nx → d33_V0 z = (V 0) z) from by exact iv33
          exact pw_some ⟨qq0, qq1, qq2⟩
      · have c39 := z_nle c39
        have b32 := hg15 this
        refine pw_ite (fun c48 => ?_) (fun c48 => ?_)
        · have c48 := (z_lt _ _).mp c48
          refine pw_j5 ek93 (fun z93_0 ez93_0 z93_1 ez93_1 z93_2 ez93_2 z93_3 ez93_3 z93_4 ez93_4 => ?_)
          subst ez93_0 ez93_1 ez93_2 ez93_3 ez93_4
          refine pw_jE (fun j107 ej107 => ?_)
          refine pw_ite (fun c99 => ?_) (fun c99 => ?_)
          · have c99 := (z_lt _ _).mp c99
            refine pw_j1 ej107 (fun t107_0 et107_0 => ?_)
            have et107_0 := et107_0.symm
            have f_t107_0 : t107_0.toInt = 0 := by rw [et107_0]; decide +kernel
            refine pw_if (fun hb107 => ?_)
            obtain ⟨hbl107, hbr107⟩ := hb107
            have qq0 : id ((t107_0.toInt = 0 → runL ls W = none)) := show (t107_0.toInt = 0 → runL ls W = none) from by intro _; rcases hrun with ⟨r1, r2, r3, r4⟩ | ⟨r1, r2⟩; (exfalso; omega); (exact r2)
            have qq1 : id ((∃ nwr nxr, d33_P181 this = some nwr ∧ d33_P182 this = some nxr ∧ nwr ≠ nxr ∧ ((nwr = nw ∧ nxr = nx) ∨ (nwr = nx ∧ nxr = nw)) ∧ (t107_0.toInt ≠ 0 → ∃ Wr, runL ls W = some Wr ∧ BW Wr ∧ wdl (d33_V0 nwr) 0 (Int32.toNatClampNeg (d33_G183 this)) = Wr))) := show (∃ nwr nxr, d33_P181 this = some nwr ∧ d33_P182 this = some nxr ∧ nwr ≠ nxr ∧ ((nwr = nw ∧ nxr = nx) ∨ (nwr = nx ∧ nxr = nw)) ∧ (t107_0.toInt ≠ 0 → ∃ Wr, runL ls W = some Wr ∧ BW Wr ∧ wdl (d33_V0 nwr) 0 (Int32.toNatClampNeg (d33_G183 this)) = Wr)) from by exact ⟨nw1, nx1, e181, e182, hne1, hsw, fun h => absurd h (by omega)⟩
            have qq2 : id ((∀ z, z ≠ nw → z ≠ nx → d33_V0 z = (V 0) z)) := show (∀ z, z ≠ nw → z ≠ nx → d33_V0 z = (V 0) z) from by exact iv33
            exact pw_some ⟨qq0, qq1, qq2⟩
          · have c99 := z_nlt c99
            exfalso; omega
        · have c48 := z_nlt c48
          obtain ⟨r1, r2, r3, r4⟩ := Or.resolve_right hrun (fun q => by have := q.1; omega)
          refine pw_nne hn5 ?_
          refine pw_if (fun hb57 => ?_)
          obtain ⟨hbl57, hbr57⟩ := hb57
          refine pw_vl (fun o57 eo57 => ?_)
          have hk_o57 : ∀ b, o57 = some b → κ b = 2 := fun b hq => hzO0 _ _ b (eo57.symm.trans hq)
          refine pw_jE (fun j87 ej87 => ?_)
          refine pw_oc (fun c62 => ?_) (fun b62 c62 => ?_)
          · skip
            exfalso; obtain ⟨lo, j1, j2, j3⟩ := hLW (Int32.toNatClampNeg y33_5) (by omega); rw [← eo57, c62] at j1; cases j1
          · skip
            have hk_b62 := hk_o57 b62 c62
            obtain ⟨lo, j1, j2, j3⟩ := hLW (Int32.toNatClampNeg y33_5) (by omega)
            have eb : lo = b62 := Option.some.inj (j1.symm.trans (eo57.symm.trans c62))
            rw [eb] at j1 j2 j3
            have hls5 : ls[Int32.toNatClampNeg y33_5]? = some (lawC (P 20) (P 21) (P 22) (P 23) (G 24) (G 25) (V 0) ln (some b62)) := by rw [← hls]; unfold lwsV; rw [tab_get (by omega), j1]
            obtain ⟨wf1, wf2⟩ := hwf _ (List.mem_of_getElem? hls5)
            obtain ⟨f0, e20⟩ := PBs (hzP20 b62) hk_b62
            obtain ⟨s0, e21⟩ := PBs (hzP21 b62) hk_b62
            obtain ⟨a0, e22⟩ := PBs (hzP22 b62) hk_b62
            obtain ⟨b0, e23⟩ := PBs (hzP23 b62) hk_b62
            obtain ⟨_, lf0⟩ := law_fld hB (Or.inl rfl) e20
            obtain ⟨_, ls0⟩ := law_fld hB (Or.inr (Or.inl rfl)) e21
            obtain ⟨_, la0_⟩ := law_fld hB (Or.inr (Or.inr (Or.inl rfl))) e22
            obtain ⟨_, lb0⟩ := law_fld hB (Or.inr (Or.inr (Or.inr rfl))) e23
            have dn_ : ∀ z, la z = la b62 → z ≠ nw ∧ z ≠ nx := fun z hz => ⟨fun q => by rw [q] at hz; omega, fun q => by rw [q] at hz; omega⟩
            refine pw_b5 (fun r68 c68_G183 c68_P181 c68_P182 c68_V0 hc68 => ?_)
            have hq68 := wp_at (ok_X9_apply κ wd (va_up G 183 d33_G183) (va_up (va_up P 181 d33_P181) 182 d33_P182) (va_up U 184 d33_U184) (va_up V 0 d33_V0) X O kd ln cnt this b62 hg15 hzP20 hzP21 hzP22 hzP23 hg16 hg17 hzLN hk_this hk_b62) hc68
            obtain ⟨hg34, hg35, hg36, f37⟩ : (rng (0) 40 c68_G183) ∧ (PB κ ln wd 10 100 40 40 0 c68_P181) ∧ (PB κ ln wd 10 100 40 40 0 c68_P182) ∧ ((0 ≤ r68.toInt ∧ r68.toInt ≤ 1)) := hq68
            have hq68 := pwq (fr_X9_apply la (va_up G 183 d33_G183) (va_up (va_up P 181 d33_P181) 182 d33_P182) (va_up U 184 d33_U184) (va_up V 0 d33_V0) X O kd ln cnt this b62 (LB_set (LB_set hB hl20) hl22) hlt_this) hc68
            obtain ⟨q68_G183, q68_P181, q68_P182, q68_V0, ql68_181, ql68_182⟩ : (∀ z, (la z < la this ∨ la this + 8 < la z) → c68_G183 z = d33_G183 z) ∧ (∀ z, (la z < la this ∨ la this + 8 < la z) → c68_P181 z = d33_P181 z) ∧ (∀ z, (la z < la this ∨ la this + 8 < la z) → c68_P182 z = d33_P182 z) ∧ (∀ z, (la z < la this ∨ la this + 8 < la z) → c68_V0 z = d33_V0 z) ∧ LC 181 la cnt c68_P181 ∧ LC 182 la cnt c68_P182 := hq68
            have tz68 : ∀ z, ((la z < la this ∨ la this + 8 < la z)) → ((la z < la this ∨ la this + 8 < la z)) := fun z hz => by omega
            have hfr38 : ∀ z, ((la z < la this ∨ la this + 8 < la z)) → c68_G183 z = (G 183) z := fun z hz => (q68_G183 z (tz68 z hz)).trans (hfr18 z hz)
            have hfr39 : ∀ z, ((la z < la this ∨ la this + 8 < la z)) → c68_P181 z = (P 181) z := fun z hz => (q68_P181 z (tz68 z hz)).trans (hfr19 z hz)
            have hfr40 : ∀ z, ((la z < la this ∨ la this + 8 < la z)) → c68_P182 z = (P 182) z := fun z hz => (q68_P182 z (tz68 z hz)).trans (hfr21 z hz)
            have hfr41 : ∀ z, ((la z < la this ∨ la this + 8 < la z)) → c68_V0 z = (V 0) z := fun z hz => (q68_V0 z (tz68 z hz)).trans (hfr24 z hz)
            have h868_h181 : d33_P181 this = some (nw1) := by exact e181
            have h868_h182 : d33_P182 this = some (nx1) := by exact e182
            have h868_hne : (nw1) ≠ (nx1) := by exact hne1
            have h868_hW : wdl (d33_V0 (nw1)) 0 (Int32.toNatClampNeg (d33_G183 this)) = (W1) := by exact r4
            have h868_hW24 : (d33_G183 this).toInt ≤ 24 := by omega
            have h868_hla : 100000 ≤ la b62 := by omega
            have h868_hlt9 : la this = 90 := by omega
            have h868_hl1 : 1 ≤ (lawC (P 20) (P 21) (P 22) (P 23) (G 24) (G 25) (V 0) ln (some b62)).1.length := by exact wf1
            have h868_hbw : BW (W1) := by exact r3
            have h868_h20 : (P 20) b62 = some f0 := by exact e20
            have h868_h21 : (P 21) b62 = some s0 := by exact e21
            have h868_h22 : (P 22) b62 = some a0 := by exact e22
            have h868_h23 : (P 23) b62 = some b0 := by exact e23
            have h868_hL : (wdl (d33_V0 f0) 0 (ln f0), wdl (d33_V0 s0) 0 (ln s0), wdl (d33_V0 a0) 0 (ln a0), wdl (d33_V0 b0) 0 (ln b0), (G 24) b62, (G 25) b62) = (lawC (P 20) (P 21) (P 22) (P 23) (G 24) (G 25) (V 0) ln (some b62)) := by rw [iv33 f0 (dn_ f0 lf0).1 (dn_ f0 lf0).2, iv33 s0 (dn_ s0 ls0).1 (dn_ s0 ls0).2, iv33 a0 (dn_ a0 la0_).1 (dn_ a0 la0_).2, iv33 b0 (dn_ b0 lb0).1 (dn_ b0 lb0).2]; show _ = (oar (V 0) ln (P 20 b62), oar (V 0) ln (P 21 b62), oar (V 0) ln (P 22 b62), oar (V 0) ln (P 23 b62), (G 24) b62, (G 25) b62); rw [e20, e21, e22, e23]; rfl
            have hx68 := pwq (fn_X9_apply κ wd la (va_up G 183 d33_G183) (va_up (va_up P 181 d33_P181) 182 d33_P182) (va_up U 184 d33_U184) (va_up V 0 d33_V0) X O kd ln cnt this b62 (nw1) (nx1) (W1) (f0) (s0) (a0) (b0) (lawC (P 20) (P 21) (P 22) (P 23) (G 24) (G 25) (V 0) ln (some b62)) hg15 hzP20 hzP21 hzP22 hzP23 hg16 hg17 hzLN hk_this hk_b62 (LB_set (LB_set hB hl20) hl22) hlt_this (by omega) h868_h181 h868_h182 h868_hne h868_hW h868_hW24 h868_hla h868_hlt9 h868_hl1 h868_hbw h868_h20 h868_h21 h868_h22 h868_h23 h868_hL) hc68
            obtain ⟨p68_0, p68_1, p68_2⟩ : (id ((r68.toInt ≠ 0 → (lawT (lawC (P 20) (P 21) (P 22) (P 23) (G 24) (G 25) (V 0) ln (some b62)) (W1)).2 = true) ∧ (r68.toInt = 0 → (lawT (lawC (P 20) (P 21) (P 22) (P 23) (G 24) (G 25) (V 0) ln (some b62)) (W1)).2 = false))) ∧ (id ((∃ nwa nxa, c68_P181 this = some nwa ∧ c68_P182 this = some nxa ∧ nwa ≠ nxa ∧ ((nwa = (nw1) ∧ nxa = (nx1)) ∨ (nwa = (nx1) ∧ nxa = (nw1))) ∧ ((lawT (lawC (P 20) (P 21) (P 22) (P 23) (G 24) (G 25) (V 0) ln (some b62)) (W1)).1.length ≤ 24 → wdl (c68_V0 nwa) 0 (Int32.toNatClampNeg (c68_G183 this)) = (lawT (lawC (P 20) (P 21) (P 22) (P 23) (G 24) (G 25) (V 0) ln (some b62)) (W1)).1) ∧ (24 < (lawT (lawC (P 20) (P 21) (P 22) (P 23) (G 24) (G 25) (V 0) ln (some b62)) (W1)).1.length → 24 < (c68_G183 this).toInt)))) ∧ (id ((∀ z, z ≠ (nw1) → z ≠ (nx1) → c68_V0 z = d33_V0 z))) := hx68
            refine pw_ite (fun c71 => ?_) (fun c71 => ?_)
            · have c71 := congrArg Int32.toInt c71
              refine pw_j5 ej87 (fun z87_0 ez87_0 z87_1 ez87_1 z87_2 ez87_2 z87_3 ez87_3 z87_4 ez87_4 => ?_)
              subst ez87_0 ez87_1 ez87_2 ez87_3 ez87_4
              have f42 : (y33_5 + 1).toInt = y33_5.toInt + (1) := z_addc (by decide +kernel) (by omega) (by omega)
              have iv33_0 : (0 ≤ (y33_5 + 1).toInt ∧ (y33_5 + 1).toInt ≤ 40) := by omega
              have iv33_1 : (∃ nw1 nx1, c68_P181 this = some nw1 ∧ c68_P182 this = some nx1 ∧ nw1 ≠ nx1 ∧ ((nw1 = nw ∧ nx1 = nx) ∨ (nw1 = nx ∧ nx1 = nw)) ∧ (∃ W1, ((c68_G183 this).toInt ≤ 24 ∧ runL ls W = runL (ls.drop (Int32.toNatClampNeg (y33_5 + 1))) W1 ∧ BW W1 ∧ wdl (c68_V0 nw1) 0 (Int32.toNatClampNeg (c68_G183 this)) = W1) ∨ (24 < (c68_G183 this).toInt ∧ runL ls W = none))) := by have k5 := clampI (x := y33_5 + 1) (by omega); obtain ⟨nw2, nx2, a1, a2, a3, a4, a5, a6⟩ := p68_1; by_cases q9 : (lawT (lawC (P 20) (P 21) (P 22) (P 23) (G 24) (G 25) (V 0) ln (some b62)) W1).1.length ≤ 24; (have q8 := congrArg List.length (a5 q9); rw [wdl_len] at q8; have q7 := hg34 this; have q6 := clampI (x := c68_G183 this) (by omega); replace a3 : id _ := a3; have a7 := sw_tr a4 hsw; replace a4 : id _ := a4; replace a7 : id _ := a7; exact ⟨nw2, nx2, a1, a2, a3, a7, _, Or.inl ⟨by omega, by rw [r2, runL_step hls5 q9, show Int32.toNatClampNeg (y33_5 + 1) = Int32.toNatClampNeg y33_5 + 1 by omega], lawT_bw r3 wf2, a5 q9⟩⟩); (exact ⟨nw2, nx2, a1, a2, a3, sw_tr a4 hsw, W1, Or.inr ⟨a6 (by omega), r2.trans (runL_long hls5 (by omega))⟩⟩)
              have iv33_2 : (∀ z, z ≠ nw → z ≠ nx → c68_V0 z = (V 0) z) := by intro z h1 h2; obtain ⟨n1, n2⟩ := sw_ne hsw h1 h2; exact (p68_2 z n1 n2).trans (iv33 z h1 h2)
              exact ih33 (y33_5 + 1) c68_G183 c68_P181 c68_P182 d33_U184 c68_V0 hg34 hg35 hg36 hfr38 hfr39 ql68_181 hfr40 ql68_182 hfr23 hfr41 iv33_0 iv33_1 iv33_2
            · have c71 : r68.toInt = 1 := by have z9 := z_ne c71; omega
              refine pw_vl (fun x84 ex84 => ?_)
              refine pw_vl (fun m84 em84 => ?_)
              have hfr43 : ∀ z, ((la z < la this ∨ la this + 8 < la z)) → m84 z = (U 184) z := fr_up (e0 := (U 184)) hfr23 em84 (show ¬ ((la this < la this ∨ la this + 8 < la this)) from by omega)
              refine pw_j5 ej87 (fun z87_0 ez87_0 z87_1 ez87_1 z87_2 ez87_2 z87_3 ez87_3 z87_4 ez87_4 => ?_)
              subst ez87_0 ez87_1 ez87_2 ez87_3 ez87_4
              have f44 : (y33_5 + 1).toInt = y33_5.toInt + (1) := z_addc (by decide +kernel) (by omega) (by omega)
              have iv33_0 : (0 ≤ (y33_5 + 1).toInt ∧ (y33_5 + 1).toInt ≤ 40) := by omega
              have iv33_1 : (∃ nw1 nx1, c68_P181 this = some nw1 ∧ c68_P182 this = some nx1 ∧ nw1 ≠ nx1 ∧ ((nw1 = nw ∧ nx1 = nx) ∨ (nw1 = nx ∧ nx1 = nw)) ∧ (∃ W1, ((c68_G183 this).toInt ≤ 24 ∧ runL ls W = runL (ls.drop (Int32.toNatClampNeg (y33_5 + 1))) W1 ∧ BW W1 ∧ wdl (c68_V0 nw1) 0 (Int32.toNatClampNeg (c68_G183 this)) = W1) ∨ (24 < (c68_G183 this).toInt ∧ runL ls W = none))) := by have k5 := clampI (x := y33_5 + 1) (by omega); obtain ⟨nw2, nx2, a1, a2, a3, a4, a5, a6⟩ := p68_1; by_cases q9 : (lawT (lawC (P 20) (P 21) (P 22) (P 23) (G 24) (G 25) (V 0) ln (some b62)) W1).1.length ≤ 24; (have q8 := congrArg List.length (a5 q9); rw [wdl_len] at q8; have q7 := hg34 this; have q6 := clampI (x := c68_G183 this) (by omega); replace a3 : id _ := a3; have a7 := sw_tr a4 hsw; replace a4 : id _ := a4; replace a7 : id _ := a7; exact ⟨nw2, nx2, a1, a2, a3, a7, _, Or.inl ⟨by omega, by rw [r2, runL_step hls5 q9, show Int32.toNatClampNeg (y33_5 + 1) = Int32.toNatClampNeg y33_5 + 1 by omega], lawT_bw r3 wf2, a5 q9⟩⟩); (exact ⟨nw2, nx2, a1, a2, a3, sw_tr a4 hsw, W1, Or.inr ⟨a6 (by omega), r2.trans (runL_long hls5 (by omega))⟩⟩)
              have iv33_2 : (∀ z, z ≠ nw → z ≠ nx → c68_V0 z = (V 0) z) := by intro z h1 h2; obtain ⟨n1, n2⟩ := sw_ne hsw h1 h2; exact (p68_2 z n1 n2).trans (iv33 z h1 h2)
              exact ih33 (y33_5 + 1) c68_G183 c68_P181 c68_P182 m84 c68_V0 hg34 hg35 hg36 hfr38 hfr39 ql68_181 hfr40 ql68_182 hfr43 hfr41 iv33_0 iv33_1 iv33_2
  exact lp33 NN (0 : Int32) m13 (P 181) (P 182) m2 m27 hg11 hzP181 hzP182 hfr10 (fun _ _ => rfl) (hB.1 181 fl_181) (fun _ _ => rfl) (hB.1 182 fl_182) hfr7 hfr14 (show (0 ≤ (0 : Int32).toInt ∧ (0 : Int32).toInt ≤ 40) from by omega) (show (∃ nw1 nx1, (P 181) this = some nw1 ∧ (P 182) this = some nx1 ∧ nw1 ≠ nx1 ∧ ((nw1 = nw ∧ nx1 = nx) ∨ (nw1 = nx ∧ nx1 = nw)) ∧ (∃ W1, ((m13 this).toInt ≤ 24 ∧ runL ls W = runL (ls.drop (Int32.toNatClampNeg (0 : Int32))) W1 ∧ BW W1 ∧ wdl (m27 nw1) 0 (Int32.toNatClampNeg (m13 this)) = W1) ∨ (24 < (m13 this).toInt ∧ runL ls W = none))) from by have k13 := clampI (x := m13 this) (by omega); exact ⟨nw, nx, h181, h182, hne, Or.inl ⟨rfl, rfl⟩, W, Or.inl ⟨by omega, rfl, hbw, by rw [em27, va_up_self, wdl_cpy0 (d := Int32.toNatClampNeg (0 : Int32)) rfl rfl, show Int32.toNatClampNeg (m13 this) = Int32.toNatClampNeg p3 by omega]; exact hW⟩⟩) (show (∀ z, z ≠ nw → z ≠ nx → m27 z = (V 0) z) from by intro z h1 h2; rw [em27, va_up_ne _ _ h1])
