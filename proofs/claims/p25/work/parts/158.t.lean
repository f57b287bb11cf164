abbrev QF_X11_reformAt (κ : Nat → Nat) (wd : Nat) (la : Nat → Nat) (G : Nat → Nat → Int32) (P : Nat → Nat → Option Nat) (U : Nat → Nat → Int64) (V : Nat → Nat → Nat → Int32) (X : Nat → Nat → Nat → Int64) (O : Nat → Nat → Nat → Option Nat) (kd : Nat → Nat) (ln : Nat → Nat) (cnt : Nat) (this : Nat) (p0 : Int32) (ra : Nat) : (Option Nat) → Prop := (fun t => ((p0.toInt < 0 ∨ ((G 222) this).toInt ≤ p0.toInt → (t : Option Nat) = none)) ∧ ((0 ≤ p0.toInt → p0.toInt < ((G 222) this).toInt → t = (O 2) ra (Int32.toNatClampNeg p0))))
set_option maxHeartbeats 4000000 in
set_option maxRecDepth 100000 in
theorem fn_X11_reformAt (κ : Nat → Nat) (wd : Nat) (la : Nat → Nat) (G : Nat → Nat → Int32) (P : Nat → Nat → Option Nat) (U : Nat → Nat → Int64) (V : Nat → Nat → Nat → Int32) (X : Nat → Nat → Nat → Int64) (O : Nat → Nat → Nat → Option Nat) (kd : Nat → Nat) (ln : Nat → Nat) (cnt : Nat) (this : Nat) (p0 : Int32) (ra : Nat) (hzG222 : rng (0) 6 (G 222)) (hzP221 : PB κ ln wd 12 302 6 6 0 (P 221)) (hzO2 : OB κ 6 (O 2)) (hzLN : LN κ ln) (hk_this : κ this = 12) (hB : LB la cnt P) (hlt_this : this < cnt) (h221 : (P 221) this = some ra) : pw (f_X11_reformAt G P U V X O kd ln cnt this p0) (QF_X11_reformAt κ wd la G P U V X O kd ln cnt this p0 ra) := by
  unfold f_X11_reformAt
  have zk0 : (0 : Int32).toInt = 0 := by decide +kernel
  have r_p0 := i32r p0
  have hn1 : (P 221) this = some ra := h221
  have lt_ra2 := ((hB.1 221 fl_221) this ra hn1).2.1
  have lb_ra2 : la ra = la this + 3 := lk_221.mp ((hB.1 221 fl_221) this ra hn1).2.2
  have hk_ra := ((hzP221 this).2 ra hn1).1
  have hl1_ra := ((hzP221 this).2 ra hn1).2.1
  have hl2_ra := ((hzP221 this).2 ra hn1).2.2.1
  have hw_ra := ((hzP221 this).2 ra hn1).2.2.2
  have hz_ra : (Int32.ofNat (ln ra)).toInt = ((ln ra : Nat) : Int) := ofN_eq (by first | exact Nat.le_trans hl2_ra (by decide) | omega)
  refine pw_jE (fun j22 ej22 => ?_)
  refine pw_jE (fun j12 ej12 => ?_)
  refine pw_ite (fun c1 => ?_) (fun c1 => ?_)
  · have c1 := (z_lt _ _).mp c1
    refine pw_j0 ej12 ?_
    refine pw_j1 ej22 (fun z22_0 ez22_0 => ?_)
    subst ez22_0
    have qq0 : (p0.toInt < 0 ∨ ((G 222) this).toInt ≤ p0.toInt → (none : Option Nat) = none) := by intro _; rfl
    have qq1 : (0 ≤ p0.toInt → p0.toInt < ((G 222) this).toInt → none = (O 2) ra (Int32.toNatClampNeg p0)) := by intro h1 h2; exfalso; omega
    exact pw_some ⟨qq0, qq1⟩
  · have c1 := z_nlt c1
    have b3 := hzG222 this
    refine pw_ite (fun c9 => ?_) (fun c9 => ?_)
    · have c9 := (z_lt _ _).mp c9
      refine pw_nne hn1 ?_
      refine pw_if (fun hb21 => ?_)
      obtain ⟨hbl21, hbr21⟩ := hb21
      refine pw_vl (fun o21 eo21 => ?_)
      have hk_o21 : ∀ b, o21 = some b → κ b = 6 := fun b hq => hzO2 _ _ b (eo21.symm.trans hq)
      refine pw_j1 ej22 (fun z22_0 ez22_0 => ?_)
      subst ez22_0
      have qq0 : (p0.toInt < 0 ∨ ((G 222) this).toInt ≤ p0.toInt → (o21 : Option Nat) = none) := by intro h; exfalso; omega
      have qq1 : (0 ≤ p0.toInt → p0.toInt < ((G 222) this).toInt → o21 = (O 2) ra (Int32.toNatClampNeg p0)) := by intro _ _; exact eo21
      exact pw_some ⟨qq0, qq1⟩
    · have c9 := z_nlt c9
      refine pw_j0 ej12 ?_
      refine pw_j1 ej22 (fun z22_0 ez22_0 => ?_)
      subst ez22_0
      have qq0 : (p0.toInt < 0 ∨ ((G 222) this).toInt ≤ p0.toInt → (none : Option Nat) = none) := by intro _; rfl
      have qq1 : (0 ≤ p0.toInt → p0.toInt < ((G 222) this).toInt → none = (O 2) ra (Int32.toNatClampNeg p0)) := by intro h1 h2; exfalso; omega
      exact pw_some ⟨qq0, qq1⟩