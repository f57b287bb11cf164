abbrev QF_X7_take (κ : Nat → Nat) (wd : Nat) (la : Nat → Nat) (G : Nat → Nat → Int32) (P : Nat → Nat → Option Nat) (U : Nat → Nat → Int64) (V : Nat → Nat → Nat → Int32) (X : Nat → Nat → Nat → Int64) (O : Nat → Nat → Nat → Option Nat) (kd : Nat → Nat) (ln : Nat → Nat) (cnt : Nat) (this : Nat) : (Int32 × (Nat → Int32)) → Prop := (fun t => ((t.1) = (G 141) this) ∧ ((t.2) this = 0))
set_option maxHeartbeats 4000000 in
set_option maxRecDepth 100000 in
theorem fn_X7_take (κ : Nat → Nat) (wd : Nat) (la : Nat → Nat) (G : Nat → Nat → Int32) (P : Nat → Nat → Option Nat) (U : Nat → Nat → Int64) (V : Nat → Nat → Nat → Int32) (X : Nat → Nat → Nat → Int64) (O : Nat → Nat → Nat → Option Nat) (kd : Nat → Nat) (ln : Nat → Nat) (cnt : Nat) (this : Nat) (hzG141 : rng (0) 2000 (G 141)) (hzLN : LN κ ln) (hk_this : κ this = 8) (hB : LB la cnt P) (hlt_this : this < cnt) : pw (f_X7_take G P U V X O kd ln cnt this) (QF_X7_take κ wd la G P U V X O kd ln cnt this) := by
  unfold f_X7_take
  have zk0 : (0 : Int32).toInt = 0 := by decide +kernel
  have b1 := hzG141 this
  refine pw_vl (fun x4 ex4 => ?_)
  have f2 : x4.toInt = ((G 141) this).toInt := congrArg Int32.toInt ex4
  refine pw_vl (fun m7 em7 => ?_)
  have hfr3 : ∀ z, ((la z < la this ∨ la this < la z)) → m7 z = (G 141) z := fr_up (e0 := (G 141)) (fun _ _ => rfl) em7 (show ¬ ((la this < la this ∨ la this < la this)) from by omega)
  have hg4 : rng (0) 2000 m7 := by rw [em7]; exact rng_vup hzG141 (by omega) (by omega)
  have sm7 : (m7 this).toInt = 0 := by rw [em7, va_up_self]; decide +kernel
  have b5 := hg4 this
  have qq0 : x4 = (G 141) this := by exact ex4
  have qq1 : m7 this = 0 := by rw [em7, va_up_self]
  exact pw_some ⟨qq0, qq1⟩