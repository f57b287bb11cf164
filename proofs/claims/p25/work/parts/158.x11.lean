abbrev QF_X7_isWord (κ : Nat → Nat) (wd : Nat) (la : Nat → Nat) (G : Nat → Nat → Int32) (P : Nat → Nat → Option Nat) (U : Nat → Nat → Int64) (V : Nat → Nat → Nat → Int32) (X : Nat → Nat → Nat → Int64) (O : Nat → Nat → Nat → Option Nat) (kd : Nat → Nat) (ln : Nat → Nat) (cnt : Nat) (this : Nat) (p0 : Int32) (tb : Nat) : (Int32) → Prop := (fun t => ((t.toInt ≠ 0 → isw ((V 0) tb) p0.toInt)) ∧ ((t.toInt = 0 → ¬ isw ((V 0) tb) p0.toInt)))
set_option maxHeartbeats 4000000 in
set_option maxRecDepth 100000 in
theorem fn_X7_isWord (κ : Nat → Nat) (wd : Nat) (la : Nat → Nat) (G : Nat → Nat → Int32) (P : Nat → Nat → Option Nat) (U : Nat → Nat → Int64) (V : Nat → Nat → Nat → Int32) (X : Nat → Nat → Nat → Int64) (O : Nat → Nat → Nat → Option Nat) (kd : Nat → Nat) (ln : Nat → Nat) (cnt : Nat) (this : Nat) (p0 : Int32) (tb : Nat) (hzP140 : PB κ ln wd 8 100 2000 2000 0 (P 140)) (hzLN : LN κ ln) (hk_this : κ this = 8) (hB : LB la cnt P) (hlt_this : this < cnt) (h140 : (P 140) this = some tb) : pw (f_X7_isWord G P U V X O kd ln cnt this p0) (QF_X7_isWord κ wd la G P U V X O kd ln cnt this p0 tb) := by
  intro x hx
  have hq := wp_at (fx_X7_isWord κ wd G P U V X O kd ln cnt this p0 hzP140 hzLN hk_this) hx
  rcases hq.2.2 tb h140 with ⟨h1, h2⟩ | ⟨h1, h2⟩
  · exact ⟨fun _ => h2, fun q => absurd q (by omega)⟩
  · exact ⟨fun q => absurd h1 q, fun _ => h2⟩