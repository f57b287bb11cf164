/-! what is told of reforms -/
def cntD (dys : Nat → Int32) (p : Int) : Nat → Nat
  | 0 => 0
  | k + 1 => cntD dys p k + (if (dys k).toInt ≤ p then 1 else 0)