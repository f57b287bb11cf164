/-! rows that are swapped -/
theorem or_bd {a b c : Nat} (h : a = b ∨ a = c) (hb : b ≤ c) : b ≤ a ∧ a ≤ c := by omega
theorem sw_ne {nw nx nw1 nx1 z : Nat} (h : (nw1 = nw ∧ nx1 = nx) ∨ (nw1 = nx ∧ nx1 = nw)) (h1 : z ≠ nw) (h2 : z ≠ nx) : z ≠ nw1 ∧ z ≠ nx1 := by omega
theorem sw_tr {a b a1 b1 a2 b2 : Nat} (h2 : (a2 = a1 ∧ b2 = b1) ∨ (a2 = b1 ∧ b2 = a1)) (h1 : (a1 = a ∧ b1 = b) ∨ (a1 = b ∧ b1 = a)) : (a2 = a ∧ b2 = b) ∨ (a2 = b ∧ b2 = a) := by omega
theorem sw_nn {a b a1 b1 : Nat} (h1 : (a1 = a ∧ b1 = b) ∨ (a1 = b ∧ b1 = a)) (h : a ≠ b) : a1 ≠ b1 := by omega
