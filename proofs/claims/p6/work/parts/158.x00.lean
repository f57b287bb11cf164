theorem wdl_dt {f : Nat → Int32} {s n p m : Nat} (h : p + m ≤ n) : ((wdl f s n).drop p).take m = wdl f (s + p) m := by
  apply List.ext_getElem?
  intro j
  by_cases hj : j < m
  · rw [List.getElem?_take_of_lt hj, List.getElem?_drop, wdl_get (by omega), wdl_get hj, Nat.add_assoc]
  · rw [List.getElem?_eq_none (by rw [List.length_take]; omega), List.getElem?_eq_none (by rw [wdl_len]; omega)]