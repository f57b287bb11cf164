def lkE : List (Wd × Option Wd) → Wd → Option (Option Wd)
  | [], _ => none
  | e :: es, W => if e.1 = W then some e.2 else lkE es W
theorem lkE_none : ∀ {es : List (Wd × Option Wd)} {W : Wd}, (∀ e, e ∈ es → e.1 ≠ W) → lkE es W = none
  | [], _, _ => rfl
  | e :: es, W, h => by
    show (if e.1 = W then _ else _) = _
    rw [if_neg (h e List.mem_cons_self)]
    exact lkE_none (fun x hx => h x (List.mem_cons_of_mem _ hx))
theorem lkE_some : ∀ {es : List (Wd × Option Wd)} {W : Wd} {k : Nat} {e : Wd × Option Wd}, es[k]? = some e → e.1 = W → (∀ j x, j < k → es[j]? = some x → x.1 ≠ W) → lkE es W = some e.2
  | [], _, k, e, h, _, _ => by cases h
  | x :: es, W, 0, e, h, h1, _ => by
    cases h
    exact if_pos h1
  | x :: es, W, k + 1, e, h, h1, h2 => by
    show (if x.1 = W then _ else _) = _
    rw [if_neg (h2 0 x (by omega) rfl)]
    exact lkE_some (k := k) (e := e) h h1 (fun j y hj hy => h2 (j + 1) y (by omega) hy)
def cwF (d : Dr) (W : Wd) : List (List Wd) := (wy d.2.1 W 0).take 30