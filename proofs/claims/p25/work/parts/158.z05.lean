/-! pairs of words -/
def clB (T1 T2 : List Wd) : Bool := T1.any (fun x => decide (x ∈ T2))
theorem clB_t {T1 T2 : List Wd} {x : Wd} (h1 : x ∈ T1) (h2 : x ∈ T2) : clB T1 T2 = true := List.any_eq_true.mpr ⟨x, h1, decide_eq_true h2⟩
theorem clB_f {T1 T2 : List Wd} (h : ∀ x, x ∈ T1 → x ∉ T2) : clB T1 T2 = false := by
  cases hc : clB T1 T2 with
  | false => rfl
  | true =>
    obtain ⟨x, h1, h2⟩ := List.any_eq_true.mp hc
    exact absurd (of_decide_eq_true h2) (h x h1)
abbrev rh3 (x y : Wd) : Prop := 3 ≤ x.length ∧ 3 ≤ y.length ∧ x.drop (x.length - 3) = y.drop (y.length - 3)
def rhB (T1 T2 : List Wd) : Bool := T1.any (fun x => T2.any (fun y => decide (rh3 x y)))
theorem rhB_t {T1 T2 : List Wd} {x y : Wd} (h1 : x ∈ T1) (h2 : y ∈ T2) (h3 : rh3 x y) : rhB T1 T2 = true := List.any_eq_true.mpr ⟨x, h1, List.any_eq_true.mpr ⟨y, h2, decide_eq_true h3⟩⟩
theorem rhB_f {T1 T2 : List Wd} (h : ∀ x y, x ∈ T1 → y ∈ T2 → ¬ rh3 x y) : rhB T1 T2 = false := by
  cases hc : rhB T1 T2 with
  | false => rfl
  | true =>
    obtain ⟨x, h1, h2⟩ := List.any_eq_true.mp hc
    obtain ⟨y, h3, h4⟩ := List.any_eq_true.mp h2
    exact absurd (of_decide_eq_true h4) (h x y h1 h3)
theorem rh_iff {f g : Nat → Int32} {a n b m : Nat} (hn : 3 ≤ n) (hm : 3 ≤ m) : rh3 (wdl f a n) (wdl g b m) ↔ wdl f (a + n - 3) 3 = wdl g (b + m - 3) 3 := by
  have e1 : (wdl f a n).drop ((wdl f a n).length - 3) = wdl f (a + n - 3) 3 := by
    rw [wdl_len, wdl_drop, show a + (n - 3) = a + n - 3 by omega, show n - (n - 3) = 3 by omega]
  have e2 : (wdl g b m).drop ((wdl g b m).length - 3) = wdl g (b + m - 3) 3 := by
    rw [wdl_len, wdl_drop, show b + (m - 3) = b + m - 3 by omega, show m - (m - 3) = 3 by omega]
  unfold rh3
  rw [e1, e2, wdl_len, wdl_len]
  exact ⟨fun h => h.2.2, fun h => ⟨hn, hm, h⟩⟩
def cnI (p : Nat → Nat → Bool) (a : Nat) : Nat → Nat
  | 0 => 0
  | k + 1 => cnI p a k + (if p a (a + 1 + k) = true then 1 else 0)
def cnO (p : Nat → Nat → Bool) (n : Nat) : Nat → Nat
  | 0 => 0
  | k + 1 => cnO p n k + cnI p k (n - (k + 1))
theorem cnI_y {p : Nat → Nat → Bool} {a k m b : Nat} (h : p a b = true) (hb : b = a + 1 + k) (hm : m = k + 1) : cnI p a m = cnI p a k + 1 := by
  subst hm hb
  show cnI p a k + (if p a (a + 1 + k) = true then 1 else 0) = _
  rw [if_pos h]
theorem cnI_n {p : Nat → Nat → Bool} {a k m b : Nat} (h : p a b = false) (hb : b = a + 1 + k) (hm : m = k + 1) : cnI p a m = cnI p a k := by
  subst hm hb
  show cnI p a k + (if p a (a + 1 + k) = true then 1 else 0) = _
  rw [if_neg (by rw [h]; decide)]
  rfl
theorem cnO_s {p : Nat → Nat → Bool} {n k m j : Nat} (hm : m = k + 1) (hj : j = n - (k + 1)) : cnO p n m = cnO p n k + cnI p k j := by
  subst hm hj
  rfl
/-- how many are such -/
def cnB (p : Nat → Bool) : Nat → Nat
  | 0 => 0
  | k + 1 => cnB p k + (if p k = true then 1 else 0)
theorem cnB_y {p : Nat → Bool} {k m : Nat} (h : p k = true) (hm : m = k + 1) : cnB p m = cnB p k + 1 := by
  subst hm
  show cnB p k + (if p k = true then 1 else 0) = _
  rw [if_pos h]
theorem cnB_n {p : Nat → Bool} {k m : Nat} (h : p k = false) (hm : m = k + 1) : cnB p m = cnB p k := by
  subst hm
  show cnB p k + (if p k = true then 1 else 0) = _
  rw [if_neg (by rw [h]; decide)]
  rfl
def tlB (T : List Wd) (x : Wd) (w : Int) : Bool := if w = 0 then decide (1 < T.length) else if w = 1 then decide (T.length = 0) else decide (T.length = 1 ∧ x ∈ T)
