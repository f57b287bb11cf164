/-! turning: ways, forms, through reforms -/
theorem tk_tk {α : Type} {n : Nat} {a b : List α} : (a.take n ++ b).take n = (a ++ b).take n := by
  rw [List.take_append, List.take_append, List.take_take, Nat.min_self, List.length_take]
  by_cases h : n ≤ a.length
  · rw [show n - min n a.length = 0 by omega, show n - a.length = 0 by omega]
  · rw [show min n a.length = a.length by omega]
def wyF (ps : List Wd) (W : Wd) : Nat → Nat → List (List Wd)
  | 0, p => if W.length ≤ p then [[]] else []
  | k + 1, p => if W.length ≤ p then [[]] else (List.range 16).flatMap (fun i => if p + i + 1 ≤ W.length ∧ (W.drop p).take (i + 1) ∈ ps then (wyF ps W k (p + i + 1)).map (List.cons ((W.drop p).take (i + 1))) else [])
def wy (ps : List Wd) (W : Wd) (p : Nat) : List (List Wd) := wyF ps W (W.length - p) p
def wst (ps : List Wd) (W : Wd) (p i : Nat) : List (List Wd) := if p + i + 1 ≤ W.length ∧ (W.drop p).take (i + 1) ∈ ps then (wy ps W (p + i + 1)).map (List.cons ((W.drop p).take (i + 1))) else []
theorem flatMap_ext {α β : Type} {f g : α → List β} : ∀ (l : List α), (∀ x, x ∈ l → f x = g x) → l.flatMap f = l.flatMap g
  | [], _ => rfl
  | x :: l, h => by
    rw [List.flatMap_cons, List.flatMap_cons, h x List.mem_cons_self, flatMap_ext l (fun y hy => h y (List.mem_cons_of_mem _ hy))]
theorem wyF_ge {ps : List Wd} {W : Wd} {k p : Nat} (h : W.length ≤ p) : wyF ps W k p = [[]] := by
  cases k with
  | zero => exact if_pos h
  | succ k => exact if_pos h
theorem wyF_eq {ps : List Wd} {W : Wd} : ∀ (k j p : Nat), W.length ≤ k + p → W.length ≤ j + p → wyF ps W k p = wyF ps W j p := by
  intro k
  induction k with
  | zero => intro j p h _; rw [wyF_ge (by omega), wyF_ge (by omega)]
  | succ k ih =>
    intro j p h1 h2
    by_cases hp : W.length ≤ p
    · rw [wyF_ge hp, wyF_ge hp]
    · obtain ⟨j, rfl⟩ : ∃ i, j = i + 1 := ⟨j - 1, by omega⟩
      show (if W.length ≤ p then _ else _) = (if W.length ≤ p then _ else _)
      rw [if_neg hp, if_neg hp]
      refine flatMap_ext _ (fun i _ => ?_)
      by_cases hq : p + i + 1 ≤ W.length ∧ (W.drop p).take (i + 1) ∈ ps
      · rw [if_pos hq, if_pos hq, ih j (p + i + 1) (by omega) (by omega)]
      · rw [if_neg hq, if_neg hq]
theorem wy_ge {ps : List Wd} {W : Wd} {p : Nat} (h : W.length ≤ p) : wy ps W p = [[]] := wyF_ge h
theorem wy_lt {ps : List Wd} {W : Wd} {p : Nat} (h : p < W.length) : wy ps W p = (List.range 16).flatMap (wst ps W p) := by
  unfold wy
  obtain ⟨k, hk⟩ : ∃ k, W.length - p = k + 1 := ⟨W.length - p - 1, by omega⟩
  rw [hk]
  show (if W.length ≤ p then _ else _) = _
  rw [if_neg (by omega)]
  refine flatMap_ext _ (fun i _ => ?_)
  unfold wst
  by_cases hq : p + i + 1 ≤ W.length ∧ (W.drop p).take (i + 1) ∈ ps
  · rw [if_pos hq, if_pos hq]
    unfold wy
    rw [wyF_eq k (W.length - (p + i + 1)) (p + i + 1) (by omega) (by omega)]
  · rw [if_neg hq, if_neg hq]
theorem wst_no {ps : List Wd} {W : Wd} {p i : Nat} (h : ¬ (p + i + 1 ≤ W.length ∧ (W.drop p).take (i + 1) ∈ ps)) : wst ps W p i = [] := if_neg h
theorem wst_yes {ps : List Wd} {W : Wd} {p i : Nat} (h : p + i + 1 ≤ W.length) (h2 : (W.drop p).take (i + 1) ∈ ps) : wst ps W p i = (wy ps W (p + i + 1)).map (List.cons ((W.drop p).take (i + 1))) := if_pos ⟨h, h2⟩
theorem wst_nil {ps : List Wd} {W : Wd} {p i : Nat} (h : wy ps W (p + i + 1) = []) : wst ps W p i = [] := by
  unfold wst
  rw [h]
  split <;> rfl
theorem wst_ne {ps : List Wd} {W : Wd} {p i : Nat} : wst ps W p i ≠ [] ↔ (p + i + 1 ≤ W.length ∧ (W.drop p).take (i + 1) ∈ ps ∧ wy ps W (p + i + 1) ≠ []) := by
  constructor
  · intro h
    by_cases hq : p + i + 1 ≤ W.length ∧ (W.drop p).take (i + 1) ∈ ps
    · exact ⟨hq.1, hq.2, fun q => h (wst_nil q)⟩
    · exact absurd (wst_no hq) h
  · intro ⟨h1, h2, h3⟩ h
    rw [wst_yes h1 h2] at h
    exact h3 (List.map_eq_nil_iff.mp h)
theorem flatMap_ne {α β : Type} {f : α → List β} {l : List α} : l.flatMap f ≠ [] ↔ ∃ x, x ∈ l ∧ f x ≠ [] := by
  constructor
  · intro h
    induction l with
    | nil => exact absurd rfl h
    | cons a l ih =>
      by_cases q : f a = []
      · rw [List.flatMap_cons, q, List.nil_append] at h
        obtain ⟨x, h1, h2⟩ := ih h
        exact ⟨x, List.mem_cons_of_mem _ h1, h2⟩
      · exact ⟨a, List.mem_cons_self, q⟩
  · intro ⟨x, h1, h2⟩ h
    exact h2 (List.flatMap_eq_nil_iff.mp h x h1)
theorem wy_ne {ps : List Wd} {W : Wd} {p : Nat} (h : p < W.length) : wy ps W p ≠ [] ↔ ∃ i, i < 16 ∧ p + i + 1 ≤ W.length ∧ (W.drop p).take (i + 1) ∈ ps ∧ wy ps W (p + i + 1) ≠ [] := by
  rw [wy_lt h, flatMap_ne]
  constructor
  · intro ⟨x, h1, h2⟩
    exact ⟨x, List.mem_range.mp h1, wst_ne.mp h2⟩
  · intro ⟨x, h1, h2⟩
    exact ⟨x, List.mem_range.mpr h1, wst_ne.mpr h2⟩
/-! what is added: rows of ways, up to 30 -/
def wpre (ps : List Wd) (W : Wd) (p n : Nat) : List (List Wd) := (List.range n).flatMap (wst ps W p)
theorem wpre_0 {ps : List Wd} {W : Wd} {p : Nat} : wpre ps W p 0 = [] := rfl
theorem wpre_s {ps : List Wd} {W : Wd} {p n : Nat} : wpre ps W p (n + 1) = wpre ps W p n ++ wst ps W p n := by
  unfold wpre
  rw [List.range_succ, List.flatMap_append, List.flatMap_singleton]
theorem wpre_16 {ps : List Wd} {W : Wd} {p : Nat} (h : p < W.length) : wpre ps W p 16 = wy ps W p := (wy_lt h).symm
theorem wpre_all {ps : List Wd} {W : Wd} {p n : Nat} (hn : n ≤ 16) (h : W.length ≤ p + n) (hp : p < W.length) : wpre ps W p n = wy ps W p := by
  rw [← wpre_16 hp]
  have hk : ∀ k, wpre ps W p (n + k) = wpre ps W p n := by
    intro k
    induction k with
    | zero => rfl
    | succ k ih => rw [← Nat.add_assoc, wpre_s, ih, wst_no (by omega), List.append_nil]
  have := hk (16 - n)
  rw [show n + (16 - n) = 16 by omega] at this
  exact this.symm
theorem wpre_sub {ps : List Wd} {W : Wd} {p n : Nat} (hn : n ≤ 16) (hp : p < W.length) (h : wpre ps W p n ≠ []) : wy ps W p ≠ [] := by
  obtain ⟨i, h1, h2⟩ := flatMap_ne.mp h
  rw [wy_lt hp]
  exact flatMap_ne.mpr ⟨i, List.mem_range.mpr (by have := List.mem_range.mp h1; omega), h2⟩
def AP (R : List (List Wd)) (L : List Wd) (B : List (List Wd)) : List (List Wd) := (R ++ B.map (fun x => L ++ x)).take 30
theorem AP_nil {R : List (List Wd)} {L : List Wd} (h : R.length ≤ 30) : AP R L [] = R := by
  unfold AP
  rw [List.map_nil, List.append_nil]
  exact List.take_of_length_le h
theorem AP_one {R : List (List Wd)} {L : List Wd} (h : R.length < 30) : AP R L [[]] = R ++ [L] := by
  unfold AP
  rw [List.map_singleton, List.append_nil]
  exact List.take_of_length_le (by rw [List.length_append]; show R.length + 1 ≤ 30; omega)
theorem AP_full {R B : List (List Wd)} {L : List Wd} (h : R.length = 30) : AP R L B = R := by
  unfold AP
  rw [List.take_append, show 30 - R.length = 0 by omega, List.take_zero, List.append_nil]
  exact List.take_of_length_le (by omega)
theorem AP_add {R B C : List (List Wd)} {L : List Wd} : AP (AP R L B) L C = AP R L (B ++ C) := by
  unfold AP
  rw [tk_tk, List.map_append, List.append_assoc]
theorem AP_cons {R B : List (List Wd)} {L : List Wd} {w : Wd} : AP R L (B.map (List.cons w)) = AP R (L ++ [w]) B := by
  unfold AP
  rw [List.map_map]
  have e : (fun x => L ++ x) ∘ List.cons w = fun x => (L ++ [w]) ++ x := funext (fun x => by show L ++ w :: x = (L ++ [w]) ++ x; rw [List.append_assoc]; rfl)
  rw [e]
theorem AP_0 {B : List (List Wd)} : AP [] [] B = B.take 30 := by
  unfold AP
  rw [List.nil_append, show (fun x : List Wd => [] ++ x) = id from rfl, List.map_id]
/-! words of a way stand one behind the other -/
theorem wy_flat {ps : List Wd} {W : Wd} : ∀ (k p : Nat), W.length ≤ k + p → ∀ w, w ∈ wy ps W p → w.flatten = W.drop p ∧ (∀ x, x ∈ w → x ∈ ps ∧ x ≠ []) ∧ w.length ≤ W.length - p := by
  intro k
  induction k with
  | zero =>
    intro p h w hw
    rw [wy_ge (by omega), List.mem_singleton] at hw
    subst hw
    exact ⟨(List.drop_eq_nil_of_le (by omega)).symm, fun x hx => absurd hx List.not_mem_nil, Nat.zero_le _⟩
  | succ k ih =>
    intro p h w hw
    by_cases hp : W.length ≤ p
    · rw [wy_ge hp, List.mem_singleton] at hw
      subst hw
      exact ⟨(List.drop_eq_nil_of_le (by omega)).symm, fun x hx => absurd hx List.not_mem_nil, Nat.zero_le _⟩
    · rw [wy_lt (by omega), List.mem_flatMap] at hw
      obtain ⟨i, hi, hw⟩ := hw
      by_cases hq : p + i + 1 ≤ W.length ∧ (W.drop p).take (i + 1) ∈ ps
      · rw [wst_yes hq.1 hq.2, List.mem_map] at hw
        obtain ⟨w1, h1, rfl⟩ := hw
        obtain ⟨a1, a2, a3⟩ := ih (p + i + 1) (by omega) w1 h1
        refine ⟨?_, ?_, ?_⟩
        · rw [List.flatten_cons, a1, show W.drop (p + i + 1) = (W.drop p).drop (i + 1) by rw [List.drop_drop] <;> exact congrArg (fun n => W.drop n) (by omega), List.take_append_drop]
        · intro x hx
          rcases List.mem_cons.mp hx with hx | hx
          · subst hx
            refine ⟨hq.2, fun q => ?_⟩
            have q9 := congrArg List.length q
            rw [List.length_take, List.length_drop] at q9
            have : ([] : Wd).length = 0 := rfl
            omega
          · exact a2 x hx
        · show w1.length + 1 ≤ W.length - p
          omega
      · rw [wst_no hq] at hw
        exact absurd hw List.not_mem_nil
def sumN (w : List Wd) : Nat := (w.map List.length).sum
theorem flat_at : ∀ (w : List Wd) (k : Nat) (x : Wd), w[k]? = some x → (w.flatten.drop (sumN (w.take k))).take x.length = x
  | [], k, x, h => by cases h
  | y :: w, 0, x, h => by
    cases h
    show ((y ++ w.flatten).drop 0).take y.length = y
    rw [List.drop_zero, List.take_left]
  | y :: w, k + 1, x, h => by
    have h1 : w[k]? = some x := h
    have e : sumN ((y :: w).take (k + 1)) = y.length + sumN (w.take k) := by
      show ((y :: w.take k).map List.length).sum = _
      rw [List.map_cons, List.sum_cons]
      rfl
    rw [e, List.flatten_cons, List.drop_length_add_append, flat_at w k x h1]
