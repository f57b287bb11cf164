/-! writing: a text, letter by letter -/
abbrev smC (c : Int32) : Prop := 97 ≤ c.toInt ∧ c.toInt ≤ 122
abbrev isL (c : Int32) : Prop := smC c ∨ (65 ≤ c.toInt ∧ c.toInt ≤ 90)
abbrev Ty := Nat × Nat × Nat × Nat × Nat
def nmB (W : Wd) : Bool := W.any (fun c => decide (¬ smC c))
theorem nmB_t {W : Wd} {c : Int32} (h : c ∈ W) (hc : ¬ smC c) : nmB W = true := List.any_eq_true.mpr ⟨c, h, decide_eq_true hc⟩
theorem nmB_f {W : Wd} (h : ∀ c, c ∈ W → smC c) : nmB W = false := by
  cases hc : nmB W with
  | false => rfl
  | true =>
    obtain ⟨x, h1, h2⟩ := List.any_eq_true.mp hc
    exact absurd (h x h1) (of_decide_eq_true h2)
def lE (f : Nat → Int32) (n : Nat) : Nat → Nat → Nat
  | 0, p => p
  | k + 1, p => if p < n ∧ isL (f p) then lE f n k (p + 1) else p
theorem lE_ge {f : Nat → Int32} {n : Nat} : ∀ k p, p ≤ lE f n k p
  | 0, p => Nat.le_refl _
  | k + 1, p => by
    show p ≤ (if p < n ∧ isL (f p) then lE f n k (p + 1) else p)
    split
    · exact Nat.le_trans (Nat.le_succ p) (lE_ge k (p + 1))
    · exact Nat.le_refl _
theorem lE_le {f : Nat → Int32} {n : Nat} : ∀ k p, p ≤ n → lE f n k p ≤ n
  | 0, p, h => h
  | k + 1, p, h => by
    show (if p < n ∧ isL (f p) then lE f n k (p + 1) else p) ≤ n
    split
    · rename_i q
      exact lE_le k (p + 1) q.1
    · exact h
theorem lE_eq {f : Nat → Int32} {n : Nat} : ∀ k j p, n ≤ k + p → n ≤ j + p → lE f n k p = lE f n j p := by
  intro k
  induction k with
  | zero =>
    intro j p h1 h2
    cases j with
    | zero => rfl
    | succ j =>
      show p = (if p < n ∧ isL (f p) then lE f n j (p + 1) else p)
      rw [if_neg (fun q => by have := q.1; omega)]
  | succ k ih =>
    intro j p h1 h2
    cases j with
    | zero =>
      show (if p < n ∧ isL (f p) then lE f n k (p + 1) else p) = p
      rw [if_neg (fun q => by have := q.1; omega)]
    | succ j =>
      show (if p < n ∧ isL (f p) then lE f n k (p + 1) else p) = (if p < n ∧ isL (f p) then lE f n j (p + 1) else p)
      rw [ih j (p + 1) (by omega) (by omega)]
def lnd (f : Nat → Int32) (n p : Nat) : Nat := lE f n (n - p) p
theorem lnd_s {f : Nat → Int32} {n p : Nat} (h : p < n) (hl : isL (f p)) : lnd f n p = lnd f n (p + 1) := by
  unfold lnd
  obtain ⟨k, hk⟩ : ∃ k, n - p = k + 1 := ⟨n - p - 1, by omega⟩
  rw [hk]
  show (if p < n ∧ isL (f p) then lE f n k (p + 1) else p) = _
  rw [if_pos ⟨h, hl⟩, lE_eq k (n - (p + 1)) (p + 1) (by omega) (by omega)]
theorem lnd_e {f : Nat → Int32} {n p : Nat} (h : ¬ (p < n ∧ isL (f p))) : lnd f n p = p := by
  unfold lnd
  cases hk : n - p with
  | zero => rfl
  | succ k =>
    show (if p < n ∧ isL (f p) then lE f n k (p + 1) else p) = p
    rw [if_neg h]
theorem lnd_b {f : Nat → Int32} {n p : Nat} (h : p ≤ n) : p ≤ lnd f n p ∧ lnd f n p ≤ n := ⟨lE_ge _ _, lE_le _ _ h⟩
/-- a word -/
def wdT (T : List Wd) (W : Wd) (st : Wd × Ty) : Wd × Ty := match T with
  | [] => (st.1 ++ W, (st.2.1 + 1, st.2.2.1, st.2.2.2.1, st.2.2.2.2.1 + 1, st.2.2.2.2.2))
  | x :: xs => (st.1 ++ x, (st.2.1 + 1, st.2.2.1 + (if x = W then 0 else 1), st.2.2.2.1 + (if xs = [] then 0 else 1), st.2.2.2.2.1, st.2.2.2.2.2))
theorem wdT_len {T : List Wd} {W : Wd} {st : Wd × Ty} : st.1.length ≤ (wdT T W st).1.length := by
  cases T with
  | nil =>
    show st.1.length ≤ (st.1 ++ W).length
    rw [List.length_append]
    omega
  | cons x xs =>
    show st.1.length ≤ (st.1 ++ x).length
    rw [List.length_append]
    omega
def wdS (d : Nat → Dr) (a m : Nat) (W : Wd) (st : Wd × Ty) : Wd × Ty :=
  if nmB W = true then (st.1 ++ W, (st.2.1, st.2.2.1, st.2.2.2.1, st.2.2.2.2.1, st.2.2.2.2.2 + 1))
  else wdT (if W.length ≤ 24 then thF d a m [W] else []) W st
theorem wdS_n {d : Nat → Dr} {a m : Nat} {W : Wd} {st : Wd × Ty} (h : nmB W = true) : wdS d a m W st = (st.1 ++ W, (st.2.1, st.2.2.1, st.2.2.2.1, st.2.2.2.2.1, st.2.2.2.2.2 + 1)) := if_pos h
theorem wdS_T {d : Nat → Dr} {a m : Nat} {W : Wd} {st : Wd × Ty} (h : nmB W = false) : wdS d a m W st = wdT (if W.length ≤ 24 then thF d a m [W] else []) W st := if_neg (by rw [h]; decide)
theorem wdS_0 {d : Nat → Dr} {a m : Nat} {W : Wd} {st : Wd × Ty} (h : nmB W = false) (h2 : 24 < W.length ∨ thF d a m [W] = []) : wdS d a m W st = (st.1 ++ W, (st.2.1 + 1, st.2.2.1, st.2.2.2.1, st.2.2.2.2.1 + 1, st.2.2.2.2.2)) := by
  have e : (if W.length ≤ 24 then thF d a m [W] else []) = [] := by
    by_cases q : W.length ≤ 24
    · rw [if_pos q]
      rcases h2 with h2 | h2
      · omega
      · exact h2
    · exact if_neg q
  rw [wdS_T h, e]
  rfl
theorem wdS_1 {d : Nat → Dr} {a m : Nat} {W x : Wd} {xs : List Wd} {st : Wd × Ty} (h : nmB W = false) (h1 : W.length ≤ 24) (h2 : thF d a m [W] = x :: xs) : wdS d a m W st = (st.1 ++ x, (st.2.1 + 1, st.2.2.1 + (if x = W then 0 else 1), st.2.2.2.1 + (if xs = [] then 0 else 1), st.2.2.2.2.1, st.2.2.2.2.2)) := by
  rw [wdS_T h, if_pos h1, h2]
  rfl
theorem wdS_len {d : Nat → Dr} {a m : Nat} {W : Wd} {st : Wd × Ty} : st.1.length ≤ (wdS d a m W st).1.length := by
  unfold wdS
  split
  · show st.1.length ≤ (st.1 ++ W).length
    rw [List.length_append]
    omega
  · exact wdT_len
def wcF (f : Nat → Int32) (n : Nat) (d : Nat → Dr) (a m : Nat) : Nat → Nat → Bool → Wd × Ty → Wd × Ty
  | 0, _, _, st => st
  | k + 1, p, q, st => if n ≤ p then st else if (f p).toInt = 34 then wcF f n d a m k (p + 1) (!q) (st.1 ++ [f p], st.2) else if q = false ∧ isL (f p) then wcF f n d a m k (lnd f n (p + 1)) false (wdS d a m (wdl f p (lnd f n (p + 1) - p)) st) else wcF f n d a m k (p + 1) q (st.1 ++ [f p], st.2)
theorem wcF_eq {f : Nat → Int32} {n : Nat} {d : Nat → Dr} {a m : Nat} : ∀ (k j p : Nat) (q : Bool) (st : Wd × Ty), n ≤ k + p → n ≤ j + p → wcF f n d a m k p q st = wcF f n d a m j p q st := by
  intro k
  induction k with
  | zero =>
    intro j p q st h1 h2
    cases j with
    | zero => rfl
    | succ j =>
      show st = (if n ≤ p then st else _)
      rw [if_pos (by omega)]
  | succ k ih =>
    intro j p q st h1 h2
    cases j with
    | zero =>
      show (if n ≤ p then st else _) = st
      rw [if_pos (by omega)]
    | succ j =>
      by_cases hp : n ≤ p
      · show (if n ≤ p then st else _) = (if n ≤ p then st else _)
        rw [if_pos hp, if_pos hp]
      · have hb := lnd_b (f := f) (n := n) (p := p + 1) (by omega)
        show (if n ≤ p then st else if (f p).toInt = 34 then wcF f n d a m k (p + 1) (!q) (st.1 ++ [f p], st.2) else if q = false ∧ isL (f p) then wcF f n d a m k (lnd f n (p + 1)) false (wdS d a m (wdl f p (lnd f n (p + 1) - p)) st) else wcF f n d a m k (p + 1) q (st.1 ++ [f p], st.2)) = (if n ≤ p then st else if (f p).toInt = 34 then wcF f n d a m j (p + 1) (!q) (st.1 ++ [f p], st.2) else if q = false ∧ isL (f p) then wcF f n d a m j (lnd f n (p + 1)) false (wdS d a m (wdl f p (lnd f n (p + 1) - p)) st) else wcF f n d a m j (p + 1) q (st.1 ++ [f p], st.2))
        rw [ih j (p + 1) (!q) _ (by omega) (by omega), ih j (lnd f n (p + 1)) false _ (by omega) (by omega), ih j (p + 1) q _ (by omega) (by omega)]
def wcR (f : Nat → Int32) (n : Nat) (d : Nat → Dr) (a m p : Nat) (q : Bool) (st : Wd × Ty) : Wd × Ty := wcF f n d a m (n - p) p q st
theorem wc_end {f : Nat → Int32} {n : Nat} {d : Nat → Dr} {a m p : Nat} {q : Bool} {st : Wd × Ty} (h : n ≤ p) : wcR f n d a m p q st = st := by
  unfold wcR
  rw [show n - p = 0 by omega]
  rfl
theorem wc_un {f : Nat → Int32} {n : Nat} {d : Nat → Dr} {a m p : Nat} {q : Bool} {st : Wd × Ty} (h : p < n) : wcR f n d a m p q st = (if (f p).toInt = 34 then wcR f n d a m (p + 1) (!q) (st.1 ++ [f p], st.2) else if q = false ∧ isL (f p) then wcR f n d a m (lnd f n (p + 1)) false (wdS d a m (wdl f p (lnd f n (p + 1) - p)) st) else wcR f n d a m (p + 1) q (st.1 ++ [f p], st.2)) := by
  have hb := lnd_b (f := f) (n := n) (p := p + 1) (by omega)
  unfold wcR
  obtain ⟨k, hk⟩ : ∃ k, n - p = k + 1 := ⟨n - p - 1, by omega⟩
  rw [hk]
  show (if n ≤ p then st else if (f p).toInt = 34 then wcF f n d a m k (p + 1) (!q) (st.1 ++ [f p], st.2) else if q = false ∧ isL (f p) then wcF f n d a m k (lnd f n (p + 1)) false (wdS d a m (wdl f p (lnd f n (p + 1) - p)) st) else wcF f n d a m k (p + 1) q (st.1 ++ [f p], st.2)) = _
  rw [if_neg (by omega), wcF_eq k (n - (p + 1)) (p + 1) (!q) _ (by omega) (by omega), wcF_eq k (n - lnd f n (p + 1)) (lnd f n (p + 1)) false _ (by omega) (by omega), wcF_eq k (n - (p + 1)) (p + 1) q _ (by omega) (by omega)]
theorem wc_q {f : Nat → Int32} {n : Nat} {d : Nat → Dr} {a m p : Nat} {q : Bool} {st : Wd × Ty} (h : p < n) (h1 : (f p).toInt = 34) : wcR f n d a m p q st = wcR f n d a m (p + 1) (!q) (st.1 ++ [f p], st.2) := by
  rw [wc_un h, if_pos h1]
theorem wc_w {f : Nat → Int32} {n : Nat} {d : Nat → Dr} {a m p : Nat} {st : Wd × Ty} (h : p < n) (h2 : isL (f p)) : wcR f n d a m p false st = wcR f n d a m (lnd f n (p + 1)) false (wdS d a m (wdl f p (lnd f n (p + 1) - p)) st) := by
  rw [wc_un h, if_neg (by unfold isL smC at h2; omega), if_pos ⟨rfl, h2⟩]
theorem wc_c {f : Nat → Int32} {n : Nat} {d : Nat → Dr} {a m p : Nat} {q : Bool} {st : Wd × Ty} (h : p < n) (h1 : (f p).toInt ≠ 34) (h2 : q = true ∨ ¬ isL (f p)) : wcR f n d a m p q st = wcR f n d a m (p + 1) q (st.1 ++ [f p], st.2) := by
  rw [wc_un h, if_neg h1, if_neg (fun z => by rcases h2 with h2 | h2; (rw [h2] at z; cases z.1); (exact h2 z.2))]
theorem wc_len {f : Nat → Int32} {n : Nat} {d : Nat → Dr} {a m : Nat} : ∀ (k p : Nat) (q : Bool) (st : Wd × Ty), st.1.length ≤ (wcF f n d a m k p q st).1.length := by
  intro k
  induction k with
  | zero => exact fun p q st => Nat.le_refl _
  | succ k ih =>
    intro p q st
    show st.1.length ≤ (if n ≤ p then st else if (f p).toInt = 34 then wcF f n d a m k (p + 1) (!q) (st.1 ++ [f p], st.2) else if q = false ∧ isL (f p) then wcF f n d a m k (lnd f n (p + 1)) false (wdS d a m (wdl f p (lnd f n (p + 1) - p)) st) else wcF f n d a m k (p + 1) q (st.1 ++ [f p], st.2)).1.length
    split
    · exact Nat.le_refl _
    · split
      · exact Nat.le_trans (by show st.1.length ≤ (st.1 ++ [f p]).length; rw [List.length_append]; omega) (ih _ _ _)
      · split
        · exact Nat.le_trans wdS_len (ih _ _ _)
        · exact Nat.le_trans (by show st.1.length ≤ (st.1 ++ [f p]).length; rw [List.length_append]; omega) (ih _ _ _)
theorem wc_le {f : Nat → Int32} {n : Nat} {d : Nat → Dr} {a m p : Nat} {q : Bool} {st : Wd × Ty} : st.1.length ≤ (wcR f n d a m p q st).1.length := wc_len _ _ _ _
/-- between quotes -/
def qE (f : Nat → Int32) (n : Nat) : Nat → Nat → Nat
  | 0, _ => n
  | k + 1, p => if p < n then (if (f p).toInt = 34 then p + 1 else qE f n k (p + 1)) else n
theorem wc_in {f : Nat → Int32} {n : Nat} {d : Nat → Dr} {a m : Nat} : ∀ (k p : Nat) (st : Wd × Ty), n ≤ k + p → p ≤ n → (p ≤ qE f n k p ∧ qE f n k p ≤ n) ∧ wcR f n d a m p true st = wcR f n d a m (qE f n k p) false (st.1 ++ wdl f p (qE f n k p - p), st.2) := by
  intro k
  induction k with
  | zero =>
    intro p st h1 h2
    have e : p = n := by omega
    subst e
    refine ⟨⟨Nat.le_refl _, Nat.le_refl _⟩, ?_⟩
    rw [wc_end (Nat.le_refl _), wc_end (show p ≤ qE f p 0 p from Nat.le_refl _)]
    show st = (st.1 ++ wdl f p (p - p), st.2)
    rw [Nat.sub_self]
    show st = (st.1 ++ [], st.2)
    rw [List.append_nil]
  | succ k ih =>
    intro p st h1 h2
    by_cases hp : p < n
    · by_cases h34 : (f p).toInt = 34
      · have e : qE f n (k + 1) p = p + 1 := by
          show (if p < n then (if (f p).toInt = 34 then p + 1 else qE f n k (p + 1)) else n) = p + 1
          rw [if_pos hp, if_pos h34]
        rw [e]
        refine ⟨⟨by omega, by omega⟩, ?_⟩
        rw [wc_q hp h34, show p + 1 - p = 1 by omega]
        rfl
      · have e : qE f n (k + 1) p = qE f n k (p + 1) := by
          show (if p < n then (if (f p).toInt = 34 then p + 1 else qE f n k (p + 1)) else n) = _
          rw [if_pos hp, if_neg h34]
        obtain ⟨⟨i1, i2⟩, i3⟩ := ih (p + 1) (st.1 ++ [f p], st.2) (by omega) (by omega)
        rw [e]
        refine ⟨⟨by omega, i2⟩, ?_⟩
        rw [wc_c hp h34 (Or.inl rfl), i3]
        show wcR f n d a m _ false ((st.1 ++ [f p]) ++ wdl f (p + 1) (qE f n k (p + 1) - (p + 1)), st.2) = _
        rw [List.append_assoc]
        have e2 : [f p] ++ wdl f (p + 1) (qE f n k (p + 1) - (p + 1)) = wdl f p (qE f n k (p + 1) - p) := by
          have := wdl_app (f := f) (s := p) (n := 1) (m := qE f n k (p + 1) - (p + 1))
          rw [show 1 + (qE f n k (p + 1) - (p + 1)) = qE f n k (p + 1) - p by omega] at this
          exact this
        rw [e2]
    · have e : qE f n (k + 1) p = n := by
        show (if p < n then _ else n) = n
        rw [if_neg hp]
      have e2 : p = n := by omega
      rw [e]
      refine ⟨⟨by omega, Nat.le_refl _⟩, ?_⟩
      subst e2
      rw [wc_end (Nat.le_refl _), wc_end (Nat.le_refl _), Nat.sub_self]
      show st = (st.1 ++ [], st.2)
      rw [List.append_nil]
/-- what stands as it is -/
theorem wdl_cat {f : Nat → Int32} {p e : Nat} (h : p ≤ e) {k : Nat} (hk : k = e + 1 - p) : wdl f p (e - p) ++ [f e] = wdl f p k := by
  subst hk
  rw [show e + 1 - p = (e - p) + 1 by omega, wdl_s1, show p + (e - p) = e by omega]
/-! writing: counts, the draft -/
def tz0 : Ty := (0, 0, 0, 0, 0)
def TYA (f : Nat → Int32) (t : Ty) : Prop := f 0 = Int32.ofNat t.1 ∧ f 1 = Int32.ofNat t.2.1 ∧ f 2 = Int32.ofNat t.2.2.1 ∧ f 3 = Int32.ofNat t.2.2.2.1 ∧ f 4 = Int32.ofNat t.2.2.2.2
theorem TYA_0 {f : Nat → Int32} (h : ∀ j, j < 5 → f j = 0) : TYA f tz0 := ⟨h 0 (by omega), h 1 (by omega), h 2 (by omega), h 3 (by omega), h 4 (by omega)⟩
theorem TYA_cp {f f1 : Nat → Int32} {t : Ty} (h : TYA f t) (e : ∀ j, j < 5 → f1 j = f j) : TYA f1 t := by
  obtain ⟨h0, h1, h2, h3, h4⟩ := h
  exact ⟨(e 0 (by omega)).trans h0, (e 1 (by omega)).trans h1, (e 2 (by omega)).trans h2, (e 3 (by omega)).trans h3, (e 4 (by omega)).trans h4⟩
theorem TYA_det {f f1 : Nat → Int32} {t : Ty} (h : TYA f t) (h' : TYA f1 t) : ∀ j, j < 5 → f j = f1 j := by
  obtain ⟨h0, h1, h2, h3, h4⟩ := h
  obtain ⟨g0, g1, g2, g3, g4⟩ := h'
  intro j hj
  rcases (by omega : j = 0 ∨ j = 1 ∨ j = 2 ∨ j = 3 ∨ j = 4) with e | e | e | e | e
  · rw [e, h0, g0]
  · rw [e, h1, g1]
  · rw [e, h2, g2]
  · rw [e, h3, g3]
  · rw [e, h4, g4]
/-- one count goes up -/
def upT (t : Ty) (k a : Nat) : Ty := (t.1 + (if k = 0 then a else 0), t.2.1 + (if k = 1 then a else 0), t.2.2.1 + (if k = 2 then a else 0), t.2.2.2.1 + (if k = 3 then a else 0), t.2.2.2.2 + (if k = 4 then a else 0))
theorem TYA_up {f w : Nat → Int32} {t : Ty} {k a : Nat} {x : Int32} (h : TYA f t) (hk : k < 5) (hx : x = Int32.ofNat a) (e : w = upd f k (f k + x)) : TYA w (upT t k a) := by
  obtain ⟨h0, h1, h2, h3, h4⟩ := h
  subst hx
  have key : ∀ (j n : Nat), f j = Int32.ofNat n → w j = Int32.ofNat (n + (if k = j then a else 0)) := by
    intro j n hj
    by_cases q : k = j
    · rw [if_pos q, e, q, pk_us, hj]
      exact (Int32.ofNat_add n a).symm
    · rw [if_neg q, e, pk_un (fun z => q z.symm)]
      exact hj
  exact ⟨key 0 _ h0, key 1 _ h1, key 2 _ h2, key 3 _ h3, key 4 _ h4⟩
theorem ty_n {f w : Nat → Int32} {d : Nat → Dr} {a m : Nat} {W : Wd} {st : Wd × Ty} (hn : nmB W = true) (h : TYA f st.2) (e : w = upd f (Int32.toNatClampNeg 4) (f (Int32.toNatClampNeg 4) + 1)) : TYA w (wdS d a m W st).2 := by
  rw [wdS_n hn]
  exact TYA_up (k := 4) (a := 1) h (by omega) rfl e
theorem ty_0 {f w1 w2 w3 : Nat → Int32} {d : Nat → Dr} {a m : Nat} {W : Wd} {st : Wd × Ty} {x y : Int32} (hn : nmB W = false) (h2 : 24 < W.length ∨ thF d a m [W] = []) (h : TYA f st.2) (e1 : w1 = upd f (Int32.toNatClampNeg 0) (f (Int32.toNatClampNeg 0) + 1)) (e2 : w2 = upd w1 (Int32.toNatClampNeg 2) (w1 (Int32.toNatClampNeg 2) + x)) (hx : x = 0) (e3 : w3 = upd w2 (Int32.toNatClampNeg 3) (w2 (Int32.toNatClampNeg 3) + y)) (hy : y = 1) : TYA w3 (wdS d a m W st).2 := by
  rw [wdS_0 hn h2]
  exact TYA_up (k := 3) (a := 1) (TYA_up (k := 2) (a := 0) (TYA_up (k := 0) (a := 1) h (by omega) rfl e1) (by omega) hx e2) (by omega) hy e3
theorem ty_1 {f w1 w2 w3 w4 : Nat → Int32} {d : Nat → Dr} {a m : Nat} {W X : Wd} {xs : List Wd} {st : Wd × Ty} {x y z : Int32} (hn : nmB W = false) (h1 : W.length ≤ 24) (h2 : thF d a m [W] = X :: xs) (h : TYA f st.2) (e1 : w1 = upd f (Int32.toNatClampNeg 0) (f (Int32.toNatClampNeg 0) + 1)) (e2 : w2 = upd w1 (Int32.toNatClampNeg 2) (w1 (Int32.toNatClampNeg 2) + x)) (hx : x = Int32.ofNat (if xs = [] then 0 else 1)) (e3 : w3 = upd w2 (Int32.toNatClampNeg 3) (w2 (Int32.toNatClampNeg 3) + y)) (hy : y = 0) (e4 : w4 = upd w3 (Int32.toNatClampNeg 1) (w3 (Int32.toNatClampNeg 1) + z)) (hz : z = Int32.ofNat (if X = W then 0 else 1)) : TYA w4 (wdS d a m W st).2 := by
  rw [wdS_1 hn h1 h2]
  exact TYA_up (k := 1) (TYA_up (k := 3) (a := 0) (TYA_up (k := 2) (TYA_up (k := 0) (a := 1) h (by omega) rfl e1) (by omega) hx e2) (by omega) hy e3) (by omega) hz e4
theorem rw_hd {c : Int32} {fl fs : Nat → Int32} {L : List Wd} (h : rwW c fl fs 24 = L) (hc : 1 ≤ Int32.toNatClampNeg c) : ∃ xs, L = wdl fl 0 (Int32.toNatClampNeg (fs 0)) :: xs ∧ ((xs = []) ↔ Int32.toNatClampNeg c = 1) := by
  have hl : L.length = Int32.toNatClampNeg c := by rw [← h]; exact rw_len
  have h0 : L[0]? = some (wdl fl (24 * 0) (Int32.toNatClampNeg (fs 0))) := by rw [← h]; exact rw_at (by omega)
  cases L with
  | nil =>
    exfalso
    have h9 : (0 : Nat) = Int32.toNatClampNeg c := hl
    omega
  | cons y ys =>
    have e : y = wdl fl (24 * 0) (Int32.toNatClampNeg (fs 0)) := Option.some.inj h0
    refine ⟨ys, by rw [e], ?_⟩
    have h9 : ys.length + 1 = Int32.toNatClampNeg c := hl
    constructor
    · intro q
      rw [q] at h9
      exact h9.symm
    · intro q
      exact List.length_eq_zero_iff.mp (by omega)
/-- quotes -/
def qN (f : Nat → Int32) (n p : Nat) : Nat := qE f n (n - p) p
theorem qN_e {f : Nat → Int32} {n p : Nat} (h : n ≤ p) : qN f n p = n := by
  unfold qN
  rw [show n - p = 0 by omega]
  rfl
theorem qN_un {f : Nat → Int32} {n p : Nat} (h : p < n) : qN f n p = (if (f p).toInt = 34 then p + 1 else qN f n (p + 1)) := by
  unfold qN
  rw [show n - p = (n - (p + 1)) + 1 by omega]
  show (if p < n then (if (f p).toInt = 34 then p + 1 else qE f n (n - (p + 1)) (p + 1)) else n) = _
  rw [if_pos h]
theorem qN_q {f : Nat → Int32} {n p : Nat} (h : p < n) (h1 : (f p).toInt = 34) : qN f n p = p + 1 := by rw [qN_un h, if_pos h1]
theorem qN_s {f : Nat → Int32} {n p : Nat} (h : p < n) (h1 : (f p).toInt ≠ 34) : qN f n p = qN f n (p + 1) := by rw [qN_un h, if_neg h1]
/-- the draft so far -/
def WIV (f : Nat → Int32) (n : Nat) (d : Nat → Dr) (a m p : Nat) (dr : Wd) (cs : Nat → Int32) : Prop := ∃ t : Ty, TYA cs t ∧ wcR f n d a m 0 false ([], tz0) = wcR f n d a m p false (dr, t)
theorem WIV_0 {f : Nat → Int32} {n : Nat} {d : Nat → Dr} {a m p : Nat} {dr : Wd} {cs : Nat → Int32} (h : TYA cs tz0) (hp : p = 0) (hd : dr = []) : WIV f n d a m p dr cs := ⟨tz0, h, by rw [hp, hd]⟩
theorem WIV_le {f : Nat → Int32} {n : Nat} {d : Nat → Dr} {a m p : Nat} {dr : Wd} {cs : Nat → Int32} (h : WIV f n d a m p dr cs) : dr.length ≤ (wcR f n d a m 0 false ([], tz0)).1.length := by
  obtain ⟨t, _, e⟩ := h
  rw [e]
  exact wc_le (st := (dr, t))
theorem WIV_c {f : Nat → Int32} {n : Nat} {d : Nat → Dr} {a m p : Nat} {dr : Wd} {cs : Nat → Int32} (h : WIV f n d a m p dr cs) (hp : p < n) (h1 : (f p).toInt ≠ 34) (h2 : ¬ isL (f p)) : WIV f n d a m (p + 1) (dr ++ wdl f p 1) cs := by
  obtain ⟨t, h3, e⟩ := h
  exact ⟨t, h3, e.trans (wc_c (st := (dr, t)) hp h1 (Or.inr h2))⟩
theorem WIV_q {f : Nat → Int32} {n : Nat} {d : Nat → Dr} {a m p e : Nat} {dr : Wd} {cs : Nat → Int32} (h : WIV f n d a m p dr cs) (hp : p < n) (h1 : (f p).toInt = 34) (he : e = qN f n (p + 1)) : WIV f n d a m e (dr ++ wdl f p (e - p)) cs := by
  obtain ⟨t, h3, e3⟩ := h
  subst he
  refine ⟨t, h3, ?_⟩
  have hin := wc_in (f := f) (n := n) (d := d) (a := a) (m := m) (n - (p + 1)) (p + 1) (dr ++ [f p], t) (by omega) (by omega)
  rw [e3, wc_q (st := (dr, t)) hp h1]
  show wcR f n d a m (p + 1) true (dr ++ [f p], t) = _
  rw [hin.2]
  show wcR f n d a m (qN f n (p + 1)) false ((dr ++ [f p]) ++ wdl f (p + 1) (qN f n (p + 1) - (p + 1)), t) = _
  have hb : p + 1 ≤ qN f n (p + 1) := hin.1.1
  rw [List.append_assoc]
  have e2 : [f p] ++ wdl f (p + 1) (qN f n (p + 1) - (p + 1)) = wdl f p (qN f n (p + 1) - p) := by
    have h9 := wdl_app (f := f) (s := p) (n := 1) (m := qN f n (p + 1) - (p + 1))
    rw [show 1 + (qN f n (p + 1) - (p + 1)) = qN f n (p + 1) - p by omega] at h9
    exact h9
  rw [e2]
theorem WIV_w {f : Nat → Int32} {n : Nat} {d : Nat → Dr} {a m p e : Nat} {dr dr1 : Wd} {t : Ty} {cs : Nat → Int32} (h : wcR f n d a m 0 false ([], tz0) = wcR f n d a m p false (dr, t)) (hp : p < n) (hl : isL (f p)) (he : lnd f n (p + 1) = e) (h1 : dr1 = (wdS d a m (wdl f p (e - p)) (dr, t)).1) (h2 : TYA cs (wdS d a m (wdl f p (e - p)) (dr, t)).2) : WIV f n d a m e dr1 cs := by
  subst he
  subst h1
  exact ⟨_, h2, h.trans (wc_w hp hl)⟩
theorem WIV_wl {f : Nat → Int32} {n : Nat} {d : Nat → Dr} {a m p e : Nat} {dr : Wd} {t : Ty} (h : wcR f n d a m 0 false ([], tz0) = wcR f n d a m p false (dr, t)) (hp : p < n) (hl : isL (f p)) (he : lnd f n (p + 1) = e) : (wdS d a m (wdl f p (e - p)) (dr, t)).1.length ≤ (wcR f n d a m 0 false ([], tz0)).1.length := by
  subst he
  rw [h, wc_w hp hl]
  exact wc_le
theorem WIV_end {f : Nat → Int32} {n : Nat} {d : Nat → Dr} {a m p : Nat} {dr : Wd} {cs : Nat → Int32} (h : WIV f n d a m p dr cs) (hp : n ≤ p) : ∃ t : Ty, TYA cs t ∧ wcR f n d a m 0 false ([], tz0) = (dr, t) := by
  obtain ⟨t, h1, h2⟩ := h
  exact ⟨t, h1, h2.trans (wc_end hp)⟩
/-- no byte is nought -/
def NZR (f : Nat → Int32) (n : Nat) : Prop := ∀ j, j < n → (f j).toInt ≠ 0
/-! writing: the class's page -/
def CWS (f pgv : Nat → Int32) (sz cp e : Nat) (fi : Int) (out : Wd) : Prop := cp ≤ e ∧ (fi ≠ 0 → out = wdl pgv 0 sz ++ wdl f cp (e - cp)) ∧ (fi = 0 → 2500 < out.length)
theorem CWS_0 {f pgv : Nat → Int32} {sz cp e : Nat} {fi : Int} (h1 : sz = 0) (h2 : cp = 0) (h3 : e = 0) (h4 : fi ≠ 0) : CWS f pgv sz cp e fi [] := by
  subst h1
  subst h2
  subst h3
  exact ⟨Nat.le_refl _, fun _ => rfl, fun q => absurd q h4⟩
theorem CWS_w {f pgv : Nat → Int32} {sz cp e : Nat} {fi : Int} {out : Wd} (h : CWS f pgv sz cp e fi out) (n : Nat) : CWS f pgv sz cp (e + n) fi (out ++ wdl f e n) := by
  obtain ⟨h1, h2, h3⟩ := h
  refine ⟨by omega, fun q => ?_, fun q => ?_⟩
  · rw [h2 q, List.append_assoc]
    have h9 := wdl_app (f := f) (s := cp) (n := e - cp) (m := n)
    rw [show cp + (e - cp) = e by omega, show e - cp + n = e + n - cp by omega] at h9
    rw [h9]
  · have h9 := h3 q
    rw [List.length_append]
    omega
def APP (pgv pgv1 : Nat → Int32) (sz sz1 : Nat) (fi fi1 : Int) (T : Wd) : Prop := ((fi ≠ 0 ∧ sz + T.length ≤ 2500) → fi1 ≠ 0 ∧ wdl pgv1 0 sz1 = wdl pgv 0 sz ++ T) ∧ (¬ (fi ≠ 0 ∧ sz + T.length ≤ 2500) → fi1 = 0)
theorem CWS_x {f p0 p1 p2 : Nat → Int32} {s0 s1 s2 cp e n : Nat} {f0 f1 f2 : Int} {out x : Wd} (h : CWS f p0 s0 cp e f0 out) (a1 : APP p0 p1 s0 s1 f0 f1 (wdl f cp (e - cp))) (a2 : APP p1 p2 s1 s2 f1 f2 x) : CWS f p2 s2 (e + n) (e + n) f2 (out ++ x) := by
  refine ⟨Nat.le_refl _, fun q => ?_, fun q => ?_⟩
  · by_cases c2 : f1 ≠ 0 ∧ s1 + x.length ≤ 2500
    · by_cases c1 : f0 ≠ 0 ∧ s0 + (wdl f cp (e - cp)).length ≤ 2500
      · rw [(a2.1 c2).2, (a1.1 c1).2, h.2.1 c1.1, Nat.sub_self]
        show _ = _ ++ []
        rw [List.append_nil]
      · exact absurd (a1.2 c1) c2.1
    · exact absurd (a2.2 c2) q
  · rw [List.length_append]
    by_cases c0 : f0 = 0
    · have h9 := h.2.2 c0
      omega
    · have ho := h.2.1 c0
      by_cases c1 : f0 ≠ 0 ∧ s0 + (wdl f cp (e - cp)).length ≤ 2500
      · have hl := congrArg List.length (a1.1 c1).2
        rw [List.length_append, wdl_len, wdl_len, wdl_len] at hl
        by_cases c2 : f1 ≠ 0 ∧ s1 + x.length ≤ 2500
        · exact absurd q (a2.1 c2).1
        · have c3 : ¬ (s1 + x.length ≤ 2500) := fun z => c2 ⟨(a1.1 c1).1, z⟩
          rw [ho, List.length_append, wdl_len, wdl_len]
          omega
      · have c3 : ¬ (s0 + (wdl f cp (e - cp)).length ≤ 2500) := fun z => c1 ⟨c0, z⟩
        rw [wdl_len] at c3
        rw [ho, List.length_append, wdl_len, wdl_len]
        omega
theorem CWS_fin {f p0 p1 : Nat → Int32} {s0 s1 cp e : Nat} {f0 f1 : Int} {out : Wd} (h : CWS f p0 s0 cp e f0 out) (a1 : APP p0 p1 s0 s1 f0 f1 (wdl f cp (e - cp))) : (f1 = 0 → 2500 < out.length) ∧ (f1 ≠ 0 → wdl p1 0 s1 = out) := by
  by_cases c1 : f0 ≠ 0 ∧ s0 + (wdl f cp (e - cp)).length ≤ 2500
  · refine ⟨fun q => absurd q (a1.1 c1).1, fun _ => ?_⟩
    rw [(a1.1 c1).2, h.2.1 c1.1]
  · refine ⟨fun _ => ?_, fun q => absurd (a1.2 c1) q⟩
    by_cases c0 : f0 = 0
    · exact h.2.2 c0
    · have c3 : ¬ (s0 + (wdl f cp (e - cp)).length ≤ 2500) := fun z => c1 ⟨c0, z⟩
      rw [wdl_len] at c3
      rw [h.2.1 c0, List.length_append, wdl_len, wdl_len]
      omega
/-- letters that are no word's -/
def NXT (f : Nat → Int32) (n p : Nat) (q : Bool) (p1 : Nat) (q1 : Bool) : Prop := p ≤ p1 ∧ p1 ≤ n ∧ ∀ (d : Nat → Dr) (a m : Nat) (o : Wd) (t : Ty), wcR f n d a m p q (o, t) = wcR f n d a m p1 q1 (o ++ wdl f p (p1 - p), t)
theorem NXT_0 {f : Nat → Int32} {n p : Nat} {q : Bool} (h : p ≤ n) : NXT f n p q p q := by
  refine ⟨Nat.le_refl _, h, fun d a m o t => ?_⟩
  rw [Nat.sub_self]
  show _ = wcR f n d a m p q (o ++ [], t)
  rw [List.append_nil]
theorem NXT_s {f : Nat → Int32} {n p p1 : Nat} {q q1 q2 : Bool} (h : NXT f n p q p1 q1) (hp : p1 < n) (hs : ∀ (d : Nat → Dr) (a m : Nat) (o : Wd) (t : Ty), wcR f n d a m p1 q1 (o, t) = wcR f n d a m (p1 + 1) q2 (o ++ [f p1], t)) : NXT f n p q (p1 + 1) q2 := by
  obtain ⟨h1, h2, h3⟩ := h
  refine ⟨by omega, by omega, fun d a m o t => ?_⟩
  rw [h3, hs, List.append_assoc, wdl_cat h1 (k := p1 + 1 - p) rfl]
theorem NXT_q {f : Nat → Int32} {n p p1 : Nat} {q q1 : Bool} (h : NXT f n p q p1 q1) (hp : p1 < n) (h1 : (f p1).toInt = 34) : NXT f n p q (p1 + 1) (!q1) := NXT_s h hp (fun _ _ _ o t => wc_q (st := (o, t)) hp h1)
theorem NXT_c {f : Nat → Int32} {n p p1 : Nat} {q q1 : Bool} (h : NXT f n p q p1 q1) (hp : p1 < n) (h1 : (f p1).toInt ≠ 34) (h2 : q1 = true ∨ ¬ isL (f p1)) : NXT f n p q (p1 + 1) q1 := NXT_s h hp (fun _ _ _ o t => wc_c (st := (o, t)) hp h1 h2)
/-- how often -/
def ocB (f : Nat → Int32) (x : Int32) : Nat → Nat
  | 0 => 0
  | p + 1 => ocB f x p + (if f p = x then 1 else 0)
theorem oc_s {f : Nat → Int32} {x : Int32} {p : Nat} : ocB f x (p + 1) = ocB f x p + (if f p = x then 1 else 0) := rfl
theorem oc_0 {f : Nat → Int32} {x : Int32} : ∀ n, ocB f x n = 0 → ∀ j, j < n → f j ≠ x
  | 0, _, j, hj => absurd hj (Nat.not_lt_zero _)
  | n + 1, h, j, hj => by
    rw [oc_s] at h
    by_cases q : f n = x
    · rw [if_pos q] at h
      omega
    · by_cases e : j = n
      · rw [e]
        exact q
      · exact oc_0 n (by omega) j (by omega)
theorem oc_1 {f : Nat → Int32} {x : Int32} : ∀ n, 0 < ocB f x n → ∃ j, j < n ∧ f j = x
  | 0, h => absurd h (Nat.not_lt_zero _)
  | n + 1, h => by
    rw [oc_s] at h
    by_cases q : f n = x
    · exact ⟨n, Nat.lt_succ_self _, q⟩
    · rw [if_neg q] at h
      obtain ⟨j, a, b⟩ := oc_1 n (by omega)
      exact ⟨j, by omega, b⟩
/-- a capital among them -/
def NMA (g : Int) (f : Nat → Int32) (p q : Nat) : Prop := (g = 0 → ∀ j, p ≤ j → j < q → smC (f j)) ∧ (g ≠ 0 → ∃ j, p ≤ j ∧ j < q ∧ ¬ smC (f j))
theorem NMA_0 {g : Int} {f : Nat → Int32} {p q : Nat} (h : g = 0) (e : q = p) : NMA g f p q := ⟨fun _ j h1 h2 => by omega, fun z => absurd h z⟩
theorem NMA_s {g g1 : Int} {f : Nat → Int32} {p q q1 : Nat} (h : NMA g f p q) (hpq : p ≤ q) (hq : q1 = q + 1) (h1 : g1 = 0 → g = 0 ∧ smC (f q)) (h2 : g1 ≠ 0 → g ≠ 0 ∨ ¬ smC (f q)) : NMA g1 f p q1 := by
  subst hq
  refine ⟨fun z j a b => ?_, fun z => ?_⟩
  · by_cases e : j = q
    · rw [e]
      exact (h1 z).2
    · exact h.1 (h1 z).1 j a (by omega)
  · rcases h2 z with w | w
    · obtain ⟨j, a, b, c⟩ := h.2 w
      exact ⟨j, a, by omega, c⟩
    · exact ⟨q, hpq, by omega, w⟩
theorem NMA_t {g : Int} {f : Nat → Int32} {p e : Nat} (h : NMA g f p e) (hg : g ≠ 0) : nmB (wdl f p (e - p)) = true := by
  obtain ⟨j, a, b, c⟩ := h.2 hg
  have h9 := wdl_mem (f := f) (s := p) (m := e - p) (j := j - p) (by omega)
  rw [show p + (j - p) = j by omega] at h9
  exact nmB_t h9 c
theorem NMA_f {g : Int} {f : Nat → Int32} {p e : Nat} (h : NMA g f p e) (hg : g = 0) : nmB (wdl f p (e - p)) = false := by
  refine nmB_f (fun c hc => ?_)
  unfold wdl at hc
  obtain ⟨j, hj, e9⟩ := List.mem_map.mp hc
  have hj2 := List.mem_range.mp hj
  rw [← e9]
  exact h.1 hg _ (by omega) (by omega)
def NXE (f : Nat → Int32) (n p : Nat) (q : Bool) : Prop := ∃ q9, NXT f n p q n q9
def NXW (f : Nat → Int32) (n p : Nat) (q : Bool) (p1 e : Nat) (nm : Int) : Prop := NXT f n p q p1 false ∧ p1 < n ∧ isL (f p1) ∧ e = lnd f n (p1 + 1) ∧ (nm ≠ 0 → nmB (wdl f p1 (e - p1)) = true) ∧ (nm = 0 → nmB (wdl f p1 (e - p1)) = false)
theorem NXW_b {f : Nat → Int32} {n p : Nat} {q : Bool} {p1 e : Nat} {nm : Int} (h : NXW f n p q p1 e nm) : p ≤ p1 ∧ p1 < e ∧ e ≤ n := by
  obtain ⟨⟨b1, _, _⟩, x2, _, x4, _⟩ := h
  have hb := lnd_b (f := f) (n := n) (p := p1 + 1) (by omega)
  omega
def CIV (f : Nat → Int32) (n : Nat) (d : Nat → Dr) (a m p : Nat) (q : Bool) (pgv : Nat → Int32) (sz cp : Nat) (fi : Int) (cs : Nat → Int32) : Prop := ∃ (o : Wd) (t : Ty), TYA cs t ∧ CWS f pgv sz cp p fi o ∧ wcR f n d a m 0 false ([], tz0) = wcR f n d a m p q (o, t)
theorem CIV_0 {f : Nat → Int32} {n : Nat} {d : Nat → Dr} {a m p : Nat} {q : Bool} {pgv : Nat → Int32} {sz cp : Nat} {fi : Int} {cs : Nat → Int32} (h : TYA cs tz0) (h1 : sz = 0) (h2 : cp = 0) (h3 : p = 0) (h4 : fi ≠ 0) (h5 : q = false) : CIV f n d a m p q pgv sz cp fi cs := ⟨[], tz0, h, CWS_0 h1 h2 h3 h4, by rw [h3, h5]⟩
theorem civ_g {f : Nat → Int32} {n : Nat} {d : Nat → Dr} {a m p p1 e : Nat} {q : Bool} {pgv : Nat → Int32} {sz cp : Nat} {fi nm : Int} {cs : Nat → Int32} (h : CIV f n d a m p q pgv sz cp fi cs) (x : NXW f n p q p1 e nm) : ∃ (o : Wd) (t : Ty), TYA cs t ∧ CWS f pgv sz cp p1 fi o ∧ wcR f n d a m 0 false ([], tz0) = wcR f n d a m e false (wdS d a m (wdl f p1 (e - p1)) (o, t)) := by
  obtain ⟨o, t, h1, h2, h3⟩ := h
  obtain ⟨⟨b1, b2, b3⟩, x2, x3, x4, x5, x6⟩ := x
  refine ⟨o ++ wdl f p (p1 - p), t, h1, ?_, ?_⟩
  · have c1 := CWS_w h2 (p1 - p)
    rw [show p + (p1 - p) = p1 by omega] at c1
    exact c1
  · rw [h3, b3, wc_w x2 x3, ← x4]
theorem CWS_e {f pgv : Nat → Int32} {sz cp e p1 : Nat} {fi : Int} {o : Wd} (h : CWS f pgv sz cp p1 fi o) (he : p1 ≤ e) : CWS f pgv sz cp e fi (o ++ wdl f p1 (e - p1)) := by
  have c1 := CWS_w h (e - p1)
  rw [show p1 + (e - p1) = e by omega] at c1
  exact c1
theorem CIV_n {f : Nat → Int32} {n : Nat} {d : Nat → Dr} {a m p p1 e : Nat} {q : Bool} {pgv : Nat → Int32} {sz cp : Nat} {fi nm : Int} {cs cs1 : Nat → Int32} (h : CIV f n d a m p q pgv sz cp fi cs) (x : NXW f n p q p1 e nm) (hn : nm ≠ 0) (hc : ∀ t, TYA cs t → TYA cs1 (upT t 4 1)) : CIV f n d a m e false pgv sz cp fi cs1 := by
  obtain ⟨o, t, h1, h2, h3⟩ := civ_g h x
  have hb := NXW_b x
  rw [wdS_n (x.2.2.2.2.1 hn)] at h3
  exact ⟨o ++ wdl f p1 (e - p1), upT t 4 1, hc t h1, CWS_e h2 (by omega), h3⟩
theorem CIV_l {f : Nat → Int32} {n : Nat} {d : Nat → Dr} {a m p p1 e : Nat} {q : Bool} {pgv : Nat → Int32} {sz cp : Nat} {fi nm : Int} {cs cs1 : Nat → Int32} (h : CIV f n d a m p q pgv sz cp fi cs) (x : NXW f n p q p1 e nm) (hn : nm = 0) (hl : 24 < e - p1) (hc : ∀ t, TYA cs t → TYA cs1 (upT (upT t 0 1) 3 1)) : CIV f n d a m e false pgv sz cp fi cs1 := by
  obtain ⟨o, t, h1, h2, h3⟩ := civ_g h x
  have hb := NXW_b x
  rw [wdS_0 (x.2.2.2.2.2 hn) (Or.inl (by rw [wdl_len]; exact hl))] at h3
  exact ⟨o ++ wdl f p1 (e - p1), upT (upT t 0 1) 3 1, hc t h1, CWS_e h2 (by omega), h3⟩
theorem CIV_p {f : Nat → Int32} {n : Nat} {d : Nat → Dr} {a m p p1 e : Nat} {q : Bool} {pgv pgv1 : Nat → Int32} {sz cp sz1 cp1 : Nat} {fi fi1 nm : Int} {cs cs1 : Nat → Int32} (h : CIV f n d a m p q pgv sz cp fi cs) (x : NXW f n p q p1 e nm) (hn : nm = 0) (hl : e - p1 ≤ 24) (hc : ∀ o t, CWS f pgv sz cp p1 fi o → TYA cs t → CWS f pgv1 sz1 cp1 e fi1 (wdT (thF d a m [wdl f p1 (e - p1)]) (wdl f p1 (e - p1)) (o, t)).1 ∧ TYA cs1 (wdT (thF d a m [wdl f p1 (e - p1)]) (wdl f p1 (e - p1)) (o, t)).2) : CIV f n d a m e false pgv1 sz1 cp1 fi1 cs1 := by
  obtain ⟨o, t, h1, h2, h3⟩ := civ_g h x
  rw [wdS_T (x.2.2.2.2.2 hn), if_pos (by rw [wdl_len]; exact hl)] at h3
  obtain ⟨c1, c2⟩ := hc o t h2 h1
  exact ⟨_, _, c2, c1, h3⟩
theorem civ_end {f : Nat → Int32} {n : Nat} {d : Nat → Dr} {a m p : Nat} {q : Bool} {pgv : Nat → Int32} {sz cp : Nat} {fi : Int} {cs : Nat → Int32} (h : CIV f n d a m p q pgv sz cp fi cs) (hp : NXE f n p q) : ∃ (o : Wd) (t : Ty), TYA cs t ∧ CWS f pgv sz cp n fi o ∧ wcR f n d a m 0 false ([], tz0) = (o, t) := by
  obtain ⟨o, t, h1, h2, h3⟩ := h
  obtain ⟨q9, b1, b2, b3⟩ := hp
  exact ⟨_, t, h1, CWS_e h2 b1, by rw [h3, b3, wc_end (Nat.le_refl _)]⟩
theorem wdT_c {x : Wd} {xs : List Wd} {W o : Wd} {t : Ty} {cs : Nat → Int32} {a b : Nat} (h : TYA cs (upT (upT (upT t 0 1) 2 a) 1 b)) (ha : a = (if xs = [] then 0 else 1)) (hb : b = (if x = W then 0 else 1)) : TYA cs (wdT (x :: xs) W (o, t)).2 := by
  subst ha
  subst hb
  exact h
