/-! writing: a text, letter by letter -/
abbrev smC (c : Int32) : Prop := 97 ≤ c.toInt ∧ c.toInt ≤ 122
abbrev isL (c : Int32) : Prop := smC c ∨ (65 ≤ c.toInt ∧ c.toInt ≤ 90)
abbrev Ty := Nat × Nat × Nat × Nat × Nat
def nmB (W : Wd) : Bool := W.any (fun c => decide (¬ smC c))
theorem nmB_t {W : Wd} {c : Int32} (h : c ∈ W) (hc : ¬ smC c) : nmB W = true := List.any_eq_true.mpr ⟨c, h, decide_eq_true hc⟩
theorem nmB_f {W : Wd} (h : ∀ c, c ∈ W → smC c) : nmB W = false := by
  cases hc : nmB W with
  | false => rfl
  | true =>
    obtain ⟨x, h1, h2⟩ := List.any_eq_true.mp hc
    exact absurd (h x h1) (of_decide_eq_true h2)
def lE (f : Nat → Int32) (n : Nat) : Nat → Nat → Nat
  | 0, p => p
  | k + 1, p => if p < n ∧ isL (f p) then lE f n k (p + 1) else p
theorem lE_ge {f : Nat → Int32} {n : Nat} : ∀ k p, p ≤ lE f n k p
  | 0, p => Nat.le_refl _
  | k + 1, p => by
    show p ≤ (if p < n ∧ isL (f p) then lE f n k (p + 1) else p)
    split
    · exact Nat.le_trans (Nat.le_succ p) (lE_ge k (p + 1))
    · exact Nat.le_refl _
theorem lE_le {f : Nat → Int32} {n : Nat} : ∀ k p, p ≤ n → lE f n k p ≤ n
  | 0, p, h => h
  | k + 1, p, h => by
    show (if p < n ∧ isL (f p) then lE f n k (p + 1) else p) ≤ n
    split
    · rename_i q
      exact lE_le k (p + 1) q.1
    · exact h
theorem lE_eq {f : Nat → Int32} {n : Nat} : ∀ k j p, n ≤ k + p → n ≤ j + p → lE f n k p = lE f n j p := by
  intro k
  induction k with
  | zero =>
    intro j p h1 h2
    cases j with
    | zero => rfl
    | succ j =>
      show p = (if p < n ∧ isL (f p) then lE f n j (p + 1) else p)
      rw [if_neg (fun q => by have := q.1; omega)]
  | succ k ih =>
    intro j p h1 h2
    cases j with
    | zero =>
      show (if p < n ∧ isL (f p) then lE f n k (p + 1) else p) = p
      rw [if_neg (fun q => by have := q.1; omega)]
    | succ j =>
      show (if p < n ∧ isL (f p) then lE f n k (p + 1) else p) = (if p < n ∧ isL (f p) then lE f n j (p + 1) else p)
      rw [ih j (p + 1) (by omega) (by omega)]
def lnd (f : Nat → Int32) (n p : Nat) : Nat := lE f n (n - p) p
theorem lnd_s {f : Nat → Int32} {n p : Nat} (h : p < n) (hl : isL (f p)) : lnd f n p = lnd f n (p + 1) := by
  unfold lnd
  obtain ⟨k, hk⟩ : ∃ k, n - p = k + 1 := ⟨n - p - 1, by omega⟩
  rw [hk]
  show (if p < n ∧ isL (f p) then lE f n k (p + 1) else p) = _
  rw [if_pos ⟨h, hl⟩, lE_eq k (n - (p + 1)) (p + 1) (by omega) (by omega)]
theorem lnd_e {f : Nat → Int32} {n p : Nat} (h : ¬ (p < n ∧ isL (f p))) : lnd f n p = p := by
  unfold lnd
  cases hk : n - p with
  | zero => rfl
  | succ k =>
    show (if p < n ∧ isL (f p) then lE f n k (p + 1) else p) = p
    rw [if_neg h]
theorem lnd_b {f : Nat → Int32} {n p : Nat} (h : p ≤ n) : p ≤ lnd f n p ∧ lnd f n p ≤ n := ⟨lE_ge _ _, lE_le _ _ h⟩
/-- a word -/
def wdT (T : List Wd) (W : Wd) (st : Wd × Ty) : Wd × Ty := match T with
  | [] => (st.1 ++ W, (st.2.1 + 1, st.2.2.1, st.2.2.2.1, st.2.2.2.2.1 + 1, st.2.2.2.2.2))
  | x :: xs => (st.1 ++ x, (st.2.1 + 1, st.2.2.1 + (if x = W then 0 else 1), st.2.2.2.1 + (if xs = [] then 0 else 1), st.2.2.2.2.1, st.2.2.2.2.2))
def wdS (d : Nat → Dr) (a m : Nat) (W : Wd) (st : Wd × Ty) : Wd × Ty :=
  if nmB W = true then (st.1 ++ W, (st.2.1, st.2.2.1, st.2.2.2.1, st.2.2.2.2.1, st.2.2.2.2.2 + 1))
  else wdT (if W.length ≤ 24 then thF d a m [W] else []) W st
def wcF (f : Nat → Int32) (n : Nat) (d : Nat → Dr) (a m : Nat) : Nat → Nat → Bool → Wd × Ty → Wd × Ty
  | 0, _, _, st => st
  | k + 1, p, q, st => if n ≤ p then st else if (f p).toInt = 34 then wcF f n d a m k (p + 1) (!q) (st.1 ++ [f p], st.2) else if q = false ∧ isL (f p) then wcF f n d a m k (lnd f n (p + 1)) false (wdS d a m (wdl f p (lnd f n (p + 1) - p)) st) else wcF f n d a m k (p + 1) q (st.1 ++ [f p], st.2)
theorem wcF_eq {f : Nat → Int32} {n : Nat} {d : Nat → Dr} {a m : Nat} : ∀ (k j p : Nat) (q : Bool) (st : Wd × Ty), n ≤ k + p → n ≤ j + p → wcF f n d a m k p q st = wcF f n d a m j p q st := by
  intro k
  induction k with
  | zero =>
    intro j p q st h1 h2
    cases j with
    | zero => rfl
    | succ j =>
      show st = (if n ≤ p then st else _)
      rw [if_pos (by omega)]
  | succ k ih =>
    intro j p q st h1 h2
    cases j with
    | zero =>
      show (if n ≤ p then st else _) = st
      rw [if_pos (by omega)]
    | succ j =>
      by_cases hp : n ≤ p
      · show (if n ≤ p then st else _) = (if n ≤ p then st else _)
        rw [if_pos hp, if_pos hp]
      · have hb := lnd_b (f := f) (n := n) (p := p + 1) (by omega)
        show (if n ≤ p then st else if (f p).toInt = 34 then wcF f n d a m k (p + 1) (!q) (st.1 ++ [f p], st.2) else if q = false ∧ isL (f p) then wcF f n d a m k (lnd f n (p + 1)) false (wdS d a m (wdl f p (lnd f n (p + 1) - p)) st) else wcF f n d a m k (p + 1) q (st.1 ++ [f p], st.2)) = (if n ≤ p then st else if (f p).toInt = 34 then wcF f n d a m j (p + 1) (!q) (st.1 ++ [f p], st.2) else if q = false ∧ isL (f p) then wcF f n d a m j (lnd f n (p + 1)) false (wdS d a m (wdl f p (lnd f n (p + 1) - p)) st) else wcF f n d a m j (p + 1) q (st.1 ++ [f p], st.2))
        rw [ih j (p + 1) (!q) _ (by omega) (by omega), ih j (lnd f n (p + 1)) false _ (by omega) (by omega), ih j (p + 1) q _ (by omega) (by omega)]
def wcR (f : Nat → Int32) (n : Nat) (d : Nat → Dr) (a m p : Nat) (q : Bool) (st : Wd × Ty) : Wd × Ty := wcF f n d a m (n - p) p q st
theorem wc_un {f : Nat → Int32} {n : Nat} {d : Nat → Dr} {a m p : Nat} {q : Bool} {st : Wd × Ty} (h : p < n) : wcR f n d a m p q st = (if (f p).toInt = 34 then wcR f n d a m (p + 1) (!q) (st.1 ++ [f p], st.2) else if q = false ∧ isL (f p) then wcR f n d a m (lnd f n (p + 1)) false (wdS d a m (wdl f p (lnd f n (p + 1) - p)) st) else wcR f n d a m (p + 1) q (st.1 ++ [f p], st.2)) := by
  have hb := lnd_b (f := f) (n := n) (p := p + 1) (by omega)
  unfold wcR
  obtain ⟨k, hk⟩ : ∃ k, n - p = k + 1 := ⟨n - p - 1, by omega⟩
  rw [hk]
  show (if n ≤ p then st else if (f p).toInt = 34 then wcF f n d a m k (p + 1) (!q) (st.1 ++ [f p], st.2) else if q = false ∧ isL (f p) then wcF f n d a m k (lnd f n (p + 1)) false (wdS d a m (wdl f p (lnd f n (p + 1) - p)) st) else wcF f n d a m k (p + 1) q (st.1 ++ [f p], st.2)) = _
  rw [if_neg (by omega), wcF_eq k (n - (p + 1)) (p + 1) (!q) _ (by omega) (by omega), wcF_eq k (n - lnd f n (p + 1)) (lnd f n (p + 1)) false _ (by omega) (by omega), wcF_eq k (n - (p + 1)) (p + 1) q _ (by omega) (by omega)]
theorem wc_q {f : Nat → Int32} {n : Nat} {d : Nat → Dr} {a m p : Nat} {q : Bool} {st : Wd × Ty} (h : p < n) (h1 : (f p).toInt = 34) : wcR f n d a m p q st = wcR f n d a m (p + 1) (!q) (st.1 ++ [f p], st.2) := by
  rw [wc_un h, if_pos h1]
theorem wc_c {f : Nat → Int32} {n : Nat} {d : Nat → Dr} {a m p : Nat} {q : Bool} {st : Wd × Ty} (h : p < n) (h1 : (f p).toInt ≠ 34) (h2 : q = true ∨ ¬ isL (f p)) : wcR f n d a m p q st = wcR f n d a m (p + 1) q (st.1 ++ [f p], st.2) := by
  rw [wc_un h, if_neg h1, if_neg (fun z => by rcases h2 with h2 | h2; (rw [h2] at z; cases z.1); (exact h2 z.2))]
/-- between quotes -/
def qE (f : Nat → Int32) (n : Nat) : Nat → Nat → Nat
  | 0, _ => n
  | k + 1, p => if p < n then (if (f p).toInt = 34 then p + 1 else qE f n k (p + 1)) else n
/-- what stands as it is -/
theorem wdl_cat {f : Nat → Int32} {p e : Nat} (h : p ≤ e) {k : Nat} (hk : k = e + 1 - p) : wdl f p (e - p) ++ [f e] = wdl f p k := by
  subst hk
  rw [show e + 1 - p = (e - p) + 1 by omega, wdl_s1, show p + (e - p) = e by omega]
/-- quotes -/
def qN (f : Nat → Int32) (n p : Nat) : Nat := qE f n (n - p) p
theorem qN_e {f : Nat → Int32} {n p : Nat} (h : n ≤ p) : qN f n p = n := by
  unfold qN
  rw [show n - p = 0 by omega]
  rfl
theorem qN_un {f : Nat → Int32} {n p : Nat} (h : p < n) : qN f n p = (if (f p).toInt = 34 then p + 1 else qN f n (p + 1)) := by
  unfold qN
  rw [show n - p = (n - (p + 1)) + 1 by omega]
  show (if p < n then (if (f p).toInt = 34 then p + 1 else qE f n (n - (p + 1)) (p + 1)) else n) = _
  rw [if_pos h]
theorem qN_q {f : Nat → Int32} {n p : Nat} (h : p < n) (h1 : (f p).toInt = 34) : qN f n p = p + 1 := by rw [qN_un h, if_pos h1]
theorem qN_s {f : Nat → Int32} {n p : Nat} (h : p < n) (h1 : (f p).toInt ≠ 34) : qN f n p = qN f n (p + 1) := by rw [qN_un h, if_neg h1]
/-- no byte is nought -/
def NZR (f : Nat → Int32) (n : Nat) : Prop := ∀ j, j < n → (f j).toInt ≠ 0
/-- letters that are no word's -/
def NXT (f : Nat → Int32) (n p : Nat) (q : Bool) (p1 : Nat) (q1 : Bool) : Prop := p ≤ p1 ∧ p1 ≤ n ∧ ∀ (d : Nat → Dr) (a m : Nat) (o : Wd) (t : Ty), wcR f n d a m p q (o, t) = wcR f n d a m p1 q1 (o ++ wdl f p (p1 - p), t)
theorem NXT_0 {f : Nat → Int32} {n p : Nat} {q : Bool} (h : p ≤ n) : NXT f n p q p q := by
  refine ⟨Nat.le_refl _, h, fun d a m o t => ?_⟩
  rw [Nat.sub_self]
  show _ = wcR f n d a m p q (o ++ [], t)
  rw [List.append_nil]
theorem NXT_s {f : Nat → Int32} {n p p1 : Nat} {q q1 q2 : Bool} (h : NXT f n p q p1 q1) (hp : p1 < n) (hs : ∀ (d : Nat → Dr) (a m : Nat) (o : Wd) (t : Ty), wcR f n d a m p1 q1 (o, t) = wcR f n d a m (p1 + 1) q2 (o ++ [f p1], t)) : NXT f n p q (p1 + 1) q2 := by
  obtain ⟨h1, h2, h3⟩ := h
  refine ⟨by omega, by omega, fun d a m o t => ?_⟩
  rw [h3, hs, List.append_assoc, wdl_cat h1 (k := p1 + 1 - p) rfl]
theorem NXT_q {f : Nat → Int32} {n p p1 : Nat} {q q1 : Bool} (h : NXT f n p q p1 q1) (hp : p1 < n) (h1 : (f p1).toInt = 34) : NXT f n p q (p1 + 1) (!q1) := NXT_s h hp (fun _ _ _ o t => wc_q (st := (o, t)) hp h1)
theorem NXT_c {f : Nat → Int32} {n p p1 : Nat} {q q1 : Bool} (h : NXT f n p q p1 q1) (hp : p1 < n) (h1 : (f p1).toInt ≠ 34) (h2 : q1 = true ∨ ¬ isL (f p1)) : NXT f n p q (p1 + 1) q1 := NXT_s h hp (fun _ _ _ o t => wc_c (st := (o, t)) hp h1 h2)
/-- how often -/
def ocB (f : Nat → Int32) (x : Int32) : Nat → Nat
  | 0 => 0
  | p + 1 => ocB f x p + (if f p = x then 1 else 0)
theorem oc_s {f : Nat → Int32} {x : Int32} {p : Nat} : ocB f x (p + 1) = ocB f x p + (if f p = x then 1 else 0) := rfl
theorem oc_0 {f : Nat → Int32} {x : Int32} : ∀ n, ocB f x n = 0 → ∀ j, j < n → f j ≠ x
  | 0, _, j, hj => absurd hj (Nat.not_lt_zero _)
  | n + 1, h, j, hj => by
    rw [oc_s] at h
    by_cases q : f n = x
    · rw [if_pos q] at h
      omega
    · by_cases e : j = n
      · rw [e]
        exact q
      · exact oc_0 n (by omega) j (by omega)
theorem oc_1 {f : Nat → Int32} {x : Int32} : ∀ n, 0 < ocB f x n → ∃ j, j < n ∧ f j = x
  | 0, h => absurd h (Nat.not_lt_zero _)
  | n + 1, h => by
    rw [oc_s] at h
    by_cases q : f n = x
    · exact ⟨n, Nat.lt_succ_self _, q⟩
    · rw [if_neg q] at h
      obtain ⟨j, a, b⟩ := oc_1 n (by omega)
      exact ⟨j, by omega, b⟩
/-- a capital among them -/
def NMA (g : Int) (f : Nat → Int32) (p q : Nat) : Prop := (g = 0 → ∀ j, p ≤ j → j < q → smC (f j)) ∧ (g ≠ 0 → ∃ j, p ≤ j ∧ j < q ∧ ¬ smC (f j))
theorem NMA_0 {g : Int} {f : Nat → Int32} {p q : Nat} (h : g = 0) (e : q = p) : NMA g f p q := ⟨fun _ j h1 h2 => by omega, fun z => absurd h z⟩
theorem NMA_s {g g1 : Int} {f : Nat → Int32} {p q q1 : Nat} (h : NMA g f p q) (hpq : p ≤ q) (hq : q1 = q + 1) (h1 : g1 = 0 → g = 0 ∧ smC (f q)) (h2 : g1 ≠ 0 → g ≠ 0 ∨ ¬ smC (f q)) : NMA g1 f p q1 := by
  subst hq
  refine ⟨fun z j a b => ?_, fun z => ?_⟩
  · by_cases e : j = q
    · rw [e]
      exact (h1 z).2
    · exact h.1 (h1 z).1 j a (by omega)
  · rcases h2 z with w | w
    · obtain ⟨j, a, b, c⟩ := h.2 w
      exact ⟨j, a, by omega, c⟩
    · exact ⟨q, hpq, by omega, w⟩
theorem NMA_t {g : Int} {f : Nat → Int32} {p e : Nat} (h : NMA g f p e) (hg : g ≠ 0) : nmB (wdl f p (e - p)) = true := by
  obtain ⟨j, a, b, c⟩ := h.2 hg
  have h9 := wdl_mem (f := f) (s := p) (m := e - p) (j := j - p) (by omega)
  rw [show p + (j - p) = j by omega] at h9
  exact nmB_t h9 c
theorem NMA_f {g : Int} {f : Nat → Int32} {p e : Nat} (h : NMA g f p e) (hg : g = 0) : nmB (wdl f p (e - p)) = false := by
  refine nmB_f (fun c hc => ?_)
  unfold wdl at hc
  obtain ⟨j, hj, e9⟩ := List.mem_map.mp hc
  have hj2 := List.mem_range.mp hj
  rw [← e9]
  exact h.1 hg _ (by omega) (by omega)
def NXE (f : Nat → Int32) (n p : Nat) (q : Bool) : Prop := ∃ q9, NXT f n p q n q9
def NXW (f : Nat → Int32) (n p : Nat) (q : Bool) (p1 e : Nat) (nm : Int) : Prop := NXT f n p q p1 false ∧ p1 < n ∧ isL (f p1) ∧ e = lnd f n (p1 + 1) ∧ (nm ≠ 0 → nmB (wdl f p1 (e - p1)) = true) ∧ (nm = 0 → nmB (wdl f p1 (e - p1)) = false)
theorem NXW_b {f : Nat → Int32} {n p : Nat} {q : Bool} {p1 e : Nat} {nm : Int} (h : NXW f n p q p1 e nm) : p ≤ p1 ∧ p1 < e ∧ e ≤ n := by
  obtain ⟨⟨b1, _, _⟩, x2, _, x4, _⟩ := h
  have hb := lnd_b (f := f) (n := n) (p := p1 + 1) (by omega)
  omega