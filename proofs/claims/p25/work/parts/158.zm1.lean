/-! mixed texts: words with their lines, what they cost -/
def n10 (f : Nat → Int32) : Nat → Nat
  | 0 => 0
  | p + 1 => n10 f p + (if (f p).toInt = 10 then 1 else 0)
theorem n10_s {f : Nat → Int32} {p : Nat} : n10 f (p + 1) = n10 f p + (if (f p).toInt = 10 then 1 else 0) := rfl
theorem n10_le {f : Nat → Int32} : ∀ (k p : Nat), n10 f p ≤ n10 f (p + k)
  | 0, p => Nat.le_refl _
  | k + 1, p => by
    have h := n10_le (f := f) k p
    rw [← Nat.add_assoc, n10_s]
    omega
theorem n10_mono {f : Nat → Int32} {p q : Nat} (h : p ≤ q) : n10 f p ≤ n10 f q := by
  have h9 := n10_le (f := f) (q - p) p
  rw [show p + (q - p) = q by omega] at h9
  exact h9
/-- letters hold no line's end -/
theorem n10_lE {f : Nat → Int32} {n : Nat} : ∀ (k p : Nat), n10 f (lE f n k p) = n10 f p
  | 0, p => rfl
  | k + 1, p => by
    show n10 f (if p < n ∧ isL (f p) then lE f n k (p + 1) else p) = n10 f p
    by_cases q : p < n ∧ isL (f p)
    · rw [if_pos q, n10_lE k (p + 1), n10_s, if_neg (by have h := q.2; unfold isL smC at h; omega)]
      rfl
    · rw [if_neg q]
theorem n10_lnd {f : Nat → Int32} {n p : Nat} (h : isL (f p)) : n10 f (lnd f n (p + 1)) = n10 f p := by
  unfold lnd
  rw [n10_lE, n10_s, if_neg (by unfold isL smC at h; omega)]
  rfl
abbrev LnW := List (Nat × Wd)
def mxF (f : Nat → Int32) (n : Nat) : Nat → Nat → Bool → LnW → LnW
  | 0, _, _, acc => acc
  | k + 1, p, q, acc => if n ≤ p then acc else if (f p).toInt = 34 then mxF f n k (p + 1) (!q) acc else if q = false ∧ isL (f p) then mxF f n k (lnd f n (p + 1)) false (acc ++ [(n10 f p, wdl f p (lnd f n (p + 1) - p))]) else mxF f n k (p + 1) q acc
theorem mxF_eq {f : Nat → Int32} {n : Nat} : ∀ (k j p : Nat) (q : Bool) (acc : LnW), n ≤ k + p → n ≤ j + p → mxF f n k p q acc = mxF f n j p q acc := by
  intro k
  induction k with
  | zero =>
    intro j p q acc h1 h2
    cases j with
    | zero => rfl
    | succ j =>
      show acc = (if n ≤ p then acc else _)
      rw [if_pos (by omega)]
  | succ k ih =>
    intro j p q acc h1 h2
    cases j with
    | zero =>
      show (if n ≤ p then acc else _) = acc
      rw [if_pos (by omega)]
    | succ j =>
      by_cases hp : n ≤ p
      · show (if n ≤ p then acc else _) = (if n ≤ p then acc else _)
        rw [if_pos hp, if_pos hp]
      · have hb := lnd_b (f := f) (n := n) (p := p + 1) (by omega)
        show (if n ≤ p then acc else if (f p).toInt = 34 then mxF f n k (p + 1) (!q) acc else if q = false ∧ isL (f p) then mxF f n k (lnd f n (p + 1)) false (acc ++ [(n10 f p, wdl f p (lnd f n (p + 1) - p))]) else mxF f n k (p + 1) q acc) = (if n ≤ p then acc else if (f p).toInt = 34 then mxF f n j (p + 1) (!q) acc else if q = false ∧ isL (f p) then mxF f n j (lnd f n (p + 1)) false (acc ++ [(n10 f p, wdl f p (lnd f n (p + 1) - p))]) else mxF f n j (p + 1) q acc)
        rw [ih j (p + 1) (!q) _ (by omega) (by omega), ih j (lnd f n (p + 1)) false _ (by omega) (by omega), ih j (p + 1) q _ (by omega) (by omega)]
def mxR (f : Nat → Int32) (n p : Nat) (q : Bool) (acc : LnW) : LnW := mxF f n (n - p) p q acc
theorem mx_end {f : Nat → Int32} {n p : Nat} {q : Bool} {acc : LnW} (h : n ≤ p) : mxR f n p q acc = acc := by
  unfold mxR
  rw [show n - p = 0 by omega]
  rfl
theorem mx_un {f : Nat → Int32} {n p : Nat} {q : Bool} {acc : LnW} (h : p < n) : mxR f n p q acc = (if (f p).toInt = 34 then mxR f n (p + 1) (!q) acc else if q = false ∧ isL (f p) then mxR f n (lnd f n (p + 1)) false (acc ++ [(n10 f p, wdl f p (lnd f n (p + 1) - p))]) else mxR f n (p + 1) q acc) := by
  have hb := lnd_b (f := f) (n := n) (p := p + 1) (by omega)
  unfold mxR
  obtain ⟨k, hk⟩ : ∃ k, n - p = k + 1 := ⟨n - p - 1, by omega⟩
  rw [hk]
  show (if n ≤ p then acc else if (f p).toInt = 34 then mxF f n k (p + 1) (!q) acc else if q = false ∧ isL (f p) then mxF f n k (lnd f n (p + 1)) false (acc ++ [(n10 f p, wdl f p (lnd f n (p + 1) - p))]) else mxF f n k (p + 1) q acc) = _
  rw [if_neg (by omega), mxF_eq k (n - (p + 1)) (p + 1) (!q) _ (by omega) (by omega), mxF_eq k (n - lnd f n (p + 1)) (lnd f n (p + 1)) false _ (by omega) (by omega), mxF_eq k (n - (p + 1)) (p + 1) q _ (by omega) (by omega)]
theorem mx_q {f : Nat → Int32} {n p : Nat} {q : Bool} {acc : LnW} (h : p < n) (h1 : (f p).toInt = 34) : mxR f n p q acc = mxR f n (p + 1) (!q) acc := by
  rw [mx_un h, if_pos h1]
theorem mx_w {f : Nat → Int32} {n p : Nat} {acc : LnW} (h : p < n) (h2 : isL (f p)) : mxR f n p false acc = mxR f n (lnd f n (p + 1)) false (acc ++ [(n10 f p, wdl f p (lnd f n (p + 1) - p))]) := by
  rw [mx_un h, if_neg (by unfold isL smC at h2; omega), if_pos ⟨rfl, h2⟩]
theorem mx_c {f : Nat → Int32} {n p : Nat} {q : Bool} {acc : LnW} (h : p < n) (h1 : (f p).toInt ≠ 34) (h2 : q = true ∨ ¬ isL (f p)) : mxR f n p q acc = mxR f n (p + 1) q acc := by
  rw [mx_un h, if_neg h1, if_neg (fun z => by rcases h2 with h2 | h2; (rw [h2] at z; cases z.1); (exact h2 z.2))]
theorem mx_in {f : Nat → Int32} {n : Nat} : ∀ (k p : Nat) (acc : LnW), n ≤ k + p → p ≤ n → (p ≤ qE f n k p ∧ qE f n k p ≤ n) ∧ mxR f n p true acc = mxR f n (qE f n k p) false acc := by
  intro k
  induction k with
  | zero =>
    intro p acc h1 h2
    have e : p = n := by omega
    subst e
    refine ⟨⟨Nat.le_refl _, Nat.le_refl _⟩, ?_⟩
    rw [mx_end (Nat.le_refl _), mx_end (show p ≤ qE f p 0 p from Nat.le_refl _)]
  | succ k ih =>
    intro p acc h1 h2
    by_cases hp : p < n
    · by_cases h34 : (f p).toInt = 34
      · have e : qE f n (k + 1) p = p + 1 := by
          show (if p < n then (if (f p).toInt = 34 then p + 1 else qE f n k (p + 1)) else n) = p + 1
          rw [if_pos hp, if_pos h34]
        rw [e]
        refine ⟨⟨by omega, by omega⟩, ?_⟩
        rw [mx_q hp h34]
        rfl
      · have e : qE f n (k + 1) p = qE f n k (p + 1) := by
          show (if p < n then (if (f p).toInt = 34 then p + 1 else qE f n k (p + 1)) else n) = _
          rw [if_pos hp, if_neg h34]
        obtain ⟨⟨i1, i2⟩, i3⟩ := ih (p + 1) acc (by omega) (by omega)
        rw [e]
        refine ⟨⟨by omega, i2⟩, ?_⟩
        rw [mx_c hp h34 (Or.inl rfl), i3]
    · have e : qE f n (k + 1) p = n := by
        show (if p < n then _ else n) = n
        rw [if_neg hp]
      have e2 : p = n := by omega
      rw [e]
      refine ⟨⟨by omega, Nat.le_refl _⟩, ?_⟩
      subst e2
      rw [mx_end (Nat.le_refl _), mx_end (Nat.le_refl _)]
theorem mx_qn {f : Nat → Int32} {n p : Nat} {acc : LnW} (hp : p < n) (h1 : (f p).toInt = 34) : mxR f n p false acc = mxR f n (qN f n (p + 1)) false acc := by
  have hin := mx_in (f := f) (n := n) (n - (p + 1)) (p + 1) acc (by omega) (by omega)
  rw [mx_q hp h1]
  exact hin.2
/-- what is known at a stage -/
def knT (T : Nat → List Wd) (N : Nat) (W : Wd) : Bool := (List.range N).any (fun w => decide (W ∈ T w))
theorem knT_t {T : Nat → List Wd} {N w : Nat} {W : Wd} (hw : w < N) (h : W ∈ T w) : knT T N W = true := List.any_eq_true.mpr ⟨w, List.mem_range.mpr hw, decide_eq_true h⟩
theorem knT_f {T : Nat → List Wd} {N : Nat} {W : Wd} (h : ∀ w, w < N → W ∉ T w) : knT T N W = false := by
  cases hc : knT T N W with
  | false => rfl
  | true =>
    obtain ⟨w, h1, h2⟩ := List.any_eq_true.mp hc
    exact absurd (of_decide_eq_true h2) (h w (List.mem_range.mp h1))
def knB (d : Nat → Dr) (Ws : List Wd) (s : Nat) (W : Wd) : Bool := knT (FMT d Ws s) Ws.length W
theorem knB_t {d : Nat → Dr} {Ws : List Wd} {s w : Nat} {W : Wd} (hw : w < Ws.length) (h : W ∈ FMT d Ws s w) : knB d Ws s W = true := knT_t hw h
theorem knB_f {d : Nat → Dr} {Ws : List Wd} {s : Nat} {W : Wd} (h : ∀ w, w < Ws.length → W ∉ FMT d Ws s w) : knB d Ws s W = false := knT_f h
def chB (d : Nat → Dr) (Ws : List Wd) (s : Nat) (W : Wd) : Nat := if nmB W = false ∧ knB d Ws s W = false then 1 else 0
theorem chB_1 {d : Nat → Dr} {Ws : List Wd} {s : Nat} {W : Wd} (h1 : nmB W = false) (h2 : knB d Ws s W = false) : chB d Ws s W = 1 := if_pos ⟨h1, h2⟩
theorem chB_n {d : Nat → Dr} {Ws : List Wd} {s : Nat} {W : Wd} (h1 : nmB W = true) : chB d Ws s W = 0 := if_neg (fun z => by rw [h1] at z; cases z.1)
theorem chB_k {d : Nat → Dr} {Ws : List Wd} {s : Nat} {W : Wd} (h1 : knB d Ws s W = true) : chB d Ws s W = 0 := if_neg (fun z => by rw [h1] at z; cases z.2)
def csF (d : Nat → Dr) (Ws : List Wd) : LnW → Nat → Nat → Nat
  | [], _, _ => 0
  | e :: es, l, s => (if e.1 = l then chB d Ws s e.2 else 0) + csF d Ws es l s
theorem cs_add {d : Nat → Dr} {Ws : List Wd} {l0 : Nat} {W : Wd} {l s : Nat} : ∀ (es : LnW), csF d Ws (es ++ [(l0, W)]) l s = csF d Ws es l s + (if l0 = l then chB d Ws s W else 0)
  | [] => by
    show (if l0 = l then chB d Ws s W else 0) + 0 = 0 + _
    omega
  | e :: es => by
    show (if e.1 = l then chB d Ws s e.2 else 0) + csF d Ws (es ++ [(l0, W)]) l s = (if e.1 = l then chB d Ws s e.2 else 0) + csF d Ws es l s + _
    rw [cs_add es]
    omega
/-- the costs' table -/
def CTB (v : Nat → Int32) (d : Nat → Dr) (Ws : List Wd) (m : Nat) (es : LnW) : Prop := ∀ l s, l < 40 → s ≤ m → v (7 * l + s) = Int32.ofNat (csF d Ws es l s)
theorem CTB_0 {v : Nat → Int32} {d : Nat → Dr} {Ws : List Wd} {m : Nat} (h : ∀ j, j < 280 → v j = 0) (hm : m ≤ 6) : CTB v d Ws m [] := fun l s hl hs => h _ (by omega)
/-- some of a word's stages are charged -/
def CTP (v : Nat → Int32) (d : Nat → Dr) (Ws : List Wd) (m : Nat) (es : LnW) (l0 : Nat) (W : Wd) (k : Nat) : Prop := ∀ l s, l < 40 → s ≤ m → v (7 * l + s) = Int32.ofNat (csF d Ws es l s + (if l0 = l ∧ s < k then chB d Ws s W else 0))
theorem CTP_0 {v : Nat → Int32} {d : Nat → Dr} {Ws : List Wd} {m : Nat} {es : LnW} {l0 : Nat} {W : Wd} (h : CTB v d Ws m es) : CTP v d Ws m es l0 W 0 := fun l s hl hs => by
  rw [if_neg (fun z => Nat.not_lt_zero _ z.2)]
  exact h l s hl hs
theorem CTP_s {v v1 : Nat → Int32} {d : Nat → Dr} {Ws : List Wd} {m : Nat} {es : LnW} {l0 : Nat} {W : Wd} {k : Nat} {x : Int32} (h : CTP v d Ws m es l0 W k) (hm : m ≤ 6) (hk : k ≤ m) (hl0 : l0 < 40) (hx : x = Int32.ofNat (chB d Ws k W)) (e : ∀ j, v1 j = (if j = 7 * l0 + k then v j + x else v j)) : CTP v1 d Ws m es l0 W (k + 1) := by
  intro l s hl hs
  rw [e]
  by_cases q : 7 * l + s = 7 * l0 + k
  · have e1 : l = l0 := by omega
    have e2 : s = k := by omega
    rw [if_pos q, h l s hl hs, e1, e2, if_neg (fun z => Nat.lt_irrefl _ z.2), if_pos ⟨rfl, Nat.lt_succ_self _⟩, hx, Nat.add_zero]
    exact (Int32.ofNat_add _ _).symm
  · rw [if_neg q, h l s hl hs]
    by_cases q2 : l0 = l ∧ s < k
    · rw [if_pos q2, if_pos ⟨q2.1, by omega⟩]
    · rw [if_neg q2, if_neg (fun z => q2 ⟨z.1, by have z1 := z.1; have z2 := z.2; omega⟩)]
theorem CTP_end {v : Nat → Int32} {d : Nat → Dr} {Ws : List Wd} {m : Nat} {es : LnW} {l0 : Nat} {W : Wd} {k : Nat} (h : CTP v d Ws m es l0 W k) (hk : m < k) : CTB v d Ws m (es ++ [(l0, W)]) := fun l s hl hs => by
  rw [h l s hl hs, cs_add]
  by_cases q : l0 = l
  · rw [if_pos ⟨q, by omega⟩, if_pos q]
  · rw [if_neg (fun z => q z.1), if_neg q]
theorem CTB_n {v : Nat → Int32} {d : Nat → Dr} {Ws : List Wd} {m : Nat} {es : LnW} {l0 : Nat} {W : Wd} (h : CTB v d Ws m es) (hn : nmB W = true) : CTB v d Ws m (es ++ [(l0, W)]) := fun l s hl hs => by
  rw [h l s hl hs, cs_add, chB_n hn]
  by_cases q : l0 = l
  · rw [if_pos q]
    rfl
  · rw [if_neg q]
    rfl
/-! the least sums -/
def mnF (f : Nat → Int32) : Nat → Int32
  | 0 => f 0
  | k + 1 => if (f (k + 1)).toInt < (mnF f k).toInt then f (k + 1) else mnF f k
def fsF (f : Nat → Int32) : Nat → Nat
  | 0 => 0
  | k + 1 => if (f (k + 1)).toInt < (mnF f k).toInt then k + 1 else fsF f k
theorem fs_le {f : Nat → Int32} : ∀ k, fsF f k ≤ k
  | 0 => Nat.le_refl _
  | k + 1 => by
    show (if (f (k + 1)).toInt < (mnF f k).toInt then k + 1 else fsF f k) ≤ k + 1
    have h := fs_le (f := f) k
    split
    · exact Nat.le_refl _
    · omega
theorem fs_at {f : Nat → Int32} : ∀ k, f (fsF f k) = mnF f k
  | 0 => rfl
  | k + 1 => by
    show f (if (f (k + 1)).toInt < (mnF f k).toInt then k + 1 else fsF f k) = (if (f (k + 1)).toInt < (mnF f k).toInt then f (k + 1) else mnF f k)
    by_cases q : (f (k + 1)).toInt < (mnF f k).toInt
    · rw [if_pos q, if_pos q]
    · rw [if_neg q, if_neg q]
      exact fs_at k
theorem mn_le {f : Nat → Int32} : ∀ k i, i ≤ k → (mnF f k).toInt ≤ (f i).toInt
  | 0, i, h => by
    rw [show i = 0 by omega]
    exact Int.le_refl _
  | k + 1, i, h => by
    show (if (f (k + 1)).toInt < (mnF f k).toInt then f (k + 1) else mnF f k).toInt ≤ (f i).toInt
    by_cases q : (f (k + 1)).toInt < (mnF f k).toInt
    · rw [if_pos q]
      by_cases e : i = k + 1
      · rw [e]
        exact Int.le_refl _
      · have h9 := mn_le (f := f) k i (by omega)
        omega
    · rw [if_neg q]
      by_cases e : i = k + 1
      · rw [e]
        omega
      · exact mn_le k i (by omega)
theorem fs_first {f : Nat → Int32} : ∀ k i, i < fsF f k → f i ≠ mnF f k
  | 0, i, h => absurd h (Nat.not_lt_zero _)
  | k + 1, i, h => by
    have h : i < (if (f (k + 1)).toInt < (mnF f k).toInt then k + 1 else fsF f k) := h
    show f i ≠ (if (f (k + 1)).toInt < (mnF f k).toInt then f (k + 1) else mnF f k)
    by_cases q : (f (k + 1)).toInt < (mnF f k).toInt
    · rw [if_pos q] at h ⊢
      intro z
      have h9 := mn_le (f := f) k i (by omega)
      rw [z] at h9
      omega
    · rw [if_neg q] at h ⊢
      exact fs_first k i h
theorem fs_uniq {f : Nat → Int32} {k i : Nat} (h1 : f i = mnF f k) (h2 : ∀ j, j < i → f j ≠ mnF f k) : i = fsF f k := by
  by_cases q : i < fsF f k
  · exact absurd h1 (fs_first k i q)
  · by_cases q2 : fsF f k < i
    · exact absurd (fs_at k) (h2 _ q2)
    · omega
theorem mn_ext {f g : Nat → Int32} : ∀ k, (∀ i, i ≤ k → f i = g i) → mnF f k = mnF g k
  | 0, h => h 0 (Nat.le_refl _)
  | k + 1, h => by
    show (if (f (k + 1)).toInt < (mnF f k).toInt then f (k + 1) else mnF f k) = (if (g (k + 1)).toInt < (mnF g k).toInt then g (k + 1) else mnF g k)
    rw [h (k + 1) (Nat.le_refl _), mn_ext k (fun i hi => h i (by omega))]
theorem fs_ext {f g : Nat → Int32} : ∀ k, (∀ i, i ≤ k → f i = g i) → fsF f k = fsF g k
  | 0, _ => rfl
  | k + 1, h => by
    show (if (f (k + 1)).toInt < (mnF f k).toInt then k + 1 else fsF f k) = (if (g (k + 1)).toInt < (mnF g k).toInt then k + 1 else fsF g k)
    rw [h (k + 1) (Nat.le_refl _), mn_ext k (fun i hi => h i (by omega)), fs_ext k (fun i hi => h i (by omega))]
/-- the price of another stage -/
def prF (pr : Int32) (a : Int) (t : Nat) : Int32 := if a = -1 ∨ a = (t : Int) then 0 else pr
theorem prF_0 {pr : Int32} {a : Int} {t : Nat} (h : a = -1 ∨ a = (t : Int)) : prF pr a t = 0 := if_pos h
theorem prF_1 {pr : Int32} {a : Int} {t : Nat} (h : ¬ (a = -1 ∨ a = (t : Int))) : prF pr a t = pr := if_neg h
def owF2 (S : Nat → Int32) (m : Nat) (pr : Int32) (a : Int) : Int32 := mnF (fun t => S t + prF pr a t) m
def ofF (S : Nat → Int32) (m : Nat) (pr : Int32) (a : Int) : Nat := fsF (fun t => S t + prF pr a t) m
theorem fs_y {f : Nat → Int32} {k : Nat} (h : (f (k + 1)).toInt < (mnF f k).toInt) : fsF f (k + 1) = k + 1 := if_pos h
theorem fs_n {f : Nat → Int32} {k : Nat} (h : ¬ (f (k + 1)).toInt < (mnF f k).toInt) : fsF f (k + 1) = fsF f k := if_neg h
theorem of_at {S : Nat → Int32} {m : Nat} {pr : Int32} {a : Int} : S (ofF S m pr a) + prF pr a (ofF S m pr a) = owF2 S m pr a := fs_at (f := fun t => S t + prF pr a t) m
/-- sums from a line on: k lines are left -/
def smK (C : Nat → Nat → Int32) (m : Nat) (pr : Int32) (L : Nat) : Nat → Nat → Int32
  | 0, _ => 0
  | k + 1, s => C (L - (k + 1)) s + (if k = 0 then 0 else owF2 (smK C m pr L k) m pr (s : Int))
theorem sm_un {C : Nat → Nat → Int32} {m : Nat} {pr : Int32} {L n s : Nat} (h : n < L) : smK C m pr L (L - n) s = C n s + (if n + 1 < L then owF2 (smK C m pr L (L - (n + 1))) m pr (s : Int) else 0) := by
  rw [show L - n = (L - (n + 1)) + 1 by omega]
  show C (L - (L - (n + 1) + 1)) s + (if L - (n + 1) = 0 then 0 else owF2 (smK C m pr L (L - (n + 1))) m pr (s : Int)) = _
  rw [show L - (L - (n + 1) + 1) = n by omega]
  by_cases q : n + 1 < L
  · rw [if_neg (by omega), if_pos q]
  · rw [if_pos (by omega), if_neg q]
/-- rows of sums that are there from a line on -/
def SMT (v : Nat → Int32) (C : Nat → Nat → Int32) (m : Nat) (pr : Int32) (L n : Nat) : Prop := ∀ i s, n ≤ i → i < L → s ≤ m → v (7 * i + s) = smK C m pr L (L - i) s
theorem owF2_ext {S T : Nat → Int32} {m : Nat} {pr : Int32} {a : Int} (h : ∀ t, t ≤ m → S t = T t) : owF2 S m pr a = owF2 T m pr a := mn_ext m (fun i hi => by rw [h i hi])
theorem ofF_ext {S T : Nat → Int32} {m : Nat} {pr : Int32} {a : Int} (h : ∀ t, t ≤ m → S t = T t) : ofF S m pr a = ofF T m pr a := fs_ext m (fun i hi => by rw [h i hi])
/-- the stages told: line by line -/
def tlF (C : Nat → Nat → Int32) (m : Nat) (pr : Int32) (L : Nat) : Nat → Nat
  | 0 => ofF (smK C m pr L L) m pr (-1)
  | n + 1 => ofF (smK C m pr L (L - (n + 1))) m pr ((tlF C m pr L n : Nat) : Int)
theorem tl_le {C : Nat → Nat → Int32} {m : Nat} {pr : Int32} {L : Nat} : ∀ n, tlF C m pr L n ≤ m
  | 0 => fs_le _
  | n + 1 => fs_le _
def tlA (C : Nat → Nat → Int32) (m : Nat) (pr : Int32) (L : Nat) : Nat → Int
  | 0 => -1
  | n + 1 => ((tlF C m pr L n : Nat) : Int)
theorem tl_un {C : Nat → Nat → Int32} {m : Nat} {pr : Int32} {L n : Nat} : tlF C m pr L n = ofF (smK C m pr L (L - n)) m pr (tlA C m pr L n) := by
  cases n with
  | zero => rfl
  | succ n => rfl
/-- how many lines -/
def lnN (f : Nat → Int32) (n : Nat) : Nat := 1 + n10 f n
/-- what a mixed text costs, its stages -/
def MXC (f : Nat → Int32) (n : Nat) (d : Nat → Dr) (Ws : List Wd) : Nat → Nat → Int32 := fun l s => Int32.ofNat (csF d Ws (mxR f n 0 false []) l s)
theorem c10_n (f : Nat → Int32) : ∀ p : Nat, c10 f p = ((n10 f p : Nat) : Int)
  | 0 => rfl
  | p + 1 => by
    show c10 f p + (if (f p).toInt = 10 then 1 else 0) = ((n10 f p + (if (f p).toInt = 10 then 1 else 0) : Nat) : Int)
    rw [c10_n f p]
    by_cases q : (f p).toInt = 10
    · rw [if_pos q, if_pos q]
      rfl
    · rw [if_neg q, if_neg q]
      rfl
theorem up_e {w f : Nat → Int32} {i k : Nat} {x : Int32} (e : w = upd f i (f i + x)) (hi : i = k) : ∀ j, w j = (if j = k then f j + x else f j) := by
  intro j
  subst hi
  by_cases q : j = i
  · rw [q, e, pk_us, if_pos rfl]
  · rw [e, pk_un q, if_neg q]
/-- a least value so far -/
def OWI (f : Nat → Int32) (s : Nat) (v : Int32) : Prop := (s = 0 ∧ v = 2147483647) ∨ ∃ k, s = k + 1 ∧ v = mnF f k
theorem OWI_lt {f : Nat → Int32} {s : Nat} {v x : Int32} (h : OWI f s v) (hx : x = f s) (hlt : x.toInt < v.toInt) : OWI f (s + 1) x := by
  rcases h with ⟨h1, _⟩ | ⟨k, h1, h2⟩
  · exact Or.inr ⟨0, by omega, by rw [hx, h1]; rfl⟩
  · refine Or.inr ⟨s, rfl, ?_⟩
    subst h1
    show x = (if (f (k + 1)).toInt < (mnF f k).toInt then f (k + 1) else mnF f k)
    rw [if_pos (by rw [← hx, ← h2]; exact hlt), hx]
theorem OWI_ge {f : Nat → Int32} {s : Nat} {v x : Int32} (h : OWI f s v) (hx : x = f s) (hge : v.toInt ≤ x.toInt) : OWI f (s + 1) v := by
  rcases h with ⟨h1, h2⟩ | ⟨k, h1, h2⟩
  · refine Or.inr ⟨0, by omega, ?_⟩
    have hu := Int32.toInt_lt x
    have e : v = x := z_e (by rw [h2] at hge ⊢; have z : (2147483647 : Int32).toInt = 2147483647 := (by decide); omega)
    rw [e, hx, h1]
    rfl
  · refine Or.inr ⟨s, rfl, ?_⟩
    subst h1
    show v = (if (f (k + 1)).toInt < (mnF f k).toInt then f (k + 1) else mnF f k)
    rw [if_neg (by rw [← hx, ← h2]; omega), h2]
theorem OWI_end {S : Nat → Int32} {m : Nat} {pr : Int32} {a : Int} {s : Nat} {v : Int32} (h : OWI (fun t => S t + prF pr a t) s v) (hs : s = m + 1) : v = owF2 S m pr a := by
  rcases h with ⟨h1, _⟩ | ⟨k, h1, h2⟩
  · omega
  · rw [h2, show k = m by omega]
    rfl
/-- words up to a place -/
def MIV (f : Nat → Int32) (n : Nat) (d : Nat → Dr) (Ws : List Wd) (m p : Nat) (v : Nat → Int32) : Prop := ∃ es : LnW, CTB v d Ws m es ∧ mxR f n 0 false [] = mxR f n p false es
theorem MIV_0 {f : Nat → Int32} {n : Nat} {d : Nat → Dr} {Ws : List Wd} {m p : Nat} {v : Nat → Int32} (h : CTB v d Ws m []) (hp : p = 0) : MIV f n d Ws m p v := ⟨[], h, by rw [hp]⟩
theorem MIV_q {f : Nat → Int32} {n : Nat} {d : Nat → Dr} {Ws : List Wd} {m p : Nat} {v : Nat → Int32} (h : MIV f n d Ws m p v) (hp : p < n) (h1 : (f p).toInt = 34) : MIV f n d Ws m (qN f n (p + 1)) v := by
  obtain ⟨es, a, b⟩ := h
  exact ⟨es, a, b.trans (mx_qn hp h1)⟩
theorem MIV_c {f : Nat → Int32} {n : Nat} {d : Nat → Dr} {Ws : List Wd} {m p : Nat} {v : Nat → Int32} (h : MIV f n d Ws m p v) (hp : p < n) (h1 : (f p).toInt ≠ 34) (h2 : ¬ isL (f p)) : MIV f n d Ws m (p + 1) v := by
  obtain ⟨es, a, b⟩ := h
  exact ⟨es, a, b.trans (mx_c hp h1 (Or.inr h2))⟩
theorem MIV_w {f : Nat → Int32} {n : Nat} {d : Nat → Dr} {Ws : List Wd} {m p : Nat} {v : Nat → Int32} {es : LnW} (h : mxR f n 0 false [] = mxR f n p false es) (hp : p < n) (h2 : isL (f p)) (hc : CTB v d Ws m (es ++ [(n10 f p, wdl f p (lnd f n (p + 1) - p))])) : MIV f n d Ws m (lnd f n (p + 1)) v := ⟨_, hc, h.trans (mx_w hp h2)⟩
theorem MIV_end {f : Nat → Int32} {n : Nat} {d : Nat → Dr} {Ws : List Wd} {m p : Nat} {v : Nat → Int32} (h : MIV f n d Ws m p v) (hp : n ≤ p) : ∀ l s, l < 40 → s ≤ m → v (7 * l + s) = MXC f n d Ws l s := by
  obtain ⟨es, a, b⟩ := h
  rw [mx_end hp] at b
  intro l s hl hs
  show _ = Int32.ofNat (csF d Ws (mxR f n 0 false []) l s)
  rw [b]
  exact a l s hl hs
theorem up_0 {v : Nat → Int32} {k : Nat} : ∀ j, v j = (if j = k then v j + 0 else v j) := by
  intro j
  by_cases q : j = k
  · rw [if_pos q]
    exact (Int32.add_zero _).symm
  · rw [if_neg q]
theorem n10_ln {f : Nat → Int32} {n p : Nat} : n10 f (lnd f n p) = n10 f p := n10_lE _ _
theorem oc_10 {f : Nat → Int32} : ∀ n, ocB f 10 n = n10 f n
  | 0 => rfl
  | n + 1 => by
    rw [oc_s, n10_s, oc_10 n]
    by_cases q : (f n).toInt = 10
    · rw [if_pos q, if_pos (z_e (q.trans (by decide)))]
    · rw [if_neg q, if_neg (fun z => q (by rw [z]; decide))]
/-- no word between -/
def MXN (f : Nat → Int32) (n p : Nat) (q : Bool) (p1 : Nat) (q1 : Bool) : Prop := ∀ acc : LnW, mxR f n p q acc = mxR f n p1 q1 acc
theorem MXN_0 {f : Nat → Int32} {n p : Nat} {q : Bool} : MXN f n p q p q := fun _ => rfl
theorem MXN_q {f : Nat → Int32} {n p p1 : Nat} {q q1 : Bool} (h : MXN f n p q p1 q1) (hp : p1 < n) (h1 : (f p1).toInt = 34) : MXN f n p q (p1 + 1) (!q1) := fun acc => (h acc).trans (mx_q hp h1)
theorem MXN_c {f : Nat → Int32} {n p p1 : Nat} {q q1 : Bool} (h : MXN f n p q p1 q1) (hp : p1 < n) (h1 : (f p1).toInt ≠ 34) (h2 : q1 = true ∨ ¬ isL (f p1)) : MXN f n p q (p1 + 1) q1 := fun acc => (h acc).trans (mx_c hp h1 h2)
def MXE (f : Nat → Int32) (n p : Nat) (q : Bool) : Prop := ∃ q9, MXN f n p q n q9
/-- the class's words up to a place -/
def MIC (f : Nat → Int32) (n : Nat) (d : Nat → Dr) (Ws : List Wd) (m p : Nat) (q : Bool) (v : Nat → Int32) : Prop := ∃ es : LnW, CTB v d Ws m es ∧ mxR f n 0 false [] = mxR f n p q es
theorem MIC_0 {f : Nat → Int32} {n : Nat} {d : Nat → Dr} {Ws : List Wd} {m p : Nat} {q : Bool} {v : Nat → Int32} (h : CTB v d Ws m []) (hp : p = 0) (hq : q = false) : MIC f n d Ws m p q v := ⟨[], h, by rw [hp, hq]⟩
theorem MIC_w {f : Nat → Int32} {n : Nat} {d : Nat → Dr} {Ws : List Wd} {m p : Nat} {q : Bool} {v v1 : Nat → Int32} {p1 e : Nat} {nm : Int} (h : MIC f n d Ws m p q v) (hx : NXW f n p q p1 e nm) (hm : MXN f n p q p1 false) (hc : ∀ es, CTB v d Ws m es → CTB v1 d Ws m (es ++ [(n10 f p1, wdl f p1 (e - p1))])) : MIC f n d Ws m e false v1 := by
  obtain ⟨es, a, b⟩ := h
  obtain ⟨_, x2, x3, x4, _⟩ := hx
  refine ⟨_, hc es a, ?_⟩
  rw [b, hm, mx_w x2 x3, ← x4]
theorem MIC_end {f : Nat → Int32} {n : Nat} {d : Nat → Dr} {Ws : List Wd} {m p : Nat} {q : Bool} {v : Nat → Int32} (h : MIC f n d Ws m p q v) (hp : MXE f n p q) : ∀ l s, l < 40 → s ≤ m → v (7 * l + s) = MXC f n d Ws l s := by
  obtain ⟨es, a, b⟩ := h
  obtain ⟨q9, hq⟩ := hp
  rw [hq, mx_end (Nat.le_refl _)] at b
  intro l s hl hs
  show _ = Int32.ofNat (csF d Ws (mxR f n 0 false []) l s)
  rw [b]
  exact a l s hl hs
theorem mxe_end {f : Nat → Int32} {n p : Nat} {q : Bool} (h : n ≤ p) : MXE f n p q := ⟨q, fun acc => by rw [mx_end h, mx_end (Nat.le_refl _)]⟩
