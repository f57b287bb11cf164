/-! the rest of the reference -/
theorem lq_zero {laws laws1 size : Nat → Int32} {n x : Int32} (h : LQ laws size n) (e : laws1 = upd laws (Int32.toNatClampNeg 6) x) (hx : x.toInt = 0) : LQ laws1 size n := by
  have e6 : Int32.toNatClampNeg 6 = 6 := by decide
  rw [e6] at e
  intro r j hr hj
  by_cases q : r = 6
  · subst q
    rw [e, pk_us] at hj
    (first | omega | (simp only [id_eq] at *; omega))
  · rw [e, pk_un q] at hj
    exact h r j hr hj
theorem lq_row {laws laws1 size : Nat → Int32} {n r x : Int32} (h : LQ laws size n) (e : laws1 = upd laws (Int32.toNatClampNeg r) x) (hr : r.toInt = n.toInt) (h0 : 0 ≤ n.toInt) (h6 : n.toInt < 6) : LQ laws1 size n := by
  have hc := clampI (x := r) (by (first | omega | (simp only [id_eq] at *; omega)))
  intro r1 j hr1 hj
  rw [e, pk_un (by (first | omega | (simp only [id_eq] at *; omega)))] at hj
  exact h r1 j hr1 hj
theorem lw_same {laws laws1 : Nat → Int32} {n : Int32} (e : laws1 = upd laws (Int32.toNatClampNeg n) (laws (Int32.toNatClampNeg 6))) (h0 : 0 ≤ n.toInt) (h6 : n.toInt < 6) : laws1 n.toInt.toNat = laws1 6 := by
  have ec : Int32.toNatClampNeg n = n.toInt.toNat := rfl
  have e6 : Int32.toNatClampNeg 6 = 6 := by decide
  rw [e, ← ec, pk_us, pk_un (by rw [ec]; (first | omega | (simp only [id_eq] at *; omega))), e6]
theorem cpy_step {f f1 : Nat → Int32} {n k k1 : Int32} {a b : Int32} (h : ∀ t : Nat, (t : Int) < k.toInt → f (160 * n.toInt.toNat + t) = f (960 + t)) (e : f1 = upd f (Int32.toNatClampNeg b) (f (Int32.toNatClampNeg a))) (h0 : 0 ≤ n.toInt) (h6 : n.toInt < 6) (hk : 0 ≤ k.toInt ∧ k.toInt < 160) (ha : a.toInt = 960 + k.toInt) (hb : b.toInt = 160 * n.toInt + k.toInt) (hk1 : k1.toInt = k.toInt + 1) : ∀ t : Nat, (t : Int) < k1.toInt → f1 (160 * n.toInt.toNat + t) = f1 (960 + t) := by
  have ca := clampI (x := a) (by (first | omega | (simp only [id_eq] at *; omega)))
  have cb := clampI (x := b) (by (first | omega | (simp only [id_eq] at *; omega)))
  intro t ht
  rw [e, pk_un (j := 960 + t) (by (first | omega | (simp only [id_eq] at *; omega)))]
  by_cases q : t = k.toInt.toNat
  · rw [show 160 * n.toInt.toNat + t = Int32.toNatClampNeg b by (first | omega | (simp only [id_eq] at *; omega)), pk_us, show Int32.toNatClampNeg a = 960 + t by (first | omega | (simp only [id_eq] at *; omega))]
  · rw [pk_un (by (first | omega | (simp only [id_eq] at *; omega)))]
    exact h t (by (first | omega | (simp only [id_eq] at *; omega)))
theorem lq_copy {laws size size1 : Nat → Int32} {n a b k : Int32} (h : LQ laws size n) (e : size1 = upd size (Int32.toNatClampNeg b) (size (Int32.toNatClampNeg a))) (h0 : 0 ≤ n.toInt) (h6 : n.toInt < 6) (hk : 0 ≤ k.toInt ∧ k.toInt < 160) (hb : b.toInt = 160 * n.toInt + k.toInt) (hl : rng 0 40 laws) : LQ laws size1 n := by
  have cb := clampI (x := b) (by (first | omega | (simp only [id_eq] at *; omega)))
  intro r j hr hj
  have h1 := h r j hr hj
  have h2 := hl r
  rw [e, pk_un (by (first | omega | (simp only [id_eq] at *; omega)))]
  exact h1
theorem lq_new {laws size : Nat → Int32} {n n1 : Int32} (h : LQ laws size n) (hn1 : n1.toInt = n.toInt + 1) (h0 : 0 ≤ n.toInt) (h6 : n.toInt < 6) (hl : laws n.toInt.toNat = laws 6) (hc : ∀ t : Nat, (t : Int) < 4 * (laws 6).toInt → size (160 * n.toInt.toNat + t) = size (960 + t)) : LQ laws size n1 := by
  intro r j hr hj
  by_cases q : r = n.toInt.toNat
  · subst q
    rw [hl] at hj
    rw [hc (4 * j) (by (first | omega | (simp only [id_eq] at *; omega)))]
    exact h 6 j (Or.inr rfl) hj
  · exact h r j (by (first | omega | (simp only [id_eq] at *; omega))) hj
def ow (f : Nat → Int32) (i b pr : Int32) (k : Nat) (x : Int32) : Prop := (b.toInt = -1 ∨ b.toInt = (k : Int) → x = f (7 * i.toInt.toNat + k) + 0) ∧ (¬ (b.toInt = -1 ∨ b.toInt = (k : Int)) → x = f (7 * i.toInt.toNat + k) + pr)
def owL (f : Nat → Int32) (i b pr s best : Int32) : Prop := (s.toInt = 0 ∧ best.toInt = 2147483647) ∨ ∃ k : Nat, (k : Int) < s.toInt ∧ ow f i b pr k best
def owJ (f : Nat → Int32) (i b pr s x : Int32) : Prop := ∃ k : Nat, (k : Int) ≤ s.toInt ∧ ow f i b pr k x
def owW (f : Nat → Int32) (i b pr s n x : Int32) : Prop := ∃ k : Nat, s.toInt ≤ (k : Int) ∧ (k : Int) ≤ n.toInt ∧ ow f i b pr k x
theorem ow_mk {f : Nat → Int32} {i b pr s ix t x : Int32} (ex : x = f (Int32.toNatClampNeg ix) + t) (hi : 0 ≤ i.toInt) (hs : 0 ≤ s.toInt) (hix : ix.toInt = 7 * i.toInt + s.toInt) (hA : b.toInt = -1 ∨ b.toInt = s.toInt → t = 0) (hB : ¬ (b.toInt = -1 ∨ b.toInt = s.toInt) → t = pr) : ow f i b pr s.toInt.toNat x := by
  have hc := clampI (x := ix) (by (first | omega | (simp only [id_eq] at *; omega)))
  have e : Int32.toNatClampNeg ix = 7 * i.toInt.toNat + s.toInt.toNat := by (first | omega | (simp only [id_eq] at *; omega))
  rw [e] at ex
  refine ⟨fun h => ?_, fun h => ?_⟩
  · rw [ex, hA (by (first | omega | (simp only [id_eq] at *; omega)))]
  · rw [ex, hB (by (first | omega | (simp only [id_eq] at *; omega)))]
theorem ow_fun {f : Nat → Int32} {i b pr x y : Int32} {k : Nat} (h1 : ow f i b pr k x) (h2 : ow f i b pr k y) : x = y := by
  by_cases q : b.toInt = -1 ∨ b.toInt = (k : Int)
  · rw [h1.1 q, h2.1 q]
  · rw [h1.2 q, h2.2 q]
theorem ow_step {f : Nat → Int32} {i b pr s best x : Int32} (h : owL f i b pr s best) (hx : ow f i b pr s.toInt.toNat x) (hle : best.toInt ≤ x.toInt) : owJ f i b pr s best := by
  rcases h with ⟨h1, h2⟩ | ⟨k, h1, h2⟩
  · have hu := Int32.toInt_lt x
    have e : x = best := z_e (by (first | omega | (simp only [id_eq] at *; omega)))
    exact ⟨s.toInt.toNat, by (first | omega | (simp only [id_eq] at *; omega)), e ▸ hx⟩
  · exact ⟨k, by (first | omega | (simp only [id_eq] at *; omega)), h2⟩
theorem ow_next {f : Nat → Int32} {i b pr s s1 x : Int32} (h : owJ f i b pr s x) (hs : s1.toInt = s.toInt + 1) : owL f i b pr s1 x := by
  obtain ⟨k, h1, h2⟩ := h
  exact Or.inr ⟨k, by (first | omega | (simp only [id_eq] at *; omega)), h2⟩
theorem ow_end {f : Nat → Int32} {i b pr s x n : Int32} (h : owL f i b pr s x) (h1 : 1 ≤ s.toInt) (h2 : s.toInt ≤ n.toInt + 1) : owJ f i b pr n x := by
  rcases h with ⟨q, _⟩ | ⟨k, a, c⟩
  · (first | omega | (simp only [id_eq] at *; omega))
  · exact ⟨k, by (first | omega | (simp only [id_eq] at *; omega)), c⟩
theorem ow_b {f : Nat → Int32} {i b pr s n x : Int32} (h : owW f i b pr s n x) : s.toInt ≤ n.toInt := by
  obtain ⟨k, h1, h2, _⟩ := h
  (first | omega | (simp only [id_eq] at *; omega))
theorem ow_up {f : Nat → Int32} {i b pr due s s1 n ix t : Int32} (h : owW f i b pr s n due) (hne : (f (Int32.toNatClampNeg ix) + t).toInt ≠ due.toInt) (hi : 0 ≤ i.toInt) (hs : 0 ≤ s.toInt) (hix : ix.toInt = 7 * i.toInt + s.toInt) (hA : b.toInt = -1 ∨ b.toInt = s.toInt → t = 0) (hB : ¬ (b.toInt = -1 ∨ b.toInt = s.toInt) → t = pr) (hs1 : s1.toInt = s.toInt + 1) : owW f i b pr s1 n due := by
  obtain ⟨k, hk, hn, h⟩ := h
  by_cases q : k = s.toInt.toNat
  · subst q
    exact absurd (congrArg Int32.toInt (ow_fun (ow_mk rfl hi hs hix hA hB) h)) hne
  · exact ⟨k, by (first | omega | (simp only [id_eq] at *; omega)), hn, h⟩
theorem ow_0 {f : Nat → Int32} {i b pr x z n : Int32} (h : owJ f i b pr n x) (hz : z.toInt = 0) : owW f i b pr z n x := by
  obtain ⟨k, h1, h2⟩ := h
  exact ⟨k, by (first | omega | (simp only [id_eq] at *; omega)), h1, h2⟩
def c10 (f : Nat → Int32) : Nat → Int
  | 0 => 0
  | n + 1 => c10 f n + (if (f n).toInt = 10 then 1 else 0)
theorem c10_00 (f : Nat → Int32) : (0 : Int32).toInt = c10 f (0 : Int32).toInt.toNat := by
  have z : (0 : Int32).toInt = 0 := by decide
  rw [z]
  rfl
theorem c10_01 (f : Nat → Int32) : (1 : Int32).toInt = 1 + c10 f (0 : Int32).toInt.toNat := by
  have z : (0 : Int32).toInt = 0 := by decide
  have z1 : (1 : Int32).toInt = 1 := by decide
  rw [z, z1]
  rfl
theorem c10_b (f : Nat → Int32) : ∀ n : Nat, 0 ≤ c10 f n ∧ c10 f n ≤ n
  | 0 => ⟨Int.le_refl _, Int.le_refl _⟩
  | n + 1 => by
    have := c10_b f n
    show 0 ≤ c10 f n + (if (f n).toInt = 10 then 1 else 0) ∧ c10 f n + (if (f n).toInt = 10 then 1 else 0) ≤ ((n + 1 : Nat) : Int)
    split <;> (first | omega | (simp only [id_eq] at *; omega))
theorem c10_m (f : Nat → Int32) {a : Nat} : ∀ d : Nat, c10 f a ≤ c10 f (a + d)
  | 0 => Int.le_refl _
  | d + 1 => by
    have := c10_m f (a := a) d
    show c10 f a ≤ c10 f (a + d) + (if (f (a + d)).toInt = 10 then 1 else 0)
    split <;> (first | omega | (simp only [id_eq] at *; omega))
theorem c10_le (f : Nat → Int32) {a b : Int32} (h0 : 0 ≤ a.toInt) (h : a.toInt ≤ b.toInt) : c10 f a.toInt.toNat ≤ c10 f b.toInt.toNat := by
  have := c10_m f (a := a.toInt.toNat) (b.toInt.toNat - a.toInt.toNat)
  rwa [show a.toInt.toNat + (b.toInt.toNat - a.toInt.toNat) = b.toInt.toNat by (first | omega | (simp only [id_eq] at *; omega))] at this
theorem c10_s (f : Nat → Int32) {a b : Int32} (h0 : 0 ≤ a.toInt) (h : b.toInt = a.toInt + 1) : ((f (Int32.toNatClampNeg a)).toInt = 10 → c10 f b.toInt.toNat = c10 f a.toInt.toNat + 1) ∧ ((f (Int32.toNatClampNeg a)).toInt ≠ 10 → c10 f b.toInt.toNat = c10 f a.toInt.toNat) := by
  have ec : Int32.toNatClampNeg a = a.toInt.toNat := rfl
  rw [ec, show b.toInt.toNat = a.toInt.toNat + 1 by (first | omega | (simp only [id_eq] at *; omega))]
  show (_ → c10 f a.toInt.toNat + (if (f a.toInt.toNat).toInt = 10 then 1 else 0) = _) ∧ (_ → c10 f a.toInt.toNat + (if (f a.toInt.toNat).toInt = 10 then 1 else 0) = _)
  refine ⟨fun h => ?_, fun h => ?_⟩
  · rw [if_pos h]
  · rw [if_neg h]; (first | omega | (simp only [id_eq] at *; omega))
