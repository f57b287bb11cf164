/-! the class: cells by ids, fields and arrays by maps -/
abbrev cT (kk : Nat → ClassId) : List (ClassId × FieldType) := [(kk 0, .byte), (kk 1, .int), (kk 2, .boolean), (kk 3, .long), (kk 4, .object RX1), (kk 5, .object RX10), (kk 6, .object RX5)]
def cellOf (ad : Nat → Nat) (kk : Nat → ClassId) (k n : Nat) (g : Nat → Int32) (p : Nat → Option Nat) (u : Nat → Int64) (v : Nat → Nat → Int32) (x : Nat → Nat → Int64) (o : Nat → Nat → Option Nat) : va_E := if k = 1 then .inr (0, [va_re ad (p 0), va_re ad (p 1), va_re ad (p 2), va_re ad (p 3), va_re ad (p 4), va_re ad (p 5)]) else if k = 2 then .inr (1, [va_re ad (p 20), va_re ad (p 21), va_re ad (p 22), va_re ad (p 23), .int (g 24), .int (g 25)]) else if k = 3 then .inr (2, [va_re ad (p 40), va_re ad (p 41), va_re ad (p 42), .int (g 43), .int (g 44), .int (g 45)]) else if k = 4 then .inr (3, [.int (g 60), va_re ad (p 61), va_re ad (p 62), va_re ad (p 63), va_re ad (p 64), va_re ad (p 65), va_re ad (p 66)]) else if k = 5 then .inr (4, [.int (g 80), .int (g 81), va_re ad (p 82), .int (g 83), .int (g 84), .int (g 85), .int (g 86), .int (g 87), .int (g 88)]) else if k = 6 then .inr (5, [.int (g 100), va_re ad (p 101), .int (g 102), va_re ad (p 103), va_re ad (p 104), va_re ad (p 105), va_re ad (p 106), .int (g 107), va_re ad (p 108), va_re ad (p 109), va_re ad (p 110)]) else if k = 7 then .inr (6, [va_re ad (p 120), va_re ad (p 121), va_re ad (p 122), va_re ad (p 123), .int (g 124), .int (g 125), .int (g 126), .int (g 127), .int (g 128)]) else if k = 8 then .inr (7, [va_re ad (p 140), .int (g 141)]) else if k = 9 then .inr (8, [.int (g 160), .int (g 161), .int (g 162), .int (g 163), va_re ad (p 164), .int (g 165), .int (g 166), .int (g 167)]) else if k = 10 then .inr (9, [va_re ad (p 180), va_re ad (p 181), va_re ad (p 182), .int (g 183), .long (u 184), va_re ad (p 185), va_re ad (p 186), va_re ad (p 187)]) else if k = 11 then .inr (10, [.int (g 200), va_re ad (p 201), va_re ad (p 202), .int (g 203)]) else if k = 12 then .inr (11, [va_re ad (p 220), va_re ad (p 221), .int (g 222), .int (g 223), va_re ad (p 224), va_re ad (p 225), va_re ad (p 226), va_re ad (p 227), va_re ad (p 228), va_re ad (p 229), va_re ad (p 230), .int (g 231), va_re ad (p 232), .int (g 233), va_re ad (p 234), va_re ad (p 235), va_re ad (p 236)]) else if k = 100 then .inl (kk 0, n, .inl (v 0)) else if k = 101 then .inl (kk 1, n, .inl (v 1)) else if k = 102 then .inl (kk 1, n, .inl (v 2)) else if k = 103 then .inl (kk 1, n, .inl (v 3)) else if k = 104 then .inl (kk 1, n, .inl (v 4)) else if k = 105 then .inl (kk 1, n, .inl (v 5)) else if k = 106 then .inl (kk 1, n, .inl (v 6)) else if k = 107 then .inl (kk 1, n, .inl (v 7)) else if k = 108 then .inl (kk 1, n, .inl (v 8)) else if k = 109 then .inl (kk 1, n, .inl (v 9)) else if k = 110 then .inl (kk 2, n, .inl (v 10)) else if k = 111 then .inl (kk 2, n, .inl (v 11)) else if k = 112 then .inl (kk 2, n, .inl (v 12)) else if k = 200 then .inl (kk 3, n, .inr (.inl (x 0))) else if k = 201 then .inl (kk 3, n, .inr (.inl (x 1))) else if k = 300 then .inl (kk 4, n, .inr (.inr (.inr (.inr (fun i => (o 0 i).map ad))))) else if k = 301 then .inl (kk 5, n, .inr (.inr (.inr (.inr (fun i => (o 1 i).map ad))))) else if k = 302 then .inl (kk 6, n, .inr (.inr (.inr (.inr (fun i => (o 2 i).map ad))))) else .inl (kk 0, n, .inl (v 0))
def LW (ws : va_W) (ad : Nat → Nat) (kk : Nat → ClassId) (kd ln : Nat → Nat) (G : Nat → Nat → Int32) (P : Nat → Nat → Option Nat) (U : Nat → Nat → Int64) (V : Nat → Nat → Nat → Int32) (X : Nat → Nat → Nat → Int64) (O : Nat → Nat → Nat → Option Nat) : Prop := (∀ a, kd a ≠ 0 → ∃ i : Nat, ws[i]? = some (ad a, cellOf ad kk (kd a) (ln a) (fun f => G f a) (fun f => P f a) (fun f => U f a) (fun r => V r a) (fun r => X r a) (fun r => O r a))) ∧ ∀ a b, kd a ≠ 0 → kd b ≠ 0 → ad a = ad b → a = b
def fk (f : Nat) : Nat := if f = 0 then 11 else if f = 1 then 301 else if f = 2 then 201 else if f = 3 then 103 else if f = 4 then 11 else if f = 5 then 11 else if f = 20 then 100 else if f = 21 then 100 else if f = 22 then 100 else if f = 23 then 100 else if f = 40 then 107 else if f = 41 then 108 else if f = 42 then 109 else if f = 61 then 102 else if f = 62 then 100 else if f = 63 then 100 else if f = 64 then 112 else if f = 65 then 100 else if f = 66 then 11 else if f = 82 then 100 else if f = 101 then 300 else if f = 103 then 11 else if f = 104 then 11 else if f = 105 then 11 else if f = 106 then 110 else if f = 108 then 11 else if f = 109 then 111 else if f = 110 then 200 else if f = 120 then 100 else if f = 121 then 100 else if f = 122 then 106 else if f = 123 then 106 else if f = 140 then 100 else if f = 164 then 100 else if f = 180 then 4 else if f = 181 then 100 else if f = 182 then 100 else if f = 185 then 100 else if f = 186 then 11 else if f = 187 then 11 else if f = 201 then 100 else if f = 202 then 101 else if f = 220 then 8 else if f = 221 then 302 else if f = 224 then 6 else if f = 225 then 5 else if f = 226 then 10 else if f = 227 then 11 else if f = 228 then 4 else if f = 229 then 1 else if f = 230 then 104 else if f = 232 then 105 else if f = 234 then 9 else if f = 235 then 7 else if f = 236 then 3 else 1
def okd (r : Nat) : Nat := if r = 0 then 2 else if r = 1 then 11 else if r = 2 then 6 else 1
def TYP (kd : Nat → Nat) (P : Nat → Nat → Option Nat) (O : Nat → Nat → Nat → Option Nat) (B : Nat → Nat → Int32) (cnt : Nat) : Prop := (∀ f a b, P f a = some b → kd b = fk f) ∧ (∀ r a i b, O r a i = some b → kd b = okd r) ∧ (∀ a i, fits .byte (.int (B a i)) = true) ∧ ∀ a, cnt ≤ a → kd a = 0
theorem ne_ite {c : Prop} [Decidable c] {a b : Nat} (ha : a ≠ 0) (hb : b ≠ 0) : (if c then a else b) ≠ 0 := by
  by_cases h : c
  · rw [if_pos h]; exact ha
  · rw [if_neg h]; exact hb
theorem fk_ne (f : Nat) : fk f ≠ 0 := by
  unfold fk
  repeat (first | exact Nat.one_ne_zero | refine ne_ite (by decide) ?_)
theorem okd_ne (r : Nat) : okd r ≠ 0 := by
  unfold okd
  repeat (first | exact Nat.one_ne_zero | refine ne_ite (by decide) ?_)
theorem LW.o0 {ws : va_W} {ad : Nat → Nat} {kk : Nat → ClassId} {kd ln : Nat → Nat} {G : Nat → Nat → Int32} {P : Nat → Nat → Option Nat} {U : Nat → Nat → Int64} {V : Nat → Nat → Nat → Int32} {X : Nat → Nat → Nat → Int64} {O : Nat → Nat → Nat → Option Nat} {a : Nat} (h : LW ws ad kk kd ln G P U V X O) (hk : kd a = 1) : ∃ i : Nat, ws[i]? = some (ad a, .inr (0, [va_re ad (P 0 a), va_re ad (P 1 a), va_re ad (P 2 a), va_re ad (P 3 a), va_re ad (P 4 a), va_re ad (P 5 a)])) := by
  obtain ⟨i, hi⟩ := h.1 a (by rw [hk]; decide)
  rw [hk] at hi
  exact ⟨i, hi⟩
theorem LW.o1 {ws : va_W} {ad : Nat → Nat} {kk : Nat → ClassId} {kd ln : Nat → Nat} {G : Nat → Nat → Int32} {P : Nat → Nat → Option Nat} {U : Nat → Nat → Int64} {V : Nat → Nat → Nat → Int32} {X : Nat → Nat → Nat → Int64} {O : Nat → Nat → Nat → Option Nat} {a : Nat} (h : LW ws ad kk kd ln G P U V X O) (hk : kd a = 2) : ∃ i : Nat, ws[i]? = some (ad a, .inr (1, [va_re ad (P 20 a), va_re ad (P 21 a), va_re ad (P 22 a), va_re ad (P 23 a), .int (G 24 a), .int (G 25 a)])) := by
  obtain ⟨i, hi⟩ := h.1 a (by rw [hk]; decide)
  rw [hk] at hi
  exact ⟨i, hi⟩
theorem LW.o2 {ws : va_W} {ad : Nat → Nat} {kk : Nat → ClassId} {kd ln : Nat → Nat} {G : Nat → Nat → Int32} {P : Nat → Nat → Option Nat} {U : Nat → Nat → Int64} {V : Nat → Nat → Nat → Int32} {X : Nat → Nat → Nat → Int64} {O : Nat → Nat → Nat → Option Nat} {a : Nat} (h : LW ws ad kk kd ln G P U V X O) (hk : kd a = 3) : ∃ i : Nat, ws[i]? = some (ad a, .inr (2, [va_re ad (P 40 a), va_re ad (P 41 a), va_re ad (P 42 a), .int (G 43 a), .int (G 44 a), .int (G 45 a)])) := by
  obtain ⟨i, hi⟩ := h.1 a (by rw [hk]; decide)
  rw [hk] at hi
  exact ⟨i, hi⟩
theorem LW.o3 {ws : va_W} {ad : Nat → Nat} {kk : Nat → ClassId} {kd ln : Nat → Nat} {G : Nat → Nat → Int32} {P : Nat → Nat → Option Nat} {U : Nat → Nat → Int64} {V : Nat → Nat → Nat → Int32} {X : Nat → Nat → Nat → Int64} {O : Nat → Nat → Nat → Option Nat} {a : Nat} (h : LW ws ad kk kd ln G P U V X O) (hk : kd a = 4) : ∃ i : Nat, ws[i]? = some (ad a, .inr (3, [.int (G 60 a), va_re ad (P 61 a), va_re ad (P 62 a), va_re ad (P 63 a), va_re ad (P 64 a), va_re ad (P 65 a), va_re ad (P 66 a)])) := by
  obtain ⟨i, hi⟩ := h.1 a (by rw [hk]; decide)
  rw [hk] at hi
  exact ⟨i, hi⟩
theorem LW.o4 {ws : va_W} {ad : Nat → Nat} {kk : Nat → ClassId} {kd ln : Nat → Nat} {G : Nat → Nat → Int32} {P : Nat → Nat → Option Nat} {U : Nat → Nat → Int64} {V : Nat → Nat → Nat → Int32} {X : Nat → Nat → Nat → Int64} {O : Nat → Nat → Nat → Option Nat} {a : Nat} (h : LW ws ad kk kd ln G P U V X O) (hk : kd a = 5) : ∃ i : Nat, ws[i]? = some (ad a, .inr (4, [.int (G 80 a), .int (G 81 a), va_re ad (P 82 a), .int (G 83 a), .int (G 84 a), .int (G 85 a), .int (G 86 a), .int (G 87 a), .int (G 88 a)])) := by
  obtain ⟨i, hi⟩ := h.1 a (by rw [hk]; decide)
  rw [hk] at hi
  exact ⟨i, hi⟩
theorem LW.o5 {ws : va_W} {ad : Nat → Nat} {kk : Nat → ClassId} {kd ln : Nat → Nat} {G : Nat → Nat → Int32} {P : Nat → Nat → Option Nat} {U : Nat → Nat → Int64} {V : Nat → Nat → Nat → Int32} {X : Nat → Nat → Nat → Int64} {O : Nat → Nat → Nat → Option Nat} {a : Nat} (h : LW ws ad kk kd ln G P U V X O) (hk : kd a = 6) : ∃ i : Nat, ws[i]? = some (ad a, .inr (5, [.int (G 100 a), va_re ad (P 101 a), .int (G 102 a), va_re ad (P 103 a), va_re ad (P 104 a), va_re ad (P 105 a), va_re ad (P 106 a), .int (G 107 a), va_re ad (P 108 a), va_re ad (P 109 a), va_re ad (P 110 a)])) := by
  obtain ⟨i, hi⟩ := h.1 a (by rw [hk]; decide)
  rw [hk] at hi
  exact ⟨i, hi⟩
theorem LW.o6 {ws : va_W} {ad : Nat → Nat} {kk : Nat → ClassId} {kd ln : Nat → Nat} {G : Nat → Nat → Int32} {P : Nat → Nat → Option Nat} {U : Nat → Nat → Int64} {V : Nat → Nat → Nat → Int32} {X : Nat → Nat → Nat → Int64} {O : Nat → Nat → Nat → Option Nat} {a : Nat} (h : LW ws ad kk kd ln G P U V X O) (hk : kd a = 7) : ∃ i : Nat, ws[i]? = some (ad a, .inr (6, [va_re ad (P 120 a), va_re ad (P 121 a), va_re ad (P 122 a), va_re ad (P 123 a), .int (G 124 a), .int (G 125 a), .int (G 126 a), .int (G 127 a), .int (G 128 a)])) := by
  obtain ⟨i, hi⟩ := h.1 a (by rw [hk]; decide)
  rw [hk] at hi
  exact ⟨i, hi⟩
theorem LW.o7 {ws : va_W} {ad : Nat → Nat} {kk : Nat → ClassId} {kd ln : Nat → Nat} {G : Nat → Nat → Int32} {P : Nat → Nat → Option Nat} {U : Nat → Nat → Int64} {V : Nat → Nat → Nat → Int32} {X : Nat → Nat → Nat → Int64} {O : Nat → Nat → Nat → Option Nat} {a : Nat} (h : LW ws ad kk kd ln G P U V X O) (hk : kd a = 8) : ∃ i : Nat, ws[i]? = some (ad a, .inr (7, [va_re ad (P 140 a), .int (G 141 a)])) := by
  obtain ⟨i, hi⟩ := h.1 a (by rw [hk]; decide)
  rw [hk] at hi
  exact ⟨i, hi⟩
theorem LW.o8 {ws : va_W} {ad : Nat → Nat} {kk : Nat → ClassId} {kd ln : Nat → Nat} {G : Nat → Nat → Int32} {P : Nat → Nat → Option Nat} {U : Nat → Nat → Int64} {V : Nat → Nat → Nat → Int32} {X : Nat → Nat → Nat → Int64} {O : Nat → Nat → Nat → Option Nat} {a : Nat} (h : LW ws ad kk kd ln G P U V X O) (hk : kd a = 9) : ∃ i : Nat, ws[i]? = some (ad a, .inr (8, [.int (G 160 a), .int (G 161 a), .int (G 162 a), .int (G 163 a), va_re ad (P 164 a), .int (G 165 a), .int (G 166 a), .int (G 167 a)])) := by
  obtain ⟨i, hi⟩ := h.1 a (by rw [hk]; decide)
  rw [hk] at hi
  exact ⟨i, hi⟩
theorem LW.o9 {ws : va_W} {ad : Nat → Nat} {kk : Nat → ClassId} {kd ln : Nat → Nat} {G : Nat → Nat → Int32} {P : Nat → Nat → Option Nat} {U : Nat → Nat → Int64} {V : Nat → Nat → Nat → Int32} {X : Nat → Nat → Nat → Int64} {O : Nat → Nat → Nat → Option Nat} {a : Nat} (h : LW ws ad kk kd ln G P U V X O) (hk : kd a = 10) : ∃ i : Nat, ws[i]? = some (ad a, .inr (9, [va_re ad (P 180 a), va_re ad (P 181 a), va_re ad (P 182 a), .int (G 183 a), .long (U 184 a), va_re ad (P 185 a), va_re ad (P 186 a), va_re ad (P 187 a)])) := by
  obtain ⟨i, hi⟩ := h.1 a (by rw [hk]; decide)
  rw [hk] at hi
  exact ⟨i, hi⟩
theorem LW.o10 {ws : va_W} {ad : Nat → Nat} {kk : Nat → ClassId} {kd ln : Nat → Nat} {G : Nat → Nat → Int32} {P : Nat → Nat → Option Nat} {U : Nat → Nat → Int64} {V : Nat → Nat → Nat → Int32} {X : Nat → Nat → Nat → Int64} {O : Nat → Nat → Nat → Option Nat} {a : Nat} (h : LW ws ad kk kd ln G P U V X O) (hk : kd a = 11) : ∃ i : Nat, ws[i]? = some (ad a, .inr (10, [.int (G 200 a), va_re ad (P 201 a), va_re ad (P 202 a), .int (G 203 a)])) := by
  obtain ⟨i, hi⟩ := h.1 a (by rw [hk]; decide)
  rw [hk] at hi
  exact ⟨i, hi⟩
theorem LW.o11 {ws : va_W} {ad : Nat → Nat} {kk : Nat → ClassId} {kd ln : Nat → Nat} {G : Nat → Nat → Int32} {P : Nat → Nat → Option Nat} {U : Nat → Nat → Int64} {V : Nat → Nat → Nat → Int32} {X : Nat → Nat → Nat → Int64} {O : Nat → Nat → Nat → Option Nat} {a : Nat} (h : LW ws ad kk kd ln G P U V X O) (hk : kd a = 12) : ∃ i : Nat, ws[i]? = some (ad a, .inr (11, [va_re ad (P 220 a), va_re ad (P 221 a), .int (G 222 a), .int (G 223 a), va_re ad (P 224 a), va_re ad (P 225 a), va_re ad (P 226 a), va_re ad (P 227 a), va_re ad (P 228 a), va_re ad (P 229 a), va_re ad (P 230 a), .int (G 231 a), va_re ad (P 232 a), .int (G 233 a), va_re ad (P 234 a), va_re ad (P 235 a), va_re ad (P 236 a)])) := by
  obtain ⟨i, hi⟩ := h.1 a (by rw [hk]; decide)
  rw [hk] at hi
  exact ⟨i, hi⟩
theorem LW.v0 {ws : va_W} {ad : Nat → Nat} {kk : Nat → ClassId} {kd ln : Nat → Nat} {G : Nat → Nat → Int32} {P : Nat → Nat → Option Nat} {U : Nat → Nat → Int64} {V : Nat → Nat → Nat → Int32} {X : Nat → Nat → Nat → Int64} {O : Nat → Nat → Nat → Option Nat} {a : Nat} (h : LW ws ad kk kd ln G P U V X O) (hk : kd a = 100) : ∃ i : Nat, ws[i]? = some (ad a, .inl (kk 0, ln a, .inl (V 0 a))) := by
  obtain ⟨i, hi⟩ := h.1 a (by rw [hk]; decide)
  rw [hk] at hi
  exact ⟨i, hi⟩
theorem LW.v1 {ws : va_W} {ad : Nat → Nat} {kk : Nat → ClassId} {kd ln : Nat → Nat} {G : Nat → Nat → Int32} {P : Nat → Nat → Option Nat} {U : Nat → Nat → Int64} {V : Nat → Nat → Nat → Int32} {X : Nat → Nat → Nat → Int64} {O : Nat → Nat → Nat → Option Nat} {a : Nat} (h : LW ws ad kk kd ln G P U V X O) (hk : kd a = 101) : ∃ i : Nat, ws[i]? = some (ad a, .inl (kk 1, ln a, .inl (V 1 a))) := by
  obtain ⟨i, hi⟩ := h.1 a (by rw [hk]; decide)
  rw [hk] at hi
  exact ⟨i, hi⟩
theorem LW.v2 {ws : va_W} {ad : Nat → Nat} {kk : Nat → ClassId} {kd ln : Nat → Nat} {G : Nat → Nat → Int32} {P : Nat → Nat → Option Nat} {U : Nat → Nat → Int64} {V : Nat → Nat → Nat → Int32} {X : Nat → Nat → Nat → Int64} {O : Nat → Nat → Nat → Option Nat} {a : Nat} (h : LW ws ad kk kd ln G P U V X O) (hk : kd a = 102) : ∃ i : Nat, ws[i]? = some (ad a, .inl (kk 1, ln a, .inl (V 2 a))) := by
  obtain ⟨i, hi⟩ := h.1 a (by rw [hk]; decide)
  rw [hk] at hi
  exact ⟨i, hi⟩
theorem LW.v3 {ws : va_W} {ad : Nat → Nat} {kk : Nat → ClassId} {kd ln : Nat → Nat} {G : Nat → Nat → Int32} {P : Nat → Nat → Option Nat} {U : Nat → Nat → Int64} {V : Nat → Nat → Nat → Int32} {X : Nat → Nat → Nat → Int64} {O : Nat → Nat → Nat → Option Nat} {a : Nat} (h : LW ws ad kk kd ln G P U V X O) (hk : kd a = 103) : ∃ i : Nat, ws[i]? = some (ad a, .inl (kk 1, ln a, .inl (V 3 a))) := by
  obtain ⟨i, hi⟩ := h.1 a (by rw [hk]; decide)
  rw [hk] at hi
  exact ⟨i, hi⟩
theorem LW.v4 {ws : va_W} {ad : Nat → Nat} {kk : Nat → ClassId} {kd ln : Nat → Nat} {G : Nat → Nat → Int32} {P : Nat → Nat → Option Nat} {U : Nat → Nat → Int64} {V : Nat → Nat → Nat → Int32} {X : Nat → Nat → Nat → Int64} {O : Nat → Nat → Nat → Option Nat} {a : Nat} (h : LW ws ad kk kd ln G P U V X O) (hk : kd a = 104) : ∃ i : Nat, ws[i]? = some (ad a, .inl (kk 1, ln a, .inl (V 4 a))) := by
  obtain ⟨i, hi⟩ := h.1 a (by rw [hk]; decide)
  rw [hk] at hi
  exact ⟨i, hi⟩
theorem LW.v5 {ws : va_W} {ad : Nat → Nat} {kk : Nat → ClassId} {kd ln : Nat → Nat} {G : Nat → Nat → Int32} {P : Nat → Nat → Option Nat} {U : Nat → Nat → Int64} {V : Nat → Nat → Nat → Int32} {X : Nat → Nat → Nat → Int64} {O : Nat → Nat → Nat → Option Nat} {a : Nat} (h : LW ws ad kk kd ln G P U V X O) (hk : kd a = 105) : ∃ i : Nat, ws[i]? = some (ad a, .inl (kk 1, ln a, .inl (V 5 a))) := by
  obtain ⟨i, hi⟩ := h.1 a (by rw [hk]; decide)
  rw [hk] at hi
  exact ⟨i, hi⟩
theorem LW.v6 {ws : va_W} {ad : Nat → Nat} {kk : Nat → ClassId} {kd ln : Nat → Nat} {G : Nat → Nat → Int32} {P : Nat → Nat → Option Nat} {U : Nat → Nat → Int64} {V : Nat → Nat → Nat → Int32} {X : Nat → Nat → Nat → Int64} {O : Nat → Nat → Nat → Option Nat} {a : Nat} (h : LW ws ad kk kd ln G P U V X O) (hk : kd a = 106) : ∃ i : Nat, ws[i]? = some (ad a, .inl (kk 1, ln a, .inl (V 6 a))) := by
  obtain ⟨i, hi⟩ := h.1 a (by rw [hk]; decide)
  rw [hk] at hi
  exact ⟨i, hi⟩
theorem LW.v7 {ws : va_W} {ad : Nat → Nat} {kk : Nat → ClassId} {kd ln : Nat → Nat} {G : Nat → Nat → Int32} {P : Nat → Nat → Option Nat} {U : Nat → Nat → Int64} {V : Nat → Nat → Nat → Int32} {X : Nat → Nat → Nat → Int64} {O : Nat → Nat → Nat → Option Nat} {a : Nat} (h : LW ws ad kk kd ln G P U V X O) (hk : kd a = 107) : ∃ i : Nat, ws[i]? = some (ad a, .inl (kk 1, ln a, .inl (V 7 a))) := by
  obtain ⟨i, hi⟩ := h.1 a (by rw [hk]; decide)
  rw [hk] at hi
  exact ⟨i, hi⟩
theorem LW.v8 {ws : va_W} {ad : Nat → Nat} {kk : Nat → ClassId} {kd ln : Nat → Nat} {G : Nat → Nat → Int32} {P : Nat → Nat → Option Nat} {U : Nat → Nat → Int64} {V : Nat → Nat → Nat → Int32} {X : Nat → Nat → Nat → Int64} {O : Nat → Nat → Nat → Option Nat} {a : Nat} (h : LW ws ad kk kd ln G P U V X O) (hk : kd a = 108) : ∃ i : Nat, ws[i]? = some (ad a, .inl (kk 1, ln a, .inl (V 8 a))) := by
  obtain ⟨i, hi⟩ := h.1 a (by rw [hk]; decide)
  rw [hk] at hi
  exact ⟨i, hi⟩
theorem LW.v9 {ws : va_W} {ad : Nat → Nat} {kk : Nat → ClassId} {kd ln : Nat → Nat} {G : Nat → Nat → Int32} {P : Nat → Nat → Option Nat} {U : Nat → Nat → Int64} {V : Nat → Nat → Nat → Int32} {X : Nat → Nat → Nat → Int64} {O : Nat → Nat → Nat → Option Nat} {a : Nat} (h : LW ws ad kk kd ln G P U V X O) (hk : kd a = 109) : ∃ i : Nat, ws[i]? = some (ad a, .inl (kk 1, ln a, .inl (V 9 a))) := by
  obtain ⟨i, hi⟩ := h.1 a (by rw [hk]; decide)
  rw [hk] at hi
  exact ⟨i, hi⟩
theorem LW.v10 {ws : va_W} {ad : Nat → Nat} {kk : Nat → ClassId} {kd ln : Nat → Nat} {G : Nat → Nat → Int32} {P : Nat → Nat → Option Nat} {U : Nat → Nat → Int64} {V : Nat → Nat → Nat → Int32} {X : Nat → Nat → Nat → Int64} {O : Nat → Nat → Nat → Option Nat} {a : Nat} (h : LW ws ad kk kd ln G P U V X O) (hk : kd a = 110) : ∃ i : Nat, ws[i]? = some (ad a, .inl (kk 2, ln a, .inl (V 10 a))) := by
  obtain ⟨i, hi⟩ := h.1 a (by rw [hk]; decide)
  rw [hk] at hi
  exact ⟨i, hi⟩
theorem LW.v11 {ws : va_W} {ad : Nat → Nat} {kk : Nat → ClassId} {kd ln : Nat → Nat} {G : Nat → Nat → Int32} {P : Nat → Nat → Option Nat} {U : Nat → Nat → Int64} {V : Nat → Nat → Nat → Int32} {X : Nat → Nat → Nat → Int64} {O : Nat → Nat → Nat → Option Nat} {a : Nat} (h : LW ws ad kk kd ln G P U V X O) (hk : kd a = 111) : ∃ i : Nat, ws[i]? = some (ad a, .inl (kk 2, ln a, .inl (V 11 a))) := by
  obtain ⟨i, hi⟩ := h.1 a (by rw [hk]; decide)
  rw [hk] at hi
  exact ⟨i, hi⟩
theorem LW.v12 {ws : va_W} {ad : Nat → Nat} {kk : Nat → ClassId} {kd ln : Nat → Nat} {G : Nat → Nat → Int32} {P : Nat → Nat → Option Nat} {U : Nat → Nat → Int64} {V : Nat → Nat → Nat → Int32} {X : Nat → Nat → Nat → Int64} {O : Nat → Nat → Nat → Option Nat} {a : Nat} (h : LW ws ad kk kd ln G P U V X O) (hk : kd a = 112) : ∃ i : Nat, ws[i]? = some (ad a, .inl (kk 2, ln a, .inl (V 12 a))) := by
  obtain ⟨i, hi⟩ := h.1 a (by rw [hk]; decide)
  rw [hk] at hi
  exact ⟨i, hi⟩
theorem LW.x0 {ws : va_W} {ad : Nat → Nat} {kk : Nat → ClassId} {kd ln : Nat → Nat} {G : Nat → Nat → Int32} {P : Nat → Nat → Option Nat} {U : Nat → Nat → Int64} {V : Nat → Nat → Nat → Int32} {X : Nat → Nat → Nat → Int64} {O : Nat → Nat → Nat → Option Nat} {a : Nat} (h : LW ws ad kk kd ln G P U V X O) (hk : kd a = 200) : ∃ i : Nat, ws[i]? = some (ad a, .inl (kk 3, ln a, .inr (.inl (X 0 a)))) := by
  obtain ⟨i, hi⟩ := h.1 a (by rw [hk]; decide)
  rw [hk] at hi
  exact ⟨i, hi⟩
theorem LW.x1 {ws : va_W} {ad : Nat → Nat} {kk : Nat → ClassId} {kd ln : Nat → Nat} {G : Nat → Nat → Int32} {P : Nat → Nat → Option Nat} {U : Nat → Nat → Int64} {V : Nat → Nat → Nat → Int32} {X : Nat → Nat → Nat → Int64} {O : Nat → Nat → Nat → Option Nat} {a : Nat} (h : LW ws ad kk kd ln G P U V X O) (hk : kd a = 201) : ∃ i : Nat, ws[i]? = some (ad a, .inl (kk 3, ln a, .inr (.inl (X 1 a)))) := by
  obtain ⟨i, hi⟩ := h.1 a (by rw [hk]; decide)
  rw [hk] at hi
  exact ⟨i, hi⟩
theorem LW.q0 {ws : va_W} {ad : Nat → Nat} {kk : Nat → ClassId} {kd ln : Nat → Nat} {G : Nat → Nat → Int32} {P : Nat → Nat → Option Nat} {U : Nat → Nat → Int64} {V : Nat → Nat → Nat → Int32} {X : Nat → Nat → Nat → Int64} {O : Nat → Nat → Nat → Option Nat} {a : Nat} (h : LW ws ad kk kd ln G P U V X O) (hk : kd a = 300) : ∃ i : Nat, ws[i]? = some (ad a, .inl (kk 4, ln a, .inr (.inr (.inr (.inr (fun i => (O 0 a i).map ad)))))) := by
  obtain ⟨i, hi⟩ := h.1 a (by rw [hk]; decide)
  rw [hk] at hi
  exact ⟨i, hi⟩
theorem LW.q1 {ws : va_W} {ad : Nat → Nat} {kk : Nat → ClassId} {kd ln : Nat → Nat} {G : Nat → Nat → Int32} {P : Nat → Nat → Option Nat} {U : Nat → Nat → Int64} {V : Nat → Nat → Nat → Int32} {X : Nat → Nat → Nat → Int64} {O : Nat → Nat → Nat → Option Nat} {a : Nat} (h : LW ws ad kk kd ln G P U V X O) (hk : kd a = 301) : ∃ i : Nat, ws[i]? = some (ad a, .inl (kk 5, ln a, .inr (.inr (.inr (.inr (fun i => (O 1 a i).map ad)))))) := by
  obtain ⟨i, hi⟩ := h.1 a (by rw [hk]; decide)
  rw [hk] at hi
  exact ⟨i, hi⟩
theorem LW.q2 {ws : va_W} {ad : Nat → Nat} {kk : Nat → ClassId} {kd ln : Nat → Nat} {G : Nat → Nat → Int32} {P : Nat → Nat → Option Nat} {U : Nat → Nat → Int64} {V : Nat → Nat → Nat → Int32} {X : Nat → Nat → Nat → Int64} {O : Nat → Nat → Nat → Option Nat} {a : Nat} (h : LW ws ad kk kd ln G P U V X O) (hk : kd a = 302) : ∃ i : Nat, ws[i]? = some (ad a, .inl (kk 6, ln a, .inr (.inr (.inr (.inr (fun i => (O 2 a i).map ad)))))) := by
  obtain ⟨i, hi⟩ := h.1 a (by rw [hk]; decide)
  rw [hk] at hi
  exact ⟨i, hi⟩
theorem LW.setG {ws : va_W} {ad : Nat → Nat} {kk : Nat → ClassId} {kd ln : Nat → Nat} {G : Nat → Nat → Int32} {P : Nat → Nat → Option Nat} {U : Nat → Nat → Int64} {V : Nat → Nat → Nat → Int32} {X : Nat → Nat → Nat → Int64} {O : Nat → Nat → Nat → Option Nat} {A : Nat → Prop} {i a : Nat} {e0 e1 : va_E} (h : LW ws ad kk kd ln G P U V X O) (hD : va_D A ws) (hi : ws[i]? = some (ad a, e0)) (hk : kd a ≠ 0) (f : Nat) (v : Int32) (he : cellOf ad kk (kd a) (ln a) (va_up (fun f => G f a) f v) (fun f => P f a) (fun f => U f a) (fun r => V r a) (fun r => X r a) (fun r => O r a) = e1) : LW (ws.set i (ad a, e1)) ad kk kd ln (va_up G f (va_up (G f) a v)) P U V X O := by
  refine ⟨fun b hb => ?_, h.2⟩
  by_cases hba : b = a
  · subst hba
    refine ⟨i, ?_⟩
    rw [List.getElem?_set_self (List.getElem?_eq_some_iff.mp hi).1, ← he]
    have e : (fun k => va_up G f (va_up (G f) b v) k b) = va_up (fun k => G k b) f v := by
      funext k
      unfold va_up
      by_cases hk : k = f
      · simp [hk]
      · simp [hk]
    rw [← e]
  · obtain ⟨j, hj⟩ := h.1 b hb
    have hij : i ≠ j := by
      intro q
      rw [← q, hi] at hj
      exact hba (h.2 b a hb hk (congrArg Prod.fst (Option.some.inj hj)).symm)
    refine ⟨j, ?_⟩
    rw [List.getElem?_set_ne hij, hj]
    have e : (fun k => va_up G f (va_up (G f) a v) k b) = fun k => G k b := by
      funext k
      unfold va_up
      by_cases hk : k = f
      · simp [hk, hba]
      · simp [hk]
    rw [← e]
theorem LW.setP {ws : va_W} {ad : Nat → Nat} {kk : Nat → ClassId} {kd ln : Nat → Nat} {G : Nat → Nat → Int32} {P : Nat → Nat → Option Nat} {U : Nat → Nat → Int64} {V : Nat → Nat → Nat → Int32} {X : Nat → Nat → Nat → Int64} {O : Nat → Nat → Nat → Option Nat} {A : Nat → Prop} {i a : Nat} {e0 e1 : va_E} (h : LW ws ad kk kd ln G P U V X O) (hD : va_D A ws) (hi : ws[i]? = some (ad a, e0)) (hk : kd a ≠ 0) (f : Nat) (v : Option Nat) (he : cellOf ad kk (kd a) (ln a) (fun f => G f a) (va_up (fun f => P f a) f v) (fun f => U f a) (fun r => V r a) (fun r => X r a) (fun r => O r a) = e1) : LW (ws.set i (ad a, e1)) ad kk kd ln G (va_up P f (va_up (P f) a v)) U V X O := by
  refine ⟨fun b hb => ?_, h.2⟩
  by_cases hba : b = a
  · subst hba
    refine ⟨i, ?_⟩
    rw [List.getElem?_set_self (List.getElem?_eq_some_iff.mp hi).1, ← he]
    have e : (fun k => va_up P f (va_up (P f) b v) k b) = va_up (fun k => P k b) f v := by
      funext k
      unfold va_up
      by_cases hk : k = f
      · simp [hk]
      · simp [hk]
    rw [← e]
  · obtain ⟨j, hj⟩ := h.1 b hb
    have hij : i ≠ j := by
      intro q
      rw [← q, hi] at hj
      exact hba (h.2 b a hb hk (congrArg Prod.fst (Option.some.inj hj)).symm)
    refine ⟨j, ?_⟩
    rw [List.getElem?_set_ne hij, hj]
    have e : (fun k => va_up P f (va_up (P f) a v) k b) = fun k => P k b := by
      funext k
      unfold va_up
      by_cases hk : k = f
      · simp [hk, hba]
      · simp [hk]
    rw [← e]
theorem LW.setU {ws : va_W} {ad : Nat → Nat} {kk : Nat → ClassId} {kd ln : Nat → Nat} {G : Nat → Nat → Int32} {P : Nat → Nat → Option Nat} {U : Nat → Nat → Int64} {V : Nat → Nat → Nat → Int32} {X : Nat → Nat → Nat → Int64} {O : Nat → Nat → Nat → Option Nat} {A : Nat → Prop} {i a : Nat} {e0 e1 : va_E} (h : LW ws ad kk kd ln G P U V X O) (hD : va_D A ws) (hi : ws[i]? = some (ad a, e0)) (hk : kd a ≠ 0) (f : Nat) (v : Int64) (he : cellOf ad kk (kd a) (ln a) (fun f => G f a) (fun f => P f a) (va_up (fun f => U f a) f v) (fun r => V r a) (fun r => X r a) (fun r => O r a) = e1) : LW (ws.set i (ad a, e1)) ad kk kd ln G P (va_up U f (va_up (U f) a v)) V X O := by
  refine ⟨fun b hb => ?_, h.2⟩
  by_cases hba : b = a
  · subst hba
    refine ⟨i, ?_⟩
    rw [List.getElem?_set_self (List.getElem?_eq_some_iff.mp hi).1, ← he]
    have e : (fun k => va_up U f (va_up (U f) b v) k b) = va_up (fun k => U k b) f v := by
      funext k
      unfold va_up
      by_cases hk : k = f
      · simp [hk]
      · simp [hk]
    rw [← e]
  · obtain ⟨j, hj⟩ := h.1 b hb
    have hij : i ≠ j := by
      intro q
      rw [← q, hi] at hj
      exact hba (h.2 b a hb hk (congrArg Prod.fst (Option.some.inj hj)).symm)
    refine ⟨j, ?_⟩
    rw [List.getElem?_set_ne hij, hj]
    have e : (fun k => va_up U f (va_up (U f) a v) k b) = fun k => U k b := by
      funext k
      unfold va_up
      by_cases hk : k = f
      · simp [hk, hba]
      · simp [hk]
    rw [← e]
theorem LW.setV {ws : va_W} {ad : Nat → Nat} {kk : Nat → ClassId} {kd ln : Nat → Nat} {G : Nat → Nat → Int32} {P : Nat → Nat → Option Nat} {U : Nat → Nat → Int64} {V : Nat → Nat → Nat → Int32} {X : Nat → Nat → Nat → Int64} {O : Nat → Nat → Nat → Option Nat} {A : Nat → Prop} {i a : Nat} {e0 e1 : va_E} (h : LW ws ad kk kd ln G P U V X O) (hD : va_D A ws) (hi : ws[i]? = some (ad a, e0)) (hk : kd a ≠ 0) (f : Nat) (v : Nat → Int32) (he : cellOf ad kk (kd a) (ln a) (fun f => G f a) (fun f => P f a) (fun f => U f a) (va_up (fun f => V f a) f v) (fun r => X r a) (fun r => O r a) = e1) : LW (ws.set i (ad a, e1)) ad kk kd ln G P U (va_up V f (va_up (V f) a v)) X O := by
  refine ⟨fun b hb => ?_, h.2⟩
  by_cases hba : b = a
  · subst hba
    refine ⟨i, ?_⟩
    rw [List.getElem?_set_self (List.getElem?_eq_some_iff.mp hi).1, ← he]
    have e : (fun k => va_up V f (va_up (V f) b v) k b) = va_up (fun k => V k b) f v := by
      funext k
      unfold va_up
      by_cases hk : k = f
      · simp [hk]
      · simp [hk]
    rw [← e]
  · obtain ⟨j, hj⟩ := h.1 b hb
    have hij : i ≠ j := by
      intro q
      rw [← q, hi] at hj
      exact hba (h.2 b a hb hk (congrArg Prod.fst (Option.some.inj hj)).symm)
    refine ⟨j, ?_⟩
    rw [List.getElem?_set_ne hij, hj]
    have e : (fun k => va_up V f (va_up (V f) a v) k b) = fun k => V k b := by
      funext k
      unfold va_up
      by_cases hk : k = f
      · simp [hk, hba]
      · simp [hk]
    rw [← e]
theorem LW.setX {ws : va_W} {ad : Nat → Nat} {kk : Nat → ClassId} {kd ln : Nat → Nat} {G : Nat → Nat → Int32} {P : Nat → Nat → Option Nat} {U : Nat → Nat → Int64} {V : Nat → Nat → Nat → Int32} {X : Nat → Nat → Nat → Int64} {O : Nat → Nat → Nat → Option Nat} {A : Nat → Prop} {i a : Nat} {e0 e1 : va_E} (h : LW ws ad kk kd ln G P U V X O) (hD : va_D A ws) (hi : ws[i]? = some (ad a, e0)) (hk : kd a ≠ 0) (f : Nat) (v : Nat → Int64) (he : cellOf ad kk (kd a) (ln a) (fun f => G f a) (fun f => P f a) (fun f => U f a) (fun r => V r a) (va_up (fun f => X f a) f v) (fun r => O r a) = e1) : LW (ws.set i (ad a, e1)) ad kk kd ln G P U V (va_up X f (va_up (X f) a v)) O := by
  refine ⟨fun b hb => ?_, h.2⟩
  by_cases hba : b = a
  · subst hba
    refine ⟨i, ?_⟩
    rw [List.getElem?_set_self (List.getElem?_eq_some_iff.mp hi).1, ← he]
    have e : (fun k => va_up X f (va_up (X f) b v) k b) = va_up (fun k => X k b) f v := by
      funext k
      unfold va_up
      by_cases hk : k = f
      · simp [hk]
      · simp [hk]
    rw [← e]
  · obtain ⟨j, hj⟩ := h.1 b hb
    have hij : i ≠ j := by
      intro q
      rw [← q, hi] at hj
      exact hba (h.2 b a hb hk (congrArg Prod.fst (Option.some.inj hj)).symm)
    refine ⟨j, ?_⟩
    rw [List.getElem?_set_ne hij, hj]
    have e : (fun k => va_up X f (va_up (X f) a v) k b) = fun k => X k b := by
      funext k
      unfold va_up
      by_cases hk : k = f
      · simp [hk, hba]
      · simp [hk]
    rw [← e]
theorem LW.setO {ws : va_W} {ad : Nat → Nat} {kk : Nat → ClassId} {kd ln : Nat → Nat} {G : Nat → Nat → Int32} {P : Nat → Nat → Option Nat} {U : Nat → Nat → Int64} {V : Nat → Nat → Nat → Int32} {X : Nat → Nat → Nat → Int64} {O : Nat → Nat → Nat → Option Nat} {A : Nat → Prop} {i a : Nat} {e0 e1 : va_E} (h : LW ws ad kk kd ln G P U V X O) (hD : va_D A ws) (hi : ws[i]? = some (ad a, e0)) (hk : kd a ≠ 0) (f : Nat) (v : Nat → Option Nat) (he : cellOf ad kk (kd a) (ln a) (fun f => G f a) (fun f => P f a) (fun f => U f a) (fun r => V r a) (fun r => X r a) (va_up (fun f => O f a) f v) = e1) : LW (ws.set i (ad a, e1)) ad kk kd ln G P U V X (va_up O f (va_up (O f) a v)) := by
  refine ⟨fun b hb => ?_, h.2⟩
  by_cases hba : b = a
  · subst hba
    refine ⟨i, ?_⟩
    rw [List.getElem?_set_self (List.getElem?_eq_some_iff.mp hi).1, ← he]
    have e : (fun k => va_up O f (va_up (O f) b v) k b) = va_up (fun k => O k b) f v := by
      funext k
      unfold va_up
      by_cases hk : k = f
      · simp [hk]
      · simp [hk]
    rw [← e]
  · obtain ⟨j, hj⟩ := h.1 b hb
    have hij : i ≠ j := by
      intro q
      rw [← q, hi] at hj
      exact hba (h.2 b a hb hk (congrArg Prod.fst (Option.some.inj hj)).symm)
    refine ⟨j, ?_⟩
    rw [List.getElem?_set_ne hij, hj]
    have e : (fun k => va_up O f (va_up (O f) a v) k b) = fun k => O k b := by
      funext k
      unfold va_up
      by_cases hk : k = f
      · simp [hk, hba]
      · simp [hk]
    rw [← e]
theorem cellOf_ad {ad ad1 : Nat → Nat} {kk : Nat → ClassId} {k n : Nat} {g : Nat → Int32} {p : Nat → Option Nat} {u : Nat → Int64} {v : Nat → Nat → Int32} {x : Nat → Nat → Int64} {o : Nat → Nat → Option Nat} (hp : ∀ f c, p f = some c → ad1 c = ad c) (ho : ∀ r i c, o r i = some c → ad1 c = ad c) : cellOf ad1 kk k n g p u v x o = cellOf ad kk k n g p u v x o := by
  have hp1 : ∀ f, va_re ad1 (p f) = va_re ad (p f) := by
    intro f
    cases hq : p f with
    | none => rfl
    | some c => show va_rf (some (ad1 c)) = va_rf (some (ad c)); rw [hp f c hq]
  have ho1 : ∀ r, (fun i => (o r i).map ad1) = fun i => (o r i).map ad := by
    intro r
    funext i
    cases hq : o r i with
    | none => rfl
    | some c => show some (ad1 c) = some (ad c); rw [ho r i c hq]
  unfold cellOf
  simp only [hp1, ho1]
theorem LW.push {ws : va_W} {ad : Nat → Nat} {kk : Nat → ClassId} {kd ln : Nat → Nat} {G : Nat → Nat → Int32} {P : Nat → Nat → Option Nat} {U : Nat → Nat → Int64} {V : Nat → Nat → Nat → Int32} {X : Nat → Nat → Nat → Int64} {O : Nat → Nat → Nat → Option Nat} {A : Nat → Prop} {B : Nat → Nat → Int32} {cnt q K n : Nat} {e1 : va_E} (h : LW ws ad kk kd ln G P U V X O) (hT : TYP kd P O B cnt) (hD : va_D A (ws ++ [(q, e1)])) (hK : K ≠ 0) (he : cellOf (va_up ad cnt q) kk K n (fun _ => 0) (fun _ => none) (fun _ => 0) (fun _ _ => 0) (fun _ _ => 0) (fun _ _ => none) = e1) : LW (ws ++ [(q, e1)]) (va_up ad cnt q) kk (va_up kd cnt K) (va_up ln cnt n) (fun f => va_up (G f) cnt 0) (fun f => va_up (P f) cnt none) (fun f => va_up (U f) cnt 0) (fun r => va_up (V r) cnt (fun _ => 0)) (fun r => va_up (X r) cnt (fun _ => 0)) (fun r => va_up (O r) cnt (fun _ => none)) := by
  have hc : kd cnt = 0 := hT.2.2.2 cnt (Nat.le_refl _)
  have hne : ∀ f b c, P f b = some c → c ≠ cnt := fun f b c hb e => fk_ne f (by rw [← hT.1 f b c hb, e, hc])
  have hno : ∀ r b i c, O r b i = some c → c ≠ cnt := fun r b i c hb e => okd_ne r (by rw [← hT.2.1 r b i c hb, e, hc])
  have hnew : ∀ b, kd b ≠ 0 → ad b ≠ q := by
    intro b hb e
    obtain ⟨j, hj⟩ := h.1 b hb
    have hjl : j < ws.length := (List.getElem?_eq_some_iff.mp hj).1
    have := hD.1 j ws.length (ad b, _) (q, e1) (by rw [List.getElem?_append_left hjl]; exact hj) (by rw [List.getElem?_append_right (Nat.le_refl _), Nat.sub_self]; rfl) e
    omega
  refine ⟨fun b hb => ?_, fun b c hb hc1 e => ?_⟩
  · by_cases hbc : b = cnt
    · subst hbc
      refine ⟨ws.length, ?_⟩
      rw [List.getElem?_append_right (Nat.le_refl _), Nat.sub_self, ← he]
      simp only [va_up_self]
      rfl
    · have hkb : va_up kd cnt K b = kd b := va_up_ne kd K hbc
      rw [hkb] at hb ⊢
      obtain ⟨j, hj⟩ := h.1 b hb
      refine ⟨j, ?_⟩
      rw [List.getElem?_append_left (List.getElem?_eq_some_iff.mp hj).1, hj]
      simp only [va_up_ne _ _ hbc]
      rw [cellOf_ad (ad := ad) (fun f c hc2 => va_up_ne ad q (hne f b c hc2)) (fun r i c hc2 => va_up_ne ad q (hno r b i c hc2))]
  · by_cases h1 : b = cnt
    · by_cases h2 : c = cnt
      · rw [h1, h2]
      · rw [h1, va_up_self, va_up_ne ad q h2] at e
        rw [va_up_ne kd K h2] at hc1
        exact absurd e.symm (hnew c hc1)
    · by_cases h2 : c = cnt
      · rw [h2, va_up_self, va_up_ne ad q h1] at e
        rw [va_up_ne kd K h1] at hb
        exact absurd e (hnew b hb)
      · rw [va_up_ne ad q h1, va_up_ne ad q h2] at e
        rw [va_up_ne kd K h1] at hb
        rw [va_up_ne kd K h2] at hc1
        exact h.2 b c hb hc1 e
theorem TYP.setP {kd : Nat → Nat} {P : Nat → Nat → Option Nat} {O : Nat → Nat → Nat → Option Nat} {B : Nat → Nat → Int32} {cnt : Nat} (h : TYP kd P O B cnt) (f a b : Nat) (hb : kd b = fk f) : TYP kd (va_up P f (va_up (P f) a (some b))) O B cnt := by
  refine ⟨fun f1 a1 b1 e => ?_, h.2⟩
  unfold va_up at e
  by_cases h1 : f1 = f
  · simp only [h1, if_true] at e ⊢
    by_cases h2 : a1 = a
    · simp only [h2, if_true] at e
      rw [← Option.some.inj e]
      exact hb
    · simp only [h2, if_false] at e
      exact h.1 f a1 b1 e
  · simp only [h1, if_false] at e
    exact h.1 f1 a1 b1 e
theorem TYP.setO {kd : Nat → Nat} {P : Nat → Nat → Option Nat} {O : Nat → Nat → Nat → Option Nat} {B : Nat → Nat → Int32} {cnt : Nat} (h : TYP kd P O B cnt) (r a k b : Nat) (hb : kd b = okd r) : TYP kd P (va_up O r (va_up (O r) a (va_up (O r a) k (some b)))) B cnt := by
  refine ⟨h.1, fun r1 a1 i1 b1 e => ?_, h.2.2⟩
  unfold va_up at e
  by_cases h1 : r1 = r
  · simp only [h1, if_true] at e ⊢
    by_cases h2 : a1 = a
    · simp only [h2, if_true] at e
      by_cases h3 : i1 = k
      · simp only [h3, if_true] at e
        rw [← Option.some.inj e]
        exact hb
      · simp only [h3, if_false] at e
        exact h.2.1 r a i1 b1 e
    · simp only [h2, if_false] at e
      exact h.2.1 r a1 i1 b1 e
  · simp only [h1, if_false] at e
    exact h.2.1 r1 a1 i1 b1 e
theorem fit_nar (x : Int32) : fits .byte (.int (vp_nar .byte x)) = true := by
  rw [vp_nar_byte]
  exact pk_fb x
theorem TYP.setB {kd : Nat → Nat} {P : Nat → Nat → Option Nat} {O : Nat → Nat → Nat → Option Nat} {B : Nat → Nat → Int32} {cnt : Nat} (h : TYP kd P O B cnt) (a : Nat) (f : Nat → Int32) (hf : ∀ i, fits .byte (.int (f i)) = true) : TYP kd P O (va_up B a f) cnt := by
  refine ⟨h.1, h.2.1, fun a1 i => ?_, h.2.2.2⟩
  unfold va_up
  by_cases h1 : a1 = a
  · simp only [h1, if_true]
    exact hf i
  · simp only [h1, if_false]
    exact h.2.2.1 a1 i
theorem fit_upd {f : Nat → Int32} (hf : ∀ i, fits .byte (.int (f i)) = true) (k : Nat) (x : Int32) : ∀ i, fits .byte (.int (upd f k (vp_nar .byte x) i)) = true := by
  intro i
  unfold upd
  split
  · exact fit_nar x
  · exact hf i
theorem fit_cpy {f g : Nat → Int32} (hf : ∀ i, fits .byte (.int (f i)) = true) (hg : ∀ i, fits .byte (.int (g i)) = true) (sp dp n : Nat) : ∀ i, fits .byte (.int (va_cpy f g sp dp n i)) = true := by
  intro i
  by_cases h : dp ≤ i ∧ i < dp + n
  · rw [pk_cpy_in h.1 h.2]; exact hf _
  · rw [pk_cpy_out (by omega)]; exact hg _
theorem TYP.push {kd : Nat → Nat} {P : Nat → Nat → Option Nat} {O : Nat → Nat → Nat → Option Nat} {B : Nat → Nat → Int32} {cnt : Nat} (h : TYP kd P O B cnt) (K : Nat) (hK : K ≠ 0) : TYP (va_up kd cnt K) (fun f => va_up (P f) cnt none) (fun r => va_up (O r) cnt (fun _ => none)) (va_up B cnt (fun _ => 0)) (cnt + 1) := by
  have hc : kd cnt = 0 := h.2.2.2 cnt (Nat.le_refl _)
  refine ⟨fun f a b e => ?_, fun r a i b e => ?_, fun a i => ?_, fun a ha => ?_⟩
  · replace e : va_up (P f) cnt none a = some b := e
    by_cases h1 : a = cnt
    · rw [h1, va_up_self] at e; cases e
    · rw [va_up_ne _ _ h1] at e
      have := h.1 f a b e
      rw [va_up_ne kd K (fun q => fk_ne f (by rw [← this, q, hc]))]
      exact this
  · replace e : va_up (O r) cnt (fun _ => none) a i = some b := e
    by_cases h1 : a = cnt
    · rw [h1, va_up_self] at e; cases e
    · rw [va_up_ne _ _ h1] at e
      have := h.2.1 r a i b e
      rw [va_up_ne kd K (fun q => okd_ne r (by rw [← this, q, hc]))]
      exact this
  · by_cases h1 : a = cnt
    · rw [h1, va_up_self]; rfl
    · rw [va_up_ne _ _ h1]; exact h.2.2.1 a i
  · rw [va_up_ne kd K (by omega)]; exact h.2.2.2 a (by omega)