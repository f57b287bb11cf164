/-! what both do: the tape, words, the book -/
def by8 (v s : Int32) : Int32 := vp_nar .byte (Int8.toInt32 (Int32.toInt8 (v >>> (s &&& 31))))
def sh8 (k : Nat) : Int32 := if k = 0 then 24 else if k = 1 then 16 else if k = 2 then 8 else 0
theorem sh8_eq {s : Int32} {k : Nat} (h : s.toInt = 24 - 8 * (k : Int)) (hk : k < 4) : s = sh8 k := by
  apply z_e
  have h4 : k = 0 ∨ k = 1 ∨ k = 2 ∨ k = 3 := by omega
  rcases h4 with q | q | q | q <;> subst q <;> rw [h] <;> decide
def app (f : Nat → Int32) (n : Nat) (v : Int32) : Nat → (Nat → Int32)
  | 0 => f
  | k + 1 => upd (app f n v k) (n + k) (by8 v (sh8 k))
theorem app_step {f h : Nat → Int32} {n k : Nat} {v i s : Int32} (hh : h = app f n v k) (hi : i.toInt = (n : Int) + (k : Int)) (hs : s.toInt = 24 - 8 * (k : Int)) (hk : k < 4) : upd h (Int32.toNatClampNeg i) (vp_nar .byte (Int8.toInt32 (Int32.toInt8 (v >>> (s &&& 31))))) = app f n v (k + 1) := by
  have hc := clampI (x := i) (by omega)
  have e1 : Int32.toNatClampNeg i = n + k := by omega
  have e2 := sh8_eq hs hk
  subst e2
  rw [hh, e1]
  rfl
def vs5 (a b c d e : Int32) (k : Nat) : Int32 := if k = 0 then a else if k = 1 then b else if k = 2 then c else if k = 3 then d else e
def fds (f : Nat → Int32) (n : Nat) (vs : Nat → Int32) : Nat → (Nat → Int32)
  | 0 => f
  | k + 1 => app (fds f n vs k) (n + 4 * k) (vs k) 4
theorem fds5 {f : Nat → Int32} {n : Nat} {a b c d e : Int32} {h1 h2 h3 h4 h5 : Nat → Int32} {n1 n2 n3 n4 : Nat} (e1 : h1 = app f n a 4) (e2 : h2 = app h1 n1 b 4) (e3 : h3 = app h2 n2 c 4) (e4 : h4 = app h3 n3 d 4) (e5 : h5 = app h4 n4 e 4) (q1 : n1 = n + 4) (q2 : n2 = n + 8) (q3 : n3 = n + 12) (q4 : n4 = n + 16) : h5 = fds f n (vs5 a b c d e) 5 := by
  subst q1 q2 q3 q4 e1 e2 e3 e4 e5
  rfl
abbrev isw (f : Nat → Int32) (n : Int) : Prop := 1 ≤ n ∧ n ≤ 24 ∧ ∀ i : Nat, (i : Int) < n → 97 ≤ (f i).toInt ∧ (f i).toInt ≤ 122
abbrev smc (f : Nat → Int32) (a : Int) (la : Nat) (g : Nat → Int32) (b : Int) (lb : Nat) (n : Int) : Prop := 0 ≤ a ∧ 0 ≤ b ∧ n ≤ (la : Int) - a ∧ n ≤ (lb : Int) - b ∧ ∀ i : Nat, (i : Int) < n → f (a.toNat + i) = g (b.toNat + i)
abbrev mtw (w : Int) (bt : Nat → Int32) (lb : Nat) (bs f : Nat → Int32) (st : Int) (lf : Nat) (n : Int) (k : Nat) : Prop := (bs k).toInt = n ∧ smc bt ((k : Int) * w) lb f st lf n
def fnd (w : Int) (bt : Nat → Int32) (lb : Nat) (bs f : Nat → Int32) (st : Int) (lf : Nat) (n c r : Int) : Prop := (∃ k : Nat, (k : Int) < c ∧ r = (k : Int) ∧ mtw w bt lb bs f st lf n k ∧ ∀ j : Nat, j < k → ¬ mtw w bt lb bs f st lf n j) ∨ (r = -1 ∧ ∀ j : Nat, (j : Int) < c → ¬ mtw w bt lb bs f st lf n j)
abbrev mt (bt bs f : Nat → Int32) (n : Int) (k : Nat) : Prop := (bs k).toInt = n ∧ ∀ i : Nat, (i : Int) < n → bt (24 * k + i) = f i
theorem mt_of {bt bs f : Nat → Int32} {lb lf k : Nat} {n w : Int} (hw : w = 24) (hk : (k : Int) < 100) (hn : n ≤ 24) (hlb : (lb : Int) = 2400) (hlf : 24 ≤ (lf : Int)) : mtw w bt lb bs f 0 lf n k ↔ mt bt bs f n k := by
  subst hw
  have e1 : ((k : Int) * 24).toNat = 24 * k := by omega
  constructor
  · intro h
    refine ⟨h.1, fun i hi => ?_⟩
    have h5 := h.2.2.2.2.2 i hi
    rw [e1] at h5
    rw [h5]
    exact congrArg f (by show (0 : Int).toNat + i = i; omega)
  · intro h
    refine ⟨h.1, by omega, by omega, by omega, by omega, fun i hi => ?_⟩
    rw [e1, h.2 i hi]
    exact congrArg f (by show i = (0 : Int).toNat + i; omega)
def fnt (bt bs f : Nat → Int32) (n c r : Int) : Prop := (∃ k : Nat, (k : Int) < c ∧ r = (k : Int) ∧ mt bt bs f n k ∧ ∀ j : Nat, j < k → ¬ mt bt bs f n j) ∨ (r = -1 ∧ ∀ j : Nat, (j : Int) < c → ¬ mt bt bs f n j)
theorem fnd_of {bt bs f : Nat → Int32} {lb lf : Nat} {n w c r : Int} (h : fnd w bt lb bs f 0 lf n c r) (hw : w = 24) (hc : c ≤ 100) (hn : n ≤ 24) (hlb : (lb : Int) = 2400) (hlf : 24 ≤ (lf : Int)) : fnt bt bs f n c r := by
  rcases h with ⟨k, h1, h2, h3, h4⟩ | ⟨h1, h2⟩
  · refine Or.inl ⟨k, h1, h2, (mt_of hw (by omega) hn hlb hlf).mp h3, fun j hj q => h4 j hj ((mt_of hw (by omega) hn hlb hlf).mpr q)⟩
  · exact Or.inr ⟨h1, fun j hj q => h2 j hj ((mt_of hw (by omega) hn hlb hlf).mpr q)⟩
theorem fnt_some {bt bs f : Nat → Int32} {n c r : Int} (h : fnt bt bs f n c r) (hr : r ≠ -1) : ∃ k : Nat, (k : Int) < c ∧ r = (k : Int) ∧ mt bt bs f n k ∧ ∀ j : Nat, j < k → ¬ mt bt bs f n j := by
  rcases h with h | h
  · exact h
  · exact absurd h.1 hr
theorem fnt_none {bt bs f : Nat → Int32} {n c r : Int} (h : fnt bt bs f n c r) (hr : r = -1) : ∀ j : Nat, (j : Int) < c → ¬ mt bt bs f n j := by
  rcases h with ⟨k, h1, h2, h3⟩ | h
  · omega
  · exact h.2
abbrev LRN (f : Nat → Int32) (n : Int) (bt bs : Nat → Int32) (w r : Int32) (bt1 bs1 : Nat → Int32) (w1 : Int32) : Prop := (¬ isw f n ∧ r.toInt = -2 ∧ bt1 = bt ∧ bs1 = bs ∧ w1 = w) ∨ (isw f n ∧ (∃ k : Nat, (k : Int) < w.toInt ∧ r.toInt = (k : Int) ∧ mt bt bs f n k ∧ ∀ j : Nat, j < k → ¬ mt bt bs f n j) ∧ bt1 = bt ∧ bs1 = bs ∧ w1 = w) ∨ (isw f n ∧ (∀ j : Nat, (j : Int) < w.toInt → ¬ mt bt bs f n j) ∧ 100 ≤ w.toInt ∧ r.toInt = -3 ∧ bt1 = bt ∧ bs1 = bs ∧ w1 = w) ∨ (isw f n ∧ (∀ j : Nat, (j : Int) < w.toInt → ¬ mt bt bs f n j) ∧ w.toInt < 100 ∧ r.toInt = w.toInt ∧ w1.toInt = w.toInt + 1 ∧ bt1 = va_cpy f bt 0 (24 * w.toInt.toNat) n.toNat ∧ ∃ L : Int32, L.toInt = n ∧ bs1 = upd bs w.toInt.toNat L)
theorem LRN_det {f bt bs bt1 bs1 bt2 bs2 : Nat → Int32} {n : Int} {w r1 r2 w1 w2 : Int32} (h : LRN f n bt bs w r1 bt1 bs1 w1) (h2 : LRN f n bt bs w r2 bt2 bs2 w2) : r1 = r2 ∧ bt1 = bt2 ∧ bs1 = bs2 ∧ w1 = w2 := by
  rcases h with ⟨a1, a2, a3, a4, a5⟩ | ⟨a1, ⟨k, a2, a3, a4, a5⟩, a6, a7, a8⟩ | ⟨a1, a2, a3, a4, a5, a6, a7⟩ | ⟨a1, a2, a3, a4, a5, a6, L, a7, a8⟩
  · rcases h2 with ⟨b1, b2, b3, b4, b5⟩ | ⟨b1, b2⟩ | ⟨b1, b2⟩ | ⟨b1, b2⟩
    · exact ⟨z_e (by omega), a3.trans b3.symm, a4.trans b4.symm, a5.trans b5.symm⟩
    · exact absurd b1 a1
    · exact absurd b1 a1
    · exact absurd b1 a1
  · rcases h2 with ⟨b1, b2, b3, b4, b5⟩ | ⟨b1, ⟨j, b2, b3, b4, b5⟩, b6, b7, b8⟩ | ⟨b1, b2, b3⟩ | ⟨b1, b2, b3⟩
    · exact absurd a1 b1
    · have e : k = j := by
        by_cases q : k < j
        · exact absurd a4 (b5 k q)
        · by_cases q2 : j < k
          · exact absurd b4 (a5 j q2)
          · omega
      exact ⟨z_e (by omega), a6.trans b6.symm, a7.trans b7.symm, a8.trans b8.symm⟩
    · exact absurd a4 (b2 k a2)
    · exact absurd a4 (b2 k a2)
  · rcases h2 with ⟨b1, b2⟩ | ⟨b1, ⟨j, b2, b3, b4, b5⟩, b6⟩ | ⟨b1, b2, b3, b4, b5, b6, b7⟩ | ⟨b1, b2, b3, b4⟩
    · exact absurd a1 b1
    · exact absurd b4 (a2 j b2)
    · exact ⟨z_e (by omega), a5.trans b5.symm, a6.trans b6.symm, a7.trans b7.symm⟩
    · exact absurd a3 (by omega)
  · rcases h2 with ⟨b1, b2⟩ | ⟨b1, ⟨j, b2, b3, b4, b5⟩, b6⟩ | ⟨b1, b2, b3, b4⟩ | ⟨b1, b2, b3, b4, b5, b6, L2, b7, b8⟩
    · exact absurd a1 b1
    · exact absurd b4 (a2 j b2)
    · exact absurd a3 (by omega)
    · have eL : L = L2 := z_e (by omega)
      exact ⟨z_e (by omega), a6.trans b6.symm, by rw [a8, b8, eL], z_e (by omega)⟩
theorem cpw_step {f b h : Nat → Int32} {o k : Nat} {ix v : Int32} (hh : h = va_cpy f b 0 o k) (hi : ix.toInt = (o : Int) + (k : Int)) (hv : v = f k) : upd h (Int32.toNatClampNeg ix) v = va_cpy f b 0 o (k + 1) := by
  have hc := clampI (x := ix) (by omega)
  have e1 : Int32.toNatClampNeg ix = o + k := by omega
  funext j
  rw [hh, e1, hv]
  by_cases q : j = o + k
  · rw [q, pk_us, pk_cpy_in (by omega) (by omega)]
    exact congrArg f (by omega)
  · rw [pk_un q]
    by_cases q2 : o ≤ j ∧ j < o + k
    · rw [pk_cpy_in q2.1 q2.2, pk_cpy_in q2.1 (by omega)]
    · rw [pk_cpy_out (by omega), pk_cpy_out (by omega)]
theorem cpw_0 {f b : Nat → Int32} {o : Nat} : b = va_cpy f b 0 o 0 := by
  funext j
  rw [pk_cpy_out (by omega)]
abbrev sbs (f : Nat → Int32) (a n : Int) (g : Nat → Int32) (b m : Int) : Prop := n = m ∧ ∀ i : Nat, (i : Int) < n → f (a.toNat + i) = g (b.toNat + i)
theorem sbs_mt {bt bs f c : Nat → Int32} {n a b m : Int} {k : Nat} (ha : a = 24 * (k : Int)) (hb : b = 0) (hm : m = n) (hc : ∀ i : Nat, (i : Int) < n → c i = f i) : sbs bt a (bs k).toInt c b m ↔ mt bt bs f n k := by
  subst ha hb hm
  have e1 : (24 * (k : Int)).toNat = 24 * k := by omega
  constructor
  · intro h
    refine ⟨h.1, fun i hi => ?_⟩
    have h5 := h.2 i (by rw [h.1]; exact hi)
    rw [e1] at h5
    rw [h5, ← hc i hi]
    exact congrArg c (by show (0 : Int).toNat + i = i; omega)
  · intro h
    refine ⟨h.1, fun i hi => ?_⟩
    rw [h.1] at hi
    rw [e1, h.2 i hi, ← hc i hi]
    exact congrArg c (by show i = (0 : Int).toNat + i; omega)
theorem fit_id {x : Int32} (h : fits .byte (.int x) = true) : vp_nar .byte x = x := by
  have h1 : (-128 : Int32).toInt = -128 := by decide
  have h2 : (127 : Int32).toInt = 127 := by decide
  simp only [fits, Bool.and_eq_true, decide_eq_true_eq, Int32.le_iff_toInt_le, h1, h2] at h
  rw [vp_nar_byte]
  apply z_e
  rw [Int8.toInt_toInt32, Int32.toInt_toInt8]
  exact Int.bmod_eq_of_le (by omega) (by omega)
abbrev WRD (bt bs : Nat → Int32) (w : Int) (p0 p1 : Int) (r : Int32) : Prop := (0 ≤ p0 ∧ p0 < w ∧ 0 ≤ p1 ∧ p1 < (bs p0.toNat).toInt ∧ r = bt (24 * p0.toNat + p1.toNat)) ∨ ((p0 < 0 ∨ w ≤ p0 ∨ p1 < 0 ∨ (bs p0.toNat).toInt ≤ p1) ∧ r.toInt = -1)
theorem wp_at {α : Type} {m : Option α} {Q : α → Prop} {r : α} (h : wp m Q) (e : m = some r) : Q r := by
  obtain ⟨x, e2, q⟩ := h
  obtain rfl : x = r := Option.some.inj (e2.symm.trans e)
  exact q
