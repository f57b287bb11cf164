/-! turning: a law, laws -/
abbrev lS (L : Lw) (W : Wd) (p : Nat) (dn : Wd) : Prop := ((W.drop p).take L.1.length = L.1) ∧ (L.2.2.2.2.1 ≠ 0 → dn = []) ∧ (L.2.2.2.2.2 ≠ 0 → p + L.1.length = W.length) ∧ (dn.drop (dn.length - L.2.2.1.length) = L.2.2.1) ∧ ((W.drop (p + L.1.length)).take L.2.2.2.1.length = L.2.2.2.1)
def thr (L : Lw) (W : Wd) : Nat → Nat → Wd → Bool → Wd × Bool
  | 0, _, dn, b => (dn, b)
  | k + 1, p, dn, b => if p < W.length then (if lS L W p dn then thr L W k (p + L.1.length) (dn ++ L.2.1) true else thr L W k (p + 1) (dn ++ (W.drop p).take 1) b) else (dn, b)
theorem thr_end {L : Lw} {W : Wd} {k p : Nat} {dn : Wd} {b : Bool} (h : W.length ≤ p) : thr L W k p dn b = (dn, b) := by
  cases k with
  | zero => rfl
  | succ k => exact if_neg (by omega)
theorem thr_yes {L : Lw} {W : Wd} {k p : Nat} {dn : Wd} {b : Bool} (h : p < W.length) (hs : lS L W p dn) : thr L W (k + 1) p dn b = thr L W k (p + L.1.length) (dn ++ L.2.1) true := by
  show (if p < W.length then _ else _) = _
  rw [if_pos h, if_pos hs]
theorem thr_no {L : Lw} {W : Wd} {k p : Nat} {dn : Wd} {b : Bool} (h : p < W.length) (hs : ¬ lS L W p dn) : thr L W (k + 1) p dn b = thr L W k (p + 1) (dn ++ (W.drop p).take 1) b := by
  show (if p < W.length then _ else _) = _
  rw [if_pos h, if_neg hs]
theorem thr_len {L : Lw} {W : Wd} : ∀ (k p : Nat) (dn : Wd) (b : Bool), dn.length ≤ (thr L W k p dn b).1.length := by
  intro k
  induction k with
  | zero => exact fun p dn b => Nat.le_refl _
  | succ k ih =>
    intro p dn b
    by_cases h : p < W.length
    · by_cases hs : lS L W p dn
      · rw [thr_yes h hs]
        exact Nat.le_trans (by rw [List.length_append]; omega) (ih _ _ _)
      · rw [thr_no h hs]
        exact Nat.le_trans (by rw [List.length_append]; omega) (ih _ _ _)
    · rw [thr_end (by omega)]
      exact Nat.le_refl _
theorem thr_tr {L : Lw} {W : Wd} : ∀ (k p : Nat) (dn : Wd), (thr L W k p dn true).2 = true := by
  intro k
  induction k with
  | zero => exact fun p dn => rfl
  | succ k ih =>
    intro p dn
    by_cases h : p < W.length
    · by_cases hs : lS L W p dn
      · rw [thr_yes h hs]
        exact ih _ _
      · rw [thr_no h hs]
        exact ih _ _
    · rw [thr_end (by omega)]
theorem drop1 {W : Wd} {p : Nat} : (W.drop p).take 1 ++ W.drop (p + 1) = W.drop p := by
  have e : (W.drop p).drop 1 = W.drop (p + 1) := by rw [List.drop_drop] <;> rw [Nat.add_comm]
  rw [← e, List.take_append_drop]
theorem thr_same {L : Lw} {W : Wd} : ∀ (k p : Nat) (dn : Wd), W.length ≤ k + p → (thr L W k p dn false).2 = false → (thr L W k p dn false).1 = dn ++ W.drop p := by
  intro k
  induction k with
  | zero =>
    intro p dn hk _
    rw [List.drop_eq_nil_of_le (by omega), List.append_nil]
    rfl
  | succ k ih =>
    intro p dn hk hf
    by_cases h : p < W.length
    · by_cases hs : lS L W p dn
      · rw [thr_yes h hs, thr_tr] at hf
        cases hf
      · rw [thr_no h hs] at hf
        rw [thr_no h hs, ih _ _ (by omega) hf, List.append_assoc, drop1]
    · rw [thr_end (by omega), List.drop_eq_nil_of_le (by omega), List.append_nil]
def lawT (L : Lw) (W : Wd) : Wd × Bool := thr L W W.length 0 [] false
theorem lawT_same {L : Lw} {W : Wd} (h : (lawT L W).2 = false) : (lawT L W).1 = W := thr_same W.length 0 [] (by omega) h
def runL : List Lw → Wd → Option Wd
  | [], W => some W
  | L :: Ls, W => if 24 < (lawT L W).1.length then none else runL Ls (lawT L W).1
theorem runL_long {Ls : List Lw} {L : Lw} {W : Wd} {i : Nat} (h : Ls[i]? = some L) (hl : 24 < (lawT L W).1.length) : runL (Ls.drop i) W = none := by
  obtain ⟨hi, e⟩ := List.getElem?_eq_some_iff.mp h
  rw [List.drop_eq_getElem_cons hi, e]
  exact if_pos hl
theorem runL_step {Ls : List Lw} {L : Lw} {W : Wd} {i : Nat} (h : Ls[i]? = some L) (hl : (lawT L W).1.length ≤ 24) : runL (Ls.drop i) W = runL (Ls.drop (i + 1)) (lawT L W).1 := by
  obtain ⟨hi, e⟩ := List.getElem?_eq_some_iff.mp h
  rw [List.drop_eq_getElem_cons hi, e]
  exact if_neg (by omega)
theorem runL_end {Ls : List Lw} {W : Wd} {i : Nat} (h : Ls.length ≤ i) : runL (Ls.drop i) W = some W := by
  rw [List.drop_eq_nil_of_le h]
  rfl
theorem runL_le {W1 : Wd} : ∀ (Ls : List Lw) (W : Wd), W.length ≤ 24 → runL Ls W = some W1 → W1.length ≤ 24 := by
  intro Ls
  induction Ls with
  | nil =>
    intro W hW h
    cases h
    exact hW
  | cons L Ls ih =>
    intro W hW h
    by_cases hl : 24 < (lawT L W).1.length
    · rw [show runL (L :: Ls) W = none from if_pos hl] at h
      cases h
    · rw [show runL (L :: Ls) W = runL Ls (lawT L W).1 from if_neg hl] at h
      exact ih _ (by omega) h
theorem wdl_dt {f : Nat → Int32} {s n p m : Nat} (h : p + m ≤ n) : ((wdl f s n).drop p).take m = wdl f (s + p) m := by
  apply List.ext_getElem?
  intro j
  by_cases hj : j < m
  · rw [List.getElem?_take_of_lt hj, List.getElem?_drop, wdl_get (by omega), wdl_get hj, Nat.add_assoc]
  · rw [List.getElem?_eq_none (by rw [List.length_take]; omega), List.getElem?_eq_none (by rw [wdl_len]; omega)]
theorem wdl_app {f : Nat → Int32} {s n m : Nat} : wdl f s n ++ wdl f (s + n) m = wdl f s (n + m) := by
  have e1 : (wdl f s (n + m)).take n = wdl f s n := by
    have := wdl_dt (f := f) (s := s) (n := n + m) (p := 0) (m := n) (by omega)
    exact this
  have e2 : (wdl f s (n + m)).drop n = wdl f (s + n) m := by
    have := wdl_dt (f := f) (s := s) (n := n + m) (p := n) (m := m) (Nat.le_refl _)
    rw [List.take_of_length_le (by rw [List.length_drop, wdl_len]; omega)] at this
    exact this
  rw [← e1, ← e2, List.take_append_drop]
theorem wdl_drop {f : Nat → Int32} {s n p : Nat} : (wdl f s n).drop p = wdl f (s + p) (n - p) := by
  by_cases h : p ≤ n
  · have := wdl_dt (f := f) (s := s) (n := n) (p := p) (m := n - p) (by omega)
    rw [List.take_of_length_le (by rw [List.length_drop, wdl_len]; omega)] at this
    exact this
  · rw [List.drop_eq_nil_of_le (by rw [wdl_len]; omega), show n - p = 0 by omega]
    rfl
theorem wdl_s1 {f : Nat → Int32} {s n : Nat} : wdl f s (n + 1) = wdl f s n ++ [f (s + n)] := by
  rw [← wdl_app]
  rfl
theorem take_ok {W w : Wd} {p : Nat} (hp : p ≤ W.length) (h : (W.drop p).take w.length = w) : p + w.length ≤ W.length := by
  have e := congrArg List.length h
  rw [List.length_take, List.length_drop] at e
  omega
theorem lS_iff {L : Lw} {f g : Nat → Int32} {n p d : Nat} (hp : p ≤ n) : lS L (wdl f 0 n) p (wdl g 0 d) ↔ ((p + L.1.length ≤ n ∧ wdl f p L.1.length = L.1) ∧ (L.2.2.2.2.1 ≠ 0 → d = 0) ∧ (L.2.2.2.2.2 ≠ 0 → p + L.1.length = n) ∧ (L.2.2.1.length ≤ d ∧ wdl g (d - L.2.2.1.length) L.2.2.1.length = L.2.2.1) ∧ (p + L.1.length + L.2.2.2.1.length ≤ n ∧ wdl f (p + L.1.length) L.2.2.2.1.length = L.2.2.2.1)) := by
  have hW : (wdl f 0 n).length = n := wdl_len
  have hD : (wdl g 0 d).length = d := wdl_len
  constructor
  · intro ⟨h1, h2, h3, h4, h5⟩
    have k1 := take_ok (by omega) h1
    have k5 := take_ok (by omega) h5
    rw [wdl_dt (by omega), Nat.zero_add] at h1
    rw [wdl_dt (by omega), Nat.zero_add] at h5
    have k4 : L.2.2.1.length ≤ d := by
      have e := congrArg List.length h4
      rw [List.length_drop] at e
      omega
    rw [wdl_drop, hD, Nat.zero_add, show d - (d - L.2.2.1.length) = L.2.2.1.length by omega] at h4
    exact ⟨⟨by omega, h1⟩, fun h => wdl_nil.mp (h2 h), fun h => by have := h3 h; omega, ⟨k4, h4⟩, ⟨by omega, h5⟩⟩
  · intro ⟨⟨k1, h1⟩, h2, h3, ⟨k4, h4⟩, ⟨k5, h5⟩⟩
    refine ⟨?_, fun h => wdl_nil.mpr (h2 h), fun h => by have := h3 h; omega, ?_, ?_⟩
    · rw [wdl_dt (by omega), Nat.zero_add]
      exact h1
    · rw [wdl_drop, hD, Nat.zero_add, show d - (d - L.2.2.1.length) = L.2.2.1.length by omega]
      exact h4
    · rw [wdl_dt (by omega), Nat.zero_add]
      exact h5
theorem wdl_cpy {f g : Nat → Int32} {st d m : Nat} : wdl (va_cpy f g st d m) 0 (d + m) = wdl g 0 d ++ wdl f st m := by
  have e1 : wdl (va_cpy f g st d m) 0 d = wdl g 0 d := wdl_ext (fun j hj => by rw [pk_cpy_out (by omega)])
  have e2 : wdl (va_cpy f g st d m) (0 + d) m = wdl f st m := wdl_ext (fun j hj => by rw [pk_cpy_in (by omega) (by omega)]; exact congrArg f (by omega))
  rw [← wdl_app, e1, e2]
theorem wdl_cpy0 {f g : Nat → Int32} {st d m n : Nat} (hd : d = 0) (hn : n = m) : wdl (va_cpy f g st d m) 0 n = wdl f st m := by
  subst hd hn
  have e := wdl_cpy (f := f) (g := g) (st := st) (d := 0) (m := n)
  rw [Nat.zero_add] at e
  exact e
theorem wdl_up {g : Nat → Int32} {d i : Nat} {v : Int32} (h : i = d) : wdl (upd g i v) 0 (d + 1) = wdl g 0 d ++ [v] := by
  subst h
  rw [wdl_s1, Nat.zero_add, pk_us]
  rw [wdl_ext (g := g) (t := 0) (fun j hj => pk_un (by omega))]
theorem wdl_1 {f : Nat → Int32} {n p : Nat} (h : p < n) : ((wdl f 0 n).drop p).take 1 = [f p] := by
  rw [wdl_dt (by omega), Nat.zero_add]
  rfl
theorem bw_at {W : Wd} {f : Nat → Int32} {n p : Nat} (h : BW W) (e : wdl f 0 n = W) (hp : p < n) : vp_nar .byte (f p) = f p := by
  have hm := wdl_mem (f := f) (s := 0) hp
  rw [Nat.zero_add, e] at hm
  exact h _ hm
theorem bw_app {a b : Wd} (h1 : BW a) (h2 : BW b) : BW (a ++ b) := fun x hx => (List.mem_append.mp hx).elim (h1 x) (h2 x)
theorem thr_bw {L : Lw} {W : Wd} (hW : BW W) (hL : BW L.2.1) : ∀ (k p : Nat) (dn : Wd) (b : Bool), BW dn → BW (thr L W k p dn b).1 := by
  intro k
  induction k with
  | zero => exact fun p dn b h => h
  | succ k ih =>
    intro p dn b hd
    by_cases h : p < W.length
    · by_cases hs : lS L W p dn
      · rw [thr_yes h hs]
        exact ih _ _ _ (bw_app hd hL)
      · rw [thr_no h hs]
        exact ih _ _ _ (bw_app hd (fun x hx => hW x (List.mem_of_mem_drop (List.mem_of_mem_take hx))))
    · rw [thr_end (by omega)]
      exact hd
theorem lawT_bw {L : Lw} {W : Wd} (hW : BW W) (hL : BW L.2.1) : BW (lawT L W).1 := thr_bw hW hL _ _ _ _ (fun x hx => absurd hx List.not_mem_nil)
def TH (L : Lw) (W : Wd) (p : Nat) (dn : Wd) (b : Bool) : Prop := ∃ k, W.length ≤ k + p ∧ lawT L W = thr L W k p dn b
theorem TH_0 {L : Lw} {W : Wd} : TH L W 0 [] false := ⟨W.length, by omega, rfl⟩
theorem TH_end {L : Lw} {W dn : Wd} {p : Nat} {b : Bool} (h : TH L W p dn b) (hp : W.length ≤ p) : lawT L W = (dn, b) := by
  obtain ⟨k, _, e⟩ := h
  rw [e, thr_end hp]
theorem TH_len {L : Lw} {W dn : Wd} {p : Nat} {b : Bool} (h : TH L W p dn b) : dn.length ≤ (lawT L W).1.length := by
  obtain ⟨k, _, e⟩ := h
  rw [e]
  exact thr_len _ _ _ _
theorem TH_tr {L : Lw} {W dn : Wd} {p : Nat} (h : TH L W p dn true) : (lawT L W).2 = true := by
  obtain ⟨k, _, e⟩ := h
  rw [e]
  exact thr_tr _ _ _
theorem TH_yes {L : Lw} {W dn dn1 : Wd} {p p1 : Nat} {b : Bool} (h : TH L W p dn b) (hp : p < W.length) (hs : lS L W p dn) (hne : 1 ≤ L.1.length) (e1 : p1 = p + L.1.length) (e2 : dn1 = dn ++ L.2.1) : TH L W p1 dn1 true := by
  obtain ⟨k, hk, e⟩ := h
  obtain ⟨j, rfl⟩ : ∃ j, k = j + 1 := ⟨k - 1, by omega⟩
  rw [thr_yes hp hs] at e
  subst e1 e2
  exact ⟨j, by omega, e⟩
theorem TH_no {L : Lw} {W dn dn1 : Wd} {p p1 : Nat} {b : Bool} (h : TH L W p dn b) (hp : p < W.length) (hs : ¬ lS L W p dn) (e1 : p1 = p + 1) (e2 : dn1 = dn ++ (W.drop p).take 1) : TH L W p1 dn1 b := by
  obtain ⟨k, hk, e⟩ := h
  obtain ⟨j, rfl⟩ : ∃ j, k = j + 1 := ⟨k - 1, by omega⟩
  rw [thr_no hp hs] at e
  subst e1 e2
  exact ⟨j, by omega, e⟩
