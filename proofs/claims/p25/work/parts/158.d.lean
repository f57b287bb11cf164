/-! reading: tables of words, the grammar -/
abbrev Wd : Type := List Int32
abbrev Lw : Type := Wd × Wd × Wd × Wd × Int32 × Int32
abbrev Dr : Type := List (Wd × Option Wd) × List Wd × List Lw
abbrev Er : Type := Option (Nat × Nat)
abbrev Ou : Type := Except (Nat × Nat) (Nat × Dr)
def wdl (f : Nat → Int32) (s m : Nat) : Wd := (List.range m).map (fun j => f (s + j))
theorem wdl_len {f : Nat → Int32} {s m : Nat} : (wdl f s m).length = m := by
  unfold wdl
  rw [List.length_map, List.length_range]
theorem wdl_get {f : Nat → Int32} {s m j : Nat} (h : j < m) : (wdl f s m)[j]? = some (f (s + j)) := by
  unfold wdl
  rw [List.getElem?_map, List.getElem?_range h]
  rfl
theorem wdl_ext {f g : Nat → Int32} {s t m : Nat} (h : ∀ j, j < m → f (s + j) = g (t + j)) : wdl f s m = wdl g t m := by
  unfold wdl
  apply List.map_congr_left
  intro j hj
  exact h j (List.mem_range.mp hj)
theorem wdl_inj {f g : Nat → Int32} {s t m n : Nat} : wdl f s m = wdl g t n ↔ (m = n ∧ ∀ j, j < m → f (s + j) = g (t + j)) := by
  constructor
  · intro h
    have hl : m = n := by
      have := congrArg List.length h
      rwa [wdl_len, wdl_len] at this
    subst hl
    refine ⟨rfl, fun j hj => ?_⟩
    have h1 := congrArg (fun l => l[j]?) h
    replace h1 : (wdl f s m)[j]? = (wdl g t m)[j]? := h1
    rw [wdl_get hj, wdl_get hj] at h1
    exact Option.some.inj h1
  · intro h
    obtain ⟨h1, h2⟩ := h
    subst h1
    exact wdl_ext h2
theorem wdl_nil {f : Nat → Int32} {s m : Nat} : wdl f s m = [] ↔ m = 0 := by
  constructor
  · intro h
    have := congrArg List.length h
    rw [wdl_len] at this
    exact this
  · intro h
    subst h
    rfl
def tab {α : Type} (n : Nat) (g : Nat → α) : List α := (List.range n).map g
theorem tab_len {α : Type} {n : Nat} {g : Nat → α} : (tab n g).length = n := by
  unfold tab
  rw [List.length_map, List.length_range]
theorem tab_get {α : Type} {n j : Nat} {g : Nat → α} (h : j < n) : (tab n g)[j]? = some (g j) := by
  unfold tab
  rw [List.getElem?_map, List.getElem?_range h]
  rfl
theorem tab_ext {α : Type} {n : Nat} {g h : Nat → α} (e : ∀ j, j < n → g j = h j) : tab n g = tab n h := by
  unfold tab
  apply List.map_congr_left
  intro j hj
  exact e j (List.mem_range.mp hj)
theorem tab_succ {α : Type} {n : Nat} {g : Nat → α} : tab (n + 1) g = tab n g ++ [g n] := by
  unfold tab
  rw [List.range_succ, List.map_append]
  rfl
theorem tab_add {α : Type} {n m : Nat} {g h : Nat → α} {x : α} (hm : m = n + 1) (e : ∀ j, j < n → h j = g j) (hx : h n = x) : tab m h = tab n g ++ [x] := by
  subst hm
  rw [tab_succ, hx, tab_ext e]
theorem tab_mem {α : Type} {n : Nat} {g : Nat → α} {x : α} : x ∈ tab n g ↔ ∃ j, j < n ∧ g j = x := by
  unfold tab
  rw [List.mem_map]
  constructor
  · rintro ⟨j, h1, h2⟩
    exact ⟨j, List.mem_range.mp h1, h2⟩
  · rintro ⟨j, h1, h2⟩
    exact ⟨j, List.mem_range.mpr h1, h2⟩
theorem tab_map {α β : Type} {n : Nat} {g : Nat → α} {h : α → β} : (tab n g).map h = tab n (fun j => h (g j)) := by
  unfold tab
  rw [List.map_map]
  rfl
def rwW (c : Int32) (fl fs : Nat → Int32) (w : Nat) : List Wd := tab (Int32.toNatClampNeg c) (fun i => wdl fl (w * i) (Int32.toNatClampNeg (fs i)))
noncomputable def fKey (f : Nat → Int32) (n e k : Nat) : Bool := @decide (tK f n e = 1 ∧ isk f (tP f n e) (tL f n e) k) (Classical.propDecidable _)
def fLet (f : Nat → Int32) (n e : Nat) (sm : Bool) : Er := if tK f n e ≠ 2 then some (1, tP f n e) else if sm = true ∧ tL f n e = 0 then some (2, tP f n e) else none
noncomputable def fTo (f : Nat → Int32) (n e : Nat) : Er := if fKey f n e 2 = true then none else some (1, tP f n e)
def fCl (f : Nat → Int32) (n e : Nat) : Er := if tK f n e = 3 then none else some (1, tP f n e)
def tW (f : Nat → Int32) (n e : Nat) : Wd := wdl f (tP f n e + 1) (tL f n e)
def oB (x : Er) (k : Ou) : Ou := match x with
  | some p => .error p
  | none => k
def newF (f : Nat → Int32) (n e : Nat) (ws : List Wd) : Er := match fLet f n e true with
  | some x => some x
  | none => if tW f n e ∈ ws then some (3, tP f n e) else none
noncomputable def entF (f : Nat → Int32) (n pl e : Nat) (d : Dr) (isL : Bool) : Ou := if 40 ≤ d.1.length then .error (4, pl) else oB (newF f n e (d.1.map Prod.fst)) (if isL = true then oB (fTo f n (tE f n e)) (oB (fLet f n (tE f n (tE f n e)) false) (oB (fCl f n (tE f n (tE f n (tE f n e)))) (.ok (tE f n (tE f n (tE f n (tE f n e))), (d.1 ++ [(tW f n e, some (tW f n (tE f n (tE f n e))))], d.2))))) else oB (fCl f n (tE f n e)) (.ok (tE f n (tE f n e), (d.1 ++ [(tW f n e, none)], d.2))))
def prtF (f : Nat → Int32) (n pl e : Nat) (d : Dr) : Ou := if 40 ≤ d.2.1.length then .error (4, pl) else oB (newF f n e d.2.1) (oB (fCl f n (tE f n e)) (.ok (tE f n (tE f n e), (d.1, d.2.1 ++ [tW f n e], d.2.2))))
noncomputable def sidF (f : Nat → Int32) (n : Nat) (d : Dr) : Nat → Nat → Lw → Ou
  | 0, e, _ => .error (1, tP f n e)
  | k + 1, e, (x, y, a, b, s, t) => if tK f n e = 3 then .ok (tE f n e, (d.1, d.2.1, d.2.2 ++ [(x, y, a, b, s, t)])) else if fKey f n e 5 = true then (if s ≠ 0 then .error (3, tP f n e) else sidF f n d k (tE f n e) (x, y, a, b, 1, t)) else if fKey f n e 6 = true then (if t ≠ 0 then .error (3, tP f n e) else sidF f n d k (tE f n e) (x, y, a, b, s, 1)) else if fKey f n e 7 = true then (if a ≠ [] then .error (3, tP f n e) else oB (fLet f n (tE f n e) true) (sidF f n d k (tE f n (tE f n e)) (x, y, tW f n (tE f n e), b, s, t))) else if fKey f n e 8 = true then (if b ≠ [] then .error (3, tP f n e) else oB (fLet f n (tE f n e) true) (sidF f n d k (tE f n (tE f n e)) (x, y, a, tW f n (tE f n e), s, t))) else .error (1, tP f n e)
noncomputable def lawF (f : Nat → Int32) (n pl e : Nat) (d : Dr) : Ou := if 40 ≤ d.2.2.length then .error (4, pl) else oB (fLet f n e true) (oB (fTo f n (tE f n e)) (oB (fLet f n (tE f n (tE f n e)) false) (sidF f n d 5 (tE f n (tE f n (tE f n e))) (tW f n e, tW f n (tE f n (tE f n e)), [], [], 0, 0))))
noncomputable def itmF (f : Nat → Int32) (n e : Nat) (d : Dr) : Ou := if fKey f n e 0 = true then entF f n (tP f n e) (tE f n e) d false else if fKey f n e 1 = true then entF f n (tP f n e) (tE f n e) d true else if fKey f n e 3 = true then prtF f n (tP f n e) (tE f n e) d else if fKey f n e 4 = true then lawF f n (tP f n e) (tE f n e) d else .error (1, tP f n e)
noncomputable def parF (f : Nat → Int32) (n : Nat) : Nat → Nat → Dr → Er × Dr
  | 0, _, d => (none, d)
  | k + 1, e, d => if tK f n e = 0 then (none, d) else match itmF f n e d with
    | .error x => (some x, d)
    | .ok (e1, d1) => parF f n k e1 d1
def ERR (o : Er) (k p : Int32) : Prop := o = some (Int32.toNatClampNeg k, Int32.toNatClampNeg p) ∧ 1 ≤ k.toInt ∧ 0 ≤ p.toInt
theorem fKey_t {f : Nat → Int32} {n e k : Nat} (h : tK f n e = 1) (h2 : isk f (tP f n e) (tL f n e) k) : fKey f n e k = true := by
  unfold fKey
  exact @decide_eq_true _ (Classical.propDecidable _) ⟨h, h2⟩
theorem fKey_f {f : Nat → Int32} {n e k : Nat} (h : ¬ (tK f n e = 1 ∧ isk f (tP f n e) (tL f n e) k)) : fKey f n e k = false := by
  unfold fKey
  exact @decide_eq_false _ (Classical.propDecidable _) h
theorem fKey_k {f : Nat → Int32} {n e k : Nat} (h : fKey f n e k = true) : tK f n e = 1 ∧ isk f (tP f n e) (tL f n e) k := by
  unfold fKey at h
  exact @of_decide_eq_true _ (Classical.propDecidable _) h
theorem key_u {f : Nat → Int32} {n e j k : Nat} (h : fKey f n e j = true) (hj : j < 9) (hk : k < 9) (hne : k ≠ j) : fKey f n e k = false := by
  refine fKey_f (fun q => hne ?_)
  exact (isk_u hj hk (fKey_k h).2 q.2).symm
theorem fLet_bad {f : Nat → Int32} {n e : Nat} {sm : Bool} (h : tK f n e ≠ 2) : fLet f n e sm = some (1, tP f n e) := if_pos h
theorem fLet_emp {f : Nat → Int32} {n e : Nat} {sm : Bool} (h : tK f n e = 2) (hs : sm = true) (hl : tL f n e = 0) : fLet f n e sm = some (2, tP f n e) := by
  unfold fLet
  rw [if_neg (by omega), if_pos ⟨hs, hl⟩]
theorem fLet_ok {f : Nat → Int32} {n e : Nat} {sm : Bool} (h : tK f n e = 2) (hl : sm = true → 0 < tL f n e) : fLet f n e sm = none := by
  unfold fLet
  rw [if_neg (by omega), if_neg (fun q => by have := hl q.1; have := q.2; omega)]
theorem fLet_k {f : Nat → Int32} {n e : Nat} {sm : Bool} (h : fLet f n e sm = none) : tK f n e = 2 ∧ (sm = true → 0 < tL f n e) := by
  have h1 : tK f n e = 2 := by
    by_cases q : tK f n e = 2
    · exact q
    · rw [fLet_bad q] at h
      cases h
  refine ⟨h1, fun hs => ?_⟩
  by_cases q : tL f n e = 0
  · rw [fLet_emp h1 hs q] at h
    cases h
  · omega
theorem fTo_ok {f : Nat → Int32} {n e : Nat} (h : fKey f n e 2 = true) : fTo f n e = none := if_pos h
theorem fTo_bad {f : Nat → Int32} {n e : Nat} (h : fKey f n e 2 = false) : fTo f n e = some (1, tP f n e) := if_neg (by rw [h]; decide)
theorem fCl_ok {f : Nat → Int32} {n e : Nat} (h : tK f n e = 3) : fCl f n e = none := if_pos h
theorem fCl_bad {f : Nat → Int32} {n e : Nat} (h : tK f n e ≠ 3) : fCl f n e = some (1, tP f n e) := if_neg h
theorem fCl_k {f : Nat → Int32} {n e : Nat} (h : fCl f n e = none) : tK f n e = 3 := by
  by_cases q : tK f n e = 3
  · exact q
  · rw [fCl_bad q] at h
    cases h
theorem newF_let {f : Nat → Int32} {n e : Nat} {ws : List Wd} {x : Nat × Nat} (h : fLet f n e true = some x) : newF f n e ws = some x := by
  unfold newF
  rw [h]
theorem newF_two {f : Nat → Int32} {n e : Nat} {ws : List Wd} (h : fLet f n e true = none) (hw : tW f n e ∈ ws) : newF f n e ws = some (3, tP f n e) := by
  unfold newF
  rw [h]
  exact if_pos hw
theorem newF_ok {f : Nat → Int32} {n e : Nat} {ws : List Wd} (h : fLet f n e true = none) (hw : tW f n e ∉ ws) : newF f n e ws = none := by
  unfold newF
  rw [h]
  exact if_neg hw
theorem newF_k {f : Nat → Int32} {n e : Nat} {ws : List Wd} (h : newF f n e ws = none) : tK f n e = 2 ∧ 0 < tL f n e := by
  have h1 : fLet f n e true = none := by
    cases hx : fLet f n e true with
    | none => rfl
    | some x => rw [newF_let hx] at h; cases h
  exact ⟨(fLet_k h1).1, (fLet_k h1).2 rfl⟩
theorem oB_e {x : Er} {k : Ou} {p : Nat × Nat} (h : x = some p) : oB x k = .error p := by
  rw [h]
  rfl
theorem oB_o {x : Er} {k : Ou} (h : x = none) : oB x k = k := by
  rw [h]
  rfl
theorem tP_ge {f : Nat → Int32} {n : Nat} : ∀ (k e : Nat), e ≤ tSkF f n k e := by
  intro k
  induction k with
  | zero => intro e; exact Nat.le_refl _
  | succ k ih =>
    intro e
    show e ≤ if e < n ∧ blk (f e) then tSkF f n k (e + 1) else e
    by_cases q : e < n ∧ blk (f e)
    · rw [if_pos q]
      have := ih (e + 1)
      omega
    · rw [if_neg q]
      exact Nat.le_refl _
theorem tP_le {f : Nat → Int32} {n e : Nat} : e ≤ tP f n e := tP_ge _ _
theorem tE_le {f : Nat → Int32} {n e : Nat} : tP f n e ≤ tE f n e := by
  unfold tE
  split
  · exact Nat.le_refl _
  · split
    · omega
    · split <;> omega
theorem tE_3 {f : Nat → Int32} {n e : Nat} (h : tK f n e = 3) : tE f n e = tP f n e + 1 ∧ tP f n e < n := by
  refine ⟨?_, ?_⟩
  · unfold tE
    rw [if_neg (by omega), if_pos h]
  · by_cases q : n ≤ tP f n e
    · unfold tK at h
      rw [if_pos q] at h
      cases h
    · omega
theorem tE_2 {f : Nat → Int32} {n e : Nat} (h : tK f n e = 2) : tE f n e = tP f n e + tL f n e + 2 := by
  unfold tE
  rw [if_neg (by omega), if_neg (by omega), if_pos h]
theorem tL_2 {f : Nat → Int32} {n e : Nat} (h : tK f n e = 2) : tL f n e ≤ 16 ∧ tP f n e + 1 + tL f n e < n := by
  unfold tK at h
  by_cases q0 : n ≤ tP f n e
  · rw [if_pos q0] at h
    cases h
  · rw [if_neg q0] at h
    by_cases q1 : (f (tP f n e)).toInt = 59
    · rw [if_pos q1] at h
      cases h
    · rw [if_neg q1] at h
      by_cases q2 : (f (tP f n e)).toInt = 39
      · rw [if_pos q2] at h
        by_cases q3 : tLok f n (tP f n e)
        · have hL : tL f n e = tRn f n (tP f n e + 1) := by unfold tL; rw [if_pos q2]
          rw [hL]
          exact ⟨q3.1, q3.2.1⟩
        · rw [if_neg q3] at h
          cases h
      · rw [if_neg q2] at h
        by_cases q4 : 0 < tRn f n (tP f n e)
        · rw [if_pos q4] at h
          cases h
        · rw [if_neg q4] at h
          cases h
def okE (n e : Nat) (o : Ou) : Prop := ∀ e1 d1, o = .ok (e1, d1) → e < e1 ∧ e1 ≤ n
theorem okE_err {n e : Nat} {x : Nat × Nat} : okE n e (.error x) := fun _ _ h => by cases h
theorem okE_oB {n e : Nat} {x : Er} {k : Ou} (h : x = none → okE n e k) : okE n e (oB x k) := by
  cases hx : x with
  | none => exact h hx
  | some p => exact okE_err
theorem okE_cl {f : Nat → Int32} {n e e0 : Nat} {d : Dr} (h : e0 ≤ e) : okE n e0 (oB (fCl f n e) (.ok (tE f n e, d))) := by
  refine okE_oB (fun hx => ?_)
  intro e1 d1 h1
  injection h1 with h1
  injection h1 with h1 h2
  have h3 := tE_3 (fCl_k hx)
  have h4 := tP_le (f := f) (n := n) (e := e)
  omega
theorem tEm {f : Nat → Int32} {n e : Nat} : e ≤ tE f n e := Nat.le_trans tP_le tE_le
theorem sid_ok {f : Nat → Int32} {n e0 : Nat} {d : Dr} : ∀ (k e : Nat) (l : Lw), e0 ≤ e → okE n e0 (sidF f n d k e l) := by
  intro k
  induction k with
  | zero => intro e l h; exact okE_err
  | succ k ih =>
    intro e l h
    obtain ⟨x, y, a, b, s, t⟩ := l
    have m1 := tEm (f := f) (n := n) (e := e)
    have m2 := tEm (f := f) (n := n) (e := tE f n e)
    unfold sidF
    split
    · rename_i q
      intro e1 d1 h1
      injection h1 with h1
      injection h1 with h1 h2
      have h3 := tE_3 q
      have h4 := tP_le (f := f) (n := n) (e := e)
      omega
    · split
      · split
        · exact okE_err
        · exact ih _ _ (by omega)
      · split
        · split
          · exact okE_err
          · exact ih _ _ (by omega)
        · split
          · split
            · exact okE_err
            · exact okE_oB (fun _ => ih _ _ (by omega))
          · split
            · split
              · exact okE_err
              · exact okE_oB (fun _ => ih _ _ (by omega))
            · exact okE_err
theorem itm_ok {f : Nat → Int32} {n e : Nat} {d : Dr} : okE n e (itmF f n e d) := by
  have m0 := tEm (f := f) (n := n) (e := e)
  have m1 := tEm (f := f) (n := n) (e := tE f n e)
  have m2 := tEm (f := f) (n := n) (e := tE f n (tE f n e))
  have m3 := tEm (f := f) (n := n) (e := tE f n (tE f n (tE f n e)))
  have hent : ∀ b, okE n e (entF f n (tP f n e) (tE f n e) d b) := by
    intro b
    unfold entF
    split
    · exact okE_err
    · refine okE_oB (fun _ => ?_)
      split
      · refine okE_oB (fun _ => okE_oB (fun _ => okE_cl (by omega)))
      · exact okE_cl (by omega)
  unfold itmF
  split
  · exact hent false
  · split
    · exact hent true
    · split
      · unfold prtF
        split
        · exact okE_err
        · exact okE_oB (fun _ => okE_cl (by omega))
      · split
        · unfold lawF
          split
          · exact okE_err
          · refine okE_oB (fun _ => okE_oB (fun _ => okE_oB (fun _ => sid_ok _ _ _ (by omega))))
        · exact okE_err
theorem par_end {f : Nat → Int32} {n k e : Nat} {d : Dr} (h : tK f n e = 0) : parF f n (k + 1) e d = (none, d) := by
  unfold parF
  exact if_pos h
theorem par_err {f : Nat → Int32} {n k e : Nat} {d : Dr} {x : Nat × Nat} (h : tK f n e ≠ 0) (hi : itmF f n e d = .error x) : parF f n (k + 1) e d = (some x, d) := by
  unfold parF
  rw [if_neg h, hi]
theorem par_ok {f : Nat → Int32} {n k e e1 : Nat} {d d1 : Dr} (h : tK f n e ≠ 0) (hi : itmF f n e d = .ok (e1, d1)) : parF f n (k + 1) e d = parF f n k e1 d1 := by
  conv => lhs; unfold parF
  rw [if_neg h, hi]
theorem entF_full {f : Nat → Int32} {n pl e : Nat} {d : Dr} {b : Bool} (h : 40 ≤ d.1.length) : entF f n pl e d b = .error (4, pl) := if_pos h
theorem entF_new {f : Nat → Int32} {n pl e : Nat} {d : Dr} {b : Bool} {x : Nat × Nat} (h : ¬ 40 ≤ d.1.length) (hn : newF f n e (d.1.map Prod.fst) = some x) : entF f n pl e d b = .error x := by
  unfold entF
  rw [if_neg h, oB_e hn]
theorem entF_kc {f : Nat → Int32} {n pl e : Nat} {d : Dr} {x : Nat × Nat} (h : ¬ 40 ≤ d.1.length) (hn : newF f n e (d.1.map Prod.fst) = none) (hc : fCl f n (tE f n e) = some x) : entF f n pl e d false = .error x := by
  unfold entF
  rw [if_neg h, oB_o hn, if_neg (by decide), oB_e hc]
theorem entF_k {f : Nat → Int32} {n pl e : Nat} {d : Dr} (h : ¬ 40 ≤ d.1.length) (hn : newF f n e (d.1.map Prod.fst) = none) (hc : fCl f n (tE f n e) = none) : entF f n pl e d false = .ok (tE f n (tE f n e), (d.1 ++ [(tW f n e, none)], d.2)) := by
  unfold entF
  rw [if_neg h, oB_o hn, if_neg (by decide), oB_o hc]
theorem entF_l1 {f : Nat → Int32} {n pl e : Nat} {d : Dr} {x : Nat × Nat} (h : ¬ 40 ≤ d.1.length) (hn : newF f n e (d.1.map Prod.fst) = none) (h1 : fTo f n (tE f n e) = some x) : entF f n pl e d true = .error x := by
  unfold entF
  rw [if_neg h, oB_o hn, if_pos rfl, oB_e h1]
theorem entF_l2 {f : Nat → Int32} {n pl e : Nat} {d : Dr} {x : Nat × Nat} (h : ¬ 40 ≤ d.1.length) (hn : newF f n e (d.1.map Prod.fst) = none) (h1 : fTo f n (tE f n e) = none) (h2 : fLet f n (tE f n (tE f n e)) false = some x) : entF f n pl e d true = .error x := by
  unfold entF
  rw [if_neg h, oB_o hn, if_pos rfl, oB_o h1, oB_e h2]
theorem entF_l3 {f : Nat → Int32} {n pl e : Nat} {d : Dr} {x : Nat × Nat} (h : ¬ 40 ≤ d.1.length) (hn : newF f n e (d.1.map Prod.fst) = none) (h1 : fTo f n (tE f n e) = none) (h2 : fLet f n (tE f n (tE f n e)) false = none) (h3 : fCl f n (tE f n (tE f n (tE f n e))) = some x) : entF f n pl e d true = .error x := by
  unfold entF
  rw [if_neg h, oB_o hn, if_pos rfl, oB_o h1, oB_o h2, oB_e h3]
theorem entF_l {f : Nat → Int32} {n pl e : Nat} {d : Dr} (h : ¬ 40 ≤ d.1.length) (hn : newF f n e (d.1.map Prod.fst) = none) (h1 : fTo f n (tE f n e) = none) (h2 : fLet f n (tE f n (tE f n e)) false = none) (h3 : fCl f n (tE f n (tE f n (tE f n e))) = none) : entF f n pl e d true = .ok (tE f n (tE f n (tE f n (tE f n e))), (d.1 ++ [(tW f n e, some (tW f n (tE f n (tE f n e))))], d.2)) := by
  unfold entF
  rw [if_neg h, oB_o hn, if_pos rfl, oB_o h1, oB_o h2, oB_o h3]
theorem prtF_full {f : Nat → Int32} {n pl e : Nat} {d : Dr} (h : 40 ≤ d.2.1.length) : prtF f n pl e d = .error (4, pl) := if_pos h
theorem prtF_new {f : Nat → Int32} {n pl e : Nat} {d : Dr} {x : Nat × Nat} (h : ¬ 40 ≤ d.2.1.length) (hn : newF f n e d.2.1 = some x) : prtF f n pl e d = .error x := by
  unfold prtF
  rw [if_neg h, oB_e hn]
theorem prtF_c {f : Nat → Int32} {n pl e : Nat} {d : Dr} {x : Nat × Nat} (h : ¬ 40 ≤ d.2.1.length) (hn : newF f n e d.2.1 = none) (hc : fCl f n (tE f n e) = some x) : prtF f n pl e d = .error x := by
  unfold prtF
  rw [if_neg h, oB_o hn, oB_e hc]
theorem prtF_k {f : Nat → Int32} {n pl e : Nat} {d : Dr} (h : ¬ 40 ≤ d.2.1.length) (hn : newF f n e d.2.1 = none) (hc : fCl f n (tE f n e) = none) : prtF f n pl e d = .ok (tE f n (tE f n e), (d.1, d.2.1 ++ [tW f n e], d.2.2)) := by
  unfold prtF
  rw [if_neg h, oB_o hn, oB_o hc]
theorem lawF_full {f : Nat → Int32} {n pl e : Nat} {d : Dr} (h : 40 ≤ d.2.2.length) : lawF f n pl e d = .error (4, pl) := if_pos h
theorem lawF_1 {f : Nat → Int32} {n pl e : Nat} {d : Dr} {x : Nat × Nat} (h : ¬ 40 ≤ d.2.2.length) (h1 : fLet f n e true = some x) : lawF f n pl e d = .error x := by
  unfold lawF
  rw [if_neg h, oB_e h1]
theorem lawF_2 {f : Nat → Int32} {n pl e : Nat} {d : Dr} {x : Nat × Nat} (h : ¬ 40 ≤ d.2.2.length) (h1 : fLet f n e true = none) (h2 : fTo f n (tE f n e) = some x) : lawF f n pl e d = .error x := by
  unfold lawF
  rw [if_neg h, oB_o h1, oB_e h2]
theorem lawF_3 {f : Nat → Int32} {n pl e : Nat} {d : Dr} {x : Nat × Nat} (h : ¬ 40 ≤ d.2.2.length) (h1 : fLet f n e true = none) (h2 : fTo f n (tE f n e) = none) (h3 : fLet f n (tE f n (tE f n e)) false = some x) : lawF f n pl e d = .error x := by
  unfold lawF
  rw [if_neg h, oB_o h1, oB_o h2, oB_e h3]
theorem lawF_s {f : Nat → Int32} {n pl e : Nat} {d : Dr} (h : ¬ 40 ≤ d.2.2.length) (h1 : fLet f n e true = none) (h2 : fTo f n (tE f n e) = none) (h3 : fLet f n (tE f n (tE f n e)) false = none) : lawF f n pl e d = sidF f n d 5 (tE f n (tE f n (tE f n e))) (tW f n e, tW f n (tE f n (tE f n e)), [], [], 0, 0) := by
  unfold lawF
  rw [if_neg h, oB_o h1, oB_o h2, oB_o h3]
theorem itm_0 {f : Nat → Int32} {n e : Nat} {d : Dr} (h : fKey f n e 0 = true) : itmF f n e d = entF f n (tP f n e) (tE f n e) d false := if_pos h
theorem itm_1 {f : Nat → Int32} {n e : Nat} {d : Dr} (h0 : fKey f n e 0 = false) (h : fKey f n e 1 = true) : itmF f n e d = entF f n (tP f n e) (tE f n e) d true := by
  unfold itmF
  rw [if_neg (by rw [h0]; decide), if_pos h]
theorem itm_3 {f : Nat → Int32} {n e : Nat} {d : Dr} (h0 : fKey f n e 0 = false) (h1 : fKey f n e 1 = false) (h : fKey f n e 3 = true) : itmF f n e d = prtF f n (tP f n e) (tE f n e) d := by
  unfold itmF
  rw [if_neg (by rw [h0]; decide), if_neg (by rw [h1]; decide), if_pos h]
theorem itm_4 {f : Nat → Int32} {n e : Nat} {d : Dr} (h0 : fKey f n e 0 = false) (h1 : fKey f n e 1 = false) (h3 : fKey f n e 3 = false) (h : fKey f n e 4 = true) : itmF f n e d = lawF f n (tP f n e) (tE f n e) d := by
  unfold itmF
  rw [if_neg (by rw [h0]; decide), if_neg (by rw [h1]; decide), if_neg (by rw [h3]; decide), if_pos h]
theorem itm_x {f : Nat → Int32} {n e : Nat} {d : Dr} (h0 : fKey f n e 0 = false) (h1 : fKey f n e 1 = false) (h3 : fKey f n e 3 = false) (h4 : fKey f n e 4 = false) : itmF f n e d = .error (1, tP f n e) := by
  unfold itmF
  rw [if_neg (by rw [h0]; decide), if_neg (by rw [h1]; decide), if_neg (by rw [h3]; decide), if_neg (by rw [h4]; decide)]
def kct (es : List (Wd × Option Wd)) : Nat := (es.filter (fun x => x.2.isNone)).length
theorem kct_app {es : List (Wd × Option Wd)} {x : Wd × Option Wd} : kct (es ++ [x]) = kct es + (if x.2.isNone = true then 1 else 0) := by
  unfold kct
  rw [List.filter_append, List.length_append]
  congr 1
  by_cases q : x.2.isNone = true
  · rw [if_pos q, List.filter_cons_of_pos (p := fun x : Wd × Option Wd => x.2.isNone) q]
    rfl
  · rw [if_neg q, List.filter_cons_of_neg (p := fun x : Wd × Option Wd => x.2.isNone) q]
    rfl
theorem kct_le {es : List (Wd × Option Wd)} : kct es ≤ es.length := List.length_filter_le _ _
