/-! turning: forms -/
def mkA (ls : List Lw) : Wd → List Wd → Option Wd
  | acc, [] => some acc
  | acc, w :: ws => match runL ls w with
    | none => none
    | some x => mkA ls (acc ++ x) ws
theorem drop_at {α : Type} {w : List α} {k : Nat} {x : α} (h : w[k]? = some x) : w.drop k = x :: w.drop (k + 1) := by
  obtain ⟨hi, e⟩ := List.getElem?_eq_some_iff.mp h
  rw [List.drop_eq_getElem_cons hi, e]
theorem mkA_end {ls : List Lw} {acc : Wd} {w : List Wd} {k : Nat} (h : w.length ≤ k) : mkA ls acc (w.drop k) = some acc := by
  rw [List.drop_eq_nil_of_le h]
  rfl
theorem mkA_no {ls : List Lw} {acc x : Wd} {w : List Wd} {k : Nat} (h : w[k]? = some x) (hr : runL ls x = none) : mkA ls acc (w.drop k) = none := by
  rw [drop_at h]
  show (match runL ls x with
    | none => none
    | some y => mkA ls (acc ++ y) (w.drop (k + 1))) = none
  rw [hr]
theorem mkA_yes {ls : List Lw} {acc x y : Wd} {w : List Wd} {k : Nat} (h : w[k]? = some x) (hr : runL ls x = some y) : mkA ls acc (w.drop k) = mkA ls (acc ++ y) (w.drop (k + 1)) := by
  rw [drop_at h]
  show (match runL ls x with
    | none => none
    | some y => mkA ls (acc ++ y) (w.drop (k + 1))) = _
  rw [hr]
def gdF : Option Wd → List Wd
  | none => []
  | some x => if x.length = 0 ∨ 24 < x.length then [] else [x]
theorem gdF_ok {x : Wd} (h : 1 ≤ x.length ∧ x.length ≤ 24) : gdF (some x) = [x] := if_neg (by omega)
theorem gdF_bad {x : Wd} (h : x.length = 0 ∨ 24 < x.length) : gdF (some x) = [] := if_pos h
def addF (m : Nat) (l : List Wd) (x : Wd) : List Wd := if x ∈ l ∨ m ≤ l.length then l else l ++ [x]
theorem addF_in {m : Nat} {l : List Wd} {x : Wd} (h : x ∈ l) : addF m l x = l := if_pos (Or.inl h)
theorem addF_full {m : Nat} {l : List Wd} {x : Wd} (h : m ≤ l.length) : addF m l x = l := if_pos (Or.inr h)
theorem addF_new {m : Nat} {l : List Wd} {x : Wd} (h : x ∉ l) (h2 : l.length < m) : addF m l x = l ++ [x] := if_neg (fun q => by rcases q with q | q; (exact h q); (omega))
theorem addF_len {m : Nat} {l : List Wd} {x : Wd} : l.length ≤ (addF m l x).length := by
  unfold addF
  split
  · exact Nat.le_refl _
  · rw [List.length_append]
    omega
theorem addF_le {m : Nat} {l : List Wd} {x : Wd} (h : l.length ≤ m) : (addF m l x).length ≤ m := by
  unfold addF
  split
  · exact h
  · rename_i q
    have : ¬ m ≤ l.length := fun z => q (Or.inr z)
    rw [List.length_append]
    show l.length + 1 ≤ m
    omega
theorem addF_mem {m : Nat} {l : List Wd} {x y : Wd} (h : y ∈ l) : y ∈ addF m l x := by
  unfold addF
  split
  · exact h
  · exact List.mem_append_left _ h
theorem addF_gets {m : Nat} {l : List Wd} {x : Wd} : x ∈ addF m l x ∨ m ≤ (addF m l x).length := by
  by_cases h1 : x ∈ l
  · exact Or.inl (addF_mem h1)
  · by_cases h2 : m ≤ l.length
    · exact Or.inr (Nat.le_trans h2 addF_len)
    · rw [addF_new h1 (by omega)]
      exact Or.inl (List.mem_append_right _ List.mem_cons_self)
theorem fold_keeps {m : Nat} {x : Wd} : ∀ (l to : List Wd), (x ∈ to ∨ m ≤ to.length) → (x ∈ l.foldl (addF m) to ∨ m ≤ (l.foldl (addF m) to).length)
  | [], to, h => h
  | y :: l, to, h => by
    refine fold_keeps l (addF m to y) ?_
    rcases h with h | h
    · exact Or.inl (addF_mem h)
    · exact Or.inr (Nat.le_trans h addF_len)
theorem fold_gets {m : Nat} {x : Wd} : ∀ (l to : List Wd), x ∈ l → (x ∈ l.foldl (addF m) to ∨ m ≤ (l.foldl (addF m) to).length)
  | [], to, h => absurd h List.not_mem_nil
  | y :: l, to, h => by
    rcases List.mem_cons.mp h with h | h
    · subst h
      exact fold_keeps l _ addF_gets
    · exact fold_gets l _ h
theorem fold_full {m : Nat} : ∀ (l to : List Wd), m ≤ to.length → l.foldl (addF m) to = to
  | [], to, _ => rfl
  | y :: l, to, h => by
    show l.foldl (addF m) (addF m to y) = to
    rw [addF_full h]
    exact fold_full l to h
theorem fold_le {m : Nat} : ∀ (l to : List Wd), to.length ≤ m → (l.foldl (addF m) to).length ≤ m
  | [], to, h => h
  | y :: l, to, h => fold_le l _ (addF_le h)
def DD (D xs : List Wd) : Prop := ∀ to : List Wd, D.foldl (addF 12) to = xs.foldl (addF 12) to
theorem DD_0 : DD [] [] := fun _ => rfl
theorem DD_in {D xs : List Wd} {x : Wd} (h : DD D xs) (hx : x ∈ D) : DD D (xs ++ [x]) := by
  intro to
  rw [List.foldl_append, ← h to]
  show _ = addF 12 (D.foldl (addF 12) to) x
  rcases fold_gets (m := 12) D to hx with q | q
  · rw [addF_in q]
  · rw [addF_full q]
theorem DD_new {D xs : List Wd} {x : Wd} (h : DD D xs) : DD (D ++ [x]) (xs ++ [x]) := by
  intro to
  rw [List.foldl_append, List.foldl_append, h to]
def lkE : List (Wd × Option Wd) → Wd → Option (Option Wd)
  | [], _ => none
  | e :: es, W => if e.1 = W then some e.2 else lkE es W
theorem lkE_none : ∀ {es : List (Wd × Option Wd)} {W : Wd}, (∀ e, e ∈ es → e.1 ≠ W) → lkE es W = none
  | [], _, _ => rfl
  | e :: es, W, h => by
    show (if e.1 = W then _ else _) = _
    rw [if_neg (h e List.mem_cons_self)]
    exact lkE_none (fun x hx => h x (List.mem_cons_of_mem _ hx))
theorem lkE_some : ∀ {es : List (Wd × Option Wd)} {W : Wd} {k : Nat} {e : Wd × Option Wd}, es[k]? = some e → e.1 = W → (∀ j x, j < k → es[j]? = some x → x.1 ≠ W) → lkE es W = some e.2
  | [], _, k, e, h, _, _ => by cases h
  | x :: es, W, 0, e, h, h1, _ => by
    cases h
    exact if_pos h1
  | x :: es, W, k + 1, e, h, h1, h2 => by
    show (if x.1 = W then _ else _) = _
    rw [if_neg (h2 0 x (by omega) rfl)]
    exact lkE_some (k := k) (e := e) h h1 (fun j y hj hy => h2 (j + 1) y (by omega) hy)
def cwF (d : Dr) (W : Wd) : List (List Wd) := (wy d.2.1 W 0).take 30
def cdF (d : Dr) (W : Wd) : List Wd := match lkE d.1 W with
  | some none => [W]
  | some (some v) => gdF (some v)
  | none => if cwF d W = [] then gdF (runL d.2.2 W) else (cwF d W).flatMap (fun w => gdF (mkA d.2.2 [] w))
theorem cdF_kept {d : Dr} {W : Wd} (h : lkE d.1 W = some none) : cdF d W = [W] := by
  unfold cdF
  rw [h]
theorem cdF_list {d : Dr} {W v : Wd} (h : lkE d.1 W = some (some v)) : cdF d W = gdF (some v) := by
  unfold cdF
  rw [h]
theorem cdF_one {d : Dr} {W : Wd} (h : lkE d.1 W = none) (h2 : cwF d W = []) : cdF d W = gdF (runL d.2.2 W) := by
  unfold cdF
  rw [h]
  exact if_pos h2
theorem cdF_ways {d : Dr} {W : Wd} (h : lkE d.1 W = none) (h2 : cwF d W ≠ []) : cdF d W = (cwF d W).flatMap (fun w => gdF (mkA d.2.2 [] w)) := by
  unfold cdF
  rw [h]
  exact if_neg h2
def cpre (d : Dr) (ws : List (List Wd)) (n : Nat) : List Wd := (ws.take n).flatMap (fun w => gdF (mkA d.2.2 [] w))
theorem cpre_s {d : Dr} {ws : List (List Wd)} {n : Nat} {w : List Wd} (h : ws[n]? = some w) : cpre d ws (n + 1) = cpre d ws n ++ gdF (mkA d.2.2 [] w) := by
  unfold cpre
  rw [List.take_add_one, h]
  show (ws.take n ++ [w]).flatMap _ = _
  rw [List.flatMap_append, List.flatMap_singleton]
theorem cpre_all {d : Dr} {ws : List (List Wd)} {n : Nat} (h : ws.length ≤ n) : cpre d ws n = ws.flatMap (fun w => gdF (mkA d.2.2 [] w)) := by
  unfold cpre
  rw [List.take_of_length_le h]
def tuF (d : Dr) (to : List Wd) (W : Wd) : List Wd := (cdF d W).foldl (addF 12) to
def tuFs (d : Dr) (fs : List Wd) : List Wd := fs.foldl (tuF d) []
def thF (D : Nat → Dr) (a : Nat) : Nat → List Wd → List Wd
  | 0, fs => fs
  | n + 1, fs => tuFs (D (a + n)) (thF D a n fs)
theorem tuF_le {d : Dr} {to : List Wd} {W : Wd} (h : to.length ≤ 12) : (tuF d to W).length ≤ 12 := fold_le _ _ h
theorem tuFl_le {d : Dr} : ∀ (fs to : List Wd), to.length ≤ 12 → (fs.foldl (tuF d) to).length ≤ 12
  | [], to, h => h
  | W :: fs, to, h => tuFl_le fs _ (tuF_le h)
def tpre (d : Dr) (fs : List Wd) (n : Nat) : List Wd := (fs.take n).foldl (tuF d) []
theorem tpre_s {d : Dr} {fs : List Wd} {n : Nat} {W : Wd} (h : fs[n]? = some W) : tpre d fs (n + 1) = tuF d (tpre d fs n) W := by
  unfold tpre
  rw [List.take_add_one, h]
  show (fs.take n ++ [W]).foldl _ _ = _
  rw [List.foldl_append]
  rfl
theorem tpre_all {d : Dr} {fs : List Wd} {n : Nat} (h : fs.length ≤ n) : tpre d fs n = tuFs d fs := by
  unfold tpre tuFs
  rw [List.take_of_length_le h]