/-! rows of words that are copied, forms added once -/
theorem rw_mem {c : Int32} {fl fs : Nat → Int32} {w j : Nat} (h : j < Int32.toNatClampNeg c) : wdl fl (w * j) (Int32.toNatClampNeg (fs j)) ∈ rwW c fl fs w := List.mem_of_getElem? (rw_at h)
theorem wds_sz {c : Int32} {fl fs : Nat → Int32} (h : WDS (rwW c fl fs 24)) {j : Nat} (hj : j < Int32.toNatClampNeg c) : 1 ≤ Int32.toNatClampNeg (fs j) ∧ Int32.toNatClampNeg (fs j) ≤ 24 := by
  have h9 := h _ (rw_mem hj)
  rw [wdl_len] at h9
  exact ⟨h9.1, h9.2.1⟩
theorem rw_cp {c : Int32} {fl fs fl1 fs1 : Nat → Int32} (hB : WDS (rwW c fl fs 24)) (e1 : ∀ j, j < Int32.toNatClampNeg c → fs1 j = fs j) (e2 : ∀ j i, j < Int32.toNatClampNeg c → i < Int32.toNatClampNeg (fs j) → fl1 (24 * j + i) = vp_nar .byte (fl (24 * j + i))) : rwW c fl1 fs1 24 = rwW c fl fs 24 := by
  have hm : ∀ j, j < Int32.toNatClampNeg c → wdl fl (24 * j) (Int32.toNatClampNeg (fs j)) ∈ rwW c fl fs 24 := fun j hj => rw_mem hj
  unfold rwW
  refine tab_ext (fun j hj => ?_)
  rw [e1 j hj]
  exact wdl_ext (fun i hi => by rw [e2 j i hj hi, (hB _ (hm j hj)).2.2 _ (wdl_mem hi)])
theorem DD_fold : ∀ (xs D ys : List Wd), DD D ys → D.length + xs.length ≤ 30 → DD (xs.foldl (addF 31) D) (ys ++ xs)
  | [], D, ys, h, _ => by
    rw [List.append_nil]
    exact h
  | x :: xs, D, ys, h, hl => by
    have hl2 : D.length + (xs.length + 1) ≤ 30 := hl
    have e : ys ++ x :: xs = (ys ++ [x]) ++ xs := by rw [List.append_assoc]; rfl
    rw [e]
    show DD (xs.foldl (addF 31) (addF 31 D x)) _
    by_cases q : x ∈ D
    · rw [addF_in q]
      exact DD_fold xs D _ (DD_in h q) (by omega)
    · rw [addF_new q (by omega)]
      exact DD_fold xs _ _ (DD_new h) (by rw [List.length_append]; show D.length + 1 + xs.length ≤ 30; omega)
theorem gd_l1 {o : Option Wd} : (gdF o).length ≤ 1 := by
  cases o with
  | none => exact Nat.zero_le _
  | some x =>
    by_cases q : x.length = 0 ∨ 24 < x.length
    · rw [gdF_bad q]
      exact Nat.zero_le _
    · rw [gdF_ok (by omega)]
      exact Nat.le_refl _
theorem fm_len {α β : Type} {f : α → List β} (hf : ∀ x, (f x).length ≤ 1) : ∀ (l : List α), (l.flatMap f).length ≤ l.length
  | [] => Nat.le_refl _
  | x :: l => by
    rw [List.flatMap_cons, List.length_append]
    have h1 := hf x
    have h2 := fm_len hf l
    show (f x).length + (l.flatMap f).length ≤ l.length + 1
    omega
theorem cd_len {d : Dr} {W : Wd} : (cdF d W).length ≤ 30 := by
  cases hk : lkE d.1 W with
  | some o =>
    cases o with
    | none =>
      rw [cdF_kept hk]
      show 1 ≤ 30
      omega
    | some v =>
      rw [cdF_list hk]
      exact Nat.le_trans gd_l1 (by omega)
  | none =>
    by_cases hw : cwF d W = []
    · rw [cdF_one hk hw]
      exact Nat.le_trans gd_l1 (by omega)
    · rw [cdF_ways hk hw]
      refine Nat.le_trans (fm_len (fun x => gd_l1) _) ?_
      unfold cwF
      rw [List.length_take]
      omega
theorem cd_fold {d : Dr} {W : Wd} {to : List Wd} : ((cdF d W).foldl (addF 31) []).foldl (addF 12) to = tuF d to W := by
  have h := DD_fold (cdF d W) [] [] DD_0 (by show 0 + (cdF d W).length ≤ 30; have := cd_len (d := d) (W := W); omega)
  exact h to
theorem tpre_wds {d : Dr} {fs : List Wd} {n : Nat} (hd : WFD d) (hf : WDS fs) : WDS (tpre d fs n) := tu_wds hd _ _ (fun y hy => hf y (List.mem_of_mem_take hy)) wds_0
theorem take_wds {D to : List Wd} {k m : Nat} (h : WDS D) (h2 : WDS to) : WDS ((D.take k).foldl (addF m) to) := fold_wds _ _ (fun y hy => h y (List.mem_of_mem_take hy)) h2
theorem tuFs_wds {d : Dr} {fs : List Wd} (hd : WFD d) (hf : WDS fs) : WDS (tuFs d fs) := tu_wds hd _ _ hf wds_0
theorem th_s {D : Nat → Dr} {a n m : Nat} {fs : List Wd} (h : m = n + 1) : thF D a m fs = tuFs (D (a + n)) (thF D a n fs) := by
  subst h
  rfl
theorem th_le {D : Nat → Dr} {a : Nat} {fs : List Wd} (h : fs.length ≤ 12) : ∀ n, (thF D a n fs).length ≤ 12
  | 0 => h
  | n + 1 => tuFl_le _ _ (Nat.zero_le _)
