/-! rows of words, the reference's -/
theorem rw_app {c c1 : Int32} {fl fl1 fs fs1 : Nat → Int32} {x : Wd} (hc : Int32.toNatClampNeg c1 = Int32.toNatClampNeg c + 1) (e1 : ∀ q, q < 24 * Int32.toNatClampNeg c → fl1 q = fl q) (e2 : ∀ j, j < Int32.toNatClampNeg c → fs1 j = fs j) (hb : ∀ j, j < Int32.toNatClampNeg c → Int32.toNatClampNeg (fs j) ≤ 24) (hx : wdl fl1 (24 * Int32.toNatClampNeg c) (Int32.toNatClampNeg (fs1 (Int32.toNatClampNeg c))) = x) : rwW c1 fl1 fs1 24 = rwW c fl fs 24 ++ [x] := by
  unfold rwW
  refine tab_add hc (fun j hj => ?_) hx
  have h := hb j hj
  rw [e2 j hj]
  exact wdl_ext (fun i hi => e1 _ (by omega))
theorem rw_low {c : Int32} {fl fl1 fs fs1 : Nat → Int32} (e1 : ∀ q, q < 24 * Int32.toNatClampNeg c → fl1 q = fl q) (e2 : ∀ j, j < Int32.toNatClampNeg c → fs1 j = fs j) (hb : ∀ j, j < Int32.toNatClampNeg c → Int32.toNatClampNeg (fs j) ≤ 24) : rwW c fl1 fs1 24 = rwW c fl fs 24 := by
  unfold rwW
  refine tab_ext (fun j hj => ?_)
  have h := hb j hj
  rw [e2 j hj]
  exact wdl_ext (fun i hi => e1 _ (by omega))
theorem mkA_one {ls : List Lw} {W : Wd} : mkA ls [] [W] = runL ls W := by
  cases hr : runL ls W with
  | none => exact mkA_no (w := [W]) (k := 0) rfl hr
  | some y => exact (mkA_yes (w := [W]) (k := 0) rfl hr)
def RVd (li lt lz pa pt pz lw wt wz a1 a2 : Nat → Int32) (q : Nat) : Dr := (entR (li q) lt lz (80 * q), prtR (pa q) pt pz (40 * q), lwsR (lw q) wt wz a1 a2 (40 * q))
theorem sum_s {w : List Wd} {k : Nat} {x : Wd} (h : w[k]? = some x) : sumN (w.take (k + 1)) = sumN (w.take k) + x.length := by
  rw [List.take_add_one, h]
  show ((w.take k ++ [x]).map List.length).sum = _
  rw [List.map_append, List.sum_append]
  rfl
theorem sum_all : ∀ (w : List Wd), sumN w = w.flatten.length
  | [] => rfl
  | x :: w => by
    rw [List.flatten_cons, List.length_append, ← sum_all w]
    show ((x :: w).map List.length).sum = _
    rw [List.map_cons, List.sum_cons]
    rfl
theorem sum_le {w : List Wd} {k : Nat} {x : Wd} (h : w[k]? = some x) : sumN (w.take k) + x.length ≤ w.flatten.length := by
  rw [← sum_s h, sum_all]
  have e : w.flatten = (w.take (k + 1)).flatten ++ (w.drop (k + 1)).flatten := by rw [← List.flatten_append, List.take_append_drop]
  rw [e, List.length_append]
  exact Nat.le_add_right _ _
theorem fold_pre {l to : List Wd} {k : Nat} {x : Wd} (h : l[k]? = some x) : (l.take (k + 1)).foldl (addF 12) to = addF 12 ((l.take k).foldl (addF 12) to) x := by
  rw [List.take_add_one, h]
  show (l.take k ++ [x]).foldl _ _ = _
  rw [List.foldl_append]
  rfl
theorem fold_stop {l to : List Wd} {k : Nat} (h : 12 ≤ ((l.take k).foldl (addF 12) to).length) : (l.take k).foldl (addF 12) to = l.foldl (addF 12) to := by
  have e : l = l.take k ++ l.drop k := (List.take_append_drop k l).symm
  have h2 : l.foldl (addF 12) to = (l.drop k).foldl (addF 12) ((l.take k).foldl (addF 12) to) := by
    rw [← List.foldl_append, List.take_append_drop]
  rw [h2, fold_full _ _ h]
def WDS (D : List Wd) : Prop := ∀ x, x ∈ D → 1 ≤ x.length ∧ x.length ≤ 24 ∧ BW x
theorem WDS_add {m : Nat} {D : List Wd} {x : Wd} (h : WDS D) (hx : 1 ≤ x.length ∧ x.length ≤ 24 ∧ BW x) : WDS (addF m D x) := by
  intro y hy
  unfold addF at hy
  split at hy
  · exact h y hy
  · rcases mem_app1 hy with q | q
    · exact h y q
    · rw [q]
      exact hx
theorem runL_bw {ls : List Lw} (hl : ∀ L ∈ ls, BW L.2.1) : ∀ (W y : Wd), BW W → runL ls W = some y → BW y := by
  induction ls with
  | nil =>
    intro W y hW h
    cases h
    exact hW
  | cons L ls ih =>
    intro W y hW h
    by_cases q : 24 < (lawT L W).1.length
    · rw [show runL (L :: ls) W = none from if_pos q] at h
      cases h
    · rw [show runL (L :: ls) W = runL ls (lawT L W).1 from if_neg q] at h
      exact ih (fun L hL => hl L (List.mem_cons_of_mem _ hL)) _ _ (lawT_bw hW (hl L List.mem_cons_self)) h
theorem mkA_bw {ls : List Lw} (hl : ∀ L ∈ ls, BW L.2.1) : ∀ (w : List Wd) (acc z : Wd), (∀ x, x ∈ w → BW x) → BW acc → mkA ls acc w = some z → BW z
  | [], acc, z, _, ha, h => by
    cases h
    exact ha
  | x :: w, acc, z, hw, ha, h => by
    cases hr : runL ls x with
    | none =>
      rw [show mkA ls acc (x :: w) = none from mkA_no (w := x :: w) (k := 0) rfl hr] at h
      cases h
    | some y =>
      rw [show mkA ls acc (x :: w) = mkA ls (acc ++ y) w from mkA_yes (w := x :: w) (k := 0) rfl hr] at h
      exact mkA_bw hl w (acc ++ y) z (fun x hx => hw x (List.mem_cons_of_mem _ hx)) (bw_app ha (runL_bw hl x y (hw x List.mem_cons_self) hr)) h
theorem gd_wds {ls : List Lw} {o : Option Wd} (ho : ∀ z, o = some z → BW z) : WDS (gdF o) := by
  intro x hx
  cases o with
  | none => exact absurd hx List.not_mem_nil
  | some z =>
    by_cases q : z.length = 0 ∨ 24 < z.length
    · rw [gdF_bad q] at hx
      exact absurd hx List.not_mem_nil
    · rw [gdF_ok (by omega), List.mem_singleton] at hx
      subst hx
      exact ⟨by omega, by omega, ho x rfl⟩
theorem cd_wds {d : Dr} {W : Wd} (hd : WFD d) (hW : 1 ≤ W.length ∧ W.length ≤ 24 ∧ BW W) : WDS (cdF d W) := by
  have hls : ∀ L ∈ d.2.2, BW L.2.1 := fun L hL => (hd.2.2 L hL).2.2.1.1
  cases hk : lkE d.1 W with
  | some o =>
    cases o with
    | none =>
      rw [cdF_kept hk]
      intro x hx
      rw [List.mem_singleton] at hx
      subst hx
      exact hW
    | some v =>
      rw [cdF_list hk]
      refine gd_wds (ls := d.2.2) (fun z hz => ?_)
      cases hz
      have : ∀ (es : List (Wd × Option Wd)), (∀ x ∈ es, x.1 ≠ [] ∧ WF1 x.1 ∧ ∀ w, x.2 = some w → WF1 w) → lkE es W = some (some v) → BW v := by
        intro es
        induction es with
        | nil => intro _ h; cases h
        | cons e es ih =>
          intro he h
          by_cases q : e.1 = W
          · rw [show lkE (e :: es) W = some e.2 from if_pos q] at h
            exact ((he e List.mem_cons_self).2.2 v (Option.some.inj h)).1
          · rw [show lkE (e :: es) W = lkE es W from if_neg q] at h
            exact ih (fun x hx => he x (List.mem_cons_of_mem _ hx)) h
      exact this d.1 hd.1 hk
  | none =>
    by_cases hw : cwF d W = []
    · rw [cdF_one hk hw]
      exact gd_wds (ls := d.2.2) (fun z hz => runL_bw hls W z hW.2.2 hz)
    · rw [cdF_ways hk hw]
      intro x hx
      obtain ⟨w, h1, h2⟩ := List.mem_flatMap.mp hx
      have h3 := wy_flat (ps := d.2.1) (W := W) W.length 0 (by omega) w (List.mem_of_mem_take h1)
      exact gd_wds (ls := d.2.2) (fun z hz => mkA_bw hls w [] z (fun y hy => (hd.2.1 y (h3.2.1 y hy).1).2.1) (fun x hx => absurd hx List.not_mem_nil) hz) x h2
theorem fold_wds {m : Nat} : ∀ (l to : List Wd), WDS l → WDS to → WDS (l.foldl (addF m) to)
  | [], to, _, h => h
  | x :: l, to, hl, h => fold_wds l _ (fun y hy => hl y (List.mem_cons_of_mem _ hy)) (WDS_add h (hl x List.mem_cons_self))
theorem tu_wds {d : Dr} (hd : WFD d) : ∀ (fs to : List Wd), WDS fs → WDS to → WDS (fs.foldl (tuF d) to)
  | [], to, _, h => h
  | W :: fs, to, hf, h => tu_wds hd fs _ (fun y hy => hf y (List.mem_cons_of_mem _ hy)) (fold_wds _ _ (cd_wds hd (hf W List.mem_cons_self)) h)
theorem wds_0 : WDS [] := fun _ hx => absurd hx List.not_mem_nil
