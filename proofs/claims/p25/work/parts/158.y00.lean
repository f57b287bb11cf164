/-! turning: parts that are turned -/
def AGX (G G1 : Nat → Nat → Int32) (P P1 : Nat → Nat → Option Nat) (V V1 : Nat → Nat → Nat → Int32) (O O1 : Nat → Nat → Nat → Option Nat) (ln ln1 : Nat → Nat) (z : Nat) : Prop := G1 100 z = G 100 z ∧ G1 102 z = G 102 z ∧ G1 107 z = G 107 z ∧ G1 200 z = G 200 z ∧ G1 203 z = G 203 z ∧ G1 24 z = G 24 z ∧ G1 25 z = G 25 z ∧ P1 101 z = P 101 z ∧ P1 103 z = P 103 z ∧ P1 104 z = P 104 z ∧ P1 105 z = P 105 z ∧ P1 106 z = P 106 z ∧ P1 201 z = P 201 z ∧ P1 202 z = P 202 z ∧ P1 20 z = P 20 z ∧ P1 21 z = P 21 z ∧ P1 22 z = P 22 z ∧ P1 23 z = P 23 z ∧ V1 0 z = V 0 z ∧ V1 1 z = V 1 z ∧ V1 10 z = V 10 z ∧ O1 0 z = O 0 z ∧ P1 108 z = P 108 z ∧ P1 109 z = P 109 z ∧ V1 11 z = V 11 z ∧ ln1 z = ln z
def TPV (c : Int32) (fl fs ph : Nat → Int32) (ps : List Wd) (ls : List Lw) : Prop := c.toInt = ((ps.length : Nat) : Int) ∧ ∀ j x, ps[j]? = some x → ((ph j).toInt ≠ 0 → ∃ y, runL ls x = some y ∧ wdl fl (24 * j) (Int32.toNatClampNeg (fs j)) = y ∧ 0 ≤ (fs j).toInt ∧ (fs j).toInt ≤ 24) ∧ ((ph j).toInt = 0 → runL ls x = none)
def TPC (G : Nat → Nat → Int32) (P : Nat → Nat → Option Nat) (V : Nat → Nat → Nat → Int32) (rf : Nat) (d : Dr) : Prop := ∃ tr ph tl ts, (P 108 rf = some tr ∧ P 109 rf = some ph ∧ P 201 tr = some tl ∧ P 202 tr = some ts) ∧ (G 200 tr).toInt = 24 ∧ TPV (G 203 tr) (V 0 tl) (V 1 ts) (V 11 ph) d.2.1 d.2.2
def RFX (G : Nat → Nat → Int32) (P : Nat → Nat → Option Nat) (V : Nat → Nat → Nat → Int32) (O : Nat → Nat → Nat → Option Nat) (ln la : Nat → Nat) (cnt rf : Nat) (d : Dr) : Prop := (∃ dy, RFC G P V O ln la cnt rf dy d) ∧ TPC G P V rf d ∧ WFD d
theorem AGX_r {G G1 : Nat → Nat → Int32} {P P1 : Nat → Nat → Option Nat} {V V1 : Nat → Nat → Nat → Int32} {O O1 : Nat → Nat → Nat → Option Nat} {ln ln1 : Nat → Nat} {z : Nat} (h : AGX G G1 P P1 V V1 O O1 ln ln1 z) : AGR G G1 P P1 V V1 O O1 ln ln1 z := ⟨h.1, h.2.1, h.2.2.1, h.2.2.2.1, h.2.2.2.2.1, h.2.2.2.2.2.1, h.2.2.2.2.2.2.1, h.2.2.2.2.2.2.2.1, h.2.2.2.2.2.2.2.2.1, h.2.2.2.2.2.2.2.2.2.1, h.2.2.2.2.2.2.2.2.2.2.1, h.2.2.2.2.2.2.2.2.2.2.2.1, h.2.2.2.2.2.2.2.2.2.2.2.2.1, h.2.2.2.2.2.2.2.2.2.2.2.2.2.1, h.2.2.2.2.2.2.2.2.2.2.2.2.2.2.1, h.2.2.2.2.2.2.2.2.2.2.2.2.2.2.2.1, h.2.2.2.2.2.2.2.2.2.2.2.2.2.2.2.2.1, h.2.2.2.2.2.2.2.2.2.2.2.2.2.2.2.2.2.1, h.2.2.2.2.2.2.2.2.2.2.2.2.2.2.2.2.2.2.1, h.2.2.2.2.2.2.2.2.2.2.2.2.2.2.2.2.2.2.2.1, h.2.2.2.2.2.2.2.2.2.2.2.2.2.2.2.2.2.2.2.2.1, h.2.2.2.2.2.2.2.2.2.2.2.2.2.2.2.2.2.2.2.2.2.1, h.2.2.2.2.2.2.2.2.2.2.2.2.2.2.2.2.2.2.2.2.2.2.2.2.2⟩
theorem TPC_fr {G G1 : Nat → Nat → Int32} {P P1 : Nat → Nat → Option Nat} {V V1 : Nat → Nat → Nat → Int32} {O O1 : Nat → Nat → Nat → Option Nat} {ln ln1 : Nat → Nat} {la : Nat → Nat} {cnt rf : Nat} {d : Dr} (h : TPC G P V rf d) (hB : LB la cnt P) (hrf : rf < cnt) (hag : ∀ z, z < cnt → la rf ≤ la z → la z ≤ la rf + 5 → AGX G G1 P P1 V V1 O O1 ln ln1 z) : TPC G1 P1 V1 rf d := by
  obtain ⟨tr, ph, tl, ts, ⟨h1, h2, h3, h4⟩, h5, h6⟩ := h
  have c1 := (hB.1 108 fl_108 rf tr h1).2.1
  have l1 : la tr = la rf + 4 := lk_108.mp (hB.1 108 fl_108 rf tr h1).2.2
  have c2 := (hB.1 109 fl_109 rf ph h2).2.1
  have l2 : la ph = la rf + 0 := lk_109.mp (hB.1 109 fl_109 rf ph h2).2.2
  have c3 := (hB.1 201 fl_201 tr tl h3).2.1
  have l3 : la tl = la tr + 0 := lk_201.mp (hB.1 201 fl_201 tr tl h3).2.2
  have c4 := (hB.1 202 fl_202 tr ts h4).2.1
  have l4 : la ts = la tr + 0 := lk_202.mp (hB.1 202 fl_202 tr ts h4).2.2
  have A0 := hag rf hrf (by omega) (by omega)
  have A1 := hag tr c1 (by omega) (by omega)
  have A2 := hag ph c2 (by omega) (by omega)
  have A3 := hag tl c3 (by omega) (by omega)
  have A4 := hag ts c4 (by omega) (by omega)
  refine ⟨tr, ph, tl, ts, ⟨(A0.2.2.2.2.2.2.2.2.2.2.2.2.2.2.2.2.2.2.2.2.2.2.1).trans h1, (A0.2.2.2.2.2.2.2.2.2.2.2.2.2.2.2.2.2.2.2.2.2.2.2.1).trans h2, (A1.2.2.2.2.2.2.2.2.2.2.2.2.1).trans h3, (A1.2.2.2.2.2.2.2.2.2.2.2.2.2.1).trans h4⟩, by rw [A1.2.2.2.1]; exact h5, ?_⟩
  rw [A1.2.2.2.2.1, A3.2.2.2.2.2.2.2.2.2.2.2.2.2.2.2.2.2.2.1, A4.2.2.2.2.2.2.2.2.2.2.2.2.2.2.2.2.2.2.2.1, A2.2.2.2.2.2.2.2.2.2.2.2.2.2.2.2.2.2.2.2.2.2.2.2.2.1]
  exact h6
theorem RFX_fr {G G1 : Nat → Nat → Int32} {P P1 : Nat → Nat → Option Nat} {V V1 : Nat → Nat → Nat → Int32} {O O1 : Nat → Nat → Nat → Option Nat} {ln ln1 la la1 : Nat → Nat} {cnt cnt1 rf : Nat} {d : Dr} (h : RFX G P V O ln la cnt rf d) (hB : LB la cnt P) (hrf : rf < cnt) (hag : ∀ z, z < cnt → la rf ≤ la z → la z ≤ la rf + 5 → AGX G G1 P P1 V V1 O O1 ln ln1 z) (hle : cnt ≤ cnt1) (hla : ∀ z, z < cnt → la1 z = la z) : RFX G1 P1 V1 O1 ln1 la1 cnt1 rf d := by
  obtain ⟨⟨dy, h1⟩, h2, h3⟩ := h
  exact ⟨⟨dy, RFC_fr h1 hB hrf (fun z hz a1 a2 _ => AGX_r (hag z hz a1 a2)) hle hla⟩, TPC_fr h2 hB hrf hag, h3⟩
theorem lws_eq {P : Nat → Nat → Option Nat} {g24 g25 : Nat → Int32} {v0 v1 : Nat → Nat → Int32} {ln la : Nat → Nat} {c : Int32} {ol : Nat → Option Nat} {cnt L : Nat} (hB : LB la cnt P) (h : LWL c ol la cnt L) (e : ∀ z, la z = L → v1 z = v0 z) : lwsV c ol (P 20) (P 21) (P 22) (P 23) g24 g25 v1 ln = lwsV c ol (P 20) (P 21) (P 22) (P 23) g24 g25 v0 ln := by
  unfold lwsV
  refine tab_ext (fun j hj => ?_)
  obtain ⟨lo, j1, j2, j3⟩ := h j hj
  rw [j1]
  exact lawC_eq rfl rfl rfl rfl rfl rfl (fun x hx => by have hx1 := (by rcases hx with hx | hx | hx | hx <;> exact (law_fld hB (by omega) hx).2 : la x = la lo); exact ⟨e x (by omega), rfl⟩)
theorem take_s {α : Type} {l : List α} {k : Nat} {x : α} (h : l[k]? = some x) : l.take (k + 1) = l.take k ++ [x] := by
  rw [List.take_add_one, h]
  rfl
theorem entV_e1 {c : Int32} {fe se fb sb kp : Nat → Int32} {k : Nat} {e : Wd × Option Wd} (h : (entV c fe se fb sb kp)[k]? = some e) : e.1 = wdl fe (16 * k) (Int32.toNatClampNeg (se k)) := by
  have hk := get_lt h
  rw [ent_len] at hk
  unfold entV at h
  rw [tab_get hk] at h
  cases h
  rfl
theorem rw_at {c : Int32} {fl fs : Nat → Int32} {w k : Nat} (h : k < Int32.toNatClampNeg c) : (rwW c fl fs w)[k]? = some (wdl fl (w * k) (Int32.toNatClampNeg (fs k))) := by
  unfold rwW
  rw [tab_get h]
def DRT (G : Nat → Nat → Int32) (P : Nat → Nat → Option Nat) (ln : Nat → Nat) (dr : Nat) : Prop := ∃ tr ph tl ts, (P 108 dr = some tr ∧ P 109 dr = some ph ∧ P 201 tr = some tl ∧ P 202 tr = some ts) ∧ (G 200 tr).toInt = ((24 : Nat) : Int) ∧ ln ts = 40
theorem TPV_of {c : Int32} {fl fs ph : Nat → Int32} {ps : List Wd} {ls : List Lw} (hr : rwW c fl fs 24 = ps.map (fun x9 => (runL ls x9).getD [])) (hh : ∀ j x9, ps[j]? = some x9 → ((ph j).toInt ≠ 0 ↔ runL ls x9 ≠ none)) (hc : 0 ≤ c.toInt) (hz : ∀ j, 0 ≤ (fs j).toInt ∧ (fs j).toInt ≤ 24) : TPV c fl fs ph ps ls := by
  have hl := congrArg List.length hr
  rw [rw_len, List.length_map] at hl
  have cc := clampI hc
  refine ⟨by omega, fun j x hx => ?_⟩
  have hj := get_lt hx
  have h1 : (rwW c fl fs 24)[j]? = some (wdl fl (24 * j) (Int32.toNatClampNeg (fs j))) := rw_at (by omega)
  rw [hr, List.getElem?_map, hx] at h1
  have h2 : (runL ls x).getD [] = wdl fl (24 * j) (Int32.toNatClampNeg (fs j)) := Option.some.inj h1
  have h3 := hh j x hx
  refine ⟨fun q => ?_, fun q => ?_⟩
  · cases hy : runL ls x with
    | none => exact absurd hy (h3.mp q)
    | some y =>
      rw [hy] at h2
      exact ⟨y, rfl, h2.symm, hz j⟩
  · cases hy : runL ls x with
    | none => rfl
    | some y => exact absurd q (h3.mpr (by rw [hy]; exact fun z => by cases z))
theorem gd_0 {x : Wd} {m : Nat} {ws : List Wd} (h : x.length = 0) : (gdF (some x)).foldl (addF m) ws = ws := by
  rw [gdF_bad (Or.inl h)]
  rfl
theorem gd_1 {x : Wd} {m : Nat} {ws : List Wd} (h : 1 ≤ x.length ∧ x.length ≤ 24) : (gdF (some x)).foldl (addF m) ws = addF m ws x := by
  rw [gdF_ok h]
  rfl
