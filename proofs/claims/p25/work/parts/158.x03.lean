/-! partings: rows of ways, fitting parts -/
theorem by_id {x : Int32} (h : -128 ≤ x.toInt ∧ x.toInt ≤ 127) : vp_nar .byte x = x := by
  rw [vp_nar_byte]
  apply z_e
  rw [Int8.toInt_toInt32, Int32.toInt_toInt8]
  exact Int.bmod_eq_of_le (by omega) (by omega)
theorem i8_id {x : Int32} (h : -128 ≤ x.toInt ∧ x.toInt ≤ 127) : Int8.toInt32 (Int32.toInt8 x) = x := by
  apply z_e
  rw [Int8.toInt_toInt32, Int32.toInt_toInt8]
  exact Int.bmod_eq_of_le (by omega) (by omega)
theorem mulW {x g : Int32} {w : Nat} (hx : 0 ≤ x.toInt ∧ x.toInt ≤ 2500) (hg : g.toInt = (w : Int)) (hw : w ≤ 24) : Int32.toNatClampNeg (x * g) = w * Int32.toNatClampNeg x ∧ (x * g).toInt = x.toInt * g.toInt ∧ 0 ≤ x.toInt * g.toInt := by
  obtain ⟨h1, h2, h3⟩ := zmw (x := x) (y := g) (by omega) (by omega) (by omega) (by omega)
  refine ⟨?_, h1, h2⟩
  have c1 := clampI (x := x * g) (by omega)
  have c2 := clampI (x := x) hx.1
  have e : ((w * Int32.toNatClampNeg x : Nat) : Int) = x.toInt * g.toInt := by rw [Int.natCast_mul, c2, hg, Int.mul_comm]
  omega
def RWS (Pd : Wd → Int32 → Prop) (n : Int) (sz pk : Nat → Int32) (R : List (List Wd)) : Prop := (n = ((R.length : Nat) : Int) ∧ R.length ≤ 30) ∧ ∀ k w, R[k]? = some w → ((sz k).toInt = ((w.length : Nat) : Int) ∧ w.length ≤ 24 ∧ ∀ i x, w[i]? = some x → Pd x (pk (24 * k + i)))
def PTH (Pd : Wd → Int32 → Prop) (d : Int) (pa : Nat → Int32) (L : List Wd) : Prop := d = ((L.length : Nat) : Int) ∧ ∀ i x, L[i]? = some x → Pd x (pa i)
def lenP (x : Wd) (v : Int32) : Prop := v.toInt = ((x.length : Nat) : Int)
def idxP (ps : List Wd) (x : Wd) (v : Int32) : Prop := ∃ j : Nat, v.toInt = (j : Int) ∧ ps[j]? = some x
theorem get_lt {α : Type} {l : List α} {i : Nat} {x : α} (h : l[i]? = some x) : i < l.length := (List.getElem?_eq_some_iff.mp h).1
theorem get_ex {α : Type} {l : List α} {i : Nat} (h : i < l.length) : ∃ x, l[i]? = some x := ⟨l[i], List.getElem?_eq_getElem h⟩
theorem RWS_0 {Pd : Wd → Int32 → Prop} {n : Int} {sz pk : Nat → Int32} (h : n = 0) : RWS Pd n sz pk [] := ⟨⟨h, Nat.zero_le _⟩, fun k w hw => absurd hw (by rw [List.getElem?_nil]; exact fun q => by cases q)⟩
theorem PTH_0 {Pd : Wd → Int32 → Prop} {d : Int} {pa : Nat → Int32} (h : d = 0) : PTH Pd d pa [] := ⟨h, fun k w hw => absurd hw (by rw [List.getElem?_nil]; exact fun q => by cases q)⟩
theorem get_app1 {α : Type} {l : List α} {i : Nat} {x y : α} (h : (l ++ [y])[i]? = some x) : (i < l.length ∧ l[i]? = some x) ∨ (i = l.length ∧ x = y) := by
  by_cases q : i < l.length
  · rw [List.getElem?_append_left q] at h
    exact Or.inl ⟨q, h⟩
  · have hi := get_lt h
    rw [List.length_append] at hi
    have hi2 : i < l.length + 1 := hi
    have e : i = l.length := by omega
    subst e
    rw [List.getElem?_append_right (Nat.le_refl _), Nat.sub_self] at h
    cases h
    exact Or.inr ⟨rfl, rfl⟩
theorem RWS_add {Pd : Wd → Int32 → Prop} {n n1 d : Int} {sz pk sz1 pk1 pa : Nat → Int32} {R : List (List Wd)} {L : List Wd} {v : Int32} {c : Nat} (h : RWS Pd n sz pk R) (hp : PTH Pd d pa L) (hr : R.length < 30) (hl : L.length ≤ 24) (hc : c = R.length) (hv : v.toInt = d) (e1 : sz1 = upd sz c v) (e2 : ∀ q, q < 24 * c → pk1 q = pk q) (e3 : ∀ i, i < L.length → pk1 (24 * c + i) = pa i) (hn : n1 = n + 1) : RWS Pd n1 sz1 pk1 (R ++ [L]) := by
  subst hc
  obtain ⟨⟨h1, h2⟩, h3⟩ := h
  obtain ⟨p1, p2⟩ := hp
  refine ⟨⟨by rw [List.length_append]; show n1 = ((R.length + 1 : Nat) : Int); omega, by rw [List.length_append]; show R.length + 1 ≤ 30; omega⟩, fun k w hw => ?_⟩
  rcases get_app1 hw with ⟨q1, q2⟩ | ⟨q1, q2⟩
  · obtain ⟨a1, a2, a3⟩ := h3 k w q2
    refine ⟨by rw [e1, pk_un (by omega)]; exact a1, a2, fun i x hx => ?_⟩
    have := get_lt hx
    rw [e2 (24 * k + i) (by omega)]
    exact a3 i x hx
  · subst q1 q2
    refine ⟨by rw [e1, pk_us]; omega, hl, fun i x hx => ?_⟩
    rw [e3 i (get_lt hx)]
    exact p2 i x hx
theorem PTH_add {Pd : Wd → Int32 → Prop} {d d1 : Int} {pa pa1 : Nat → Int32} {L : List Wd} {x : Wd} {v : Int32} {c : Nat} (hp : PTH Pd d pa L) (hc : c = L.length) (e : pa1 = upd pa c v) (hx : Pd x v) (hd : d1 = d + 1) : PTH Pd d1 pa1 (L ++ [x]) := by
  subst hc
  obtain ⟨p1, p2⟩ := hp
  refine ⟨by rw [List.length_append]; show d1 = ((L.length + 1 : Nat) : Int); omega, fun i y hy => ?_⟩
  rcases get_app1 hy with ⟨q1, q2⟩ | ⟨q1, q2⟩
  · rw [e, pk_un (by omega)]
    exact p2 i y q2
  · subst q1 q2
    rw [e, pk_us]
    exact hx
theorem PTH_eq {Pd : Wd → Int32 → Prop} {d : Int} {pa pa1 : Nat → Int32} {L : List Wd} (hp : PTH Pd d pa L) (e : ∀ i : Nat, (i : Int) < d → pa1 i = pa i) : PTH Pd d pa1 L := by
  refine ⟨hp.1, fun i y hy => ?_⟩
  have := get_lt hy
  have := hp.1
  rw [e i (by omega)]
  exact hp.2 i y hy
/-! parts that fit -/
def ftk (ps : List Wd) (W : Wd) (a k : Nat) : Prop := ∃ x, ps[k]? = some x ∧ a + x.length ≤ W.length ∧ (W.drop a).take x.length = x ∧ wy ps W (a + x.length) ≠ []
def FTI (ps : List Wd) (W : Wd) (a p : Nat) (fi : Nat → Int32) : Prop := ∀ i, i < 16 → (((fi (17 * a + (i + 1))).toInt = -1 ∧ ∀ k x, k < p → ps[k]? = some x → x.length = i + 1 → ¬ ftk ps W a k) ∨ (∃ k x, k < p ∧ ps[k]? = some x ∧ x.length = i + 1 ∧ ftk ps W a k ∧ (fi (17 * a + (i + 1))).toInt = (k : Int)))
def CLI (ps : List Wd) (W : Wd) (a p : Nat) (c : Int32) : Prop := c.toInt ≠ 0 ↔ ∃ k, k < p ∧ ftk ps W a k
theorem FTI_0 {ps : List Wd} {W : Wd} {a : Nat} {fi : Nat → Int32} (h : ∀ i, i < 16 → (fi (17 * a + (i + 1))).toInt = -1) : FTI ps W a 0 fi := fun i hi => Or.inl ⟨h i hi, fun k x hk => absurd hk (Nat.not_lt_zero _)⟩
theorem FTI_no {ps : List Wd} {W : Wd} {a p : Nat} {fi : Nat → Int32} (h : FTI ps W a p fi) (hn : ¬ ftk ps W a p) : FTI ps W a (p + 1) fi := by
  intro i hi
  rcases h i hi with ⟨h1, h2⟩ | ⟨k, x, h1, h2, h3, h4, h5⟩
  · refine Or.inl ⟨h1, fun k x hk hx hl => ?_⟩
    by_cases q : k = p
    · rw [q]
      exact hn
    · exact h2 k x (by omega) hx hl
  · exact Or.inr ⟨k, x, by omega, h2, h3, h4, h5⟩
theorem FTI_yes {ps : List Wd} {W x : Wd} {a p c : Nat} {fi fi1 : Nat → Int32} {v : Int32} (h : FTI ps W a p fi) (hx : ps[p]? = some x) (hf : ftk ps W a p) (hv : v.toInt = (p : Int)) (hc : c = 17 * a + x.length) (e : fi1 = upd fi c v) : FTI ps W a (p + 1) fi1 := by
  subst hc
  intro i hi
  by_cases q : i + 1 = x.length
  · refine Or.inr ⟨p, x, by omega, hx, q.symm, hf, ?_⟩
    rw [e, show 17 * a + (i + 1) = 17 * a + x.length by omega, pk_us]
    exact hv
  · have e1 : fi1 (17 * a + (i + 1)) = fi (17 * a + (i + 1)) := by rw [e, pk_un (by omega)]
    rw [e1]
    rcases h i hi with ⟨h1, h2⟩ | ⟨k, y, h1, h2, h3, h4, h5⟩
    · refine Or.inl ⟨h1, fun k y hk hy hl2 => ?_⟩
      by_cases q2 : k = p
      · subst q2
        rw [hx] at hy
        cases hy
        omega
      · exact h2 k y (by omega) hy hl2
    · exact Or.inr ⟨k, y, by omega, h2, h3, h4, h5⟩
theorem CLI_0 {ps : List Wd} {W : Wd} {a : Nat} {c : Int32} (h : c.toInt = 0) : CLI ps W a 0 c := ⟨fun q => absurd h q, fun ⟨k, h1, _⟩ => absurd h1 (Nat.not_lt_zero _)⟩
theorem CLI_no {ps : List Wd} {W : Wd} {a p : Nat} {c : Int32} (h : CLI ps W a p c) (hn : ¬ ftk ps W a p) : CLI ps W a (p + 1) c := by
  refine ⟨fun q => ?_, fun ⟨k, h1, h2⟩ => h.mpr ⟨k, ?_, h2⟩⟩
  · obtain ⟨k, h1, h2⟩ := h.mp q
    exact ⟨k, by omega, h2⟩
  · by_cases q : k = p
    · rw [q] at h2
      exact absurd h2 hn
    · omega
theorem CLI_yes {ps : List Wd} {W : Wd} {a p : Nat} {c : Int32} (hf : ftk ps W a p) (hc : c.toInt ≠ 0) : CLI ps W a (p + 1) c := ⟨fun _ => ⟨p, by omega, hf⟩, fun _ => hc⟩
def FIT (ps : List Wd) (W : Wd) (a : Nat) (fi : Nat → Int32) : Prop := ∀ i, i < 16 → ((wst ps W a i = [] ∧ (fi (17 * a + (i + 1))).toInt = -1) ∨ (a + i + 1 ≤ W.length ∧ (W.drop a).take (i + 1) ∈ ps ∧ ∃ k : Nat, (fi (17 * a + (i + 1))).toInt = (k : Int) ∧ ps[k]? = some ((W.drop a).take (i + 1))))
theorem FIT_keep {ps : List Wd} {W : Wd} {a : Nat} {fi fi1 : Nat → Int32} (h : FIT ps W a fi) (e : ∀ i, i < 16 → fi1 (17 * a + (i + 1)) = fi (17 * a + (i + 1))) : FIT ps W a fi1 := by
  intro i hi
  rw [e i hi]
  exact h i hi
theorem sl_len {W : Wd} {a n : Nat} (h : a + n ≤ W.length) : ((W.drop a).take n).length = n := by
  rw [List.length_take, List.length_drop]
  omega
theorem FTI_end {ps : List Wd} {W : Wd} {a p : Nat} {fi : Nat → Int32} (h : FTI ps W a p fi) (hp : p = ps.length) : FIT ps W a fi := by
  subst hp
  intro i hi
  rcases h i hi with ⟨h1, h2⟩ | ⟨k, x, h1, h2, h3, ⟨y, f1, f2, f3, f4⟩, h5⟩
  · refine Or.inl ⟨?_, h1⟩
    by_cases q : wst ps W a i = []
    · exact q
    · obtain ⟨q1, q2, q3⟩ := wst_ne.mp q
      obtain ⟨k, hk⟩ := List.getElem?_of_mem q2
      have hl := sl_len (W := W) (a := a) (n := i + 1) (by omega)
      refine absurd ⟨_, hk, by rw [hl]; omega, by rw [hl], ?_⟩ (h2 k _ (get_lt hk) hk hl)
      rw [hl, ← Nat.add_assoc]
      exact q3
  · rw [h2] at f1
    cases f1
    rw [h3] at f2 f3
    exact Or.inr ⟨by omega, by rw [f3]; exact List.mem_of_getElem? h2, k, h5, by rw [f3]; exact h2⟩
theorem CLI_end {ps : List Wd} {W : Wd} {a p : Nat} {c : Int32} (h : CLI ps W a p c) (hp : p = ps.length) (ha : a < W.length) (hw : ∀ x, x ∈ ps → x ≠ [] ∧ x.length ≤ 16) : c.toInt ≠ 0 ↔ wy ps W a ≠ [] := by
  subst hp
  unfold CLI at h
  rw [h, wy_ne ha]
  constructor
  · intro ⟨k, h1, x, f1, f2, f3, f4⟩
    obtain ⟨w1, w2⟩ := hw x (List.mem_of_getElem? f1)
    have hl : x.length ≠ 0 := fun q => w1 (List.length_eq_zero_iff.mp q)
    refine ⟨x.length - 1, by omega, by omega, ?_, ?_⟩
    · rw [show x.length - 1 + 1 = x.length by omega, f3]
      exact List.mem_of_getElem? f1
    · rw [show a + (x.length - 1) + 1 = a + x.length by omega]
      exact f4
  · intro ⟨i, h1, h2, h3, h4⟩
    obtain ⟨k, hk⟩ := List.getElem?_of_mem h3
    have hl := sl_len (W := W) (a := a) (n := i + 1) (by omega)
    refine ⟨k, get_lt hk, _, hk, by rw [hl]; omega, by rw [hl], ?_⟩
    rw [hl, ← Nat.add_assoc]
    exact h4
def CLO (ps : List Wd) (W : Wd) (a : Nat) (cl : Nat → Int32) : Prop := ∀ j, a ≤ j → j ≤ W.length → ((cl j).toInt ≠ 0 ↔ wy ps W j ≠ [])
theorem CLO_top {ps : List Wd} {W : Wd} {a : Nat} {cl : Nat → Int32} (ha : a = W.length) (h : (cl a).toInt ≠ 0) : CLO ps W a cl := by
  subst ha
  intro j h1 h2
  have e : j = W.length := by omega
  subst e
  exact ⟨fun _ => (by rw [wy_ge (Nat.le_refl _)]; exact List.cons_ne_nil _ _), fun _ => h⟩
theorem CLO_step {ps : List Wd} {W : Wd} {a b : Nat} {cl cl1 : Nat → Int32} (h : CLO ps W b cl) (hb : b = a + 1) (h1 : (cl1 a).toInt ≠ 0 ↔ wy ps W a ≠ []) (h2 : ∀ j, j ≠ a → cl1 j = cl j) : CLO ps W a cl1 := by
  intro j q1 q2
  by_cases q : j = a
  · rw [q]
    exact h1
  · rw [h2 j q]
    exact h j (by omega) q2
theorem wy_nops {W : Wd} {p : Nat} (h : p < W.length) : wy [] W p = [] := by
  by_cases q : wy [] W p = []
  · exact q
  · obtain ⟨i, _, _, h3, _⟩ := (wy_ne h).mp q
    exact absurd h3 List.not_mem_nil
theorem lk_fix {es : List (Wd × Option Wd)} {W : Wd} {r : Int} (h : FIX (es.map Prod.fst) W r) : (r = -1 → lkE es W = none) ∧ (r ≠ -1 → ∃ e, 0 ≤ r ∧ es[r.toNat]? = some e ∧ e.1 = W ∧ lkE es W = some e.2) := by
  obtain ⟨h1, h2⟩ := h
  refine ⟨fun q => lkE_none (fun e he q2 => h1 q (List.mem_map.mpr ⟨e, he, q2⟩)), fun q => ?_⟩
  obtain ⟨a1, a2, a3⟩ := h2 q
  rw [List.getElem?_map] at a2
  cases he : es[r.toNat]? with
  | none => rw [he] at a2; cases a2
  | some e =>
    rw [he] at a2
    have e1 : e.1 = W := Option.some.inj a2
    refine ⟨e, a1, rfl, e1, lkE_some he e1 (fun j x hj hx q2 => a3 j hj ?_)⟩
    rw [List.getElem?_map, hx]
    exact congrArg some q2
theorem entV_at {c : Int32} {fe se fb sb kp : Nat → Int32} {k : Nat} {e : Wd × Option Wd} (h : (entV c fe se fb sb kp)[k]? = some e) : k < Int32.toNatClampNeg c ∧ ((kp k).toInt ≠ 0 → e.2 = none) ∧ ((kp k).toInt = 0 → e.2 = some (wdl fb (16 * k) (Int32.toNatClampNeg (sb k)))) := by
  have hk := get_lt h
  rw [ent_len] at hk
  unfold entV at h
  rw [tab_get hk] at h
  cases h
  exact ⟨hk, fun q => if_neg q, fun q => if_pos q⟩
theorem entR_at {c : Int32} {t s : Nat → Int32} {b k : Nat} {e : Wd × Option Wd} (h : (entR c t s b)[k]? = some e) : k < Int32.toNatClampNeg c ∧ ((s (b + 2 * k + 1)).toInt = -1 → e.2 = none) ∧ ((s (b + 2 * k + 1)).toInt ≠ -1 → e.2 = some (WR t s (b + 2 * k + 1))) := by
  have hk := get_lt h
  unfold entR at h hk
  rw [tab_len] at hk
  rw [tab_get hk] at h
  cases h
  exact ⟨hk, fun q => if_pos q, fun q => if_neg q⟩