/-! reading: a law's sides in the class -/
def sid1 (f : Nat → Int32) (n e : Nat) (l : Lw) : Except (Nat × Nat) (Nat × Lw) → Prop := fun o => (fKey f n e 5 = true ∧ ((l.2.2.2.2.1 ≠ 0 ∧ o = .error (3, tP f n e)) ∨ (l.2.2.2.2.1 = 0 ∧ o = .ok (tE f n e, (l.1, l.2.1, l.2.2.1, l.2.2.2.1, 1, l.2.2.2.2.2))))) ∨ (fKey f n e 6 = true ∧ ((l.2.2.2.2.2 ≠ 0 ∧ o = .error (3, tP f n e)) ∨ (l.2.2.2.2.2 = 0 ∧ o = .ok (tE f n e, (l.1, l.2.1, l.2.2.1, l.2.2.2.1, l.2.2.2.2.1, 1))))) ∨ (fKey f n e 7 = true ∧ ((l.2.2.1 ≠ [] ∧ o = .error (3, tP f n e)) ∨ (l.2.2.1 = [] ∧ ((∃ x, fLet f n (tE f n e) true = some x ∧ o = .error x) ∨ (fLet f n (tE f n e) true = none ∧ o = .ok (tE f n (tE f n e), (l.1, l.2.1, tW f n (tE f n e), l.2.2.2.1, l.2.2.2.2.1, l.2.2.2.2.2))))))) ∨ (fKey f n e 8 = true ∧ ((l.2.2.2.1 ≠ [] ∧ o = .error (3, tP f n e)) ∨ (l.2.2.2.1 = [] ∧ ((∃ x, fLet f n (tE f n e) true = some x ∧ o = .error x) ∨ (fLet f n (tE f n e) true = none ∧ o = .ok (tE f n (tE f n e), (l.1, l.2.1, l.2.2.1, tW f n (tE f n e), l.2.2.2.2.1, l.2.2.2.2.2))))))) ∨ (fKey f n e 5 = false ∧ fKey f n e 6 = false ∧ fKey f n e 7 = false ∧ fKey f n e 8 = false ∧ o = .error (1, tP f n e))
theorem sid1_err {f : Nat → Int32} {n e k : Nat} {d : Dr} {l : Lw} {x : Nat × Nat} (h3 : tK f n e ≠ 3) (h : sid1 f n e l (.error x)) : sidF f n d (k + 1) e l = .error x := by
  obtain ⟨lx, ly, la, lb, ls, lt⟩ := l
  rcases h with ⟨h, ⟨h1, h2⟩ | ⟨h1, h2⟩⟩ | ⟨h, ⟨h1, h2⟩ | ⟨h1, h2⟩⟩ | ⟨h, ⟨h1, h2⟩ | ⟨h1, ⟨y, h2, h4⟩ | ⟨h2, h4⟩⟩⟩ | ⟨h, ⟨h1, h2⟩ | ⟨h1, ⟨y, h2, h4⟩ | ⟨h2, h4⟩⟩⟩ | ⟨h5, h6, h7, h8, h2⟩
  · rw [sid_5 h, if_pos h1]
    cases h2; rfl
  · cases h2
  · rw [sid_6 h, if_pos h1]
    cases h2; rfl
  · cases h2
  · rw [sid_7 h, if_pos h1]
    cases h2; rfl
  · rw [sid_7 h, if_neg (fun q => q h1), oB_e h2]
    cases h4; rfl
  · cases h4
  · rw [sid_8 h, if_pos h1]
    cases h2; rfl
  · rw [sid_8 h, if_neg (fun q => q h1), oB_e h2]
    cases h4; rfl
  · cases h4
  · rw [sid_o h5 h6 h7 h8, oB_e (fCl_bad h3)]
    cases h2; rfl
theorem sid1_ok {f : Nat → Int32} {n e e1 k : Nat} {d : Dr} {l l1 : Lw} (h : sid1 f n e l (.ok (e1, l1))) : sidF f n d (k + 1) e l = sidF f n d k e1 l1 ∧ fl4 l1 = fl4 l + 1 := by
  obtain ⟨lx, ly, la, lb, ls, lt⟩ := l
  rcases h with ⟨h, ⟨h1, h2⟩ | ⟨h1, h2⟩⟩ | ⟨h, ⟨h1, h2⟩ | ⟨h1, h2⟩⟩ | ⟨h, ⟨h1, h2⟩ | ⟨h1, ⟨y, h2, h4⟩ | ⟨h2, h4⟩⟩⟩ | ⟨h, ⟨h1, h2⟩ | ⟨h1, ⟨y, h2, h4⟩ | ⟨h2, h4⟩⟩⟩ | ⟨h5, h6, h7, h8, h2⟩
  · cases h2
  · cases h2
    replace h1 : ls = 0 := h1
    subst h1
    rw [sid_5 h, if_neg (fun q => q rfl)]
    exact ⟨rfl, fl4_s⟩
  · cases h2
  · cases h2
    replace h1 : lt = 0 := h1
    subst h1
    rw [sid_6 h, if_neg (fun q => q rfl)]
    exact ⟨rfl, fl4_t⟩
  · cases h2
  · cases h4
  · cases h4
    replace h1 : la = [] := h1
    subst h1
    rw [sid_7 h, if_neg (fun q => q rfl), oB_o h2]
    exact ⟨rfl, fl4_a (tW_ne ((fLet_k h2).2 rfl))⟩
  · cases h2
  · cases h4
  · cases h4
    replace h1 : lb = [] := h1
    subst h1
    rw [sid_8 h, if_neg (fun q => q rfl), oB_o h2]
    exact ⟨rfl, fl4_b (tW_ne ((fLet_k h2).2 rfl))⟩
  · cases h2
def OUTL (f : Nat → Int32) (n e : Nat) (l : Lw) (k p a : Int32) (R : Lw → Prop) : Prop := (∃ x, sid1 f n e l (.error x) ∧ ERR (some x) k p) ∨ (∃ e1 l1, sid1 f n e l (.ok (e1, l1)) ∧ k.toInt = 0 ∧ p.toInt = -1 ∧ Int32.toNatClampNeg a = e1 ∧ R l1)
theorem oar_some {v0 : Nat → Nat → Int32} {ln : Nat → Nat} {x : Nat} : oar v0 ln (some x) = wdl (v0 x) 0 (ln x) := rfl
theorem lawC_a {p20 p21 p22 p23 q20 q21 q22 q23 : Nat → Option Nat} {g24 g25 k24 k25 : Nat → Int32} {v0 v1 : Nat → Nat → Int32} {ln ln1 : Nat → Nat} {lo a : Nat} {l : Lw} {w : Wd} (hl : lawC p20 p21 p22 p23 g24 g25 v0 ln (some lo) = l) (h0 : q20 lo = p20 lo) (h1 : q21 lo = p21 lo) (h2 : q22 lo = some a) (h3 : q23 lo = p23 lo) (h4 : k24 lo = g24 lo) (h5 : k25 lo = g25 lo) (hw : wdl (v1 a) 0 (ln1 a) = w) (h : ∀ x, (p20 lo = some x ∨ p21 lo = some x ∨ p23 lo = some x) → v1 x = v0 x ∧ ln1 x = ln x) : lawC q20 q21 q22 q23 k24 k25 v1 ln1 (some lo) = (l.1, l.2.1, w, l.2.2.2.1, l.2.2.2.2.1, l.2.2.2.2.2) := by
  rw [← hl]
  show (oar v1 ln1 (q20 lo), oar v1 ln1 (q21 lo), oar v1 ln1 (q22 lo), oar v1 ln1 (q23 lo), k24 lo, k25 lo) = (oar v0 ln (p20 lo), oar v0 ln (p21 lo), w, oar v0 ln (p23 lo), g24 lo, g25 lo)
  rw [h0, h1, h2, h3, h4, h5, oar_some, hw, oar_eq (fun x hx => h x (Or.inl hx)), oar_eq (fun x hx => h x (Or.inr (Or.inl hx))), oar_eq (fun x hx => h x (Or.inr (Or.inr hx)))]
theorem lawC_b {p20 p21 p22 p23 q20 q21 q22 q23 : Nat → Option Nat} {g24 g25 k24 k25 : Nat → Int32} {v0 v1 : Nat → Nat → Int32} {ln ln1 : Nat → Nat} {lo a : Nat} {l : Lw} {w : Wd} (hl : lawC p20 p21 p22 p23 g24 g25 v0 ln (some lo) = l) (h0 : q20 lo = p20 lo) (h1 : q21 lo = p21 lo) (h2 : q22 lo = p22 lo) (h3 : q23 lo = some a) (h4 : k24 lo = g24 lo) (h5 : k25 lo = g25 lo) (hw : wdl (v1 a) 0 (ln1 a) = w) (h : ∀ x, (p20 lo = some x ∨ p21 lo = some x ∨ p22 lo = some x) → v1 x = v0 x ∧ ln1 x = ln x) : lawC q20 q21 q22 q23 k24 k25 v1 ln1 (some lo) = (l.1, l.2.1, l.2.2.1, w, l.2.2.2.2.1, l.2.2.2.2.2) := by
  rw [← hl]
  show (oar v1 ln1 (q20 lo), oar v1 ln1 (q21 lo), oar v1 ln1 (q22 lo), oar v1 ln1 (q23 lo), k24 lo, k25 lo) = (oar v0 ln (p20 lo), oar v0 ln (p21 lo), oar v0 ln (p22 lo), w, g24 lo, g25 lo)
  rw [h0, h1, h2, h3, h4, h5, oar_some, hw, oar_eq (fun x hx => h x (Or.inl hx)), oar_eq (fun x hx => h x (Or.inr (Or.inl hx))), oar_eq (fun x hx => h x (Or.inr (Or.inr hx)))]
theorem law_fld {la : Nat → Nat} {cnt : Nat} {P : Nat → Nat → Option Nat} {lo x f : Nat} (hB : LB la cnt P) (hf : f = 20 ∨ f = 21 ∨ f = 22 ∨ f = 23) (h : P f lo = some x) : x < cnt ∧ la x = la lo := by
  rcases hf with hf | hf | hf | hf <;> subst hf
  · obtain ⟨_, b1, b2⟩ := hB.1 20 fl_20 lo x h
    have b2 : la x = la lo + 0 := lk_20.mp b2
    omega
  · obtain ⟨_, b1, b2⟩ := hB.1 21 fl_21 lo x h
    have b2 : la x = la lo + 0 := lk_21.mp b2
    omega
  · obtain ⟨_, b1, b2⟩ := hB.1 22 fl_22 lo x h
    have b2 : la x = la lo + 0 := lk_22.mp b2
    omega
  · obtain ⟨_, b1, b2⟩ := hB.1 23 fl_23 lo x h
    have b2 : la x = la lo + 0 := lk_23.mp b2
    omega
theorem read_step {f : Nat → Int32} {n e1 k0 : Nat} {d1 : Dr} {k p a : Int32} {R : Dr → Prop} {r : Er × Dr} (ho : OUTC (itmF f n e1 d1) k p a R) (h0 : tK f n e1 ≠ 0) (hr : r = parF f n (k0 + 1) e1 d1) : (k.toInt = 0 ∧ p.toInt = -1 ∧ ∃ e2 d2, r = parF f n k0 e2 d2 ∧ e1 < e2 ∧ e2 ≤ n ∧ Int32.toNatClampNeg a = e2 ∧ R d2) ∨ (∃ x, r.1 = some x ∧ ERR (some x) k p) := by
  cases hx : itmF f n e1 d1 with
  | error x =>
    rw [hx] at ho
    refine Or.inr ⟨x, ?_, ho⟩
    rw [hr, par_err h0 hx]
  | ok z =>
    obtain ⟨e2, d2⟩ := z
    rw [hx] at ho
    obtain ⟨h1, h2, h3, h4⟩ := ho
    have h5 := itm_ok (f := f) (n := n) (e := e1) (d := d1) e2 d2 hx
    exact Or.inl ⟨h1, h2, e2, d2, by rw [hr]; exact par_ok h0 hx, h5.1, h5.2, h3, h4⟩
theorem pts_fr {P P1 : Nat → Nat → Option Nat} {c200 c201 : Nat → Int32} {ln ln1 : Nat → Nat} {rf er br pr kp lr le lb lp se sb sp cnt : Nat} (h : PTS P c200 ln rf er br pr kp lr le lb lp se sb sp) (hP : ∀ g z, (g = 101 ∨ g = 103 ∨ g = 104 ∨ g = 105 ∨ g = 106 ∨ g = 201 ∨ g = 202) → z < cnt → P1 g z = P g z) (hc : ∀ z, z < cnt → c201 z = c200 z) (hl : ∀ z, z < cnt → ln1 z = ln z) (h0 : rf < cnt) (h1 : er < cnt) (h2 : br < cnt) (h3 : pr < cnt) (h4 : se < cnt) (h5 : sb < cnt) (h6 : sp < cnt) : PTS P1 c201 ln1 rf er br pr kp lr le lb lp se sb sp := by
  obtain ⟨⟨a1, a2, a3, a4, a5⟩, ⟨b1, b2, b3⟩, ⟨c1, c2, c3⟩, ⟨w1, w2, w3⟩, ⟨l1, l2, l3⟩⟩ := h
  exact ⟨⟨(hP 104 rf (by omega) h0).trans a1, (hP 105 rf (by omega) h0).trans a2, (hP 103 rf (by omega) h0).trans a3, (hP 106 rf (by omega) h0).trans a4, (hP 101 rf (by omega) h0).trans a5⟩, ⟨(hP 201 er (by omega) h1).trans b1, (hP 201 br (by omega) h2).trans b2, (hP 201 pr (by omega) h3).trans b3⟩, ⟨(hP 202 er (by omega) h1).trans c1, (hP 202 br (by omega) h2).trans c2, (hP 202 pr (by omega) h3).trans c3⟩, ⟨by rw [hc er h1]; exact w1, by rw [hc br h2]; exact w2, by rw [hc pr h3]; exact w3⟩, ⟨(hl se h4).trans l1, (hl sb h5).trans l2, (hl sp h6).trans l3⟩⟩
