/-! reading: what the class holds -/
theorem err_of {o : Er} {k p : Int32} {a b : Nat} (h : o = some (a, b)) (hk : k.toInt = (a : Int)) (hp : p.toInt = (b : Int)) (ha : 1 ≤ a) : ERR o k p := by
  have e1 := clampI (x := k) (by omega)
  have e2 := clampI (x := p) (by omega)
  refine ⟨?_, by omega, by omega⟩
  rw [h, show Int32.toNatClampNeg k = a by omega, show Int32.toNatClampNeg p = b by omega]
theorem app_tab {α : Type} {n m : Nat} {g h : Nat → α} {x : α} (e : tab m h = tab n g ++ [x]) : m = n + 1 ∧ (∀ j, j < n → h j = g j) ∧ h n = x := by
  have hl : m = n + 1 := by
    have := congrArg List.length e
    rw [tab_len, List.length_append, tab_len] at this
    exact this
  subst hl
  refine ⟨rfl, fun j hj => ?_, ?_⟩
  · have h1 : (tab (n + 1) h)[j]? = (tab n g ++ [x])[j]? := by rw [e]
    rw [tab_get (by omega), List.getElem?_append_left (by rw [tab_len]; exact hj), tab_get hj] at h1
    exact Option.some.inj h1
  · have h1 : (tab (n + 1) h)[n]? = (tab n g ++ [x])[n]? := by rw [e]
    rw [tab_get (by omega), List.getElem?_append_right (by rw [tab_len]; exact Nat.le_refl _), tab_len, Nat.sub_self] at h1
    exact Option.some.inj h1
theorem rw_len {c : Int32} {fl fs : Nat → Int32} {w : Nat} : (rwW c fl fs w).length = Int32.toNatClampNeg c := tab_len
theorem rw_mt {fl fs f : Nat → Int32} {w k st m lb lf : Nat} (h0 : 0 ≤ (fs k).toInt) (hw : (fs k).toInt ≤ (w : Int)) (hlb : w * k + w ≤ lb) (hlf : st + m ≤ lf) : mtw (w : Int) fl lb fs f (st : Int) lf (m : Int) k ↔ wdl fl (w * k) (Int32.toNatClampNeg (fs k)) = wdl f st m := by
  rw [wdl_inj]
  have hc := clampI h0
  have e2 : (k : Int) * (w : Int) = ((w * k : Nat) : Int) := by rw [Nat.mul_comm w k]; exact (Int.natCast_mul k w).symm
  have e1 : ((k : Int) * (w : Int)).toNat = w * k := by rw [e2]; exact Int.toNat_natCast _
  constructor
  · intro q
    obtain ⟨q1, _, _, _, _, q5⟩ := q
    refine ⟨by omega, fun j hj => ?_⟩
    have q6 := q5 j (by omega)
    rw [e1, Int.toNat_natCast] at q6
    exact q6
  · intro q
    obtain ⟨q1, q2⟩ := q
    refine ⟨by omega, by rw [e2]; omega, by omega, by rw [e2]; omega, by omega, fun j hj => ?_⟩
    rw [e1, Int.toNat_natCast]
    exact q2 j (by omega)
def FIX (ws : List Wd) (w : Wd) (r : Int) : Prop := (r = -1 → w ∉ ws) ∧ (r ≠ -1 → 0 ≤ r ∧ ws[r.toNat]? = some w ∧ ∀ j, j < r.toNat → ws[j]? ≠ some w)
theorem rw_fnd {fl fs f : Nat → Int32} {w st m lb lf : Nat} {c : Int32} {r wI sI mI : Int} {ws : List Wd} (hws : rwW c fl fs w = ws) (hc : 0 ≤ c.toInt) (hb : ∀ k : Nat, (k : Int) < c.toInt → 0 ≤ (fs k).toInt ∧ (fs k).toInt ≤ (w : Int) ∧ w * k + w ≤ lb) (hlf : st + m ≤ lf) (hwI : wI = (w : Int)) (hsI : sI = (st : Int)) (hmI : mI = (m : Int)) (h : fnd wI fl lb fs f sI lf mI c.toInt r) : FIX ws (wdl f st m) r := by
  subst hws hwI hsI hmI
  have ec := clampI hc
  rcases h with ⟨k, h1, h2, h3, h4⟩ | ⟨h1, h2⟩
  · refine ⟨fun q => by omega, fun _ => ⟨by omega, ?_, ?_⟩⟩
    · obtain ⟨b1, b2, b3⟩ := hb k h1
      have h5 := (rw_mt b1 b2 b3 hlf).mp h3
      rw [show r.toNat = k by omega]
      unfold rwW
      rw [tab_get (by omega), h5]
    · intro j hj q
      obtain ⟨b1, b2, b3⟩ := hb j (by omega)
      unfold rwW at q
      rw [tab_get (by omega)] at q
      exact h4 j (by omega) ((rw_mt b1 b2 b3 hlf).mpr (Option.some.inj q))
  · refine ⟨fun _ q => ?_, fun q => absurd h1 q⟩
    obtain ⟨k, hk, q⟩ := tab_mem.mp q
    obtain ⟨b1, b2, b3⟩ := hb k (by omega)
    exact h2 k (by omega) ((rw_mt b1 b2 b3 hlf).mpr q)
theorem rw_add {c c1 len cw : Int32} {fl fl1 fs fs1 f : Nat → Int32} {w st m : Nat} (e0 : fl1 = va_cpy f fl st cw.toInt.toNat m) (e1 : fs1 = upd fs c.toInt.toNat len) (ec : c1.toInt = c.toInt + 1) (h0 : 0 ≤ c.toInt) (hlen : len.toInt = (m : Int)) (hcw : cw.toInt = c.toInt * (w : Int)) (hfit : ∀ i : Nat, (i : Int) < c.toInt → 0 ≤ (fs i).toInt ∧ (fs i).toInt ≤ (w : Int)) (hm : m ≤ w) : rwW c1 fl1 fs1 w = rwW c fl fs w ++ [wdl f st m] := by
  have q0 := clampI h0
  have q1 := clampI (x := c1) (by omega)
  have q2 := clampI (x := len) (by omega)
  have ecw : cw.toInt.toNat = w * Int32.toNatClampNeg c := by
    rw [hcw, ← q0, show ((Int32.toNatClampNeg c : Nat) : Int) * (w : Int) = ((w * Int32.toNatClampNeg c : Nat) : Int) by rw [Nat.mul_comm w]; exact (Int.natCast_mul _ _).symm]
    exact Int.toNat_natCast _
  have ecn : c.toInt.toNat = Int32.toNatClampNeg c := rfl
  unfold rwW
  refine tab_add (by omega) (fun j hj => ?_) ?_
  · obtain ⟨b1, b2⟩ := hfit j (by omega)
    have b3 := clampI b1
    rw [e1, ecn, pk_un (by omega)]
    refine wdl_ext (fun i hi => ?_)
    have h6 : w * j + w ≤ w * Int32.toNatClampNeg c := by
      have := Nat.mul_le_mul_left w (show j + 1 ≤ Int32.toNatClampNeg c from hj)
      rw [Nat.mul_add, Nat.mul_one] at this
      exact this
    rw [e0, ecw, pk_cpy_out (by omega)]
  · rw [e1, ecn, pk_us, show Int32.toNatClampNeg len = m by omega]
    refine wdl_ext (fun i hi => ?_)
    rw [e0, ecw, pk_cpy_in (by omega) (by omega)]
    exact congrArg f (by omega)
def entV (c : Int32) (fe se fb sb kp : Nat → Int32) : List (Wd × Option Wd) := tab (Int32.toNatClampNeg c) (fun i => (wdl fe (16 * i) (Int32.toNatClampNeg (se i)), if (kp i).toInt = 0 then some (wdl fb (16 * i) (Int32.toNatClampNeg (sb i))) else none))
theorem ent_fst {c : Int32} {fe se fb sb kp : Nat → Int32} : (entV c fe se fb sb kp).map Prod.fst = rwW c fe se 16 := by
  unfold entV rwW
  rw [tab_map]
theorem ent_len {c : Int32} {fe se fb sb kp : Nat → Int32} : (entV c fe se fb sb kp).length = Int32.toNatClampNeg c := tab_len
theorem ent_add {c c1 : Int32} {fe fe1 se se1 fb fb1 sb sb1 kp kp1 : Nat → Int32} {w : Wd} {o : Option Wd} (he : rwW c1 fe1 se1 16 = rwW c fe se 16 ++ [w]) (hb : ∀ j, j < Int32.toNatClampNeg c → wdl fb1 (16 * j) (Int32.toNatClampNeg (sb1 j)) = wdl fb (16 * j) (Int32.toNatClampNeg (sb j))) (hk : ∀ j, j < Int32.toNatClampNeg c → kp1 j = kp j) (ho : (if (kp1 (Int32.toNatClampNeg c)).toInt = 0 then some (wdl fb1 (16 * Int32.toNatClampNeg c) (Int32.toNatClampNeg (sb1 (Int32.toNatClampNeg c)))) else none) = o) : entV c1 fe1 se1 fb1 sb1 kp1 = entV c fe se fb sb kp ++ [(w, o)] := by
  obtain ⟨h1, h2, h3⟩ := app_tab he
  unfold entV
  refine tab_add h1 (fun j hj => ?_) ?_
  · rw [h2 j hj, hk j hj, hb j hj]
  · rw [h3, ho]
theorem ent_congr {c c1 : Int32} {fe fe1 se se1 fb fb1 sb sb1 kp kp1 : Nat → Int32} (hc : c1 = c) (h1 : fe1 = fe) (h2 : se1 = se) (h3 : fb1 = fb) (h4 : sb1 = sb) (h5 : kp1 = kp) : entV c1 fe1 se1 fb1 sb1 kp1 = entV c fe se fb sb kp := by
  rw [hc, h1, h2, h3, h4, h5]
def oar (v0 : Nat → Nat → Int32) (ln : Nat → Nat) (o : Option Nat) : Wd := match o with
  | some x => wdl (v0 x) 0 (ln x)
  | none => []
def lawC (p20 p21 p22 p23 : Nat → Option Nat) (g24 g25 : Nat → Int32) (v0 : Nat → Nat → Int32) (ln : Nat → Nat) (o : Option Nat) : Lw := match o with
  | some lo => (oar v0 ln (p20 lo), oar v0 ln (p21 lo), oar v0 ln (p22 lo), oar v0 ln (p23 lo), g24 lo, g25 lo)
  | none => ([], [], [], [], 0, 0)
def lwsV (c : Int32) (ol : Nat → Option Nat) (p20 p21 p22 p23 : Nat → Option Nat) (g24 g25 : Nat → Int32) (v0 : Nat → Nat → Int32) (ln : Nat → Nat) : List Lw := tab (Int32.toNatClampNeg c) (fun i => lawC p20 p21 p22 p23 g24 g25 v0 ln (ol i))
def LWL (c : Int32) (ol : Nat → Option Nat) (la : Nat → Nat) (cnt L : Nat) : Prop := ∀ i, i < Int32.toNatClampNeg c → ∃ lo, ol i = some lo ∧ lo < cnt ∧ la lo = L
theorem oar_eq {v0 v1 : Nat → Nat → Int32} {ln ln1 : Nat → Nat} {o : Option Nat} (h : ∀ x, o = some x → v1 x = v0 x ∧ ln1 x = ln x) : oar v1 ln1 o = oar v0 ln o := by
  cases o with
  | none => rfl
  | some x =>
    obtain ⟨h1, h2⟩ := h x rfl
    show wdl (v1 x) 0 (ln1 x) = wdl (v0 x) 0 (ln x)
    rw [h1, h2]
theorem lawC_eq {p20 p21 p22 p23 q20 q21 q22 q23 : Nat → Option Nat} {g24 g25 k24 k25 : Nat → Int32} {v0 v1 : Nat → Nat → Int32} {ln ln1 : Nat → Nat} {lo : Nat} (h0 : q20 lo = p20 lo) (h1 : q21 lo = p21 lo) (h2 : q22 lo = p22 lo) (h3 : q23 lo = p23 lo) (h4 : k24 lo = g24 lo) (h5 : k25 lo = g25 lo) (h : ∀ x, (p20 lo = some x ∨ p21 lo = some x ∨ p22 lo = some x ∨ p23 lo = some x) → v1 x = v0 x ∧ ln1 x = ln x) : lawC q20 q21 q22 q23 k24 k25 v1 ln1 (some lo) = lawC p20 p21 p22 p23 g24 g25 v0 ln (some lo) := by
  show (oar v1 ln1 (q20 lo), oar v1 ln1 (q21 lo), oar v1 ln1 (q22 lo), oar v1 ln1 (q23 lo), k24 lo, k25 lo) = (oar v0 ln (p20 lo), oar v0 ln (p21 lo), oar v0 ln (p22 lo), oar v0 ln (p23 lo), g24 lo, g25 lo)
  rw [h0, h1, h2, h3, h4, h5, oar_eq (fun x hx => h x (Or.inl hx)), oar_eq (fun x hx => h x (Or.inr (Or.inl hx))), oar_eq (fun x hx => h x (Or.inr (Or.inr (Or.inl hx)))), oar_eq (fun x hx => h x (Or.inr (Or.inr (Or.inr hx))))]
theorem lws_fr {c c1 : Int32} {ol ol1 : Nat → Option Nat} {P P1 : Nat → Nat → Option Nat} {g24 g25 k24 k25 : Nat → Int32} {v0 v1 : Nat → Nat → Int32} {ln ln1 : Nat → Nat} {la : Nat → Nat} {cnt L : Nat} (hB : LB la cnt P) (hL : LWL c ol la cnt L) (hc : c1 = c) (ho : ∀ i, i < Int32.toNatClampNeg c → ol1 i = ol i) (hp : ∀ z, z < cnt → la z = L → P1 20 z = P 20 z ∧ P1 21 z = P 21 z ∧ P1 22 z = P 22 z ∧ P1 23 z = P 23 z ∧ k24 z = g24 z ∧ k25 z = g25 z ∧ v1 z = v0 z ∧ ln1 z = ln z) : lwsV c1 ol1 (P1 20) (P1 21) (P1 22) (P1 23) k24 k25 v1 ln1 = lwsV c ol (P 20) (P 21) (P 22) (P 23) g24 g25 v0 ln := by
  subst hc
  unfold lwsV
  refine tab_ext (fun i hi => ?_)
  obtain ⟨lo, h1, h2, h3⟩ := hL i hi
  rw [ho i hi, h1]
  obtain ⟨a1, a2, a3, a4, a5, a6, a7, a8⟩ := hp lo h2 h3
  refine lawC_eq a1 a2 a3 a4 a5 a6 (fun x hx => ?_)
  have hx2 : x < cnt ∧ la x = L := by
    rcases hx with hx | hx | hx | hx
    · obtain ⟨_, b1, b2⟩ := hB.1 20 fl_20 lo x hx
      have b2 : la x = la lo + 0 := lk_20.mp b2
      omega
    · obtain ⟨_, b1, b2⟩ := hB.1 21 fl_21 lo x hx
      have b2 : la x = la lo + 0 := lk_21.mp b2
      omega
    · obtain ⟨_, b1, b2⟩ := hB.1 22 fl_22 lo x hx
      have b2 : la x = la lo + 0 := lk_22.mp b2
      omega
    · obtain ⟨_, b1, b2⟩ := hB.1 23 fl_23 lo x hx
      have b2 : la x = la lo + 0 := lk_23.mp b2
      omega
  obtain ⟨_, _, _, _, _, _, a7, a8⟩ := hp x hx2.1 hx2.2
  exact ⟨a7, a8⟩
theorem LWL_fr {c c1 : Int32} {ol ol1 : Nat → Option Nat} {la la1 : Nat → Nat} {cnt cnt1 L : Nat} (hL : LWL c ol la cnt L) (hc : c1 = c) (ho : ∀ i, i < Int32.toNatClampNeg c → ol1 i = ol i) (hle : cnt ≤ cnt1) (ha : ∀ z, z < cnt → la1 z = la z) : LWL c1 ol1 la1 cnt1 L := by
  subst hc
  intro i hi
  obtain ⟨lo, h1, h2, h3⟩ := hL i hi
  exact ⟨lo, (ho i hi).trans h1, by omega, (ha lo h2).trans h3⟩
def PTS (P : Nat → Nat → Option Nat) (c200 : Nat → Int32) (ln : Nat → Nat) (rf er br pr kp lr le lb lp se sb sp : Nat) : Prop := (P 104 rf = some er ∧ P 105 rf = some br ∧ P 103 rf = some pr ∧ P 106 rf = some kp ∧ P 101 rf = some lr) ∧ (P 201 er = some le ∧ P 201 br = some lb ∧ P 201 pr = some lp) ∧ (P 202 er = some se ∧ P 202 br = some sb ∧ P 202 pr = some sp) ∧ ((c200 er).toInt = 16 ∧ (c200 br).toInt = 16 ∧ (c200 pr).toInt = 16) ∧ (ln se = 40 ∧ ln sb = 40 ∧ ln sp = 40)
def OUTC (o : Ou) (k p : Int32) (a : Int32) (R : Dr → Prop) : Prop := match o with
  | .error (x, y) => ERR (some (x, y)) k p
  | .ok (e1, d1) => k.toInt = 0 ∧ p.toInt = -1 ∧ Int32.toNatClampNeg a = e1 ∧ R d1
theorem outc_bad {o : Ou} {k p a : Int32} {R : Dr → Prop} {z : Er} (hz : ERR z k p) (h : ∀ q, z = some q → o = .error q) : OUTC o k p a R := by
  obtain ⟨h1, h2⟩ := hz
  rw [h _ h1]
  exact ⟨rfl, h2⟩
theorem outc_ok {o : Ou} {k p a : Int32} {R : Dr → Prop} {e1 : Nat} {d1 : Dr} (h : o = .ok (e1, d1)) (h1 : k.toInt = 0) (h4 : p.toInt = -1) (h2 : Int32.toNatClampNeg a = e1) (h3 : R d1) : OUTC o k p a R := by
  rw [h]
  exact ⟨h1, h4, h2, h3⟩
