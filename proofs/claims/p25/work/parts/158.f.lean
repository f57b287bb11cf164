/-! reading: what the reference holds -/
def WR (t s : Nat → Int32) (k : Nat) : Wd := wdl t (16 * k) (Int32.toNatClampNeg (s k))
def entR (c : Int32) (t s : Nat → Int32) (b : Nat) : List (Wd × Option Wd) := tab (Int32.toNatClampNeg c) (fun i => (WR t s (b + 2 * i), if (s (b + 2 * i + 1)).toInt = -1 then none else some (WR t s (b + 2 * i + 1))))
def prtR (c : Int32) (t s : Nat → Int32) (b : Nat) : List Wd := tab (Int32.toNatClampNeg c) (fun i => WR t s (b + i))
def lawR (t s a1 a2 : Nat → Int32) (l : Nat) : Lw := (WR t s (4 * l), WR t s (4 * l + 1), WR t s (4 * l + 2), WR t s (4 * l + 3), a1 l, a2 l)
def lwsR (c : Int32) (t s a1 a2 : Nat → Int32) (b : Nat) : List Lw := tab (Int32.toNatClampNeg c) (fun i => lawR t s a1 a2 (b + i))
theorem cpw_stepS {f b h : Nat → Int32} {sp o k : Nat} {ix v : Int32} (hh : h = va_cpy f b sp o k) (hi : ix.toInt = (o : Int) + (k : Int)) (hv : v = f (sp + k)) : upd h (Int32.toNatClampNeg ix) v = va_cpy f b sp o (k + 1) := by
  have hc := clampI (x := ix) (by omega)
  have e1 : Int32.toNatClampNeg ix = o + k := by omega
  funext j
  rw [hh, e1, hv]
  by_cases q : j = o + k
  · rw [q, pk_us, pk_cpy_in (by omega) (by omega)]
    exact congrArg f (by omega)
  · rw [pk_un q]
    by_cases q2 : o ≤ j ∧ j < o + k
    · rw [pk_cpy_in q2.1 q2.2, pk_cpy_in q2.1 (by omega)]
    · rw [pk_cpy_out (by omega), pk_cpy_out (by omega)]
theorem cpw_0S {f b : Nat → Int32} {sp o : Nat} : b = va_cpy f b sp o 0 := by
  funext j
  rw [pk_cpy_out (by omega)]
def TAKEN (t t1 s s1 : Nat → Int32) (k : Nat) (f : Nat → Int32) (st m : Nat) : Prop := m ≤ 16 ∧ t1 = va_cpy f t st (16 * k) m ∧ ∃ L : Int32, L.toInt = (m : Int) ∧ s1 = upd s k L
theorem TK_s {t t1 s s1 f : Nat → Int32} {k st m q : Nat} (h : TAKEN t t1 s s1 k f st m) (hq : q ≠ k) : s1 q = s q := by
  obtain ⟨_, _, L, _, e⟩ := h
  rw [e]
  exact pk_un hq
theorem TK_w {t t1 s s1 f : Nat → Int32} {k st m q : Nat} (h : TAKEN t t1 s s1 k f st m) (hs : (s q).toInt ≤ 16) (hq : q ≠ k) : WR t1 s1 q = WR t s q := by
  unfold WR
  rw [TK_s h hq]
  obtain ⟨hm, e, _⟩ := h
  refine wdl_ext (fun j hj => ?_)
  rw [e]
  have hj2 : (j : Int) < 16 := by
    by_cases q0 : 0 ≤ (s q).toInt
    · have := clampI q0
      omega
    · have hz : Int32.toNatClampNeg (s q) = 0 := by
        show (s q).toInt.toNat = 0
        omega
      omega
  exact pk_cpy_out (by omega)
theorem TK_k {t t1 s s1 f : Nat → Int32} {k st m : Nat} (h : TAKEN t t1 s s1 k f st m) : WR t1 s1 k = wdl f st m ∧ (s1 k).toInt = (m : Int) := by
  obtain ⟨_, e0, L, hL, e⟩ := h
  have hc := clampI (x := L) (by omega)
  refine ⟨?_, by rw [e, pk_us]; exact hL⟩
  unfold WR
  rw [e, pk_us, show Int32.toNatClampNeg L = m by omega]
  refine wdl_ext (fun j hj => ?_)
  rw [e0, pk_cpy_in (by omega) (by omega)]
  exact congrArg f (by omega)
theorem ent_fstR {c : Int32} {t s : Nat → Int32} {b : Nat} : (entR c t s b).map Prod.fst = tab (Int32.toNatClampNeg c) (fun i => WR t s (b + 2 * i)) := by
  unfold entR
  rw [tab_map]
theorem ent_lenR {c : Int32} {t s : Nat → Int32} {b : Nat} : (entR c t s b).length = Int32.toNatClampNeg c := tab_len
theorem prt_lenR {c : Int32} {t s : Nat → Int32} {b : Nat} : (prtR c t s b).length = Int32.toNatClampNeg c := tab_len
theorem lws_lenR {c : Int32} {t s a1 a2 : Nat → Int32} {b : Nat} : (lwsR c t s a1 a2 b).length = Int32.toNatClampNeg c := tab_len
theorem TKS_at {f : Nat → Int32} {n e : Nat} {sort what at_ end_ : Int} (h : TKS f n e sort what at_ end_) : at_ = (tP f n e : Int) := h.1
theorem TKS_2 {f : Nat → Int32} {n e : Nat} {sort what at_ end_ : Int} (h : TKS f n e sort what at_ end_) (hs : sort = 2) : tK f n e = 2 ∧ end_ = (tE f n e : Int) := by
  rcases h.2 with h | h | h | h | h
  · exact absurd h.2.1 (by omega)
  · rcases h.2.2 with z | z
    · exact absurd z.1 (by omega)
    · exact absurd z.1 (by omega)
  · exact ⟨h.1, h.2.2⟩
  · exact absurd h.2.1 (by omega)
  · exact absurd h.2 (by omega)
theorem TKS_n2 {f : Nat → Int32} {n e : Nat} {sort what at_ end_ : Int} (h : TKS f n e sort what at_ end_) (hs : sort ≠ 2) : tK f n e ≠ 2 := by
  rcases h.2 with h | h | h | h | h
  · have := h.1; omega
  · have := h.1; omega
  · exact absurd h.2.1 hs
  · have := h.1; omega
  · have := h.1; omega
theorem TKS_3 {f : Nat → Int32} {n e : Nat} {sort what at_ end_ : Int} (h : TKS f n e sort what at_ end_) (hs : sort = 3) : tK f n e = 3 ∧ end_ = (tE f n e : Int) := by
  rcases h.2 with h | h | h | h | h
  · exact absurd h.2.1 (by omega)
  · rcases h.2.2 with z | z
    · exact absurd z.1 (by omega)
    · exact absurd z.1 (by omega)
  · exact absurd h.2.1 (by omega)
  · exact ⟨h.1, h.2.2⟩
  · exact absurd h.2 (by omega)
theorem TKS_n3 {f : Nat → Int32} {n e : Nat} {sort what at_ end_ : Int} (h : TKS f n e sort what at_ end_) (hs : sort ≠ 3) : tK f n e ≠ 3 := by
  rcases h.2 with h | h | h | h | h
  · have := h.1; omega
  · have := h.1; omega
  · have := h.1; omega
  · exact absurd h.2.1 hs
  · have := h.1; omega
theorem TKS_0 {f : Nat → Int32} {n e : Nat} {sort what at_ end_ : Int} (h : TKS f n e sort what at_ end_) (hs : sort = 4) : tK f n e = 0 := by
  rcases h.2 with h | h | h | h | h
  · exact h.1
  · rcases h.2.2 with z | z
    · exact absurd z.1 (by omega)
    · exact absurd z.1 (by omega)
  · exact absurd h.2.1 (by omega)
  · exact absurd h.2.1 (by omega)
  · exact absurd h.2 (by omega)
theorem TKS_n0 {f : Nat → Int32} {n e : Nat} {sort what at_ end_ : Int} (h : TKS f n e sort what at_ end_) (hs : sort ≠ 4) : tK f n e ≠ 0 := by
  rcases h.2 with h | h | h | h | h
  · exact absurd h.2.1 hs
  · have := h.1; omega
  · have := h.1; omega
  · have := h.1; omega
  · have := h.1; omega
theorem TKS_key {f : Nat → Int32} {n e k : Nat} {sort what at_ end_ : Int} (h : TKS f n e sort what at_ end_) (hs : sort = 1) (hk : what = (k : Int)) : fKey f n e k = true ∧ end_ = (tE f n e : Int) := by
  rcases h.2 with h | h | h | h | h
  · exact absurd h.2.1 (by omega)
  · rcases h.2.2 with z | z
    · refine ⟨fKey_t h.1 ?_, h.2.1⟩
      have e1 : what.toNat = k := by omega
      rw [← e1]
      exact z.2.2.2
    · exact absurd z.1 (by omega)
  · exact absurd h.2.1 (by omega)
  · exact absurd h.2.1 (by omega)
  · exact absurd h.2 (by omega)
theorem TKS_nkey {f : Nat → Int32} {n e k : Nat} {sort what at_ end_ : Int} (h : TKS f n e sort what at_ end_) (hs : sort ≠ 1 ∨ what ≠ (k : Int)) (hk : k < 9) : fKey f n e k = false := by
  refine fKey_f (fun q => ?_)
  rcases h.2 with h | h | h | h | h
  · have := h.1; omega
  · rcases h.2.2 with z | z
    · have hu := isk_u (by omega) hk z.2.2.2 q.2
      omega
    · exact z.2 k hk q.2
  · have := h.1; omega
  · have := h.1; omega
  · have := h.1; omega
theorem TKS_wh {f : Nat → Int32} {n e : Nat} {sort what at_ end_ : Int} (h : TKS f n e sort what at_ end_) (hs : sort = 1) : 0 ≤ what ∧ what < 9 := by
  rcases h.2 with h | h | h | h | h
  · exact absurd h.2.1 (by omega)
  · rcases h.2.2 with z | z
    · exact ⟨z.2.1, z.2.2.1⟩
    · exact absurd z.1 (by omega)
  · exact absurd h.2.1 (by omega)
  · exact absurd h.2.1 (by omega)
  · exact absurd h.2 (by omega)
def OUTS (o : Ou) (r k p : Int32) (f : Nat → Int32) (n : Nat) (R : Nat → Dr → Prop) : Prop := (r.toInt = 0 → ∃ x, o = .error x ∧ ERR (some x) k p) ∧ (r.toInt ≠ 0 → ∃ e1 d1, o = oB (fCl f n e1) (.ok (tE f n e1, d1)) ∧ R e1 d1)
theorem outs_bad {o : Ou} {r k p : Int32} {f : Nat → Int32} {n : Nat} {R : Nat → Dr → Prop} {z : Er} (hr : r.toInt = 0) (hz : ERR z k p) (h : ∀ q, z = some q → o = .error q) : OUTS o r k p f n R := by
  obtain ⟨h1, h2⟩ := hz
  exact ⟨fun _ => ⟨_, h _ h1, rfl, h2⟩, fun q => absurd hr q⟩
theorem outs_ok {o : Ou} {r k p : Int32} {f : Nat → Int32} {n : Nat} {R : Nat → Dr → Prop} {e1 : Nat} {d1 : Dr} (hr : r.toInt ≠ 0) (h : o = oB (fCl f n e1) (.ok (tE f n e1, d1))) (h3 : R e1 d1) : OUTS o r k p f n R := ⟨fun q => absurd q hr, fun _ => ⟨e1, d1, h, h3⟩⟩
theorem entF_kO {f : Nat → Int32} {n pl e : Nat} {d : Dr} (h : ¬ 40 ≤ d.1.length) (hn : newF f n e (d.1.map Prod.fst) = none) : entF f n pl e d false = oB (fCl f n (tE f n e)) (.ok (tE f n (tE f n e), (d.1 ++ [(tW f n e, none)], d.2))) := by
  unfold entF
  rw [if_neg h, oB_o hn, if_neg (by decide)]
theorem entF_lO {f : Nat → Int32} {n pl e : Nat} {d : Dr} (h : ¬ 40 ≤ d.1.length) (hn : newF f n e (d.1.map Prod.fst) = none) (h1 : fTo f n (tE f n e) = none) (h2 : fLet f n (tE f n (tE f n e)) false = none) : entF f n pl e d true = oB (fCl f n (tE f n (tE f n (tE f n e)))) (.ok (tE f n (tE f n (tE f n (tE f n e))), (d.1 ++ [(tW f n e, some (tW f n (tE f n (tE f n e))))], d.2))) := by
  unfold entF
  rw [if_neg h, oB_o hn, if_pos rfl, oB_o h1, oB_o h2]
theorem prtF_kO {f : Nat → Int32} {n pl e : Nat} {d : Dr} (h : ¬ 40 ≤ d.2.1.length) (hn : newF f n e d.2.1 = none) : prtF f n pl e d = oB (fCl f n (tE f n e)) (.ok (tE f n (tE f n e), (d.1, d.2.1 ++ [tW f n e], d.2.2))) := by
  unfold prtF
  rw [if_neg h, oB_o hn]
theorem sid_step {f : Nat → Int32} {n e k : Nat} {d : Dr} {x y a b : Wd} {s t : Int32} : sidF f n d (k + 1) e (x, y, a, b, s, t) = if tK f n e = 3 then .ok (tE f n e, (d.1, d.2.1, d.2.2 ++ [(x, y, a, b, s, t)])) else if fKey f n e 5 = true then (if s ≠ 0 then .error (3, tP f n e) else sidF f n d k (tE f n e) (x, y, a, b, 1, t)) else if fKey f n e 6 = true then (if t ≠ 0 then .error (3, tP f n e) else sidF f n d k (tE f n e) (x, y, a, b, s, 1)) else if fKey f n e 7 = true then (if a ≠ [] then .error (3, tP f n e) else oB (fLet f n (tE f n e) true) (sidF f n d k (tE f n (tE f n e)) (x, y, tW f n (tE f n e), b, s, t))) else if fKey f n e 8 = true then (if b ≠ [] then .error (3, tP f n e) else oB (fLet f n (tE f n e) true) (sidF f n d k (tE f n (tE f n e)) (x, y, a, tW f n (tE f n e), s, t))) else .error (1, tP f n e) := rfl
theorem sid_c {f : Nat → Int32} {n e k : Nat} {d : Dr} {l : Lw} (h3 : tK f n e = 3) : sidF f n d (k + 1) e l = .ok (tE f n e, (d.1, d.2.1, d.2.2 ++ [l])) := by
  obtain ⟨x, y, a, b, s, t⟩ := l
  rw [sid_step, if_pos h3]
theorem k3_of {f : Nat → Int32} {n e k : Nat} (h : fKey f n e k = true) : tK f n e ≠ 3 := by
  have := (fKey_k h).1
  omega
theorem sid_5 {f : Nat → Int32} {n e k : Nat} {d : Dr} {x y a b : Wd} {s t : Int32} (h : fKey f n e 5 = true) : sidF f n d (k + 1) e (x, y, a, b, s, t) = if s ≠ 0 then .error (3, tP f n e) else sidF f n d k (tE f n e) (x, y, a, b, 1, t) := by
  rw [sid_step, if_neg (k3_of h), if_pos h]
theorem sid_6 {f : Nat → Int32} {n e k : Nat} {d : Dr} {x y a b : Wd} {s t : Int32} (h : fKey f n e 6 = true) : sidF f n d (k + 1) e (x, y, a, b, s, t) = if t ≠ 0 then .error (3, tP f n e) else sidF f n d k (tE f n e) (x, y, a, b, s, 1) := by
  rw [sid_step, if_neg (k3_of h), key_u (k := 5) h (by omega) (by omega) (by omega), if_neg (by decide), if_pos h]
theorem sid_7 {f : Nat → Int32} {n e k : Nat} {d : Dr} {x y a b : Wd} {s t : Int32} (h : fKey f n e 7 = true) : sidF f n d (k + 1) e (x, y, a, b, s, t) = if a ≠ [] then .error (3, tP f n e) else oB (fLet f n (tE f n e) true) (sidF f n d k (tE f n (tE f n e)) (x, y, tW f n (tE f n e), b, s, t)) := by
  rw [sid_step, if_neg (k3_of h), key_u (k := 5) h (by omega) (by omega) (by omega), if_neg (by decide), key_u (k := 6) h (by omega) (by omega) (by omega), if_neg (by decide), if_pos h]
theorem sid_8 {f : Nat → Int32} {n e k : Nat} {d : Dr} {x y a b : Wd} {s t : Int32} (h : fKey f n e 8 = true) : sidF f n d (k + 1) e (x, y, a, b, s, t) = if b ≠ [] then .error (3, tP f n e) else oB (fLet f n (tE f n e) true) (sidF f n d k (tE f n (tE f n e)) (x, y, a, tW f n (tE f n e), s, t)) := by
  rw [sid_step, if_neg (k3_of h), key_u (k := 5) h (by omega) (by omega) (by omega), if_neg (by decide), key_u (k := 6) h (by omega) (by omega) (by omega), if_neg (by decide), key_u (k := 7) h (by omega) (by omega) (by omega), if_neg (by decide), if_pos h]
theorem sid_o {f : Nat → Int32} {n e k : Nat} {d : Dr} {l : Lw} (h5 : fKey f n e 5 = false) (h6 : fKey f n e 6 = false) (h7 : fKey f n e 7 = false) (h8 : fKey f n e 8 = false) : sidF f n d (k + 1) e l = oB (fCl f n e) (.ok (tE f n e, (d.1, d.2.1, d.2.2 ++ [l]))) := by
  obtain ⟨x, y, a, b, s, t⟩ := l
  rw [sid_step]
  by_cases q : tK f n e = 3
  · rw [if_pos q, oB_o (fCl_ok q)]
  · rw [if_neg q, oB_e (fCl_bad q), h5, if_neg (by decide), h6, if_neg (by decide), h7, if_neg (by decide), h8, if_neg (by decide)]
def fl4 (l : Lw) : Nat := (if l.2.2.2.2.1 ≠ 0 then 1 else 0) + (if l.2.2.2.2.2 ≠ 0 then 1 else 0) + (if l.2.2.1 ≠ [] then 1 else 0) + (if l.2.2.2.1 ≠ [] then 1 else 0)
theorem fl4_le (l : Lw) : fl4 l ≤ 4 := by
  unfold fl4
  split <;> split <;> split <;> split <;> omega
theorem ent_addR {c c1 : Int32} {t s t2 s2 : Nat → Int32} {b : Nat} {w : Wd} {o : Option Wd} (hc : Int32.toNatClampNeg c1 = Int32.toNatClampNeg c + 1) (h1 : ∀ q, q < b + 2 * Int32.toNatClampNeg c → WR t2 s2 q = WR t s q ∧ s2 q = s q) (h2 : WR t2 s2 (b + 2 * Int32.toNatClampNeg c) = w) (h3 : (if (s2 (b + 2 * Int32.toNatClampNeg c + 1)).toInt = -1 then none else some (WR t2 s2 (b + 2 * Int32.toNatClampNeg c + 1))) = o) : entR c1 t2 s2 b = entR c t s b ++ [(w, o)] := by
  unfold entR
  refine tab_add hc (fun j hj => ?_) ?_
  · rw [(h1 (b + 2 * j) (by omega)).1, (h1 (b + 2 * j + 1) (by omega)).1, (h1 (b + 2 * j + 1) (by omega)).2]
  · rw [h2, h3]
theorem prt_addR {c c1 : Int32} {t s t2 s2 : Nat → Int32} {b : Nat} {w : Wd} (hc : Int32.toNatClampNeg c1 = Int32.toNatClampNeg c + 1) (h1 : ∀ q, q < b + Int32.toNatClampNeg c → WR t2 s2 q = WR t s q) (h2 : WR t2 s2 (b + Int32.toNatClampNeg c) = w) : prtR c1 t2 s2 b = prtR c t s b ++ [w] := by
  unfold prtR
  exact tab_add hc (fun j hj => h1 (b + j) (by omega)) h2
theorem lws_addR {c c1 : Int32} {t s a1 a2 t2 s2 a3 a4 : Nat → Int32} {b : Nat} {l : Lw} (hc : Int32.toNatClampNeg c1 = Int32.toNatClampNeg c + 1) (h1 : ∀ q, q < 4 * (b + Int32.toNatClampNeg c) → WR t2 s2 q = WR t s q) (ha : ∀ q, q < b + Int32.toNatClampNeg c → a3 q = a1 q ∧ a4 q = a2 q) (h2 : lawR t2 s2 a3 a4 (b + Int32.toNatClampNeg c) = l) : lwsR c1 t2 s2 a3 a4 b = lwsR c t s a1 a2 b ++ [l] := by
  unfold lwsR
  refine tab_add hc (fun j hj => ?_) h2
  unfold lawR
  rw [h1 (4 * (b + j)) (by omega), h1 (4 * (b + j) + 1) (by omega), h1 (4 * (b + j) + 2) (by omega), h1 (4 * (b + j) + 3) (by omega), (ha (b + j) (by omega)).1, (ha (b + j) (by omega)).2]
def BW (w : Wd) : Prop := ∀ x ∈ w, vp_nar .byte x = x
def WF1 (w : Wd) : Prop := BW w ∧ w.length ≤ 16
def WFD (d : Dr) : Prop := (∀ x ∈ d.1, x.1 ≠ [] ∧ WF1 x.1 ∧ ∀ w, x.2 = some w → WF1 w) ∧ (∀ w ∈ d.2.1, w ≠ [] ∧ WF1 w) ∧ (∀ l ∈ d.2.2, l.1 ≠ [] ∧ WF1 l.1 ∧ WF1 l.2.1 ∧ WF1 l.2.2.1 ∧ WF1 l.2.2.2.1 ∧ (l.2.2.2.2.1 = 0 ∨ l.2.2.2.2.1 = 1) ∧ (l.2.2.2.2.2 = 0 ∨ l.2.2.2.2.2 = 1))
theorem wdl_mem {f : Nat → Int32} {s m j : Nat} (h : j < m) : f (s + j) ∈ wdl f s m := by
  unfold wdl
  exact List.mem_map.mpr ⟨j, List.mem_range.mpr h, rfl⟩
theorem wf_nil : WF1 [] := ⟨fun x hx => absurd hx List.not_mem_nil, Nat.zero_le _⟩
theorem wf_tW {f : Nat → Int32} {n e : Nat} (hfit : ∀ i, fits .byte (.int (f i)) = true) (h : tK f n e = 2) : WF1 (tW f n e) := by
  refine ⟨fun x hx => ?_, ?_⟩
  · unfold tW wdl at hx
    obtain ⟨j, _, rfl⟩ := List.mem_map.mp hx
    exact fit_id (hfit _)
  · unfold tW
    rw [wdl_len]
    exact (tL_2 h).1
theorem wfd_e {d : Dr} {c : Int32} {t s : Nat → Int32} {b j : Nat} (h : WFD d) (hd : d.1 = entR c t s b) (hj : j < Int32.toNatClampNeg c) : WR t s (b + 2 * j) ≠ [] := (h.1 (WR t s (b + 2 * j), _) (by rw [hd]; exact tab_mem.mpr ⟨j, hj, rfl⟩)).1
theorem wfd_p {d : Dr} {c : Int32} {t s : Nat → Int32} {b j : Nat} (h : WFD d) (hd : d.2.1 = prtR c t s b) (hj : j < Int32.toNatClampNeg c) : WR t s (b + j) ≠ [] := (h.2.1 (WR t s (b + j)) (by rw [hd]; exact tab_mem.mpr ⟨j, hj, rfl⟩)).1
theorem wfd_0 : WFD ([], [], []) := ⟨fun x hx => absurd hx List.not_mem_nil, fun x hx => absurd hx List.not_mem_nil, fun x hx => absurd hx List.not_mem_nil⟩
theorem bw_e {d : Dr} {c : Int32} {t s : Nat → Int32} {b k : Nat} (h : WFD d) (hd : d.1 = entR c t s b) (hk : k < 2 * Int32.toNatClampNeg c) : BW (WR t s (b + k)) := by
  obtain ⟨j, hj⟩ : ∃ j, k = 2 * j ∨ k = 2 * j + 1 := ⟨k / 2, by omega⟩
  have hm := h.1 (WR t s (b + 2 * j), if (s (b + 2 * j + 1)).toInt = -1 then none else some (WR t s (b + 2 * j + 1))) (by rw [hd]; exact tab_mem.mpr ⟨j, by omega, rfl⟩)
  rcases hj with hj | hj
  · rw [hj]
    exact hm.2.1.1
  · rw [hj, show b + (2 * j + 1) = b + 2 * j + 1 by omega]
    by_cases q : (s (b + 2 * j + 1)).toInt = -1
    · unfold WR
      rw [(wdl_nil (f := t) (s := 16 * (b + 2 * j + 1)) (m := Int32.toNatClampNeg (s (b + 2 * j + 1)))).mpr (by show (s (b + 2 * j + 1)).toInt.toNat = 0; omega)]
      exact wf_nil.1
    · exact (hm.2.2 (WR t s (b + 2 * j + 1)) (if_neg q)).1
theorem bw_p {d : Dr} {c : Int32} {t s : Nat → Int32} {b k : Nat} (h : WFD d) (hd : d.2.1 = prtR c t s b) (hk : k < Int32.toNatClampNeg c) : BW (WR t s (b + k)) := (h.2.1 (WR t s (b + k)) (by rw [hd]; exact tab_mem.mpr ⟨k, hk, rfl⟩)).2.1
theorem bw_l {d : Dr} {c : Int32} {t s a1 a2 : Nat → Int32} {b k : Nat} (h : WFD d) (hd : d.2.2 = lwsR c t s a1 a2 b) (hk : k < 4 * Int32.toNatClampNeg c) : BW (WR t s (4 * b + k)) := by
  obtain ⟨j, hj⟩ : ∃ j, k = 4 * j ∨ k = 4 * j + 1 ∨ k = 4 * j + 2 ∨ k = 4 * j + 3 := ⟨k / 4, by omega⟩
  have hm := h.2.2 (lawR t s a1 a2 (b + j)) (by rw [hd]; exact tab_mem.mpr ⟨j, by omega, rfl⟩)
  rcases hj with hj | hj | hj | hj
  · rw [hj, show 4 * b + 4 * j = 4 * (b + j) by omega]
    exact hm.2.1.1
  · rw [hj, show 4 * b + (4 * j + 1) = 4 * (b + j) + 1 by omega]
    exact hm.2.2.1.1
  · rw [hj, show 4 * b + (4 * j + 2) = 4 * (b + j) + 2 by omega]
    exact hm.2.2.2.1.1
  · rw [hj, show 4 * b + (4 * j + 3) = 4 * (b + j) + 3 by omega]
    exact hm.2.2.2.2.1.1
theorem wr_pos {t s : Nat → Int32} {k : Nat} (h : WR t s k ≠ []) : 1 ≤ (s k).toInt := by
  by_cases q : 1 ≤ (s k).toInt
  · exact q
  · refine absurd ?_ h
    unfold WR
    rw [wdl_nil]
    show (s k).toInt.toNat = 0
    omega
theorem tW_ne {f : Nat → Int32} {n e : Nat} (h : 0 < tL f n e) : tW f n e ≠ [] := by
  unfold tW
  rw [ne_eq, wdl_nil]
  omega
theorem mem_app1 {α : Type} {l : List α} {x y : α} (h : y ∈ l ++ [x]) : y ∈ l ∨ y = x := by
  rcases List.mem_append.mp h with h | h
  · exact Or.inl h
  · exact Or.inr (List.mem_singleton.mp h)
theorem wfd_ent {d : Dr} {w : Wd} {o : Option Wd} (h : WFD d) (hw : w ≠ []) (h1 : WF1 w) (h2 : ∀ z, o = some z → WF1 z) : WFD (d.1 ++ [(w, o)], d.2) := by
  refine ⟨fun y hy => ?_, h.2⟩
  rcases mem_app1 hy with h3 | h3
  · exact h.1 y h3
  · rw [h3]; exact ⟨hw, h1, h2⟩
theorem wfd_prt {d : Dr} {w : Wd} (h : WFD d) (hw : w ≠ []) (h1 : WF1 w) : WFD (d.1, d.2.1 ++ [w], d.2.2) := by
  refine ⟨h.1, fun y hy => ?_, h.2.2⟩
  rcases mem_app1 hy with h3 | h3
  · exact h.2.1 y h3
  · rw [h3]; exact ⟨hw, h1⟩
theorem wfd_law {d : Dr} {l : Lw} (h : WFD d) (hl : l.1 ≠ [] ∧ WF1 l.1 ∧ WF1 l.2.1 ∧ WF1 l.2.2.1 ∧ WF1 l.2.2.2.1 ∧ (l.2.2.2.2.1 = 0 ∨ l.2.2.2.2.1 = 1) ∧ (l.2.2.2.2.2 = 0 ∨ l.2.2.2.2.2 = 1)) : WFD (d.1, d.2.1, d.2.2 ++ [l]) := by
  refine ⟨h.1, h.2.1, fun y hy => ?_⟩
  rcases mem_app1 hy with h3 | h3
  · exact h.2.2 y h3
  · rw [h3]; exact hl
theorem oB_ok {x : Er} {k : Ou} {z : Nat × Dr} (h : oB x k = .ok z) : x = none ∧ k = .ok z := by
  cases hx : x with
  | none => rw [oB_o hx] at h; exact ⟨rfl, h⟩
  | some p => rw [oB_e hx] at h; cases h
theorem sid_wf {f : Nat → Int32} {n : Nat} {d : Dr} (hfit : ∀ i, fits .byte (.int (f i)) = true) (hw : WFD d) : ∀ (k e : Nat) (l : Lw) (z : Nat × Dr), (l.1 ≠ [] ∧ WF1 l.1 ∧ WF1 l.2.1 ∧ WF1 l.2.2.1 ∧ WF1 l.2.2.2.1 ∧ (l.2.2.2.2.1 = 0 ∨ l.2.2.2.2.1 = 1) ∧ (l.2.2.2.2.2 = 0 ∨ l.2.2.2.2.2 = 1)) → sidF f n d k e l = .ok z → WFD z.2 := by
  intro k
  induction k with
  | zero => intro e l z hl h; cases h
  | succ k ih =>
    intro e l z hl h
    obtain ⟨x, y, a, b, s, t⟩ := l
    obtain ⟨l0, l1, l2, l3, l4, l5, l6⟩ := hl
    rw [sid_step] at h
    split at h
    · injection h with h
      subst h
      exact wfd_law hw ⟨l0, l1, l2, l3, l4, l5, l6⟩
    · split at h
      · split at h
        · cases h
        · refine ih _ _ _ ?_ h; exact ⟨l0, l1, l2, l3, l4, Or.inr rfl, l6⟩
      · split at h
        · split at h
          · cases h
          · refine ih _ _ _ ?_ h; exact ⟨l0, l1, l2, l3, l4, l5, Or.inr rfl⟩
        · split at h
          · split at h
            · cases h
            · obtain ⟨h1, h⟩ := oB_ok h
              refine ih _ _ _ ?_ h; exact ⟨l0, l1, l2, wf_tW hfit (fLet_k h1).1, l4, l5, l6⟩
          · split at h
            · split at h
              · cases h
              · obtain ⟨h1, h⟩ := oB_ok h
                refine ih _ _ _ ?_ h; exact ⟨l0, l1, l2, l3, wf_tW hfit (fLet_k h1).1, l5, l6⟩
            · cases h
theorem itm_wf {f : Nat → Int32} {n e : Nat} {d : Dr} {z : Nat × Dr} (hfit : ∀ i, fits .byte (.int (f i)) = true) (hw : WFD d) (h : itmF f n e d = .ok z) : WFD z.2 := by
  have hent : ∀ b, entF f n (tP f n e) (tE f n e) d b = .ok z → WFD z.2 := by
    intro b h
    unfold entF at h
    split at h
    · cases h
    · obtain ⟨h1, h⟩ := oB_ok h
      have hk := newF_k h1
      split at h
      · obtain ⟨_, h⟩ := oB_ok h
        obtain ⟨h2, h⟩ := oB_ok h
        obtain ⟨_, h⟩ := oB_ok h
        injection h with h
        subst h
        exact wfd_ent hw (tW_ne hk.2) (wf_tW hfit hk.1) (fun z hz => by cases hz; exact wf_tW hfit (fLet_k h2).1)
      · obtain ⟨_, h⟩ := oB_ok h
        injection h with h
        subst h
        exact wfd_ent hw (tW_ne hk.2) (wf_tW hfit hk.1) (fun z hz => by cases hz)
  unfold itmF at h
  split at h
  · exact hent _ h
  · split at h
    · exact hent _ h
    · split at h
      · unfold prtF at h
        split at h
        · cases h
        · obtain ⟨h1, h⟩ := oB_ok h
          have hk := newF_k h1
          obtain ⟨_, h⟩ := oB_ok h
          injection h with h
          subst h
          exact wfd_prt hw (tW_ne hk.2) (wf_tW hfit hk.1)
      · split at h
        · unfold lawF at h
          split at h
          · cases h
          · obtain ⟨h1, h⟩ := oB_ok h
            obtain ⟨_, h⟩ := oB_ok h
            obtain ⟨h2, h⟩ := oB_ok h
            have hk := fLet_k h1
            exact sid_wf hfit hw _ _ _ _ ⟨tW_ne (hk.2 rfl), wf_tW hfit hk.1, wf_tW hfit (fLet_k h2).1, wf_nil, wf_nil, Or.inl rfl, Or.inl rfl⟩ h
        · cases h
