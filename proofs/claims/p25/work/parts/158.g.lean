/-! reading: a law's sides, the copy into a reform -/
def LWI (o : Ou) (f : Nat → Int32) (n : Nat) (d : Dr) (t s a1 a2 t0 s0 b1 b2 : Nat → Int32) (L : Nat) (so wh at_ en : Int) (e1 : Nat) : Prop := ∃ k : Nat, TKS f n e1 so wh at_ en ∧ k + fl4 (lawR t s a1 a2 L) = 5 ∧ o = sidF f n d k e1 (lawR t s a1 a2 L) ∧ ((s (4 * L + 2)).toInt = -1 ∨ 1 ≤ (s (4 * L + 2)).toInt) ∧ ((s (4 * L + 3)).toInt = -1 ∨ 1 ≤ (s (4 * L + 3)).toInt) ∧ (∀ q, q < 4 * L → WR t s q = WR t0 s0 q) ∧ (∀ q, q < L → a1 q = b1 q ∧ a2 q = b2 q)
theorem lwi_tok {o : Ou} {f : Nat → Int32} {n : Nat} {d : Dr} {t s a1 a2 t0 s0 b1 b2 : Nat → Int32} {L : Nat} {so wh at_ en : Int} {e1 : Nat} (h : LWI o f n d t s a1 a2 t0 s0 b1 b2 L so wh at_ en e1) : TKS f n e1 so wh at_ en := by
  obtain ⟨k, h1, _⟩ := h
  exact h1
theorem lwi_old {o : Ou} {f : Nat → Int32} {n : Nat} {d : Dr} {t s a1 a2 t0 s0 b1 b2 : Nat → Int32} {L : Nat} {so wh at_ en : Int} {e1 : Nat} (h : LWI o f n d t s a1 a2 t0 s0 b1 b2 L so wh at_ en e1) : ∀ q, q < 4 * L → WR t s q = WR t0 s0 q := by
  obtain ⟨k, _, _, _, _, _, h6, _⟩ := h
  exact h6
theorem lwi_olda {o : Ou} {f : Nat → Int32} {n : Nat} {d : Dr} {t s a1 a2 t0 s0 b1 b2 : Nat → Int32} {L : Nat} {so wh at_ en : Int} {e1 : Nat} (h : LWI o f n d t s a1 a2 t0 s0 b1 b2 L so wh at_ en e1) : ∀ q, q < L → a1 q = b1 q ∧ a2 q = b2 q := by
  obtain ⟨k, _, _, _, _, _, _, h7⟩ := h
  exact h7
theorem wr_m1 {t s : Nat → Int32} {k : Nat} (h : (s k).toInt = -1) : WR t s k = [] := by
  unfold WR
  rw [wdl_nil]
  show (s k).toInt.toNat = 0
  omega
theorem wr_p1 {t s : Nat → Int32} {k : Nat} (h : 1 ≤ (s k).toInt) : WR t s k ≠ [] := by
  unfold WR
  rw [ne_eq, wdl_nil]
  have := clampI (x := s k) (by omega)
  omega
theorem lwi_k {o : Ou} {f : Nat → Int32} {n : Nat} {d : Dr} {l : Lw} {e1 k : Nat} (hk : k + fl4 l = 5) (ho : o = sidF f n d k e1 l) : ∃ k', k = k' + 1 ∧ o = sidF f n d (k' + 1) e1 l := by
  have := fl4_le l
  obtain ⟨k', rfl⟩ : ∃ k', k = k' + 1 := ⟨k - 1, by omega⟩
  exact ⟨k', rfl, ho⟩
theorem lwi_end {o : Ou} {f : Nat → Int32} {n : Nat} {d : Dr} {t s a1 a2 t0 s0 b1 b2 : Nat → Int32} {L : Nat} {so wh at_ en : Int} {e1 : Nat} (h : LWI o f n d t s a1 a2 t0 s0 b1 b2 L so wh at_ en e1) (hs : so ≠ 1 ∨ wh < 5) : o = oB (fCl f n e1) (.ok (tE f n e1, (d.1, d.2.1, d.2.2 ++ [lawR t s a1 a2 L]))) ∧ (∀ q, q < 4 * L → WR t s q = WR t0 s0 q) ∧ (∀ q, q < L → a1 q = b1 q ∧ a2 q = b2 q) := by
  obtain ⟨k, h1, h2, h3, h4, h5, h6, h7⟩ := h
  obtain ⟨k', rfl, h3⟩ := lwi_k h2 h3
  refine ⟨?_, h6, h7⟩
  rw [h3]
  exact sid_o (TKS_nkey h1 (by omega) (by omega)) (TKS_nkey h1 (by omega) (by omega)) (TKS_nkey h1 (by omega) (by omega)) (TKS_nkey h1 (by omega) (by omega))
theorem lwi_had5 {o : Ou} {f : Nat → Int32} {n : Nat} {d : Dr} {t s a1 a2 t0 s0 b1 b2 : Nat → Int32} {L : Nat} {so wh at_ en : Int} {e1 : Nat} (h : LWI o f n d t s a1 a2 t0 s0 b1 b2 L so wh at_ en e1) (hs : so = 1) (hw : wh = 5) (ha : a1 L ≠ 0) : o = .error (3, tP f n e1) := by
  obtain ⟨k, h1, h2, h3, _⟩ := h
  obtain ⟨k', rfl, h3⟩ := lwi_k h2 h3
  rw [h3]
  show sidF f n d (k' + 1) e1 (WR t s (4 * L), WR t s (4 * L + 1), WR t s (4 * L + 2), WR t s (4 * L + 3), a1 L, a2 L) = _
  rw [sid_5 (TKS_key h1 hs hw).1, if_pos ha]
theorem lwi_had6 {o : Ou} {f : Nat → Int32} {n : Nat} {d : Dr} {t s a1 a2 t0 s0 b1 b2 : Nat → Int32} {L : Nat} {so wh at_ en : Int} {e1 : Nat} (h : LWI o f n d t s a1 a2 t0 s0 b1 b2 L so wh at_ en e1) (hs : so = 1) (hw : wh = 6) (ha : a2 L ≠ 0) : o = .error (3, tP f n e1) := by
  obtain ⟨k, h1, h2, h3, _⟩ := h
  obtain ⟨k', rfl, h3⟩ := lwi_k h2 h3
  rw [h3]
  show sidF f n d (k' + 1) e1 (WR t s (4 * L), WR t s (4 * L + 1), WR t s (4 * L + 2), WR t s (4 * L + 3), a1 L, a2 L) = _
  rw [sid_6 (TKS_key h1 hs hw).1, if_pos ha]
theorem lwi_had7 {o : Ou} {f : Nat → Int32} {n : Nat} {d : Dr} {t s a1 a2 t0 s0 b1 b2 : Nat → Int32} {L : Nat} {so wh at_ en : Int} {e1 : Nat} (h : LWI o f n d t s a1 a2 t0 s0 b1 b2 L so wh at_ en e1) (hs : so = 1) (hw : wh = 7) (ha : (s (4 * L + 2)).toInt ≠ -1) : o = .error (3, tP f n e1) := by
  obtain ⟨k, h1, h2, h3, h4, _⟩ := h
  obtain ⟨k', rfl, h3⟩ := lwi_k h2 h3
  rw [h3]
  show sidF f n d (k' + 1) e1 (WR t s (4 * L), WR t s (4 * L + 1), WR t s (4 * L + 2), WR t s (4 * L + 3), a1 L, a2 L) = _
  rw [sid_7 (TKS_key h1 hs hw).1, if_pos (wr_p1 (by omega))]
theorem lwi_had8 {o : Ou} {f : Nat → Int32} {n : Nat} {d : Dr} {t s a1 a2 t0 s0 b1 b2 : Nat → Int32} {L : Nat} {so wh at_ en : Int} {e1 : Nat} (h : LWI o f n d t s a1 a2 t0 s0 b1 b2 L so wh at_ en e1) (hs : so = 1) (hw : wh = 8) (ha : (s (4 * L + 3)).toInt ≠ -1) : o = .error (3, tP f n e1) := by
  obtain ⟨k, h1, h2, h3, h4, h5, _⟩ := h
  obtain ⟨k', rfl, h3⟩ := lwi_k h2 h3
  rw [h3]
  show sidF f n d (k' + 1) e1 (WR t s (4 * L), WR t s (4 * L + 1), WR t s (4 * L + 2), WR t s (4 * L + 3), a1 L, a2 L) = _
  rw [sid_8 (TKS_key h1 hs hw).1, if_pos (wr_p1 (by omega))]
theorem fl4_s {x y a b : Wd} {t : Int32} : fl4 (x, y, a, b, 1, t) = fl4 (x, y, a, b, 0, t) + 1 := by
  unfold fl4
  dsimp only
  rw [if_pos (by decide : (1 : Int32) ≠ 0), if_neg (fun q : (0 : Int32) ≠ 0 => q rfl)]
  try omega
theorem fl4_t {x y a b : Wd} {s : Int32} : fl4 (x, y, a, b, s, 1) = fl4 (x, y, a, b, s, 0) + 1 := by
  unfold fl4
  dsimp only
  rw [if_pos (by decide : (1 : Int32) ≠ 0), if_neg (fun q : (0 : Int32) ≠ 0 => q rfl)]
  try omega
theorem fl4_a {x y a b : Wd} {s t : Int32} (h : a ≠ []) : fl4 (x, y, a, b, s, t) = fl4 (x, y, [], b, s, t) + 1 := by
  unfold fl4
  dsimp only
  rw [if_pos h, if_neg (fun q : ([] : Wd) ≠ [] => q rfl)]
  try omega
theorem fl4_b {x y a b : Wd} {s t : Int32} (h : b ≠ []) : fl4 (x, y, a, b, s, t) = fl4 (x, y, a, [], s, t) + 1 := by
  unfold fl4
  dsimp only
  rw [if_pos h, if_neg (fun q : ([] : Wd) ≠ [] => q rfl)]
  try omega
theorem lwi_st5 {o : Ou} {f : Nat → Int32} {n : Nat} {d : Dr} {t s a1 a2 t0 s0 b1 b2 a3 : Nat → Int32} {L : Nat} {so wh at_ en so2 wh2 at2 en2 : Int} {e1 : Nat} {v : Int32} (h : LWI o f n d t s a1 a2 t0 s0 b1 b2 L so wh at_ en e1) (hs : so = 1) (hw : wh = 5) (ha : a1 L = 0) (ht : TKS f n (tE f n e1) so2 wh2 at2 en2) (e3 : a3 = upd a1 L v) (hv : v = 1) : LWI o f n d t s a3 a2 t0 s0 b1 b2 L so2 wh2 at2 en2 (tE f n e1) := by
  obtain ⟨k, h1, h2, h3, h4, h5, h6, h7⟩ := h
  obtain ⟨k', rfl, h3⟩ := lwi_k h2 h3
  have e9 : a3 L = 1 := by rw [e3, pk_us]; exact hv
  have E1 : lawR t s a1 a2 L = (WR t s (4 * L), WR t s (4 * L + 1), WR t s (4 * L + 2), WR t s (4 * L + 3), 0, a2 L) := by unfold lawR; rw [ha]
  have E2 : lawR t s a3 a2 L = (WR t s (4 * L), WR t s (4 * L + 1), WR t s (4 * L + 2), WR t s (4 * L + 3), 1, a2 L) := by unfold lawR; rw [e9]
  refine ⟨k', ht, ?_, ?_, h4, h5, h6, fun q hq => ⟨by rw [e3, pk_un (by omega)]; exact (h7 q hq).1, (h7 q hq).2⟩⟩
  · rw [E1] at h2
    rw [E2, fl4_s]
    omega
  · rw [h3, E1, E2, sid_5 (TKS_key h1 hs hw).1, if_neg (fun q => q rfl)]
theorem lwi_st6 {o : Ou} {f : Nat → Int32} {n : Nat} {d : Dr} {t s a1 a2 t0 s0 b1 b2 a3 : Nat → Int32} {L : Nat} {so wh at_ en so2 wh2 at2 en2 : Int} {e1 : Nat} {v : Int32} (h : LWI o f n d t s a1 a2 t0 s0 b1 b2 L so wh at_ en e1) (hs : so = 1) (hw : wh = 6) (ha : a2 L = 0) (ht : TKS f n (tE f n e1) so2 wh2 at2 en2) (e3 : a3 = upd a2 L v) (hv : v = 1) : LWI o f n d t s a1 a3 t0 s0 b1 b2 L so2 wh2 at2 en2 (tE f n e1) := by
  obtain ⟨k, h1, h2, h3, h4, h5, h6, h7⟩ := h
  obtain ⟨k', rfl, h3⟩ := lwi_k h2 h3
  have e9 : a3 L = 1 := by rw [e3, pk_us]; exact hv
  have E1 : lawR t s a1 a2 L = (WR t s (4 * L), WR t s (4 * L + 1), WR t s (4 * L + 2), WR t s (4 * L + 3), a1 L, 0) := by unfold lawR; rw [ha]
  have E2 : lawR t s a1 a3 L = (WR t s (4 * L), WR t s (4 * L + 1), WR t s (4 * L + 2), WR t s (4 * L + 3), a1 L, 1) := by unfold lawR; rw [e9]
  refine ⟨k', ht, ?_, ?_, h4, h5, h6, fun q hq => ⟨(h7 q hq).1, by rw [e3, pk_un (by omega)]; exact (h7 q hq).2⟩⟩
  · rw [E1] at h2
    rw [E2, fl4_t]
    omega
  · rw [h3, E1, E2, sid_6 (TKS_key h1 hs hw).1, if_neg (fun q => q rfl)]
theorem lwi_er7 {o : Ou} {f : Nat → Int32} {n : Nat} {d : Dr} {t s a1 a2 t0 s0 b1 b2 : Nat → Int32} {L : Nat} {so wh at_ en : Int} {e1 : Nat} {x : Nat × Nat} (h : LWI o f n d t s a1 a2 t0 s0 b1 b2 L so wh at_ en e1) (hs : so = 1) (hw : wh = 7) (ha : (s (4 * L + 2)).toInt = -1) (hl : fLet f n (tE f n e1) true = some x) : o = .error x := by
  obtain ⟨k, h1, h2, h3, h4, _⟩ := h
  obtain ⟨k', rfl, h3⟩ := lwi_k h2 h3
  rw [h3]
  show sidF f n d (k' + 1) e1 (WR t s (4 * L), WR t s (4 * L + 1), WR t s (4 * L + 2), WR t s (4 * L + 3), a1 L, a2 L) = _
  rw [sid_7 (TKS_key h1 hs hw).1, if_neg (fun q => q (wr_m1 ha)), oB_e hl]
theorem lwi_er8 {o : Ou} {f : Nat → Int32} {n : Nat} {d : Dr} {t s a1 a2 t0 s0 b1 b2 : Nat → Int32} {L : Nat} {so wh at_ en : Int} {e1 : Nat} {x : Nat × Nat} (h : LWI o f n d t s a1 a2 t0 s0 b1 b2 L so wh at_ en e1) (hs : so = 1) (hw : wh = 8) (ha : (s (4 * L + 3)).toInt = -1) (hl : fLet f n (tE f n e1) true = some x) : o = .error x := by
  obtain ⟨k, h1, h2, h3, h4, h5, _⟩ := h
  obtain ⟨k', rfl, h3⟩ := lwi_k h2 h3
  rw [h3]
  show sidF f n d (k' + 1) e1 (WR t s (4 * L), WR t s (4 * L + 1), WR t s (4 * L + 2), WR t s (4 * L + 3), a1 L, a2 L) = _
  rw [sid_8 (TKS_key h1 hs hw).1, if_neg (fun q => q (wr_m1 ha)), oB_e hl]
theorem lwi_st7 {o : Ou} {f : Nat → Int32} {n : Nat} {d : Dr} {t s t3 s3 a1 a2 t0 s0 b1 b2 : Nat → Int32} {L : Nat} {so wh at_ en so2 wh2 at2 en2 : Int} {e1 : Nat} (h : LWI o f n d t s a1 a2 t0 s0 b1 b2 L so wh at_ en e1) (hs : so = 1) (hw : wh = 7) (ha : (s (4 * L + 2)).toInt = -1) (hr : rng (-1) 16 s) (hl : fLet f n (tE f n e1) true = none) (hk : TAKEN t t3 s s3 (4 * L + 2) f (tP f n (tE f n e1) + 1) (tL f n (tE f n e1))) (ht : TKS f n (tE f n (tE f n e1)) so2 wh2 at2 en2) : LWI o f n d t3 s3 a1 a2 t0 s0 b1 b2 L so2 wh2 at2 en2 (tE f n (tE f n e1)) := by
  obtain ⟨k, h1, h2, h3, h4, h5, h6, h7⟩ := h
  obtain ⟨k', rfl, h3⟩ := lwi_k h2 h3
  have hp := (fLet_k hl).2 rfl
  have hw3 := TK_k hk
  have E1 : lawR t s a1 a2 L = (WR t s (4 * L), WR t s (4 * L + 1), [], WR t s (4 * L + 3), a1 L, a2 L) := by unfold lawR; rw [wr_m1 ha]
  have E2 : lawR t3 s3 a1 a2 L = (WR t s (4 * L), WR t s (4 * L + 1), tW f n (tE f n e1), WR t s (4 * L + 3), a1 L, a2 L) := by unfold lawR; rw [TK_w (q := 4 * L) hk (hr _).2 (by omega), TK_w (q := 4 * L + 1) hk (hr _).2 (by omega), TK_w (q := 4 * L + 3) hk (hr _).2 (by omega), hw3.1]; rfl
  refine ⟨k', ht, ?_, ?_, Or.inr (by omega), by rw [TK_s hk (by omega)]; exact h5, fun q hq => by rw [TK_w hk (hr _).2 (by omega)]; exact h6 q hq, h7⟩
  · rw [E1] at h2
    rw [E2, fl4_a (tW_ne hp)]
    omega
  · rw [h3, E1, E2, sid_7 (TKS_key h1 hs hw).1, if_neg (fun q => q rfl), oB_o hl]
theorem lwi_st8 {o : Ou} {f : Nat → Int32} {n : Nat} {d : Dr} {t s t3 s3 a1 a2 t0 s0 b1 b2 : Nat → Int32} {L : Nat} {so wh at_ en so2 wh2 at2 en2 : Int} {e1 : Nat} (h : LWI o f n d t s a1 a2 t0 s0 b1 b2 L so wh at_ en e1) (hs : so = 1) (hw : wh = 8) (ha : (s (4 * L + 3)).toInt = -1) (hr : rng (-1) 16 s) (hl : fLet f n (tE f n e1) true = none) (hk : TAKEN t t3 s s3 (4 * L + 3) f (tP f n (tE f n e1) + 1) (tL f n (tE f n e1))) (ht : TKS f n (tE f n (tE f n e1)) so2 wh2 at2 en2) : LWI o f n d t3 s3 a1 a2 t0 s0 b1 b2 L so2 wh2 at2 en2 (tE f n (tE f n e1)) := by
  obtain ⟨k, h1, h2, h3, h4, h5, h6, h7⟩ := h
  obtain ⟨k', rfl, h3⟩ := lwi_k h2 h3
  have hp := (fLet_k hl).2 rfl
  have hw3 := TK_k hk
  have E1 : lawR t s a1 a2 L = (WR t s (4 * L), WR t s (4 * L + 1), WR t s (4 * L + 2), [], a1 L, a2 L) := by unfold lawR; rw [wr_m1 ha]
  have E2 : lawR t3 s3 a1 a2 L = (WR t s (4 * L), WR t s (4 * L + 1), WR t s (4 * L + 2), tW f n (tE f n e1), a1 L, a2 L) := by unfold lawR; rw [TK_w (q := 4 * L) hk (hr _).2 (by omega), TK_w (q := 4 * L + 1) hk (hr _).2 (by omega), TK_w (q := 4 * L + 2) hk (hr _).2 (by omega), hw3.1]; rfl
  refine ⟨k', ht, ?_, ?_, by rw [TK_s hk (by omega)]; exact h4, Or.inr (by omega), fun q hq => by rw [TK_w hk (hr _).2 (by omega)]; exact h6 q hq, h7⟩
  · rw [E1] at h2
    rw [E2, fl4_b (tW_ne hp)]
    omega
  · rw [h3, E1, E2, sid_8 (TKS_key h1 hs hw).1, if_neg (fun q => q rfl), oB_o hl]
theorem bo_id {x : Int32} (h : x = 0 ∨ x = 1) : vp_nar .boolean x = x := by
  rcases h with h | h <;> subst h <;> decide
def OUTI (o : Ou) (r k p : Int32) (R : Nat → Dr → Prop) : Prop := (r.toInt = 0 → ∃ x, o = .error x ∧ ERR (some x) k p) ∧ (r.toInt ≠ 0 → ∃ e1 d1, o = .ok (e1, d1) ∧ R e1 d1)
def CPI (t s t0 s0 : Nat → Int32) (src dst M k : Nat) : Prop := (∀ q, q < k → WR t s (dst + q) = WR t0 s0 (src + q) ∧ s (dst + q) = s0 (src + q)) ∧ (∀ q, (q < dst ∨ dst + M ≤ q) → WR t s q = WR t0 s0 q ∧ s q = s0 q)
theorem cpi_0 {t s : Nat → Int32} {src dst M : Nat} : CPI t s t s src dst M 0 := ⟨fun q hq => absurd hq (Nat.not_lt_zero _), fun _ _ => ⟨rfl, rfl⟩⟩
theorem cpi_step {t s t1 s1 t0 s0 : Nat → Int32} {src dst M k : Nat} (h : CPI t s t0 s0 src dst M k) (hk : k < M) (hd : dst + M ≤ src) (h1 : WR t1 s1 (dst + k) = WR t s (src + k)) (h2 : ∀ q, q ≠ dst + k → WR t1 s1 q = WR t s q) (h3 : s1 = upd s (dst + k) (s (src + k))) : CPI t1 s1 t0 s0 src dst M (k + 1) := by
  refine ⟨fun q hq => ?_, fun q hq => ?_⟩
  · by_cases e : q = k
    · subst e
      obtain ⟨a1, a2⟩ := h.2 (src + q) (Or.inr (by omega))
      rw [h1, h3, pk_us, a1, a2]
      exact ⟨rfl, rfl⟩
    · rw [h2 _ (by omega), h3, pk_un (by omega)]
      exact h.1 q (by omega)
  · rw [h2 _ (by omega), h3, pk_un (by omega)]
    exact h.2 q hq
theorem ent_cp {c : Int32} {t s t0 s0 : Nat → Int32} {src dst M k : Nat} (h : CPI t s t0 s0 src dst M k) (hk : 2 * Int32.toNatClampNeg c ≤ k) : entR c t s dst = entR c t0 s0 src := by
  unfold entR
  refine tab_ext (fun j hj => ?_)
  obtain ⟨a1, a2⟩ := h.1 (2 * j) (by omega)
  obtain ⟨b1, b2⟩ := h.1 (2 * j + 1) (by omega)
  rw [show dst + 2 * j + 1 = dst + (2 * j + 1) by omega, show src + 2 * j + 1 = src + (2 * j + 1) by omega, a1, b1, b2]
theorem prt_cp {c : Int32} {t s t0 s0 : Nat → Int32} {src dst M k : Nat} (h : CPI t s t0 s0 src dst M k) (hk : Int32.toNatClampNeg c ≤ k) : prtR c t s dst = prtR c t0 s0 src := by
  unfold prtR
  exact tab_ext (fun j hj => (h.1 j (by omega)).1)
theorem lws_cp {c : Int32} {t s t0 s0 a1 a2 b1 b2 : Nat → Int32} {src dst M k sr ds : Nat} (h : CPI t s t0 s0 src dst M k) (hk : 4 * Int32.toNatClampNeg c ≤ k) (hs : src = 4 * sr) (hd : dst = 4 * ds) (ha : ∀ q, q < Int32.toNatClampNeg c → a1 (ds + q) = b1 (sr + q) ∧ a2 (ds + q) = b2 (sr + q)) : lwsR c t s a1 a2 ds = lwsR c t0 s0 b1 b2 sr := by
  subst hs hd
  unfold lwsR
  refine tab_ext (fun j hj => ?_)
  unfold lawR
  have x0 := (h.1 (4 * j) (by omega)).1
  have x1 := (h.1 (4 * j + 1) (by omega)).1
  have x2 := (h.1 (4 * j + 2) (by omega)).1
  have x3 := (h.1 (4 * j + 3) (by omega)).1
  rw [show 4 * (ds + j) = 4 * ds + 4 * j by omega, show 4 * (sr + j) = 4 * sr + 4 * j by omega, show 4 * ds + 4 * j + 1 = 4 * ds + (4 * j + 1) by omega, show 4 * ds + 4 * j + 2 = 4 * ds + (4 * j + 2) by omega, show 4 * ds + 4 * j + 3 = 4 * ds + (4 * j + 3) by omega, show 4 * sr + 4 * j + 1 = 4 * sr + (4 * j + 1) by omega, show 4 * sr + 4 * j + 2 = 4 * sr + (4 * j + 2) by omega, show 4 * sr + 4 * j + 3 = 4 * sr + (4 * j + 3) by omega, x0, x1, x2, x3, (ha j hj).1, (ha j hj).2]
theorem ent_far {c : Int32} {t s t0 s0 : Nat → Int32} {b : Nat} (h : ∀ q, b ≤ q → q < b + 2 * Int32.toNatClampNeg c → WR t s q = WR t0 s0 q ∧ s q = s0 q) : entR c t s b = entR c t0 s0 b := by
  unfold entR
  refine tab_ext (fun j hj => ?_)
  rw [(h (b + 2 * j) (by omega) (by omega)).1, (h (b + 2 * j + 1) (by omega) (by omega)).1, (h (b + 2 * j + 1) (by omega) (by omega)).2]
theorem prt_far {c : Int32} {t s t0 s0 : Nat → Int32} {b : Nat} (h : ∀ q, b ≤ q → q < b + Int32.toNatClampNeg c → WR t s q = WR t0 s0 q) : prtR c t s b = prtR c t0 s0 b := by
  unfold prtR
  exact tab_ext (fun j hj => h (b + j) (by omega) (by omega))
theorem lws_far {c : Int32} {t s t0 s0 a1 a2 b1 b2 : Nat → Int32} {b : Nat} (h : ∀ q, 4 * b ≤ q → q < 4 * (b + Int32.toNatClampNeg c) → WR t s q = WR t0 s0 q) (ha : ∀ q, b ≤ q → q < b + Int32.toNatClampNeg c → a1 q = b1 q ∧ a2 q = b2 q) : lwsR c t s a1 a2 b = lwsR c t0 s0 b1 b2 b := by
  unfold lwsR
  refine tab_ext (fun j hj => ?_)
  unfold lawR
  rw [h (4 * (b + j)) (by omega) (by omega), h (4 * (b + j) + 1) (by omega) (by omega), h (4 * (b + j) + 2) (by omega) (by omega), h (4 * (b + j) + 3) (by omega) (by omega), (ha (b + j) (by omega) (by omega)).1, (ha (b + j) (by omega) (by omega)).2]
