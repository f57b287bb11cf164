/-! the book: forms -/
def FMT (d : Nat → Dr) (Ws : List Wd) (s w : Nat) : List Wd := match Ws[w]? with
  | none => []
  | some x => thF d 0 s [x]
theorem FMT_at {d : Nat → Dr} {Ws : List Wd} {s w : Nat} {x : Wd} (h : Ws[w]? = some x) : FMT d Ws s w = thF d 0 s [x] := by
  unfold FMT
  rw [h]
theorem FMT_s {d : Nat → Dr} {Ws : List Wd} {s w m : Nat} {x : Wd} (h : Ws[w]? = some x) (hm : m = s + 1) : FMT d Ws m w = tuFs (d s) (FMT d Ws s w) := by
  rw [FMT_at h, FMT_at h, th_s hm, Nat.zero_add]
theorem th_ext {d e : Nat → Dr} {a : Nat} {fs : List Wd} : ∀ n, (∀ q, a ≤ q → q < a + n → d q = e q) → thF d a n fs = thF e a n fs
  | 0, _ => rfl
  | n + 1, h => by
    rw [th_s rfl, th_s rfl, th_ext n (fun q h1 h2 => h q h1 (by omega)), h (a + n) (by omega) (by omega)]
theorem FMT_ext {d e : Nat → Dr} {Ws : List Wd} {s w : Nat} (h : ∀ q, q < s → d q = e q) : FMT d Ws s w = FMT e Ws s w := by
  cases hx : Ws[w]? with
  | none =>
    unfold FMT
    rw [hx]
  | some x => rw [FMT_at hx, FMT_at hx, th_ext s (fun q _ h2 => h q (by omega))]
theorem th_wds {D : Nat → Dr} {a : Nat} {fs : List Wd} (hf : WDS fs) : ∀ n, (∀ q, a ≤ q → q < a + n → WFD (D q)) → WDS (thF D a n fs)
  | 0, _ => hf
  | n + 1, h => by
    rw [th_s rfl]
    exact tuFs_wds (h (a + n) (by omega) (by omega)) (th_wds hf n (fun q h1 h2 => h q h1 (by omega)))
theorem FMT_wds {d : Nat → Dr} {Ws : List Wd} {s w : Nat} (hW : WDS Ws) (hd : ∀ q, q < s → WFD (d q)) : WDS (FMT d Ws s w) := by
  cases hx : Ws[w]? with
  | none =>
    unfold FMT
    rw [hx]
    exact wds_0
  | some x =>
    rw [FMT_at hx]
    refine th_wds (fun y hy => ?_) s (fun q _ h2 => hd q (by omega))
    rw [List.mem_singleton] at hy
    subst hy
    exact hW y (List.mem_of_getElem? hx)
theorem FMT_12 {d : Nat → Dr} {Ws : List Wd} {s w : Nat} : (FMT d Ws s w).length ≤ 12 := by
  cases hx : Ws[w]? with
  | none =>
    unfold FMT
    rw [hx]
    exact Nat.zero_le _
  | some x =>
    rw [FMT_at hx]
    exact th_le (by show 1 ≤ 12; omega) s
/-- a row of forms -/
def ROWF (G : Nat → Nat → Int32) (P : Nat → Nat → Option Nat) (V : Nat → Nat → Nat → Int32) (la : Nat → Nat) (cnt D : Nat) (o : Option Nat) (T : List Wd) : Prop := ∃ row l s, o = some row ∧ (row < cnt ∧ (∃ k, la row = 100000 + 10 * k) ∧ la row ≠ D) ∧ (P 201 row = some l ∧ P 202 row = some s ∧ (G 200 row).toInt = ((24 : Nat) : Int)) ∧ rwW (G 203 row) (V 0 l) (V 1 s) 24 = T
theorem ROWF_fr {G G1 : Nat → Nat → Int32} {P P1 : Nat → Nat → Option Nat} {V V1 : Nat → Nat → Nat → Int32} {la la1 : Nat → Nat} {cnt cnt1 D D1 : Nat} {o o1 : Option Nat} {T : List Wd} (h : ROWF G P V la cnt D o T) (hB : LB la cnt P) (ho : o1 = o) (hc : ∀ z, z < cnt → P1 201 z = P 201 z ∧ P1 202 z = P 202 z ∧ G1 200 z = G 200 z) (hv : ∀ z, z < cnt → (∃ k, la z = 100000 + 10 * k) → la z ≠ D → G1 203 z = G 203 z ∧ V1 0 z = V 0 z ∧ V1 1 z = V 1 z) (hle : cnt ≤ cnt1) (hla : ∀ z, z < cnt → la1 z = la z) (hD : ∀ z, z < cnt → la z ≠ D → la z ≠ D1) : ROWF G1 P1 V1 la1 cnt1 D1 o1 T := by
  obtain ⟨row, l, s, h1, ⟨h2, ⟨k, h3⟩, h4⟩, ⟨h5, h6, h7⟩, h8⟩ := h
  have c1 := (hB.1 201 fl_201 row l h5).2.1
  have l1 : la l = la row + 0 := lk_201.mp (hB.1 201 fl_201 row l h5).2.2
  have c2 := (hB.1 202 fl_202 row s h6).2.1
  have l2 : la s = la row + 0 := lk_202.mp (hB.1 202 fl_202 row s h6).2.2
  obtain ⟨a1, a2, a3⟩ := hc row h2
  have b1 := (hv row h2 ⟨k, h3⟩ h4).1
  have b2 := (hv l c1 ⟨k, by omega⟩ (by omega)).2.1
  have b3 := (hv s c2 ⟨k, by omega⟩ (by omega)).2.2
  refine ⟨row, l, s, ho.trans h1, ⟨by omega, ⟨k, (hla row h2).trans h3⟩, ?_⟩, ⟨a1.trans h5, a2.trans h6, by rw [a3]; exact h7⟩, by rw [b1, b2, b3]; exact h8⟩
  rw [hla row h2]
  exact hD row h2 h4
def BKR (G : Nat → Nat → Int32) (P : Nat → Nat → Option Nat) (V : Nat → Nat → Nat → Int32) (la : Nat → Nat) (cnt D : Nat) (oa : Nat → Option Nat) (nb : Nat → Nat) (T : Nat → Nat → List Wd) : Prop := ∀ s w, s < 7 → w < nb s → ROWF G P V la cnt D (oa (100 * s + w)) (T s w)
theorem BKR_fr {G G1 : Nat → Nat → Int32} {P P1 : Nat → Nat → Option Nat} {V V1 : Nat → Nat → Nat → Int32} {la la1 : Nat → Nat} {cnt cnt1 D D1 : Nat} {oa ob : Nat → Option Nat} {nb : Nat → Nat} {T : Nat → Nat → List Wd} (h : BKR G P V la cnt D oa nb T) (hB : LB la cnt P) (ho : ∀ i, ob i = oa i) (hc : ∀ z, z < cnt → P1 201 z = P 201 z ∧ P1 202 z = P 202 z ∧ G1 200 z = G 200 z) (hv : ∀ z, z < cnt → (∃ k, la z = 100000 + 10 * k) → la z ≠ D → G1 203 z = G 203 z ∧ V1 0 z = V 0 z ∧ V1 1 z = V 1 z) (hle : cnt ≤ cnt1) (hla : ∀ z, z < cnt → la1 z = la z) (hD : ∀ z, z < cnt → la z ≠ D → la z ≠ D1) : BKR G1 P1 V1 la1 cnt1 D1 ob nb T := fun s w hs hw => ROWF_fr (h s w hs hw) hB (ho _) hc hv hle hla hD
/-- one more row -/
theorem BKR_add {G : Nat → Nat → Int32} {P : Nat → Nat → Option Nat} {V : Nat → Nat → Nat → Int32} {la : Nat → Nat} {cnt D s0 w0 : Nat} {oa ob : Nat → Option Nat} {nb nc : Nat → Nat} {T : Nat → Nat → List Wd} (h : BKR G P V la cnt D oa nb T) (hr : ROWF G P V la cnt D (ob (100 * s0 + w0)) (T s0 w0)) (ho : ∀ i, i ≠ 100 * s0 + w0 → ob i = oa i) (hn : ∀ s, s ≠ s0 → nc s = nb s) (h0 : nc s0 = w0 + 1) (h1 : w0 ≤ nb s0) (hw : ∀ s, s < 7 → nb s ≤ 100) (hw0 : w0 < 100) : BKR G P V la cnt D ob nc T := by
  intro s w hs hwn
  by_cases q : s = s0 ∧ w = w0
  · rw [q.1, q.2]
    exact hr
  · have hb : w < nb s := by
      by_cases e : s = s0
      · rw [e, h0] at hwn
        rw [e]
        have : w ≠ w0 := fun z => q ⟨e, z⟩
        omega
      · rw [hn s e] at hwn
        exact hwn
    have h2 := h s w hs hb
    have h3 := hw s hs
    rw [← ho (100 * s + w) (by by_cases e : s = s0; (have : w ≠ w0 := fun z => q ⟨e, z⟩; omega); (omega))] at h2
    exact h2
theorem BKR_nb {G : Nat → Nat → Int32} {P : Nat → Nat → Option Nat} {V : Nat → Nat → Nat → Int32} {la : Nat → Nat} {cnt D : Nat} {oa : Nat → Option Nat} {nb nc : Nat → Nat} {T : Nat → Nat → List Wd} (h : BKR G P V la cnt D oa nb T) (hn : ∀ s, s < 7 → nc s ≤ nb s) : BKR G P V la cnt D oa nc T := fun s w hs hw => h s w hs (Nat.lt_of_lt_of_le hw (hn s hs))
/-! the reference's table of forms -/
def rwO (c : Int32) (fl fs : Nat → Int32) (a : Nat) : List Wd := rwW c (fun i => fl (288 * a + i)) (fun j => fs (12 * a + j)) 24
def MKT (fm fl fs : Nat → Int32) (d : Nat → Dr) (Ws : List Wd) (Q : Nat → Nat → Prop) : Prop := ∀ w s, Q w s → rwO (fm (7 * w + s)) fl fs (7 * w + s) = FMT d Ws s w
theorem rwO_low {c : Int32} {fl fl1 fs fs1 : Nat → Int32} {a b : Nat} (hw : WDS (rwO c fl fs b)) (hb : b < a) (h12 : Int32.toNatClampNeg c ≤ 12) (e1 : ∀ q, q < 288 * a → fl1 q = fl q) (e2 : ∀ q, q < 12 * a → fs1 q = fs q) : rwO c fl1 fs1 b = rwO c fl fs b := by
  unfold rwO
  refine rw_low (fun q hq => e1 _ (by omega)) (fun j hj => e2 _ (by omega)) (fun j hj => ?_)
  exact (wds_sz (c := c) (fl := fun i => fl (288 * b + i)) (fs := fun j => fs (12 * b + j)) hw hj).2
theorem rwO_cp {c : Int32} {fl fs fl1 fs1 : Nat → Int32} {a : Nat} (hB : WDS (rwW c fl fs 24)) (e1 : ∀ j, j < Int32.toNatClampNeg c → fs1 (12 * a + j) = fs j) (e2 : ∀ j i, j < Int32.toNatClampNeg c → i < Int32.toNatClampNeg (fs j) → fl1 (288 * a + 24 * j + i) = vp_nar .byte (fl (24 * j + i))) : rwO c fl1 fs1 a = rwW c fl fs 24 := by
  unfold rwO
  exact rw_cp hB e1 (fun j i hj hi => by show fl1 (288 * a + (24 * j + i)) = _; rw [← Nat.add_assoc]; exact e2 j i hj hi)
theorem rwO_at {c : Int32} {fl fs : Nat → Int32} {a k : Nat} (h : k < Int32.toNatClampNeg c) : (rwO c fl fs a)[k]? = some (wdl fl (288 * a + 24 * k) (Int32.toNatClampNeg (fs (12 * a + k)))) := by
  unfold rwO
  rw [rw_at h]
  refine congrArg some (wdl_ext (fun i hi => ?_))
  show fl (288 * a + (24 * k + i)) = fl (288 * a + 24 * k + i)
  rw [Nat.add_assoc]
theorem rwO_len {c : Int32} {fl fs : Nat → Int32} {a : Nat} : (rwO c fl fs a).length = Int32.toNatClampNeg c := rw_len
/-! those whose forms hold a word -/
def owF (d : Nat → Dr) (Ws : List Wd) (W : Wd) (s n : Nat) : List Nat := (List.range n).filter (fun w => decide (W ∈ FMT d Ws s w))
theorem owF_yes {d : Nat → Dr} {Ws : List Wd} {W : Wd} {s n : Nat} (h : W ∈ FMT d Ws s n) : owF d Ws W s (n + 1) = owF d Ws W s n ++ [n] := by
  unfold owF
  rw [List.range_succ, List.filter_append]
  show _ ++ List.filter _ [n] = _
  rw [List.filter_cons_of_pos (by exact decide_eq_true h), List.filter_nil]
theorem owF_no {d : Nat → Dr} {Ws : List Wd} {W : Wd} {s n : Nat} (h : W ∉ FMT d Ws s n) : owF d Ws W s (n + 1) = owF d Ws W s n := by
  unfold owF
  rw [List.range_succ, List.filter_append]
  show _ ++ List.filter _ [n] = _
  rw [List.filter_cons_of_neg (by simpa using h), List.filter_nil, List.append_nil]
/-- a row of numbers, told -/
def NTL (c : Int) (f : Nat → Int32) (L : List Nat) : Prop := c = ((L.length : Nat) : Int) ∧ ∀ i o, L[i]? = some o → (f i).toInt = ((o : Nat) : Int)
theorem NTL_0 {c : Int} {f : Nat → Int32} (h : c = 0) : NTL c f [] := ⟨h, fun i o hi => by rw [List.getElem?_nil] at hi; cases hi⟩
theorem NTL_add {c c1 : Int} {f f1 : Nat → Int32} {L : List Nat} {o k : Nat} {v : Int32} (h : NTL c f L) (hk : k = L.length) (e : f1 = upd f k v) (hv : v.toInt = ((o : Nat) : Int)) (hc : c1 = c + 1) : NTL c1 f1 (L ++ [o]) := by
  subst hk
  refine ⟨by rw [List.length_append, hc, h.1]; rfl, fun i x hx => ?_⟩
  rcases get_app1 hx with ⟨q1, q2⟩ | ⟨q1, q2⟩
  · rw [e, pk_un (by omega)]
    exact h.2 i x q2
  · subst q1 q2
    rw [e, pk_us]
    exact hv