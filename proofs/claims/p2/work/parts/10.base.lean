/-! that the class answers -/
theorem wp_nn {β : Type} {o : Option Nat} {f : Nat → Option β} {Q : β → Prop} (h : o ≠ none) (k : ∀ b, o = some b → wp (f b) Q) : wp (nn o f) Q := by
  cases o with
  | none => exact absurd rfl h
  | some b => exact k b rfl
theorem wp_nne {β : Type} {o : Option Nat} {b : Nat} {f : Nat → Option β} {Q : β → Prop} (h : o = some b) (k : wp (f b) Q) : wp (nn o f) Q := by
  subst h
  exact k
theorem wp_oc {β : Type} {o : Option Nat} {n : Option β} {f : Nat → Option β} {Q : β → Prop} (h1 : o = none → wp n Q) (h2 : ∀ b, o = some b → wp (f b) Q) : wp (oc o n f) Q := by
  cases o with
  | none => exact h1 rfl
  | some b => exact h2 b rfl
def rng2 (lo hi : Int) (v : Nat → Nat → Int32) : Prop := ∀ a, rng lo hi (v a)
theorem rng_vup {lo hi : Int} {f : Nat → Int32} {k : Nat} {x : Int32} (h : rng lo hi f) (h1 : lo ≤ x.toInt) (h2 : x.toInt ≤ hi) : rng lo hi (va_up f k x) := by
  intro j
  unfold va_up
  split
  · exact ⟨h1, h2⟩
  · exact h j
theorem rng2_up {lo hi : Int} {v : Nat → Nat → Int32} {a k : Nat} {x : Int32} (h : rng2 lo hi v) (h1 : lo ≤ x.toInt) (h2 : x.toInt ≤ hi) : rng2 lo hi (va_up v a (upd (v a) k x)) := by
  intro j
  unfold va_up
  split
  · exact rng_upd (h a) h1 h2
  · exact h j
def PB (κ ln : Nat → Nat) (wd K k lo hi e : Nat) (p : Nat → Option Nat) : Prop := ∀ a, (κ a = K → p a ≠ none) ∧ ∀ b, p a = some b → κ b = k ∧ lo ≤ ln b ∧ ln b ≤ hi ∧ (e = 1 → b ≠ wd)
theorem PBs {κ ln : Nat → Nat} {wd K k lo hi e a : Nat} {p : Nat → Option Nat} (h : (κ a = K → p a ≠ none) ∧ ∀ b, p a = some b → κ b = k ∧ lo ≤ ln b ∧ ln b ≤ hi ∧ (e = 1 → b ≠ wd)) (hk : κ a = K) : ∃ b, p a = some b := by
  cases hp : p a with
  | none => exact absurd hp (h.1 hk)
  | some b => exact ⟨b, rfl⟩
theorem PB_up {κ ln : Nat → Nat} {wd K k lo hi e a b : Nat} {p : Nat → Option Nat} (h : PB κ ln wd K k lo hi e p) (hb : κ b = k) (h1 : lo ≤ ln b) (h2 : ln b ≤ hi) (h3 : e = 1 → b ≠ wd) : PB κ ln wd K k lo hi e (va_up p a (some b)) := by
  intro j
  unfold va_up
  split
  · exact ⟨fun _ q => (by cases q), fun c hc => (by cases hc; exact ⟨hb, h1, h2, h3⟩)⟩
  · exact h j
def OB (κ : Nat → Nat) (k : Nat) (o : Nat → Nat → Option Nat) : Prop := ∀ a i b, o a i = some b → κ b = k
theorem OB_up {κ : Nat → Nat} {k a i b : Nat} {o : Nat → Nat → Option Nat} (h : OB κ k o) (hb : κ b = k) : OB κ k (va_up o a (va_up (o a) i (some b))) := by
  intro a1 i1 b1 e
  unfold va_up at e
  by_cases h1 : a1 = a
  · simp only [h1, if_true] at e
    by_cases h2 : i1 = i
    · simp only [h2, if_true] at e
      rw [← Option.some.inj e]
      exact hb
    · simp only [h2, if_false] at e
      exact h a i1 b1 e
  · simp only [h1, if_false] at e
    exact h a1 i1 b1 e
def RA (κ ln : Nat → Nat) (w : Nat → Int32) (pl ps : Nat → Option Nat) : Prop := ∀ a l s, κ a = 11 → pl a = some l → ps a = some s → ((ln l : Nat) : Int) = ((ln s : Nat) : Int) * (w a).toInt
def RB (κ ln : Nat → Nat) (w c : Nat → Int32) (ps : Nat → Option Nat) (v : Nat → Nat → Int32) : Prop := ∀ a s, κ a = 11 → ps a = some s → (c a).toInt ≤ ((ln s : Nat) : Int) ∧ ∀ k, (v s k).toInt ≤ (w a).toInt
def RI (ps : Nat → Option Nat) : Prop := ∀ a b s, ps a = some s → ps b = some s → a = b
theorem RB_cnt {κ ln : Nat → Nat} {w c : Nat → Int32} {ps : Nat → Option Nat} {v : Nat → Nat → Int32} {a : Nat} {x : Int32} (h : RB κ ln w c ps v) (hx : ∀ s, ps a = some s → x.toInt ≤ ((ln s : Nat) : Int)) : RB κ ln w (va_up c a x) ps v := by
  intro b s hb hs
  refine ⟨?_, (h b s hb hs).2⟩
  unfold va_up
  split
  · rename_i q
    exact hx s (by rw [← q]; exact hs)
  · exact (h b s hb hs).1
theorem RB_len {κ ln : Nat → Nat} {w c : Nat → Int32} {ps : Nat → Option Nat} {v : Nat → Nat → Int32} {a s i : Nat} {x : Int32} (h : RB κ ln w c ps v) (hi : RI ps) (hs : ps a = some s) (hx : x.toInt ≤ (w a).toInt) : RB κ ln w c ps (va_up v s (upd (v s) i x)) := by
  intro b t hb ht
  refine ⟨(h b t hb ht).1, fun k => ?_⟩
  unfold va_up
  split
  · rename_i q
    subst q
    obtain rfl := hi a b t hs ht
    unfold upd
    split
    · exact hx
    · exact (h a t hb ht).2 k
  · exact (h b t hb ht).2 k
def RM (ln : Nat → Nat) (n : Nat) (p ps : Nat → Option Nat) : Prop := ∀ a b s, p a = some b → ps b = some s → ln s ≤ n
def LN (κ ln : Nat → Nat) : Prop := ∀ a, κ a ≠ 0 → ln a ≤ 2500
def FL (wd : Nat) (c : Nat → Int32) (v : Nat → Nat → Int32) : Prop := ∀ a s, (v a s).toInt ≤ (c wd).toInt
theorem FL_ne {wd a : Nat} {c : Nat → Int32} {v : Nat → Nat → Int32} {x : Int32} (h : FL wd c v) (ha : a ≠ wd) : FL wd (va_up c a x) v := by
  intro b s
  rw [va_up_ne _ _ (fun q => ha q.symm)]
  exact h b s
theorem FL_le {wd : Nat} {c c1 : Nat → Int32} {v : Nat → Nat → Int32} (h : FL wd c v) (hc : (c wd).toInt ≤ (c1 wd).toInt) : FL wd c1 v := fun a s => Int.le_trans (h a s) hc
theorem FL_eq {wd : Nat} {c c1 : Nat → Int32} {v : Nat → Nat → Int32} (h : FL wd c v) (e : c1 wd = c wd) : FL wd c1 v := fun a s => by rw [e]; exact h a s
def W0 (wd : Nat) (p : Nat → Option Nat) : Prop := ∀ a b, p a = some b → b = wd
def KC (κ : Nat → Nat) (cnt : Nat) : Prop := ∀ a, cnt ≤ a → κ a = 0
theorem ofN_eq {n : Nat} (h : n ≤ 2500) : (Int32.ofNat n).toInt = (n : Int) := by
  exact nI_toInt (by omega)
theorem zmw {x y : Int32} (h1 : 0 ≤ x.toInt) (h2 : x.toInt ≤ 2500) (h3 : 0 ≤ y.toInt) (h4 : y.toInt ≤ 24) : (x * y).toInt = x.toInt * y.toInt ∧ 0 ≤ x.toInt * y.toInt ∧ x.toInt * y.toInt ≤ 60000 := by
  have a : 0 ≤ x.toInt * y.toInt := Int.mul_nonneg h1 h3
  have b : x.toInt * y.toInt ≤ 2500 * 24 := Int.mul_le_mul h2 h4 h3 (by decide)
  refine ⟨z_mul (by omega) (by omega), a, by omega⟩
theorem rowix {x w : Int32} {L S : Nat} (h : (L : Int) = (S : Int) * w.toInt) (hw : 0 ≤ w.toInt) : x.toInt < S → x.toInt * w.toInt + w.toInt ≤ L := by
  intro hx
  rw [h]
  have : (x.toInt + 1) * w.toInt ≤ (S : Int) * w.toInt := Int.mul_le_mul_of_nonneg_right (by omega) hw
  rw [Int.add_mul, Int.one_mul] at this
  exact this
theorem row0 {w : Int32} {L S : Nat} (h : (L : Int) = (S : Int) * w.toInt) (hw : 0 ≤ w.toInt) : 0 < S → w.toInt ≤ L := by
  intro hx
  rw [h]
  have : 1 * w.toInt ≤ (S : Int) * w.toInt := Int.mul_le_mul_of_nonneg_right (by omega) hw
  rw [Int.one_mul] at this
  exact this
theorem z_min (x y : Int32) : (if x < y then x else y).toInt ≤ x.toInt ∧ (if x < y then x else y).toInt ≤ y.toInt ∧ ((if x < y then x else y).toInt = x.toInt ∨ (if x < y then x else y).toInt = y.toInt) := by
  by_cases h : x < y
  · rw [if_pos h]
    have := (z_lt _ _).mp h
    omega
  · rw [if_neg h]
    have := z_nlt h
    omega
theorem z_max (x y : Int32) : x.toInt ≤ (if x < y then y else x).toInt ∧ y.toInt ≤ (if x < y then y else x).toInt ∧ ((if x < y then y else x).toInt = x.toInt ∨ (if x < y then y else x).toInt = y.toInt) := by
  by_cases h : x < y
  · rw [if_pos h]
    have := (z_lt _ _).mp h
    omega
  · rw [if_neg h]
    have := z_nlt h
    omega
theorem i32r (x : Int32) : -2147483648 ≤ x.toInt ∧ x.toInt < 2147483648 := by
  have a := Int32.le_toInt x
  have b := Int32.toInt_lt x
  omega
theorem frt {p : Prop} {α : Type} {a b c : α} (h1 : p → a = b) (h2 : p → b = c) : p → a = c := fun q => (h1 q).trans (h2 q)
theorem kxt {κ κ1 κ2 : Nat → Nat} (h : ∀ a, κ a ≠ 0 → κ1 a = κ a) (h2 : ∀ a, κ1 a ≠ 0 → κ2 a = κ1 a) : ∀ a, κ a ≠ 0 → κ2 a = κ a := fun a ha => (h2 a (by rw [h a ha]; exact ha)).trans (h a ha)
theorem kxk {κ κ1 : Nat → Nat} {a k : Nat} (h : ∀ a, κ a ≠ 0 → κ1 a = κ a) (hk : κ a = k) (h0 : k ≠ 0) : κ1 a = k := (h a (by rw [hk]; exact h0)).trans hk
def sh {ρ : Type} (Q : ρ × Nat × Nat → Prop) (a b : Nat) : ρ × Nat × Nat → Prop := fun t => Q (t.1, a + t.2.1, b + t.2.2)
theorem wp_sh0 {ρ : Type} {m : Option (ρ × Nat × Nat)} {Q : ρ × Nat × Nat → Prop} (h : wp m (sh Q 0 0)) : wp m Q := by
  obtain ⟨x, e, q⟩ := h
  refine ⟨x, e, ?_⟩
  unfold sh at q
  rw [Nat.zero_add, Nat.zero_add] at q
  exact q
theorem wp_tk {ρ : Type} {m : Option (ρ × Nat × Nat)} {Q : ρ × Nat × Nat → Prop} {a b u v : Nat} (h : wp m (sh Q (u + a) (v + b))) : wp (tk a b m) (sh Q u v) := by
  obtain ⟨x, e, q⟩ := h
  subst e
  refine ⟨_, rfl, ?_⟩
  unfold sh at q ⊢
  rw [Nat.add_assoc, Nat.add_assoc, Nat.add_comm a, Nat.add_comm b] at q
  exact q
theorem wp_bA1 {α0 ρ : Type} {m : Option ((α0) × Nat × Nat)} {f : α0 → Option (ρ × Nat × Nat)} {Q : ρ × Nat × Nat → Prop} {a0 : α0} {v1 v2 u v : Nat} (hm : m = some (a0, v1, v2)) (h : wp (f a0) (sh Q (u + v1) (v + v2))) : wp (bA1 m f) (sh Q u v) := by
  rw [hm]
  exact wp_tk h
theorem wp_bA2 {α0 α1 ρ : Type} {m : Option ((α0 × α1) × Nat × Nat)} {f : α0 → α1 → Option (ρ × Nat × Nat)} {Q : ρ × Nat × Nat → Prop} {a0 : α0} {a1 : α1} {v1 v2 u v : Nat} (hm : m = some ((a0, a1), v1, v2)) (h : wp (f a0 a1) (sh Q (u + v1) (v + v2))) : wp (bA2 m f) (sh Q u v) := by
  rw [hm]
  exact wp_tk h
theorem wp_bA3 {α0 α1 α2 ρ : Type} {m : Option ((α0 × α1 × α2) × Nat × Nat)} {f : α0 → α1 → α2 → Option (ρ × Nat × Nat)} {Q : ρ × Nat × Nat → Prop} {a0 : α0} {a1 : α1} {a2 : α2} {v1 v2 u v : Nat} (hm : m = some ((a0, a1, a2), v1, v2)) (h : wp (f a0 a1 a2) (sh Q (u + v1) (v + v2))) : wp (bA3 m f) (sh Q u v) := by
  rw [hm]
  exact wp_tk h
theorem wp_bA4 {α0 α1 α2 α3 ρ : Type} {m : Option ((α0 × α1 × α2 × α3) × Nat × Nat)} {f : α0 → α1 → α2 → α3 → Option (ρ × Nat × Nat)} {Q : ρ × Nat × Nat → Prop} {a0 : α0} {a1 : α1} {a2 : α2} {a3 : α3} {v1 v2 u v : Nat} (hm : m = some ((a0, a1, a2, a3), v1, v2)) (h : wp (f a0 a1 a2 a3) (sh Q (u + v1) (v + v2))) : wp (bA4 m f) (sh Q u v) := by
  rw [hm]
  exact wp_tk h
theorem wp_bA5 {α0 α1 α2 α3 α4 ρ : Type} {m : Option ((α0 × α1 × α2 × α3 × α4) × Nat × Nat)} {f : α0 → α1 → α2 → α3 → α4 → Option (ρ × Nat × Nat)} {Q : ρ × Nat × Nat → Prop} {a0 : α0} {a1 : α1} {a2 : α2} {a3 : α3} {a4 : α4} {v1 v2 u v : Nat} (hm : m = some ((a0, a1, a2, a3, a4), v1, v2)) (h : wp (f a0 a1 a2 a3 a4) (sh Q (u + v1) (v + v2))) : wp (bA5 m f) (sh Q u v) := by
  rw [hm]
  exact wp_tk h
theorem wp_bA6 {α0 α1 α2 α3 α4 α5 ρ : Type} {m : Option ((α0 × α1 × α2 × α3 × α4 × α5) × Nat × Nat)} {f : α0 → α1 → α2 → α3 → α4 → α5 → Option (ρ × Nat × Nat)} {Q : ρ × Nat × Nat → Prop} {a0 : α0} {a1 : α1} {a2 : α2} {a3 : α3} {a4 : α4} {a5 : α5} {v1 v2 u v : Nat} (hm : m = some ((a0, a1, a2, a3, a4, a5), v1, v2)) (h : wp (f a0 a1 a2 a3 a4 a5) (sh Q (u + v1) (v + v2))) : wp (bA6 m f) (sh Q u v) := by
  rw [hm]
  exact wp_tk h
theorem wp_bA7 {α0 α1 α2 α3 α4 α5 α6 ρ : Type} {m : Option ((α0 × α1 × α2 × α3 × α4 × α5 × α6) × Nat × Nat)} {f : α0 → α1 → α2 → α3 → α4 → α5 → α6 → Option (ρ × Nat × Nat)} {Q : ρ × Nat × Nat → Prop} {a0 : α0} {a1 : α1} {a2 : α2} {a3 : α3} {a4 : α4} {a5 : α5} {a6 : α6} {v1 v2 u v : Nat} (hm : m = some ((a0, a1, a2, a3, a4, a5, a6), v1, v2)) (h : wp (f a0 a1 a2 a3 a4 a5 a6) (sh Q (u + v1) (v + v2))) : wp (bA7 m f) (sh Q u v) := by
  rw [hm]
  exact wp_tk h
theorem wp_bA8 {α0 α1 α2 α3 α4 α5 α6 α7 ρ : Type} {m : Option ((α0 × α1 × α2 × α3 × α4 × α5 × α6 × α7) × Nat × Nat)} {f : α0 → α1 → α2 → α3 → α4 → α5 → α6 → α7 → Option (ρ × Nat × Nat)} {Q : ρ × Nat × Nat → Prop} {a0 : α0} {a1 : α1} {a2 : α2} {a3 : α3} {a4 : α4} {a5 : α5} {a6 : α6} {a7 : α7} {v1 v2 u v : Nat} (hm : m = some ((a0, a1, a2, a3, a4, a5, a6, a7), v1, v2)) (h : wp (f a0 a1 a2 a3 a4 a5 a6 a7) (sh Q (u + v1) (v + v2))) : wp (bA8 m f) (sh Q u v) := by
  rw [hm]
  exact wp_tk h
theorem wp_bA9 {α0 α1 α2 α3 α4 α5 α6 α7 α8 ρ : Type} {m : Option ((α0 × α1 × α2 × α3 × α4 × α5 × α6 × α7 × α8) × Nat × Nat)} {f : α0 → α1 → α2 → α3 → α4 → α5 → α6 → α7 → α8 → Option (ρ × Nat × Nat)} {Q : ρ × Nat × Nat → Prop} {a0 : α0} {a1 : α1} {a2 : α2} {a3 : α3} {a4 : α4} {a5 : α5} {a6 : α6} {a7 : α7} {a8 : α8} {v1 v2 u v : Nat} (hm : m = some ((a0, a1, a2, a3, a4, a5, a6, a7, a8), v1, v2)) (h : wp (f a0 a1 a2 a3 a4 a5 a6 a7 a8) (sh Q (u + v1) (v + v2))) : wp (bA9 m f) (sh Q u v) := by
  rw [hm]
  exact wp_tk h
theorem wp_bA10 {α0 α1 α2 α3 α4 α5 α6 α7 α8 α9 ρ : Type} {m : Option ((α0 × α1 × α2 × α3 × α4 × α5 × α6 × α7 × α8 × α9) × Nat × Nat)} {f : α0 → α1 → α2 → α3 → α4 → α5 → α6 → α7 → α8 → α9 → Option (ρ × Nat × Nat)} {Q : ρ × Nat × Nat → Prop} {a0 : α0} {a1 : α1} {a2 : α2} {a3 : α3} {a4 : α4} {a5 : α5} {a6 : α6} {a7 : α7} {a8 : α8} {a9 : α9} {v1 v2 u v : Nat} (hm : m = some ((a0, a1, a2, a3, a4, a5, a6, a7, a8, a9), v1, v2)) (h : wp (f a0 a1 a2 a3 a4 a5 a6 a7 a8 a9) (sh Q (u + v1) (v + v2))) : wp (bA10 m f) (sh Q u v) := by
  rw [hm]
  exact wp_tk h
theorem wp_bA11 {α0 α1 α2 α3 α4 α5 α6 α7 α8 α9 α10 ρ : Type} {m : Option ((α0 × α1 × α2 × α3 × α4 × α5 × α6 × α7 × α8 × α9 × α10) × Nat × Nat)} {f : α0 → α1 → α2 → α3 → α4 → α5 → α6 → α7 → α8 → α9 → α10 → Option (ρ × Nat × Nat)} {Q : ρ × Nat × Nat → Prop} {a0 : α0} {a1 : α1} {a2 : α2} {a3 : α3} {a4 : α4} {a5 : α5} {a6 : α6} {a7 : α7} {a8 : α8} {a9 : α9} {a10 : α10} {v1 v2 u v : Nat} (hm : m = some ((a0, a1, a2, a3, a4, a5, a6, a7, a8, a9, a10), v1, v2)) (h : wp (f a0 a1 a2 a3 a4 a5 a6 a7 a8 a9 a10) (sh Q (u + v1) (v + v2))) : wp (bA11 m f) (sh Q u v) := by
  rw [hm]
  exact wp_tk h
theorem wp_bA12 {α0 α1 α2 α3 α4 α5 α6 α7 α8 α9 α10 α11 ρ : Type} {m : Option ((α0 × α1 × α2 × α3 × α4 × α5 × α6 × α7 × α8 × α9 × α10 × α11) × Nat × Nat)} {f : α0 → α1 → α2 → α3 → α4 → α5 → α6 → α7 → α8 → α9 → α10 → α11 → Option (ρ × Nat × Nat)} {Q : ρ × Nat × Nat → Prop} {a0 : α0} {a1 : α1} {a2 : α2} {a3 : α3} {a4 : α4} {a5 : α5} {a6 : α6} {a7 : α7} {a8 : α8} {a9 : α9} {a10 : α10} {a11 : α11} {v1 v2 u v : Nat} (hm : m = some ((a0, a1, a2, a3, a4, a5, a6, a7, a8, a9, a10, a11), v1, v2)) (h : wp (f a0 a1 a2 a3 a4 a5 a6 a7 a8 a9 a10 a11) (sh Q (u + v1) (v + v2))) : wp (bA12 m f) (sh Q u v) := by
  rw [hm]
  exact wp_tk h
abbrev CInv (κ : Nat → Nat) (wd : Nat) (G : Nat → Nat → Int32) (P : Nat → Nat → Option Nat) (V : Nat → Nat → Nat → Int32) (O : Nat → Nat → Nat → Option Nat) (ln : Nat → Nat) (cnt : Nat) : Prop := rng (0) 40 (G 43) ∧ rng (0) 40 (G 44) ∧ rng (0) 7 (G 45) ∧ rng (0) 30 (G 60) ∧ rng (0) 2000 (G 83) ∧ rng (0) 2001 (G 84) ∧ rng (0) 4 (G 85) ∧ rng (0) 2001 (G 87) ∧ rng (0) 2000 (G 88) ∧ rng (0) 40 (G 102) ∧ rng (0) 2500 (G 125) ∧ rng (0) 2500 (G 126) ∧ rng (0) 2000 (G 127) ∧ rng (0) 2000 (G 141) ∧ rng (0) 2000 (G 160) ∧ rng (0) 2000 (G 161) ∧ rng (0) 2000 (G 162) ∧ rng (0) 2000 (G 165) ∧ rng (0) 2000 (G 166) ∧ rng (0) 40 (G 183) ∧ rng (0) 24 (G 200) ∧ rng (0) 100 (G 203) ∧ rng (0) 6 (G 222) ∧ rng (0) 100 (G 231) ∧ rng (0) 200 (G 233) ∧ PB κ ln wd 1 11 0 2500 0 (P 0) ∧ PB κ ln wd 1 301 700 700 0 (P 1) ∧ PB κ ln wd 1 201 600 600 0 (P 2) ∧ PB κ ln wd 1 103 7 7 0 (P 3) ∧ PB κ ln wd 1 11 0 2500 1 (P 4) ∧ PB κ ln wd 1 11 0 2500 0 (P 5) ∧ PB κ ln wd 2 100 0 16 0 (P 20) ∧ PB κ ln wd 2 100 0 16 0 (P 21) ∧ PB κ ln wd 2 100 0 16 0 (P 22) ∧ PB κ ln wd 2 100 0 16 0 (P 23) ∧ PB κ ln wd 3 107 280 280 0 (P 40) ∧ PB κ ln wd 3 108 280 280 0 (P 41) ∧ PB κ ln wd 3 109 40 40 0 (P 42) ∧ PB κ ln wd 4 102 30 30 0 (P 61) ∧ PB κ ln wd 4 100 720 720 0 (P 62) ∧ PB κ ln wd 4 100 408 408 0 (P 63) ∧ PB κ ln wd 4 112 25 25 0 (P 64) ∧ PB κ ln wd 4 100 24 24 0 (P 65) ∧ PB κ ln wd 4 11 0 2500 0 (P 66) ∧ PB κ ln wd 5 100 0 2000 0 (P 82) ∧ PB κ ln wd 6 300 40 40 0 (P 101) ∧ PB κ ln wd 6 11 0 2500 1 (P 103) ∧ PB κ ln wd 6 11 0 2500 1 (P 104) ∧ PB κ ln wd 6 11 0 2500 1 (P 105) ∧ PB κ ln wd 6 110 40 40 0 (P 106) ∧ PB κ ln wd 6 11 0 2500 1 (P 108) ∧ PB κ ln wd 6 111 40 40 0 (P 109) ∧ PB κ ln wd 6 200 40 40 0 (P 110) ∧ PB κ ln wd 7 100 2500 2500 0 (P 120) ∧ PB κ ln wd 7 100 2500 2500 0 (P 121) ∧ PB κ ln wd 7 106 5 5 0 (P 122) ∧ PB κ ln wd 7 106 5 5 0 (P 123) ∧ PB κ ln wd 8 100 2000 2000 0 (P 140) ∧ PB κ ln wd 9 100 0 2000 0 (P 164) ∧ PB κ ln wd 10 4 0 2500 0 (P 180) ∧ PB κ ln wd 10 100 40 40 0 (P 181) ∧ PB κ ln wd 10 100 40 40 0 (P 182) ∧ PB κ ln wd 10 100 24 24 0 (P 185) ∧ PB κ ln wd 10 11 0 2500 1 (P 186) ∧ PB κ ln wd 10 11 0 2500 1 (P 187) ∧ PB κ ln wd 11 100 0 2400 0 (P 201) ∧ PB κ ln wd 11 101 0 100 0 (P 202) ∧ PB κ ln wd 12 8 0 2500 0 (P 220) ∧ PB κ ln wd 12 302 6 6 0 (P 221) ∧ PB κ ln wd 12 6 0 2500 0 (P 224) ∧ PB κ ln wd 12 5 0 2500 0 (P 225) ∧ PB κ ln wd 12 10 0 2500 0 (P 226) ∧ PB κ ln wd 12 11 0 2500 1 (P 227) ∧ PB κ ln wd 12 4 0 2500 0 (P 228) ∧ PB κ ln wd 12 1 0 2500 0 (P 229) ∧ PB κ ln wd 12 104 100 100 0 (P 230) ∧ PB κ ln wd 12 105 200 200 0 (P 232) ∧ PB κ ln wd 12 9 0 2500 0 (P 234) ∧ PB κ ln wd 12 7 0 2500 0 (P 235) ∧ PB κ ln wd 12 3 0 2500 0 (P 236) ∧ rng2 (0) 24 (V 1) ∧ rng2 (0) 24 (V 2) ∧ rng2 (0) 100 (V 3) ∧ rng2 (0) 6 (V 9) ∧ OB κ 2 (O 0) ∧ OB κ 11 (O 1) ∧ OB κ 6 (O 2) ∧ RA κ ln (G 200) (P 201) (P 202) ∧ RB κ ln (G 200) (G 203) (P 202) (V 1) ∧ RI (P 202) ∧ RM ln 40 (P 103) (P 202) ∧ RM ln 40 (P 104) (P 202) ∧ RM ln 40 (P 108) (P 202) ∧ LN κ ln ∧ FL wd (G 203) (V 3) ∧ W0 wd (P 0) ∧ KC κ cnt
