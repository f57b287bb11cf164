/-! that the class answers -/
theorem wp_nn {β : Type} {o : Option Nat} {f : Nat → Option β} {Q : β → Prop} (h : o ≠ none) (k : ∀ b, o = some b → wp (f b) Q) : wp (nn o f) Q := by
  cases o with
  | none => exact absurd rfl h
  | some b => exact k b rfl
theorem wp_nne {β : Type} {o : Option Nat} {b : Nat} {f : Nat → Option β} {Q : β → Prop} (h : o = some b) (k : wp (f b) Q) : wp (nn o f) Q := by
  subst h
  exact k
theorem wp_oc {β : Type} {o : Option Nat} {n : Option β} {f : Nat → Option β} {Q : β → Prop} (h1 : o = none → wp n Q) (h2 : ∀ b, o = some b → wp (f b) Q) : wp (oc o n f) Q := by
  cases o with
  | none => exact h1 rfl
  | some b => exact h2 b rfl
def rng2 (lo hi : Int) (v : Nat → Nat → Int32) : Prop := ∀ a, rng lo hi (v a)
theorem rng_vup {lo hi : Int} {f : Nat → Int32} {k : Nat} {x : Int32} (h : rng lo hi f) (h1 : lo ≤ x.toInt) (h2 : x.toInt ≤ hi) : rng lo hi (va_up f k x) := by
  intro j
  unfold va_up
  split
  · exact ⟨h1, h2⟩
  · exact h j
theorem rng2_up {lo hi : Int} {v : Nat → Nat → Int32} {a k : Nat} {x : Int32} (h : rng2 lo hi v) (h1 : lo ≤ x.toInt) (h2 : x.toInt ≤ hi) : rng2 lo hi (va_up v a (upd (v a) k x)) := by
  intro j
  unfold va_up
  split
  · exact rng_upd (h a) h1 h2
  · exact h j
def PB (κ ln : Nat → Nat) (wd K k lo hi e : Nat) (p : Nat → Option Nat) : Prop := ∀ a, (κ a = K → p a ≠ none) ∧ ∀ b, p a = some b → κ b = k ∧ lo ≤ ln b ∧ ln b ≤ hi ∧ (e = 1 → b ≠ wd)
theorem PBs {κ ln : Nat → Nat} {wd K k lo hi e a : Nat} {p : Nat → Option Nat} (h : (κ a = K → p a ≠ none) ∧ ∀ b, p a = some b → κ b = k ∧ lo ≤ ln b ∧ ln b ≤ hi ∧ (e = 1 → b ≠ wd)) (hk : κ a = K) : ∃ b, p a = some b := by
  cases hp : p a with
  | none => exact absurd hp (h.1 hk)
  | some b => exact ⟨b, rfl⟩
theorem PB_up {κ ln : Nat → Nat} {wd K k lo hi e a b : Nat} {p : Nat → Option Nat} (h : PB κ ln wd K k lo hi e p) (hb : κ b = k) (h1 : lo ≤ ln b) (h2 : ln b ≤ hi) (h3 : e = 1 → b ≠ wd) : PB κ ln wd K k lo hi e (va_up p a (some b)) := by
  intro j
  unfold va_up
  split
  · exact ⟨fun _ q => (by cases q), fun c hc => (by cases hc; exact ⟨hb, h1, h2, h3⟩)⟩
  · exact h j
def OB (κ : Nat → Nat) (k : Nat) (o : Nat → Nat → Option Nat) : Prop := ∀ a i b, o a i = some b → κ b = k
theorem OB_up {κ : Nat → Nat} {k a i b : Nat} {o : Nat → Nat → Option Nat} (h : OB κ k o) (hb : κ b = k) : OB κ k (va_up o a (va_up (o a) i (some b))) := by
  intro a1 i1 b1 e
  unfold va_up at e
  by_cases h1 : a1 = a
  · simp only [h1, if_true] at e
    by_cases h2 : i1 = i
    · simp only [h2, if_true] at e
      rw [← Option.some.inj e]
      exact hb
    · simp only [h2, if_false] at e
      exact h a i1 b1 e
  · simp only [h1, if_false] at e
    exact h a1 i1 b1 e
def RA (κ ln : Nat → Nat) (w : Nat → Int32) (pl ps : Nat → Option Nat) : Prop := ∀ a l s, κ a = 11 → pl a = some l → ps a = some s → ((ln l : Nat) : Int) = ((ln s : Nat) : Int) * (w a).toInt
def RB (κ ln : Nat → Nat) (w c : Nat → Int32) (ps : Nat → Option Nat) (v : Nat → Nat → Int32) : Prop := ∀ a s, κ a = 11 → ps a = some s → (c a).toInt ≤ ((ln s : Nat) : Int) ∧ ∀ k, (v s k).toInt ≤ (w a).toInt
def RI (ps : Nat → Option Nat) : Prop := ∀ a b s, ps a = some s → ps b = some s → a = b
theorem RB_cnt {κ ln : Nat → Nat} {w c : Nat → Int32} {ps : Nat → Option Nat} {v : Nat → Nat → Int32} {a : Nat} {x : Int32} (h : RB κ ln w c ps v) (hx : ∀ s, ps a = some s → x.toInt ≤ ((ln s : Nat) : Int)) : RB κ ln w (va_up c a x) ps v := by
  intro b s hb hs
  refine ⟨?_, (h b s hb hs).2⟩
  unfold va_up
  split
  · rename_i q
    exact hx s (by rw [← q]; exact hs)
  · exact (h b s hb hs).1
theorem RB_len {κ ln : Nat → Nat} {w c : Nat → Int32} {ps : Nat → Option Nat} {v : Nat → Nat → Int32} {a s i : Nat} {x : Int32} (h : RB κ ln w c ps v) (hi : RI ps) (hs : ps a = some s) (hx : x.toInt ≤ (w a).toInt) : RB κ ln w c ps (va_up v s (upd (v s) i x)) := by
  intro b t hb ht
  refine ⟨(h b t hb ht).1, fun k => ?_⟩
  unfold va_up
  split
  · rename_i q
    subst q
    obtain rfl := hi a b t hs ht
    unfold upd
    split
    · exact hx
    · exact (h a t hb ht).2 k
  · exact (h b t hb ht).2 k
theorem RA_w {κ ln : Nat → Nat} {w : Nat → Int32} {pl ps : Nat → Option Nat} {c : Nat} {x : Int32} (h : RA κ ln w pl ps) (hc : κ c ≠ 11) : RA κ ln (va_up w c x) pl ps := fun a l s ha hl hs => by
  rw [va_up_ne _ _ (fun q => hc (by rw [← q]; exact ha))]
  exact h a l s ha hl hs
theorem RA_l {κ ln : Nat → Nat} {w : Nat → Int32} {pl ps : Nat → Option Nat} {c : Nat} {x : Option Nat} (h : RA κ ln w pl ps) (hc : κ c ≠ 11) : RA κ ln w (va_up pl c x) ps := fun a l s ha hl hs => h a l s ha (by rw [va_up_ne _ _ (fun q => hc (by rw [← q]; exact ha))] at hl; exact hl) hs
theorem RA_s {κ ln : Nat → Nat} {w : Nat → Int32} {pl ps : Nat → Option Nat} {c : Nat} {x : Option Nat} (h : RA κ ln w pl ps) (hc : κ c ≠ 11) : RA κ ln w pl (va_up ps c x) := fun a l s ha hl hs => h a l s ha hl (by rw [va_up_ne _ _ (fun q => hc (by rw [← q]; exact ha))] at hs; exact hs)
theorem RB_w {κ ln : Nat → Nat} {w x : Nat → Int32} {ps : Nat → Option Nat} {v : Nat → Nat → Int32} {c : Nat} {y : Int32} (h : RB κ ln w x ps v) (hc : κ c ≠ 11) : RB κ ln (va_up w c y) x ps v := fun a s ha hs => by
  rw [va_up_ne _ _ (fun q => hc (by rw [← q]; exact ha))]
  exact h a s ha hs
theorem RB_s {κ ln : Nat → Nat} {w x : Nat → Int32} {ps : Nat → Option Nat} {v : Nat → Nat → Int32} {c : Nat} {y : Option Nat} (h : RB κ ln w x ps v) (hc : κ c ≠ 11) : RB κ ln w x (va_up ps c y) v := fun a s ha hs => h a s ha (by rw [va_up_ne _ _ (fun q => hc (by rw [← q]; exact ha))] at hs; exact hs)
theorem RI_s {ps : Nat → Option Nat} {c b : Nat} (h : RI ps) (hb : ∀ a, ps a ≠ some b) : RI (va_up ps c (some b)) := by
  intro a a2 s ha ha2
  by_cases q : a = c
  · by_cases q2 : a2 = c
    · rw [q, q2]
    · rw [q, va_up_self] at ha
      rw [va_up_ne _ _ q2] at ha2
      cases ha
      exact absurd ha2 (hb a2)
  · by_cases q2 : a2 = c
    · rw [q2, va_up_self] at ha2
      rw [va_up_ne _ _ q] at ha
      cases ha2
      exact absurd ha (hb a)
    · rw [va_up_ne _ _ q] at ha
      rw [va_up_ne _ _ q2] at ha2
      exact h a a2 s ha ha2
def RM (ln : Nat → Nat) (n : Nat) (p ps : Nat → Option Nat) : Prop := ∀ a b s, p a = some b → ps b = some s → ln s ≤ n
theorem RM_s {ln : Nat → Nat} {n c : Nat} {x : Option Nat} {p ps : Nat → Option Nat} (h : RM ln n p ps) (hc : ∀ a, p a ≠ some c) : RM ln n p (va_up ps c x) := fun a b s ha hb => h a b s ha (by rw [va_up_ne _ _ (fun q => hc a (by rw [← q]; exact ha))] at hb; exact hb)
theorem RM_p {ln : Nat → Nat} {n c b : Nat} {p ps : Nat → Option Nat} (h : RM ln n p ps) (hb : ∀ s, ps b = some s → ln s ≤ n) : RM ln n (va_up p c (some b)) ps := by
  intro a d s ha hd
  by_cases q : a = c
  · rw [q, va_up_self] at ha
    cases ha
    exact hb s hd
  · rw [va_up_ne _ _ q] at ha
    exact h a d s ha hd
def LN (κ ln : Nat → Nat) : Prop := ∀ a, κ a ≠ 0 → ln a ≤ 2500
def FL (wd : Nat) (c : Nat → Int32) (v : Nat → Nat → Int32) : Prop := ∀ a s, (v a s).toInt ≤ (c wd).toInt
theorem FL_ne {wd a : Nat} {c : Nat → Int32} {v : Nat → Nat → Int32} {x : Int32} (h : FL wd c v) (ha : a ≠ wd) : FL wd (va_up c a x) v := by
  intro b s
  rw [va_up_ne _ _ (fun q => ha q.symm)]
  exact h b s
theorem FL_le {wd : Nat} {c c1 : Nat → Int32} {v : Nat → Nat → Int32} (h : FL wd c v) (hc : (c wd).toInt ≤ (c1 wd).toInt) : FL wd c1 v := fun a s => Int.le_trans (h a s) hc
theorem FL_eq {wd : Nat} {c c1 : Nat → Int32} {v : Nat → Nat → Int32} (h : FL wd c v) (e : c1 wd = c wd) : FL wd c1 v := fun a s => by rw [e]; exact h a s
def W0 (wd : Nat) (p : Nat → Option Nat) : Prop := ∀ a b, p a = some b → b = wd
def KC (κ : Nat → Nat) (cnt : Nat) : Prop := ∀ a, cnt ≤ a → κ a = 0
theorem ofN_eq {n : Nat} (h : n ≤ 2500) : (Int32.ofNat n).toInt = (n : Int) := by
  exact nI_toInt (by omega)
theorem zmw {x y : Int32} (h1 : 0 ≤ x.toInt) (h2 : x.toInt ≤ 2500) (h3 : 0 ≤ y.toInt) (h4 : y.toInt ≤ 24) : (x * y).toInt = x.toInt * y.toInt ∧ 0 ≤ x.toInt * y.toInt ∧ x.toInt * y.toInt ≤ 60000 := by
  have a : 0 ≤ x.toInt * y.toInt := Int.mul_nonneg h1 h3
  have b : x.toInt * y.toInt ≤ 2500 * 24 := Int.mul_le_mul h2 h4 h3 (by decide)
  refine ⟨z_mul (by omega) (by omega), a, by omega⟩
theorem rowix {x w : Int32} {L S : Nat} (h : (L : Int) = (S : Int) * w.toInt) (hw : 0 ≤ w.toInt) : x.toInt < S → x.toInt * w.toInt + w.toInt ≤ L := by
  intro hx
  rw [h]
  have : (x.toInt + 1) * w.toInt ≤ (S : Int) * w.toInt := Int.mul_le_mul_of_nonneg_right (by omega) hw
  rw [Int.add_mul, Int.one_mul] at this
  exact this
theorem row0 {w : Int32} {L S : Nat} (h : (L : Int) = (S : Int) * w.toInt) (hw : 0 ≤ w.toInt) : 0 < S → w.toInt ≤ L := by
  intro hx
  rw [h]
  have : 1 * w.toInt ≤ (S : Int) * w.toInt := Int.mul_le_mul_of_nonneg_right (by omega) hw
  rw [Int.one_mul] at this
  exact this
theorem z_min (x y : Int32) : (if x < y then x else y).toInt ≤ x.toInt ∧ (if x < y then x else y).toInt ≤ y.toInt ∧ ((if x < y then x else y).toInt = x.toInt ∨ (if x < y then x else y).toInt = y.toInt) := by
  by_cases h : x < y
  · rw [if_pos h]
    have := (z_lt _ _).mp h
    omega
  · rw [if_neg h]
    have := z_nlt h
    omega
theorem z_max (x y : Int32) : x.toInt ≤ (if x < y then y else x).toInt ∧ y.toInt ≤ (if x < y then y else x).toInt ∧ ((if x < y then y else x).toInt = x.toInt ∨ (if x < y then y else x).toInt = y.toInt) := by
  by_cases h : x < y
  · rw [if_pos h]
    have := (z_lt _ _).mp h
    omega
  · rw [if_neg h]
    have := z_nlt h
    omega
theorem i32r (x : Int32) : -2147483648 ≤ x.toInt ∧ x.toInt < 2147483648 := by
  have a := Int32.le_toInt x
  have b := Int32.toInt_lt x
  omega
theorem rszT {κ ln ln1 : Nat → Nat} {p p1 : Nat → Option Nat} {g g1 : Nat → Int32} {a k : Nat} (h : ∀ tx, p a = some tx → (g a).toInt ≤ ((ln tx : Nat) : Int)) (hp : ∀ a, κ a ≠ 0 → p1 a = p a) (hg : ∀ a, κ a ≠ 0 → g1 a = g a) (hl : ∀ a, κ a ≠ 0 → ln1 a = ln a) (ha : κ a = k) (hk : k ≠ 0) (hT : ∀ b, p a = some b → κ b = 100) : ∀ tx, p1 a = some tx → (g1 a).toInt ≤ ((ln1 tx : Nat) : Int) := by
  intro tx htx
  have h0 : κ a ≠ 0 := by rw [ha]; exact hk
  rw [hp a h0] at htx
  rw [hg a h0, hl tx (by rw [hT tx htx]; decide)]
  exact h tx htx
def s7 (f : Nat → Int32) : Int := (f 0).toInt + (f 1).toInt + (f 2).toInt + (f 3).toInt + (f 4).toInt + (f 5).toInt + (f 6).toInt
theorem s7_upd {f : Nat → Int32} {i y : Int32} (h1 : 0 ≤ i.toInt) (h2 : i.toInt < 7) : s7 (upd f (Int32.toNatClampNeg i) y) = s7 f - (f (Int32.toNatClampNeg i)).toInt + y.toInt := by
  have hc := clampI h1
  obtain ⟨k, hk⟩ : ∃ k, Int32.toNatClampNeg i = k := ⟨_, rfl⟩
  rw [hk] at hc ⊢
  have h7 : k = 0 ∨ k = 1 ∨ k = 2 ∨ k = 3 ∨ k = 4 ∨ k = 5 ∨ k = 6 := by omega
  unfold s7
  rcases h7 with q | q | q | q | q | q | q <;> subst q <;> simp [upd] <;> omega
theorem frt {p : Prop} {α : Type} {a b c : α} (h1 : p → a = b) (h2 : p → b = c) : p → a = c := fun q => (h1 q).trans (h2 q)
theorem kxt {κ κ1 κ2 : Nat → Nat} (h : ∀ a, κ a ≠ 0 → κ1 a = κ a) (h2 : ∀ a, κ1 a ≠ 0 → κ2 a = κ1 a) : ∀ a, κ a ≠ 0 → κ2 a = κ a := fun a ha => (h2 a (by rw [h a ha]; exact ha)).trans (h a ha)
theorem kxk {κ κ1 : Nat → Nat} {a k : Nat} (h : ∀ a, κ a ≠ 0 → κ1 a = κ a) (hk : κ a = k) (h0 : k ≠ 0) : κ1 a = k := (h a (by rw [hk]; exact h0)).trans hk
def sh {ρ : Type} (Q : ρ × Nat × Nat → Prop) (a b : Nat) : ρ × Nat × Nat → Prop := fun t => Q (t.1, a + t.2.1, b + t.2.2)
theorem wp_sh0 {ρ : Type} {m : Option (ρ × Nat × Nat)} {Q : ρ × Nat × Nat → Prop} (h : wp m (sh Q 0 0)) : wp m Q := by
  obtain ⟨x, e, q⟩ := h
  refine ⟨x, e, ?_⟩
  unfold sh at q
  rw [Nat.zero_add, Nat.zero_add] at q
  exact q
theorem wp_tk {ρ : Type} {m : Option (ρ × Nat × Nat)} {Q : ρ × Nat × Nat → Prop} {a b u v : Nat} (h : wp m (sh Q (u + a) (v + b))) : wp (tk a b m) (sh Q u v) := by
  obtain ⟨x, e, q⟩ := h
  subst e
  refine ⟨_, rfl, ?_⟩
  unfold sh at q ⊢
  rw [Nat.add_assoc, Nat.add_assoc, Nat.add_comm a, Nat.add_comm b] at q
  exact q
theorem wp_bA9 {α0 α1 α2 α3 α4 α5 α6 α7 α8 ρ : Type} {m : Option ((α0 × α1 × α2 × α3 × α4 × α5 × α6 × α7 × α8) × Nat × Nat)} {f : α0 → α1 → α2 → α3 → α4 → α5 → α6 → α7 → α8 → Option (ρ × Nat × Nat)} {Q : ρ × Nat × Nat → Prop} {a0 : α0} {a1 : α1} {a2 : α2} {a3 : α3} {a4 : α4} {a5 : α5} {a6 : α6} {a7 : α7} {a8 : α8} {v1 v2 u v : Nat} (hm : m = some ((a0, a1, a2, a3, a4, a5, a6, a7, a8), v1, v2)) (h : wp (f a0 a1 a2 a3 a4 a5 a6 a7 a8) (sh Q (u + v1) (v + v2))) : wp (bA9 m f) (sh Q u v) := by
  rw [hm]
  exact wp_tk h
theorem wp_bA10 {α0 α1 α2 α3 α4 α5 α6 α7 α8 α9 ρ : Type} {m : Option ((α0 × α1 × α2 × α3 × α4 × α5 × α6 × α7 × α8 × α9) × Nat × Nat)} {f : α0 → α1 → α2 → α3 → α4 → α5 → α6 → α7 → α8 → α9 → Option (ρ × Nat × Nat)} {Q : ρ × Nat × Nat → Prop} {a0 : α0} {a1 : α1} {a2 : α2} {a3 : α3} {a4 : α4} {a5 : α5} {a6 : α6} {a7 : α7} {a8 : α8} {a9 : α9} {v1 v2 u v : Nat} (hm : m = some ((a0, a1, a2, a3, a4, a5, a6, a7, a8, a9), v1, v2)) (h : wp (f a0 a1 a2 a3 a4 a5 a6 a7 a8 a9) (sh Q (u + v1) (v + v2))) : wp (bA10 m f) (sh Q u v) := by
  rw [hm]
  exact wp_tk h
theorem kclt {κ : Nat → Nat} {cnt a : Nat} (h : KC κ cnt) (ha : κ a ≠ 0) : a < cnt := by
  by_cases q : cnt ≤ a
  · exact absurd (h a q) ha
  · omega
theorem kcl0 {κ : Nat → Nat} {cnt a k : Nat} (h : KC κ cnt) (ha : κ a = k) (hk : k ≠ 0) : a < cnt := kclt h (by rw [ha]; exact hk)
theorem kcne {κ : Nat → Nat} {e a : Nat} (he : κ e = 0) (ha : κ a ≠ 0) : a ≠ e := fun q => ha (by rw [q]; exact he)
theorem kxn {κ κ1 : Nat → Nat} {a : Nat} (h : ∀ a, κ a ≠ 0 → κ1 a = κ a) (ha : κ a ≠ 0) : κ1 a ≠ 0 := by
  rw [h a ha]
  exact ha
def EX (e c : Nat) (κ κ1 : Nat → Nat) (G G1 : Nat → Nat → Int32) (P P1 : Nat → Nat → Option Nat) (V V1 : Nat → Nat → Nat → Int32) (O O1 : Nat → Nat → Nat → Option Nat) (ln ln1 : Nat → Nat) : Prop := ∀ a, a < c → a ≠ e → κ1 a = κ a ∧ (∀ f, G1 f a = G f a) ∧ (∀ f, P1 f a = P f a) ∧ (∀ r, V1 r a = V r a) ∧ (∀ r, O1 r a = O r a) ∧ ln1 a = ln a
theorem EX_refl {e c : Nat} {κ : Nat → Nat} {G : Nat → Nat → Int32} {P : Nat → Nat → Option Nat} {V : Nat → Nat → Nat → Int32} {O : Nat → Nat → Nat → Option Nat} {ln : Nat → Nat} : EX e c κ κ G G P P V V O O ln ln := fun _ _ _ => ⟨rfl, fun _ => rfl, fun _ => rfl, fun _ => rfl, fun _ => rfl, rfl⟩
theorem EX_trans {e c : Nat} {κ κ1 : Nat → Nat} {G G1 : Nat → Nat → Int32} {P P1 : Nat → Nat → Option Nat} {V V1 : Nat → Nat → Nat → Int32} {O O1 : Nat → Nat → Nat → Option Nat} {ln ln1 : Nat → Nat} {e2 c2 : Nat} {κ2 : Nat → Nat} {G2 : Nat → Nat → Int32} {P2 : Nat → Nat → Option Nat} {V2 : Nat → Nat → Nat → Int32} {O2 : Nat → Nat → Nat → Option Nat} {ln2 : Nat → Nat} (h : EX e c κ κ1 G G1 P P1 V V1 O O1 ln ln1) (h2 : EX e2 c2 κ1 κ2 G1 G2 P1 P2 V1 V2 O1 O2 ln1 ln2) (hc : c ≤ c2) (he : e2 = e ∨ c ≤ e2) : EX e c κ κ2 G G2 P P2 V V2 O O2 ln ln2 := by
  intro a ha hae
  obtain ⟨x1, x2, x3, x4, x5, x6⟩ := h a ha hae
  obtain ⟨y1, y2, y3, y4, y5, y6⟩ := h2 a (by omega) (by omega)
  exact ⟨y1.trans x1, fun f => (y2 f).trans (x2 f), fun f => (y3 f).trans (x3 f), fun f => (y4 f).trans (x4 f), fun f => (y5 f).trans (x5 f), y6.trans x6⟩
theorem va_up2 {α : Type} {F : Nat → Nat → α} {f e a g : Nat} {v : α} (h : a ≠ e) : va_up F f (va_up (F f) e v) g a = F g a := by
  unfold va_up
  by_cases q : g = f
  · simp only [q, if_true, h, if_false]
  · simp only [q, if_false]
theorem EX_G {e c : Nat} {κ κ1 : Nat → Nat} {G G1 : Nat → Nat → Int32} {P P1 : Nat → Nat → Option Nat} {V V1 : Nat → Nat → Nat → Int32} {O O1 : Nat → Nat → Nat → Option Nat} {ln ln1 : Nat → Nat} {f : Nat} {v : Int32} (h : EX e c κ κ1 G G1 P P1 V V1 O O1 ln ln1) : EX e c κ κ1 G (va_up G1 f (va_up (G1 f) e v)) P P1 V V1 O O1 ln ln1 := by
  intro a ha hae
  obtain ⟨x1, x2, x3, x4, x5, x6⟩ := h a ha hae
  exact ⟨x1, fun g => (va_up2 hae).trans (x2 g), x3, x4, x5, x6⟩
theorem EX_P {e c : Nat} {κ κ1 : Nat → Nat} {G G1 : Nat → Nat → Int32} {P P1 : Nat → Nat → Option Nat} {V V1 : Nat → Nat → Nat → Int32} {O O1 : Nat → Nat → Nat → Option Nat} {ln ln1 : Nat → Nat} {f : Nat} {v : Option Nat} (h : EX e c κ κ1 G G1 P P1 V V1 O O1 ln ln1) : EX e c κ κ1 G G1 P (va_up P1 f (va_up (P1 f) e v)) V V1 O O1 ln ln1 := by
  intro a ha hae
  obtain ⟨x1, x2, x3, x4, x5, x6⟩ := h a ha hae
  exact ⟨x1, x2, fun g => (va_up2 hae).trans (x3 g), x4, x5, x6⟩
theorem EX_V {e c : Nat} {κ κ1 : Nat → Nat} {G G1 : Nat → Nat → Int32} {P P1 : Nat → Nat → Option Nat} {V V1 : Nat → Nat → Nat → Int32} {O O1 : Nat → Nat → Nat → Option Nat} {ln ln1 : Nat → Nat} {r b : Nat} {v : Nat → Int32} (h : EX e c κ κ1 G G1 P P1 V V1 O O1 ln ln1) (hb : c ≤ b) : EX e c κ κ1 G G1 P P1 V (va_up V1 r (va_up (V1 r) b v)) O O1 ln ln1 := by
  intro a ha hae
  obtain ⟨x1, x2, x3, x4, x5, x6⟩ := h a ha hae
  exact ⟨x1, x2, x3, fun g => (va_up2 (by omega)).trans (x4 g), x5, x6⟩
theorem EX_k {e c : Nat} {κ κ1 : Nat → Nat} {G G1 : Nat → Nat → Int32} {P P1 : Nat → Nat → Option Nat} {V V1 : Nat → Nat → Nat → Int32} {O O1 : Nat → Nat → Nat → Option Nat} {ln ln1 : Nat → Nat} {K : Nat} (h : EX e c κ κ1 G G1 P P1 V V1 O O1 ln ln1) : EX e c κ (va_up κ1 e K) G G1 P P1 V V1 O O1 ln ln1 := by
  intro a ha hae
  obtain ⟨x1, x2, x3, x4, x5, x6⟩ := h a ha hae
  exact ⟨(va_up_ne _ _ hae).trans x1, x2, x3, x4, x5, x6⟩
theorem rng2_new {lo hi : Int} {v : Nat → Nat → Int32} {c : Nat} (h : rng2 lo hi v) (h1 : lo ≤ (0 : Int32).toInt) (h2 : (0 : Int32).toInt ≤ hi) : rng2 lo hi (va_up v c (fun _ => 0)) := by
  intro j k
  unfold va_up
  split
  · exact ⟨h1, h2⟩
  · exact h j k
theorem PB_new {κ ln : Nat → Nat} {wd K k lo hi e c Ke n : Nat} {p : Nat → Option Nat} (h : PB κ ln wd K k lo hi e p) (hc : KC κ c) (hK : Ke ≠ K) (hk : k ≠ 0) : PB (va_up κ c Ke) (va_up ln c n) wd K k lo hi e (va_up p c none) := by
  intro a
  by_cases q : a = c
  · subst q
    rw [va_up_self, va_up_self]
    exact ⟨fun z => absurd z hK, fun b z => by cases z⟩
  · rw [va_up_ne _ _ q, va_up_ne _ _ q]
    refine ⟨(h a).1, fun b hb => ?_⟩
    obtain ⟨h1, h2⟩ := (h a).2 b hb
    have hbc : b ≠ c := fun z => hk (by rw [← h1, z]; exact hc c (Nat.le_refl _))
    rw [va_up_ne _ _ hbc, va_up_ne _ _ hbc]
    exact ⟨h1, h2⟩
theorem OB_new {κ : Nat → Nat} {k c Ke : Nat} {o : Nat → Nat → Option Nat} (h : OB κ k o) (hc : KC κ c) (hk : k ≠ 0) : OB (va_up κ c Ke) k (va_up o c (fun _ => none)) := by
  intro a i b hb
  by_cases q : a = c
  · subst q
    rw [va_up_self] at hb
    cases hb
  · rw [va_up_ne _ _ q] at hb
    have h1 := h a i b hb
    rw [va_up_ne _ _ (fun z => hk (by rw [← h1, z]; exact hc c (Nat.le_refl _)))]
    exact h1
theorem RA_new {κ ln : Nat → Nat} {w : Nat → Int32} {pl ps : Nat → Option Nat} {c Ke n wd K1 k1 lo1 hi1 e1 K2 k2 lo2 hi2 e2 : Nat} (h : RA κ ln w pl ps) (hc : KC κ c) (hK : Ke ≠ 11) (h1 : PB κ ln wd K1 k1 lo1 hi1 e1 pl) (hk1 : k1 ≠ 0) (h2 : PB κ ln wd K2 k2 lo2 hi2 e2 ps) (hk2 : k2 ≠ 0) : RA (va_up κ c Ke) (va_up ln c n) (va_up w c 0) (va_up pl c none) (va_up ps c none) := by
  intro a l s ha hl hs
  by_cases q : a = c
  · subst q
    rw [va_up_self] at ha
    exact absurd ha hK
  · rw [va_up_ne _ _ q] at ha hl hs
    rw [va_up_ne _ _ q, va_up_ne _ _ (fun z => hk1 (by rw [← ((h1 a).2 l hl).1, z]; exact hc c (Nat.le_refl _))), va_up_ne _ _ (fun z => hk2 (by rw [← ((h2 a).2 s hs).1, z]; exact hc c (Nat.le_refl _)))]
    exact h a l s ha hl hs
theorem RB_new {κ ln : Nat → Nat} {w x : Nat → Int32} {ps : Nat → Option Nat} {v : Nat → Nat → Int32} {c Ke n wd K2 k2 lo2 hi2 e2 : Nat} (h : RB κ ln w x ps v) (hc : KC κ c) (hK : Ke ≠ 11) (h2 : PB κ ln wd K2 k2 lo2 hi2 e2 ps) (hk2 : k2 ≠ 0) : RB (va_up κ c Ke) (va_up ln c n) (va_up w c 0) (va_up x c 0) (va_up ps c none) (va_up v c (fun _ => 0)) := by
  intro a s ha hs
  by_cases q : a = c
  · subst q
    rw [va_up_self] at ha
    exact absurd ha hK
  · rw [va_up_ne _ _ q] at ha hs
    have hsc : s ≠ c := fun z => hk2 (by rw [← ((h2 a).2 s hs).1, z]; exact hc c (Nat.le_refl _))
    rw [va_up_ne _ _ q, va_up_ne _ _ q, va_up_ne _ _ hsc, va_up_ne _ _ hsc]
    exact h a s ha hs
theorem RI_new {ps : Nat → Option Nat} {c : Nat} (h : RI ps) : RI (va_up ps c none) := by
  intro a b s ha hb
  by_cases q : a = c
  · subst q
    rw [va_up_self] at ha
    cases ha
  · by_cases q2 : b = c
    · subst q2
      rw [va_up_self] at hb
      cases hb
    · rw [va_up_ne _ _ q] at ha
      rw [va_up_ne _ _ q2] at hb
      exact h a b s ha hb
theorem RM_new {κ ln : Nat → Nat} {m c nn wd K1 k1 lo1 hi1 e1 K2 k2 lo2 hi2 e2 : Nat} {p ps : Nat → Option Nat} (h : RM ln m p ps) (hc : KC κ c) (h1 : PB κ ln wd K1 k1 lo1 hi1 e1 p) (hk1 : k1 ≠ 0) (h2 : PB κ ln wd K2 k2 lo2 hi2 e2 ps) (hk2 : k2 ≠ 0) : RM (va_up ln c nn) m (va_up p c none) (va_up ps c none) := by
  intro a b s ha hb
  by_cases q : a = c
  · subst q
    rw [va_up_self] at ha
    cases ha
  · rw [va_up_ne _ _ q] at ha
    have hbc : b ≠ c := fun z => hk1 (by rw [← ((h1 a).2 b ha).1, z]; exact hc c (Nat.le_refl _))
    rw [va_up_ne _ _ hbc] at hb
    rw [va_up_ne _ _ (fun z => hk2 (by rw [← ((h2 b).2 s hb).1, z]; exact hc c (Nat.le_refl _)))]
    exact h a b s ha hb
theorem LN_new {κ ln : Nat → Nat} {c Ke n : Nat} (h : LN κ ln) (hn : n ≤ 2500) : LN (va_up κ c Ke) (va_up ln c n) := by
  intro a ha
  by_cases q : a = c
  · subst q
    rw [va_up_self]
    exact hn
  · rw [va_up_ne _ _ q] at ha ⊢
    exact h a ha
theorem FL_new {wd c : Nat} {x : Nat → Int32} {v : Nat → Nat → Int32} (h : FL wd x v) (hw : wd ≠ c) (h0 : 0 ≤ (x wd).toInt) : FL wd (va_up x c 0) (va_up v c (fun _ => 0)) := by
  intro a s
  rw [va_up_ne _ _ hw]
  unfold va_up
  split
  · exact h0
  · exact h a s
theorem FL_fill {wd a i : Nat} {x : Nat → Int32} {v : Nat → Nat → Int32} {y : Int32} (h : FL wd x v) (hy : y.toInt ≤ (x wd).toInt) : FL wd x (va_up v a (upd (v a) i y)) := by
  intro b s
  unfold va_up
  split
  · unfold upd
    split
    · exact hy
    · exact h a s
  · exact h b s
theorem W0_new {wd c : Nat} {p : Nat → Option Nat} (h : W0 wd p) : W0 wd (va_up p c none) := by
  intro a b hb
  by_cases q : a = c
  · subst q
    rw [va_up_self] at hb
    cases hb
  · rw [va_up_ne _ _ q] at hb
    exact h a b hb
theorem KC_new {κ : Nat → Nat} {c Ke : Nat} (h : KC κ c) : KC (va_up κ c Ke) (c + 1) := by
  intro a ha
  rw [va_up_ne _ _ (by omega)]
  exact h a (by omega)
def CInv (κ : Nat → Nat) (wd : Nat) (G : Nat → Nat → Int32) (P : Nat → Nat → Option Nat) (V : Nat → Nat → Nat → Int32) (O : Nat → Nat → Nat → Option Nat) (ln : Nat → Nat) (cnt : Nat) : Prop := rng (0) 40 (G 43) ∧ rng (0) 40 (G 44) ∧ rng (0) 7 (G 45) ∧ rng (0) 30 (G 60) ∧ rng (0) 2000 (G 83) ∧ rng (0) 2001 (G 84) ∧ rng (0) 4 (G 85) ∧ rng (0) 2001 (G 87) ∧ rng (0) 2000 (G 88) ∧ rng (0) 40 (G 102) ∧ rng (0) 2500 (G 125) ∧ rng (0) 2500 (G 126) ∧ rng (0) 2000 (G 127) ∧ rng (0) 2000 (G 141) ∧ rng (0) 2000 (G 160) ∧ rng (0) 2000 (G 161) ∧ rng (0) 2000 (G 162) ∧ rng (0) 2000 (G 165) ∧ rng (0) 2000 (G 166) ∧ rng (0) 40 (G 183) ∧ rng (0) 24 (G 200) ∧ rng (0) 100 (G 203) ∧ rng (0) 6 (G 222) ∧ rng (0) 100 (G 231) ∧ rng (0) 200 (G 233) ∧ PB κ ln wd 1 11 0 2500 0 (P 0) ∧ PB κ ln wd 1 301 700 700 0 (P 1) ∧ PB κ ln wd 1 201 600 600 0 (P 2) ∧ PB κ ln wd 1 103 7 7 0 (P 3) ∧ PB κ ln wd 1 11 0 2500 1 (P 4) ∧ PB κ ln wd 1 11 0 2500 0 (P 5) ∧ PB κ ln wd 2 100 0 16 0 (P 20) ∧ PB κ ln wd 2 100 0 16 0 (P 21) ∧ PB κ ln wd 2 100 0 16 0 (P 22) ∧ PB κ ln wd 2 100 0 16 0 (P 23) ∧ PB κ ln wd 3 107 280 280 0 (P 40) ∧ PB κ ln wd 3 108 280 280 0 (P 41) ∧ PB κ ln wd 3 109 40 40 0 (P 42) ∧ PB κ ln wd 4 102 30 30 0 (P 61) ∧ PB κ ln wd 4 100 720 720 0 (P 62) ∧ PB κ ln wd 4 100 408 408 0 (P 63) ∧ PB κ ln wd 4 112 25 25 0 (P 64) ∧ PB κ ln wd 4 100 24 24 0 (P 65) ∧ PB κ ln wd 4 11 0 2500 0 (P 66) ∧ PB κ ln wd 5 100 0 2000 0 (P 82) ∧ PB κ ln wd 6 300 40 40 0 (P 101) ∧ PB κ ln wd 6 11 0 2500 1 (P 103) ∧ PB κ ln wd 6 11 0 2500 1 (P 104) ∧ PB κ ln wd 6 11 0 2500 1 (P 105) ∧ PB κ ln wd 6 110 40 40 0 (P 106) ∧ PB κ ln wd 6 11 0 2500 1 (P 108) ∧ PB κ ln wd 6 111 40 40 0 (P 109) ∧ PB κ ln wd 6 200 40 40 0 (P 110) ∧ PB κ ln wd 7 100 2500 2500 0 (P 120) ∧ PB κ ln wd 7 100 2500 2500 0 (P 121) ∧ PB κ ln wd 7 106 5 5 0 (P 122) ∧ PB κ ln wd 7 106 5 5 0 (P 123) ∧ PB κ ln wd 8 100 2000 2000 0 (P 140) ∧ PB κ ln wd 9 100 0 2000 0 (P 164) ∧ PB κ ln wd 10 4 0 2500 0 (P 180) ∧ PB κ ln wd 10 100 40 40 0 (P 181) ∧ PB κ ln wd 10 100 40 40 0 (P 182) ∧ PB κ ln wd 10 100 24 24 0 (P 185) ∧ PB κ ln wd 10 11 0 2500 1 (P 186) ∧ PB κ ln wd 10 11 0 2500 1 (P 187) ∧ PB κ ln wd 11 100 0 2400 0 (P 201) ∧ PB κ ln wd 11 101 0 100 0 (P 202) ∧ PB κ ln wd 12 8 0 2500 0 (P 220) ∧ PB κ ln wd 12 302 6 6 0 (P 221) ∧ PB κ ln wd 12 6 0 2500 0 (P 224) ∧ PB κ ln wd 12 5 0 2500 0 (P 225) ∧ PB κ ln wd 12 10 0 2500 0 (P 226) ∧ PB κ ln wd 12 11 0 2500 1 (P 227) ∧ PB κ ln wd 12 4 0 2500 0 (P 228) ∧ PB κ ln wd 12 1 0 2500 0 (P 229) ∧ PB κ ln wd 12 104 100 100 0 (P 230) ∧ PB κ ln wd 12 105 200 200 0 (P 232) ∧ PB κ ln wd 12 9 0 2500 0 (P 234) ∧ PB κ ln wd 12 7 0 2500 0 (P 235) ∧ PB κ ln wd 12 3 0 2500 0 (P 236) ∧ rng2 (0) 24 (V 1) ∧ rng2 (0) 24 (V 2) ∧ rng2 (0) 100 (V 3) ∧ rng2 (0) 6 (V 9) ∧ OB κ 2 (O 0) ∧ OB κ 11 (O 1) ∧ OB κ 6 (O 2) ∧ RA κ ln (G 200) (P 201) (P 202) ∧ RB κ ln (G 200) (G 203) (P 202) (V 1) ∧ RI (P 202) ∧ RM ln 40 (P 103) (P 202) ∧ RM ln 40 (P 104) (P 202) ∧ RM ln 40 (P 108) (P 202) ∧ LN κ ln ∧ FL wd (G 203) (V 3) ∧ W0 wd (P 0) ∧ KC κ cnt ∧ κ wd = 11
set_option maxRecDepth 100000 in
theorem CInv_i {κ : Nat → Nat} {wd : Nat} {G : Nat → Nat → Int32} {P : Nat → Nat → Option Nat} {V : Nat → Nat → Nat → Int32} {O : Nat → Nat → Nat → Option Nat} {ln : Nat → Nat} {cnt : Nat} (x0 : rng (0) 40 (G 43)) (x1 : rng (0) 40 (G 44)) (x2 : rng (0) 7 (G 45)) (x3 : rng (0) 30 (G 60)) (x4 : rng (0) 2000 (G 83)) (x5 : rng (0) 2001 (G 84)) (x6 : rng (0) 4 (G 85)) (x7 : rng (0) 2001 (G 87)) (x8 : rng (0) 2000 (G 88)) (x9 : rng (0) 40 (G 102)) (x10 : rng (0) 2500 (G 125)) (x11 : rng (0) 2500 (G 126)) (x12 : rng (0) 2000 (G 127)) (x13 : rng (0) 2000 (G 141)) (x14 : rng (0) 2000 (G 160)) (x15 : rng (0) 2000 (G 161)) (x16 : rng (0) 2000 (G 162)) (x17 : rng (0) 2000 (G 165)) (x18 : rng (0) 2000 (G 166)) (x19 : rng (0) 40 (G 183)) (x20 : rng (0) 24 (G 200)) (x21 : rng (0) 100 (G 203)) (x22 : rng (0) 6 (G 222)) (x23 : rng (0) 100 (G 231)) (x24 : rng (0) 200 (G 233)) (x25 : PB κ ln wd 1 11 0 2500 0 (P 0)) (x26 : PB κ ln wd 1 301 700 700 0 (P 1)) (x27 : PB κ ln wd 1 201 600 600 0 (P 2)) (x28 : PB κ ln wd 1 103 7 7 0 (P 3)) (x29 : PB κ ln wd 1 11 0 2500 1 (P 4)) (x30 : PB κ ln wd 1 11 0 2500 0 (P 5)) (x31 : PB κ ln wd 2 100 0 16 0 (P 20)) (x32 : PB κ ln wd 2 100 0 16 0 (P 21)) (x33 : PB κ ln wd 2 100 0 16 0 (P 22)) (x34 : PB κ ln wd 2 100 0 16 0 (P 23)) (x35 : PB κ ln wd 3 107 280 280 0 (P 40)) (x36 : PB κ ln wd 3 108 280 280 0 (P 41)) (x37 : PB κ ln wd 3 109 40 40 0 (P 42)) (x38 : PB κ ln wd 4 102 30 30 0 (P 61)) (x39 : PB κ ln wd 4 100 720 720 0 (P 62)) (x40 : PB κ ln wd 4 100 408 408 0 (P 63)) (x41 : PB κ ln wd 4 112 25 25 0 (P 64)) (x42 : PB κ ln wd 4 100 24 24 0 (P 65)) (x43 : PB κ ln wd 4 11 0 2500 0 (P 66)) (x44 : PB κ ln wd 5 100 0 2000 0 (P 82)) (x45 : PB κ ln wd 6 300 40 40 0 (P 101)) (x46 : PB κ ln wd 6 11 0 2500 1 (P 103)) (x47 : PB κ ln wd 6 11 0 2500 1 (P 104)) (x48 : PB κ ln wd 6 11 0 2500 1 (P 105)) (x49 : PB κ ln wd 6 110 40 40 0 (P 106)) (x50 : PB κ ln wd 6 11 0 2500 1 (P 108)) (x51 : PB κ ln wd 6 111 40 40 0 (P 109)) (x52 : PB κ ln wd 6 200 40 40 0 (P 110)) (x53 : PB κ ln wd 7 100 2500 2500 0 (P 120)) (x54 : PB κ ln wd 7 100 2500 2500 0 (P 121)) (x55 : PB κ ln wd 7 106 5 5 0 (P 122)) (x56 : PB κ ln wd 7 106 5 5 0 (P 123)) (x57 : PB κ ln wd 8 100 2000 2000 0 (P 140)) (x58 : PB κ ln wd 9 100 0 2000 0 (P 164)) (x59 : PB κ ln wd 10 4 0 2500 0 (P 180)) (x60 : PB κ ln wd 10 100 40 40 0 (P 181)) (x61 : PB κ ln wd 10 100 40 40 0 (P 182)) (x62 : PB κ ln wd 10 100 24 24 0 (P 185)) (x63 : PB κ ln wd 10 11 0 2500 1 (P 186)) (x64 : PB κ ln wd 10 11 0 2500 1 (P 187)) (x65 : PB κ ln wd 11 100 0 2400 0 (P 201)) (x66 : PB κ ln wd 11 101 0 100 0 (P 202)) (x67 : PB κ ln wd 12 8 0 2500 0 (P 220)) (x68 : PB κ ln wd 12 302 6 6 0 (P 221)) (x69 : PB κ ln wd 12 6 0 2500 0 (P 224)) (x70 : PB κ ln wd 12 5 0 2500 0 (P 225)) (x71 : PB κ ln wd 12 10 0 2500 0 (P 226)) (x72 : PB κ ln wd 12 11 0 2500 1 (P 227)) (x73 : PB κ ln wd 12 4 0 2500 0 (P 228)) (x74 : PB κ ln wd 12 1 0 2500 0 (P 229)) (x75 : PB κ ln wd 12 104 100 100 0 (P 230)) (x76 : PB κ ln wd 12 105 200 200 0 (P 232)) (x77 : PB κ ln wd 12 9 0 2500 0 (P 234)) (x78 : PB κ ln wd 12 7 0 2500 0 (P 235)) (x79 : PB κ ln wd 12 3 0 2500 0 (P 236)) (x80 : rng2 (0) 24 (V 1)) (x81 : rng2 (0) 24 (V 2)) (x82 : rng2 (0) 100 (V 3)) (x83 : rng2 (0) 6 (V 9)) (x84 : OB κ 2 (O 0)) (x85 : OB κ 11 (O 1)) (x86 : OB κ 6 (O 2)) (x87 : RA κ ln (G 200) (P 201) (P 202)) (x88 : RB κ ln (G 200) (G 203) (P 202) (V 1)) (x89 : RI (P 202)) (x90 : RM ln 40 (P 103) (P 202)) (x91 : RM ln 40 (P 104) (P 202)) (x92 : RM ln 40 (P 108) (P 202)) (x93 : LN κ ln) (x94 : FL wd (G 203) (V 3)) (x95 : W0 wd (P 0)) (x96 : KC κ cnt) (x97 : κ wd = 11) : CInv κ wd G P V O ln cnt := ⟨x0, x1, x2, x3, x4, x5, x6, x7, x8, x9, x10, x11, x12, x13, x14, x15, x16, x17, x18, x19, x20, x21, x22, x23, x24, x25, x26, x27, x28, x29, x30, x31, x32, x33, x34, x35, x36, x37, x38, x39, x40, x41, x42, x43, x44, x45, x46, x47, x48, x49, x50, x51, x52, x53, x54, x55, x56, x57, x58, x59, x60, x61, x62, x63, x64, x65, x66, x67, x68, x69, x70, x71, x72, x73, x74, x75, x76, x77, x78, x79, x80, x81, x82, x83, x84, x85, x86, x87, x88, x89, x90, x91, x92, x93, x94, x95, x96, x97⟩
set_option maxRecDepth 100000 in
theorem CInv_t7 {κ : Nat → Nat} {wd : Nat} {G : Nat → Nat → Int32} {P : Nat → Nat → Option Nat} {V : Nat → Nat → Nat → Int32} {O : Nat → Nat → Nat → Option Nat} {ln : Nat → Nat} {cnt : Nat} (h : CInv κ wd G P V O ln cnt) : rng (0) 2001 (G 87) ∧ rng (0) 2000 (G 88) ∧ rng (0) 40 (G 102) ∧ rng (0) 2500 (G 125) ∧ rng (0) 2500 (G 126) ∧ rng (0) 2000 (G 127) ∧ rng (0) 2000 (G 141) ∧ rng (0) 2000 (G 160) ∧ rng (0) 2000 (G 161) ∧ rng (0) 2000 (G 162) ∧ rng (0) 2000 (G 165) ∧ rng (0) 2000 (G 166) ∧ rng (0) 40 (G 183) ∧ rng (0) 24 (G 200) ∧ rng (0) 100 (G 203) ∧ rng (0) 6 (G 222) ∧ rng (0) 100 (G 231) ∧ rng (0) 200 (G 233) ∧ PB κ ln wd 1 11 0 2500 0 (P 0) ∧ PB κ ln wd 1 301 700 700 0 (P 1) ∧ PB κ ln wd 1 201 600 600 0 (P 2) ∧ PB κ ln wd 1 103 7 7 0 (P 3) ∧ PB κ ln wd 1 11 0 2500 1 (P 4) ∧ PB κ ln wd 1 11 0 2500 0 (P 5) ∧ PB κ ln wd 2 100 0 16 0 (P 20) ∧ PB κ ln wd 2 100 0 16 0 (P 21) ∧ PB κ ln wd 2 100 0 16 0 (P 22) ∧ PB κ ln wd 2 100 0 16 0 (P 23) ∧ PB κ ln wd 3 107 280 280 0 (P 40) ∧ PB κ ln wd 3 108 280 280 0 (P 41) ∧ PB κ ln wd 3 109 40 40 0 (P 42) ∧ PB κ ln wd 4 102 30 30 0 (P 61) ∧ PB κ ln wd 4 100 720 720 0 (P 62) ∧ PB κ ln wd 4 100 408 408 0 (P 63) ∧ PB κ ln wd 4 112 25 25 0 (P 64) ∧ PB κ ln wd 4 100 24 24 0 (P 65) ∧ PB κ ln wd 4 11 0 2500 0 (P 66) ∧ PB κ ln wd 5 100 0 2000 0 (P 82) ∧ PB κ ln wd 6 300 40 40 0 (P 101) ∧ PB κ ln wd 6 11 0 2500 1 (P 103) ∧ PB κ ln wd 6 11 0 2500 1 (P 104) ∧ PB κ ln wd 6 11 0 2500 1 (P 105) ∧ PB κ ln wd 6 110 40 40 0 (P 106) ∧ PB κ ln wd 6 11 0 2500 1 (P 108) ∧ PB κ ln wd 6 111 40 40 0 (P 109) ∧ PB κ ln wd 6 200 40 40 0 (P 110) ∧ PB κ ln wd 7 100 2500 2500 0 (P 120) ∧ PB κ ln wd 7 100 2500 2500 0 (P 121) ∧ PB κ ln wd 7 106 5 5 0 (P 122) ∧ PB κ ln wd 7 106 5 5 0 (P 123) ∧ PB κ ln wd 8 100 2000 2000 0 (P 140) ∧ PB κ ln wd 9 100 0 2000 0 (P 164) ∧ PB κ ln wd 10 4 0 2500 0 (P 180) ∧ PB κ ln wd 10 100 40 40 0 (P 181) ∧ PB κ ln wd 10 100 40 40 0 (P 182) ∧ PB κ ln wd 10 100 24 24 0 (P 185) ∧ PB κ ln wd 10 11 0 2500 1 (P 186) ∧ PB κ ln wd 10 11 0 2500 1 (P 187) ∧ PB κ ln wd 11 100 0 2400 0 (P 201) ∧ PB κ ln wd 11 101 0 100 0 (P 202) ∧ PB κ ln wd 12 8 0 2500 0 (P 220) ∧ PB κ ln wd 12 302 6 6 0 (P 221) ∧ PB κ ln wd 12 6 0 2500 0 (P 224) ∧ PB κ ln wd 12 5 0 2500 0 (P 225) ∧ PB κ ln wd 12 10 0 2500 0 (P 226) ∧ PB κ ln wd 12 11 0 2500 1 (P 227) ∧ PB κ ln wd 12 4 0 2500 0 (P 228) ∧ PB κ ln wd 12 1 0 2500 0 (P 229) ∧ PB κ ln wd 12 104 100 100 0 (P 230) ∧ PB κ ln wd 12 105 200 200 0 (P 232) ∧ PB κ ln wd 12 9 0 2500 0 (P 234) ∧ PB κ ln wd 12 7 0 2500 0 (P 235) ∧ PB κ ln wd 12 3 0 2500 0 (P 236) ∧ rng2 (0) 24 (V 1) ∧ rng2 (0) 24 (V 2) ∧ rng2 (0) 100 (V 3) ∧ rng2 (0) 6 (V 9) ∧ OB κ 2 (O 0) ∧ OB κ 11 (O 1) ∧ OB κ 6 (O 2) ∧ RA κ ln (G 200) (P 201) (P 202) ∧ RB κ ln (G 200) (G 203) (P 202) (V 1) ∧ RI (P 202) ∧ RM ln 40 (P 103) (P 202) ∧ RM ln 40 (P 104) (P 202) ∧ RM ln 40 (P 108) (P 202) ∧ LN κ ln ∧ FL wd (G 203) (V 3) ∧ W0 wd (P 0) ∧ KC κ cnt ∧ κ wd = 11 := (And.right (And.right (And.right (And.right (And.right (And.right (And.right (h))))))))
set_option maxRecDepth 100000 in
theorem CInv_t14 {κ : Nat → Nat} {wd : Nat} {G : Nat → Nat → Int32} {P : Nat → Nat → Option Nat} {V : Nat → Nat → Nat → Int32} {O : Nat → Nat → Nat → Option Nat} {ln : Nat → Nat} {cnt : Nat} (h : CInv κ wd G P V O ln cnt) : rng (0) 2000 (G 160) ∧ rng (0) 2000 (G 161) ∧ rng (0) 2000 (G 162) ∧ rng (0) 2000 (G 165) ∧ rng (0) 2000 (G 166) ∧ rng (0) 40 (G 183) ∧ rng (0) 24 (G 200) ∧ rng (0) 100 (G 203) ∧ rng (0) 6 (G 222) ∧ rng (0) 100 (G 231) ∧ rng (0) 200 (G 233) ∧ PB κ ln wd 1 11 0 2500 0 (P 0) ∧ PB κ ln wd 1 301 700 700 0 (P 1) ∧ PB κ ln wd 1 201 600 600 0 (P 2) ∧ PB κ ln wd 1 103 7 7 0 (P 3) ∧ PB κ ln wd 1 11 0 2500 1 (P 4) ∧ PB κ ln wd 1 11 0 2500 0 (P 5) ∧ PB κ ln wd 2 100 0 16 0 (P 20) ∧ PB κ ln wd 2 100 0 16 0 (P 21) ∧ PB κ ln wd 2 100 0 16 0 (P 22) ∧ PB κ ln wd 2 100 0 16 0 (P 23) ∧ PB κ ln wd 3 107 280 280 0 (P 40) ∧ PB κ ln wd 3 108 280 280 0 (P 41) ∧ PB κ ln wd 3 109 40 40 0 (P 42) ∧ PB κ ln wd 4 102 30 30 0 (P 61) ∧ PB κ ln wd 4 100 720 720 0 (P 62) ∧ PB κ ln wd 4 100 408 408 0 (P 63) ∧ PB κ ln wd 4 112 25 25 0 (P 64) ∧ PB κ ln wd 4 100 24 24 0 (P 65) ∧ PB κ ln wd 4 11 0 2500 0 (P 66) ∧ PB κ ln wd 5 100 0 2000 0 (P 82) ∧ PB κ ln wd 6 300 40 40 0 (P 101) ∧ PB κ ln wd 6 11 0 2500 1 (P 103) ∧ PB κ ln wd 6 11 0 2500 1 (P 104) ∧ PB κ ln wd 6 11 0 2500 1 (P 105) ∧ PB κ ln wd 6 110 40 40 0 (P 106) ∧ PB κ ln wd 6 11 0 2500 1 (P 108) ∧ PB κ ln wd 6 111 40 40 0 (P 109) ∧ PB κ ln wd 6 200 40 40 0 (P 110) ∧ PB κ ln wd 7 100 2500 2500 0 (P 120) ∧ PB κ ln wd 7 100 2500 2500 0 (P 121) ∧ PB κ ln wd 7 106 5 5 0 (P 122) ∧ PB κ ln wd 7 106 5 5 0 (P 123) ∧ PB κ ln wd 8 100 2000 2000 0 (P 140) ∧ PB κ ln wd 9 100 0 2000 0 (P 164) ∧ PB κ ln wd 10 4 0 2500 0 (P 180) ∧ PB κ ln wd 10 100 40 40 0 (P 181) ∧ PB κ ln wd 10 100 40 40 0 (P 182) ∧ PB κ ln wd 10 100 24 24 0 (P 185) ∧ PB κ ln wd 10 11 0 2500 1 (P 186) ∧ PB κ ln wd 10 11 0 2500 1 (P 187) ∧ PB κ ln wd 11 100 0 2400 0 (P 201) ∧ PB κ ln wd 11 101 0 100 0 (P 202) ∧ PB κ ln wd 12 8 0 2500 0 (P 220) ∧ PB κ ln wd 12 302 6 6 0 (P 221) ∧ PB κ ln wd 12 6 0 2500 0 (P 224) ∧ PB κ ln wd 12 5 0 2500 0 (P 225) ∧ PB κ ln wd 12 10 0 2500 0 (P 226) ∧ PB κ ln wd 12 11 0 2500 1 (P 227) ∧ PB κ ln wd 12 4 0 2500 0 (P 228) ∧ PB κ ln wd 12 1 0 2500 0 (P 229) ∧ PB κ ln wd 12 104 100 100 0 (P 230) ∧ PB κ ln wd 12 105 200 200 0 (P 232) ∧ PB κ ln wd 12 9 0 2500 0 (P 234) ∧ PB κ ln wd 12 7 0 2500 0 (P 235) ∧ PB κ ln wd 12 3 0 2500 0 (P 236) ∧ rng2 (0) 24 (V 1) ∧ rng2 (0) 24 (V 2) ∧ rng2 (0) 100 (V 3) ∧ rng2 (0) 6 (V 9) ∧ OB κ 2 (O 0) ∧ OB κ 11 (O 1) ∧ OB κ 6 (O 2) ∧ RA κ ln (G 200) (P 201) (P 202) ∧ RB κ ln (G 200) (G 203) (P 202) (V 1) ∧ RI (P 202) ∧ RM ln 40 (P 103) (P 202) ∧ RM ln 40 (P 104) (P 202) ∧ RM ln 40 (P 108) (P 202) ∧ LN κ ln ∧ FL wd (G 203) (V 3) ∧ W0 wd (P 0) ∧ KC κ cnt ∧ κ wd = 11 := (And.right (And.right (And.right (And.right (And.right (And.right (And.right (CInv_t7 h))))))))
set_option maxRecDepth 100000 in
theorem CInv_t21 {κ : Nat → Nat} {wd : Nat} {G : Nat → Nat → Int32} {P : Nat → Nat → Option Nat} {V : Nat → Nat → Nat → Int32} {O : Nat → Nat → Nat → Option Nat} {ln : Nat → Nat} {cnt : Nat} (h : CInv κ wd G P V O ln cnt) : rng (0) 100 (G 203) ∧ rng (0) 6 (G 222) ∧ rng (0) 100 (G 231) ∧ rng (0) 200 (G 233) ∧ PB κ ln wd 1 11 0 2500 0 (P 0) ∧ PB κ ln wd 1 301 700 700 0 (P 1) ∧ PB κ ln wd 1 201 600 600 0 (P 2) ∧ PB κ ln wd 1 103 7 7 0 (P 3) ∧ PB κ ln wd 1 11 0 2500 1 (P 4) ∧ PB κ ln wd 1 11 0 2500 0 (P 5) ∧ PB κ ln wd 2 100 0 16 0 (P 20) ∧ PB κ ln wd 2 100 0 16 0 (P 21) ∧ PB κ ln wd 2 100 0 16 0 (P 22) ∧ PB κ ln wd 2 100 0 16 0 (P 23) ∧ PB κ ln wd 3 107 280 280 0 (P 40) ∧ PB κ ln wd 3 108 280 280 0 (P 41) ∧ PB κ ln wd 3 109 40 40 0 (P 42) ∧ PB κ ln wd 4 102 30 30 0 (P 61) ∧ PB κ ln wd 4 100 720 720 0 (P 62) ∧ PB κ ln wd 4 100 408 408 0 (P 63) ∧ PB κ ln wd 4 112 25 25 0 (P 64) ∧ PB κ ln wd 4 100 24 24 0 (P 65) ∧ PB κ ln wd 4 11 0 2500 0 (P 66) ∧ PB κ ln wd 5 100 0 2000 0 (P 82) ∧ PB κ ln wd 6 300 40 40 0 (P 101) ∧ PB κ ln wd 6 11 0 2500 1 (P 103) ∧ PB κ ln wd 6 11 0 2500 1 (P 104) ∧ PB κ ln wd 6 11 0 2500 1 (P 105) ∧ PB κ ln wd 6 110 40 40 0 (P 106) ∧ PB κ ln wd 6 11 0 2500 1 (P 108) ∧ PB κ ln wd 6 111 40 40 0 (P 109) ∧ PB κ ln wd 6 200 40 40 0 (P 110) ∧ PB κ ln wd 7 100 2500 2500 0 (P 120) ∧ PB κ ln wd 7 100 2500 2500 0 (P 121) ∧ PB κ ln wd 7 106 5 5 0 (P 122) ∧ PB κ ln wd 7 106 5 5 0 (P 123) ∧ PB κ ln wd 8 100 2000 2000 0 (P 140) ∧ PB κ ln wd 9 100 0 2000 0 (P 164) ∧ PB κ ln wd 10 4 0 2500 0 (P 180) ∧ PB κ ln wd 10 100 40 40 0 (P 181) ∧ PB κ ln wd 10 100 40 40 0 (P 182) ∧ PB κ ln wd 10 100 24 24 0 (P 185) ∧ PB κ ln wd 10 11 0 2500 1 (P 186) ∧ PB κ ln wd 10 11 0 2500 1 (P 187) ∧ PB κ ln wd 11 100 0 2400 0 (P 201) ∧ PB κ ln wd 11 101 0 100 0 (P 202) ∧ PB κ ln wd 12 8 0 2500 0 (P 220) ∧ PB κ ln wd 12 302 6 6 0 (P 221) ∧ PB κ ln wd 12 6 0 2500 0 (P 224) ∧ PB κ ln wd 12 5 0 2500 0 (P 225) ∧ PB κ ln wd 12 10 0 2500 0 (P 226) ∧ PB κ ln wd 12 11 0 2500 1 (P 227) ∧ PB κ ln wd 12 4 0 2500 0 (P 228) ∧ PB κ ln wd 12 1 0 2500 0 (P 229) ∧ PB κ ln wd 12 104 100 100 0 (P 230) ∧ PB κ ln wd 12 105 200 200 0 (P 232) ∧ PB κ ln wd 12 9 0 2500 0 (P 234) ∧ PB κ ln wd 12 7 0 2500 0 (P 235) ∧ PB κ ln wd 12 3 0 2500 0 (P 236) ∧ rng2 (0) 24 (V 1) ∧ rng2 (0) 24 (V 2) ∧ rng2 (0) 100 (V 3) ∧ rng2 (0) 6 (V 9) ∧ OB κ 2 (O 0) ∧ OB κ 11 (O 1) ∧ OB κ 6 (O 2) ∧ RA κ ln (G 200) (P 201) (P 202) ∧ RB κ ln (G 200) (G 203) (P 202) (V 1) ∧ RI (P 202) ∧ RM ln 40 (P 103) (P 202) ∧ RM ln 40 (P 104) (P 202) ∧ RM ln 40 (P 108) (P 202) ∧ LN κ ln ∧ FL wd (G 203) (V 3) ∧ W0 wd (P 0) ∧ KC κ cnt ∧ κ wd = 11 := (And.right (And.right (And.right (And.right (And.right (And.right (And.right (CInv_t14 h))))))))
set_option maxRecDepth 100000 in
theorem CInv_t28 {κ : Nat → Nat} {wd : Nat} {G : Nat → Nat → Int32} {P : Nat → Nat → Option Nat} {V : Nat → Nat → Nat → Int32} {O : Nat → Nat → Nat → Option Nat} {ln : Nat → Nat} {cnt : Nat} (h : CInv κ wd G P V O ln cnt) : PB κ ln wd 1 103 7 7 0 (P 3) ∧ PB κ ln wd 1 11 0 2500 1 (P 4) ∧ PB κ ln wd 1 11 0 2500 0 (P 5) ∧ PB κ ln wd 2 100 0 16 0 (P 20) ∧ PB κ ln wd 2 100 0 16 0 (P 21) ∧ PB κ ln wd 2 100 0 16 0 (P 22) ∧ PB κ ln wd 2 100 0 16 0 (P 23) ∧ PB κ ln wd 3 107 280 280 0 (P 40) ∧ PB κ ln wd 3 108 280 280 0 (P 41) ∧ PB κ ln wd 3 109 40 40 0 (P 42) ∧ PB κ ln wd 4 102 30 30 0 (P 61) ∧ PB κ ln wd 4 100 720 720 0 (P 62) ∧ PB κ ln wd 4 100 408 408 0 (P 63) ∧ PB κ ln wd 4 112 25 25 0 (P 64) ∧ PB κ ln wd 4 100 24 24 0 (P 65) ∧ PB κ ln wd 4 11 0 2500 0 (P 66) ∧ PB κ ln wd 5 100 0 2000 0 (P 82) ∧ PB κ ln wd 6 300 40 40 0 (P 101) ∧ PB κ ln wd 6 11 0 2500 1 (P 103) ∧ PB κ ln wd 6 11 0 2500 1 (P 104) ∧ PB κ ln wd 6 11 0 2500 1 (P 105) ∧ PB κ ln wd 6 110 40 40 0 (P 106) ∧ PB κ ln wd 6 11 0 2500 1 (P 108) ∧ PB κ ln wd 6 111 40 40 0 (P 109) ∧ PB κ ln wd 6 200 40 40 0 (P 110) ∧ PB κ ln wd 7 100 2500 2500 0 (P 120) ∧ PB κ ln wd 7 100 2500 2500 0 (P 121) ∧ PB κ ln wd 7 106 5 5 0 (P 122) ∧ PB κ ln wd 7 106 5 5 0 (P 123) ∧ PB κ ln wd 8 100 2000 2000 0 (P 140) ∧ PB κ ln wd 9 100 0 2000 0 (P 164) ∧ PB κ ln wd 10 4 0 2500 0 (P 180) ∧ PB κ ln wd 10 100 40 40 0 (P 181) ∧ PB κ ln wd 10 100 40 40 0 (P 182) ∧ PB κ ln wd 10 100 24 24 0 (P 185) ∧ PB κ ln wd 10 11 0 2500 1 (P 186) ∧ PB κ ln wd 10 11 0 2500 1 (P 187) ∧ PB κ ln wd 11 100 0 2400 0 (P 201) ∧ PB κ ln wd 11 101 0 100 0 (P 202) ∧ PB κ ln wd 12 8 0 2500 0 (P 220) ∧ PB κ ln wd 12 302 6 6 0 (P 221) ∧ PB κ ln wd 12 6 0 2500 0 (P 224) ∧ PB κ ln wd 12 5 0 2500 0 (P 225) ∧ PB κ ln wd 12 10 0 2500 0 (P 226) ∧ PB κ ln wd 12 11 0 2500 1 (P 227) ∧ PB κ ln wd 12 4 0 2500 0 (P 228) ∧ PB κ ln wd 12 1 0 2500 0 (P 229) ∧ PB κ ln wd 12 104 100 100 0 (P 230) ∧ PB κ ln wd 12 105 200 200 0 (P 232) ∧ PB κ ln wd 12 9 0 2500 0 (P 234) ∧ PB κ ln wd 12 7 0 2500 0 (P 235) ∧ PB κ ln wd 12 3 0 2500 0 (P 236) ∧ rng2 (0) 24 (V 1) ∧ rng2 (0) 24 (V 2) ∧ rng2 (0) 100 (V 3) ∧ rng2 (0) 6 (V 9) ∧ OB κ 2 (O 0) ∧ OB κ 11 (O 1) ∧ OB κ 6 (O 2) ∧ RA κ ln (G 200) (P 201) (P 202) ∧ RB κ ln (G 200) (G 203) (P 202) (V 1) ∧ RI (P 202) ∧ RM ln 40 (P 103) (P 202) ∧ RM ln 40 (P 104) (P 202) ∧ RM ln 40 (P 108) (P 202) ∧ LN κ ln ∧ FL wd (G 203) (V 3) ∧ W0 wd (P 0) ∧ KC κ cnt ∧ κ wd = 11 := (And.right (And.right (And.right (And.right (And.right (And.right (And.right (CInv_t21 h))))))))
set_option maxRecDepth 100000 in
theorem CInv_t35 {κ : Nat → Nat} {wd : Nat} {G : Nat → Nat → Int32} {P : Nat → Nat → Option Nat} {V : Nat → Nat → Nat → Int32} {O : Nat → Nat → Nat → Option Nat} {ln : Nat → Nat} {cnt : Nat} (h : CInv κ wd G P V O ln cnt) : PB κ ln wd 3 107 280 280 0 (P 40) ∧ PB κ ln wd 3 108 280 280 0 (P 41) ∧ PB κ ln wd 3 109 40 40 0 (P 42) ∧ PB κ ln wd 4 102 30 30 0 (P 61) ∧ PB κ ln wd 4 100 720 720 0 (P 62) ∧ PB κ ln wd 4 100 408 408 0 (P 63) ∧ PB κ ln wd 4 112 25 25 0 (P 64) ∧ PB κ ln wd 4 100 24 24 0 (P 65) ∧ PB κ ln wd 4 11 0 2500 0 (P 66) ∧ PB κ ln wd 5 100 0 2000 0 (P 82) ∧ PB κ ln wd 6 300 40 40 0 (P 101) ∧ PB κ ln wd 6 11 0 2500 1 (P 103) ∧ PB κ ln wd 6 11 0 2500 1 (P 104) ∧ PB κ ln wd 6 11 0 2500 1 (P 105) ∧ PB κ ln wd 6 110 40 40 0 (P 106) ∧ PB κ ln wd 6 11 0 2500 1 (P 108) ∧ PB κ ln wd 6 111 40 40 0 (P 109) ∧ PB κ ln wd 6 200 40 40 0 (P 110) ∧ PB κ ln wd 7 100 2500 2500 0 (P 120) ∧ PB κ ln wd 7 100 2500 2500 0 (P 121) ∧ PB κ ln wd 7 106 5 5 0 (P 122) ∧ PB κ ln wd 7 106 5 5 0 (P 123) ∧ PB κ ln wd 8 100 2000 2000 0 (P 140) ∧ PB κ ln wd 9 100 0 2000 0 (P 164) ∧ PB κ ln wd 10 4 0 2500 0 (P 180) ∧ PB κ ln wd 10 100 40 40 0 (P 181) ∧ PB κ ln wd 10 100 40 40 0 (P 182) ∧ PB κ ln wd 10 100 24 24 0 (P 185) ∧ PB κ ln wd 10 11 0 2500 1 (P 186) ∧ PB κ ln wd 10 11 0 2500 1 (P 187) ∧ PB κ ln wd 11 100 0 2400 0 (P 201) ∧ PB κ ln wd 11 101 0 100 0 (P 202) ∧ PB κ ln wd 12 8 0 2500 0 (P 220) ∧ PB κ ln wd 12 302 6 6 0 (P 221) ∧ PB κ ln wd 12 6 0 2500 0 (P 224) ∧ PB κ ln wd 12 5 0 2500 0 (P 225) ∧ PB κ ln wd 12 10 0 2500 0 (P 226) ∧ PB κ ln wd 12 11 0 2500 1 (P 227) ∧ PB κ ln wd 12 4 0 2500 0 (P 228) ∧ PB κ ln wd 12 1 0 2500 0 (P 229) ∧ PB κ ln wd 12 104 100 100 0 (P 230) ∧ PB κ ln wd 12 105 200 200 0 (P 232) ∧ PB κ ln wd 12 9 0 2500 0 (P 234) ∧ PB κ ln wd 12 7 0 2500 0 (P 235) ∧ PB κ ln wd 12 3 0 2500 0 (P 236) ∧ rng2 (0) 24 (V 1) ∧ rng2 (0) 24 (V 2) ∧ rng2 (0) 100 (V 3) ∧ rng2 (0) 6 (V 9) ∧ OB κ 2 (O 0) ∧ OB κ 11 (O 1) ∧ OB κ 6 (O 2) ∧ RA κ ln (G 200) (P 201) (P 202) ∧ RB κ ln (G 200) (G 203) (P 202) (V 1) ∧ RI (P 202) ∧ RM ln 40 (P 103) (P 202) ∧ RM ln 40 (P 104) (P 202) ∧ RM ln 40 (P 108) (P 202) ∧ LN κ ln ∧ FL wd (G 203) (V 3) ∧ W0 wd (P 0) ∧ KC κ cnt ∧ κ wd = 11 := (And.right (And.right (And.right (And.right (And.right (And.right (And.right (CInv_t28 h))))))))
set_option maxRecDepth 100000 in
theorem CInv_t42 {κ : Nat → Nat} {wd : Nat} {G : Nat → Nat → Int32} {P : Nat → Nat → Option Nat} {V : Nat → Nat → Nat → Int32} {O : Nat → Nat → Nat → Option Nat} {ln : Nat → Nat} {cnt : Nat} (h : CInv κ wd G P V O ln cnt) : PB κ ln wd 4 100 24 24 0 (P 65) ∧ PB κ ln wd 4 11 0 2500 0 (P 66) ∧ PB κ ln wd 5 100 0 2000 0 (P 82) ∧ PB κ ln wd 6 300 40 40 0 (P 101) ∧ PB κ ln wd 6 11 0 2500 1 (P 103) ∧ PB κ ln wd 6 11 0 2500 1 (P 104) ∧ PB κ ln wd 6 11 0 2500 1 (P 105) ∧ PB κ ln wd 6 110 40 40 0 (P 106) ∧ PB κ ln wd 6 11 0 2500 1 (P 108) ∧ PB κ ln wd 6 111 40 40 0 (P 109) ∧ PB κ ln wd 6 200 40 40 0 (P 110) ∧ PB κ ln wd 7 100 2500 2500 0 (P 120) ∧ PB κ ln wd 7 100 2500 2500 0 (P 121) ∧ PB κ ln wd 7 106 5 5 0 (P 122) ∧ PB κ ln wd 7 106 5 5 0 (P 123) ∧ PB κ ln wd 8 100 2000 2000 0 (P 140) ∧ PB κ ln wd 9 100 0 2000 0 (P 164) ∧ PB κ ln wd 10 4 0 2500 0 (P 180) ∧ PB κ ln wd 10 100 40 40 0 (P 181) ∧ PB κ ln wd 10 100 40 40 0 (P 182) ∧ PB κ ln wd 10 100 24 24 0 (P 185) ∧ PB κ ln wd 10 11 0 2500 1 (P 186) ∧ PB κ ln wd 10 11 0 2500 1 (P 187) ∧ PB κ ln wd 11 100 0 2400 0 (P 201) ∧ PB κ ln wd 11 101 0 100 0 (P 202) ∧ PB κ ln wd 12 8 0 2500 0 (P 220) ∧ PB κ ln wd 12 302 6 6 0 (P 221) ∧ PB κ ln wd 12 6 0 2500 0 (P 224) ∧ PB κ ln wd 12 5 0 2500 0 (P 225) ∧ PB κ ln wd 12 10 0 2500 0 (P 226) ∧ PB κ ln wd 12 11 0 2500 1 (P 227) ∧ PB κ ln wd 12 4 0 2500 0 (P 228) ∧ PB κ ln wd 12 1 0 2500 0 (P 229) ∧ PB κ ln wd 12 104 100 100 0 (P 230) ∧ PB κ ln wd 12 105 200 200 0 (P 232) ∧ PB κ ln wd 12 9 0 2500 0 (P 234) ∧ PB κ ln wd 12 7 0 2500 0 (P 235) ∧ PB κ ln wd 12 3 0 2500 0 (P 236) ∧ rng2 (0) 24 (V 1) ∧ rng2 (0) 24 (V 2) ∧ rng2 (0) 100 (V 3) ∧ rng2 (0) 6 (V 9) ∧ OB κ 2 (O 0) ∧ OB κ 11 (O 1) ∧ OB κ 6 (O 2) ∧ RA κ ln (G 200) (P 201) (P 202) ∧ RB κ ln (G 200) (G 203) (P 202) (V 1) ∧ RI (P 202) ∧ RM ln 40 (P 103) (P 202) ∧ RM ln 40 (P 104) (P 202) ∧ RM ln 40 (P 108) (P 202) ∧ LN κ ln ∧ FL wd (G 203) (V 3) ∧ W0 wd (P 0) ∧ KC κ cnt ∧ κ wd = 11 := (And.right (And.right (And.right (And.right (And.right (And.right (And.right (CInv_t35 h))))))))
set_option maxRecDepth 100000 in
theorem CInv_t49 {κ : Nat → Nat} {wd : Nat} {G : Nat → Nat → Int32} {P : Nat → Nat → Option Nat} {V : Nat → Nat → Nat → Int32} {O : Nat → Nat → Nat → Option Nat} {ln : Nat → Nat} {cnt : Nat} (h : CInv κ wd G P V O ln cnt) : PB κ ln wd 6 110 40 40 0 (P 106) ∧ PB κ ln wd 6 11 0 2500 1 (P 108) ∧ PB κ ln wd 6 111 40 40 0 (P 109) ∧ PB κ ln wd 6 200 40 40 0 (P 110) ∧ PB κ ln wd 7 100 2500 2500 0 (P 120) ∧ PB κ ln wd 7 100 2500 2500 0 (P 121) ∧ PB κ ln wd 7 106 5 5 0 (P 122) ∧ PB κ ln wd 7 106 5 5 0 (P 123) ∧ PB κ ln wd 8 100 2000 2000 0 (P 140) ∧ PB κ ln wd 9 100 0 2000 0 (P 164) ∧ PB κ ln wd 10 4 0 2500 0 (P 180) ∧ PB κ ln wd 10 100 40 40 0 (P 181) ∧ PB κ ln wd 10 100 40 40 0 (P 182) ∧ PB κ ln wd 10 100 24 24 0 (P 185) ∧ PB κ ln wd 10 11 0 2500 1 (P 186) ∧ PB κ ln wd 10 11 0 2500 1 (P 187) ∧ PB κ ln wd 11 100 0 2400 0 (P 201) ∧ PB κ ln wd 11 101 0 100 0 (P 202) ∧ PB κ ln wd 12 8 0 2500 0 (P 220) ∧ PB κ ln wd 12 302 6 6 0 (P 221) ∧ PB κ ln wd 12 6 0 2500 0 (P 224) ∧ PB κ ln wd 12 5 0 2500 0 (P 225) ∧ PB κ ln wd 12 10 0 2500 0 (P 226) ∧ PB κ ln wd 12 11 0 2500 1 (P 227) ∧ PB κ ln wd 12 4 0 2500 0 (P 228) ∧ PB κ ln wd 12 1 0 2500 0 (P 229) ∧ PB κ ln wd 12 104 100 100 0 (P 230) ∧ PB κ ln wd 12 105 200 200 0 (P 232) ∧ PB κ ln wd 12 9 0 2500 0 (P 234) ∧ PB κ ln wd 12 7 0 2500 0 (P 235) ∧ PB κ ln wd 12 3 0 2500 0 (P 236) ∧ rng2 (0) 24 (V 1) ∧ rng2 (0) 24 (V 2) ∧ rng2 (0) 100 (V 3) ∧ rng2 (0) 6 (V 9) ∧ OB κ 2 (O 0) ∧ OB κ 11 (O 1) ∧ OB κ 6 (O 2) ∧ RA κ ln (G 200) (P 201) (P 202) ∧ RB κ ln (G 200) (G 203) (P 202) (V 1) ∧ RI (P 202) ∧ RM ln 40 (P 103) (P 202) ∧ RM ln 40 (P 104) (P 202) ∧ RM ln 40 (P 108) (P 202) ∧ LN κ ln ∧ FL wd (G 203) (V 3) ∧ W0 wd (P 0) ∧ KC κ cnt ∧ κ wd = 11 := (And.right (And.right (And.right (And.right (And.right (And.right (And.right (CInv_t42 h))))))))
set_option maxRecDepth 100000 in
theorem CInv_t56 {κ : Nat → Nat} {wd : Nat} {G : Nat → Nat → Int32} {P : Nat → Nat → Option Nat} {V : Nat → Nat → Nat → Int32} {O : Nat → Nat → Nat → Option Nat} {ln : Nat → Nat} {cnt : Nat} (h : CInv κ wd G P V O ln cnt) : PB κ ln wd 7 106 5 5 0 (P 123) ∧ PB κ ln wd 8 100 2000 2000 0 (P 140) ∧ PB κ ln wd 9 100 0 2000 0 (P 164) ∧ PB κ ln wd 10 4 0 2500 0 (P 180) ∧ PB κ ln wd 10 100 40 40 0 (P 181) ∧ PB κ ln wd 10 100 40 40 0 (P 182) ∧ PB κ ln wd 10 100 24 24 0 (P 185) ∧ PB κ ln wd 10 11 0 2500 1 (P 186) ∧ PB κ ln wd 10 11 0 2500 1 (P 187) ∧ PB κ ln wd 11 100 0 2400 0 (P 201) ∧ PB κ ln wd 11 101 0 100 0 (P 202) ∧ PB κ ln wd 12 8 0 2500 0 (P 220) ∧ PB κ ln wd 12 302 6 6 0 (P 221) ∧ PB κ ln wd 12 6 0 2500 0 (P 224) ∧ PB κ ln wd 12 5 0 2500 0 (P 225) ∧ PB κ ln wd 12 10 0 2500 0 (P 226) ∧ PB κ ln wd 12 11 0 2500 1 (P 227) ∧ PB κ ln wd 12 4 0 2500 0 (P 228) ∧ PB κ ln wd 12 1 0 2500 0 (P 229) ∧ PB κ ln wd 12 104 100 100 0 (P 230) ∧ PB κ ln wd 12 105 200 200 0 (P 232) ∧ PB κ ln wd 12 9 0 2500 0 (P 234) ∧ PB κ ln wd 12 7 0 2500 0 (P 235) ∧ PB κ ln wd 12 3 0 2500 0 (P 236) ∧ rng2 (0) 24 (V 1) ∧ rng2 (0) 24 (V 2) ∧ rng2 (0) 100 (V 3) ∧ rng2 (0) 6 (V 9) ∧ OB κ 2 (O 0) ∧ OB κ 11 (O 1) ∧ OB κ 6 (O 2) ∧ RA κ ln (G 200) (P 201) (P 202) ∧ RB κ ln (G 200) (G 203) (P 202) (V 1) ∧ RI (P 202) ∧ RM ln 40 (P 103) (P 202) ∧ RM ln 40 (P 104) (P 202) ∧ RM ln 40 (P 108) (P 202) ∧ LN κ ln ∧ FL wd (G 203) (V 3) ∧ W0 wd (P 0) ∧ KC κ cnt ∧ κ wd = 11 := (And.right (And.right (And.right (And.right (And.right (And.right (And.right (CInv_t49 h))))))))
set_option maxRecDepth 100000 in
theorem CInv_t63 {κ : Nat → Nat} {wd : Nat} {G : Nat → Nat → Int32} {P : Nat → Nat → Option Nat} {V : Nat → Nat → Nat → Int32} {O : Nat → Nat → Nat → Option Nat} {ln : Nat → Nat} {cnt : Nat} (h : CInv κ wd G P V O ln cnt) : PB κ ln wd 10 11 0 2500 1 (P 186) ∧ PB κ ln wd 10 11 0 2500 1 (P 187) ∧ PB κ ln wd 11 100 0 2400 0 (P 201) ∧ PB κ ln wd 11 101 0 100 0 (P 202) ∧ PB κ ln wd 12 8 0 2500 0 (P 220) ∧ PB κ ln wd 12 302 6 6 0 (P 221) ∧ PB κ ln wd 12 6 0 2500 0 (P 224) ∧ PB κ ln wd 12 5 0 2500 0 (P 225) ∧ PB κ ln wd 12 10 0 2500 0 (P 226) ∧ PB κ ln wd 12 11 0 2500 1 (P 227) ∧ PB κ ln wd 12 4 0 2500 0 (P 228) ∧ PB κ ln wd 12 1 0 2500 0 (P 229) ∧ PB κ ln wd 12 104 100 100 0 (P 230) ∧ PB κ ln wd 12 105 200 200 0 (P 232) ∧ PB κ ln wd 12 9 0 2500 0 (P 234) ∧ PB κ ln wd 12 7 0 2500 0 (P 235) ∧ PB κ ln wd 12 3 0 2500 0 (P 236) ∧ rng2 (0) 24 (V 1) ∧ rng2 (0) 24 (V 2) ∧ rng2 (0) 100 (V 3) ∧ rng2 (0) 6 (V 9) ∧ OB κ 2 (O 0) ∧ OB κ 11 (O 1) ∧ OB κ 6 (O 2) ∧ RA κ ln (G 200) (P 201) (P 202) ∧ RB κ ln (G 200) (G 203) (P 202) (V 1) ∧ RI (P 202) ∧ RM ln 40 (P 103) (P 202) ∧ RM ln 40 (P 104) (P 202) ∧ RM ln 40 (P 108) (P 202) ∧ LN κ ln ∧ FL wd (G 203) (V 3) ∧ W0 wd (P 0) ∧ KC κ cnt ∧ κ wd = 11 := (And.right (And.right (And.right (And.right (And.right (And.right (And.right (CInv_t56 h))))))))
set_option maxRecDepth 100000 in
theorem CInv_t70 {κ : Nat → Nat} {wd : Nat} {G : Nat → Nat → Int32} {P : Nat → Nat → Option Nat} {V : Nat → Nat → Nat → Int32} {O : Nat → Nat → Nat → Option Nat} {ln : Nat → Nat} {cnt : Nat} (h : CInv κ wd G P V O ln cnt) : PB κ ln wd 12 5 0 2500 0 (P 225) ∧ PB κ ln wd 12 10 0 2500 0 (P 226) ∧ PB κ ln wd 12 11 0 2500 1 (P 227) ∧ PB κ ln wd 12 4 0 2500 0 (P 228) ∧ PB κ ln wd 12 1 0 2500 0 (P 229) ∧ PB κ ln wd 12 104 100 100 0 (P 230) ∧ PB κ ln wd 12 105 200 200 0 (P 232) ∧ PB κ ln wd 12 9 0 2500 0 (P 234) ∧ PB κ ln wd 12 7 0 2500 0 (P 235) ∧ PB κ ln wd 12 3 0 2500 0 (P 236) ∧ rng2 (0) 24 (V 1) ∧ rng2 (0) 24 (V 2) ∧ rng2 (0) 100 (V 3) ∧ rng2 (0) 6 (V 9) ∧ OB κ 2 (O 0) ∧ OB κ 11 (O 1) ∧ OB κ 6 (O 2) ∧ RA κ ln (G 200) (P 201) (P 202) ∧ RB κ ln (G 200) (G 203) (P 202) (V 1) ∧ RI (P 202) ∧ RM ln 40 (P 103) (P 202) ∧ RM ln 40 (P 104) (P 202) ∧ RM ln 40 (P 108) (P 202) ∧ LN κ ln ∧ FL wd (G 203) (V 3) ∧ W0 wd (P 0) ∧ KC κ cnt ∧ κ wd = 11 := (And.right (And.right (And.right (And.right (And.right (And.right (And.right (CInv_t63 h))))))))
set_option maxRecDepth 100000 in
theorem CInv_t77 {κ : Nat → Nat} {wd : Nat} {G : Nat → Nat → Int32} {P : Nat → Nat → Option Nat} {V : Nat → Nat → Nat → Int32} {O : Nat → Nat → Nat → Option Nat} {ln : Nat → Nat} {cnt : Nat} (h : CInv κ wd G P V O ln cnt) : PB κ ln wd 12 9 0 2500 0 (P 234) ∧ PB κ ln wd 12 7 0 2500 0 (P 235) ∧ PB κ ln wd 12 3 0 2500 0 (P 236) ∧ rng2 (0) 24 (V 1) ∧ rng2 (0) 24 (V 2) ∧ rng2 (0) 100 (V 3) ∧ rng2 (0) 6 (V 9) ∧ OB κ 2 (O 0) ∧ OB κ 11 (O 1) ∧ OB κ 6 (O 2) ∧ RA κ ln (G 200) (P 201) (P 202) ∧ RB κ ln (G 200) (G 203) (P 202) (V 1) ∧ RI (P 202) ∧ RM ln 40 (P 103) (P 202) ∧ RM ln 40 (P 104) (P 202) ∧ RM ln 40 (P 108) (P 202) ∧ LN κ ln ∧ FL wd (G 203) (V 3) ∧ W0 wd (P 0) ∧ KC κ cnt ∧ κ wd = 11 := (And.right (And.right (And.right (And.right (And.right (And.right (And.right (CInv_t70 h))))))))
set_option maxRecDepth 100000 in
theorem CInv_t84 {κ : Nat → Nat} {wd : Nat} {G : Nat → Nat → Int32} {P : Nat → Nat → Option Nat} {V : Nat → Nat → Nat → Int32} {O : Nat → Nat → Nat → Option Nat} {ln : Nat → Nat} {cnt : Nat} (h : CInv κ wd G P V O ln cnt) : OB κ 2 (O 0) ∧ OB κ 11 (O 1) ∧ OB κ 6 (O 2) ∧ RA κ ln (G 200) (P 201) (P 202) ∧ RB κ ln (G 200) (G 203) (P 202) (V 1) ∧ RI (P 202) ∧ RM ln 40 (P 103) (P 202) ∧ RM ln 40 (P 104) (P 202) ∧ RM ln 40 (P 108) (P 202) ∧ LN κ ln ∧ FL wd (G 203) (V 3) ∧ W0 wd (P 0) ∧ KC κ cnt ∧ κ wd = 11 := (And.right (And.right (And.right (And.right (And.right (And.right (And.right (CInv_t77 h))))))))
set_option maxRecDepth 100000 in
theorem CInv_t91 {κ : Nat → Nat} {wd : Nat} {G : Nat → Nat → Int32} {P : Nat → Nat → Option Nat} {V : Nat → Nat → Nat → Int32} {O : Nat → Nat → Nat → Option Nat} {ln : Nat → Nat} {cnt : Nat} (h : CInv κ wd G P V O ln cnt) : RM ln 40 (P 104) (P 202) ∧ RM ln 40 (P 108) (P 202) ∧ LN κ ln ∧ FL wd (G 203) (V 3) ∧ W0 wd (P 0) ∧ KC κ cnt ∧ κ wd = 11 := (And.right (And.right (And.right (And.right (And.right (And.right (And.right (CInv_t84 h))))))))
set_option maxRecDepth 100000 in
theorem CInv_G43 {κ : Nat → Nat} {wd : Nat} {G : Nat → Nat → Int32} {P : Nat → Nat → Option Nat} {V : Nat → Nat → Nat → Int32} {O : Nat → Nat → Nat → Option Nat} {ln : Nat → Nat} {cnt : Nat} (h : CInv κ wd G P V O ln cnt) : rng (0) 40 (G 43) := And.left h
set_option maxRecDepth 100000 in
theorem CInv_G44 {κ : Nat → Nat} {wd : Nat} {G : Nat → Nat → Int32} {P : Nat → Nat → Option Nat} {V : Nat → Nat → Nat → Int32} {O : Nat → Nat → Nat → Option Nat} {ln : Nat → Nat} {cnt : Nat} (h : CInv κ wd G P V O ln cnt) : rng (0) 40 (G 44) := And.left (And.right h)
set_option maxRecDepth 100000 in
theorem CInv_G45 {κ : Nat → Nat} {wd : Nat} {G : Nat → Nat → Int32} {P : Nat → Nat → Option Nat} {V : Nat → Nat → Nat → Int32} {O : Nat → Nat → Nat → Option Nat} {ln : Nat → Nat} {cnt : Nat} (h : CInv κ wd G P V O ln cnt) : rng (0) 7 (G 45) := And.left (And.right (And.right h))
set_option maxRecDepth 100000 in
theorem CInv_G60 {κ : Nat → Nat} {wd : Nat} {G : Nat → Nat → Int32} {P : Nat → Nat → Option Nat} {V : Nat → Nat → Nat → Int32} {O : Nat → Nat → Nat → Option Nat} {ln : Nat → Nat} {cnt : Nat} (h : CInv κ wd G P V O ln cnt) : rng (0) 30 (G 60) := And.left (And.right (And.right (And.right h)))
set_option maxRecDepth 100000 in
theorem CInv_G83 {κ : Nat → Nat} {wd : Nat} {G : Nat → Nat → Int32} {P : Nat → Nat → Option Nat} {V : Nat → Nat → Nat → Int32} {O : Nat → Nat → Nat → Option Nat} {ln : Nat → Nat} {cnt : Nat} (h : CInv κ wd G P V O ln cnt) : rng (0) 2000 (G 83) := And.left (And.right (And.right (And.right (And.right h))))
set_option maxRecDepth 100000 in
theorem CInv_G84 {κ : Nat → Nat} {wd : Nat} {G : Nat → Nat → Int32} {P : Nat → Nat → Option Nat} {V : Nat → Nat → Nat → Int32} {O : Nat → Nat → Nat → Option Nat} {ln : Nat → Nat} {cnt : Nat} (h : CInv κ wd G P V O ln cnt) : rng (0) 2001 (G 84) := And.left (And.right (And.right (And.right (And.right (And.right h)))))
set_option maxRecDepth 100000 in
theorem CInv_G85 {κ : Nat → Nat} {wd : Nat} {G : Nat → Nat → Int32} {P : Nat → Nat → Option Nat} {V : Nat → Nat → Nat → Int32} {O : Nat → Nat → Nat → Option Nat} {ln : Nat → Nat} {cnt : Nat} (h : CInv κ wd G P V O ln cnt) : rng (0) 4 (G 85) := And.left (And.right (And.right (And.right (And.right (And.right (And.right h))))))
set_option maxRecDepth 100000 in
theorem CInv_G87 {κ : Nat → Nat} {wd : Nat} {G : Nat → Nat → Int32} {P : Nat → Nat → Option Nat} {V : Nat → Nat → Nat → Int32} {O : Nat → Nat → Nat → Option Nat} {ln : Nat → Nat} {cnt : Nat} (h : CInv κ wd G P V O ln cnt) : rng (0) 2001 (G 87) := And.left (CInv_t7 h)
set_option maxRecDepth 100000 in
theorem CInv_G88 {κ : Nat → Nat} {wd : Nat} {G : Nat → Nat → Int32} {P : Nat → Nat → Option Nat} {V : Nat → Nat → Nat → Int32} {O : Nat → Nat → Nat → Option Nat} {ln : Nat → Nat} {cnt : Nat} (h : CInv κ wd G P V O ln cnt) : rng (0) 2000 (G 88) := And.left (And.right (CInv_t7 h))
set_option maxRecDepth 100000 in
theorem CInv_G102 {κ : Nat → Nat} {wd : Nat} {G : Nat → Nat → Int32} {P : Nat → Nat → Option Nat} {V : Nat → Nat → Nat → Int32} {O : Nat → Nat → Nat → Option Nat} {ln : Nat → Nat} {cnt : Nat} (h : CInv κ wd G P V O ln cnt) : rng (0) 40 (G 102) := And.left (And.right (And.right (CInv_t7 h)))
set_option maxRecDepth 100000 in
theorem CInv_G125 {κ : Nat → Nat} {wd : Nat} {G : Nat → Nat → Int32} {P : Nat → Nat → Option Nat} {V : Nat → Nat → Nat → Int32} {O : Nat → Nat → Nat → Option Nat} {ln : Nat → Nat} {cnt : Nat} (h : CInv κ wd G P V O ln cnt) : rng (0) 2500 (G 125) := And.left (And.right (And.right (And.right (CInv_t7 h))))
set_option maxRecDepth 100000 in
theorem CInv_G126 {κ : Nat → Nat} {wd : Nat} {G : Nat → Nat → Int32} {P : Nat → Nat → Option Nat} {V : Nat → Nat → Nat → Int32} {O : Nat → Nat → Nat → Option Nat} {ln : Nat → Nat} {cnt : Nat} (h : CInv κ wd G P V O ln cnt) : rng (0) 2500 (G 126) := And.left (And.right (And.right (And.right (And.right (CInv_t7 h)))))
set_option maxRecDepth 100000 in
theorem CInv_G127 {κ : Nat → Nat} {wd : Nat} {G : Nat → Nat → Int32} {P : Nat → Nat → Option Nat} {V : Nat → Nat → Nat → Int32} {O : Nat → Nat → Nat → Option Nat} {ln : Nat → Nat} {cnt : Nat} (h : CInv κ wd G P V O ln cnt) : rng (0) 2000 (G 127) := And.left (And.right (And.right (And.right (And.right (And.right (CInv_t7 h))))))
set_option maxRecDepth 100000 in
theorem CInv_G141 {κ : Nat → Nat} {wd : Nat} {G : Nat → Nat → Int32} {P : Nat → Nat → Option Nat} {V : Nat → Nat → Nat → Int32} {O : Nat → Nat → Nat → Option Nat} {ln : Nat → Nat} {cnt : Nat} (h : CInv κ wd G P V O ln cnt) : rng (0) 2000 (G 141) := And.left (And.right (And.right (And.right (And.right (And.right (And.right (CInv_t7 h)))))))
set_option maxRecDepth 100000 in
theorem CInv_G160 {κ : Nat → Nat} {wd : Nat} {G : Nat → Nat → Int32} {P : Nat → Nat → Option Nat} {V : Nat → Nat → Nat → Int32} {O : Nat → Nat → Nat → Option Nat} {ln : Nat → Nat} {cnt : Nat} (h : CInv κ wd G P V O ln cnt) : rng (0) 2000 (G 160) := And.left (CInv_t14 h)
set_option maxRecDepth 100000 in
theorem CInv_G161 {κ : Nat → Nat} {wd : Nat} {G : Nat → Nat → Int32} {P : Nat → Nat → Option Nat} {V : Nat → Nat → Nat → Int32} {O : Nat → Nat → Nat → Option Nat} {ln : Nat → Nat} {cnt : Nat} (h : CInv κ wd G P V O ln cnt) : rng (0) 2000 (G 161) := And.left (And.right (CInv_t14 h))
set_option maxRecDepth 100000 in
theorem CInv_G162 {κ : Nat → Nat} {wd : Nat} {G : Nat → Nat → Int32} {P : Nat → Nat → Option Nat} {V : Nat → Nat → Nat → Int32} {O : Nat → Nat → Nat → Option Nat} {ln : Nat → Nat} {cnt : Nat} (h : CInv κ wd G P V O ln cnt) : rng (0) 2000 (G 162) := And.left (And.right (And.right (CInv_t14 h)))
set_option maxRecDepth 100000 in
theorem CInv_G165 {κ : Nat → Nat} {wd : Nat} {G : Nat → Nat → Int32} {P : Nat → Nat → Option Nat} {V : Nat → Nat → Nat → Int32} {O : Nat → Nat → Nat → Option Nat} {ln : Nat → Nat} {cnt : Nat} (h : CInv κ wd G P V O ln cnt) : rng (0) 2000 (G 165) := And.left (And.right (And.right (And.right (CInv_t14 h))))
set_option maxRecDepth 100000 in
theorem CInv_G166 {κ : Nat → Nat} {wd : Nat} {G : Nat → Nat → Int32} {P : Nat → Nat → Option Nat} {V : Nat → Nat → Nat → Int32} {O : Nat → Nat → Nat → Option Nat} {ln : Nat → Nat} {cnt : Nat} (h : CInv κ wd G P V O ln cnt) : rng (0) 2000 (G 166) := And.left (And.right (And.right (And.right (And.right (CInv_t14 h)))))
set_option maxRecDepth 100000 in
theorem CInv_G183 {κ : Nat → Nat} {wd : Nat} {G : Nat → Nat → Int32} {P : Nat → Nat → Option Nat} {V : Nat → Nat → Nat → Int32} {O : Nat → Nat → Nat → Option Nat} {ln : Nat → Nat} {cnt : Nat} (h : CInv κ wd G P V O ln cnt) : rng (0) 40 (G 183) := And.left (And.right (And.right (And.right (And.right (And.right (CInv_t14 h))))))
set_option maxRecDepth 100000 in
theorem CInv_G200 {κ : Nat → Nat} {wd : Nat} {G : Nat → Nat → Int32} {P : Nat → Nat → Option Nat} {V : Nat → Nat → Nat → Int32} {O : Nat → Nat → Nat → Option Nat} {ln : Nat → Nat} {cnt : Nat} (h : CInv κ wd G P V O ln cnt) : rng (0) 24 (G 200) := And.left (And.right (And.right (And.right (And.right (And.right (And.right (CInv_t14 h)))))))
set_option maxRecDepth 100000 in
theorem CInv_G203 {κ : Nat → Nat} {wd : Nat} {G : Nat → Nat → Int32} {P : Nat → Nat → Option Nat} {V : Nat → Nat → Nat → Int32} {O : Nat → Nat → Nat → Option Nat} {ln : Nat → Nat} {cnt : Nat} (h : CInv κ wd G P V O ln cnt) : rng (0) 100 (G 203) := And.left (CInv_t21 h)
set_option maxRecDepth 100000 in
theorem CInv_G222 {κ : Nat → Nat} {wd : Nat} {G : Nat → Nat → Int32} {P : Nat → Nat → Option Nat} {V : Nat → Nat → Nat → Int32} {O : Nat → Nat → Nat → Option Nat} {ln : Nat → Nat} {cnt : Nat} (h : CInv κ wd G P V O ln cnt) : rng (0) 6 (G 222) := And.left (And.right (CInv_t21 h))
set_option maxRecDepth 100000 in
theorem CInv_G231 {κ : Nat → Nat} {wd : Nat} {G : Nat → Nat → Int32} {P : Nat → Nat → Option Nat} {V : Nat → Nat → Nat → Int32} {O : Nat → Nat → Nat → Option Nat} {ln : Nat → Nat} {cnt : Nat} (h : CInv κ wd G P V O ln cnt) : rng (0) 100 (G 231) := And.left (And.right (And.right (CInv_t21 h)))
set_option maxRecDepth 100000 in
theorem CInv_G233 {κ : Nat → Nat} {wd : Nat} {G : Nat → Nat → Int32} {P : Nat → Nat → Option Nat} {V : Nat → Nat → Nat → Int32} {O : Nat → Nat → Nat → Option Nat} {ln : Nat → Nat} {cnt : Nat} (h : CInv κ wd G P V O ln cnt) : rng (0) 200 (G 233) := And.left (And.right (And.right (And.right (CInv_t21 h))))
set_option maxRecDepth 100000 in
theorem CInv_P0 {κ : Nat → Nat} {wd : Nat} {G : Nat → Nat → Int32} {P : Nat → Nat → Option Nat} {V : Nat → Nat → Nat → Int32} {O : Nat → Nat → Nat → Option Nat} {ln : Nat → Nat} {cnt : Nat} (h : CInv κ wd G P V O ln cnt) : PB κ ln wd 1 11 0 2500 0 (P 0) := And.left (And.right (And.right (And.right (And.right (CInv_t21 h)))))
set_option maxRecDepth 100000 in
theorem CInv_P1 {κ : Nat → Nat} {wd : Nat} {G : Nat → Nat → Int32} {P : Nat → Nat → Option Nat} {V : Nat → Nat → Nat → Int32} {O : Nat → Nat → Nat → Option Nat} {ln : Nat → Nat} {cnt : Nat} (h : CInv κ wd G P V O ln cnt) : PB κ ln wd 1 301 700 700 0 (P 1) := And.left (And.right (And.right (And.right (And.right (And.right (CInv_t21 h))))))
set_option maxRecDepth 100000 in
theorem CInv_P2 {κ : Nat → Nat} {wd : Nat} {G : Nat → Nat → Int32} {P : Nat → Nat → Option Nat} {V : Nat → Nat → Nat → Int32} {O : Nat → Nat → Nat → Option Nat} {ln : Nat → Nat} {cnt : Nat} (h : CInv κ wd G P V O ln cnt) : PB κ ln wd 1 201 600 600 0 (P 2) := And.left (And.right (And.right (And.right (And.right (And.right (And.right (CInv_t21 h)))))))
set_option maxRecDepth 100000 in
theorem CInv_P3 {κ : Nat → Nat} {wd : Nat} {G : Nat → Nat → Int32} {P : Nat → Nat → Option Nat} {V : Nat → Nat → Nat → Int32} {O : Nat → Nat → Nat → Option Nat} {ln : Nat → Nat} {cnt : Nat} (h : CInv κ wd G P V O ln cnt) : PB κ ln wd 1 103 7 7 0 (P 3) := And.left (CInv_t28 h)
set_option maxRecDepth 100000 in
theorem CInv_P4 {κ : Nat → Nat} {wd : Nat} {G : Nat → Nat → Int32} {P : Nat → Nat → Option Nat} {V : Nat → Nat → Nat → Int32} {O : Nat → Nat → Nat → Option Nat} {ln : Nat → Nat} {cnt : Nat} (h : CInv κ wd G P V O ln cnt) : PB κ ln wd 1 11 0 2500 1 (P 4) := And.left (And.right (CInv_t28 h))
set_option maxRecDepth 100000 in
theorem CInv_P5 {κ : Nat → Nat} {wd : Nat} {G : Nat → Nat → Int32} {P : Nat → Nat → Option Nat} {V : Nat → Nat → Nat → Int32} {O : Nat → Nat → Nat → Option Nat} {ln : Nat → Nat} {cnt : Nat} (h : CInv κ wd G P V O ln cnt) : PB κ ln wd 1 11 0 2500 0 (P 5) := And.left (And.right (And.right (CInv_t28 h)))
set_option maxRecDepth 100000 in
theorem CInv_P20 {κ : Nat → Nat} {wd : Nat} {G : Nat → Nat → Int32} {P : Nat → Nat → Option Nat} {V : Nat → Nat → Nat → Int32} {O : Nat → Nat → Nat → Option Nat} {ln : Nat → Nat} {cnt : Nat} (h : CInv κ wd G P V O ln cnt) : PB κ ln wd 2 100 0 16 0 (P 20) := And.left (And.right (And.right (And.right (CInv_t28 h))))
set_option maxRecDepth 100000 in
theorem CInv_P21 {κ : Nat → Nat} {wd : Nat} {G : Nat → Nat → Int32} {P : Nat → Nat → Option Nat} {V : Nat → Nat → Nat → Int32} {O : Nat → Nat → Nat → Option Nat} {ln : Nat → Nat} {cnt : Nat} (h : CInv κ wd G P V O ln cnt) : PB κ ln wd 2 100 0 16 0 (P 21) := And.left (And.right (And.right (And.right (And.right (CInv_t28 h)))))
set_option maxRecDepth 100000 in
theorem CInv_P22 {κ : Nat → Nat} {wd : Nat} {G : Nat → Nat → Int32} {P : Nat → Nat → Option Nat} {V : Nat → Nat → Nat → Int32} {O : Nat → Nat → Nat → Option Nat} {ln : Nat → Nat} {cnt : Nat} (h : CInv κ wd G P V O ln cnt) : PB κ ln wd 2 100 0 16 0 (P 22) := And.left (And.right (And.right (And.right (And.right (And.right (CInv_t28 h))))))
set_option maxRecDepth 100000 in
theorem CInv_P23 {κ : Nat → Nat} {wd : Nat} {G : Nat → Nat → Int32} {P : Nat → Nat → Option Nat} {V : Nat → Nat → Nat → Int32} {O : Nat → Nat → Nat → Option Nat} {ln : Nat → Nat} {cnt : Nat} (h : CInv κ wd G P V O ln cnt) : PB κ ln wd 2 100 0 16 0 (P 23) := And.left (And.right (And.right (And.right (And.right (And.right (And.right (CInv_t28 h)))))))
set_option maxRecDepth 100000 in
theorem CInv_P40 {κ : Nat → Nat} {wd : Nat} {G : Nat → Nat → Int32} {P : Nat → Nat → Option Nat} {V : Nat → Nat → Nat → Int32} {O : Nat → Nat → Nat → Option Nat} {ln : Nat → Nat} {cnt : Nat} (h : CInv κ wd G P V O ln cnt) : PB κ ln wd 3 107 280 280 0 (P 40) := And.left (CInv_t35 h)
set_option maxRecDepth 100000 in
theorem CInv_P41 {κ : Nat → Nat} {wd : Nat} {G : Nat → Nat → Int32} {P : Nat → Nat → Option Nat} {V : Nat → Nat → Nat → Int32} {O : Nat → Nat → Nat → Option Nat} {ln : Nat → Nat} {cnt : Nat} (h : CInv κ wd G P V O ln cnt) : PB κ ln wd 3 108 280 280 0 (P 41) := And.left (And.right (CInv_t35 h))
set_option maxRecDepth 100000 in
theorem CInv_P42 {κ : Nat → Nat} {wd : Nat} {G : Nat → Nat → Int32} {P : Nat → Nat → Option Nat} {V : Nat → Nat → Nat → Int32} {O : Nat → Nat → Nat → Option Nat} {ln : Nat → Nat} {cnt : Nat} (h : CInv κ wd G P V O ln cnt) : PB κ ln wd 3 109 40 40 0 (P 42) := And.left (And.right (And.right (CInv_t35 h)))
set_option maxRecDepth 100000 in
theorem CInv_P61 {κ : Nat → Nat} {wd : Nat} {G : Nat → Nat → Int32} {P : Nat → Nat → Option Nat} {V : Nat → Nat → Nat → Int32} {O : Nat → Nat → Nat → Option Nat} {ln : Nat → Nat} {cnt : Nat} (h : CInv κ wd G P V O ln cnt) : PB κ ln wd 4 102 30 30 0 (P 61) := And.left (And.right (And.right (And.right (CInv_t35 h))))
set_option maxRecDepth 100000 in
theorem CInv_P62 {κ : Nat → Nat} {wd : Nat} {G : Nat → Nat → Int32} {P : Nat → Nat → Option Nat} {V : Nat → Nat → Nat → Int32} {O : Nat → Nat → Nat → Option Nat} {ln : Nat → Nat} {cnt : Nat} (h : CInv κ wd G P V O ln cnt) : PB κ ln wd 4 100 720 720 0 (P 62) := And.left (And.right (And.right (And.right (And.right (CInv_t35 h)))))
set_option maxRecDepth 100000 in
theorem CInv_P63 {κ : Nat → Nat} {wd : Nat} {G : Nat → Nat → Int32} {P : Nat → Nat → Option Nat} {V : Nat → Nat → Nat → Int32} {O : Nat → Nat → Nat → Option Nat} {ln : Nat → Nat} {cnt : Nat} (h : CInv κ wd G P V O ln cnt) : PB κ ln wd 4 100 408 408 0 (P 63) := And.left (And.right (And.right (And.right (And.right (And.right (CInv_t35 h))))))
set_option maxRecDepth 100000 in
theorem CInv_P64 {κ : Nat → Nat} {wd : Nat} {G : Nat → Nat → Int32} {P : Nat → Nat → Option Nat} {V : Nat → Nat → Nat → Int32} {O : Nat → Nat → Nat → Option Nat} {ln : Nat → Nat} {cnt : Nat} (h : CInv κ wd G P V O ln cnt) : PB κ ln wd 4 112 25 25 0 (P 64) := And.left (And.right (And.right (And.right (And.right (And.right (And.right (CInv_t35 h)))))))
set_option maxRecDepth 100000 in
theorem CInv_P65 {κ : Nat → Nat} {wd : Nat} {G : Nat → Nat → Int32} {P : Nat → Nat → Option Nat} {V : Nat → Nat → Nat → Int32} {O : Nat → Nat → Nat → Option Nat} {ln : Nat → Nat} {cnt : Nat} (h : CInv κ wd G P V O ln cnt) : PB κ ln wd 4 100 24 24 0 (P 65) := And.left (CInv_t42 h)
set_option maxRecDepth 100000 in
theorem CInv_P66 {κ : Nat → Nat} {wd : Nat} {G : Nat → Nat → Int32} {P : Nat → Nat → Option Nat} {V : Nat → Nat → Nat → Int32} {O : Nat → Nat → Nat → Option Nat} {ln : Nat → Nat} {cnt : Nat} (h : CInv κ wd G P V O ln cnt) : PB κ ln wd 4 11 0 2500 0 (P 66) := And.left (And.right (CInv_t42 h))
set_option maxRecDepth 100000 in
theorem CInv_P82 {κ : Nat → Nat} {wd : Nat} {G : Nat → Nat → Int32} {P : Nat → Nat → Option Nat} {V : Nat → Nat → Nat → Int32} {O : Nat → Nat → Nat → Option Nat} {ln : Nat → Nat} {cnt : Nat} (h : CInv κ wd G P V O ln cnt) : PB κ ln wd 5 100 0 2000 0 (P 82) := And.left (And.right (And.right (CInv_t42 h)))
set_option maxRecDepth 100000 in
theorem CInv_P101 {κ : Nat → Nat} {wd : Nat} {G : Nat → Nat → Int32} {P : Nat → Nat → Option Nat} {V : Nat → Nat → Nat → Int32} {O : Nat → Nat → Nat → Option Nat} {ln : Nat → Nat} {cnt : Nat} (h : CInv κ wd G P V O ln cnt) : PB κ ln wd 6 300 40 40 0 (P 101) := And.left (And.right (And.right (And.right (CInv_t42 h))))
set_option maxRecDepth 100000 in
theorem CInv_P103 {κ : Nat → Nat} {wd : Nat} {G : Nat → Nat → Int32} {P : Nat → Nat → Option Nat} {V : Nat → Nat → Nat → Int32} {O : Nat → Nat → Nat → Option Nat} {ln : Nat → Nat} {cnt : Nat} (h : CInv κ wd G P V O ln cnt) : PB κ ln wd 6 11 0 2500 1 (P 103) := And.left (And.right (And.right (And.right (And.right (CInv_t42 h)))))
set_option maxRecDepth 100000 in
theorem CInv_P104 {κ : Nat → Nat} {wd : Nat} {G : Nat → Nat → Int32} {P : Nat → Nat → Option Nat} {V : Nat → Nat → Nat → Int32} {O : Nat → Nat → Nat → Option Nat} {ln : Nat → Nat} {cnt : Nat} (h : CInv κ wd G P V O ln cnt) : PB κ ln wd 6 11 0 2500 1 (P 104) := And.left (And.right (And.right (And.right (And.right (And.right (CInv_t42 h))))))
set_option maxRecDepth 100000 in
theorem CInv_P105 {κ : Nat → Nat} {wd : Nat} {G : Nat → Nat → Int32} {P : Nat → Nat → Option Nat} {V : Nat → Nat → Nat → Int32} {O : Nat → Nat → Nat → Option Nat} {ln : Nat → Nat} {cnt : Nat} (h : CInv κ wd G P V O ln cnt) : PB κ ln wd 6 11 0 2500 1 (P 105) := And.left (And.right (And.right (And.right (And.right (And.right (And.right (CInv_t42 h)))))))
set_option maxRecDepth 100000 in
theorem CInv_P106 {κ : Nat → Nat} {wd : Nat} {G : Nat → Nat → Int32} {P : Nat → Nat → Option Nat} {V : Nat → Nat → Nat → Int32} {O : Nat → Nat → Nat → Option Nat} {ln : Nat → Nat} {cnt : Nat} (h : CInv κ wd G P V O ln cnt) : PB κ ln wd 6 110 40 40 0 (P 106) := And.left (CInv_t49 h)
set_option maxRecDepth 100000 in
theorem CInv_P108 {κ : Nat → Nat} {wd : Nat} {G : Nat → Nat → Int32} {P : Nat → Nat → Option Nat} {V : Nat → Nat → Nat → Int32} {O : Nat → Nat → Nat → Option Nat} {ln : Nat → Nat} {cnt : Nat} (h : CInv κ wd G P V O ln cnt) : PB κ ln wd 6 11 0 2500 1 (P 108) := And.left (And.right (CInv_t49 h))
set_option maxRecDepth 100000 in
theorem CInv_P109 {κ : Nat → Nat} {wd : Nat} {G : Nat → Nat → Int32} {P : Nat → Nat → Option Nat} {V : Nat → Nat → Nat → Int32} {O : Nat → Nat → Nat → Option Nat} {ln : Nat → Nat} {cnt : Nat} (h : CInv κ wd G P V O ln cnt) : PB κ ln wd 6 111 40 40 0 (P 109) := And.left (And.right (And.right (CInv_t49 h)))
set_option maxRecDepth 100000 in
theorem CInv_P110 {κ : Nat → Nat} {wd : Nat} {G : Nat → Nat → Int32} {P : Nat → Nat → Option Nat} {V : Nat → Nat → Nat → Int32} {O : Nat → Nat → Nat → Option Nat} {ln : Nat → Nat} {cnt : Nat} (h : CInv κ wd G P V O ln cnt) : PB κ ln wd 6 200 40 40 0 (P 110) := And.left (And.right (And.right (And.right (CInv_t49 h))))
set_option maxRecDepth 100000 in
theorem CInv_P120 {κ : Nat → Nat} {wd : Nat} {G : Nat → Nat → Int32} {P : Nat → Nat → Option Nat} {V : Nat → Nat → Nat → Int32} {O : Nat → Nat → Nat → Option Nat} {ln : Nat → Nat} {cnt : Nat} (h : CInv κ wd G P V O ln cnt) : PB κ ln wd 7 100 2500 2500 0 (P 120) := And.left (And.right (And.right (And.right (And.right (CInv_t49 h)))))
set_option maxRecDepth 100000 in
theorem CInv_P121 {κ : Nat → Nat} {wd : Nat} {G : Nat → Nat → Int32} {P : Nat → Nat → Option Nat} {V : Nat → Nat → Nat → Int32} {O : Nat → Nat → Nat → Option Nat} {ln : Nat → Nat} {cnt : Nat} (h : CInv κ wd G P V O ln cnt) : PB κ ln wd 7 100 2500 2500 0 (P 121) := And.left (And.right (And.right (And.right (And.right (And.right (CInv_t49 h))))))
set_option maxRecDepth 100000 in
theorem CInv_P122 {κ : Nat → Nat} {wd : Nat} {G : Nat → Nat → Int32} {P : Nat → Nat → Option Nat} {V : Nat → Nat → Nat → Int32} {O : Nat → Nat → Nat → Option Nat} {ln : Nat → Nat} {cnt : Nat} (h : CInv κ wd G P V O ln cnt) : PB κ ln wd 7 106 5 5 0 (P 122) := And.left (And.right (And.right (And.right (And.right (And.right (And.right (CInv_t49 h)))))))
set_option maxRecDepth 100000 in
theorem CInv_P123 {κ : Nat → Nat} {wd : Nat} {G : Nat → Nat → Int32} {P : Nat → Nat → Option Nat} {V : Nat → Nat → Nat → Int32} {O : Nat → Nat → Nat → Option Nat} {ln : Nat → Nat} {cnt : Nat} (h : CInv κ wd G P V O ln cnt) : PB κ ln wd 7 106 5 5 0 (P 123) := And.left (CInv_t56 h)
set_option maxRecDepth 100000 in
theorem CInv_P140 {κ : Nat → Nat} {wd : Nat} {G : Nat → Nat → Int32} {P : Nat → Nat → Option Nat} {V : Nat → Nat → Nat → Int32} {O : Nat → Nat → Nat → Option Nat} {ln : Nat → Nat} {cnt : Nat} (h : CInv κ wd G P V O ln cnt) : PB κ ln wd 8 100 2000 2000 0 (P 140) := And.left (And.right (CInv_t56 h))
set_option maxRecDepth 100000 in
theorem CInv_P164 {κ : Nat → Nat} {wd : Nat} {G : Nat → Nat → Int32} {P : Nat → Nat → Option Nat} {V : Nat → Nat → Nat → Int32} {O : Nat → Nat → Nat → Option Nat} {ln : Nat → Nat} {cnt : Nat} (h : CInv κ wd G P V O ln cnt) : PB κ ln wd 9 100 0 2000 0 (P 164) := And.left (And.right (And.right (CInv_t56 h)))
set_option maxRecDepth 100000 in
theorem CInv_P180 {κ : Nat → Nat} {wd : Nat} {G : Nat → Nat → Int32} {P : Nat → Nat → Option Nat} {V : Nat → Nat → Nat → Int32} {O : Nat → Nat → Nat → Option Nat} {ln : Nat → Nat} {cnt : Nat} (h : CInv κ wd G P V O ln cnt) : PB κ ln wd 10 4 0 2500 0 (P 180) := And.left (And.right (And.right (And.right (CInv_t56 h))))
set_option maxRecDepth 100000 in
theorem CInv_P181 {κ : Nat → Nat} {wd : Nat} {G : Nat → Nat → Int32} {P : Nat → Nat → Option Nat} {V : Nat → Nat → Nat → Int32} {O : Nat → Nat → Nat → Option Nat} {ln : Nat → Nat} {cnt : Nat} (h : CInv κ wd G P V O ln cnt) : PB κ ln wd 10 100 40 40 0 (P 181) := And.left (And.right (And.right (And.right (And.right (CInv_t56 h)))))
set_option maxRecDepth 100000 in
theorem CInv_P182 {κ : Nat → Nat} {wd : Nat} {G : Nat → Nat → Int32} {P : Nat → Nat → Option Nat} {V : Nat → Nat → Nat → Int32} {O : Nat → Nat → Nat → Option Nat} {ln : Nat → Nat} {cnt : Nat} (h : CInv κ wd G P V O ln cnt) : PB κ ln wd 10 100 40 40 0 (P 182) := And.left (And.right (And.right (And.right (And.right (And.right (CInv_t56 h))))))
set_option maxRecDepth 100000 in
theorem CInv_P185 {κ : Nat → Nat} {wd : Nat} {G : Nat → Nat → Int32} {P : Nat → Nat → Option Nat} {V : Nat → Nat → Nat → Int32} {O : Nat → Nat → Nat → Option Nat} {ln : Nat → Nat} {cnt : Nat} (h : CInv κ wd G P V O ln cnt) : PB κ ln wd 10 100 24 24 0 (P 185) := And.left (And.right (And.right (And.right (And.right (And.right (And.right (CInv_t56 h)))))))
set_option maxRecDepth 100000 in
theorem CInv_P186 {κ : Nat → Nat} {wd : Nat} {G : Nat → Nat → Int32} {P : Nat → Nat → Option Nat} {V : Nat → Nat → Nat → Int32} {O : Nat → Nat → Nat → Option Nat} {ln : Nat → Nat} {cnt : Nat} (h : CInv κ wd G P V O ln cnt) : PB κ ln wd 10 11 0 2500 1 (P 186) := And.left (CInv_t63 h)
set_option maxRecDepth 100000 in
theorem CInv_P187 {κ : Nat → Nat} {wd : Nat} {G : Nat → Nat → Int32} {P : Nat → Nat → Option Nat} {V : Nat → Nat → Nat → Int32} {O : Nat → Nat → Nat → Option Nat} {ln : Nat → Nat} {cnt : Nat} (h : CInv κ wd G P V O ln cnt) : PB κ ln wd 10 11 0 2500 1 (P 187) := And.left (And.right (CInv_t63 h))
set_option maxRecDepth 100000 in
theorem CInv_P201 {κ : Nat → Nat} {wd : Nat} {G : Nat → Nat → Int32} {P : Nat → Nat → Option Nat} {V : Nat → Nat → Nat → Int32} {O : Nat → Nat → Nat → Option Nat} {ln : Nat → Nat} {cnt : Nat} (h : CInv κ wd G P V O ln cnt) : PB κ ln wd 11 100 0 2400 0 (P 201) := And.left (And.right (And.right (CInv_t63 h)))
set_option maxRecDepth 100000 in
theorem CInv_P202 {κ : Nat → Nat} {wd : Nat} {G : Nat → Nat → Int32} {P : Nat → Nat → Option Nat} {V : Nat → Nat → Nat → Int32} {O : Nat → Nat → Nat → Option Nat} {ln : Nat → Nat} {cnt : Nat} (h : CInv κ wd G P V O ln cnt) : PB κ ln wd 11 101 0 100 0 (P 202) := And.left (And.right (And.right (And.right (CInv_t63 h))))
set_option maxRecDepth 100000 in
theorem CInv_P220 {κ : Nat → Nat} {wd : Nat} {G : Nat → Nat → Int32} {P : Nat → Nat → Option Nat} {V : Nat → Nat → Nat → Int32} {O : Nat → Nat → Nat → Option Nat} {ln : Nat → Nat} {cnt : Nat} (h : CInv κ wd G P V O ln cnt) : PB κ ln wd 12 8 0 2500 0 (P 220) := And.left (And.right (And.right (And.right (And.right (CInv_t63 h)))))
set_option maxRecDepth 100000 in
theorem CInv_P221 {κ : Nat → Nat} {wd : Nat} {G : Nat → Nat → Int32} {P : Nat → Nat → Option Nat} {V : Nat → Nat → Nat → Int32} {O : Nat → Nat → Nat → Option Nat} {ln : Nat → Nat} {cnt : Nat} (h : CInv κ wd G P V O ln cnt) : PB κ ln wd 12 302 6 6 0 (P 221) := And.left (And.right (And.right (And.right (And.right (And.right (CInv_t63 h))))))
set_option maxRecDepth 100000 in
theorem CInv_P224 {κ : Nat → Nat} {wd : Nat} {G : Nat → Nat → Int32} {P : Nat → Nat → Option Nat} {V : Nat → Nat → Nat → Int32} {O : Nat → Nat → Nat → Option Nat} {ln : Nat → Nat} {cnt : Nat} (h : CInv κ wd G P V O ln cnt) : PB κ ln wd 12 6 0 2500 0 (P 224) := And.left (And.right (And.right (And.right (And.right (And.right (And.right (CInv_t63 h)))))))
set_option maxRecDepth 100000 in
theorem CInv_P225 {κ : Nat → Nat} {wd : Nat} {G : Nat → Nat → Int32} {P : Nat → Nat → Option Nat} {V : Nat → Nat → Nat → Int32} {O : Nat → Nat → Nat → Option Nat} {ln : Nat → Nat} {cnt : Nat} (h : CInv κ wd G P V O ln cnt) : PB κ ln wd 12 5 0 2500 0 (P 225) := And.left (CInv_t70 h)
set_option maxRecDepth 100000 in
theorem CInv_P226 {κ : Nat → Nat} {wd : Nat} {G : Nat → Nat → Int32} {P : Nat → Nat → Option Nat} {V : Nat → Nat → Nat → Int32} {O : Nat → Nat → Nat → Option Nat} {ln : Nat → Nat} {cnt : Nat} (h : CInv κ wd G P V O ln cnt) : PB κ ln wd 12 10 0 2500 0 (P 226) := And.left (And.right (CInv_t70 h))
set_option maxRecDepth 100000 in
theorem CInv_P227 {κ : Nat → Nat} {wd : Nat} {G : Nat → Nat → Int32} {P : Nat → Nat → Option Nat} {V : Nat → Nat → Nat → Int32} {O : Nat → Nat → Nat → Option Nat} {ln : Nat → Nat} {cnt : Nat} (h : CInv κ wd G P V O ln cnt) : PB κ ln wd 12 11 0 2500 1 (P 227) := And.left (And.right (And.right (CInv_t70 h)))
set_option maxRecDepth 100000 in
theorem CInv_P228 {κ : Nat → Nat} {wd : Nat} {G : Nat → Nat → Int32} {P : Nat → Nat → Option Nat} {V : Nat → Nat → Nat → Int32} {O : Nat → Nat → Nat → Option Nat} {ln : Nat → Nat} {cnt : Nat} (h : CInv κ wd G P V O ln cnt) : PB κ ln wd 12 4 0 2500 0 (P 228) := And.left (And.right (And.right (And.right (CInv_t70 h))))
set_option maxRecDepth 100000 in
theorem CInv_P229 {κ : Nat → Nat} {wd : Nat} {G : Nat → Nat → Int32} {P : Nat → Nat → Option Nat} {V : Nat → Nat → Nat → Int32} {O : Nat → Nat → Nat → Option Nat} {ln : Nat → Nat} {cnt : Nat} (h : CInv κ wd G P V O ln cnt) : PB κ ln wd 12 1 0 2500 0 (P 229) := And.left (And.right (And.right (And.right (And.right (CInv_t70 h)))))
set_option maxRecDepth 100000 in
theorem CInv_P230 {κ : Nat → Nat} {wd : Nat} {G : Nat → Nat → Int32} {P : Nat → Nat → Option Nat} {V : Nat → Nat → Nat → Int32} {O : Nat → Nat → Nat → Option Nat} {ln : Nat → Nat} {cnt : Nat} (h : CInv κ wd G P V O ln cnt) : PB κ ln wd 12 104 100 100 0 (P 230) := And.left (And.right (And.right (And.right (And.right (And.right (CInv_t70 h))))))
set_option maxRecDepth 100000 in
theorem CInv_P232 {κ : Nat → Nat} {wd : Nat} {G : Nat → Nat → Int32} {P : Nat → Nat → Option Nat} {V : Nat → Nat → Nat → Int32} {O : Nat → Nat → Nat → Option Nat} {ln : Nat → Nat} {cnt : Nat} (h : CInv κ wd G P V O ln cnt) : PB κ ln wd 12 105 200 200 0 (P 232) := And.left (And.right (And.right (And.right (And.right (And.right (And.right (CInv_t70 h)))))))
set_option maxRecDepth 100000 in
theorem CInv_P234 {κ : Nat → Nat} {wd : Nat} {G : Nat → Nat → Int32} {P : Nat → Nat → Option Nat} {V : Nat → Nat → Nat → Int32} {O : Nat → Nat → Nat → Option Nat} {ln : Nat → Nat} {cnt : Nat} (h : CInv κ wd G P V O ln cnt) : PB κ ln wd 12 9 0 2500 0 (P 234) := And.left (CInv_t77 h)
set_option maxRecDepth 100000 in
theorem CInv_P235 {κ : Nat → Nat} {wd : Nat} {G : Nat → Nat → Int32} {P : Nat → Nat → Option Nat} {V : Nat → Nat → Nat → Int32} {O : Nat → Nat → Nat → Option Nat} {ln : Nat → Nat} {cnt : Nat} (h : CInv κ wd G P V O ln cnt) : PB κ ln wd 12 7 0 2500 0 (P 235) := And.left (And.right (CInv_t77 h))
set_option maxRecDepth 100000 in
theorem CInv_P236 {κ : Nat → Nat} {wd : Nat} {G : Nat → Nat → Int32} {P : Nat → Nat → Option Nat} {V : Nat → Nat → Nat → Int32} {O : Nat → Nat → Nat → Option Nat} {ln : Nat → Nat} {cnt : Nat} (h : CInv κ wd G P V O ln cnt) : PB κ ln wd 12 3 0 2500 0 (P 236) := And.left (And.right (And.right (CInv_t77 h)))
set_option maxRecDepth 100000 in
theorem CInv_V1 {κ : Nat → Nat} {wd : Nat} {G : Nat → Nat → Int32} {P : Nat → Nat → Option Nat} {V : Nat → Nat → Nat → Int32} {O : Nat → Nat → Nat → Option Nat} {ln : Nat → Nat} {cnt : Nat} (h : CInv κ wd G P V O ln cnt) : rng2 (0) 24 (V 1) := And.left (And.right (And.right (And.right (CInv_t77 h))))
set_option maxRecDepth 100000 in
theorem CInv_V2 {κ : Nat → Nat} {wd : Nat} {G : Nat → Nat → Int32} {P : Nat → Nat → Option Nat} {V : Nat → Nat → Nat → Int32} {O : Nat → Nat → Nat → Option Nat} {ln : Nat → Nat} {cnt : Nat} (h : CInv κ wd G P V O ln cnt) : rng2 (0) 24 (V 2) := And.left (And.right (And.right (And.right (And.right (CInv_t77 h)))))
set_option maxRecDepth 100000 in
theorem CInv_V3 {κ : Nat → Nat} {wd : Nat} {G : Nat → Nat → Int32} {P : Nat → Nat → Option Nat} {V : Nat → Nat → Nat → Int32} {O : Nat → Nat → Nat → Option Nat} {ln : Nat → Nat} {cnt : Nat} (h : CInv κ wd G P V O ln cnt) : rng2 (0) 100 (V 3) := And.left (And.right (And.right (And.right (And.right (And.right (CInv_t77 h))))))
set_option maxRecDepth 100000 in
theorem CInv_V9 {κ : Nat → Nat} {wd : Nat} {G : Nat → Nat → Int32} {P : Nat → Nat → Option Nat} {V : Nat → Nat → Nat → Int32} {O : Nat → Nat → Nat → Option Nat} {ln : Nat → Nat} {cnt : Nat} (h : CInv κ wd G P V O ln cnt) : rng2 (0) 6 (V 9) := And.left (And.right (And.right (And.right (And.right (And.right (And.right (CInv_t77 h)))))))
set_option maxRecDepth 100000 in
theorem CInv_O0 {κ : Nat → Nat} {wd : Nat} {G : Nat → Nat → Int32} {P : Nat → Nat → Option Nat} {V : Nat → Nat → Nat → Int32} {O : Nat → Nat → Nat → Option Nat} {ln : Nat → Nat} {cnt : Nat} (h : CInv κ wd G P V O ln cnt) : OB κ 2 (O 0) := And.left (CInv_t84 h)
set_option maxRecDepth 100000 in
theorem CInv_O1 {κ : Nat → Nat} {wd : Nat} {G : Nat → Nat → Int32} {P : Nat → Nat → Option Nat} {V : Nat → Nat → Nat → Int32} {O : Nat → Nat → Nat → Option Nat} {ln : Nat → Nat} {cnt : Nat} (h : CInv κ wd G P V O ln cnt) : OB κ 11 (O 1) := And.left (And.right (CInv_t84 h))
set_option maxRecDepth 100000 in
theorem CInv_O2 {κ : Nat → Nat} {wd : Nat} {G : Nat → Nat → Int32} {P : Nat → Nat → Option Nat} {V : Nat → Nat → Nat → Int32} {O : Nat → Nat → Nat → Option Nat} {ln : Nat → Nat} {cnt : Nat} (h : CInv κ wd G P V O ln cnt) : OB κ 6 (O 2) := And.left (And.right (And.right (CInv_t84 h)))
set_option maxRecDepth 100000 in
theorem CInv_RA {κ : Nat → Nat} {wd : Nat} {G : Nat → Nat → Int32} {P : Nat → Nat → Option Nat} {V : Nat → Nat → Nat → Int32} {O : Nat → Nat → Nat → Option Nat} {ln : Nat → Nat} {cnt : Nat} (h : CInv κ wd G P V O ln cnt) : RA κ ln (G 200) (P 201) (P 202) := And.left (And.right (And.right (And.right (CInv_t84 h))))
set_option maxRecDepth 100000 in
theorem CInv_RB {κ : Nat → Nat} {wd : Nat} {G : Nat → Nat → Int32} {P : Nat → Nat → Option Nat} {V : Nat → Nat → Nat → Int32} {O : Nat → Nat → Nat → Option Nat} {ln : Nat → Nat} {cnt : Nat} (h : CInv κ wd G P V O ln cnt) : RB κ ln (G 200) (G 203) (P 202) (V 1) := And.left (And.right (And.right (And.right (And.right (CInv_t84 h)))))
set_option maxRecDepth 100000 in
theorem CInv_RI {κ : Nat → Nat} {wd : Nat} {G : Nat → Nat → Int32} {P : Nat → Nat → Option Nat} {V : Nat → Nat → Nat → Int32} {O : Nat → Nat → Nat → Option Nat} {ln : Nat → Nat} {cnt : Nat} (h : CInv κ wd G P V O ln cnt) : RI (P 202) := And.left (And.right (And.right (And.right (And.right (And.right (CInv_t84 h))))))
set_option maxRecDepth 100000 in
theorem CInv_RM103 {κ : Nat → Nat} {wd : Nat} {G : Nat → Nat → Int32} {P : Nat → Nat → Option Nat} {V : Nat → Nat → Nat → Int32} {O : Nat → Nat → Nat → Option Nat} {ln : Nat → Nat} {cnt : Nat} (h : CInv κ wd G P V O ln cnt) : RM ln 40 (P 103) (P 202) := And.left (And.right (And.right (And.right (And.right (And.right (And.right (CInv_t84 h)))))))
set_option maxRecDepth 100000 in
theorem CInv_RM104 {κ : Nat → Nat} {wd : Nat} {G : Nat → Nat → Int32} {P : Nat → Nat → Option Nat} {V : Nat → Nat → Nat → Int32} {O : Nat → Nat → Nat → Option Nat} {ln : Nat → Nat} {cnt : Nat} (h : CInv κ wd G P V O ln cnt) : RM ln 40 (P 104) (P 202) := And.left (CInv_t91 h)
set_option maxRecDepth 100000 in
theorem CInv_RM108 {κ : Nat → Nat} {wd : Nat} {G : Nat → Nat → Int32} {P : Nat → Nat → Option Nat} {V : Nat → Nat → Nat → Int32} {O : Nat → Nat → Nat → Option Nat} {ln : Nat → Nat} {cnt : Nat} (h : CInv κ wd G P V O ln cnt) : RM ln 40 (P 108) (P 202) := And.left (And.right (CInv_t91 h))
set_option maxRecDepth 100000 in
theorem CInv_LN {κ : Nat → Nat} {wd : Nat} {G : Nat → Nat → Int32} {P : Nat → Nat → Option Nat} {V : Nat → Nat → Nat → Int32} {O : Nat → Nat → Nat → Option Nat} {ln : Nat → Nat} {cnt : Nat} (h : CInv κ wd G P V O ln cnt) : LN κ ln := And.left (And.right (And.right (CInv_t91 h)))
set_option maxRecDepth 100000 in
theorem CInv_FL {κ : Nat → Nat} {wd : Nat} {G : Nat → Nat → Int32} {P : Nat → Nat → Option Nat} {V : Nat → Nat → Nat → Int32} {O : Nat → Nat → Nat → Option Nat} {ln : Nat → Nat} {cnt : Nat} (h : CInv κ wd G P V O ln cnt) : FL wd (G 203) (V 3) := And.left (And.right (And.right (And.right (CInv_t91 h))))
set_option maxRecDepth 100000 in
theorem CInv_W0 {κ : Nat → Nat} {wd : Nat} {G : Nat → Nat → Int32} {P : Nat → Nat → Option Nat} {V : Nat → Nat → Nat → Int32} {O : Nat → Nat → Nat → Option Nat} {ln : Nat → Nat} {cnt : Nat} (h : CInv κ wd G P V O ln cnt) : W0 wd (P 0) := And.left (And.right (And.right (And.right (And.right (CInv_t91 h)))))
set_option maxRecDepth 100000 in
theorem CInv_KC {κ : Nat → Nat} {wd : Nat} {G : Nat → Nat → Int32} {P : Nat → Nat → Option Nat} {V : Nat → Nat → Nat → Int32} {O : Nat → Nat → Nat → Option Nat} {ln : Nat → Nat} {cnt : Nat} (h : CInv κ wd G P V O ln cnt) : KC κ cnt := And.left (And.right (And.right (And.right (And.right (And.right (CInv_t91 h))))))
set_option maxRecDepth 100000 in
theorem CInv_WK {κ : Nat → Nat} {wd : Nat} {G : Nat → Nat → Int32} {P : Nat → Nat → Option Nat} {V : Nat → Nat → Nat → Int32} {O : Nat → Nat → Nat → Option Nat} {ln : Nat → Nat} {cnt : Nat} (h : CInv κ wd G P V O ln cnt) : κ wd = 11 := (And.right (And.right (And.right (And.right (And.right (And.right (CInv_t91 h)))))))
theorem wp_newc {β : Type} {κ : Nat → Nat} {wd K Ke n : Nat} {G : Nat → Nat → Int32} {P : Nat → Nat → Option Nat} {U : Nat → Nat → Int64} {V : Nat → Nat → Nat → Int32} {X : Nat → Nat → Nat → Int64} {O : Nat → Nat → Nat → Option Nat} {kd ln : Nat → Nat} {cnt : Nat} {f : (Nat → Nat → Int32) → (Nat → Nat → Option Nat) → (Nat → Nat → Int64) → (Nat → Nat → Nat → Int32) → (Nat → Nat → Nat → Int64) → (Nat → Nat → Nat → Option Nat) → (Nat → Nat) → (Nat → Nat) → Nat → Option β} {Q : β → Prop} (hI : CInv κ wd G P V O ln cnt) (hK : Ke = 0 ∨ 100 ≤ Ke) (hn : n ≤ 2500) (h : ∀ (κ1 : Nat → Nat) (G1 : Nat → Nat → Int32) (P1 : Nat → Nat → Option Nat) (U1 : Nat → Nat → Int64) (V1 : Nat → Nat → Nat → Int32) (X1 : Nat → Nat → Nat → Int64) (O1 : Nat → Nat → Nat → Option Nat) (kd1 ln1 : Nat → Nat) (cnt1 : Nat), CInv κ1 wd G1 P1 V1 O1 ln1 cnt1 → cnt1 = cnt + 1 → κ1 cnt = Ke → ln1 cnt = n → EX cnt cnt κ κ1 G G1 P P1 V V1 O O1 ln ln1 → (∀ r k, V1 r cnt k = 0) → (∀ a, P1 202 a ≠ some cnt) → wp (f G1 P1 U1 V1 X1 O1 kd1 ln1 cnt1) Q) : wp (newc K n G P U V X O kd ln cnt f) Q := by
  obtain ⟨hG43, hG44, hG45, hG60, hG83, hG84, hG85, hG87, hG88, hG102, hG125, hG126, hG127, hG141, hG160, hG161, hG162, hG165, hG166, hG183, hG200, hG203, hG222, hG231, hG233, hP0, hP1, hP2, hP3, hP4, hP5, hP20, hP21, hP22, hP23, hP40, hP41, hP42, hP61, hP62, hP63, hP64, hP65, hP66, hP82, hP101, hP103, hP104, hP105, hP106, hP108, hP109, hP110, hP120, hP121, hP122, hP123, hP140, hP164, hP180, hP181, hP182, hP185, hP186, hP187, hP201, hP202, hP220, hP221, hP224, hP225, hP226, hP227, hP228, hP229, hP230, hP232, hP234, hP235, hP236, hV1, hV2, hV3, hV9, hO0, hO1, hO2, hRA, hRB, hRI, hRM103, hRM104, hRM108, hLN, hFL, hW0, hKC, hWK⟩ := hI
  have hwc : wd ≠ cnt := fun q => absurd (hKC cnt (Nat.le_refl _)) (by rw [← q, hWK]; decide)
  have hK11 : Ke ≠ 11 := by omega
  have hKb : ∀ k, 1 ≤ k ∧ k < 100 → Ke ≠ k := fun k hk => by omega
  unfold newc
  refine h (va_up κ cnt Ke) _ _ _ _ _ _ _ _ _ ⟨rng_vup hG43 (by decide +kernel) (by decide +kernel), rng_vup hG44 (by decide +kernel) (by decide +kernel), rng_vup hG45 (by decide +kernel) (by decide +kernel), rng_vup hG60 (by decide +kernel) (by decide +kernel), rng_vup hG83 (by decide +kernel) (by decide +kernel), rng_vup hG84 (by decide +kernel) (by decide +kernel), rng_vup hG85 (by decide +kernel) (by decide +kernel), rng_vup hG87 (by decide +kernel) (by decide +kernel), rng_vup hG88 (by decide +kernel) (by decide +kernel), rng_vup hG102 (by decide +kernel) (by decide +kernel), rng_vup hG125 (by decide +kernel) (by decide +kernel), rng_vup hG126 (by decide +kernel) (by decide +kernel), rng_vup hG127 (by decide +kernel) (by decide +kernel), rng_vup hG141 (by decide +kernel) (by decide +kernel), rng_vup hG160 (by decide +kernel) (by decide +kernel), rng_vup hG161 (by decide +kernel) (by decide +kernel), rng_vup hG162 (by decide +kernel) (by decide +kernel), rng_vup hG165 (by decide +kernel) (by decide +kernel), rng_vup hG166 (by decide +kernel) (by decide +kernel), rng_vup hG183 (by decide +kernel) (by decide +kernel), rng_vup hG200 (by decide +kernel) (by decide +kernel), rng_vup hG203 (by decide +kernel) (by decide +kernel), rng_vup hG222 (by decide +kernel) (by decide +kernel), rng_vup hG231 (by decide +kernel) (by decide +kernel), rng_vup hG233 (by decide +kernel) (by decide +kernel), PB_new hP0 hKC (hKb _ (by decide)) (by decide), PB_new hP1 hKC (hKb _ (by decide)) (by decide), PB_new hP2 hKC (hKb _ (by decide)) (by decide), PB_new hP3 hKC (hKb _ (by decide)) (by decide), PB_new hP4 hKC (hKb _ (by decide)) (by decide), PB_new hP5 hKC (hKb _ (by decide)) (by decide), PB_new hP20 hKC (hKb _ (by decide)) (by decide), PB_new hP21 hKC (hKb _ (by decide)) (by decide), PB_new hP22 hKC (hKb _ (by decide)) (by decide), PB_new hP23 hKC (hKb _ (by decide)) (by decide), PB_new hP40 hKC (hKb _ (by decide)) (by decide), PB_new hP41 hKC (hKb _ (by decide)) (by decide), PB_new hP42 hKC (hKb _ (by decide)) (by decide), PB_new hP61 hKC (hKb _ (by decide)) (by decide), PB_new hP62 hKC (hKb _ (by decide)) (by decide), PB_new hP63 hKC (hKb _ (by decide)) (by decide), PB_new hP64 hKC (hKb _ (by decide)) (by decide), PB_new hP65 hKC (hKb _ (by decide)) (by decide), PB_new hP66 hKC (hKb _ (by decide)) (by decide), PB_new hP82 hKC (hKb _ (by decide)) (by decide), PB_new hP101 hKC (hKb _ (by decide)) (by decide), PB_new hP103 hKC (hKb _ (by decide)) (by decide), PB_new hP104 hKC (hKb _ (by decide)) (by decide), PB_new hP105 hKC (hKb _ (by decide)) (by decide), PB_new hP106 hKC (hKb _ (by decide)) (by decide), PB_new hP108 hKC (hKb _ (by decide)) (by decide), PB_new hP109 hKC (hKb _ (by decide)) (by decide), PB_new hP110 hKC (hKb _ (by decide)) (by decide), PB_new hP120 hKC (hKb _ (by decide)) (by decide), PB_new hP121 hKC (hKb _ (by decide)) (by decide), PB_new hP122 hKC (hKb _ (by decide)) (by decide), PB_new hP123 hKC (hKb _ (by decide)) (by decide), PB_new hP140 hKC (hKb _ (by decide)) (by decide), PB_new hP164 hKC (hKb _ (by decide)) (by decide), PB_new hP180 hKC (hKb _ (by decide)) (by decide), PB_new hP181 hKC (hKb _ (by decide)) (by decide), PB_new hP182 hKC (hKb _ (by decide)) (by decide), PB_new hP185 hKC (hKb _ (by decide)) (by decide), PB_new hP186 hKC (hKb _ (by decide)) (by decide), PB_new hP187 hKC (hKb _ (by decide)) (by decide), PB_new hP201 hKC (hKb _ (by decide)) (by decide), PB_new hP202 hKC (hKb _ (by decide)) (by decide), PB_new hP220 hKC (hKb _ (by decide)) (by decide), PB_new hP221 hKC (hKb _ (by decide)) (by decide), PB_new hP224 hKC (hKb _ (by decide)) (by decide), PB_new hP225 hKC (hKb _ (by decide)) (by decide), PB_new hP226 hKC (hKb _ (by decide)) (by decide), PB_new hP227 hKC (hKb _ (by decide)) (by decide), PB_new hP228 hKC (hKb _ (by decide)) (by decide), PB_new hP229 hKC (hKb _ (by decide)) (by decide), PB_new hP230 hKC (hKb _ (by decide)) (by decide), PB_new hP232 hKC (hKb _ (by decide)) (by decide), PB_new hP234 hKC (hKb _ (by decide)) (by decide), PB_new hP235 hKC (hKb _ (by decide)) (by decide), PB_new hP236 hKC (hKb _ (by decide)) (by decide), rng2_new hV1 (by decide +kernel) (by decide +kernel), rng2_new hV2 (by decide +kernel) (by decide +kernel), rng2_new hV3 (by decide +kernel) (by decide +kernel), rng2_new hV9 (by decide +kernel) (by decide +kernel), OB_new hO0 hKC (by decide), OB_new hO1 hKC (by decide), OB_new hO2 hKC (by decide), RA_new hRA hKC hK11 hP201 (by decide) hP202 (by decide), RB_new hRB hKC hK11 hP202 (by decide), RI_new hRI, RM_new hRM103 hKC hP103 (by decide) hP202 (by decide), RM_new hRM104 hKC hP104 (by decide) hP202 (by decide), RM_new hRM108 hKC hP108 (by decide) hP202 (by decide), LN_new hLN hn, FL_new hFL hwc (hG203 wd).1, W0_new hW0, KC_new hKC, (va_up_ne _ _ hwc).trans hWK⟩ rfl (va_up_self _ _ _) (va_up_self _ _ _) ?_ (fun r k => by rw [va_up_self]) (fun a ha => ?_)
  case refine_2 =>
    by_cases q : a = cnt
    · subst q
      rw [va_up_self] at ha
      cases ha
    · rw [va_up_ne _ _ q] at ha
      exact absurd (((hP202 a).2 cnt ha).1.symm.trans (hKC cnt (Nat.le_refl _))) (by decide)
  intro a ha hae
  exact ⟨va_up_ne _ _ hae, fun _ => va_up_ne _ _ hae, fun _ => va_up_ne _ _ hae, fun _ => va_up_ne _ _ hae, fun _ => va_up_ne _ _ hae, va_up_ne _ _ hae⟩
theorem PB_k {κ ln : Nat → Nat} {wd K k lo hi e c Ke : Nat} {p : Nat → Option Nat} (h : PB κ ln wd K k lo hi e p) (hc : κ c = 0) (hk : k ≠ 0) (hK : Ke = K → p c ≠ none) : PB (va_up κ c Ke) ln wd K k lo hi e p := by
  intro a
  refine ⟨fun ha => ?_, fun b hb => ?_⟩
  · by_cases q : a = c
    · subst q
      rw [va_up_self] at ha
      exact hK ha
    · rw [va_up_ne _ _ q] at ha
      exact (h a).1 ha
  · have h1 := (h a).2 b hb
    rw [va_up_ne _ _ (fun z => hk (by rw [← h1.1, z]; exact hc))]
    exact h1
theorem OB_k {κ : Nat → Nat} {k c Ke : Nat} {o : Nat → Nat → Option Nat} (h : OB κ k o) (hc : κ c = 0) (hk : k ≠ 0) : OB (va_up κ c Ke) k o := by
  intro a i b hb
  have h1 := h a i b hb
  rw [va_up_ne _ _ (fun z => hk (by rw [← h1, z]; exact hc))]
  exact h1
theorem RA_k {κ ln : Nat → Nat} {w : Nat → Int32} {pl ps : Nat → Option Nat} {c Ke : Nat} (h : RA κ ln w pl ps) (hK : Ke = 11 → ∀ l s, pl c = some l → ps c = some s → ((ln l : Nat) : Int) = ((ln s : Nat) : Int) * (w c).toInt) : RA (va_up κ c Ke) ln w pl ps := by
  intro a l s ha hl hs
  by_cases q : a = c
  · subst q
    rw [va_up_self] at ha
    exact hK ha l s hl hs
  · rw [va_up_ne _ _ q] at ha
    exact h a l s ha hl hs
theorem RB_k {κ ln : Nat → Nat} {w x : Nat → Int32} {ps : Nat → Option Nat} {v : Nat → Nat → Int32} {c Ke : Nat} (h : RB κ ln w x ps v) (hK : Ke = 11 → ∀ s, ps c = some s → (x c).toInt ≤ ((ln s : Nat) : Int) ∧ ∀ k, (v s k).toInt ≤ (w c).toInt) : RB (va_up κ c Ke) ln w x ps v := by
  intro a s ha hs
  by_cases q : a = c
  · subst q
    rw [va_up_self] at ha
    exact hK ha s hs
  · rw [va_up_ne _ _ q] at ha
    exact h a s ha hs
theorem LN_k {κ ln : Nat → Nat} {c Ke : Nat} (h : LN κ ln) (hn : ln c ≤ 2500) : LN (va_up κ c Ke) ln := by
  intro a ha
  by_cases q : a = c
  · subst q
    exact hn
  · rw [va_up_ne _ _ q] at ha
    exact h a ha
theorem KC_k {κ : Nat → Nat} {cnt c Ke : Nat} (h : KC κ cnt) (hc : c < cnt) : KC (va_up κ c Ke) cnt := by
  intro a ha
  rw [va_up_ne _ _ (by omega)]
  exact h a ha
theorem cinv_k2 {κ : Nat → Nat} {wd : Nat} {G : Nat → Nat → Int32} {P : Nat → Nat → Option Nat} {V : Nat → Nat → Nat → Int32} {O : Nat → Nat → Nat → Option Nat} {ln : Nat → Nat} {cnt : Nat} {c : Nat} (hI : CInv κ wd G P V O ln cnt) (h0 : κ c = 0) (hlt : c < cnt) (hln : ln c ≤ 2500) (n20 : P 20 c ≠ none) (n21 : P 21 c ≠ none) (n22 : P 22 c ≠ none) (n23 : P 23 c ≠ none) : CInv (va_up κ c 2) wd G P V O ln cnt := by
  obtain ⟨hG43, hG44, hG45, hG60, hG83, hG84, hG85, hG87, hG88, hG102, hG125, hG126, hG127, hG141, hG160, hG161, hG162, hG165, hG166, hG183, hG200, hG203, hG222, hG231, hG233, hP0, hP1, hP2, hP3, hP4, hP5, hP20, hP21, hP22, hP23, hP40, hP41, hP42, hP61, hP62, hP63, hP64, hP65, hP66, hP82, hP101, hP103, hP104, hP105, hP106, hP108, hP109, hP110, hP120, hP121, hP122, hP123, hP140, hP164, hP180, hP181, hP182, hP185, hP186, hP187, hP201, hP202, hP220, hP221, hP224, hP225, hP226, hP227, hP228, hP229, hP230, hP232, hP234, hP235, hP236, hV1, hV2, hV3, hV9, hO0, hO1, hO2, hRA, hRB, hRI, hRM103, hRM104, hRM108, hLN, hFL, hW0, hKC, hWK⟩ := hI
  exact ⟨hG43, hG44, hG45, hG60, hG83, hG84, hG85, hG87, hG88, hG102, hG125, hG126, hG127, hG141, hG160, hG161, hG162, hG165, hG166, hG183, hG200, hG203, hG222, hG231, hG233, PB_k hP0 h0 (by decide) (fun z => absurd z (by decide)), PB_k hP1 h0 (by decide) (fun z => absurd z (by decide)), PB_k hP2 h0 (by decide) (fun z => absurd z (by decide)), PB_k hP3 h0 (by decide) (fun z => absurd z (by decide)), PB_k hP4 h0 (by decide) (fun z => absurd z (by decide)), PB_k hP5 h0 (by decide) (fun z => absurd z (by decide)), PB_k hP20 h0 (by decide) (fun _ => n20), PB_k hP21 h0 (by decide) (fun _ => n21), PB_k hP22 h0 (by decide) (fun _ => n22), PB_k hP23 h0 (by decide) (fun _ => n23), PB_k hP40 h0 (by decide) (fun z => absurd z (by decide)), PB_k hP41 h0 (by decide) (fun z => absurd z (by decide)), PB_k hP42 h0 (by decide) (fun z => absurd z (by decide)), PB_k hP61 h0 (by decide) (fun z => absurd z (by decide)), PB_k hP62 h0 (by decide) (fun z => absurd z (by decide)), PB_k hP63 h0 (by decide) (fun z => absurd z (by decide)), PB_k hP64 h0 (by decide) (fun z => absurd z (by decide)), PB_k hP65 h0 (by decide) (fun z => absurd z (by decide)), PB_k hP66 h0 (by decide) (fun z => absurd z (by decide)), PB_k hP82 h0 (by decide) (fun z => absurd z (by decide)), PB_k hP101 h0 (by decide) (fun z => absurd z (by decide)), PB_k hP103 h0 (by decide) (fun z => absurd z (by decide)), PB_k hP104 h0 (by decide) (fun z => absurd z (by decide)), PB_k hP105 h0 (by decide) (fun z => absurd z (by decide)), PB_k hP106 h0 (by decide) (fun z => absurd z (by decide)), PB_k hP108 h0 (by decide) (fun z => absurd z (by decide)), PB_k hP109 h0 (by decide) (fun z => absurd z (by decide)), PB_k hP110 h0 (by decide) (fun z => absurd z (by decide)), PB_k hP120 h0 (by decide) (fun z => absurd z (by decide)), PB_k hP121 h0 (by decide) (fun z => absurd z (by decide)), PB_k hP122 h0 (by decide) (fun z => absurd z (by decide)), PB_k hP123 h0 (by decide) (fun z => absurd z (by decide)), PB_k hP140 h0 (by decide) (fun z => absurd z (by decide)), PB_k hP164 h0 (by decide) (fun z => absurd z (by decide)), PB_k hP180 h0 (by decide) (fun z => absurd z (by decide)), PB_k hP181 h0 (by decide) (fun z => absurd z (by decide)), PB_k hP182 h0 (by decide) (fun z => absurd z (by decide)), PB_k hP185 h0 (by decide) (fun z => absurd z (by decide)), PB_k hP186 h0 (by decide) (fun z => absurd z (by decide)), PB_k hP187 h0 (by decide) (fun z => absurd z (by decide)), PB_k hP201 h0 (by decide) (fun z => absurd z (by decide)), PB_k hP202 h0 (by decide) (fun z => absurd z (by decide)), PB_k hP220 h0 (by decide) (fun z => absurd z (by decide)), PB_k hP221 h0 (by decide) (fun z => absurd z (by decide)), PB_k hP224 h0 (by decide) (fun z => absurd z (by decide)), PB_k hP225 h0 (by decide) (fun z => absurd z (by decide)), PB_k hP226 h0 (by decide) (fun z => absurd z (by decide)), PB_k hP227 h0 (by decide) (fun z => absurd z (by decide)), PB_k hP228 h0 (by decide) (fun z => absurd z (by decide)), PB_k hP229 h0 (by decide) (fun z => absurd z (by decide)), PB_k hP230 h0 (by decide) (fun z => absurd z (by decide)), PB_k hP232 h0 (by decide) (fun z => absurd z (by decide)), PB_k hP234 h0 (by decide) (fun z => absurd z (by decide)), PB_k hP235 h0 (by decide) (fun z => absurd z (by decide)), PB_k hP236 h0 (by decide) (fun z => absurd z (by decide)), hV1, hV2, hV3, hV9, OB_k hO0 h0 (by decide), OB_k hO1 h0 (by decide), OB_k hO2 h0 (by decide), RA_k hRA (fun z => absurd z (by decide)), RB_k hRB (fun z => absurd z (by decide)), hRI, hRM103, hRM104, hRM108, LN_k hLN hln, hFL, hW0, KC_k hKC hlt, (va_up_ne _ _ (fun z => absurd (show (11 : Nat) = 0 from by rw [← hWK, z]; exact h0) (by decide))).trans hWK⟩
theorem cinv_k6 {κ : Nat → Nat} {wd : Nat} {G : Nat → Nat → Int32} {P : Nat → Nat → Option Nat} {V : Nat → Nat → Nat → Int32} {O : Nat → Nat → Nat → Option Nat} {ln : Nat → Nat} {cnt : Nat} {c : Nat} (hI : CInv κ wd G P V O ln cnt) (h0 : κ c = 0) (hlt : c < cnt) (hln : ln c ≤ 2500) (n101 : P 101 c ≠ none) (n103 : P 103 c ≠ none) (n104 : P 104 c ≠ none) (n105 : P 105 c ≠ none) (n106 : P 106 c ≠ none) (n108 : P 108 c ≠ none) (n109 : P 109 c ≠ none) (n110 : P 110 c ≠ none) : CInv (va_up κ c 6) wd G P V O ln cnt := by
  obtain ⟨hG43, hG44, hG45, hG60, hG83, hG84, hG85, hG87, hG88, hG102, hG125, hG126, hG127, hG141, hG160, hG161, hG162, hG165, hG166, hG183, hG200, hG203, hG222, hG231, hG233, hP0, hP1, hP2, hP3, hP4, hP5, hP20, hP21, hP22, hP23, hP40, hP41, hP42, hP61, hP62, hP63, hP64, hP65, hP66, hP82, hP101, hP103, hP104, hP105, hP106, hP108, hP109, hP110, hP120, hP121, hP122, hP123, hP140, hP164, hP180, hP181, hP182, hP185, hP186, hP187, hP201, hP202, hP220, hP221, hP224, hP225, hP226, hP227, hP228, hP229, hP230, hP232, hP234, hP235, hP236, hV1, hV2, hV3, hV9, hO0, hO1, hO2, hRA, hRB, hRI, hRM103, hRM104, hRM108, hLN, hFL, hW0, hKC, hWK⟩ := hI
  exact ⟨hG43, hG44, hG45, hG60, hG83, hG84, hG85, hG87, hG88, hG102, hG125, hG126, hG127, hG141, hG160, hG161, hG162, hG165, hG166, hG183, hG200, hG203, hG222, hG231, hG233, PB_k hP0 h0 (by decide) (fun z => absurd z (by decide)), PB_k hP1 h0 (by decide) (fun z => absurd z (by decide)), PB_k hP2 h0 (by decide) (fun z => absurd z (by decide)), PB_k hP3 h0 (by decide) (fun z => absurd z (by decide)), PB_k hP4 h0 (by decide) (fun z => absurd z (by decide)), PB_k hP5 h0 (by decide) (fun z => absurd z (by decide)), PB_k hP20 h0 (by decide) (fun z => absurd z (by decide)), PB_k hP21 h0 (by decide) (fun z => absurd z (by decide)), PB_k hP22 h0 (by decide) (fun z => absurd z (by decide)), PB_k hP23 h0 (by decide) (fun z => absurd z (by decide)), PB_k hP40 h0 (by decide) (fun z => absurd z (by decide)), PB_k hP41 h0 (by decide) (fun z => absurd z (by decide)), PB_k hP42 h0 (by decide) (fun z => absurd z (by decide)), PB_k hP61 h0 (by decide) (fun z => absurd z (by decide)), PB_k hP62 h0 (by decide) (fun z => absurd z (by decide)), PB_k hP63 h0 (by decide) (fun z => absurd z (by decide)), PB_k hP64 h0 (by decide) (fun z => absurd z (by decide)), PB_k hP65 h0 (by decide) (fun z => absurd z (by decide)), PB_k hP66 h0 (by decide) (fun z => absurd z (by decide)), PB_k hP82 h0 (by decide) (fun z => absurd z (by decide)), PB_k hP101 h0 (by decide) (fun _ => n101), PB_k hP103 h0 (by decide) (fun _ => n103), PB_k hP104 h0 (by decide) (fun _ => n104), PB_k hP105 h0 (by decide) (fun _ => n105), PB_k hP106 h0 (by decide) (fun _ => n106), PB_k hP108 h0 (by decide) (fun _ => n108), PB_k hP109 h0 (by decide) (fun _ => n109), PB_k hP110 h0 (by decide) (fun _ => n110), PB_k hP120 h0 (by decide) (fun z => absurd z (by decide)), PB_k hP121 h0 (by decide) (fun z => absurd z (by decide)), PB_k hP122 h0 (by decide) (fun z => absurd z (by decide)), PB_k hP123 h0 (by decide) (fun z => absurd z (by decide)), PB_k hP140 h0 (by decide) (fun z => absurd z (by decide)), PB_k hP164 h0 (by decide) (fun z => absurd z (by decide)), PB_k hP180 h0 (by decide) (fun z => absurd z (by decide)), PB_k hP181 h0 (by decide) (fun z => absurd z (by decide)), PB_k hP182 h0 (by decide) (fun z => absurd z (by decide)), PB_k hP185 h0 (by decide) (fun z => absurd z (by decide)), PB_k hP186 h0 (by decide) (fun z => absurd z (by decide)), PB_k hP187 h0 (by decide) (fun z => absurd z (by decide)), PB_k hP201 h0 (by decide) (fun z => absurd z (by decide)), PB_k hP202 h0 (by decide) (fun z => absurd z (by decide)), PB_k hP220 h0 (by decide) (fun z => absurd z (by decide)), PB_k hP221 h0 (by decide) (fun z => absurd z (by decide)), PB_k hP224 h0 (by decide) (fun z => absurd z (by decide)), PB_k hP225 h0 (by decide) (fun z => absurd z (by decide)), PB_k hP226 h0 (by decide) (fun z => absurd z (by decide)), PB_k hP227 h0 (by decide) (fun z => absurd z (by decide)), PB_k hP228 h0 (by decide) (fun z => absurd z (by decide)), PB_k hP229 h0 (by decide) (fun z => absurd z (by decide)), PB_k hP230 h0 (by decide) (fun z => absurd z (by decide)), PB_k hP232 h0 (by decide) (fun z => absurd z (by decide)), PB_k hP234 h0 (by decide) (fun z => absurd z (by decide)), PB_k hP235 h0 (by decide) (fun z => absurd z (by decide)), PB_k hP236 h0 (by decide) (fun z => absurd z (by decide)), hV1, hV2, hV3, hV9, OB_k hO0 h0 (by decide), OB_k hO1 h0 (by decide), OB_k hO2 h0 (by decide), RA_k hRA (fun z => absurd z (by decide)), RB_k hRB (fun z => absurd z (by decide)), hRI, hRM103, hRM104, hRM108, LN_k hLN hln, hFL, hW0, KC_k hKC hlt, (va_up_ne _ _ (fun z => absurd (show (11 : Nat) = 0 from by rw [← hWK, z]; exact h0) (by decide))).trans hWK⟩
theorem cinv_k11 {κ : Nat → Nat} {wd : Nat} {G : Nat → Nat → Int32} {P : Nat → Nat → Option Nat} {V : Nat → Nat → Nat → Int32} {O : Nat → Nat → Nat → Option Nat} {ln : Nat → Nat} {cnt : Nat} {c : Nat} (hI : CInv κ wd G P V O ln cnt) (h0 : κ c = 0) (hlt : c < cnt) (hln : ln c ≤ 2500) (n201 : P 201 c ≠ none) (n202 : P 202 c ≠ none) (q1 : ∀ l s, P 201 c = some l → P 202 c = some s → ((ln l : Nat) : Int) = ((ln s : Nat) : Int) * (G 200 c).toInt) (q2 : ∀ s, P 202 c = some s → (G 203 c).toInt ≤ ((ln s : Nat) : Int) ∧ ∀ k, (V 1 s k).toInt ≤ (G 200 c).toInt) : CInv (va_up κ c 11) wd G P V O ln cnt := by
  obtain ⟨hG43, hG44, hG45, hG60, hG83, hG84, hG85, hG87, hG88, hG102, hG125, hG126, hG127, hG141, hG160, hG161, hG162, hG165, hG166, hG183, hG200, hG203, hG222, hG231, hG233, hP0, hP1, hP2, hP3, hP4, hP5, hP20, hP21, hP22, hP23, hP40, hP41, hP42, hP61, hP62, hP63, hP64, hP65, hP66, hP82, hP101, hP103, hP104, hP105, hP106, hP108, hP109, hP110, hP120, hP121, hP122, hP123, hP140, hP164, hP180, hP181, hP182, hP185, hP186, hP187, hP201, hP202, hP220, hP221, hP224, hP225, hP226, hP227, hP228, hP229, hP230, hP232, hP234, hP235, hP236, hV1, hV2, hV3, hV9, hO0, hO1, hO2, hRA, hRB, hRI, hRM103, hRM104, hRM108, hLN, hFL, hW0, hKC, hWK⟩ := hI
  exact ⟨hG43, hG44, hG45, hG60, hG83, hG84, hG85, hG87, hG88, hG102, hG125, hG126, hG127, hG141, hG160, hG161, hG162, hG165, hG166, hG183, hG200, hG203, hG222, hG231, hG233, PB_k hP0 h0 (by decide) (fun z => absurd z (by decide)), PB_k hP1 h0 (by decide) (fun z => absurd z (by decide)), PB_k hP2 h0 (by decide) (fun z => absurd z (by decide)), PB_k hP3 h0 (by decide) (fun z => absurd z (by decide)), PB_k hP4 h0 (by decide) (fun z => absurd z (by decide)), PB_k hP5 h0 (by decide) (fun z => absurd z (by decide)), PB_k hP20 h0 (by decide) (fun z => absurd z (by decide)), PB_k hP21 h0 (by decide) (fun z => absurd z (by decide)), PB_k hP22 h0 (by decide) (fun z => absurd z (by decide)), PB_k hP23 h0 (by decide) (fun z => absurd z (by decide)), PB_k hP40 h0 (by decide) (fun z => absurd z (by decide)), PB_k hP41 h0 (by decide) (fun z => absurd z (by decide)), PB_k hP42 h0 (by decide) (fun z => absurd z (by decide)), PB_k hP61 h0 (by decide) (fun z => absurd z (by decide)), PB_k hP62 h0 (by decide) (fun z => absurd z (by decide)), PB_k hP63 h0 (by decide) (fun z => absurd z (by decide)), PB_k hP64 h0 (by decide) (fun z => absurd z (by decide)), PB_k hP65 h0 (by decide) (fun z => absurd z (by decide)), PB_k hP66 h0 (by decide) (fun z => absurd z (by decide)), PB_k hP82 h0 (by decide) (fun z => absurd z (by decide)), PB_k hP101 h0 (by decide) (fun z => absurd z (by decide)), PB_k hP103 h0 (by decide) (fun z => absurd z (by decide)), PB_k hP104 h0 (by decide) (fun z => absurd z (by decide)), PB_k hP105 h0 (by decide) (fun z => absurd z (by decide)), PB_k hP106 h0 (by decide) (fun z => absurd z (by decide)), PB_k hP108 h0 (by decide) (fun z => absurd z (by decide)), PB_k hP109 h0 (by decide) (fun z => absurd z (by decide)), PB_k hP110 h0 (by decide) (fun z => absurd z (by decide)), PB_k hP120 h0 (by decide) (fun z => absurd z (by decide)), PB_k hP121 h0 (by decide) (fun z => absurd z (by decide)), PB_k hP122 h0 (by decide) (fun z => absurd z (by decide)), PB_k hP123 h0 (by decide) (fun z => absurd z (by decide)), PB_k hP140 h0 (by decide) (fun z => absurd z (by decide)), PB_k hP164 h0 (by decide) (fun z => absurd z (by decide)), PB_k hP180 h0 (by decide) (fun z => absurd z (by decide)), PB_k hP181 h0 (by decide) (fun z => absurd z (by decide)), PB_k hP182 h0 (by decide) (fun z => absurd z (by decide)), PB_k hP185 h0 (by decide) (fun z => absurd z (by decide)), PB_k hP186 h0 (by decide) (fun z => absurd z (by decide)), PB_k hP187 h0 (by decide) (fun z => absurd z (by decide)), PB_k hP201 h0 (by decide) (fun _ => n201), PB_k hP202 h0 (by decide) (fun _ => n202), PB_k hP220 h0 (by decide) (fun z => absurd z (by decide)), PB_k hP221 h0 (by decide) (fun z => absurd z (by decide)), PB_k hP224 h0 (by decide) (fun z => absurd z (by decide)), PB_k hP225 h0 (by decide) (fun z => absurd z (by decide)), PB_k hP226 h0 (by decide) (fun z => absurd z (by decide)), PB_k hP227 h0 (by decide) (fun z => absurd z (by decide)), PB_k hP228 h0 (by decide) (fun z => absurd z (by decide)), PB_k hP229 h0 (by decide) (fun z => absurd z (by decide)), PB_k hP230 h0 (by decide) (fun z => absurd z (by decide)), PB_k hP232 h0 (by decide) (fun z => absurd z (by decide)), PB_k hP234 h0 (by decide) (fun z => absurd z (by decide)), PB_k hP235 h0 (by decide) (fun z => absurd z (by decide)), PB_k hP236 h0 (by decide) (fun z => absurd z (by decide)), hV1, hV2, hV3, hV9, OB_k hO0 h0 (by decide), OB_k hO1 h0 (by decide), OB_k hO2 h0 (by decide), RA_k hRA (fun _ => q1), RB_k hRB (fun _ => q2), hRI, hRM103, hRM104, hRM108, LN_k hLN hln, hFL, hW0, KC_k hKC hlt, (va_up_ne _ _ (fun z => absurd (show (11 : Nat) = 0 from by rw [← hWK, z]; exact h0) (by decide))).trans hWK⟩
