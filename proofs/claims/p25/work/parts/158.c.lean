theorem pw_jE {α β : Type} {f : α} {b : α → Option β} {Q : β → Prop} (h : ∀ j, j = f → pw (b j) Q) : pw (jn f b) Q := h f rfl
theorem pw_j0 {β : Type} {j f : Unit → Option β} {Q : β → Prop} (e : j = f) (h : pw (f ()) Q) : pw (j ()) Q := by
  rw [e]
  exact h
theorem pwq {α : Type} {m : Option α} {Q : α → Prop} {x : α} (h : pw m Q) (e : m = some x) : Q x := h x e
theorem pw_j1 {α0 β : Type} {j f : α0 → Option β} {Q : β → Prop} {a0 : α0} (e : j = f) (h : ∀ x0, a0 = x0 → pw (f x0) Q) : pw (j a0) Q := by
  rw [e]
  exact h a0 rfl
theorem pw_j2 {α0 α1 β : Type} {j f : α0 → α1 → Option β} {Q : β → Prop} {a0 : α0} {a1 : α1} (e : j = f) (h : ∀ x0, a0 = x0 → ∀ x1, a1 = x1 → pw (f x0 x1) Q) : pw (j a0 a1) Q := by
  rw [e]
  exact h a0 rfl a1 rfl
theorem pw_j3 {α0 α1 α2 β : Type} {j f : α0 → α1 → α2 → Option β} {Q : β → Prop} {a0 : α0} {a1 : α1} {a2 : α2} (e : j = f) (h : ∀ x0, a0 = x0 → ∀ x1, a1 = x1 → ∀ x2, a2 = x2 → pw (f x0 x1 x2) Q) : pw (j a0 a1 a2) Q := by
  rw [e]
  exact h a0 rfl a1 rfl a2 rfl
theorem pw_j4 {α0 α1 α2 α3 β : Type} {j f : α0 → α1 → α2 → α3 → Option β} {Q : β → Prop} {a0 : α0} {a1 : α1} {a2 : α2} {a3 : α3} (e : j = f) (h : ∀ x0, a0 = x0 → ∀ x1, a1 = x1 → ∀ x2, a2 = x2 → ∀ x3, a3 = x3 → pw (f x0 x1 x2 x3) Q) : pw (j a0 a1 a2 a3) Q := by
  rw [e]
  exact h a0 rfl a1 rfl a2 rfl a3 rfl
theorem pw_j5 {α0 α1 α2 α3 α4 β : Type} {j f : α0 → α1 → α2 → α3 → α4 → Option β} {Q : β → Prop} {a0 : α0} {a1 : α1} {a2 : α2} {a3 : α3} {a4 : α4} (e : j = f) (h : ∀ x0, a0 = x0 → ∀ x1, a1 = x1 → ∀ x2, a2 = x2 → ∀ x3, a3 = x3 → ∀ x4, a4 = x4 → pw (f x0 x1 x2 x3 x4) Q) : pw (j a0 a1 a2 a3 a4) Q := by
  rw [e]
  exact h a0 rfl a1 rfl a2 rfl a3 rfl a4 rfl
theorem pw_j7 {α0 α1 α2 α3 α4 α5 α6 β : Type} {j f : α0 → α1 → α2 → α3 → α4 → α5 → α6 → Option β} {Q : β → Prop} {a0 : α0} {a1 : α1} {a2 : α2} {a3 : α3} {a4 : α4} {a5 : α5} {a6 : α6} (e : j = f) (h : ∀ x0, a0 = x0 → ∀ x1, a1 = x1 → ∀ x2, a2 = x2 → ∀ x3, a3 = x3 → ∀ x4, a4 = x4 → ∀ x5, a5 = x5 → ∀ x6, a6 = x6 → pw (f x0 x1 x2 x3 x4 x5 x6) Q) : pw (j a0 a1 a2 a3 a4 a5 a6) Q := by
  rw [e]
  exact h a0 rfl a1 rfl a2 rfl a3 rfl a4 rfl a5 rfl a6 rfl
theorem pw_j8 {α0 α1 α2 α3 α4 α5 α6 α7 β : Type} {j f : α0 → α1 → α2 → α3 → α4 → α5 → α6 → α7 → Option β} {Q : β → Prop} {a0 : α0} {a1 : α1} {a2 : α2} {a3 : α3} {a4 : α4} {a5 : α5} {a6 : α6} {a7 : α7} (e : j = f) (h : ∀ x0, a0 = x0 → ∀ x1, a1 = x1 → ∀ x2, a2 = x2 → ∀ x3, a3 = x3 → ∀ x4, a4 = x4 → ∀ x5, a5 = x5 → ∀ x6, a6 = x6 → ∀ x7, a7 = x7 → pw (f x0 x1 x2 x3 x4 x5 x6 x7) Q) : pw (j a0 a1 a2 a3 a4 a5 a6 a7) Q := by
  rw [e]
  exact h a0 rfl a1 rfl a2 rfl a3 rfl a4 rfl a5 rfl a6 rfl a7 rfl
theorem pw_j9 {α0 α1 α2 α3 α4 α5 α6 α7 α8 β : Type} {j f : α0 → α1 → α2 → α3 → α4 → α5 → α6 → α7 → α8 → Option β} {Q : β → Prop} {a0 : α0} {a1 : α1} {a2 : α2} {a3 : α3} {a4 : α4} {a5 : α5} {a6 : α6} {a7 : α7} {a8 : α8} (e : j = f) (h : ∀ x0, a0 = x0 → ∀ x1, a1 = x1 → ∀ x2, a2 = x2 → ∀ x3, a3 = x3 → ∀ x4, a4 = x4 → ∀ x5, a5 = x5 → ∀ x6, a6 = x6 → ∀ x7, a7 = x7 → ∀ x8, a8 = x8 → pw (f x0 x1 x2 x3 x4 x5 x6 x7 x8) Q) : pw (j a0 a1 a2 a3 a4 a5 a6 a7 a8) Q := by
  rw [e]
  exact h a0 rfl a1 rfl a2 rfl a3 rfl a4 rfl a5 rfl a6 rfl a7 rfl a8 rfl
theorem pw_j10 {α0 α1 α2 α3 α4 α5 α6 α7 α8 α9 β : Type} {j f : α0 → α1 → α2 → α3 → α4 → α5 → α6 → α7 → α8 → α9 → Option β} {Q : β → Prop} {a0 : α0} {a1 : α1} {a2 : α2} {a3 : α3} {a4 : α4} {a5 : α5} {a6 : α6} {a7 : α7} {a8 : α8} {a9 : α9} (e : j = f) (h : ∀ x0, a0 = x0 → ∀ x1, a1 = x1 → ∀ x2, a2 = x2 → ∀ x3, a3 = x3 → ∀ x4, a4 = x4 → ∀ x5, a5 = x5 → ∀ x6, a6 = x6 → ∀ x7, a7 = x7 → ∀ x8, a8 = x8 → ∀ x9, a9 = x9 → pw (f x0 x1 x2 x3 x4 x5 x6 x7 x8 x9) Q) : pw (j a0 a1 a2 a3 a4 a5 a6 a7 a8 a9) Q := by
  rw [e]
  exact h a0 rfl a1 rfl a2 rfl a3 rfl a4 rfl a5 rfl a6 rfl a7 rfl a8 rfl a9 rfl
theorem pw_j12 {α0 α1 α2 α3 α4 α5 α6 α7 α8 α9 α10 α11 β : Type} {j f : α0 → α1 → α2 → α3 → α4 → α5 → α6 → α7 → α8 → α9 → α10 → α11 → Option β} {Q : β → Prop} {a0 : α0} {a1 : α1} {a2 : α2} {a3 : α3} {a4 : α4} {a5 : α5} {a6 : α6} {a7 : α7} {a8 : α8} {a9 : α9} {a10 : α10} {a11 : α11} (e : j = f) (h : ∀ x0, a0 = x0 → ∀ x1, a1 = x1 → ∀ x2, a2 = x2 → ∀ x3, a3 = x3 → ∀ x4, a4 = x4 → ∀ x5, a5 = x5 → ∀ x6, a6 = x6 → ∀ x7, a7 = x7 → ∀ x8, a8 = x8 → ∀ x9, a9 = x9 → ∀ x10, a10 = x10 → ∀ x11, a11 = x11 → pw (f x0 x1 x2 x3 x4 x5 x6 x7 x8 x9 x10 x11) Q) : pw (j a0 a1 a2 a3 a4 a5 a6 a7 a8 a9 a10 a11) Q := by
  rw [e]
  exact h a0 rfl a1 rfl a2 rfl a3 rfl a4 rfl a5 rfl a6 rfl a7 rfl a8 rfl a9 rfl a10 rfl a11 rfl
theorem pw_j13 {α0 α1 α2 α3 α4 α5 α6 α7 α8 α9 α10 α11 α12 β : Type} {j f : α0 → α1 → α2 → α3 → α4 → α5 → α6 → α7 → α8 → α9 → α10 → α11 → α12 → Option β} {Q : β → Prop} {a0 : α0} {a1 : α1} {a2 : α2} {a3 : α3} {a4 : α4} {a5 : α5} {a6 : α6} {a7 : α7} {a8 : α8} {a9 : α9} {a10 : α10} {a11 : α11} {a12 : α12} (e : j = f) (h : ∀ x0, a0 = x0 → ∀ x1, a1 = x1 → ∀ x2, a2 = x2 → ∀ x3, a3 = x3 → ∀ x4, a4 = x4 → ∀ x5, a5 = x5 → ∀ x6, a6 = x6 → ∀ x7, a7 = x7 → ∀ x8, a8 = x8 → ∀ x9, a9 = x9 → ∀ x10, a10 = x10 → ∀ x11, a11 = x11 → ∀ x12, a12 = x12 → pw (f x0 x1 x2 x3 x4 x5 x6 x7 x8 x9 x10 x11 x12) Q) : pw (j a0 a1 a2 a3 a4 a5 a6 a7 a8 a9 a10 a11 a12) Q := by
  rw [e]
  exact h a0 rfl a1 rfl a2 rfl a3 rfl a4 rfl a5 rfl a6 rfl a7 rfl a8 rfl a9 rfl a10 rfl a11 rfl a12 rfl
theorem pw_j14 {α0 α1 α2 α3 α4 α5 α6 α7 α8 α9 α10 α11 α12 α13 β : Type} {j f : α0 → α1 → α2 → α3 → α4 → α5 → α6 → α7 → α8 → α9 → α10 → α11 → α12 → α13 → Option β} {Q : β → Prop} {a0 : α0} {a1 : α1} {a2 : α2} {a3 : α3} {a4 : α4} {a5 : α5} {a6 : α6} {a7 : α7} {a8 : α8} {a9 : α9} {a10 : α10} {a11 : α11} {a12 : α12} {a13 : α13} (e : j = f) (h : ∀ x0, a0 = x0 → ∀ x1, a1 = x1 → ∀ x2, a2 = x2 → ∀ x3, a3 = x3 → ∀ x4, a4 = x4 → ∀ x5, a5 = x5 → ∀ x6, a6 = x6 → ∀ x7, a7 = x7 → ∀ x8, a8 = x8 → ∀ x9, a9 = x9 → ∀ x10, a10 = x10 → ∀ x11, a11 = x11 → ∀ x12, a12 = x12 → ∀ x13, a13 = x13 → pw (f x0 x1 x2 x3 x4 x5 x6 x7 x8 x9 x10 x11 x12 x13) Q) : pw (j a0 a1 a2 a3 a4 a5 a6 a7 a8 a9 a10 a11 a12 a13) Q := by
  rw [e]
  exact h a0 rfl a1 rfl a2 rfl a3 rfl a4 rfl a5 rfl a6 rfl a7 rfl a8 rfl a9 rfl a10 rfl a11 rfl a12 rfl a13 rfl
theorem pw_newd {β : Type} {κ la : Nat → Nat} {wd K Ke n L : Nat} {G : Nat → Nat → Int32} {P : Nat → Nat → Option Nat} {U : Nat → Nat → Int64} {V : Nat → Nat → Nat → Int32} {X : Nat → Nat → Nat → Int64} {O : Nat → Nat → Nat → Option Nat} {kd ln : Nat → Nat} {cnt : Nat} {f : (Nat → Nat → Int32) → (Nat → Nat → Option Nat) → (Nat → Nat → Int64) → (Nat → Nat → Nat → Int32) → (Nat → Nat → Nat → Int64) → (Nat → Nat → Nat → Option Nat) → (Nat → Nat) → (Nat → Nat) → Nat → Option β} {Q : β → Prop} (hI : CInv κ wd G P V O ln cnt) (hK : Ke = 0 ∨ 100 ≤ Ke) (hn : n ≤ 2500) (hB : LB la cnt P) (hL : L < 100000 + 10 * (cnt + 1)) (h : ∀ (κ1 la1 : Nat → Nat) (G1 : Nat → Nat → Int32) (P1 : Nat → Nat → Option Nat) (U1 : Nat → Nat → Int64) (V1 : Nat → Nat → Nat → Int32) (X1 : Nat → Nat → Nat → Int64) (O1 : Nat → Nat → Nat → Option Nat) (kd1 ln1 : Nat → Nat) (cnt1 : Nat), CInv κ1 wd G1 P1 V1 O1 ln1 cnt1 → cnt1 = cnt + 1 → κ1 cnt = Ke → ln1 cnt = n → EX cnt cnt κ κ1 G G1 P P1 V V1 O O1 ln ln1 → (∀ r k, V1 r cnt k = 0) → (∀ a, P1 202 a ≠ some cnt) → LB la1 cnt1 P1 → la1 cnt = L → (∀ z, z < cnt → la1 z = la z) → FRM cnt [] (fun _ => True) U U1 → FRM cnt [] (fun _ => True) X X1 → pw (f G1 P1 U1 V1 X1 O1 kd1 ln1 cnt1) Q) : pw (newc K n G P U V X O kd ln cnt f) Q := by
  intro x hx
  have hw : wp (newc K n G P U V X O kd ln cnt (fun G1 P1 U1 V1 X1 O1 kd1 ln1 cnt1 => some (G1, P1, U1, V1, X1, O1, kd1, ln1, cnt1))) (fun t => ∃ κ1 : Nat → Nat, CInv κ1 wd (t.1) (t.2.1) (t.2.2.2.1) (t.2.2.2.2.2.1) (t.2.2.2.2.2.2.2.1) (t.2.2.2.2.2.2.2.2) ∧ (t.2.2.2.2.2.2.2.2) = cnt + 1 ∧ κ1 cnt = Ke ∧ (t.2.2.2.2.2.2.2.1) cnt = n ∧ EX cnt cnt κ κ1 G (t.1) P (t.2.1) V (t.2.2.2.1) O (t.2.2.2.2.2.1) ln (t.2.2.2.2.2.2.2.1) ∧ (∀ r k, (t.2.2.2.1) r cnt k = 0) ∧ (∀ a, (t.2.1) 202 a ≠ some cnt)) := wp_newc hI hK hn (fun κ1 G1 P1 U1 V1 X1 O1 kd1 ln1 cnt1 a1 a2 a3 a4 a5 a6 a7 => ⟨_, rfl, κ1, a1, a2, a3, a4, a5, a6, a7⟩)
  obtain ⟨t, ht, κ1, a1, a2, a3, a4, a5, a6, a7⟩ := hw
  unfold newc at ht hx
  cases ht
  exact h κ1 (va_up la cnt L) _ _ _ _ _ _ _ _ _ a1 a2 a3 a4 a5 a6 a7 (LB_new hB hL) (va_up_self _ _ _) (fun _ hz => va_up_ne _ _ (Nat.ne_of_lt hz)) FRM_new FRM_new x hx
theorem pw_nne {β : Type} {o : Option Nat} {b : Nat} {f : Nat → Option β} {Q : β → Prop} (h : o = some b) (k : pw (f b) Q) : pw (nn o f) Q := by
  subst h
  exact k
