/-! frames by labels: whatever the pure functions answer -/
def pw {α : Type} (m : Option α) (Q : α → Prop) : Prop := ∀ x, m = some x → Q x
theorem pw_none {α : Type} {Q : α → Prop} : pw (none : Option α) Q := fun _ h => nomatch h
theorem pw_some {α : Type} {a : α} {Q : α → Prop} (h : Q a) : pw (some a) Q := fun x e => by
  cases e
  exact h
theorem pw_vl {α β : Type} {a : α} {f : α → Option β} {Q : β → Prop} (h : ∀ x, x = a → pw (f x) Q) : pw (vl a f) Q := h a rfl
theorem pw_if {β : Type} {c : Prop} [Decidable c] {A : Option β} {Q : β → Prop} (h : c → pw A Q) : pw (if c then A else none) Q := by
  by_cases q : c
  · rw [if_pos q]
    exact h q
  · rw [if_neg q]
    exact pw_none
theorem pw_ite {β : Type} {c : Prop} [Decidable c] {A B : Option β} {Q : β → Prop} (h1 : c → pw A Q) (h2 : ¬ c → pw B Q) : pw (if c then A else B) Q := by
  by_cases q : c
  · rw [if_pos q]
    exact h1 q
  · rw [if_neg q]
    exact h2 q
theorem pw_jn {α β : Type} {f : α} {b : α → Option β} {Q : β → Prop} (P : α → Prop) (h1 : P f) (h2 : ∀ j, P j → pw (b j) Q) : pw (jn f b) Q := h2 f h1
theorem pw_nn {β : Type} {o : Option Nat} {f : Nat → Option β} {Q : β → Prop} (k : ∀ b, o = some b → pw (f b) Q) : pw (nn o f) Q := by
  cases o with
  | none => exact pw_none
  | some b => exact k b rfl
theorem pw_oc {β : Type} {o : Option Nat} {n : Option β} {f : Nat → Option β} {Q : β → Prop} (h1 : o = none → pw n Q) (h2 : ∀ b, o = some b → pw (f b) Q) : pw (oc o n f) Q := by
  cases o with
  | none => exact h1 rfl
  | some b => exact h2 b rfl
theorem pw_b0 {β : Type} {m : Option Unit} {f : Unit → Option β} {Q : β → Prop} (h : ∀ u, m = some u → pw (f u) Q) : pw (b0 m f) Q := by
  cases m with
  | none => exact pw_none
  | some t => exact h t rfl
theorem pw_b1 {α0 β : Type} {m : Option (α0)} {f : α0 → Option β} {Q : β → Prop} (h : ∀ a0, m = some a0 → pw (f a0) Q) : pw (b1 m f) Q := by
  cases m with
  | none => exact pw_none
  | some t => exact h _ rfl
theorem pw_b2 {α0 α1 β : Type} {m : Option (α0 × α1)} {f : α0 → α1 → Option β} {Q : β → Prop} (h : ∀ a0 a1, m = some (a0, a1) → pw (f a0 a1) Q) : pw (b2 m f) Q := by
  cases m with
  | none => exact pw_none
  | some t => exact h _ _ rfl
theorem pw_b3 {α0 α1 α2 β : Type} {m : Option (α0 × α1 × α2)} {f : α0 → α1 → α2 → Option β} {Q : β → Prop} (h : ∀ a0 a1 a2, m = some (a0, a1, a2) → pw (f a0 a1 a2) Q) : pw (b3 m f) Q := by
  cases m with
  | none => exact pw_none
  | some t => exact h _ _ _ rfl
theorem pw_b4 {α0 α1 α2 α3 β : Type} {m : Option (α0 × α1 × α2 × α3)} {f : α0 → α1 → α2 → α3 → Option β} {Q : β → Prop} (h : ∀ a0 a1 a2 a3, m = some (a0, a1, a2, a3) → pw (f a0 a1 a2 a3) Q) : pw (b4 m f) Q := by
  cases m with
  | none => exact pw_none
  | some t => exact h _ _ _ _ rfl
theorem pw_b5 {α0 α1 α2 α3 α4 β : Type} {m : Option (α0 × α1 × α2 × α3 × α4)} {f : α0 → α1 → α2 → α3 → α4 → Option β} {Q : β → Prop} (h : ∀ a0 a1 a2 a3 a4, m = some (a0, a1, a2, a3, a4) → pw (f a0 a1 a2 a3 a4) Q) : pw (b5 m f) Q := by
  cases m with
  | none => exact pw_none
  | some t => exact h _ _ _ _ _ rfl
theorem pw_b6 {α0 α1 α2 α3 α4 α5 β : Type} {m : Option (α0 × α1 × α2 × α3 × α4 × α5)} {f : α0 → α1 → α2 → α3 → α4 → α5 → Option β} {Q : β → Prop} (h : ∀ a0 a1 a2 a3 a4 a5, m = some (a0, a1, a2, a3, a4, a5) → pw (f a0 a1 a2 a3 a4 a5) Q) : pw (b6 m f) Q := by
  cases m with
  | none => exact pw_none
  | some t => exact h _ _ _ _ _ _ rfl
theorem pw_b7 {α0 α1 α2 α3 α4 α5 α6 β : Type} {m : Option (α0 × α1 × α2 × α3 × α4 × α5 × α6)} {f : α0 → α1 → α2 → α3 → α4 → α5 → α6 → Option β} {Q : β → Prop} (h : ∀ a0 a1 a2 a3 a4 a5 a6, m = some (a0, a1, a2, a3, a4, a5, a6) → pw (f a0 a1 a2 a3 a4 a5 a6) Q) : pw (b7 m f) Q := by
  cases m with
  | none => exact pw_none
  | some t => exact h _ _ _ _ _ _ _ rfl
theorem pw_b8 {α0 α1 α2 α3 α4 α5 α6 α7 β : Type} {m : Option (α0 × α1 × α2 × α3 × α4 × α5 × α6 × α7)} {f : α0 → α1 → α2 → α3 → α4 → α5 → α6 → α7 → Option β} {Q : β → Prop} (h : ∀ a0 a1 a2 a3 a4 a5 a6 a7, m = some (a0, a1, a2, a3, a4, a5, a6, a7) → pw (f a0 a1 a2 a3 a4 a5 a6 a7) Q) : pw (b8 m f) Q := by
  cases m with
  | none => exact pw_none
  | some t => exact h _ _ _ _ _ _ _ _ rfl
theorem pw_b9 {α0 α1 α2 α3 α4 α5 α6 α7 α8 β : Type} {m : Option (α0 × α1 × α2 × α3 × α4 × α5 × α6 × α7 × α8)} {f : α0 → α1 → α2 → α3 → α4 → α5 → α6 → α7 → α8 → Option β} {Q : β → Prop} (h : ∀ a0 a1 a2 a3 a4 a5 a6 a7 a8, m = some (a0, a1, a2, a3, a4, a5, a6, a7, a8) → pw (f a0 a1 a2 a3 a4 a5 a6 a7 a8) Q) : pw (b9 m f) Q := by
  cases m with
  | none => exact pw_none
  | some t => exact h _ _ _ _ _ _ _ _ _ rfl
theorem pw_b10 {α0 α1 α2 α3 α4 α5 α6 α7 α8 α9 β : Type} {m : Option (α0 × α1 × α2 × α3 × α4 × α5 × α6 × α7 × α8 × α9)} {f : α0 → α1 → α2 → α3 → α4 → α5 → α6 → α7 → α8 → α9 → Option β} {Q : β → Prop} (h : ∀ a0 a1 a2 a3 a4 a5 a6 a7 a8 a9, m = some (a0, a1, a2, a3, a4, a5, a6, a7, a8, a9) → pw (f a0 a1 a2 a3 a4 a5 a6 a7 a8 a9) Q) : pw (b10 m f) Q := by
  cases m with
  | none => exact pw_none
  | some t => exact h _ _ _ _ _ _ _ _ _ _ rfl
theorem pw_b12 {α0 α1 α2 α3 α4 α5 α6 α7 α8 α9 α10 α11 β : Type} {m : Option (α0 × α1 × α2 × α3 × α4 × α5 × α6 × α7 × α8 × α9 × α10 × α11)} {f : α0 → α1 → α2 → α3 → α4 → α5 → α6 → α7 → α8 → α9 → α10 → α11 → Option β} {Q : β → Prop} (h : ∀ a0 a1 a2 a3 a4 a5 a6 a7 a8 a9 a10 a11, m = some (a0, a1, a2, a3, a4, a5, a6, a7, a8, a9, a10, a11) → pw (f a0 a1 a2 a3 a4 a5 a6 a7 a8 a9 a10 a11) Q) : pw (b12 m f) Q := by
  cases m with
  | none => exact pw_none
  | some t => exact h _ _ _ _ _ _ _ _ _ _ _ _ rfl
theorem pw_b14 {α0 α1 α2 α3 α4 α5 α6 α7 α8 α9 α10 α11 α12 α13 β : Type} {m : Option (α0 × α1 × α2 × α3 × α4 × α5 × α6 × α7 × α8 × α9 × α10 × α11 × α12 × α13)} {f : α0 → α1 → α2 → α3 → α4 → α5 → α6 → α7 → α8 → α9 → α10 → α11 → α12 → α13 → Option β} {Q : β → Prop} (h : ∀ a0 a1 a2 a3 a4 a5 a6 a7 a8 a9 a10 a11 a12 a13, m = some (a0, a1, a2, a3, a4, a5, a6, a7, a8, a9, a10, a11, a12, a13) → pw (f a0 a1 a2 a3 a4 a5 a6 a7 a8 a9 a10 a11 a12 a13) Q) : pw (b14 m f) Q := by
  cases m with
  | none => exact pw_none
  | some t => exact h _ _ _ _ _ _ _ _ _ _ _ _ _ _ rfl
theorem pw_b18 {α0 α1 α2 α3 α4 α5 α6 α7 α8 α9 α10 α11 α12 α13 α14 α15 α16 α17 β : Type} {m : Option (α0 × α1 × α2 × α3 × α4 × α5 × α6 × α7 × α8 × α9 × α10 × α11 × α12 × α13 × α14 × α15 × α16 × α17)} {f : α0 → α1 → α2 → α3 → α4 → α5 → α6 → α7 → α8 → α9 → α10 → α11 → α12 → α13 → α14 → α15 → α16 → α17 → Option β} {Q : β → Prop} (h : ∀ a0 a1 a2 a3 a4 a5 a6 a7 a8 a9 a10 a11 a12 a13 a14 a15 a16 a17, m = some (a0, a1, a2, a3, a4, a5, a6, a7, a8, a9, a10, a11, a12, a13, a14, a15, a16, a17) → pw (f a0 a1 a2 a3 a4 a5 a6 a7 a8 a9 a10 a11 a12 a13 a14 a15 a16 a17) Q) : pw (b18 m f) Q := by
  cases m with
  | none => exact pw_none
  | some t => exact h _ _ _ _ _ _ _ _ _ _ _ _ _ _ _ _ _ _ rfl
theorem pw_b19 {α0 α1 α2 α3 α4 α5 α6 α7 α8 α9 α10 α11 α12 α13 α14 α15 α16 α17 α18 β : Type} {m : Option (α0 × α1 × α2 × α3 × α4 × α5 × α6 × α7 × α8 × α9 × α10 × α11 × α12 × α13 × α14 × α15 × α16 × α17 × α18)} {f : α0 → α1 → α2 → α3 → α4 → α5 → α6 → α7 → α8 → α9 → α10 → α11 → α12 → α13 → α14 → α15 → α16 → α17 → α18 → Option β} {Q : β → Prop} (h : ∀ a0 a1 a2 a3 a4 a5 a6 a7 a8 a9 a10 a11 a12 a13 a14 a15 a16 a17 a18, m = some (a0, a1, a2, a3, a4, a5, a6, a7, a8, a9, a10, a11, a12, a13, a14, a15, a16, a17, a18) → pw (f a0 a1 a2 a3 a4 a5 a6 a7 a8 a9 a10 a11 a12 a13 a14 a15 a16 a17 a18) Q) : pw (b19 m f) Q := by
  cases m with
  | none => exact pw_none
  | some t => exact h _ _ _ _ _ _ _ _ _ _ _ _ _ _ _ _ _ _ _ rfl
theorem pw_b23 {α0 α1 α2 α3 α4 α5 α6 α7 α8 α9 α10 α11 α12 α13 α14 α15 α16 α17 α18 α19 α20 α21 α22 β : Type} {m : Option (α0 × α1 × α2 × α3 × α4 × α5 × α6 × α7 × α8 × α9 × α10 × α11 × α12 × α13 × α14 × α15 × α16 × α17 × α18 × α19 × α20 × α21 × α22)} {f : α0 → α1 → α2 → α3 → α4 → α5 → α6 → α7 → α8 → α9 → α10 → α11 → α12 → α13 → α14 → α15 → α16 → α17 → α18 → α19 → α20 → α21 → α22 → Option β} {Q : β → Prop} (h : ∀ a0 a1 a2 a3 a4 a5 a6 a7 a8 a9 a10 a11 a12 a13 a14 a15 a16 a17 a18 a19 a20 a21 a22, m = some (a0, a1, a2, a3, a4, a5, a6, a7, a8, a9, a10, a11, a12, a13, a14, a15, a16, a17, a18, a19, a20, a21, a22) → pw (f a0 a1 a2 a3 a4 a5 a6 a7 a8 a9 a10 a11 a12 a13 a14 a15 a16 a17 a18 a19 a20 a21 a22) Q) : pw (b23 m f) Q := by
  cases m with
  | none => exact pw_none
  | some t => exact h _ _ _ _ _ _ _ _ _ _ _ _ _ _ _ _ _ _ _ _ _ _ _ rfl
abbrev sp1 {ρ : Type} (R : ρ → Prop) : ρ × Nat × Nat → Prop := fun t => R t.1
theorem pw_tk {ρ : Type} {m : Option (ρ × Nat × Nat)} {R : ρ → Prop} {a b : Nat} (h : pw m (sp1 R)) : pw (tk a b m) (sp1 R) := by
  cases m with
  | none => exact pw_none
  | some t => exact pw_some (Q := sp1 R) (a := (t.1, t.2.1 + a, t.2.2 + b)) (h t rfl)
theorem pw_bA9 {α0 α1 α2 α3 α4 α5 α6 α7 α8 ρ : Type} {m : Option ((α0 × α1 × α2 × α3 × α4 × α5 × α6 × α7 × α8) × Nat × Nat)} {f : α0 → α1 → α2 → α3 → α4 → α5 → α6 → α7 → α8 → Option (ρ × Nat × Nat)} {R : ρ → Prop} (h : ∀ a0 a1 a2 a3 a4 a5 a6 a7 a8 v1 v2, m = some ((a0, a1, a2, a3, a4, a5, a6, a7, a8), v1, v2) → pw (f a0 a1 a2 a3 a4 a5 a6 a7 a8) (sp1 R)) : pw (bA9 m f) (sp1 R) := by
  cases m with
  | none => exact pw_none
  | some t => exact pw_tk (h _ _ _ _ _ _ _ _ _ _ _ rfl)
theorem pw_bA10 {α0 α1 α2 α3 α4 α5 α6 α7 α8 α9 ρ : Type} {m : Option ((α0 × α1 × α2 × α3 × α4 × α5 × α6 × α7 × α8 × α9) × Nat × Nat)} {f : α0 → α1 → α2 → α3 → α4 → α5 → α6 → α7 → α8 → α9 → Option (ρ × Nat × Nat)} {R : ρ → Prop} (h : ∀ a0 a1 a2 a3 a4 a5 a6 a7 a8 a9 v1 v2, m = some ((a0, a1, a2, a3, a4, a5, a6, a7, a8, a9), v1, v2) → pw (f a0 a1 a2 a3 a4 a5 a6 a7 a8 a9) (sp1 R)) : pw (bA10 m f) (sp1 R) := by
  cases m with
  | none => exact pw_none
  | some t => exact pw_tk (h _ _ _ _ _ _ _ _ _ _ _ _ rfl)
def lok (f x y : Nat) : Prop := if f = 0 then y = 20 else if f = 1 then y = x + 0 else if f = 2 then y = x + 0 else if f = 3 then y = x + 0 else if f = 4 then y = x + 1 else if f = 5 then y = x + 2 else if f = 20 then y = x + 0 else if f = 21 then y = x + 0 else if f = 22 then y = x + 0 else if f = 23 then y = x + 0 else if f = 40 then y = x + 0 else if f = 41 then y = x + 0 else if f = 42 then y = x + 0 else if f = 61 then y = x + 0 else if f = 62 then y = x + 0 else if f = 63 then y = x + 1 else if f = 64 then y = x + 0 else if f = 65 then y = x + 2 else if f = 101 then y = x + 0 else if f = 103 then y = x + 1 else if f = 104 then y = x + 2 else if f = 105 then y = x + 3 else if f = 106 then y = x + 0 else if f = 108 then y = x + 4 else if f = 109 then y = x + 0 else if f = 110 then y = x + 0 else if f = 120 then (y = x + 1 ∨ y = x + 2) else if f = 121 then (y = x + 1 ∨ y = x + 2) else if f = 122 then (y = x + 1 ∨ y = x + 2) else if f = 123 then (y = x + 1 ∨ y = x + 2) else if f = 140 then y = x + 1 else if f = 180 then y = x + 6 else if f = 181 then (y = x + 1 ∨ y = x + 2) else if f = 182 then (y = x + 1 ∨ y = x + 2) else if f = 185 then y = x + 3 else if f = 186 then (y = x + 4 ∨ y = x + 5) else if f = 187 then (y = x + 4 ∨ y = x + 5) else if f = 201 then y = x + 0 else if f = 202 then y = x + 0 else if f = 220 then y = 10 else if f = 221 then y = x + 3 else if f = 225 then y = 300 else if f = 226 then y = 90 else if f = 227 then y = 50 else if f = 228 then y = 60 else if f = 229 then y = 70 else if f = 230 then y = x + 1 else if f = 232 then y = x + 2 else if f = 234 then y = 310 else if f = 235 then y = 320 else if f = 236 then y = 330 else True
theorem lk_0 {x y : Nat} : lok 0 x y ↔ (y = 20) := by first | exact Iff.rfl | simp [lok]
theorem lk_1 {x y : Nat} : lok 1 x y ↔ (y = x + 0) := by first | exact Iff.rfl | simp [lok]
theorem lk_2 {x y : Nat} : lok 2 x y ↔ (y = x + 0) := by first | exact Iff.rfl | simp [lok]
theorem lk_3 {x y : Nat} : lok 3 x y ↔ (y = x + 0) := by first | exact Iff.rfl | simp [lok]
theorem lk_4 {x y : Nat} : lok 4 x y ↔ (y = x + 1) := by first | exact Iff.rfl | simp [lok]
theorem lk_5 {x y : Nat} : lok 5 x y ↔ (y = x + 2) := by first | exact Iff.rfl | simp [lok]
theorem lk_20 {x y : Nat} : lok 20 x y ↔ (y = x + 0) := by first | exact Iff.rfl | simp [lok]
theorem lk_21 {x y : Nat} : lok 21 x y ↔ (y = x + 0) := by first | exact Iff.rfl | simp [lok]
theorem lk_22 {x y : Nat} : lok 22 x y ↔ (y = x + 0) := by first | exact Iff.rfl | simp [lok]
theorem lk_23 {x y : Nat} : lok 23 x y ↔ (y = x + 0) := by first | exact Iff.rfl | simp [lok]
theorem lk_40 {x y : Nat} : lok 40 x y ↔ (y = x + 0) := by first | exact Iff.rfl | simp [lok]
theorem lk_41 {x y : Nat} : lok 41 x y ↔ (y = x + 0) := by first | exact Iff.rfl | simp [lok]
theorem lk_42 {x y : Nat} : lok 42 x y ↔ (y = x + 0) := by first | exact Iff.rfl | simp [lok]
theorem lk_61 {x y : Nat} : lok 61 x y ↔ (y = x + 0) := by first | exact Iff.rfl | simp [lok]
theorem lk_62 {x y : Nat} : lok 62 x y ↔ (y = x + 0) := by first | exact Iff.rfl | simp [lok]
theorem lk_63 {x y : Nat} : lok 63 x y ↔ (y = x + 1) := by first | exact Iff.rfl | simp [lok]
theorem lk_64 {x y : Nat} : lok 64 x y ↔ (y = x + 0) := by first | exact Iff.rfl | simp [lok]
theorem lk_65 {x y : Nat} : lok 65 x y ↔ (y = x + 2) := by first | exact Iff.rfl | simp [lok]
theorem lk_66 (x y : Nat) : lok 66 x y := by first | exact trivial | simp [lok]
theorem lk_82 (x y : Nat) : lok 82 x y := by first | exact trivial | simp [lok]
theorem lk_101 {x y : Nat} : lok 101 x y ↔ (y = x + 0) := by first | exact Iff.rfl | simp [lok]
theorem lk_103 {x y : Nat} : lok 103 x y ↔ (y = x + 1) := by first | exact Iff.rfl | simp [lok]
theorem lk_104 {x y : Nat} : lok 104 x y ↔ (y = x + 2) := by first | exact Iff.rfl | simp [lok]
theorem lk_105 {x y : Nat} : lok 105 x y ↔ (y = x + 3) := by first | exact Iff.rfl | simp [lok]
theorem lk_106 {x y : Nat} : lok 106 x y ↔ (y = x + 0) := by first | exact Iff.rfl | simp [lok]
theorem lk_108 {x y : Nat} : lok 108 x y ↔ (y = x + 4) := by first | exact Iff.rfl | simp [lok]
theorem lk_109 {x y : Nat} : lok 109 x y ↔ (y = x + 0) := by first | exact Iff.rfl | simp [lok]
theorem lk_110 {x y : Nat} : lok 110 x y ↔ (y = x + 0) := by first | exact Iff.rfl | simp [lok]
theorem lk_120 {x y : Nat} : lok 120 x y ↔ ((y = x + 1 ∨ y = x + 2)) := by first | exact Iff.rfl | simp [lok]
theorem lk_121 {x y : Nat} : lok 121 x y ↔ ((y = x + 1 ∨ y = x + 2)) := by first | exact Iff.rfl | simp [lok]
theorem lk_122 {x y : Nat} : lok 122 x y ↔ ((y = x + 1 ∨ y = x + 2)) := by first | exact Iff.rfl | simp [lok]
theorem lk_123 {x y : Nat} : lok 123 x y ↔ ((y = x + 1 ∨ y = x + 2)) := by first | exact Iff.rfl | simp [lok]
theorem lk_140 {x y : Nat} : lok 140 x y ↔ (y = x + 1) := by first | exact Iff.rfl | simp [lok]
theorem lk_164 (x y : Nat) : lok 164 x y := by first | exact trivial | simp [lok]
theorem lk_180 {x y : Nat} : lok 180 x y ↔ (y = x + 6) := by first | exact Iff.rfl | simp [lok]
theorem lk_181 {x y : Nat} : lok 181 x y ↔ ((y = x + 1 ∨ y = x + 2)) := by first | exact Iff.rfl | simp [lok]
theorem lk_182 {x y : Nat} : lok 182 x y ↔ ((y = x + 1 ∨ y = x + 2)) := by first | exact Iff.rfl | simp [lok]
theorem lk_185 {x y : Nat} : lok 185 x y ↔ (y = x + 3) := by first | exact Iff.rfl | simp [lok]
theorem lk_186 {x y : Nat} : lok 186 x y ↔ ((y = x + 4 ∨ y = x + 5)) := by first | exact Iff.rfl | simp [lok]
theorem lk_187 {x y : Nat} : lok 187 x y ↔ ((y = x + 4 ∨ y = x + 5)) := by first | exact Iff.rfl | simp [lok]
theorem lk_201 {x y : Nat} : lok 201 x y ↔ (y = x + 0) := by first | exact Iff.rfl | simp [lok]
theorem lk_202 {x y : Nat} : lok 202 x y ↔ (y = x + 0) := by first | exact Iff.rfl | simp [lok]
theorem lk_220 {x y : Nat} : lok 220 x y ↔ (y = 10) := by first | exact Iff.rfl | simp [lok]
theorem lk_221 {x y : Nat} : lok 221 x y ↔ (y = x + 3) := by first | exact Iff.rfl | simp [lok]
theorem lk_224 (x y : Nat) : lok 224 x y := by first | exact trivial | simp [lok]
theorem lk_225 {x y : Nat} : lok 225 x y ↔ (y = 300) := by first | exact Iff.rfl | simp [lok]
theorem lk_226 {x y : Nat} : lok 226 x y ↔ (y = 90) := by first | exact Iff.rfl | simp [lok]
theorem lk_227 {x y : Nat} : lok 227 x y ↔ (y = 50) := by first | exact Iff.rfl | simp [lok]
theorem lk_228 {x y : Nat} : lok 228 x y ↔ (y = 60) := by first | exact Iff.rfl | simp [lok]
theorem lk_229 {x y : Nat} : lok 229 x y ↔ (y = 70) := by first | exact Iff.rfl | simp [lok]
theorem lk_230 {x y : Nat} : lok 230 x y ↔ (y = x + 1) := by first | exact Iff.rfl | simp [lok]
theorem lk_232 {x y : Nat} : lok 232 x y ↔ (y = x + 2) := by first | exact Iff.rfl | simp [lok]
theorem lk_234 {x y : Nat} : lok 234 x y ↔ (y = 310) := by first | exact Iff.rfl | simp [lok]
theorem lk_235 {x y : Nat} : lok 235 x y ↔ (y = 320) := by first | exact Iff.rfl | simp [lok]
theorem lk_236 {x y : Nat} : lok 236 x y ↔ (y = 330) := by first | exact Iff.rfl | simp [lok]
def LC (f : Nat) (la : Nat → Nat) (c : Nat) (p : Nat → Option Nat) : Prop := ∀ a b, p a = some b → a < c ∧ b < c ∧ lok f (la a) (la b)
def flds : List Nat := [0, 1, 2, 3, 4, 5, 20, 21, 22, 23, 40, 41, 42, 61, 62, 63, 64, 65, 66, 82, 101, 103, 104, 105, 106, 108, 109, 110, 120, 121, 122, 123, 140, 164, 180, 181, 182, 185, 186, 187, 201, 202, 220, 221, 224, 225, 226, 227, 228, 229, 230, 232, 234, 235, 236]
theorem fl_0 : 0 ∈ flds := by decide
theorem fl_1 : 1 ∈ flds := by decide
theorem fl_2 : 2 ∈ flds := by decide
theorem fl_3 : 3 ∈ flds := by decide
theorem fl_4 : 4 ∈ flds := by decide
theorem fl_5 : 5 ∈ flds := by decide
theorem fl_20 : 20 ∈ flds := by decide
theorem fl_21 : 21 ∈ flds := by decide
theorem fl_22 : 22 ∈ flds := by decide
theorem fl_23 : 23 ∈ flds := by decide
theorem fl_40 : 40 ∈ flds := by decide
theorem fl_41 : 41 ∈ flds := by decide
theorem fl_42 : 42 ∈ flds := by decide
theorem fl_61 : 61 ∈ flds := by decide
theorem fl_62 : 62 ∈ flds := by decide
theorem fl_63 : 63 ∈ flds := by decide
theorem fl_64 : 64 ∈ flds := by decide
theorem fl_65 : 65 ∈ flds := by decide
theorem fl_66 : 66 ∈ flds := by decide
theorem fl_82 : 82 ∈ flds := by decide
theorem fl_101 : 101 ∈ flds := by decide
theorem fl_103 : 103 ∈ flds := by decide
theorem fl_104 : 104 ∈ flds := by decide
theorem fl_105 : 105 ∈ flds := by decide
theorem fl_106 : 106 ∈ flds := by decide
theorem fl_108 : 108 ∈ flds := by decide
theorem fl_109 : 109 ∈ flds := by decide
theorem fl_110 : 110 ∈ flds := by decide
theorem fl_120 : 120 ∈ flds := by decide
theorem fl_121 : 121 ∈ flds := by decide
theorem fl_122 : 122 ∈ flds := by decide
theorem fl_123 : 123 ∈ flds := by decide
theorem fl_140 : 140 ∈ flds := by decide
theorem fl_164 : 164 ∈ flds := by decide
theorem fl_180 : 180 ∈ flds := by decide
theorem fl_181 : 181 ∈ flds := by decide
theorem fl_182 : 182 ∈ flds := by decide
theorem fl_185 : 185 ∈ flds := by decide
theorem fl_186 : 186 ∈ flds := by decide
theorem fl_187 : 187 ∈ flds := by decide
theorem fl_201 : 201 ∈ flds := by decide
theorem fl_202 : 202 ∈ flds := by decide
theorem fl_220 : 220 ∈ flds := by decide
theorem fl_221 : 221 ∈ flds := by decide
theorem fl_224 : 224 ∈ flds := by decide
theorem fl_225 : 225 ∈ flds := by decide
theorem fl_226 : 226 ∈ flds := by decide
theorem fl_227 : 227 ∈ flds := by decide
theorem fl_228 : 228 ∈ flds := by decide
theorem fl_229 : 229 ∈ flds := by decide
theorem fl_230 : 230 ∈ flds := by decide
theorem fl_232 : 232 ∈ flds := by decide
theorem fl_234 : 234 ∈ flds := by decide
theorem fl_235 : 235 ∈ flds := by decide
theorem fl_236 : 236 ∈ flds := by decide
def LB (la : Nat → Nat) (c : Nat) (P : Nat → Nat → Option Nat) : Prop := (∀ f, f ∈ flds → LC f la c (P f)) ∧ (∀ a, a < c → la a < 100000 + 10 * c)
theorem LC_up {f c a b : Nat} {la : Nat → Nat} {p m : Nat → Option Nat} (h : LC f la c p) (e : m = va_up p a (some b)) (ha : a < c) (hb : b < c) (hl : lok f (la a) (la b)) : LC f la c m := by
  intro a1 b1 h1
  subst e
  by_cases q : a1 = a
  · subst q
    rw [va_up_self] at h1
    cases h1
    exact ⟨ha, hb, hl⟩
  · rw [va_up_ne _ _ q] at h1
    exact h a1 b1 h1
theorem LB_set {la : Nat → Nat} {c f : Nat} {P : Nat → Nat → Option Nat} {m : Nat → Option Nat} (h : LB la c P) (hl : LC f la c m) : LB la c (va_up P f m) := by
  refine ⟨fun g hg => ?_, h.2⟩
  by_cases q : g = f
  · subst q
    rw [va_up_self]
    exact hl
  · rw [va_up_ne _ _ q]
    exact h.1 g hg
theorem LB_new {la : Nat → Nat} {c L : Nat} {P : Nat → Nat → Option Nat} (h : LB la c P) (hL : L < 100000 + 10 * (c + 1)) : LB (va_up la c L) (c + 1) (fun f => va_up (P f) c none) := by
  refine ⟨fun f hf a b hb => ?_, fun a ha => ?_⟩
  · by_cases q : a = c
    · rw [q] at hb
      exact absurd ((va_up_self _ _ _).symm.trans hb) (by intro z; cases z)
    · have hb2 : P f a = some b := (va_up_ne _ _ q).symm.trans hb
      obtain ⟨h1, h2, h3⟩ := h.1 f hf a b hb2
      rw [va_up_ne _ _ q, va_up_ne _ _ (by omega : b ≠ c)]
      exact ⟨by omega, by omega, h3⟩
  · by_cases q : a = c
    · rw [q, va_up_self]
      exact hL
    · rw [va_up_ne _ _ q]
      have := h.2 a (by omega)
      omega
theorem fr_up {α : Type} {C : Nat → Prop} {p m e0 : Nat → α} {a : Nat} {v : α} (h : ∀ z, C z → p z = e0 z) (e : m = va_up p a v) (hn : ¬ C a) : ∀ z, C z → m z = e0 z := by
  intro z hz
  have hne : z ≠ a := fun q => hn (by rw [← q]; exact hz)
  rw [e, va_up_ne _ _ hne]
  exact h z hz
def FRM {α : Type} (c : Nat) (S : List Nat) (C : Nat → Prop) (M M1 : Nat → Nat → α) : Prop := ∀ f z, z < c → (f ∈ S → C z) → M1 f z = M f z
theorem FRM_refl {α : Type} {c : Nat} {S : List Nat} {C : Nat → Prop} {M : Nat → Nat → α} : FRM c S C M M := fun _ _ _ _ => rfl
theorem FRM_set {α : Type} {c f : Nat} {S : List Nat} {C : Nat → Prop} {M M1 : Nat → Nat → α} {m : Nat → α} (h : FRM c S C M M1) (hf : f ∈ S) (hm : ∀ z, z < c → C z → m z = M f z) : FRM c S C M (va_up M1 f m) := by
  intro g z hz hC
  by_cases q : g = f
  · subst q
    rw [va_up_self]
    exact hm z hz (hC hf)
  · rw [va_up_ne _ _ q]
    exact h g z hz hC
theorem FRM_trans {α : Type} {c c2 : Nat} {S S2 : List Nat} {C C2 : Nat → Prop} {M M1 M2 : Nat → Nat → α} (h1 : FRM c S C M M1) (h2 : FRM c2 S2 C2 M1 M2) (hc : c ≤ c2) (hS : ∀ f, f ∈ S2 → f ∈ S) (hC : ∀ z, z < c → C z → C2 z) : FRM c S C M M2 := fun f z hz hf => (h2 f z (Nat.lt_of_lt_of_le hz hc) (fun q => hC z hz (hf (hS f q)))).trans (h1 f z hz hf)
theorem FRM_tri {α : Type} {c c2 t : Nat} {S S2 : List Nat} {C : Nat → Prop} {M M1 M2 : Nat → Nat → α} (h1 : FRM c S C M M1) (h2 : FRM c2 S2 (fun z => z ≠ t) M1 M2) (hc : c ≤ c2) (ht : c ≤ t) : FRM c S C M M2 := fun f z hz hf => (h2 f z (Nat.lt_of_lt_of_le hz hc) (fun _ => Nat.ne_of_lt (Nat.lt_of_lt_of_le hz ht))).trans (h1 f z hz hf)
theorem FRM_new {α : Type} {c : Nat} {M : Nat → Nat → α} {v : α} : FRM c [] (fun _ => True) M (fun f => va_up (M f) c v) := fun _ _ hz _ => va_up_ne _ _ (Nat.ne_of_lt hz)
theorem pw_newc {β : Type} {la : Nat → Nat} {L K n : Nat} {G : Nat → Nat → Int32} {P : Nat → Nat → Option Nat} {U : Nat → Nat → Int64} {V : Nat → Nat → Nat → Int32} {X : Nat → Nat → Nat → Int64} {O : Nat → Nat → Nat → Option Nat} {kd ln : Nat → Nat} {cnt : Nat} {f : (Nat → Nat → Int32) → (Nat → Nat → Option Nat) → (Nat → Nat → Int64) → (Nat → Nat → Nat → Int32) → (Nat → Nat → Nat → Int64) → (Nat → Nat → Nat → Option Nat) → (Nat → Nat) → (Nat → Nat) → Nat → Option β} {Q : β → Prop} (hB : LB la cnt P) (hL : L < 100000 + 10 * (cnt + 1)) (h : ∀ (la1 : Nat → Nat) (G1 : Nat → Nat → Int32) (P1 : Nat → Nat → Option Nat) (U1 : Nat → Nat → Int64) (V1 : Nat → Nat → Nat → Int32) (X1 : Nat → Nat → Nat → Int64) (O1 : Nat → Nat → Nat → Option Nat) (kd1 ln1 : Nat → Nat) (cnt1 : Nat), cnt1 = cnt + 1 → LB la1 cnt1 P1 → la1 cnt = L → (∀ z, z < cnt → la1 z = la z) → FRM cnt [] (fun _ => True) G G1 → FRM cnt [] (fun _ => True) P P1 → FRM cnt [] (fun _ => True) U U1 → FRM cnt [] (fun _ => True) V V1 → FRM cnt [] (fun _ => True) X X1 → FRM cnt [] (fun _ => True) O O1 → (∀ z, z < cnt → ln1 z = ln z) → pw (f G1 P1 U1 V1 X1 O1 kd1 ln1 cnt1) Q) : pw (newc K n G P U V X O kd ln cnt f) Q :=
  h (va_up la cnt L) _ _ _ _ _ _ _ _ _ rfl (LB_new hB hL) (va_up_self _ _ _) (fun _ hz => va_up_ne _ _ (Nat.ne_of_lt hz)) FRM_new FRM_new FRM_new FRM_new FRM_new FRM_new (fun _ hz => va_up_ne _ _ (Nat.ne_of_lt hz))
