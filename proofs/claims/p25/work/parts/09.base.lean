/-! that pure functions answer -/
def wp {α : Type} (m : Option α) (Q : α → Prop) : Prop := ∃ x, m = some x ∧ Q x
theorem wp_vl {α β : Type} {a : α} {f : α → Option β} {Q : β → Prop} (h : ∀ x, x = a → wp (f x) Q) : wp (vl a f) Q := h a rfl
theorem wp_if {β : Type} {c : Prop} [Decidable c] {A : Option β} {Q : β → Prop} (hc : c) (h : wp A Q) : wp (if c then A else none) Q := by
  rw [if_pos hc]
  exact h
theorem wp_ite {β : Type} {c : Prop} [Decidable c] {A B : Option β} {Q : β → Prop} (h1 : c → wp A Q) (h2 : ¬ c → wp B Q) : wp (if c then A else B) Q := by
  by_cases hc : c
  · rw [if_pos hc]; exact h1 hc
  · rw [if_neg hc]; exact h2 hc
theorem wp_jn {α β : Type} {f : α} {b : α → Option β} {Q : β → Prop} (P : α → Prop) (h1 : P f) (h2 : ∀ j, P j → wp (b j) Q) : wp (jn f b) Q := h2 f h1
theorem wp_b0 {β : Type} {m : Option Unit} {f : Unit → Option β} {Q : β → Prop} (hm : m = some ()) (h : wp (f ()) Q) : wp (b0 m f) Q := by
  rw [hm]
  exact h
theorem wp_b1 {α0 β : Type} {m : Option (α0)} {f : α0 → Option β} {Q : β → Prop} {a0 : α0} (hm : m = some a0) (h : wp (f a0) Q) : wp (b1 m f) Q := by
  rw [hm]
  exact h
theorem wp_b2 {α0 α1 β : Type} {m : Option (α0 × α1)} {f : α0 → α1 → Option β} {Q : β → Prop} {a0 : α0} {a1 : α1} (hm : m = some (a0, a1)) (h : wp (f a0 a1) Q) : wp (b2 m f) Q := by
  rw [hm]
  exact h
theorem wp_b3 {α0 α1 α2 β : Type} {m : Option (α0 × α1 × α2)} {f : α0 → α1 → α2 → Option β} {Q : β → Prop} {a0 : α0} {a1 : α1} {a2 : α2} (hm : m = some (a0, a1, a2)) (h : wp (f a0 a1 a2) Q) : wp (b3 m f) Q := by
  rw [hm]
  exact h
theorem wp_b4 {α0 α1 α2 α3 β : Type} {m : Option (α0 × α1 × α2 × α3)} {f : α0 → α1 → α2 → α3 → Option β} {Q : β → Prop} {a0 : α0} {a1 : α1} {a2 : α2} {a3 : α3} (hm : m = some (a0, a1, a2, a3)) (h : wp (f a0 a1 a2 a3) Q) : wp (b4 m f) Q := by
  rw [hm]
  exact h
theorem wp_b5 {α0 α1 α2 α3 α4 β : Type} {m : Option (α0 × α1 × α2 × α3 × α4)} {f : α0 → α1 → α2 → α3 → α4 → Option β} {Q : β → Prop} {a0 : α0} {a1 : α1} {a2 : α2} {a3 : α3} {a4 : α4} (hm : m = some (a0, a1, a2, a3, a4)) (h : wp (f a0 a1 a2 a3 a4) Q) : wp (b5 m f) Q := by
  rw [hm]
  exact h
theorem wp_b6 {α0 α1 α2 α3 α4 α5 β : Type} {m : Option (α0 × α1 × α2 × α3 × α4 × α5)} {f : α0 → α1 → α2 → α3 → α4 → α5 → Option β} {Q : β → Prop} {a0 : α0} {a1 : α1} {a2 : α2} {a3 : α3} {a4 : α4} {a5 : α5} (hm : m = some (a0, a1, a2, a3, a4, a5)) (h : wp (f a0 a1 a2 a3 a4 a5) Q) : wp (b6 m f) Q := by
  rw [hm]
  exact h
theorem wp_b7 {α0 α1 α2 α3 α4 α5 α6 β : Type} {m : Option (α0 × α1 × α2 × α3 × α4 × α5 × α6)} {f : α0 → α1 → α2 → α3 → α4 → α5 → α6 → Option β} {Q : β → Prop} {a0 : α0} {a1 : α1} {a2 : α2} {a3 : α3} {a4 : α4} {a5 : α5} {a6 : α6} (hm : m = some (a0, a1, a2, a3, a4, a5, a6)) (h : wp (f a0 a1 a2 a3 a4 a5 a6) Q) : wp (b7 m f) Q := by
  rw [hm]
  exact h
theorem wp_b8 {α0 α1 α2 α3 α4 α5 α6 α7 β : Type} {m : Option (α0 × α1 × α2 × α3 × α4 × α5 × α6 × α7)} {f : α0 → α1 → α2 → α3 → α4 → α5 → α6 → α7 → Option β} {Q : β → Prop} {a0 : α0} {a1 : α1} {a2 : α2} {a3 : α3} {a4 : α4} {a5 : α5} {a6 : α6} {a7 : α7} (hm : m = some (a0, a1, a2, a3, a4, a5, a6, a7)) (h : wp (f a0 a1 a2 a3 a4 a5 a6 a7) Q) : wp (b8 m f) Q := by
  rw [hm]
  exact h
theorem wp_b9 {α0 α1 α2 α3 α4 α5 α6 α7 α8 β : Type} {m : Option (α0 × α1 × α2 × α3 × α4 × α5 × α6 × α7 × α8)} {f : α0 → α1 → α2 → α3 → α4 → α5 → α6 → α7 → α8 → Option β} {Q : β → Prop} {a0 : α0} {a1 : α1} {a2 : α2} {a3 : α3} {a4 : α4} {a5 : α5} {a6 : α6} {a7 : α7} {a8 : α8} (hm : m = some (a0, a1, a2, a3, a4, a5, a6, a7, a8)) (h : wp (f a0 a1 a2 a3 a4 a5 a6 a7 a8) Q) : wp (b9 m f) Q := by
  rw [hm]
  exact h
theorem wp_b10 {α0 α1 α2 α3 α4 α5 α6 α7 α8 α9 β : Type} {m : Option (α0 × α1 × α2 × α3 × α4 × α5 × α6 × α7 × α8 × α9)} {f : α0 → α1 → α2 → α3 → α4 → α5 → α6 → α7 → α8 → α9 → Option β} {Q : β → Prop} {a0 : α0} {a1 : α1} {a2 : α2} {a3 : α3} {a4 : α4} {a5 : α5} {a6 : α6} {a7 : α7} {a8 : α8} {a9 : α9} (hm : m = some (a0, a1, a2, a3, a4, a5, a6, a7, a8, a9)) (h : wp (f a0 a1 a2 a3 a4 a5 a6 a7 a8 a9) Q) : wp (b10 m f) Q := by
  rw [hm]
  exact h
theorem wp_b12 {α0 α1 α2 α3 α4 α5 α6 α7 α8 α9 α10 α11 β : Type} {m : Option (α0 × α1 × α2 × α3 × α4 × α5 × α6 × α7 × α8 × α9 × α10 × α11)} {f : α0 → α1 → α2 → α3 → α4 → α5 → α6 → α7 → α8 → α9 → α10 → α11 → Option β} {Q : β → Prop} {a0 : α0} {a1 : α1} {a2 : α2} {a3 : α3} {a4 : α4} {a5 : α5} {a6 : α6} {a7 : α7} {a8 : α8} {a9 : α9} {a10 : α10} {a11 : α11} (hm : m = some (a0, a1, a2, a3, a4, a5, a6, a7, a8, a9, a10, a11)) (h : wp (f a0 a1 a2 a3 a4 a5 a6 a7 a8 a9 a10 a11) Q) : wp (b12 m f) Q := by
  rw [hm]
  exact h
theorem wp_b14 {α0 α1 α2 α3 α4 α5 α6 α7 α8 α9 α10 α11 α12 α13 β : Type} {m : Option (α0 × α1 × α2 × α3 × α4 × α5 × α6 × α7 × α8 × α9 × α10 × α11 × α12 × α13)} {f : α0 → α1 → α2 → α3 → α4 → α5 → α6 → α7 → α8 → α9 → α10 → α11 → α12 → α13 → Option β} {Q : β → Prop} {a0 : α0} {a1 : α1} {a2 : α2} {a3 : α3} {a4 : α4} {a5 : α5} {a6 : α6} {a7 : α7} {a8 : α8} {a9 : α9} {a10 : α10} {a11 : α11} {a12 : α12} {a13 : α13} (hm : m = some (a0, a1, a2, a3, a4, a5, a6, a7, a8, a9, a10, a11, a12, a13)) (h : wp (f a0 a1 a2 a3 a4 a5 a6 a7 a8 a9 a10 a11 a12 a13) Q) : wp (b14 m f) Q := by
  rw [hm]
  exact h
theorem wp_b18 {α0 α1 α2 α3 α4 α5 α6 α7 α8 α9 α10 α11 α12 α13 α14 α15 α16 α17 β : Type} {m : Option (α0 × α1 × α2 × α3 × α4 × α5 × α6 × α7 × α8 × α9 × α10 × α11 × α12 × α13 × α14 × α15 × α16 × α17)} {f : α0 → α1 → α2 → α3 → α4 → α5 → α6 → α7 → α8 → α9 → α10 → α11 → α12 → α13 → α14 → α15 → α16 → α17 → Option β} {Q : β → Prop} {a0 : α0} {a1 : α1} {a2 : α2} {a3 : α3} {a4 : α4} {a5 : α5} {a6 : α6} {a7 : α7} {a8 : α8} {a9 : α9} {a10 : α10} {a11 : α11} {a12 : α12} {a13 : α13} {a14 : α14} {a15 : α15} {a16 : α16} {a17 : α17} (hm : m = some (a0, a1, a2, a3, a4, a5, a6, a7, a8, a9, a10, a11, a12, a13, a14, a15, a16, a17)) (h : wp (f a0 a1 a2 a3 a4 a5 a6 a7 a8 a9 a10 a11 a12 a13 a14 a15 a16 a17) Q) : wp (b18 m f) Q := by
  rw [hm]
  exact h
theorem wp_b19 {α0 α1 α2 α3 α4 α5 α6 α7 α8 α9 α10 α11 α12 α13 α14 α15 α16 α17 α18 β : Type} {m : Option (α0 × α1 × α2 × α3 × α4 × α5 × α6 × α7 × α8 × α9 × α10 × α11 × α12 × α13 × α14 × α15 × α16 × α17 × α18)} {f : α0 → α1 → α2 → α3 → α4 → α5 → α6 → α7 → α8 → α9 → α10 → α11 → α12 → α13 → α14 → α15 → α16 → α17 → α18 → Option β} {Q : β → Prop} {a0 : α0} {a1 : α1} {a2 : α2} {a3 : α3} {a4 : α4} {a5 : α5} {a6 : α6} {a7 : α7} {a8 : α8} {a9 : α9} {a10 : α10} {a11 : α11} {a12 : α12} {a13 : α13} {a14 : α14} {a15 : α15} {a16 : α16} {a17 : α17} {a18 : α18} (hm : m = some (a0, a1, a2, a3, a4, a5, a6, a7, a8, a9, a10, a11, a12, a13, a14, a15, a16, a17, a18)) (h : wp (f a0 a1 a2 a3 a4 a5 a6 a7 a8 a9 a10 a11 a12 a13 a14 a15 a16 a17 a18) Q) : wp (b19 m f) Q := by
  rw [hm]
  exact h
theorem wp_b23 {α0 α1 α2 α3 α4 α5 α6 α7 α8 α9 α10 α11 α12 α13 α14 α15 α16 α17 α18 α19 α20 α21 α22 β : Type} {m : Option (α0 × α1 × α2 × α3 × α4 × α5 × α6 × α7 × α8 × α9 × α10 × α11 × α12 × α13 × α14 × α15 × α16 × α17 × α18 × α19 × α20 × α21 × α22)} {f : α0 → α1 → α2 → α3 → α4 → α5 → α6 → α7 → α8 → α9 → α10 → α11 → α12 → α13 → α14 → α15 → α16 → α17 → α18 → α19 → α20 → α21 → α22 → Option β} {Q : β → Prop} {a0 : α0} {a1 : α1} {a2 : α2} {a3 : α3} {a4 : α4} {a5 : α5} {a6 : α6} {a7 : α7} {a8 : α8} {a9 : α9} {a10 : α10} {a11 : α11} {a12 : α12} {a13 : α13} {a14 : α14} {a15 : α15} {a16 : α16} {a17 : α17} {a18 : α18} {a19 : α19} {a20 : α20} {a21 : α21} {a22 : α22} (hm : m = some (a0, a1, a2, a3, a4, a5, a6, a7, a8, a9, a10, a11, a12, a13, a14, a15, a16, a17, a18, a19, a20, a21, a22)) (h : wp (f a0 a1 a2 a3 a4 a5 a6 a7 a8 a9 a10 a11 a12 a13 a14 a15 a16 a17 a18 a19 a20 a21 a22) Q) : wp (b23 m f) Q := by
  rw [hm]
  exact h
def rng (lo hi : Int) (f : Nat → Int32) : Prop := ∀ k, lo ≤ (f k).toInt ∧ (f k).toInt ≤ hi
theorem rng_upd {lo hi : Int} {f : Nat → Int32} {k : Nat} {x : Int32} (h : rng lo hi f) (h1 : lo ≤ x.toInt) (h2 : x.toInt ≤ hi) : rng lo hi (upd f k x) := by
  intro j
  unfold upd
  split
  · exact ⟨h1, h2⟩
  · exact h j
theorem z_addc {a k : Int32} {n : Int} (hk : k.toInt = n) (h1 : -2147483648 ≤ a.toInt + n) (h2 : a.toInt + n < 2147483648) : (a + k).toInt = a.toInt + n := by
  rw [z_add (by rw [hk]; exact h1) (by rw [hk]; exact h2), hk]
theorem z_addd {a k : Int32} {n : Int} (hk : k.toInt = n) (h1 : -2147483648 ≤ n + a.toInt) (h2 : n + a.toInt < 2147483648) : (k + a).toInt = n + a.toInt := by
  rw [z_add (by rw [hk]; exact h1) (by rw [hk]; exact h2), hk]
theorem z_subc {a k : Int32} {n : Int} (hk : k.toInt = n) (h1 : -2147483648 ≤ a.toInt - n) (h2 : a.toInt - n < 2147483648) : (a - k).toInt = a.toInt - n := by
  rw [z_sub (by rw [hk]; exact h1) (by rw [hk]; exact h2), hk]
theorem z_subd {a k : Int32} {n : Int} (hk : k.toInt = n) (h1 : -2147483648 ≤ n - a.toInt) (h2 : n - a.toInt < 2147483648) : (k - a).toInt = n - a.toInt := by
  rw [z_sub (by rw [hk]; exact h1) (by rw [hk]; exact h2), hk]
theorem z_mulc {a k : Int32} {n : Int} (hk : k.toInt = n) (h1 : -2147483648 ≤ a.toInt * n) (h2 : a.toInt * n < 2147483648) : (a * k).toInt = a.toInt * n := by
  rw [z_mul (by rw [hk]; exact h1) (by rw [hk]; exact h2), hk]
theorem z_muld {a k : Int32} {n : Int} (hk : k.toInt = n) (h1 : -2147483648 ≤ n * a.toInt) (h2 : n * a.toInt < 2147483648) : (k * a).toInt = n * a.toInt := by
  rw [z_mul (by rw [hk]; exact h1) (by rw [hk]; exact h2), hk]
theorem z_and255 (x : Int32) : 0 ≤ (x &&& 255).toInt ∧ (x &&& 255).toInt ≤ 255 := by
  obtain ⟨j, hj, e⟩ := pk_andE x (m := 255) 8 (by decide)
  rw [e, nI_toInt (by omega)]
  omega
theorem clampI {x : Int32} (h : 0 ≤ x.toInt) : (x.toNatClampNeg : Int) = x.toInt := by
  show ((x.toInt.toNat : Nat) : Int) = x.toInt
  omega
theorem nat_succ {x : Int32} (h : 0 ≤ x.toInt) (h2 : x.toInt < 1000000) : (x + 1).toNatClampNeg = x.toNatClampNeg + 1 := by
  have e : (x + 1).toInt = x.toInt + 1 := z_addc (by decide) (by omega) (by omega)
  have a := clampI h
  have b := clampI (x := x + 1) (by omega)
  omega
theorem upd_ne {f f1 : Nat → Int32} {i x : Int32} (e : f1 = upd f (Int32.toNatClampNeg i) x) (hi : 0 ≤ i.toInt) : ∀ k : Nat, (k : Int) ≠ i.toInt → f1 k = f k := by
  intro k hk
  rw [e]
  exact pk_un (fun q => hk (by rw [q]; exact clampI hi))
def wcn (k : Nat) : Int := (((List.range k).filter (fun j => kwc 9 j == 32)).length : Nat)
theorem wc_all : ∀ k, k < 45 → ((kwc 9 k).toInt = 32 → wcn (k + 1) = wcn k + 1 ∧ wcn k ≤ 8) ∧ ((kwc 9 k).toInt ≠ 32 → wcn (k + 1) = wcn k) := by decide +kernel
theorem wcn_nn (k : Nat) : 0 ≤ wcn k := by
  unfold wcn
  omega
theorem way_new {f f1 lens : Nat → Int32} {n i ix : Int32} (e : f1 = upd f (Int32.toNatClampNeg ix) (lens (Int32.toNatClampNeg i))) (h0 : 0 ≤ n.toInt) (h1 : 0 ≤ i.toInt ∧ i.toInt < 100) (h2 : ix.toInt = 24 * n.toInt + i.toInt) (h : ∀ k : Nat, (k : Int) < i.toInt → f (24 * n.toInt.toNat + k) = lens k) : ∀ k : Nat, (k : Int) < (i + 1).toInt → f1 (24 * n.toInt.toNat + k) = lens k := by
  have hi : (i + 1).toInt = i.toInt + 1 := z_addc (by decide) (by omega) (by omega)
  have ei : Int32.toNatClampNeg ix = 24 * n.toInt.toNat + i.toInt.toNat := by
    have := clampI (x := ix) (by omega)
    omega
  intro k hk
  rw [e]
  by_cases q : k = i.toInt.toNat
  · rw [q, ← ei, pk_us]
    rfl
  · rw [pk_un (by omega)]
    exact h k (by omega)
theorem way_old {f f1 f0 : Nat → Int32} {n i ix v : Int32} (e : f1 = upd f (Int32.toNatClampNeg ix) v) (h0 : 0 ≤ n.toInt) (h1 : 0 ≤ i.toInt) (h2 : ix.toInt = 24 * n.toInt + i.toInt) (h : ∀ k : Nat, k < 24 * n.toInt.toNat → f k = f0 k) : ∀ k : Nat, k < 24 * n.toInt.toNat → f1 k = f0 k := by
  have := clampI (x := ix) (by omega)
  intro k hk
  rw [e, pk_un (by omega)]
  exact h k hk
theorem pfx2 {f f1 f2 f0 : Nat → Int32} {P n : Int32} (h : ∀ k : Nat, (k : Int) < P.toInt → f k = f0 k) (h2 : ∀ k : Nat, (k : Int) < (P + 1).toInt → f2 k = f1 k) (e : f1 = upd f (Int32.toNatClampNeg P) n) (hP : 0 ≤ P.toInt ∧ P.toInt < 100) : ∀ k : Nat, (k : Int) < P.toInt → f2 k = f0 k := by
  have hi : (P + 1).toInt = P.toInt + 1 := z_addc (by decide) (by omega) (by omega)
  have := clampI (x := P) hP.1
  intro k hk
  rw [h2 k (by omega), e, pk_un (by omega)]
  exact h k hk
def LQ (laws size : Nat → Int32) (n : Int32) : Prop := ∀ r j : Nat, ((r : Int) < n.toInt ∨ r = 6) → (j : Int) < (laws r).toInt → 1 ≤ (size (160 * r + 4 * j)).toInt
theorem lq_take {laws size size1 : Nat → Int32} {n : Int32} (h : LQ laws size n) (k : Int32) (hs : ∀ j : Nat, (j : Int) ≠ k.toInt → size1 j = size j) (hl : rng 0 40 laws) (hn : n.toInt ≤ 6) (hk : 960 + 4 * (laws (Int32.toNatClampNeg 6)).toInt ≤ k.toInt) : LQ laws size1 n := by
  have e6 : Int32.toNatClampNeg 6 = 6 := by decide
  rw [e6] at hk
  intro r j hr hj
  have h1 := h r j hr hj
  have h2 := hl r
  have h6 := hl 6
  rw [hs (160 * r + 4 * j) ?_]
  · exact h1
  · rcases hr with hr | hr
    · omega
    · subst hr
      omega
theorem lq_inc {laws laws1 size : Nat → Int32} {n x l : Int32} (h : LQ laws size n) (e : laws1 = upd laws (Int32.toNatClampNeg 6) x) (hx : x.toInt = (laws (Int32.toNatClampNeg 6)).toInt + 1) (hn : n.toInt ≤ 6) (hp : 1 ≤ (size (Int32.toNatClampNeg (4 * l))).toInt) (hl : l.toInt = 240 + (laws (Int32.toNatClampNeg 6)).toInt) (hr : rng 0 40 laws) : LQ laws1 size n := by
  have e6 : Int32.toNatClampNeg 6 = 6 := by decide
  rw [e6] at e hx hl
  have h6 := hr 6
  have e4 : (4 * l).toInt = 4 * l.toInt := z_muld (by decide) (by omega) (by omega)
  have a := clampI (x := 4 * l) (by omega)
  intro r j hrr hj
  by_cases q : r = 6
  · subst q
    rw [e, pk_us] at hj
    by_cases qj : (j : Int) < (laws 6).toInt
    · exact h 6 j (Or.inr rfl) qj
    · rw [show 160 * 6 + 4 * j = Int32.toNatClampNeg (4 * l) by omega]
      exact hp
  · rw [e, pk_un q] at hj
    exact h r j hrr hj
theorem pos_keep {size size1 : Nat → Int32} {k l : Int32} (hs : ∀ j : Nat, (j : Int) ≠ k.toInt → size1 j = size j) (h : 1 ≤ (size (Int32.toNatClampNeg l)).toInt) (hl : 0 ≤ l.toInt) (hne : l.toInt ≠ k.toInt) : 1 ≤ (size1 (Int32.toNatClampNeg l)).toInt := by
  rw [hs _ (by rw [clampI hl]; exact hne)]
  exact h
def mz (s e : Int32) : Int := if s.toInt = 4 then 0 else 2002 - e.toInt
theorem mz_lt {s e s1 e1 : Int32} (h : s1.toInt = 4 ∨ e.toInt < e1.toInt) (hs : s.toInt ≠ 4) (he : e.toInt ≤ 2001) : mz s1 e1 < mz s e ∧ 0 < mz s e := by
  have h2 : mz s e = 2002 - e.toInt := if_neg hs
  by_cases q : s1.toInt = 4
  · have h1 : mz s1 e1 = 0 := if_pos q
    omega
  · have h1 : mz s1 e1 = 2002 - e1.toInt := if_neg q
    omega
theorem mz_le (s : Int32) {e : Int32} (h1 : 0 ≤ e.toInt) (h2 : e.toInt ≤ 2001) : mz s e ≤ 2002 := by
  unfold mz
  split <;> omega
def psum (f : Nat → Int32) (a : Nat) : Nat → Int
  | 0 => 0
  | n + 1 => psum f a n + (f (a + n)).toInt
def WS (ways parts : Nat → Int32) (n : Int32) : Prop := ∀ w : Nat, (w : Int) < n.toInt → psum ways (24 * w) (parts w).toInt.toNat ≤ 24
theorem psum_congr {f g : Nat → Int32} {a b : Nat} : ∀ {n : Nat}, (∀ k, k < n → f (a + k) = g (b + k)) → psum f a n = psum g b n
  | 0, _ => rfl
  | n + 1, h => by
    show psum f a n + _ = psum g b n + _
    rw [psum_congr (fun k hk => h k (Nat.lt_succ_of_lt hk)), h n (Nat.lt_succ_self n)]
theorem psum_mono {f : Nat → Int32} {a n : Nat} (hf : rng 0 24 f) : ∀ d : Nat, psum f a n ≤ psum f a (n + d)
  | 0 => Int.le_refl _
  | d + 1 => by
    have h1 := psum_mono (a := a) (n := n) hf d
    have h2 := (hf (a + (n + d))).1
    show psum f a n ≤ psum f a (n + d) + (f (a + (n + d))).toInt
    omega
theorem ws_step {f parts : Nat → Int32} {P k ix n : Int32} (hf : rng 0 24 f) (hW : WS f parts n) (hP : 0 ≤ P.toInt) (hPn : P.toInt < n.toInt) (hk : 0 ≤ k.toInt) (hkm : k.toInt < (parts (Int32.toNatClampNeg P)).toInt) (hi : ix.toInt = 24 * P.toInt + k.toInt) : psum f (24 * P.toInt.toNat) (k.toInt.toNat + 1) = psum f (24 * P.toInt.toNat) k.toInt.toNat + (f (Int32.toNatClampNeg ix)).toInt ∧ psum f (24 * P.toInt.toNat) (k.toInt.toNat + 1) ≤ 24 := by
  have e : Int32.toNatClampNeg ix = 24 * P.toInt.toNat + k.toInt.toNat := by
    have := clampI (x := ix) (by omega)
    omega
  refine ⟨by rw [e]; rfl, ?_⟩
  have h1 := hW P.toInt.toNat (by omega)
  replace hkm : k.toInt < (parts P.toInt.toNat).toInt := hkm
  have h2 := psum_mono (a := 24 * P.toInt.toNat) (n := k.toInt.toNat + 1) hf ((parts P.toInt.toNat).toInt.toNat - (k.toInt.toNat + 1))
  rw [show k.toInt.toNat + 1 + ((parts P.toInt.toNat).toInt.toNat - (k.toInt.toNat + 1)) = (parts P.toInt.toNat).toInt.toNat by omega] at h2
  omega
theorem WS_zero {f p : Nat → Int32} : WS f p 0 := by
  intro w h
  have z : (0 : Int32).toInt = 0 := by decide
  exact absurd h (by omega)
theorem ps_push {f f0 f1 : Nat → Int32} {P n : Int32} (e : f1 = upd f (Int32.toNatClampNeg P) n) (hP : 0 ≤ P.toInt) (hpre : ∀ k : Nat, (k : Int) < P.toInt → f k = f0 k) : psum f1 0 (P.toInt.toNat + 1) = psum f0 0 P.toInt.toNat + n.toInt := by
  have ec : Int32.toNatClampNeg P = P.toInt.toNat := rfl
  have h1 : psum f1 0 P.toInt.toNat = psum f0 0 P.toInt.toNat := psum_congr (fun k hk => by
    rw [e, Nat.zero_add, pk_un (by rw [ec]; omega)]
    exact hpre k (by omega))
  show psum f1 0 P.toInt.toNat + (f1 (0 + P.toInt.toNat)).toInt = _
  rw [h1, e, Nat.zero_add, ← ec, pk_us]
theorem WS_add {ways ways1 parts parts1 lens : Nat → Int32} {n n1 many : Int32} (hW : WS ways parts n) (hn : n1.toInt = n.toInt + 1) (h0 : 0 ≤ n.toInt) (hp : rng 0 24 parts) (e1 : parts1 = upd parts (Int32.toNatClampNeg n) many) (hold : ∀ k : Nat, k < 24 * n.toInt.toNat → ways1 k = ways k) (hnew : ∀ k : Nat, (k : Int) < many.toInt → ways1 (24 * n.toInt.toNat + k) = lens k) (hs : psum lens 0 many.toInt.toNat ≤ 24) : WS ways1 parts1 n1 := by
  have ec : Int32.toNatClampNeg n = n.toInt.toNat := rfl
  intro w hw
  by_cases h : w = n.toInt.toNat
  · subst h
    rw [e1, ← ec, pk_us, ec, psum_congr (g := lens) (b := 0) (fun k hk => by rw [Nat.zero_add]; exact hnew k (by omega))]
    exact hs
  · have hw2 : (w : Int) < n.toInt := by omega
    have hb := hp w
    have := hW w hw2
    rw [e1, pk_un (by rw [ec]; exact h), psum_congr (g := ways) (b := 24 * w) (fun k hk => hold _ (by omega))]
    exact this
theorem lq_at {laws size : Nat → Int32} {n : Int32} (h : LQ laws size n) {r l : Int32} (hr : 0 ≤ r.toInt) (hrn : r.toInt < n.toInt) (h1 : 40 * r.toInt ≤ l.toInt) (h2 : l.toInt < 40 * r.toInt + (laws (Int32.toNatClampNeg r)).toInt) (h3 : l.toInt < 1000) : 1 ≤ (size (Int32.toNatClampNeg (4 * l))).toInt := by
  have e : (4 * l).toInt = 4 * l.toInt := z_muld (by decide) (by omega) (by omega)
  have a := clampI (x := 4 * l) (by omega)
  replace h2 : l.toInt < 40 * r.toInt + (laws r.toInt.toNat).toInt := h2
  have := h r.toInt.toNat (l.toInt - 40 * r.toInt).toNat (Or.inl (by omega)) (by omega)
  rwa [show 160 * r.toInt.toNat + 4 * (l.toInt - 40 * r.toInt).toNat = Int32.toNatClampNeg (4 * l) by omega] at this
abbrev MInv (g : Nat → Int32) (F : Nat → Nat → Int32) : Prop := ((0) ≤ (g 1).toInt ∧ (g 1).toInt ≤ 2000) ∧ ((0) ≤ (g 2).toInt ∧ (g 2).toInt ≤ 2000) ∧ ((0) ≤ (g 3).toInt ∧ (g 3).toInt ≤ 4) ∧ ((-1) ≤ (g 4).toInt ∧ (g 4).toInt ≤ 8) ∧ ((0) ≤ (g 5).toInt ∧ (g 5).toInt ≤ 2001) ∧ ((0) ≤ (g 6).toInt ∧ (g 6).toInt ≤ 2001) ∧ ((0) ≤ (g 7).toInt ∧ (g 7).toInt ≤ 4) ∧ ((-1) ≤ (g 8).toInt ∧ (g 8).toInt ≤ 2001) ∧ ((0) ≤ (g 9).toInt ∧ (g 9).toInt ≤ 6) ∧ ((0) ≤ (g 23).toInt ∧ (g 23).toInt ≤ 24) ∧ ((0) ≤ (g 27).toInt ∧ (g 27).toInt ≤ 30) ∧ ((0) ≤ (g 30).toInt ∧ (g 30).toInt ≤ 384) ∧ ((0) ≤ (g 34).toInt ∧ (g 34).toInt ≤ 30) ∧ ((0) ≤ (g 36).toInt ∧ (g 36).toInt ≤ 1) ∧ ((0) ≤ (g 39).toInt ∧ (g 39).toInt ≤ 12) ∧ ((0) ≤ (g 44).toInt ∧ (g 44).toInt ≤ 12) ∧ ((0) ≤ (g 47).toInt ∧ (g 47).toInt ≤ 30) ∧ ((0) ≤ (g 48).toInt ∧ (g 48).toInt ≤ 100) ∧ ((0) ≤ (g 51).toInt ∧ (g 51).toInt ≤ 1) ∧ ((0) ≤ (g 56).toInt ∧ (g 56).toInt ≤ 100) ∧ ((0) ≤ (g 59).toInt ∧ (g 59).toInt ≤ 200) ∧ ((0) ≤ (g 62).toInt ∧ (g 62).toInt ≤ 2500) ∧ ((0) ≤ (g 65).toInt ∧ (g 65).toInt ≤ 1) ∧ ((0) ≤ (g 66).toInt ∧ (g 66).toInt ≤ 2500) ∧ ((0) ≤ (g 70).toInt ∧ (g 70).toInt ≤ 40) ∧ rng (0) 40 (F 11) ∧ rng (0) 40 (F 12) ∧ rng (0) 40 (F 13) ∧ rng (-1) 16 (F 15) ∧ rng (-1) 16 (F 19) ∧ rng (-1) 16 (F 21) ∧ rng (0) 24 (F 24) ∧ rng (0) 24 (F 25) ∧ rng (0) 24 (F 26) ∧ rng (0) 24 (F 33) ∧ rng (0) 24 (F 38) ∧ rng (0) 24 (F 41) ∧ rng (0) 24 (F 43) ∧ rng (0) 24 (F 45) ∧ rng (0) 24 (F 46) ∧ rng (0) 24 (F 50) ∧ rng (0) 24 (F 53) ∧ rng (0) 12 (F 54) ∧ LQ (F 11) (F 15) (g 9)
set_option maxRecDepth 100000 in
theorem MInv_i {g : Nat → Int32} {F : Nat → Nat → Int32} (x0 : ((0) ≤ (g 1).toInt ∧ (g 1).toInt ≤ 2000)) (x1 : ((0) ≤ (g 2).toInt ∧ (g 2).toInt ≤ 2000)) (x2 : ((0) ≤ (g 3).toInt ∧ (g 3).toInt ≤ 4)) (x3 : ((-1) ≤ (g 4).toInt ∧ (g 4).toInt ≤ 8)) (x4 : ((0) ≤ (g 5).toInt ∧ (g 5).toInt ≤ 2001)) (x5 : ((0) ≤ (g 6).toInt ∧ (g 6).toInt ≤ 2001)) (x6 : ((0) ≤ (g 7).toInt ∧ (g 7).toInt ≤ 4)) (x7 : ((-1) ≤ (g 8).toInt ∧ (g 8).toInt ≤ 2001)) (x8 : ((0) ≤ (g 9).toInt ∧ (g 9).toInt ≤ 6)) (x9 : ((0) ≤ (g 23).toInt ∧ (g 23).toInt ≤ 24)) (x10 : ((0) ≤ (g 27).toInt ∧ (g 27).toInt ≤ 30)) (x11 : ((0) ≤ (g 30).toInt ∧ (g 30).toInt ≤ 384)) (x12 : ((0) ≤ (g 34).toInt ∧ (g 34).toInt ≤ 30)) (x13 : ((0) ≤ (g 36).toInt ∧ (g 36).toInt ≤ 1)) (x14 : ((0) ≤ (g 39).toInt ∧ (g 39).toInt ≤ 12)) (x15 : ((0) ≤ (g 44).toInt ∧ (g 44).toInt ≤ 12)) (x16 : ((0) ≤ (g 47).toInt ∧ (g 47).toInt ≤ 30)) (x17 : ((0) ≤ (g 48).toInt ∧ (g 48).toInt ≤ 100)) (x18 : ((0) ≤ (g 51).toInt ∧ (g 51).toInt ≤ 1)) (x19 : ((0) ≤ (g 56).toInt ∧ (g 56).toInt ≤ 100)) (x20 : ((0) ≤ (g 59).toInt ∧ (g 59).toInt ≤ 200)) (x21 : ((0) ≤ (g 62).toInt ∧ (g 62).toInt ≤ 2500)) (x22 : ((0) ≤ (g 65).toInt ∧ (g 65).toInt ≤ 1)) (x23 : ((0) ≤ (g 66).toInt ∧ (g 66).toInt ≤ 2500)) (x24 : ((0) ≤ (g 70).toInt ∧ (g 70).toInt ≤ 40)) (x25 : rng (0) 40 (F 11)) (x26 : rng (0) 40 (F 12)) (x27 : rng (0) 40 (F 13)) (x28 : rng (-1) 16 (F 15)) (x29 : rng (-1) 16 (F 19)) (x30 : rng (-1) 16 (F 21)) (x31 : rng (0) 24 (F 24)) (x32 : rng (0) 24 (F 25)) (x33 : rng (0) 24 (F 26)) (x34 : rng (0) 24 (F 33)) (x35 : rng (0) 24 (F 38)) (x36 : rng (0) 24 (F 41)) (x37 : rng (0) 24 (F 43)) (x38 : rng (0) 24 (F 45)) (x39 : rng (0) 24 (F 46)) (x40 : rng (0) 24 (F 50)) (x41 : rng (0) 24 (F 53)) (x42 : rng (0) 12 (F 54)) (x43 : LQ (F 11) (F 15) (g 9)) : MInv g F := ⟨x0, x1, x2, x3, x4, x5, x6, x7, x8, x9, x10, x11, x12, x13, x14, x15, x16, x17, x18, x19, x20, x21, x22, x23, x24, x25, x26, x27, x28, x29, x30, x31, x32, x33, x34, x35, x36, x37, x38, x39, x40, x41, x42, x43⟩
set_option maxRecDepth 100000 in
theorem MInv_e {g : Nat → Int32} {F : Nat → Nat → Int32} {Cg : Prop} (h : MInv g F) (k : (((0) ≤ (g 1).toInt ∧ (g 1).toInt ≤ 2000)) → (((0) ≤ (g 2).toInt ∧ (g 2).toInt ≤ 2000)) → (((0) ≤ (g 3).toInt ∧ (g 3).toInt ≤ 4)) → (((-1) ≤ (g 4).toInt ∧ (g 4).toInt ≤ 8)) → (((0) ≤ (g 5).toInt ∧ (g 5).toInt ≤ 2001)) → (((0) ≤ (g 6).toInt ∧ (g 6).toInt ≤ 2001)) → (((0) ≤ (g 7).toInt ∧ (g 7).toInt ≤ 4)) → (((-1) ≤ (g 8).toInt ∧ (g 8).toInt ≤ 2001)) → (((0) ≤ (g 9).toInt ∧ (g 9).toInt ≤ 6)) → (((0) ≤ (g 23).toInt ∧ (g 23).toInt ≤ 24)) → (((0) ≤ (g 27).toInt ∧ (g 27).toInt ≤ 30)) → (((0) ≤ (g 30).toInt ∧ (g 30).toInt ≤ 384)) → (((0) ≤ (g 34).toInt ∧ (g 34).toInt ≤ 30)) → (((0) ≤ (g 36).toInt ∧ (g 36).toInt ≤ 1)) → (((0) ≤ (g 39).toInt ∧ (g 39).toInt ≤ 12)) → (((0) ≤ (g 44).toInt ∧ (g 44).toInt ≤ 12)) → (((0) ≤ (g 47).toInt ∧ (g 47).toInt ≤ 30)) → (((0) ≤ (g 48).toInt ∧ (g 48).toInt ≤ 100)) → (((0) ≤ (g 51).toInt ∧ (g 51).toInt ≤ 1)) → (((0) ≤ (g 56).toInt ∧ (g 56).toInt ≤ 100)) → (((0) ≤ (g 59).toInt ∧ (g 59).toInt ≤ 200)) → (((0) ≤ (g 62).toInt ∧ (g 62).toInt ≤ 2500)) → (((0) ≤ (g 65).toInt ∧ (g 65).toInt ≤ 1)) → (((0) ≤ (g 66).toInt ∧ (g 66).toInt ≤ 2500)) → (((0) ≤ (g 70).toInt ∧ (g 70).toInt ≤ 40)) → (rng (0) 40 (F 11)) → (rng (0) 40 (F 12)) → (rng (0) 40 (F 13)) → (rng (-1) 16 (F 15)) → (rng (-1) 16 (F 19)) → (rng (-1) 16 (F 21)) → (rng (0) 24 (F 24)) → (rng (0) 24 (F 25)) → (rng (0) 24 (F 26)) → (rng (0) 24 (F 33)) → (rng (0) 24 (F 38)) → (rng (0) 24 (F 41)) → (rng (0) 24 (F 43)) → (rng (0) 24 (F 45)) → (rng (0) 24 (F 46)) → (rng (0) 24 (F 50)) → (rng (0) 24 (F 53)) → (rng (0) 12 (F 54)) → (LQ (F 11) (F 15) (g 9)) → Cg) : Cg := by
  obtain ⟨x0, x1, x2, x3, x4, x5, x6, x7, x8, x9, x10, x11, x12, x13, x14, x15, x16, x17, x18, x19, x20, x21, x22, x23, x24, x25, x26, x27, x28, x29, x30, x31, x32, x33, x34, x35, x36, x37, x38, x39, x40, x41, x42, x43⟩ := h
  exact k x0 x1 x2 x3 x4 x5 x6 x7 x8 x9 x10 x11 x12 x13 x14 x15 x16 x17 x18 x19 x20 x21 x22 x23 x24 x25 x26 x27 x28 x29 x30 x31 x32 x33 x34 x35 x36 x37 x38 x39 x40 x41 x42 x43
