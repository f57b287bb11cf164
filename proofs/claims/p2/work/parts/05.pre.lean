def rng (lo hi : Int) (f : Nat → Int32) : Prop := ∀ k, lo ≤ (f k).toInt ∧ (f k).toInt ≤ hi
theorem rng_upd {lo hi : Int} {f : Nat → Int32} {k : Nat} {x : Int32} (h : rng lo hi f) (h1 : lo ≤ x.toInt) (h2 : x.toInt ≤ hi) : rng lo hi (upd f k x) := by
  intro j
  unfold upd
  split
  · exact ⟨h1, h2⟩
  · exact h j
abbrev MInv (g : Nat → Int32) (F : Nat → Nat → Int32) : Prop := (0 ≤ (g 1).toInt ∧ (g 1).toInt ≤ 2000) ∧ (0 ≤ (g 2).toInt ∧ (g 2).toInt ≤ 2000) ∧ (0 ≤ (g 3).toInt ∧ (g 3).toInt ≤ 4) ∧ (-1 ≤ (g 4).toInt ∧ (g 4).toInt ≤ 8) ∧ (0 ≤ (g 5).toInt ∧ (g 5).toInt ≤ 2000) ∧ (0 ≤ (g 6).toInt ∧ (g 6).toInt ≤ 2001) ∧ (0 ≤ (g 7).toInt ∧ (g 7).toInt ≤ 4) ∧ (-1 ≤ (g 8).toInt ∧ (g 8).toInt ≤ 2000) ∧ (0 ≤ (g 9).toInt ∧ (g 9).toInt ≤ 6) ∧ (0 ≤ (g 23).toInt ∧ (g 23).toInt ≤ 24) ∧ (0 ≤ (g 27).toInt ∧ (g 27).toInt ≤ 30) ∧ (0 ≤ (g 30).toInt ∧ (g 30).toInt ≤ 384) ∧ (0 ≤ (g 34).toInt ∧ (g 34).toInt ≤ 30) ∧ (0 ≤ (g 36).toInt ∧ (g 36).toInt ≤ 1) ∧ (0 ≤ (g 39).toInt ∧ (g 39).toInt ≤ 12) ∧ (0 ≤ (g 44).toInt ∧ (g 44).toInt ≤ 12) ∧ (0 ≤ (g 47).toInt ∧ (g 47).toInt ≤ 30) ∧ (0 ≤ (g 48).toInt ∧ (g 48).toInt ≤ 100) ∧ (0 ≤ (g 51).toInt ∧ (g 51).toInt ≤ 1) ∧ (0 ≤ (g 56).toInt ∧ (g 56).toInt ≤ 100) ∧ (0 ≤ (g 59).toInt ∧ (g 59).toInt ≤ 200) ∧ (0 ≤ (g 62).toInt ∧ (g 62).toInt ≤ 2500) ∧ (0 ≤ (g 65).toInt ∧ (g 65).toInt ≤ 1) ∧ (0 ≤ (g 66).toInt ∧ (g 66).toInt ≤ 2500) ∧ (0 ≤ (g 70).toInt ∧ (g 70).toInt ≤ 40) ∧ rng (0) 40 (F 11) ∧ rng (0) 40 (F 12) ∧ rng (0) 40 (F 13) ∧ rng (-1) 16 (F 15) ∧ rng (0) 16 (F 19) ∧ rng (-1) 16 (F 21) ∧ rng (0) 24 (F 24) ∧ rng (0) 24 (F 25) ∧ rng (0) 24 (F 26) ∧ rng (0) 24 (F 33) ∧ rng (0) 24 (F 38) ∧ rng (0) 24 (F 41) ∧ rng (0) 24 (F 43) ∧ rng (0) 24 (F 45) ∧ rng (0) 24 (F 46) ∧ rng (0) 24 (F 50) ∧ rng (0) 24 (F 53) ∧ rng (0) 12 (F 54)
theorem z_01 {v : Int32} (h : 0 ≤ v.toInt ∧ v.toInt ≤ 1) : v = 0 ∨ v = 1 := by
  rcases (show v.toInt = 0 ∨ v.toInt = 1 by omega) with q | q
  · exact Or.inl (z_e (by rw [q]; decide))
  · exact Or.inr (z_e (by rw [q]; decide))
theorem z_nb {v : Int32} (h : 0 ≤ v.toInt ∧ v.toInt ≤ 1) : narrow .boolean (.int v) = .int v := by
  rcases z_01 h with rfl | rfl <;> rfl
theorem z_fb {v : Int32} (h : 0 ≤ v.toInt ∧ v.toInt ≤ 1) : fits .boolean (.int v) = true := by
  rcases z_01 h with rfl | rfl <;> rfl
theorem z_and255 (x : Int32) : 0 ≤ (x &&& 255).toInt ∧ (x &&& 255).toInt ≤ 255 := by
  obtain ⟨j, hj, e⟩ := pk_andE x (m := 255) 8 (by decide)
  rw [e, nI_toInt (by omega)]
  omega
