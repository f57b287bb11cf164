/-! the reference: fields by number (g: ints, q: addresses of arrays, F: their contents) -/
abbrev mFs (g : Nat → Int32) (q : Nat → Nat) : List Value := .ref (q 0) :: .int (g 1) :: .int (g 2) :: .int (g 3) :: .int (g 4) :: .int (g 5) :: .int (g 6) :: .int (g 7) :: .int (g 8) :: .int (g 9) :: .ref (q 10) :: .ref (q 11) :: .ref (q 12) :: .ref (q 13) :: .ref (q 14) :: .ref (q 15) :: .ref (q 16) :: .ref (q 17) :: .ref (q 18) :: .ref (q 19) :: .ref (q 20) :: .ref (q 21) :: .ref (q 22) :: .int (g 23) :: .ref (q 24) :: .ref (q 25) :: .ref (q 26) :: .int (g 27) :: .ref (q 28) :: .ref (q 29) :: .int (g 30) :: .ref (q 31) :: .ref (q 32) :: .ref (q 33) :: .int (g 34) :: .int (g 35) :: .int (g 36) :: .ref (q 37) :: .ref (q 38) :: .int (g 39) :: .ref (q 40) :: .ref (q 41) :: .ref (q 42) :: .ref (q 43) :: .int (g 44) :: .ref (q 45) :: .ref (q 46) :: .int (g 47) :: .int (g 48) :: .ref (q 49) :: .ref (q 50) :: .int (g 51) :: .ref (q 52) :: .ref (q 53) :: .ref (q 54) :: .ref (q 55) :: .int (g 56) :: .ref (q 57) :: .ref (q 58) :: .int (g 59) :: .ref (q 60) :: .ref (q 61) :: .int (g 62) :: .ref (q 63) :: .ref (q 64) :: .int (g 65) :: .int (g 66) :: .ref (q 67) :: .ref (q 68) :: .ref (q 69) :: .int (g 70) :: []
abbrev mW (h0 : Nat) (kB kI kZ : ClassId) (q : Nat → Nat) (g : Nat → Int32) (F : Nat → Nat → Int32) : va_W := (h0, .inr (12, mFs g q)) :: (q 0, .inl (kB, 2000, .inl (F 0))) :: (q 10, .inl (kI, 7, .inl (F 10))) :: (q 11, .inl (kI, 7, .inl (F 11))) :: (q 12, .inl (kI, 7, .inl (F 12))) :: (q 13, .inl (kI, 7, .inl (F 13))) :: (q 14, .inl (kB, 17920, .inl (F 14))) :: (q 15, .inl (kI, 1120, .inl (F 15))) :: (q 16, .inl (kZ, 280, .inl (F 16))) :: (q 17, .inl (kZ, 280, .inl (F 17))) :: (q 18, .inl (kB, 4480, .inl (F 18))) :: (q 19, .inl (kI, 280, .inl (F 19))) :: (q 20, .inl (kB, 8960, .inl (F 20))) :: (q 21, .inl (kI, 560, .inl (F 21))) :: (q 22, .inl (kB, 24, .inl (F 22))) :: (q 24, .inl (kI, 24, .inl (F 24))) :: (q 25, .inl (kI, 720, .inl (F 25))) :: (q 26, .inl (kI, 30, .inl (F 26))) :: (q 28, .inl (kZ, 25, .inl (F 28))) :: (q 29, .inl (kB, 400, .inl (F 29))) :: (q 31, .inl (kB, 400, .inl (F 31))) :: (q 32, .inl (kB, 720, .inl (F 32))) :: (q 33, .inl (kI, 30, .inl (F 33))) :: (q 37, .inl (kB, 288, .inl (F 37))) :: (q 38, .inl (kI, 12, .inl (F 38))) :: (q 40, .inl (kB, 288, .inl (F 40))) :: (q 41, .inl (kI, 12, .inl (F 41))) :: (q 42, .inl (kB, 288, .inl (F 42))) :: (q 43, .inl (kI, 12, .inl (F 43))) :: (q 45, .inl (kI, 720, .inl (F 45))) :: (q 46, .inl (kI, 30, .inl (F 46))) :: (q 49, .inl (kB, 2400, .inl (F 49))) :: (q 50, .inl (kI, 100, .inl (F 50))) :: (q 52, .inl (kB, 201600, .inl (F 52))) :: (q 53, .inl (kI, 8400, .inl (F 53))) :: (q 54, .inl (kI, 700, .inl (F 54))) :: (q 55, .inl (kI, 100, .inl (F 55))) :: (q 57, .inl (kB, 24, .inl (F 57))) :: (q 58, .inl (kI, 200, .inl (F 58))) :: (q 60, .inl (kB, 2500, .inl (F 60))) :: (q 61, .inl (kB, 2500, .inl (F 61))) :: (q 63, .inl (kI, 5, .inl (F 63))) :: (q 64, .inl (kI, 5, .inl (F 64))) :: (q 67, .inl (kI, 280, .inl (F 67))) :: (q 68, .inl (kI, 287, .inl (F 68))) :: (q 69, .inl (kI, 40, .inl (F 69))) :: []
abbrev mT (kB kI kZ : ClassId) : List (ClassId × FieldType) := [(kB, .byte), (kI, .int), (kZ, .boolean)]
def upF (F : Nat → Nat → Int32) (j : Nat) (f : Nat → Int32) : Nat → Nat → Int32 := fun i => if i = j then f else F i
theorem z_add {a b : Int32} (h1 : -2147483648 ≤ a.toInt + b.toInt) (h2 : a.toInt + b.toInt < 2147483648) : (a + b).toInt = a.toInt + b.toInt := by
  rw [Int32.toInt_add]
  exact Int.bmod_eq_of_le (by omega) (by omega)
theorem z_sub {a b : Int32} (h1 : -2147483648 ≤ a.toInt - b.toInt) (h2 : a.toInt - b.toInt < 2147483648) : (a - b).toInt = a.toInt - b.toInt := by
  rw [Int32.toInt_sub]
  exact Int.bmod_eq_of_le (by omega) (by omega)
theorem z_mul {a b : Int32} (h1 : -2147483648 ≤ a.toInt * b.toInt) (h2 : a.toInt * b.toInt < 2147483648) : (a * b).toInt = a.toInt * b.toInt := by
  rw [Int32.toInt_mul]
  exact Int.bmod_eq_of_le (by omega) (by omega)
theorem z_in {i : Int32} {n : Nat} (h1 : 0 ≤ i.toInt) (h2 : i.toInt < n) : vp_in i n := vp_in_iff.mpr ⟨h1, h2⟩
theorem z_nlt {a b : Int32} (h : ¬ a < b) : b.toInt ≤ a.toInt := by
  have := mt (z_lt a b).mpr h
  omega
theorem z_nle {a b : Int32} (h : ¬ a ≤ b) : b.toInt < a.toInt := by
  have := mt (z_le a b).mpr h
  omega
theorem z_ne {a b : Int32} (h : ¬ a = b) : a.toInt ≠ b.toInt := fun q => h (z_e q)
