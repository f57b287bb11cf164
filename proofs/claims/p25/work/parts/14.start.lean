/-! the start: array classes, String constants -/
theorem st_byte {args : Array Value} {s : State} (h : (Cond.arrayClass .byte).before args s = true) : ∃ cA : ClassId, ArrOfT s cA .byte ∧ va_RA s cA .byte := by
  obtain ⟨c, k, comp, h1, h2, h3⟩ := Cond.arrayClass_spec (args := args) (first := s) (o := none) (s := s) (idx := []) h
  exact ⟨c, fun n z => ⟨fun k h => (by cases h), k, h2, comp, h3⟩, h1⟩
theorem st_int {args : Array Value} {s : State} (h : (Cond.arrayClass .int).before args s = true) : ∃ cA : ClassId, ArrOfT s cA .int ∧ va_RA s cA .int := by
  obtain ⟨c, k, comp, h1, h2, h3⟩ := Cond.arrayClass_spec (args := args) (first := s) (o := none) (s := s) (idx := []) h
  exact ⟨c, fun n z => ⟨fun k h => (by cases h), k, h2, comp, h3⟩, h1⟩
theorem st_boolean {args : Array Value} {s : State} (h : (Cond.arrayClass .boolean).before args s = true) : ∃ cA : ClassId, ArrOfT s cA .boolean ∧ va_RA s cA .boolean := by
  obtain ⟨c, k, comp, h1, h2, h3⟩ := Cond.arrayClass_spec (args := args) (first := s) (o := none) (s := s) (idx := []) h
  exact ⟨c, fun n z => ⟨fun k h => (by cases h), k, h2, comp, h3⟩, h1⟩
theorem st_long {args : Array Value} {s : State} (h : (Cond.arrayClass .long).before args s = true) : ∃ cA : ClassId, ArrOfT s cA .long ∧ va_RA s cA .long := by
  obtain ⟨c, k, comp, h1, h2, h3⟩ := Cond.arrayClass_spec (args := args) (first := s) (o := none) (s := s) (idx := []) h
  exact ⟨c, fun n z => ⟨fun k h => (by cases h), k, h2, comp, h3⟩, h1⟩
theorem st_obj {C : String} {args : Array Value} {s : State} (h : (Cond.arrayOver (.object C)).before args s = true) : ∃ cA : ClassId, ArrOfT s cA (.object C) ∧ va_RA s cA (.object C) := by
  obtain ⟨comp, cA, kA, g1, g2, g3, g4, g5⟩ := Cond.arrayOver_spec (args := args) (first := s) (o := none) (s := s) (idx := []) h
  exact ⟨cA, fun n z => ⟨fun k h => (by cases h), kA, g3, comp, g4⟩, kA, comp, g3, g4, g1, g5⟩
theorem kk_start {args : Array Value} {s : State} {dC : Nat → ClassId} {dI : Nat → Nat → Nat} (hts : ∀ w ∈ lw_tbl, w.before args s = true) (hK : va_K (dC, dI) vwCl [] s) : ∃ kk : Nat → ClassId, va_K (dC, dI) vwCl (cT kk) s := by
  obtain ⟨c0, a0⟩ := st_byte (hts (.arrayClass .byte) (by decide +kernel))
  obtain ⟨c1, a1⟩ := st_int (hts (.arrayClass .int) (by decide +kernel))
  obtain ⟨c2, a2⟩ := st_boolean (hts (.arrayClass .boolean) (by decide +kernel))
  obtain ⟨c3, a3⟩ := st_long (hts (.arrayClass .long) (by decide +kernel))
  obtain ⟨c4, a4⟩ := st_obj (C := RX1) (hts (.arrayOver (.object RX1)) (by decide +kernel))
  obtain ⟨c5, a5⟩ := st_obj (C := RX10) (hts (.arrayOver (.object RX10)) (by decide +kernel))
  obtain ⟨c6, a6⟩ := st_obj (C := RX5) (hts (.arrayOver (.object RX5)) (by decide +kernel))
  refine ⟨fun k => [c0, c1, c2, c3, c4, c5, c6].getD k c0, hK.1, fun k q hq => ?_⟩
  match k, hq with
  | 0, hq => cases hq; exact a0
  | 1, hq => cases hq; exact a1
  | 2, hq => cases hq; exact a2
  | 3, hq => cases hq; exact a3
  | 4, hq => cases hq; exact a4
  | 5, hq => cases hq; exact a5
  | 6, hq => cases hq; exact a6
  | k + 7, hq => simp [cT] at hq
def tmS (i : Nat) : Term := [Term.string RX4 49, Term.string RX4 59, Term.string RX4 64, Term.string RX4 69, Term.string RX4 142, Term.string RX4 150, Term.string RX4 155, Term.string RX4 160, Term.string RX4 169, Term.string RX12 158].getD i (Term.string RX4 49)
set_option maxRecDepth 100000 in
theorem sm1 : ∀ i, i < 10 → Cond.exactly (tmS i) "java/lang/String" ∈ flatC (Jvm.Cond.and given_1 narrow_1) := by decide +kernel
set_option maxRecDepth 100000 in
theorem sm2 : ∀ i, i < 10 → Cond.eq (.field (tmS i) "java/lang/String" "coder" "B") (.int 0) ∈ flatC (Jvm.Cond.and given_1 narrow_1) := by decide +kernel
set_option maxRecDepth 100000 in
theorem sm3 : ∀ i, i < 10 → Cond.arrayOf (.field (tmS i) "java/lang/String" "value" "[B") .byte ∈ flatC (Jvm.Cond.and given_1 narrow_1) := by decide +kernel
set_option maxRecDepth 100000 in
theorem sm4 : ∀ i, i < 10 → Cond.eq (.length (.field (tmS i) "java/lang/String" "value" "[B")) (.int (Int32.ofNat (kwN.getD i 0))) ∈ flatC (Jvm.Cond.and given_1 narrow_1) := by decide +kernel
set_option maxRecDepth 100000 in
theorem sm5 : ∀ i, i < 10 → ∀ j, j < kwN.getD i 0 → Cond.eq (.elem (.field (tmS i) "java/lang/String" "value" "[B") (.int (Int32.ofNat j))) (.int ((kwB.getD i []).getD j 0)) ∈ flatC (Jvm.Cond.and given_1 narrow_1) := by decide +kernel
set_option maxRecDepth 100000 in
theorem sm6 : ∀ i, i < 10 → ∀ j, j < 10 → i ≠ j → Cond.not (Cond.eq (tmS i) (tmS j)) ∈ flatC (Jvm.Cond.and given_1 narrow_1) ∨ Cond.not (Cond.eq (tmS j) (tmS i)) ∈ flatC (Jvm.Cond.and given_1 narrow_1) := by decide +kernel
theorem se_start {b : Nat} {s : State} (hgv : (Jvm.Cond.and given_1 narrow_1).before #[Value.ref b] s = true) (hts : ∀ w ∈ lw_tbl, w.before #[Value.ref b] s = true) {A : Nat → Prop} (hA : ∀ a : Nat, a < s.heap.size → ¬ A a) : ∃ adK adV : Nat → Nat, SE adK adV A s := by
  have hs := flat_of_before _ hgv
  obtain ⟨adK, adV, hS, hR⟩ := vk_Sof (args := #[Value.ref b]) (s := s) (N := 10) (tm := tmS) (len := kwN) (byt := kwB) (A := A) (by decide) (fun i hi => hs _ (sm1 i hi)) (fun i hi => hs _ (sm2 i hi)) (fun i hi => hs _ (sm3 i hi)) (fun i hi => hs _ (sm4 i hi)) (fun i hi j hj => hs _ (sm5 i hi j hj)) (fun i j hi hj hn => (sm6 i hi j hj hn).elim (fun h => Or.inl (hs _ h)) (fun h => Or.inr (hs _ h))) hA
  refine ⟨adK, adV, hS, va_Zof (hts (.laysStatic "java/lang/String" "COMPACT_STRINGS" "Z") (by decide +kernel)) (hts (.initialized "java/lang/String") (by decide +kernel)) (va_eqt (hs (.eq (.static "java/lang/String" "COMPACT_STRINGS" "Z") (.int 1)) (by decide +kernel))) hA, va_Zqof (hts (.laysStatic "jdk/internal/util/Preconditions" "SIOOBE_FORMATTER" "Ljava/util/function/BiFunction;") (by decide +kernel)) (hts (.initialized "jdk/internal/util/Preconditions") (by decide +kernel)) (hs (.isRef (.static "jdk/internal/util/Preconditions" "SIOOBE_FORMATTER" "Ljava/util/function/BiFunction;")) (by decide +kernel)) hA, vk_R.of (A := #[Value.ref b]) (hts (.stringRef RX4 49 "keep") (by decide +kernel)) (hR 0 (by decide)), vk_R.of (A := #[Value.ref b]) (hts (.stringRef RX4 59 "list") (by decide +kernel)) (hR 1 (by decide)), vk_R.of (A := #[Value.ref b]) (hts (.stringRef RX4 64 "part") (by decide +kernel)) (hR 2 (by decide)), vk_R.of (A := #[Value.ref b]) (hts (.stringRef RX4 69 "law") (by decide +kernel)) (hR 3 (by decide)), vk_R.of (A := #[Value.ref b]) (hts (.stringRef RX4 142 "start") (by decide +kernel)) (hR 4 (by decide)), vk_R.of (A := #[Value.ref b]) (hts (.stringRef RX4 150 "end") (by decide +kernel)) (hR 5 (by decide)), vk_R.of (A := #[Value.ref b]) (hts (.stringRef RX4 155 "after") (by decide +kernel)) (hR 6 (by decide)), vk_R.of (A := #[Value.ref b]) (hts (.stringRef RX4 160 "before") (by decide +kernel)) (hR 7 (by decide)), vk_R.of (A := #[Value.ref b]) (hts (.stringRef RX4 169 "to") (by decide +kernel)) (hR 8 (by decide)), vk_R.of (A := #[Value.ref b]) (hts (.stringRef RX12 158 "keep list to part law start end after before ") (by decide +kernel)) (hR 9 (by decide))⟩
