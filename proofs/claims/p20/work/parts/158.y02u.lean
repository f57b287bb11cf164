/-! laws that are used -/
def bt (x : Int64) (k : Nat) : Bool := x.toBitVec.getLsbD k
theorem bt_0 {k : Nat} : bt 0 k = false := by
  show (0#64).getLsbD k = false
  exact BitVec.getLsbD_zero
theorem bt_or {x y : Int64} {k : Nat} : bt (x ||| y) k = (bt x k || bt y k) := by
  show (x.toBitVec ||| y.toBitVec).getLsbD k = _
  exact BitVec.getLsbD_or
theorem bt_shn : ∀ n, n < 40 → ∀ k, k < 64 → bt ((1 : Int64) <<< ((Int32.toInt64 (Int32.ofNat n)) &&& 63)) k = decide (n = k) := by
  unfold bt
  decide +kernel
theorem i32_of {i : Int32} (h : 0 ≤ i.toInt) (h2 : i.toInt ≤ 2000) : i = Int32.ofNat (Int32.toNatClampNeg i) := by
  have c := clampI h
  refine z_e ?_
  rw [ofN_eq (by omega)]
  exact c.symm
theorem bt_sh {i : Int32} {k : Nat} (h : 0 ≤ i.toInt) (h2 : i.toInt < 40) (hk : k < 64) : bt ((1 : Int64) <<< ((Int32.toInt64 i) &&& 63)) k = decide (Int32.toNatClampNeg i = k) := by
  have c := clampI h
  have e := bt_shn (Int32.toNatClampNeg i) (by omega) k hk
  rw [← i32_of h (by omega)] at e
  exact e
theorem sm_n : ∀ n, n < 40 → ((Int32.toInt64 (Int32.ofNat n)) &&& 63).toBitVec.smod 64 = BitVec.ofNat 64 n := by
  decide +kernel
theorem bt_rd {x : Int64} {i : Int32} (h : 0 ≤ i.toInt) (h2 : i.toInt < 40) : lg_cmp ((x >>> ((Int32.toInt64 i) &&& 63)) &&& 1) 1 = 0 ↔ bt x (Int32.toNatClampNeg i) = true := by
  have c := clampI h
  have hn : Int32.toNatClampNeg i < 40 := by omega
  have e1 : (x >>> ((Int32.toInt64 i) &&& 63)) &&& 1 = Int64.ofBitVec ((x.toBitVec.sshiftRight (Int32.toNatClampNeg i)) &&& 1#64) := by
    have s1 : ((Int32.toInt64 i) &&& 63).toBitVec.smod 64 = BitVec.ofNat 64 (Int32.toNatClampNeg i) := by
      have e := sm_n (Int32.toNatClampNeg i) hn
      rw [← i32_of h (by omega)] at e
      exact e
    have s2 : (x >>> ((Int32.toInt64 i) &&& 63)).toBitVec = x.toBitVec.sshiftRight (Int32.toNatClampNeg i) := by
      show BitVec.sshiftRight' x.toBitVec (((Int32.toInt64 i) &&& 63).toBitVec.smod 64) = _
      rw [s1]
      show x.toBitVec.sshiftRight (BitVec.ofNat 64 (Int32.toNatClampNeg i)).toNat = _
      rw [BitVec.toNat_ofNat, Nat.mod_eq_of_lt (by omega)]
    show Int64.ofBitVec ((x >>> ((Int32.toInt64 i) &&& 63)).toBitVec &&& (1 : Int64).toBitVec) = _
    rw [s2]
    rfl
  have e2 : (x.toBitVec.sshiftRight (Int32.toNatClampNeg i)).getLsbD 0 = bt x (Int32.toNatClampNeg i) := by
    rw [BitVec.getLsbD_sshiftRight, if_pos (by omega), Nat.add_zero]
    show (!decide (64 ≤ 0) && bt x (Int32.toNatClampNeg i)) = _
    rfl
  rw [e1, BitVec.and_one_eq_setWidth_ofBool_getLsbD, e2]
  cases bt x (Int32.toNatClampNeg i) with
  | false => decide +kernel
  | true => decide +kernel
def usO : List Lw → Wd → Nat → Nat → Bool
  | [], _, _, _ => false
  | L :: Ls, W, i, k => ((lawT L W).2 && decide (i = k)) || (if 24 < (lawT L W).1.length then false else usO Ls (lawT L W).1 (i + 1) k)
theorem usO_long {Ls : List Lw} {L : Lw} {W : Wd} {i j k : Nat} (h : Ls[i]? = some L) (hl : 24 < (lawT L W).1.length) : usO (Ls.drop i) W j k = ((lawT L W).2 && decide (j = k)) := by
  rw [drop_at h]
  show (((lawT L W).2 && decide (j = k)) || (if 24 < (lawT L W).1.length then false else _)) = _
  rw [if_pos hl, Bool.or_false]
theorem usO_step {Ls : List Lw} {L : Lw} {W : Wd} {i j k : Nat} (h : Ls[i]? = some L) (hl : (lawT L W).1.length ≤ 24) : usO (Ls.drop i) W j k = (((lawT L W).2 && decide (j = k)) || usO (Ls.drop (i + 1)) (lawT L W).1 (j + 1) k) := by
  rw [drop_at h]
  show (((lawT L W).2 && decide (j = k)) || (if 24 < (lawT L W).1.length then false else _)) = _
  rw [if_neg (by omega)]
theorem usO_end {Ls : List Lw} {W : Wd} {i j k : Nat} (h : Ls.length ≤ i) : usO (Ls.drop i) W j k = false := by
  rw [List.drop_eq_nil_of_le h]
  rfl
theorem us_n {a f e z : Bool} (h : f = false) : (a || ((f && e) || z)) = (a || z) := by
  rw [h, Bool.false_and, Bool.false_or]
theorem us_y {a f e z : Bool} (h : f = true) : (a || ((f && e) || z)) = ((a || e) || z) := by
  rw [h, Bool.true_and, Bool.or_assoc]
theorem us_n2 {a f e : Bool} (h : f = false) : (a || (f && e)) = a := by
  rw [h, Bool.false_and, Bool.or_false]
theorem us_y2 {a f e : Bool} (h : f = true) : (a || (f && e)) = (a || e) := by
  rw [h, Bool.true_and]
def usP (ls : List Lw) : List Wd → Nat → Bool
  | [], _ => false
  | x :: w, k => usO ls x 0 k || (if runL ls x = none then false else usP ls w k)
theorem usP_no {ls : List Lw} {w : List Wd} {x : Wd} {i k : Nat} (h : w[i]? = some x) (hr : runL ls x = none) : usP ls (w.drop i) k = usO ls x 0 k := by
  rw [drop_at h]
  show (usO ls x 0 k || (if runL ls x = none then false else _)) = _
  rw [if_pos hr, Bool.or_false]
theorem usP_yes {ls : List Lw} {w : List Wd} {x y : Wd} {i k : Nat} (h : w[i]? = some x) (hr : runL ls x = some y) : usP ls (w.drop i) k = (usO ls x 0 k || usP ls (w.drop (i + 1)) k) := by
  rw [drop_at h]
  show (usO ls x 0 k || (if runL ls x = none then false else _)) = _
  rw [if_neg (by rw [hr]; exact fun z => by cases z)]
theorem usP_end {ls : List Lw} {w : List Wd} {i k : Nat} (h : w.length ≤ i) : usP ls (w.drop i) k = false := by
  rw [List.drop_eq_nil_of_le h]
  rfl
theorem usP_1 {ls : List Lw} {W : Wd} {k : Nat} : usP ls [W] k = usO ls W 0 k := by
  show (usO ls W 0 k || (if runL ls W = none then false else false)) = _
  split <;> rw [Bool.or_false]
def usW (d : Dr) (W : Wd) (k : Nat) : Bool := match lkE d.1 W with
  | some _ => false
  | none => if cwF d W = [] then usO d.2.2 W 0 k else (cwF d W).any (fun w => usP d.2.2 w k)
theorem usW_some {d : Dr} {W : Wd} {k : Nat} {o : Option Wd} (h : lkE d.1 W = some o) : usW d W k = false := by
  unfold usW
  rw [h]
theorem usW_one {d : Dr} {W : Wd} {k : Nat} (h : lkE d.1 W = none) (h2 : cwF d W = []) : usW d W k = usO d.2.2 W 0 k := by
  unfold usW
  rw [h]
  exact if_pos h2
theorem usW_ways {d : Dr} {W : Wd} {k : Nat} (h : lkE d.1 W = none) (h2 : cwF d W ≠ []) : usW d W k = (cwF d W).any (fun w => usP d.2.2 w k) := by
  unfold usW
  rw [h]
  exact if_neg h2
theorem any_s {α : Type} {l : List α} {i : Nat} {x : α} {f : α → Bool} (h : l[i]? = some x) : (l.take (i + 1)).any f = ((l.take i).any f || f x) := by
  rw [List.take_add_one, h]
  show (l.take i ++ [x]).any f = _
  rw [List.any_append]
  show ((l.take i).any f || (f x || false)) = _
  rw [Bool.or_false]
theorem us_l1 {u u1 g g1 : Int} {f z : Bool} {i k : Nat} {R E : Prop} (h : (u ≠ 0 ∨ (g ≠ 0 ∧ (f && decide (i = k)) = true)) ↔ R) (h1 : u1 ≠ 0 ↔ (u ≠ 0 ∨ (f = true ∧ E))) (he : E ↔ i = k) (hg : g ≠ 0) (hg1 : g1 = 0) : (u1 ≠ 0 ∨ (g1 ≠ 0 ∧ z = true)) ↔ R := by
  rw [← h, h1, he, Bool.and_eq_true, decide_eq_true_eq]
  exact ⟨fun q => q.elim (fun a => a.elim Or.inl (fun b => Or.inr ⟨hg, b⟩)) (fun a => absurd hg1 a.1), fun q => Or.inl (q.elim Or.inl (fun a => Or.inr a.2))⟩
theorem us_l2 {u u1 g g1 : Int} {f z : Bool} {i k : Nat} {R E : Prop} (h : (u ≠ 0 ∨ (g ≠ 0 ∧ ((f && decide (i = k)) || z) = true)) ↔ R) (h1 : u1 ≠ 0 ↔ (u ≠ 0 ∨ (f = true ∧ E))) (he : E ↔ i = k) (hg : g ≠ 0) (hg1 : g1 ≠ 0) : (u1 ≠ 0 ∨ (g1 ≠ 0 ∧ z = true)) ↔ R := by
  rw [← h, h1, he, Bool.or_eq_true, Bool.and_eq_true, decide_eq_true_eq]
  exact ⟨fun q => q.elim (fun a => a.elim Or.inl (fun b => Or.inr ⟨hg, Or.inl b⟩)) (fun a => Or.inr ⟨hg, Or.inr a.2⟩), fun q => q.elim (fun a => Or.inl (Or.inl a)) (fun a => a.2.elim (fun b => Or.inl (Or.inr b)) (fun b => Or.inr ⟨hg1, b⟩))⟩
theorem us_e1 {u g : Int} {R : Prop} (h : (u ≠ 0 ∨ (g ≠ 0 ∧ false = true)) ↔ R) : u ≠ 0 ↔ R := by
  rw [← h]
  exact ⟨Or.inl, fun q => q.elim id (fun a => absurd a.2 (by decide))⟩
theorem us_e2 {u g : Int} {R Z : Prop} (h : (u ≠ 0 ∨ (g ≠ 0 ∧ Z)) ↔ R) (hg : g = 0) : u ≠ 0 ↔ R := by
  rw [← h]
  exact ⟨Or.inl, fun q => q.elim id (fun a => absurd hg a.1)⟩
theorem us_p1 {u u1 g g1 : Int} {a z : Bool} {R : Prop} (h : (u ≠ 0 ∨ (g ≠ 0 ∧ (a || z) = true)) ↔ R) (h2 : u1 ≠ 0 ↔ (u ≠ 0 ∨ a = true)) (hg : g ≠ 0) (hg1 : g1 ≠ 0) : (u1 ≠ 0 ∨ (g1 ≠ 0 ∧ z = true)) ↔ R := by
  rw [← h, h2, Bool.or_eq_true]
  exact ⟨fun q => q.elim (fun b => b.elim Or.inl (fun c => Or.inr ⟨hg, Or.inl c⟩)) (fun b => Or.inr ⟨hg, Or.inr b.2⟩), fun q => q.elim (fun b => Or.inl (Or.inl b)) (fun b => b.2.elim (fun c => Or.inl (Or.inr c)) (fun c => Or.inr ⟨hg1, c⟩))⟩
theorem us_p2 {u u1 g g1 : Int} {a z : Bool} {R : Prop} (h : (u ≠ 0 ∨ (g ≠ 0 ∧ a = true)) ↔ R) (h2 : u1 ≠ 0 ↔ (u ≠ 0 ∨ a = true)) (hg : g ≠ 0) (hg1 : g1 = 0) : (u1 ≠ 0 ∨ (g1 ≠ 0 ∧ z = true)) ↔ R := by
  rw [← h, h2]
  exact ⟨fun q => q.elim (fun b => b.elim Or.inl (fun c => Or.inr ⟨hg, c⟩)) (fun b => absurd hg1 b.1), fun q => Or.inl (q.elim Or.inl (fun b => Or.inr b.2))⟩
theorem us_t {u u1 : Int} {a b : Bool} {R : Prop} (h2 : u1 ≠ 0 ↔ (u ≠ 0 ∨ a = true)) (h1 : u ≠ 0 ↔ (R ∨ b = true)) : u1 ≠ 0 ↔ (R ∨ (b || a) = true) := by
  rw [h2, h1, Bool.or_eq_true, or_assoc]
theorem us_t2 {u u1 : Int} {a b : Bool} (h2 : u1 ≠ 0 ↔ (u ≠ 0 ∨ a = true)) (h1 : u ≠ 0 ↔ b = true) : u1 ≠ 0 ↔ (b || a) = true := by
  rw [h2, h1, Bool.or_eq_true]
def TPU (P : Nat → Option Nat) (X : Nat → Nat → Int64) (rf : Nat) (ps : List Wd) (ls : List Lw) : Prop := ∃ pu, P rf = some pu ∧ ∀ j x, ps[j]? = some x → ∀ k, k < 64 → bt (X pu j) k = usO ls x 0 k
theorem TPU_at {P : Nat → Option Nat} {X : Nat → Nat → Int64} {rf pu j k : Nat} {ps : List Wd} {ls : List Lw} {x : Wd} (h : TPU P X rf ps ls) (hp : P rf = some pu) (hx : ps[j]? = some x) (hk : k < 64) : bt (X pu j) k = usO ls x 0 k := by
  obtain ⟨p9, h1, h2⟩ := h
  have e : p9 = pu := Option.some.inj (h1.symm.trans hp)
  subst e
  exact h2 j x hx k hk
theorem TPU_fr {P P1 : Nat → Option Nat} {X X1 : Nat → Nat → Int64} {rf : Nat} {ps : List Wd} {ls : List Lw} (h : TPU P X rf ps ls) (h1 : P1 rf = P rf) (h2 : ∀ z, P rf = some z → X1 z = X z) : TPU P1 X1 rf ps ls := by
  obtain ⟨pu, a1, a2⟩ := h
  exact ⟨pu, h1.trans a1, fun j x hx k hk => by rw [h2 pu a1]; exact a2 j x hx k hk⟩
theorem uL_s {f : Nat → Int64} {k : Nat} {x : Int64} : vp_updL f k x k = x := if_pos rfl
theorem uL_n {f : Nat → Int64} {k j : Nat} {x : Int64} (h : j ≠ k) : vp_updL f k x j = f j := if_neg h
/-- what is kept of the laws that words of the book use -/
def LUT (X : Nat → Int64) (nb : Nat → Nat) (d : Nat → Dr) (F : Nat → Nat → List Wd) : Prop := ∀ s w, s < 6 → w < nb (s + 1) → ∀ k, k < 64 → bt (X (100 * s + w)) k = (F s w).any (fun W => usW (d s) W k)
theorem LUT_nb {X : Nat → Int64} {nb nc : Nat → Nat} {d : Nat → Dr} {F : Nat → Nat → List Wd} (h : LUT X nb d F) (hn : ∀ s, 1 ≤ s → s < 7 → nc s ≤ nb s) : LUT X nc d F := fun s w hs hw => h s w hs (Nat.lt_of_lt_of_le hw (hn (s + 1) (by omega) (by omega)))
theorem LUT_add {X X1 : Nat → Int64} {nb nc : Nat → Nat} {d : Nat → Dr} {F : Nat → Nat → List Wd} {s0 w0 i : Nat} {v : Int64} (h : LUT X nb d F) (e : X1 = vp_updL X i v) (hi : i = 100 * s0 + w0) (hv : ∀ k, k < 64 → bt v k = (F s0 w0).any (fun W => usW (d s0) W k)) (hn : ∀ s, s < 7 → s ≠ s0 + 1 → nc s = nb s) (h0 : nc (s0 + 1) = w0 + 1) (h1 : w0 ≤ nb (s0 + 1)) (hw : ∀ s, s < 7 → nb s ≤ 100) (hw0 : w0 < 100) : LUT X1 nc d F := by
  intro s w hs hwn k hk
  by_cases q : s = s0 ∧ w = w0
  · rw [q.1, q.2, e, hi, uL_s]
    exact hv k hk
  · have hb : w < nb (s + 1) := by
      by_cases e1 : s = s0
      · rw [e1, h0] at hwn
        rw [e1]
        have : w ≠ w0 := fun z => q ⟨e1, z⟩
        omega
      · rw [hn (s + 1) (by omega) (by omega)] at hwn
        exact hwn
    have h3 := hw (s + 1) (by omega)
    rw [e, uL_n (by by_cases e1 : s = s0; (have : w ≠ w0 := fun z => q ⟨e1, z⟩; omega); (omega))]
    exact h s w hs hb k hk
