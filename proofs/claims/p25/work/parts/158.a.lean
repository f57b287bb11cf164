/-! reading: tokens -/
abbrev blk (x : Int32) : Prop := x.toInt = 32 ∨ x.toInt = 10
abbrev sml (x : Int32) : Prop := 97 ≤ x.toInt ∧ x.toInt ≤ 122
def tSkF (f : Nat → Int32) (n : Nat) : Nat → Nat → Nat
  | 0, e => e
  | k + 1, e => if e < n ∧ blk (f e) then tSkF f n k (e + 1) else e
def tP (f : Nat → Int32) (n e : Nat) : Nat := tSkF f n (n - e) e
theorem tP_step {f : Nat → Int32} {n e : Nat} (h : e < n) (hb : blk (f e)) : tP f n e = tP f n (e + 1) := by
  unfold tP
  rw [show n - e = (n - (e + 1)) + 1 by omega]
  exact if_pos ⟨h, hb⟩
theorem tP_stop {f : Nat → Int32} {n e : Nat} (h : ¬ (e < n ∧ blk (f e))) : tP f n e = e := by
  unfold tP
  cases n - e with
  | zero => rfl
  | succ k => exact if_neg h
def tRnF (f : Nat → Int32) (n : Nat) : Nat → Nat → Nat
  | 0, _ => 0
  | k + 1, s => if s < n ∧ sml (f s) then tRnF f n k (s + 1) + 1 else 0
def tRn (f : Nat → Int32) (n s : Nat) : Nat := tRnF f n (n - s) s
theorem tRn_step {f : Nat → Int32} {n s : Nat} (h : s < n) (hb : sml (f s)) : tRn f n s = tRn f n (s + 1) + 1 := by
  unfold tRn
  rw [show n - s = (n - (s + 1)) + 1 by omega]
  exact if_pos ⟨h, hb⟩
theorem tRn_stop {f : Nat → Int32} {n s : Nat} (h : ¬ (s < n ∧ sml (f s))) : tRn f n s = 0 := by
  unfold tRn
  cases n - s with
  | zero => rfl
  | succ k => exact if_neg h
theorem tRn_mem {f : Nat → Int32} {n : Nat} : ∀ (j s : Nat), j < tRn f n s → s + j < n ∧ sml (f (s + j)) := by
  intro j
  induction j with
  | zero =>
    intro s hj
    by_cases q : s < n ∧ sml (f s)
    · exact q
    · rw [tRn_stop q] at hj
      exact absurd hj (Nat.not_lt_zero _)
  | succ j ih =>
    intro s hj
    by_cases q : s < n ∧ sml (f s)
    · rw [tRn_step q.1 q.2] at hj
      have h := ih (s + 1) (by omega)
      rw [show s + (j + 1) = s + 1 + j by omega]
      exact h
    · rw [tRn_stop q] at hj
      exact absurd hj (Nat.not_lt_zero _)
theorem tRn_le {f : Nat → Int32} {n s : Nat} : tRn f n s ≤ n - s := by
  by_cases q : tRn f n s = 0
  · omega
  · have h := (tRn_mem (f := f) (n := n) (tRn f n s - 1) s (by omega)).1
    omega
abbrev tLok (f : Nat → Int32) (n p : Nat) : Prop := tRn f n (p + 1) ≤ 16 ∧ p + 1 + tRn f n (p + 1) < n ∧ (f (p + 1 + tRn f n (p + 1))).toInt = 39
theorem tLet {f : Nat → Int32} {n p m : Nat} (h16 : m ≤ 16) (hm : m ≤ tRn f n (p + 1)) (h : m = tRn f n (p + 1) ∨ m = 16) : (p + 1 + m < n ∧ (f (p + 1 + m)).toInt = 39) ↔ tLok f n p := by
  by_cases q : m = tRn f n (p + 1)
  · constructor
    · intro z
      rw [q] at z
      exact ⟨by omega, z⟩
    · intro z
      rw [q]
      exact z.2
  · constructor
    · intro z
      have h2 := (tRn_mem (f := f) (n := n) m (p + 1) (by omega)).2
      exact absurd z.2 (by omega)
    · intro z
      exact absurd z.1 (by omega)
def tK (f : Nat → Int32) (n e : Nat) : Nat := if n ≤ tP f n e then 0 else if (f (tP f n e)).toInt = 59 then 3 else if (f (tP f n e)).toInt = 39 then (if tLok f n (tP f n e) then 2 else 4) else if 0 < tRn f n (tP f n e) then 1 else 4
def tL (f : Nat → Int32) (n e : Nat) : Nat := if (f (tP f n e)).toInt = 39 then tRn f n (tP f n e + 1) else tRn f n (tP f n e)
def tE (f : Nat → Int32) (n e : Nat) : Nat := if tK f n e = 0 then tP f n e else if tK f n e = 3 then tP f n e + 1 else if tK f n e = 2 then tP f n e + tL f n e + 2 else tP f n e + tL f n e
def TKC (f : Nat → Int32) (n e : Nat) (tok pl st len at_ : Int) : Prop := pl = (tP f n e : Int) ∧ tok = (tK f n e : Int) ∧ (tok = 0 → at_ = (tE f n e : Int)) ∧ (tok = 1 → st = (tP f n e : Int) ∧ len = (tL f n e : Int) ∧ at_ = (tE f n e : Int)) ∧ (tok = 2 → st = (tP f n e : Int) + 1 ∧ len = (tL f n e : Int) ∧ at_ = (tE f n e : Int)) ∧ (tok = 3 → at_ = (tE f n e : Int))
theorem tkc_end {f : Nat → Int32} {n e p : Nat} {tok pl st len at_ : Int} (hp : tP f n e = p) (h1 : n ≤ p) (ht : tok = 0) (hpl : pl = (p : Int)) (ha : at_ = (p : Int)) : TKC f n e tok pl st len at_ := by
  subst hp
  have hk : tK f n e = 0 := by unfold tK; rw [if_pos h1]
  have he : tE f n e = tP f n e := by unfold tE; rw [if_pos hk]
  refine ⟨hpl, by omega, fun _ => by omega, fun h => by omega, fun h => by omega, fun h => by omega⟩
theorem tkc_close {f : Nat → Int32} {n e p : Nat} {tok pl st len at_ : Int} (hp : tP f n e = p) (h1 : p < n) (h2 : (f p).toInt = 59) (ht : tok = 3) (hpl : pl = (p : Int)) (ha : at_ = (p : Int) + 1) : TKC f n e tok pl st len at_ := by
  subst hp
  have hk : tK f n e = 3 := by unfold tK; rw [if_neg (by omega), if_pos h2]
  have he : tE f n e = tP f n e + 1 := by unfold tE; rw [if_neg (by omega), if_pos hk]
  refine ⟨hpl, by omega, fun h => by omega, fun h => by omega, fun h => by omega, fun _ => by omega⟩
theorem tkc_let {f : Nat → Int32} {n e p m : Nat} {tok pl st len at_ : Int} (hp : tP f n e = p) (h1 : p < n) (h2 : (f p).toInt = 39) (h16 : m ≤ 16) (hm : m ≤ tRn f n (p + 1)) (hr : m = tRn f n (p + 1) ∨ m = 16) (ht : (tok = 2 ∧ p + 1 + m < n ∧ (f (p + 1 + m)).toInt = 39) ∨ (tok = 4 ∧ ¬ (p + 1 + m < n ∧ (f (p + 1 + m)).toInt = 39))) (hpl : pl = (p : Int)) (hst : st = (p : Int) + 1) (hlen : len = (m : Int)) (ha : at_ = (p : Int) + 1 + (m : Int) + 1) : TKC f n e tok pl st len at_ := by
  subst hp
  have hL : tL f n e = tRn f n (tP f n e + 1) := by unfold tL; rw [if_pos h2]
  rcases ht with ⟨ht, hok⟩ | ⟨ht, hno⟩
  · have hok2 := (tLet h16 hm hr).mp hok
    have hk : tK f n e = 2 := by unfold tK; rw [if_neg (by omega), if_neg (by omega), if_pos h2, if_pos hok2]
    have he : tE f n e = tP f n e + tL f n e + 2 := by unfold tE; rw [if_neg (by omega), if_neg (by omega), if_pos hk]
    have h9 := hok2.1
    refine ⟨hpl, by omega, fun h => by omega, fun h => by omega, fun _ => ⟨hst, by omega, by omega⟩, fun h => by omega⟩
  · have hno2 : ¬ tLok f n (tP f n e) := fun z => hno ((tLet h16 hm hr).mpr z)
    have hk : tK f n e = 4 := by unfold tK; rw [if_neg (by omega), if_neg (by omega), if_pos h2, if_neg hno2]
    refine ⟨hpl, by omega, fun h => by omega, fun h => by omega, fun h => by omega, fun h => by omega⟩
theorem tkc_word {f : Nat → Int32} {n e p m : Nat} {tok pl st len at_ : Int} (hp : tP f n e = p) (h1 : p < n) (h2 : (f p).toInt ≠ 59) (h3 : (f p).toInt ≠ 39) (hm : m = tRn f n p) (ht : (tok = 1 ∧ 1 ≤ m) ∨ (tok = 4 ∧ m = 0)) (hpl : pl = (p : Int)) (hst : st = (p : Int)) (hlen : len = (m : Int)) (ha : at_ = (p : Int) + (m : Int)) : TKC f n e tok pl st len at_ := by
  subst hp
  have hL : tL f n e = tRn f n (tP f n e) := by unfold tL; rw [if_neg h3]
  rcases ht with ⟨ht, hok⟩ | ⟨ht, hno⟩
  · have hk : tK f n e = 1 := by unfold tK; rw [if_neg (by omega), if_neg h2, if_neg h3, if_pos (by omega)]
    have he : tE f n e = tP f n e + tL f n e := by unfold tE; rw [if_neg (by omega), if_neg (by omega), if_neg (by omega)]
    refine ⟨hpl, by omega, fun h => by omega, fun _ => ⟨hst, by omega, by omega⟩, fun h => by omega, fun h => by omega⟩
  · have hk : tK f n e = 4 := by unfold tK; rw [if_neg (by omega), if_neg h2, if_neg h3, if_neg (by omega)]
    refine ⟨hpl, by omega, fun h => by omega, fun h => by omega, fun h => by omega, fun h => by omega⟩
def kws : Nat → List Int
  | 0 => [107, 101, 101, 112]
  | 1 => [108, 105, 115, 116]
  | 2 => [116, 111]
  | 3 => [112, 97, 114, 116]
  | 4 => [108, 97, 119]
  | 5 => [115, 116, 97, 114, 116]
  | 6 => [101, 110, 100]
  | 7 => [97, 102, 116, 101, 114]
  | 8 => [98, 101, 102, 111, 114, 101]
  | _ => []
def isk (f : Nat → Int32) (p m k : Nat) : Prop := m = (kws k).length ∧ ∀ i : Nat, i < m → (f (p + i)).toInt = (kws k).getD i 0
theorem isk_u {f : Nat → Int32} {p m j k : Nat} (hj : j < 9) (hk : k < 9) (h1 : isk f p m j) (h2 : isk f p m k) : j = k := by
  have hl : (kws j).length = (kws k).length := h1.1.symm.trans h2.1
  have ha : ∀ i : Nat, i < (kws j).length → (kws j).getD i 0 = (kws k).getD i 0 := fun i hi => (h1.2 i (by rw [h1.1]; exact hi)).symm.trans (h2.2 i (by rw [h1.1]; exact hi))
  have key : ∀ j, j < 9 → ∀ k, k < 9 → (kws j).length = (kws k).length → (∀ i, i < (kws j).length → (kws j).getD i 0 = (kws k).getD i 0) → j = k := by decide
  exact key j hj k hk hl ha
def kwix : Nat → Nat
  | 0 => 0
  | 1 => 1
  | 2 => 3
  | 3 => 4
  | 4 => 5
  | 5 => 6
  | 6 => 7
  | 7 => 8
  | _ => 2
theorem kw_all : ∀ j, j < 9 → (kwl j).toInt = ((kws (kwix j)).length : Int) ∧ ∀ i, i < (kws (kwix j)).length → (kwc j i).toInt = (kws (kwix j)).getD i 0 := by decide +kernel
theorem and255 {x : Int32} (h : fits .byte (.int x) = true) : ((x &&& 255).toInt = x.toInt ∧ 0 ≤ x.toInt) ∨ ((x &&& 255).toInt = x.toInt + 256 ∧ x.toInt < 0 ∧ -128 ≤ x.toInt) := by
  have h1 : (-128 : Int32).toInt = -128 := by decide
  have h2 : (127 : Int32).toInt = 127 := by decide
  simp only [fits, Bool.and_eq_true, decide_eq_true_eq, Int32.le_iff_toInt_le, h1, h2] at h
  have key : ∀ b : Int8, ((b.toInt32 &&& 255).toInt = b.toInt32.toInt ∧ 0 ≤ b.toInt32.toInt) ∨ ((b.toInt32 &&& 255).toInt = b.toInt32.toInt + 256 ∧ b.toInt32.toInt < 0 ∧ -128 ≤ b.toInt32.toInt) := by
    intro b
    obtain ⟨v⟩ := b
    obtain ⟨w⟩ := v
    revert w
    decide +kernel
  have e : x = (x.toInt8).toInt32 := by
    apply z_e
    rw [Int8.toInt_toInt32, Int32.toInt_toInt8]
    exact (Int.bmod_eq_of_le (by omega) (by omega)).symm
  rw [e]
  exact key _
def TKS (f : Nat → Int32) (n e : Nat) (sort what at_ end_ : Int) : Prop := at_ = (tP f n e : Int) ∧ ((tK f n e = 0 ∧ sort = 4 ∧ end_ = (tE f n e : Int)) ∨ (tK f n e = 1 ∧ end_ = (tE f n e : Int) ∧ ((sort = 1 ∧ 0 ≤ what ∧ what < 9 ∧ isk f (tP f n e) (tL f n e) what.toNat) ∨ (sort = 0 ∧ ∀ k : Nat, k < 9 → ¬ isk f (tP f n e) (tL f n e) k))) ∨ (tK f n e = 2 ∧ sort = 2 ∧ end_ = (tE f n e : Int)) ∨ (tK f n e = 3 ∧ sort = 3 ∧ end_ = (tE f n e : Int)) ∨ (tK f n e = 4 ∧ sort = 0))
theorem tks_end {f : Nat → Int32} {n e p : Nat} {sort what at_ end_ : Int} (hp : tP f n e = p) (h1 : n ≤ p) (hs : sort = 4) (ha : at_ = (p : Int)) (he : end_ = (p : Int)) : TKS f n e sort what at_ end_ := by
  subst hp
  have hk : tK f n e = 0 := by unfold tK; rw [if_pos h1]
  have hE : tE f n e = tP f n e := by unfold tE; rw [if_pos hk]
  exact ⟨ha, Or.inl ⟨hk, hs, by omega⟩⟩
theorem tks_word {f : Nat → Int32} {n e p m : Nat} {sort what at_ end_ : Int} (hp : tP f n e = p) (h1 : p < n) (h2 : sml (f p)) (hm : tRn f n p = m) (ha : at_ = (p : Int)) (he : end_ = (p : Int) + (m : Int)) (hw : (sort = 1 ∧ 0 ≤ what ∧ what < 9 ∧ isk f p m what.toNat) ∨ (sort = 0 ∧ ∀ k : Nat, k < 9 → ¬ isk f p m k)) : TKS f n e sort what at_ end_ := by
  subst hp
  have h0 := tRn_step h1 h2
  have hn3 : (f (tP f n e)).toInt ≠ 39 := by have := h2.1; omega
  have hL : tL f n e = tRn f n (tP f n e) := by unfold tL; rw [if_neg hn3]
  have hk : tK f n e = 1 := by unfold tK; rw [if_neg (by omega), if_neg (by have := h2.1; omega), if_neg hn3, if_pos (by omega)]
  have hE : tE f n e = tP f n e + tL f n e := by unfold tE; rw [if_neg (by omega), if_neg (by omega), if_neg (by omega)]
  refine ⟨ha, Or.inr (Or.inl ⟨hk, by omega, ?_⟩)⟩
  rw [hL, hm]
  exact hw
theorem tks_let {f : Nat → Int32} {n e p m : Nat} {sort what at_ end_ : Int} (hp : tP f n e = p) (h1 : p < n) (h2 : (f p).toInt = 39) (hm : tRn f n (p + 1) = m) (ha : at_ = (p : Int)) (he : end_ = (p : Int) + 1 + (m : Int) + 1) (hw : (sort = 2 ∧ m ≤ 16 ∧ p + 1 + m < n ∧ (f (p + 1 + m)).toInt = 39) ∨ (sort = 0 ∧ ¬ (m ≤ 16 ∧ p + 1 + m < n ∧ (f (p + 1 + m)).toInt = 39))) : TKS f n e sort what at_ end_ := by
  subst hp
  subst hm
  have hL : tL f n e = tRn f n (tP f n e + 1) := by unfold tL; rw [if_pos h2]
  rcases hw with ⟨hs, hok⟩ | ⟨hs, hno⟩
  · have hk : tK f n e = 2 := by unfold tK; rw [if_neg (by omega), if_neg (by omega), if_pos h2, if_pos hok]
    have hE : tE f n e = tP f n e + tL f n e + 2 := by unfold tE; rw [if_neg (by omega), if_neg (by omega), if_pos hk]
    exact ⟨ha, Or.inr (Or.inr (Or.inl ⟨hk, hs, by omega⟩))⟩
  · have hk : tK f n e = 4 := by unfold tK; rw [if_neg (by omega), if_neg (by omega), if_pos h2, if_neg hno]
    exact ⟨ha, Or.inr (Or.inr (Or.inr (Or.inr ⟨hk, hs⟩)))⟩
theorem tks_sign {f : Nat → Int32} {n e p : Nat} {sort what at_ end_ : Int} (hp : tP f n e = p) (h1 : p < n) (h2 : ¬ sml (f p)) (h3 : (f p).toInt ≠ 39) (ha : at_ = (p : Int)) (he : end_ = (p : Int) + 1) (hw : (sort = 3 ∧ (f p).toInt = 59) ∨ (sort = 0 ∧ (f p).toInt ≠ 59)) : TKS f n e sort what at_ end_ := by
  subst hp
  rcases hw with ⟨hs, hok⟩ | ⟨hs, hno⟩
  · have hk : tK f n e = 3 := by unfold tK; rw [if_neg (by omega), if_pos hok]
    have hE : tE f n e = tP f n e + 1 := by unfold tE; rw [if_neg (by omega), if_pos hk]
    exact ⟨ha, Or.inr (Or.inr (Or.inr (Or.inl ⟨hk, hs, by omega⟩)))⟩
  · have h0 := tRn_stop (f := f) (n := n) (s := tP f n e) (fun q => h2 q.2)
    have hk : tK f n e = 4 := by unfold tK; rw [if_neg (by omega), if_neg hno, if_neg h3, if_neg (by omega)]
    exact ⟨ha, Or.inr (Or.inr (Or.inr (Or.inr ⟨hk, hs⟩)))⟩
def wfr : Nat → Nat
  | 0 => 0
  | k + 1 => if kwc 9 k = 32 then k + 1 else wfr k
theorem wfr_all : ∀ k, k < 45 → ((kwc 9 k).toInt = 32 → wfr (k + 1) = k + 1 ∧ 0 ≤ wcn k ∧ wcn k < 9 ∧ wfr k ≤ k ∧ k - wfr k = (kws (wcn k).toNat).length ∧ ∀ i, i < (kws (wcn k).toNat).length → (kwc 9 (wfr k + i)).toInt = (kws (wcn k).toNat).getD i 0) ∧ ((kwc 9 k).toInt ≠ 32 → wfr (k + 1) = wfr k) := by decide +kernel
theorem kws_b : ∀ w, w < 9 → ∀ i, i < (kws w).length → 97 ≤ (kws w).getD i 0 ∧ (kws w).getD i 0 ≤ 122 := by decide
def kmt (f : Nat → Int32) (p m w i : Nat) (b : Int) : Prop := (b = 1 → m = (kws w).length ∧ ∀ j : Nat, j < i → (f (p + j)).toInt = (kws w).getD j 0) ∧ (b = 0 → ¬ isk f p m w)
theorem kmt_start {f : Nat → Int32} {p m w i : Nat} {b : Int} (hi : i = 0) (h : (b = 1 ∧ m = (kws w).length) ∨ (b = 0 ∧ m ≠ (kws w).length)) : kmt f p m w i b := by
  subst hi
  rcases h with ⟨h1, h2⟩ | ⟨h1, h2⟩
  · exact ⟨fun _ => ⟨h2, fun j hj => absurd hj (Nat.not_lt_zero _)⟩, fun h => by omega⟩
  · exact ⟨fun h => by omega, fun _ q => h2 q.1⟩
theorem kmt_len {f : Nat → Int32} {p m w i : Nat} {b : Int} (h : kmt f p m w i b) (hb : b = 1) : m = (kws w).length := (h.1 hb).1
theorem kmt_step {f : Nat → Int32} {p m w i i1 : Nat} {b b1 : Int} (h : kmt f p m w i b) (hb : b = 1) (hi : i < m) (hi1 : i1 = i + 1) (hc : (b1 = 1 ∧ (f (p + i)).toInt = (kws w).getD i 0) ∨ (b1 = 0 ∧ (f (p + i)).toInt ≠ (kws w).getD i 0)) : kmt f p m w i1 b1 := by
  subst hi1
  obtain ⟨h1, h2⟩ := h.1 hb
  rcases hc with ⟨c1, c2⟩ | ⟨c1, c2⟩
  · refine ⟨fun _ => ⟨h1, fun j hj => ?_⟩, fun h => by omega⟩
    by_cases q : j = i
    · rw [q]; exact c2
    · exact h2 j (by omega)
  · exact ⟨fun h => by omega, fun _ q => c2 (q.2 i hi)⟩
theorem kmt_yes {f : Nat → Int32} {p m w i : Nat} {b : Int} (h : kmt f p m w i b) (hb : b = 1) (hi : m ≤ i) : isk f p m w := ⟨(h.1 hb).1, fun j hj => (h.1 hb).2 j (by omega)⟩
theorem kmt_no {f : Nat → Int32} {p m w i : Nat} {b : Int} (h : kmt f p m w i b) (hb : b = 0) : ¬ isk f p m w := h.2 hb
theorem wcn_45 : wcn 45 = 9 := by decide +kernel
