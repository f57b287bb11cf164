/-! a letter of a told form -/
def LTR (R : List Wd) (k i : Int) (r : Int32) : Prop := ((k < 0 ∨ ((R.length : Nat) : Int) ≤ k ∨ i < 0) → r.toInt = -1) ∧ ∀ x, 0 ≤ k → R[k.toNat]? = some x → ((((x.length : Nat) : Int) ≤ i → r.toInt = -1) ∧ ∀ c, 0 ≤ i → x[i.toNat]? = some c → r = c)
theorem LTR_det {R : List Wd} {k i : Int} {r1 r2 : Int32} (h1 : LTR R k i r1) (h2 : LTR R k i r2) : r1 = r2 := by
  by_cases q : k < 0 ∨ ((R.length : Nat) : Int) ≤ k ∨ i < 0
  · exact z_e ((h1.1 q).trans (h2.1 q).symm)
  · obtain ⟨x, hx⟩ := get_ex (l := R) (i := k.toNat) (by omega)
    obtain ⟨a1, a2⟩ := h1.2 x (by omega) hx
    obtain ⟨b1, b2⟩ := h2.2 x (by omega) hx
    by_cases q1 : ((x.length : Nat) : Int) ≤ i
    · exact z_e ((a1 q1).trans (b1 q1).symm)
    · obtain ⟨c, hc⟩ := get_ex (l := x) (i := i.toNat) (by omega)
      rw [a2 c (by omega) hc, b2 c (by omega) hc]
theorem WRD_ltr {fl fs : Nat → Int32} {c : Int32} {k i : Int} {r : Int32} {R : List Wd} (h : WRD fl fs c.toInt k i r) (hR : rwW c fl fs 24 = R) (hc : 0 ≤ c.toInt) (hz : ∀ j, 0 ≤ (fs j).toInt) : LTR R k i r := by
  subst hR
  have hl : (rwW c fl fs 24).length = Int32.toNatClampNeg c := rw_len
  have cc := clampI hc
  refine ⟨fun q => ?_, fun x h0 hx => ?_⟩
  · rcases h with ⟨a1, a2, a3, _, _⟩ | ⟨_, e⟩
    · exfalso
      omega
    · exact e
  · have hk := get_lt hx
    rw [hl] at hk
    rw [rw_at hk] at hx
    cases hx
    have cz := clampI (hz k.toNat)
    refine ⟨fun q => ?_, fun c9 q hc9 => ?_⟩
    · rw [wdl_len] at q
      rcases h with ⟨_, _, _, a4, _⟩ | ⟨_, e⟩
      · exfalso
        omega
      · exact e
    · have hi := get_lt hc9
      rw [wdl_len] at hi
      rw [wdl_get hi] at hc9
      rcases h with ⟨_, _, _, _, a5⟩ | ⟨e, _⟩
      · rw [a5]
        exact Option.some.inj hc9
      · exfalso
        omega
