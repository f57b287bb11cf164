/-! the constructor, run -/
noncomputable def ir : Option (((Nat → Nat → Int32) × (Nat → Nat → Option Nat) × (Nat → Nat → Int64) × (Nat → Nat → Nat → Int32) × (Nat → Nat → Nat → Int64) × (Nat → Nat → Nat → Option Nat) × (Nat → Nat) × (Nat → Nat) × Nat) × Nat × Nat) := newc 12 0 (fun _ _ => 0) (fun _ _ => none) (fun _ _ => 0) (fun _ _ _ => 0) (fun _ _ _ => 0) (fun _ _ _ => none) (fun _ => 0) (fun _ => 0) 0 (fun G P U V X O kd ln cnt => f_X11_init G P U V X O kd ln cnt 0)
set_option maxRecDepth 100000 in
theorem ir_is : ir.isSome = true := by decide +kernel
noncomputable def irR : ((Nat → Nat → Int32) × (Nat → Nat → Option Nat) × (Nat → Nat → Int64) × (Nat → Nat → Nat → Int32) × (Nat → Nat → Nat → Int64) × (Nat → Nat → Nat → Option Nat) × (Nat → Nat) × (Nat → Nat) × Nat) × Nat × Nat := match ir with
  | some r => r
  | none => (((fun _ _ => 0), (fun _ _ => none), (fun _ _ => 0), (fun _ _ _ => 0), (fun _ _ _ => 0), (fun _ _ _ => none), (fun _ => 0), (fun _ => 0), 0), 0, 0)
theorem ir_eq : ir = some irR := by
  have h := ir_is
  unfold irR
  generalize ir = o at h ⊢
  cases o with
  | none => cases h
  | some r => rfl
theorem ir_new : newc 12 0 (fun _ _ => 0) (fun _ _ => none) (fun _ _ => 0) (fun _ _ _ => 0) (fun _ _ _ => 0) (fun _ _ _ => none) (fun _ => 0) (fun _ => 0) 0 (fun G P U V X O kd ln cnt => f_X11_init G P U V X O kd ln cnt 0) = some irR := ir_eq
noncomputable abbrev iG := irR.1.1
noncomputable abbrev iP := irR.1.2.1
noncomputable abbrev iU := irR.1.2.2.1
noncomputable abbrev iV := irR.1.2.2.2.1
noncomputable abbrev iX := irR.1.2.2.2.2.1
noncomputable abbrev iO := irR.1.2.2.2.2.2.1
noncomputable abbrev iK := irR.1.2.2.2.2.2.2.1
noncomputable abbrev iL := irR.1.2.2.2.2.2.2.2.1
noncomputable abbrev iC := irR.1.2.2.2.2.2.2.2.2
theorem ic_eq : iC = 80 := by decide +kernel
theorem iu1 : irR.2.1 ≤ 200 := by decide +kernel
theorem iu2 : irR.2.2 ≤ 100000 := by decide +kernel
noncomputable abbrev bk0 : Nat := (iP 229 0).getD 0
noncomputable abbrev wd0 : Nat := (iP 0 bk0).getD 0
noncomputable abbrev tp0 : Nat := (iP 220 0).getD 0
noncomputable abbrev fl0 : Nat := (iP 3 bk0).getD 0
theorem i_bk : iP 229 0 = some bk0 := by decide +kernel
theorem i_tp : iP 220 0 = some tp0 := by decide +kernel
theorem i_fl : iP 3 bk0 = some fl0 := by decide +kernel
theorem i_x : iK 0 = 12 := by decide +kernel
theorem i_tape : (iG 141 tp0).toInt = 0 := by decide +kernel
def pbc (κ ln : Nat → Nat) (wd K k lo hi e : Nat) (p : Nat → Option Nat) (a : Nat) : Bool := (κ a != K || (p a).isSome) && (match p a with | none => true | some b => κ b == k && decide (lo ≤ ln b) && decide (ln b ≤ hi) && (e != 1 || b != wd))
theorem PB_of {κ ln : Nat → Nat} {wd K k lo hi e : Nat} {p : Nat → Option Nat} (h1 : ∀ a, a < 80 → pbc κ ln wd K k lo hi e p a = true) (h2 : ∀ j, p (j + 80) = none) (h3 : ∀ j, κ (j + 80) = 0) (hK : K ≠ 0) : PB κ ln wd K k lo hi e p := by
  intro a
  by_cases ha : a < 80
  · have h := h1 a ha
    unfold pbc at h
    cases hp : p a with
    | none =>
      rw [hp] at h
      refine ⟨fun hk => ?_, fun b hb => by cases hb⟩
      rw [hk] at h
      simp at h
    | some b =>
      rw [hp] at h
      refine ⟨fun _ q => (by cases q), fun c hc => ?_⟩
      cases hc
      simp at h
      exact ⟨h.1.1.1, h.1.1.2, h.1.2, fun q => h.2.resolve_left (fun z => z q)⟩
  · obtain ⟨j, rfl⟩ : ∃ j, a = j + 80 := ⟨a - 80, by omega⟩
    rw [h2, h3]
    exact ⟨fun q => absurd q.symm hK, fun b hb => by cases hb⟩
theorem rng_of {lo hi : Int} {f : Nat → Int32} (h1 : ∀ a, a < 80 → lo ≤ (f a).toInt ∧ (f a).toInt ≤ hi) (h2 : ∀ j, f (j + 80) = 0) (h3 : lo ≤ (0 : Int32).toInt) (h4 : (0 : Int32).toInt ≤ hi) : rng lo hi f := by
  intro a
  by_cases ha : a < 80
  · exact h1 a ha
  · obtain ⟨j, rfl⟩ : ∃ j, a = j + 80 := ⟨a - 80, by omega⟩
    rw [h2]
    exact ⟨h3, h4⟩
theorem rng2_of {lo hi : Int} {v : Nat → Nat → Int32} (h : ∀ a i, v a i = 0) (h3 : lo ≤ (0 : Int32).toInt) (h4 : (0 : Int32).toInt ≤ hi) : rng2 lo hi v := fun a i => by rw [h]; exact ⟨h3, h4⟩
set_option maxRecDepth 100000 in
theorem i_alla0 : (∀ a, a < 80 → (0) ≤ (iG 43 a).toInt ∧ (iG 43 a).toInt ≤ 40) ∧ (∀ a, a < 80 → (0) ≤ (iG 44 a).toInt ∧ (iG 44 a).toInt ≤ 40) ∧ (∀ a, a < 80 → (0) ≤ (iG 45 a).toInt ∧ (iG 45 a).toInt ≤ 7) ∧ (∀ a, a < 80 → (0) ≤ (iG 60 a).toInt ∧ (iG 60 a).toInt ≤ 30) ∧ (∀ a, a < 80 → (0) ≤ (iG 83 a).toInt ∧ (iG 83 a).toInt ≤ 2000) ∧ (∀ a, a < 80 → (0) ≤ (iG 84 a).toInt ∧ (iG 84 a).toInt ≤ 2001) := by decide +kernel
set_option maxRecDepth 100000 in
theorem i_alla1 : (∀ a, a < 80 → (0) ≤ (iG 85 a).toInt ∧ (iG 85 a).toInt ≤ 4) ∧ (∀ a, a < 80 → (0) ≤ (iG 87 a).toInt ∧ (iG 87 a).toInt ≤ 2001) ∧ (∀ a, a < 80 → (0) ≤ (iG 88 a).toInt ∧ (iG 88 a).toInt ≤ 2000) ∧ (∀ a, a < 80 → (0) ≤ (iG 102 a).toInt ∧ (iG 102 a).toInt ≤ 40) ∧ (∀ a, a < 80 → (0) ≤ (iG 125 a).toInt ∧ (iG 125 a).toInt ≤ 2500) ∧ (∀ a, a < 80 → (0) ≤ (iG 126 a).toInt ∧ (iG 126 a).toInt ≤ 2500) := by decide +kernel
set_option maxRecDepth 100000 in
theorem i_alla2 : (∀ a, a < 80 → (0) ≤ (iG 127 a).toInt ∧ (iG 127 a).toInt ≤ 2000) ∧ (∀ a, a < 80 → (0) ≤ (iG 141 a).toInt ∧ (iG 141 a).toInt ≤ 2000) ∧ (∀ a, a < 80 → (0) ≤ (iG 160 a).toInt ∧ (iG 160 a).toInt ≤ 2000) ∧ (∀ a, a < 80 → (0) ≤ (iG 161 a).toInt ∧ (iG 161 a).toInt ≤ 2000) ∧ (∀ a, a < 80 → (0) ≤ (iG 162 a).toInt ∧ (iG 162 a).toInt ≤ 2000) ∧ (∀ a, a < 80 → (0) ≤ (iG 165 a).toInt ∧ (iG 165 a).toInt ≤ 2000) := by decide +kernel
set_option maxRecDepth 100000 in
theorem i_alla3 : (∀ a, a < 80 → (0) ≤ (iG 166 a).toInt ∧ (iG 166 a).toInt ≤ 2000) ∧ (∀ a, a < 80 → (0) ≤ (iG 183 a).toInt ∧ (iG 183 a).toInt ≤ 40) ∧ (∀ a, a < 80 → (0) ≤ (iG 200 a).toInt ∧ (iG 200 a).toInt ≤ 24) ∧ (∀ a, a < 80 → (0) ≤ (iG 203 a).toInt ∧ (iG 203 a).toInt ≤ 100) ∧ (∀ a, a < 80 → (0) ≤ (iG 222 a).toInt ∧ (iG 222 a).toInt ≤ 6) ∧ (∀ a, a < 80 → (0) ≤ (iG 231 a).toInt ∧ (iG 231 a).toInt ≤ 100) := by decide +kernel
set_option maxRecDepth 100000 in
theorem i_alla4 : (∀ a, a < 80 → (0) ≤ (iG 233 a).toInt ∧ (iG 233 a).toInt ≤ 200) ∧ (∀ a, a < 80 → pbc iK iL wd0 1 11 0 2500 0 (iP 0) a = true) ∧ (∀ a, a < 80 → pbc iK iL wd0 1 301 700 700 0 (iP 1) a = true) ∧ (∀ a, a < 80 → pbc iK iL wd0 1 201 600 600 0 (iP 2) a = true) ∧ (∀ a, a < 80 → pbc iK iL wd0 1 103 7 7 0 (iP 3) a = true) ∧ (∀ a, a < 80 → pbc iK iL wd0 1 11 0 2500 1 (iP 4) a = true) := by decide +kernel
set_option maxRecDepth 100000 in
theorem i_alla5 : (∀ a, a < 80 → pbc iK iL wd0 1 11 0 2500 0 (iP 5) a = true) ∧ (∀ a, a < 80 → pbc iK iL wd0 2 100 0 16 0 (iP 20) a = true) ∧ (∀ a, a < 80 → pbc iK iL wd0 2 100 0 16 0 (iP 21) a = true) ∧ (∀ a, a < 80 → pbc iK iL wd0 2 100 0 16 0 (iP 22) a = true) ∧ (∀ a, a < 80 → pbc iK iL wd0 2 100 0 16 0 (iP 23) a = true) ∧ (∀ a, a < 80 → pbc iK iL wd0 3 107 280 280 0 (iP 40) a = true) := by decide +kernel
set_option maxRecDepth 100000 in
theorem i_alla6 : (∀ a, a < 80 → pbc iK iL wd0 3 108 280 280 0 (iP 41) a = true) ∧ (∀ a, a < 80 → pbc iK iL wd0 3 109 40 40 0 (iP 42) a = true) ∧ (∀ a, a < 80 → pbc iK iL wd0 4 102 30 30 0 (iP 61) a = true) ∧ (∀ a, a < 80 → pbc iK iL wd0 4 100 720 720 0 (iP 62) a = true) ∧ (∀ a, a < 80 → pbc iK iL wd0 4 100 408 408 0 (iP 63) a = true) ∧ (∀ a, a < 80 → pbc iK iL wd0 4 112 25 25 0 (iP 64) a = true) := by decide +kernel
set_option maxRecDepth 100000 in
theorem i_alla7 : (∀ a, a < 80 → pbc iK iL wd0 4 100 24 24 0 (iP 65) a = true) ∧ (∀ a, a < 80 → pbc iK iL wd0 4 11 0 2500 0 (iP 66) a = true) ∧ (∀ a, a < 80 → pbc iK iL wd0 5 100 0 2000 0 (iP 82) a = true) ∧ (∀ a, a < 80 → pbc iK iL wd0 6 300 40 40 0 (iP 101) a = true) ∧ (∀ a, a < 80 → pbc iK iL wd0 6 11 0 2500 1 (iP 103) a = true) ∧ (∀ a, a < 80 → pbc iK iL wd0 6 11 0 2500 1 (iP 104) a = true) := by decide +kernel
set_option maxRecDepth 100000 in
theorem i_alla8 : (∀ a, a < 80 → pbc iK iL wd0 6 11 0 2500 1 (iP 105) a = true) ∧ (∀ a, a < 80 → pbc iK iL wd0 6 110 40 40 0 (iP 106) a = true) ∧ (∀ a, a < 80 → pbc iK iL wd0 6 11 0 2500 1 (iP 108) a = true) ∧ (∀ a, a < 80 → pbc iK iL wd0 6 111 40 40 0 (iP 109) a = true) ∧ (∀ a, a < 80 → pbc iK iL wd0 6 200 40 40 0 (iP 110) a = true) ∧ (∀ a, a < 80 → pbc iK iL wd0 7 100 2500 2500 0 (iP 120) a = true) := by decide +kernel
set_option maxRecDepth 100000 in
theorem i_alla9 : (∀ a, a < 80 → pbc iK iL wd0 7 100 2500 2500 0 (iP 121) a = true) ∧ (∀ a, a < 80 → pbc iK iL wd0 7 106 5 5 0 (iP 122) a = true) ∧ (∀ a, a < 80 → pbc iK iL wd0 7 106 5 5 0 (iP 123) a = true) ∧ (∀ a, a < 80 → pbc iK iL wd0 8 100 2000 2000 0 (iP 140) a = true) ∧ (∀ a, a < 80 → pbc iK iL wd0 9 100 0 2000 0 (iP 164) a = true) ∧ (∀ a, a < 80 → pbc iK iL wd0 10 4 0 2500 0 (iP 180) a = true) := by decide +kernel
set_option maxRecDepth 100000 in
theorem i_alla10 : (∀ a, a < 80 → pbc iK iL wd0 10 100 40 40 0 (iP 181) a = true) ∧ (∀ a, a < 80 → pbc iK iL wd0 10 100 40 40 0 (iP 182) a = true) ∧ (∀ a, a < 80 → pbc iK iL wd0 10 100 24 24 0 (iP 185) a = true) ∧ (∀ a, a < 80 → pbc iK iL wd0 10 11 0 2500 1 (iP 186) a = true) ∧ (∀ a, a < 80 → pbc iK iL wd0 10 11 0 2500 1 (iP 187) a = true) ∧ (∀ a, a < 80 → pbc iK iL wd0 11 100 0 2400 0 (iP 201) a = true) := by decide +kernel
set_option maxRecDepth 100000 in
theorem i_alla11 : (∀ a, a < 80 → pbc iK iL wd0 11 101 0 100 0 (iP 202) a = true) ∧ (∀ a, a < 80 → pbc iK iL wd0 12 8 0 2500 0 (iP 220) a = true) ∧ (∀ a, a < 80 → pbc iK iL wd0 12 302 6 6 0 (iP 221) a = true) ∧ (∀ a, a < 80 → pbc iK iL wd0 12 6 0 2500 0 (iP 224) a = true) ∧ (∀ a, a < 80 → pbc iK iL wd0 12 5 0 2500 0 (iP 225) a = true) ∧ (∀ a, a < 80 → pbc iK iL wd0 12 10 0 2500 0 (iP 226) a = true) := by decide +kernel
set_option maxRecDepth 100000 in
theorem i_alla12 : (∀ a, a < 80 → pbc iK iL wd0 12 11 0 2500 1 (iP 227) a = true) ∧ (∀ a, a < 80 → pbc iK iL wd0 12 4 0 2500 0 (iP 228) a = true) ∧ (∀ a, a < 80 → pbc iK iL wd0 12 1 0 2500 0 (iP 229) a = true) ∧ (∀ a, a < 80 → pbc iK iL wd0 12 104 100 100 0 (iP 230) a = true) ∧ (∀ a, a < 80 → pbc iK iL wd0 12 105 200 200 0 (iP 232) a = true) ∧ (∀ a, a < 80 → pbc iK iL wd0 12 9 0 2500 0 (iP 234) a = true) := by decide +kernel
set_option maxRecDepth 100000 in
theorem i_alla13 : (∀ a, a < 80 → pbc iK iL wd0 12 7 0 2500 0 (iP 235) a = true) ∧ (∀ a, a < 80 → pbc iK iL wd0 12 3 0 2500 0 (iP 236) a = true) := by decide +kernel
set_option maxRecDepth 100000 in
theorem i_allb : ∀ j, ((iK (j + 80) = 0) ∧ (iG 43 (j + 80) = 0) ∧ (iG 44 (j + 80) = 0) ∧ (iG 45 (j + 80) = 0) ∧ (iG 60 (j + 80) = 0) ∧ (iG 83 (j + 80) = 0) ∧ (iG 84 (j + 80) = 0) ∧ (iG 85 (j + 80) = 0) ∧ (iG 87 (j + 80) = 0)) ∧ ((iG 88 (j + 80) = 0) ∧ (iG 102 (j + 80) = 0) ∧ (iG 125 (j + 80) = 0) ∧ (iG 126 (j + 80) = 0) ∧ (iG 127 (j + 80) = 0) ∧ (iG 141 (j + 80) = 0) ∧ (iG 160 (j + 80) = 0) ∧ (iG 161 (j + 80) = 0) ∧ (iG 162 (j + 80) = 0)) ∧ ((iG 165 (j + 80) = 0) ∧ (iG 166 (j + 80) = 0) ∧ (iG 183 (j + 80) = 0) ∧ (iG 200 (j + 80) = 0) ∧ (iG 203 (j + 80) = 0) ∧ (iG 222 (j + 80) = 0) ∧ (iG 231 (j + 80) = 0) ∧ (iG 233 (j + 80) = 0) ∧ (iP 0 (j + 80) = none)) ∧ ((iP 1 (j + 80) = none) ∧ (iP 2 (j + 80) = none) ∧ (iP 3 (j + 80) = none) ∧ (iP 4 (j + 80) = none) ∧ (iP 5 (j + 80) = none) ∧ (iP 20 (j + 80) = none) ∧ (iP 21 (j + 80) = none) ∧ (iP 22 (j + 80) = none) ∧ (iP 23 (j + 80) = none)) ∧ ((iP 40 (j + 80) = none) ∧ (iP 41 (j + 80) = none) ∧ (iP 42 (j + 80) = none) ∧ (iP 61 (j + 80) = none) ∧ (iP 62 (j + 80) = none) ∧ (iP 63 (j + 80) = none) ∧ (iP 64 (j + 80) = none) ∧ (iP 65 (j + 80) = none) ∧ (iP 66 (j + 80) = none)) ∧ ((iP 82 (j + 80) = none) ∧ (iP 101 (j + 80) = none) ∧ (iP 103 (j + 80) = none) ∧ (iP 104 (j + 80) = none) ∧ (iP 105 (j + 80) = none) ∧ (iP 106 (j + 80) = none) ∧ (iP 108 (j + 80) = none) ∧ (iP 109 (j + 80) = none) ∧ (iP 110 (j + 80) = none)) ∧ ((iP 120 (j + 80) = none) ∧ (iP 121 (j + 80) = none) ∧ (iP 122 (j + 80) = none) ∧ (iP 123 (j + 80) = none) ∧ (iP 140 (j + 80) = none) ∧ (iP 164 (j + 80) = none) ∧ (iP 180 (j + 80) = none) ∧ (iP 181 (j + 80) = none) ∧ (iP 182 (j + 80) = none)) ∧ ((iP 185 (j + 80) = none) ∧ (iP 186 (j + 80) = none) ∧ (iP 187 (j + 80) = none) ∧ (iP 201 (j + 80) = none) ∧ (iP 202 (j + 80) = none) ∧ (iP 220 (j + 80) = none) ∧ (iP 221 (j + 80) = none) ∧ (iP 224 (j + 80) = none) ∧ (iP 225 (j + 80) = none)) ∧ ((iP 226 (j + 80) = none) ∧ (iP 227 (j + 80) = none) ∧ (iP 228 (j + 80) = none) ∧ (iP 229 (j + 80) = none) ∧ (iP 230 (j + 80) = none) ∧ (iP 232 (j + 80) = none) ∧ (iP 234 (j + 80) = none) ∧ (iP 235 (j + 80) = none) ∧ (iP 236 (j + 80) = none)) := fun _ => ⟨⟨rfl, rfl, rfl, rfl, rfl, rfl, rfl, rfl, rfl⟩, ⟨rfl, rfl, rfl, rfl, rfl, rfl, rfl, rfl, rfl⟩, ⟨rfl, rfl, rfl, rfl, rfl, rfl, rfl, rfl, rfl⟩, ⟨rfl, rfl, rfl, rfl, rfl, rfl, rfl, rfl, rfl⟩, ⟨rfl, rfl, rfl, rfl, rfl, rfl, rfl, rfl, rfl⟩, ⟨rfl, rfl, rfl, rfl, rfl, rfl, rfl, rfl, rfl⟩, ⟨rfl, rfl, rfl, rfl, rfl, rfl, rfl, rfl, rfl⟩, ⟨rfl, rfl, rfl, rfl, rfl, rfl, rfl, rfl, rfl⟩, ⟨rfl, rfl, rfl, rfl, rfl, rfl, rfl, rfl, rfl⟩⟩
theorem ig43a : ∀ a, a < 80 → (0) ≤ (iG 43 a).toInt ∧ (iG 43 a).toInt ≤ 40 := i_alla0.1
theorem ig44a : ∀ a, a < 80 → (0) ≤ (iG 44 a).toInt ∧ (iG 44 a).toInt ≤ 40 := i_alla0.2.1
theorem ig45a : ∀ a, a < 80 → (0) ≤ (iG 45 a).toInt ∧ (iG 45 a).toInt ≤ 7 := i_alla0.2.2.1
theorem ig60a : ∀ a, a < 80 → (0) ≤ (iG 60 a).toInt ∧ (iG 60 a).toInt ≤ 30 := i_alla0.2.2.2.1
theorem ig83a : ∀ a, a < 80 → (0) ≤ (iG 83 a).toInt ∧ (iG 83 a).toInt ≤ 2000 := i_alla0.2.2.2.2.1
theorem ig84a : ∀ a, a < 80 → (0) ≤ (iG 84 a).toInt ∧ (iG 84 a).toInt ≤ 2001 := i_alla0.2.2.2.2.2
theorem ig85a : ∀ a, a < 80 → (0) ≤ (iG 85 a).toInt ∧ (iG 85 a).toInt ≤ 4 := i_alla1.1
theorem ig87a : ∀ a, a < 80 → (0) ≤ (iG 87 a).toInt ∧ (iG 87 a).toInt ≤ 2001 := i_alla1.2.1
theorem ig88a : ∀ a, a < 80 → (0) ≤ (iG 88 a).toInt ∧ (iG 88 a).toInt ≤ 2000 := i_alla1.2.2.1
theorem ig102a : ∀ a, a < 80 → (0) ≤ (iG 102 a).toInt ∧ (iG 102 a).toInt ≤ 40 := i_alla1.2.2.2.1
theorem ig125a : ∀ a, a < 80 → (0) ≤ (iG 125 a).toInt ∧ (iG 125 a).toInt ≤ 2500 := i_alla1.2.2.2.2.1
theorem ig126a : ∀ a, a < 80 → (0) ≤ (iG 126 a).toInt ∧ (iG 126 a).toInt ≤ 2500 := i_alla1.2.2.2.2.2
theorem ig127a : ∀ a, a < 80 → (0) ≤ (iG 127 a).toInt ∧ (iG 127 a).toInt ≤ 2000 := i_alla2.1
theorem ig141a : ∀ a, a < 80 → (0) ≤ (iG 141 a).toInt ∧ (iG 141 a).toInt ≤ 2000 := i_alla2.2.1
theorem ig160a : ∀ a, a < 80 → (0) ≤ (iG 160 a).toInt ∧ (iG 160 a).toInt ≤ 2000 := i_alla2.2.2.1
theorem ig161a : ∀ a, a < 80 → (0) ≤ (iG 161 a).toInt ∧ (iG 161 a).toInt ≤ 2000 := i_alla2.2.2.2.1
theorem ig162a : ∀ a, a < 80 → (0) ≤ (iG 162 a).toInt ∧ (iG 162 a).toInt ≤ 2000 := i_alla2.2.2.2.2.1
theorem ig165a : ∀ a, a < 80 → (0) ≤ (iG 165 a).toInt ∧ (iG 165 a).toInt ≤ 2000 := i_alla2.2.2.2.2.2
theorem ig166a : ∀ a, a < 80 → (0) ≤ (iG 166 a).toInt ∧ (iG 166 a).toInt ≤ 2000 := i_alla3.1
theorem ig183a : ∀ a, a < 80 → (0) ≤ (iG 183 a).toInt ∧ (iG 183 a).toInt ≤ 40 := i_alla3.2.1
theorem ig200a : ∀ a, a < 80 → (0) ≤ (iG 200 a).toInt ∧ (iG 200 a).toInt ≤ 24 := i_alla3.2.2.1
theorem ig203a : ∀ a, a < 80 → (0) ≤ (iG 203 a).toInt ∧ (iG 203 a).toInt ≤ 100 := i_alla3.2.2.2.1
theorem ig222a : ∀ a, a < 80 → (0) ≤ (iG 222 a).toInt ∧ (iG 222 a).toInt ≤ 6 := i_alla3.2.2.2.2.1
theorem ig231a : ∀ a, a < 80 → (0) ≤ (iG 231 a).toInt ∧ (iG 231 a).toInt ≤ 100 := i_alla3.2.2.2.2.2
theorem ig233a : ∀ a, a < 80 → (0) ≤ (iG 233 a).toInt ∧ (iG 233 a).toInt ≤ 200 := i_alla4.1
theorem ip0a : ∀ a, a < 80 → pbc iK iL wd0 1 11 0 2500 0 (iP 0) a = true := i_alla4.2.1
theorem ip1a : ∀ a, a < 80 → pbc iK iL wd0 1 301 700 700 0 (iP 1) a = true := i_alla4.2.2.1
theorem ip2a : ∀ a, a < 80 → pbc iK iL wd0 1 201 600 600 0 (iP 2) a = true := i_alla4.2.2.2.1
theorem ip3a : ∀ a, a < 80 → pbc iK iL wd0 1 103 7 7 0 (iP 3) a = true := i_alla4.2.2.2.2.1
theorem ip4a : ∀ a, a < 80 → pbc iK iL wd0 1 11 0 2500 1 (iP 4) a = true := i_alla4.2.2.2.2.2
theorem ip5a : ∀ a, a < 80 → pbc iK iL wd0 1 11 0 2500 0 (iP 5) a = true := i_alla5.1
theorem ip20a : ∀ a, a < 80 → pbc iK iL wd0 2 100 0 16 0 (iP 20) a = true := i_alla5.2.1
theorem ip21a : ∀ a, a < 80 → pbc iK iL wd0 2 100 0 16 0 (iP 21) a = true := i_alla5.2.2.1
theorem ip22a : ∀ a, a < 80 → pbc iK iL wd0 2 100 0 16 0 (iP 22) a = true := i_alla5.2.2.2.1
theorem ip23a : ∀ a, a < 80 → pbc iK iL wd0 2 100 0 16 0 (iP 23) a = true := i_alla5.2.2.2.2.1
theorem ip40a : ∀ a, a < 80 → pbc iK iL wd0 3 107 280 280 0 (iP 40) a = true := i_alla5.2.2.2.2.2
theorem ip41a : ∀ a, a < 80 → pbc iK iL wd0 3 108 280 280 0 (iP 41) a = true := i_alla6.1
theorem ip42a : ∀ a, a < 80 → pbc iK iL wd0 3 109 40 40 0 (iP 42) a = true := i_alla6.2.1
theorem ip61a : ∀ a, a < 80 → pbc iK iL wd0 4 102 30 30 0 (iP 61) a = true := i_alla6.2.2.1
theorem ip62a : ∀ a, a < 80 → pbc iK iL wd0 4 100 720 720 0 (iP 62) a = true := i_alla6.2.2.2.1
theorem ip63a : ∀ a, a < 80 → pbc iK iL wd0 4 100 408 408 0 (iP 63) a = true := i_alla6.2.2.2.2.1
theorem ip64a : ∀ a, a < 80 → pbc iK iL wd0 4 112 25 25 0 (iP 64) a = true := i_alla6.2.2.2.2.2
theorem ip65a : ∀ a, a < 80 → pbc iK iL wd0 4 100 24 24 0 (iP 65) a = true := i_alla7.1
theorem ip66a : ∀ a, a < 80 → pbc iK iL wd0 4 11 0 2500 0 (iP 66) a = true := i_alla7.2.1
theorem ip82a : ∀ a, a < 80 → pbc iK iL wd0 5 100 0 2000 0 (iP 82) a = true := i_alla7.2.2.1
theorem ip101a : ∀ a, a < 80 → pbc iK iL wd0 6 300 40 40 0 (iP 101) a = true := i_alla7.2.2.2.1
theorem ip103a : ∀ a, a < 80 → pbc iK iL wd0 6 11 0 2500 1 (iP 103) a = true := i_alla7.2.2.2.2.1
theorem ip104a : ∀ a, a < 80 → pbc iK iL wd0 6 11 0 2500 1 (iP 104) a = true := i_alla7.2.2.2.2.2
theorem ip105a : ∀ a, a < 80 → pbc iK iL wd0 6 11 0 2500 1 (iP 105) a = true := i_alla8.1
theorem ip106a : ∀ a, a < 80 → pbc iK iL wd0 6 110 40 40 0 (iP 106) a = true := i_alla8.2.1
theorem ip108a : ∀ a, a < 80 → pbc iK iL wd0 6 11 0 2500 1 (iP 108) a = true := i_alla8.2.2.1
theorem ip109a : ∀ a, a < 80 → pbc iK iL wd0 6 111 40 40 0 (iP 109) a = true := i_alla8.2.2.2.1
theorem ip110a : ∀ a, a < 80 → pbc iK iL wd0 6 200 40 40 0 (iP 110) a = true := i_alla8.2.2.2.2.1
theorem ip120a : ∀ a, a < 80 → pbc iK iL wd0 7 100 2500 2500 0 (iP 120) a = true := i_alla8.2.2.2.2.2
theorem ip121a : ∀ a, a < 80 → pbc iK iL wd0 7 100 2500 2500 0 (iP 121) a = true := i_alla9.1
theorem ip122a : ∀ a, a < 80 → pbc iK iL wd0 7 106 5 5 0 (iP 122) a = true := i_alla9.2.1
theorem ip123a : ∀ a, a < 80 → pbc iK iL wd0 7 106 5 5 0 (iP 123) a = true := i_alla9.2.2.1
theorem ip140a : ∀ a, a < 80 → pbc iK iL wd0 8 100 2000 2000 0 (iP 140) a = true := i_alla9.2.2.2.1
theorem ip164a : ∀ a, a < 80 → pbc iK iL wd0 9 100 0 2000 0 (iP 164) a = true := i_alla9.2.2.2.2.1
theorem ip180a : ∀ a, a < 80 → pbc iK iL wd0 10 4 0 2500 0 (iP 180) a = true := i_alla9.2.2.2.2.2
theorem ip181a : ∀ a, a < 80 → pbc iK iL wd0 10 100 40 40 0 (iP 181) a = true := i_alla10.1
theorem ip182a : ∀ a, a < 80 → pbc iK iL wd0 10 100 40 40 0 (iP 182) a = true := i_alla10.2.1
theorem ip185a : ∀ a, a < 80 → pbc iK iL wd0 10 100 24 24 0 (iP 185) a = true := i_alla10.2.2.1
theorem ip186a : ∀ a, a < 80 → pbc iK iL wd0 10 11 0 2500 1 (iP 186) a = true := i_alla10.2.2.2.1
theorem ip187a : ∀ a, a < 80 → pbc iK iL wd0 10 11 0 2500 1 (iP 187) a = true := i_alla10.2.2.2.2.1
theorem ip201a : ∀ a, a < 80 → pbc iK iL wd0 11 100 0 2400 0 (iP 201) a = true := i_alla10.2.2.2.2.2
theorem ip202a : ∀ a, a < 80 → pbc iK iL wd0 11 101 0 100 0 (iP 202) a = true := i_alla11.1
theorem ip220a : ∀ a, a < 80 → pbc iK iL wd0 12 8 0 2500 0 (iP 220) a = true := i_alla11.2.1
theorem ip221a : ∀ a, a < 80 → pbc iK iL wd0 12 302 6 6 0 (iP 221) a = true := i_alla11.2.2.1
theorem ip224a : ∀ a, a < 80 → pbc iK iL wd0 12 6 0 2500 0 (iP 224) a = true := i_alla11.2.2.2.1
theorem ip225a : ∀ a, a < 80 → pbc iK iL wd0 12 5 0 2500 0 (iP 225) a = true := i_alla11.2.2.2.2.1
theorem ip226a : ∀ a, a < 80 → pbc iK iL wd0 12 10 0 2500 0 (iP 226) a = true := i_alla11.2.2.2.2.2
theorem ip227a : ∀ a, a < 80 → pbc iK iL wd0 12 11 0 2500 1 (iP 227) a = true := i_alla12.1
theorem ip228a : ∀ a, a < 80 → pbc iK iL wd0 12 4 0 2500 0 (iP 228) a = true := i_alla12.2.1
theorem ip229a : ∀ a, a < 80 → pbc iK iL wd0 12 1 0 2500 0 (iP 229) a = true := i_alla12.2.2.1
theorem ip230a : ∀ a, a < 80 → pbc iK iL wd0 12 104 100 100 0 (iP 230) a = true := i_alla12.2.2.2.1
theorem ip232a : ∀ a, a < 80 → pbc iK iL wd0 12 105 200 200 0 (iP 232) a = true := i_alla12.2.2.2.2.1
theorem ip234a : ∀ a, a < 80 → pbc iK iL wd0 12 9 0 2500 0 (iP 234) a = true := i_alla12.2.2.2.2.2
theorem ip235a : ∀ a, a < 80 → pbc iK iL wd0 12 7 0 2500 0 (iP 235) a = true := i_alla13.1
theorem ip236a : ∀ a, a < 80 → pbc iK iL wd0 12 3 0 2500 0 (iP 236) a = true := i_alla13.2
theorem ikz : ∀ j, iK (j + 80) = 0 := fun j => (i_allb j).1.1
theorem ig43b : ∀ j, iG 43 (j + 80) = 0 := fun j => (i_allb j).1.2.1
theorem ig44b : ∀ j, iG 44 (j + 80) = 0 := fun j => (i_allb j).1.2.2.1
theorem ig45b : ∀ j, iG 45 (j + 80) = 0 := fun j => (i_allb j).1.2.2.2.1
theorem ig60b : ∀ j, iG 60 (j + 80) = 0 := fun j => (i_allb j).1.2.2.2.2.1
theorem ig83b : ∀ j, iG 83 (j + 80) = 0 := fun j => (i_allb j).1.2.2.2.2.2.1
theorem ig84b : ∀ j, iG 84 (j + 80) = 0 := fun j => (i_allb j).1.2.2.2.2.2.2.1
theorem ig85b : ∀ j, iG 85 (j + 80) = 0 := fun j => (i_allb j).1.2.2.2.2.2.2.2.1
theorem ig87b : ∀ j, iG 87 (j + 80) = 0 := fun j => (i_allb j).1.2.2.2.2.2.2.2.2
theorem ig88b : ∀ j, iG 88 (j + 80) = 0 := fun j => (i_allb j).2.1.1
theorem ig102b : ∀ j, iG 102 (j + 80) = 0 := fun j => (i_allb j).2.1.2.1
theorem ig125b : ∀ j, iG 125 (j + 80) = 0 := fun j => (i_allb j).2.1.2.2.1
theorem ig126b : ∀ j, iG 126 (j + 80) = 0 := fun j => (i_allb j).2.1.2.2.2.1
theorem ig127b : ∀ j, iG 127 (j + 80) = 0 := fun j => (i_allb j).2.1.2.2.2.2.1
theorem ig141b : ∀ j, iG 141 (j + 80) = 0 := fun j => (i_allb j).2.1.2.2.2.2.2.1
theorem ig160b : ∀ j, iG 160 (j + 80) = 0 := fun j => (i_allb j).2.1.2.2.2.2.2.2.1
theorem ig161b : ∀ j, iG 161 (j + 80) = 0 := fun j => (i_allb j).2.1.2.2.2.2.2.2.2.1
theorem ig162b : ∀ j, iG 162 (j + 80) = 0 := fun j => (i_allb j).2.1.2.2.2.2.2.2.2.2
theorem ig165b : ∀ j, iG 165 (j + 80) = 0 := fun j => (i_allb j).2.2.1.1
theorem ig166b : ∀ j, iG 166 (j + 80) = 0 := fun j => (i_allb j).2.2.1.2.1
theorem ig183b : ∀ j, iG 183 (j + 80) = 0 := fun j => (i_allb j).2.2.1.2.2.1
theorem ig200b : ∀ j, iG 200 (j + 80) = 0 := fun j => (i_allb j).2.2.1.2.2.2.1
theorem ig203b : ∀ j, iG 203 (j + 80) = 0 := fun j => (i_allb j).2.2.1.2.2.2.2.1
theorem ig222b : ∀ j, iG 222 (j + 80) = 0 := fun j => (i_allb j).2.2.1.2.2.2.2.2.1
theorem ig231b : ∀ j, iG 231 (j + 80) = 0 := fun j => (i_allb j).2.2.1.2.2.2.2.2.2.1
theorem ig233b : ∀ j, iG 233 (j + 80) = 0 := fun j => (i_allb j).2.2.1.2.2.2.2.2.2.2.1
theorem ip0b : ∀ j, iP 0 (j + 80) = none := fun j => (i_allb j).2.2.1.2.2.2.2.2.2.2.2
theorem ip1b : ∀ j, iP 1 (j + 80) = none := fun j => (i_allb j).2.2.2.1.1
theorem ip2b : ∀ j, iP 2 (j + 80) = none := fun j => (i_allb j).2.2.2.1.2.1
theorem ip3b : ∀ j, iP 3 (j + 80) = none := fun j => (i_allb j).2.2.2.1.2.2.1
theorem ip4b : ∀ j, iP 4 (j + 80) = none := fun j => (i_allb j).2.2.2.1.2.2.2.1
theorem ip5b : ∀ j, iP 5 (j + 80) = none := fun j => (i_allb j).2.2.2.1.2.2.2.2.1
theorem ip20b : ∀ j, iP 20 (j + 80) = none := fun j => (i_allb j).2.2.2.1.2.2.2.2.2.1
theorem ip21b : ∀ j, iP 21 (j + 80) = none := fun j => (i_allb j).2.2.2.1.2.2.2.2.2.2.1
theorem ip22b : ∀ j, iP 22 (j + 80) = none := fun j => (i_allb j).2.2.2.1.2.2.2.2.2.2.2.1
theorem ip23b : ∀ j, iP 23 (j + 80) = none := fun j => (i_allb j).2.2.2.1.2.2.2.2.2.2.2.2
theorem ip40b : ∀ j, iP 40 (j + 80) = none := fun j => (i_allb j).2.2.2.2.1.1
theorem ip41b : ∀ j, iP 41 (j + 80) = none := fun j => (i_allb j).2.2.2.2.1.2.1
theorem ip42b : ∀ j, iP 42 (j + 80) = none := fun j => (i_allb j).2.2.2.2.1.2.2.1
theorem ip61b : ∀ j, iP 61 (j + 80) = none := fun j => (i_allb j).2.2.2.2.1.2.2.2.1
theorem ip62b : ∀ j, iP 62 (j + 80) = none := fun j => (i_allb j).2.2.2.2.1.2.2.2.2.1
theorem ip63b : ∀ j, iP 63 (j + 80) = none := fun j => (i_allb j).2.2.2.2.1.2.2.2.2.2.1
theorem ip64b : ∀ j, iP 64 (j + 80) = none := fun j => (i_allb j).2.2.2.2.1.2.2.2.2.2.2.1
theorem ip65b : ∀ j, iP 65 (j + 80) = none := fun j => (i_allb j).2.2.2.2.1.2.2.2.2.2.2.2.1
theorem ip66b : ∀ j, iP 66 (j + 80) = none := fun j => (i_allb j).2.2.2.2.1.2.2.2.2.2.2.2.2
theorem ip82b : ∀ j, iP 82 (j + 80) = none := fun j => (i_allb j).2.2.2.2.2.1.1
theorem ip101b : ∀ j, iP 101 (j + 80) = none := fun j => (i_allb j).2.2.2.2.2.1.2.1
theorem ip103b : ∀ j, iP 103 (j + 80) = none := fun j => (i_allb j).2.2.2.2.2.1.2.2.1
theorem ip104b : ∀ j, iP 104 (j + 80) = none := fun j => (i_allb j).2.2.2.2.2.1.2.2.2.1
theorem ip105b : ∀ j, iP 105 (j + 80) = none := fun j => (i_allb j).2.2.2.2.2.1.2.2.2.2.1
theorem ip106b : ∀ j, iP 106 (j + 80) = none := fun j => (i_allb j).2.2.2.2.2.1.2.2.2.2.2.1
theorem ip108b : ∀ j, iP 108 (j + 80) = none := fun j => (i_allb j).2.2.2.2.2.1.2.2.2.2.2.2.1
theorem ip109b : ∀ j, iP 109 (j + 80) = none := fun j => (i_allb j).2.2.2.2.2.1.2.2.2.2.2.2.2.1
theorem ip110b : ∀ j, iP 110 (j + 80) = none := fun j => (i_allb j).2.2.2.2.2.1.2.2.2.2.2.2.2.2
theorem ip120b : ∀ j, iP 120 (j + 80) = none := fun j => (i_allb j).2.2.2.2.2.2.1.1
theorem ip121b : ∀ j, iP 121 (j + 80) = none := fun j => (i_allb j).2.2.2.2.2.2.1.2.1
theorem ip122b : ∀ j, iP 122 (j + 80) = none := fun j => (i_allb j).2.2.2.2.2.2.1.2.2.1
theorem ip123b : ∀ j, iP 123 (j + 80) = none := fun j => (i_allb j).2.2.2.2.2.2.1.2.2.2.1
theorem ip140b : ∀ j, iP 140 (j + 80) = none := fun j => (i_allb j).2.2.2.2.2.2.1.2.2.2.2.1
theorem ip164b : ∀ j, iP 164 (j + 80) = none := fun j => (i_allb j).2.2.2.2.2.2.1.2.2.2.2.2.1
theorem ip180b : ∀ j, iP 180 (j + 80) = none := fun j => (i_allb j).2.2.2.2.2.2.1.2.2.2.2.2.2.1
theorem ip181b : ∀ j, iP 181 (j + 80) = none := fun j => (i_allb j).2.2.2.2.2.2.1.2.2.2.2.2.2.2.1
theorem ip182b : ∀ j, iP 182 (j + 80) = none := fun j => (i_allb j).2.2.2.2.2.2.1.2.2.2.2.2.2.2.2
theorem ip185b : ∀ j, iP 185 (j + 80) = none := fun j => (i_allb j).2.2.2.2.2.2.2.1.1
theorem ip186b : ∀ j, iP 186 (j + 80) = none := fun j => (i_allb j).2.2.2.2.2.2.2.1.2.1
theorem ip187b : ∀ j, iP 187 (j + 80) = none := fun j => (i_allb j).2.2.2.2.2.2.2.1.2.2.1
theorem ip201b : ∀ j, iP 201 (j + 80) = none := fun j => (i_allb j).2.2.2.2.2.2.2.1.2.2.2.1
theorem ip202b : ∀ j, iP 202 (j + 80) = none := fun j => (i_allb j).2.2.2.2.2.2.2.1.2.2.2.2.1
theorem ip220b : ∀ j, iP 220 (j + 80) = none := fun j => (i_allb j).2.2.2.2.2.2.2.1.2.2.2.2.2.1
theorem ip221b : ∀ j, iP 221 (j + 80) = none := fun j => (i_allb j).2.2.2.2.2.2.2.1.2.2.2.2.2.2.1
theorem ip224b : ∀ j, iP 224 (j + 80) = none := fun j => (i_allb j).2.2.2.2.2.2.2.1.2.2.2.2.2.2.2.1
theorem ip225b : ∀ j, iP 225 (j + 80) = none := fun j => (i_allb j).2.2.2.2.2.2.2.1.2.2.2.2.2.2.2.2
theorem ip226b : ∀ j, iP 226 (j + 80) = none := fun j => (i_allb j).2.2.2.2.2.2.2.2.1
theorem ip227b : ∀ j, iP 227 (j + 80) = none := fun j => (i_allb j).2.2.2.2.2.2.2.2.2.1
theorem ip228b : ∀ j, iP 228 (j + 80) = none := fun j => (i_allb j).2.2.2.2.2.2.2.2.2.2.1
theorem ip229b : ∀ j, iP 229 (j + 80) = none := fun j => (i_allb j).2.2.2.2.2.2.2.2.2.2.2.1
theorem ip230b : ∀ j, iP 230 (j + 80) = none := fun j => (i_allb j).2.2.2.2.2.2.2.2.2.2.2.2.1
theorem ip232b : ∀ j, iP 232 (j + 80) = none := fun j => (i_allb j).2.2.2.2.2.2.2.2.2.2.2.2.2.1
theorem ip234b : ∀ j, iP 234 (j + 80) = none := fun j => (i_allb j).2.2.2.2.2.2.2.2.2.2.2.2.2.2.1
theorem ip235b : ∀ j, iP 235 (j + 80) = none := fun j => (i_allb j).2.2.2.2.2.2.2.2.2.2.2.2.2.2.2.1
theorem ip236b : ∀ j, iP 236 (j + 80) = none := fun j => (i_allb j).2.2.2.2.2.2.2.2.2.2.2.2.2.2.2.2
set_option maxRecDepth 100000 in
theorem iv1z : ∀ a i, iV 1 a i = 0
  | 0, _ => rfl
  | 1, _ => rfl
  | 2, _ => rfl
  | 3, _ => rfl
  | 4, _ => rfl
  | 5, _ => rfl
  | 6, _ => rfl
  | 7, _ => rfl
  | 8, _ => rfl
  | 9, _ => rfl
  | 10, _ => rfl
  | 11, _ => rfl
  | 12, _ => rfl
  | 13, _ => rfl
  | 14, _ => rfl
  | 15, _ => rfl
  | 16, _ => rfl
  | 17, _ => rfl
  | 18, _ => rfl
  | 19, _ => rfl
  | 20, _ => rfl
  | 21, _ => rfl
  | 22, _ => rfl
  | 23, _ => rfl
  | 24, _ => rfl
  | 25, _ => rfl
  | 26, _ => rfl
  | 27, _ => rfl
  | 28, _ => rfl
  | 29, _ => rfl
  | 30, _ => rfl
  | 31, _ => rfl
  | 32, _ => rfl
  | 33, _ => rfl
  | 34, _ => rfl
  | 35, _ => rfl
  | 36, _ => rfl
  | 37, _ => rfl
  | 38, _ => rfl
  | 39, _ => rfl
  | 40, _ => rfl
  | 41, _ => rfl
  | 42, _ => rfl
  | 43, _ => rfl
  | 44, _ => rfl
  | 45, _ => rfl
  | 46, _ => rfl
  | 47, _ => rfl
  | 48, _ => rfl
  | 49, _ => rfl
  | 50, _ => rfl
  | 51, _ => rfl
  | 52, _ => rfl
  | 53, _ => rfl
  | 54, _ => rfl
  | 55, _ => rfl
  | 56, _ => rfl
  | 57, _ => rfl
  | 58, _ => rfl
  | 59, _ => rfl
  | 60, _ => rfl
  | 61, _ => rfl
  | 62, _ => rfl
  | 63, _ => rfl
  | 64, _ => rfl
  | 65, _ => rfl
  | 66, _ => rfl
  | 67, _ => rfl
  | 68, _ => rfl
  | 69, _ => rfl
  | 70, _ => rfl
  | 71, _ => rfl
  | 72, _ => rfl
  | 73, _ => rfl
  | 74, _ => rfl
  | 75, _ => rfl
  | 76, _ => rfl
  | 77, _ => rfl
  | 78, _ => rfl
  | 79, _ => rfl
  | _ + 80, _ => rfl
set_option maxRecDepth 100000 in
theorem iv2z : ∀ a i, iV 2 a i = 0
  | 0, _ => rfl
  | 1, _ => rfl
  | 2, _ => rfl
  | 3, _ => rfl
  | 4, _ => rfl
  | 5, _ => rfl
  | 6, _ => rfl
  | 7, _ => rfl
  | 8, _ => rfl
  | 9, _ => rfl
  | 10, _ => rfl
  | 11, _ => rfl
  | 12, _ => rfl
  | 13, _ => rfl
  | 14, _ => rfl
  | 15, _ => rfl
  | 16, _ => rfl
  | 17, _ => rfl
  | 18, _ => rfl
  | 19, _ => rfl
  | 20, _ => rfl
  | 21, _ => rfl
  | 22, _ => rfl
  | 23, _ => rfl
  | 24, _ => rfl
  | 25, _ => rfl
  | 26, _ => rfl
  | 27, _ => rfl
  | 28, _ => rfl
  | 29, _ => rfl
  | 30, _ => rfl
  | 31, _ => rfl
  | 32, _ => rfl
  | 33, _ => rfl
  | 34, _ => rfl
  | 35, _ => rfl
  | 36, _ => rfl
  | 37, _ => rfl
  | 38, _ => rfl
  | 39, _ => rfl
  | 40, _ => rfl
  | 41, _ => rfl
  | 42, _ => rfl
  | 43, _ => rfl
  | 44, _ => rfl
  | 45, _ => rfl
  | 46, _ => rfl
  | 47, _ => rfl
  | 48, _ => rfl
  | 49, _ => rfl
  | 50, _ => rfl
  | 51, _ => rfl
  | 52, _ => rfl
  | 53, _ => rfl
  | 54, _ => rfl
  | 55, _ => rfl
  | 56, _ => rfl
  | 57, _ => rfl
  | 58, _ => rfl
  | 59, _ => rfl
  | 60, _ => rfl
  | 61, _ => rfl
  | 62, _ => rfl
  | 63, _ => rfl
  | 64, _ => rfl
  | 65, _ => rfl
  | 66, _ => rfl
  | 67, _ => rfl
  | 68, _ => rfl
  | 69, _ => rfl
  | 70, _ => rfl
  | 71, _ => rfl
  | 72, _ => rfl
  | 73, _ => rfl
  | 74, _ => rfl
  | 75, _ => rfl
  | 76, _ => rfl
  | 77, _ => rfl
  | 78, _ => rfl
  | 79, _ => rfl
  | _ + 80, _ => rfl
set_option maxRecDepth 100000 in
theorem iv3z : ∀ a i, iV 3 a i = 0
  | 0, _ => rfl
  | 1, _ => rfl
  | 2, _ => rfl
  | 3, _ => rfl
  | 4, _ => rfl
  | 5, _ => rfl
  | 6, _ => rfl
  | 7, _ => rfl
  | 8, _ => rfl
  | 9, _ => rfl
  | 10, _ => rfl
  | 11, _ => rfl
  | 12, _ => rfl
  | 13, _ => rfl
  | 14, _ => rfl
  | 15, _ => rfl
  | 16, _ => rfl
  | 17, _ => rfl
  | 18, _ => rfl
  | 19, _ => rfl
  | 20, _ => rfl
  | 21, _ => rfl
  | 22, _ => rfl
  | 23, _ => rfl
  | 24, _ => rfl
  | 25, _ => rfl
  | 26, _ => rfl
  | 27, _ => rfl
  | 28, _ => rfl
  | 29, _ => rfl
  | 30, _ => rfl
  | 31, _ => rfl
  | 32, _ => rfl
  | 33, _ => rfl
  | 34, _ => rfl
  | 35, _ => rfl
  | 36, _ => rfl
  | 37, _ => rfl
  | 38, _ => rfl
  | 39, _ => rfl
  | 40, _ => rfl
  | 41, _ => rfl
  | 42, _ => rfl
  | 43, _ => rfl
  | 44, _ => rfl
  | 45, _ => rfl
  | 46, _ => rfl
  | 47, _ => rfl
  | 48, _ => rfl
  | 49, _ => rfl
  | 50, _ => rfl
  | 51, _ => rfl
  | 52, _ => rfl
  | 53, _ => rfl
  | 54, _ => rfl
  | 55, _ => rfl
  | 56, _ => rfl
  | 57, _ => rfl
  | 58, _ => rfl
  | 59, _ => rfl
  | 60, _ => rfl
  | 61, _ => rfl
  | 62, _ => rfl
  | 63, _ => rfl
  | 64, _ => rfl
  | 65, _ => rfl
  | 66, _ => rfl
  | 67, _ => rfl
  | 68, _ => rfl
  | 69, _ => rfl
  | 70, _ => rfl
  | 71, _ => rfl
  | 72, _ => rfl
  | 73, _ => rfl
  | 74, _ => rfl
  | 75, _ => rfl
  | 76, _ => rfl
  | 77, _ => rfl
  | 78, _ => rfl
  | 79, _ => rfl
  | _ + 80, _ => rfl
set_option maxRecDepth 100000 in
theorem iv9z : ∀ a i, iV 9 a i = 0
  | 0, _ => rfl
  | 1, _ => rfl
  | 2, _ => rfl
  | 3, _ => rfl
  | 4, _ => rfl
  | 5, _ => rfl
  | 6, _ => rfl
  | 7, _ => rfl
  | 8, _ => rfl
  | 9, _ => rfl
  | 10, _ => rfl
  | 11, _ => rfl
  | 12, _ => rfl
  | 13, _ => rfl
  | 14, _ => rfl
  | 15, _ => rfl
  | 16, _ => rfl
  | 17, _ => rfl
  | 18, _ => rfl
  | 19, _ => rfl
  | 20, _ => rfl
  | 21, _ => rfl
  | 22, _ => rfl
  | 23, _ => rfl
  | 24, _ => rfl
  | 25, _ => rfl
  | 26, _ => rfl
  | 27, _ => rfl
  | 28, _ => rfl
  | 29, _ => rfl
  | 30, _ => rfl
  | 31, _ => rfl
  | 32, _ => rfl
  | 33, _ => rfl
  | 34, _ => rfl
  | 35, _ => rfl
  | 36, _ => rfl
  | 37, _ => rfl
  | 38, _ => rfl
  | 39, _ => rfl
  | 40, _ => rfl
  | 41, _ => rfl
  | 42, _ => rfl
  | 43, _ => rfl
  | 44, _ => rfl
  | 45, _ => rfl
  | 46, _ => rfl
  | 47, _ => rfl
  | 48, _ => rfl
  | 49, _ => rfl
  | 50, _ => rfl
  | 51, _ => rfl
  | 52, _ => rfl
  | 53, _ => rfl
  | 54, _ => rfl
  | 55, _ => rfl
  | 56, _ => rfl
  | 57, _ => rfl
  | 58, _ => rfl
  | 59, _ => rfl
  | 60, _ => rfl
  | 61, _ => rfl
  | 62, _ => rfl
  | 63, _ => rfl
  | 64, _ => rfl
  | 65, _ => rfl
  | 66, _ => rfl
  | 67, _ => rfl
  | 68, _ => rfl
  | 69, _ => rfl
  | 70, _ => rfl
  | 71, _ => rfl
  | 72, _ => rfl
  | 73, _ => rfl
  | 74, _ => rfl
  | 75, _ => rfl
  | 76, _ => rfl
  | 77, _ => rfl
  | 78, _ => rfl
  | 79, _ => rfl
  | _ + 80, _ => rfl
set_option maxRecDepth 100000 in
theorem io0z : ∀ a i, iO 0 a i = none
  | 0, _ => rfl
  | 1, _ => rfl
  | 2, _ => rfl
  | 3, _ => rfl
  | 4, _ => rfl
  | 5, _ => rfl
  | 6, _ => rfl
  | 7, _ => rfl
  | 8, _ => rfl
  | 9, _ => rfl
  | 10, _ => rfl
  | 11, _ => rfl
  | 12, _ => rfl
  | 13, _ => rfl
  | 14, _ => rfl
  | 15, _ => rfl
  | 16, _ => rfl
  | 17, _ => rfl
  | 18, _ => rfl
  | 19, _ => rfl
  | 20, _ => rfl
  | 21, _ => rfl
  | 22, _ => rfl
  | 23, _ => rfl
  | 24, _ => rfl
  | 25, _ => rfl
  | 26, _ => rfl
  | 27, _ => rfl
  | 28, _ => rfl
  | 29, _ => rfl
  | 30, _ => rfl
  | 31, _ => rfl
  | 32, _ => rfl
  | 33, _ => rfl
  | 34, _ => rfl
  | 35, _ => rfl
  | 36, _ => rfl
  | 37, _ => rfl
  | 38, _ => rfl
  | 39, _ => rfl
  | 40, _ => rfl
  | 41, _ => rfl
  | 42, _ => rfl
  | 43, _ => rfl
  | 44, _ => rfl
  | 45, _ => rfl
  | 46, _ => rfl
  | 47, _ => rfl
  | 48, _ => rfl
  | 49, _ => rfl
  | 50, _ => rfl
  | 51, _ => rfl
  | 52, _ => rfl
  | 53, _ => rfl
  | 54, _ => rfl
  | 55, _ => rfl
  | 56, _ => rfl
  | 57, _ => rfl
  | 58, _ => rfl
  | 59, _ => rfl
  | 60, _ => rfl
  | 61, _ => rfl
  | 62, _ => rfl
  | 63, _ => rfl
  | 64, _ => rfl
  | 65, _ => rfl
  | 66, _ => rfl
  | 67, _ => rfl
  | 68, _ => rfl
  | 69, _ => rfl
  | 70, _ => rfl
  | 71, _ => rfl
  | 72, _ => rfl
  | 73, _ => rfl
  | 74, _ => rfl
  | 75, _ => rfl
  | 76, _ => rfl
  | 77, _ => rfl
  | 78, _ => rfl
  | 79, _ => rfl
  | _ + 80, _ => rfl
set_option maxRecDepth 100000 in
theorem io1z : ∀ a i, iO 1 a i = none
  | 0, _ => rfl
  | 1, _ => rfl
  | 2, _ => rfl
  | 3, _ => rfl
  | 4, _ => rfl
  | 5, _ => rfl
  | 6, _ => rfl
  | 7, _ => rfl
  | 8, _ => rfl
  | 9, _ => rfl
  | 10, _ => rfl
  | 11, _ => rfl
  | 12, _ => rfl
  | 13, _ => rfl
  | 14, _ => rfl
  | 15, _ => rfl
  | 16, _ => rfl
  | 17, _ => rfl
  | 18, _ => rfl
  | 19, _ => rfl
  | 20, _ => rfl
  | 21, _ => rfl
  | 22, _ => rfl
  | 23, _ => rfl
  | 24, _ => rfl
  | 25, _ => rfl
  | 26, _ => rfl
  | 27, _ => rfl
  | 28, _ => rfl
  | 29, _ => rfl
  | 30, _ => rfl
  | 31, _ => rfl
  | 32, _ => rfl
  | 33, _ => rfl
  | 34, _ => rfl
  | 35, _ => rfl
  | 36, _ => rfl
  | 37, _ => rfl
  | 38, _ => rfl
  | 39, _ => rfl
  | 40, _ => rfl
  | 41, _ => rfl
  | 42, _ => rfl
  | 43, _ => rfl
  | 44, _ => rfl
  | 45, _ => rfl
  | 46, _ => rfl
  | 47, _ => rfl
  | 48, _ => rfl
  | 49, _ => rfl
  | 50, _ => rfl
  | 51, _ => rfl
  | 52, _ => rfl
  | 53, _ => rfl
  | 54, _ => rfl
  | 55, _ => rfl
  | 56, _ => rfl
  | 57, _ => rfl
  | 58, _ => rfl
  | 59, _ => rfl
  | 60, _ => rfl
  | 61, _ => rfl
  | 62, _ => rfl
  | 63, _ => rfl
  | 64, _ => rfl
  | 65, _ => rfl
  | 66, _ => rfl
  | 67, _ => rfl
  | 68, _ => rfl
  | 69, _ => rfl
  | 70, _ => rfl
  | 71, _ => rfl
  | 72, _ => rfl
  | 73, _ => rfl
  | 74, _ => rfl
  | 75, _ => rfl
  | 76, _ => rfl
  | 77, _ => rfl
  | 78, _ => rfl
  | 79, _ => rfl
  | _ + 80, _ => rfl
set_option maxRecDepth 100000 in
theorem io2z : ∀ a i, iO 2 a i = none
  | 0, _ => rfl
  | 1, _ => rfl
  | 2, _ => rfl
  | 3, _ => rfl
  | 4, _ => rfl
  | 5, _ => rfl
  | 6, _ => rfl
  | 7, _ => rfl
  | 8, _ => rfl
  | 9, _ => rfl
  | 10, _ => rfl
  | 11, _ => rfl
  | 12, _ => rfl
  | 13, _ => rfl
  | 14, _ => rfl
  | 15, _ => rfl
  | 16, _ => rfl
  | 17, _ => rfl
  | 18, _ => rfl
  | 19, _ => rfl
  | 20, _ => rfl
  | 21, _ => rfl
  | 22, _ => rfl
  | 23, _ => rfl
  | 24, _ => rfl
  | 25, _ => rfl
  | 26, _ => rfl
  | 27, _ => rfl
  | 28, _ => rfl
  | 29, _ => rfl
  | 30, _ => rfl
  | 31, _ => rfl
  | 32, _ => rfl
  | 33, _ => rfl
  | 34, _ => rfl
  | 35, _ => rfl
  | 36, _ => rfl
  | 37, _ => rfl
  | 38, _ => rfl
  | 39, _ => rfl
  | 40, _ => rfl
  | 41, _ => rfl
  | 42, _ => rfl
  | 43, _ => rfl
  | 44, _ => rfl
  | 45, _ => rfl
  | 46, _ => rfl
  | 47, _ => rfl
  | 48, _ => rfl
  | 49, _ => rfl
  | 50, _ => rfl
  | 51, _ => rfl
  | 52, _ => rfl
  | 53, _ => rfl
  | 54, _ => rfl
  | 55, _ => rfl
  | 56, _ => rfl
  | 57, _ => rfl
  | 58, _ => rfl
  | 59, _ => rfl
  | 60, _ => rfl
  | 61, _ => rfl
  | 62, _ => rfl
  | 63, _ => rfl
  | 64, _ => rfl
  | 65, _ => rfl
  | 66, _ => rfl
  | 67, _ => rfl
  | 68, _ => rfl
  | 69, _ => rfl
  | 70, _ => rfl
  | 71, _ => rfl
  | 72, _ => rfl
  | 73, _ => rfl
  | 74, _ => rfl
  | 75, _ => rfl
  | 76, _ => rfl
  | 77, _ => rfl
  | 78, _ => rfl
  | 79, _ => rfl
  | _ + 80, _ => rfl
set_option maxRecDepth 100000 in
theorem iraa : ∀ a, a < 80 → (iK a != 11 || (match iP 201 a, iP 202 a with | some l, some s => ((iL l : Nat) : Int) == ((iL s : Nat) : Int) * (iG 200 a).toInt | _, _ => true)) = true := by decide +kernel
theorem ira : RA iK iL (iG 200) (iP 201) (iP 202) := by
  intro a l s ha hl hs
  have hlt : a < 80 := by
    by_cases q : a < 80
    · exact q
    · obtain ⟨j, rfl⟩ : ∃ j, a = j + 80 := ⟨a - 80, by omega⟩
      rw [ikz] at ha
      cases ha
  have h := iraa a hlt
  rw [ha, hl, hs] at h
  simpa using h
set_option maxRecDepth 100000 in
theorem irba : ∀ a, a < 80 → (iG 203 a).toInt = 0 ∧ 0 ≤ (iG 200 a).toInt := by decide +kernel
theorem irb : RB iK iL (iG 200) (iG 203) (iP 202) (iV 1) := by
  intro a s ha hs
  have hlt : a < 80 := by
    by_cases q : a < 80
    · exact q
    · obtain ⟨j, rfl⟩ : ∃ j, a = j + 80 := ⟨a - 80, by omega⟩
      rw [ikz] at ha
      cases ha
  have h := irba a hlt
  refine ⟨by omega, fun k => ?_⟩
  rw [iv1z]
  have z : (0 : Int32).toInt = 0 := by decide
  omega
set_option maxRecDepth 100000 in
theorem iria : ∀ a, a < 80 → ∀ b, b < 80 → (iP 202 a).isNone = true ∨ a = b ∨ iP 202 a ≠ iP 202 b := by decide +kernel
theorem iri : RI (iP 202) := by
  intro a b s ha hb
  have hl : ∀ c, iP 202 c = some s → c < 80 := by
    intro c hc
    by_cases q : c < 80
    · exact q
    · obtain ⟨j, rfl⟩ : ∃ j, c = j + 80 := ⟨c - 80, by omega⟩
      rw [ip202b] at hc
      cases hc
  rcases iria a (hl a ha) b (hl b hb) with h | h | h
  · rw [ha] at h
    cases h
  · exact h
  · exact absurd (ha.trans hb.symm) h
set_option maxRecDepth 100000 in
theorem irm103a : ∀ a, a < 80 → (match iP 103 a with | none => true | some b => match iP 202 b with | none => true | some s => decide (iL s ≤ 40)) = true := by decide +kernel
theorem irm103 : RM iL 40 (iP 103) (iP 202) := by
  intro a b s ha hb
  have hlt : a < 80 := by
    by_cases q : a < 80
    · exact q
    · obtain ⟨j, rfl⟩ : ∃ j, a = j + 80 := ⟨a - 80, by omega⟩
      rw [ip103b] at ha
      cases ha
  have h := irm103a a hlt
  rw [ha] at h
  simp only [hb] at h
  simpa using h
set_option maxRecDepth 100000 in
theorem irm104a : ∀ a, a < 80 → (match iP 104 a with | none => true | some b => match iP 202 b with | none => true | some s => decide (iL s ≤ 40)) = true := by decide +kernel
theorem irm104 : RM iL 40 (iP 104) (iP 202) := by
  intro a b s ha hb
  have hlt : a < 80 := by
    by_cases q : a < 80
    · exact q
    · obtain ⟨j, rfl⟩ : ∃ j, a = j + 80 := ⟨a - 80, by omega⟩
      rw [ip104b] at ha
      cases ha
  have h := irm104a a hlt
  rw [ha] at h
  simp only [hb] at h
  simpa using h
set_option maxRecDepth 100000 in
theorem irm108a : ∀ a, a < 80 → (match iP 108 a with | none => true | some b => match iP 202 b with | none => true | some s => decide (iL s ≤ 40)) = true := by decide +kernel
theorem irm108 : RM iL 40 (iP 108) (iP 202) := by
  intro a b s ha hb
  have hlt : a < 80 := by
    by_cases q : a < 80
    · exact q
    · obtain ⟨j, rfl⟩ : ∃ j, a = j + 80 := ⟨a - 80, by omega⟩
      rw [ip108b] at ha
      cases ha
  have h := irm108a a hlt
  rw [ha] at h
  simp only [hb] at h
  simpa using h
set_option maxRecDepth 100000 in
theorem ilna : ∀ a, a < 80 → iL a ≤ 2500 := by decide +kernel
set_option maxRecDepth 100000 in
theorem ilnb : ∀ j, iL (j + 80) = 0 := fun _ => rfl
theorem iln : LN iK iL := by
  intro a _
  by_cases q : a < 80
  · exact ilna a q
  · obtain ⟨j, rfl⟩ : ∃ j, a = j + 80 := ⟨a - 80, by omega⟩
    rw [ilnb]
    decide
set_option maxRecDepth 100000 in
theorem iw0a : ∀ a, a < 80 → (iP 0 a).isNone = true ∨ iP 0 a = some wd0 := by decide +kernel
theorem iw0 : W0 wd0 (iP 0) := by
  intro a b hb
  by_cases q : a < 80
  · rcases iw0a a q with h | h
    · rw [hb] at h
      cases h
    · exact Option.some.inj (hb.symm.trans h)
  · obtain ⟨j, rfl⟩ : ∃ j, a = j + 80 := ⟨a - 80, by omega⟩
    rw [ip0b] at hb
    cases hb
theorem ikc : KC iK iC := by
  intro a ha
  rw [ic_eq] at ha
  obtain ⟨j, rfl⟩ : ∃ j, a = j + 80 := ⟨a - 80, by omega⟩
  exact ikz j
theorem iwk : iK wd0 = 11 := by decide +kernel
theorem i_s7 : s7 (iV 3 fl0) = 0 := by
  unfold s7
  simp only [iv3z]
  decide
theorem i_inv : CInv iK wd0 iG iP iV iO iL iC := (CInv_i (rng_of ig43a ig43b (by decide) (by decide)) (rng_of ig44a ig44b (by decide) (by decide)) (rng_of ig45a ig45b (by decide) (by decide)) (rng_of ig60a ig60b (by decide) (by decide)) (rng_of ig83a ig83b (by decide) (by decide)) (rng_of ig84a ig84b (by decide) (by decide)) (rng_of ig85a ig85b (by decide) (by decide)) (rng_of ig87a ig87b (by decide) (by decide)) (rng_of ig88a ig88b (by decide) (by decide)) (rng_of ig102a ig102b (by decide) (by decide)) (rng_of ig125a ig125b (by decide) (by decide)) (rng_of ig126a ig126b (by decide) (by decide)) (rng_of ig127a ig127b (by decide) (by decide)) (rng_of ig141a ig141b (by decide) (by decide)) (rng_of ig160a ig160b (by decide) (by decide)) (rng_of ig161a ig161b (by decide) (by decide)) (rng_of ig162a ig162b (by decide) (by decide)) (rng_of ig165a ig165b (by decide) (by decide)) (rng_of ig166a ig166b (by decide) (by decide)) (rng_of ig183a ig183b (by decide) (by decide)) (rng_of ig200a ig200b (by decide) (by decide)) (rng_of ig203a ig203b (by decide) (by decide)) (rng_of ig222a ig222b (by decide) (by decide)) (rng_of ig231a ig231b (by decide) (by decide)) (rng_of ig233a ig233b (by decide) (by decide)) (PB_of ip0a ip0b ikz (by decide)) (PB_of ip1a ip1b ikz (by decide)) (PB_of ip2a ip2b ikz (by decide)) (PB_of ip3a ip3b ikz (by decide)) (PB_of ip4a ip4b ikz (by decide)) (PB_of ip5a ip5b ikz (by decide)) (PB_of ip20a ip20b ikz (by decide)) (PB_of ip21a ip21b ikz (by decide)) (PB_of ip22a ip22b ikz (by decide)) (PB_of ip23a ip23b ikz (by decide)) (PB_of ip40a ip40b ikz (by decide)) (PB_of ip41a ip41b ikz (by decide)) (PB_of ip42a ip42b ikz (by decide)) (PB_of ip61a ip61b ikz (by decide)) (PB_of ip62a ip62b ikz (by decide)) (PB_of ip63a ip63b ikz (by decide)) (PB_of ip64a ip64b ikz (by decide)) (PB_of ip65a ip65b ikz (by decide)) (PB_of ip66a ip66b ikz (by decide)) (PB_of ip82a ip82b ikz (by decide)) (PB_of ip101a ip101b ikz (by decide)) (PB_of ip103a ip103b ikz (by decide)) (PB_of ip104a ip104b ikz (by decide)) (PB_of ip105a ip105b ikz (by decide)) (PB_of ip106a ip106b ikz (by decide)) (PB_of ip108a ip108b ikz (by decide)) (PB_of ip109a ip109b ikz (by decide)) (PB_of ip110a ip110b ikz (by decide)) (PB_of ip120a ip120b ikz (by decide)) (PB_of ip121a ip121b ikz (by decide)) (PB_of ip122a ip122b ikz (by decide)) (PB_of ip123a ip123b ikz (by decide)) (PB_of ip140a ip140b ikz (by decide)) (PB_of ip164a ip164b ikz (by decide)) (PB_of ip180a ip180b ikz (by decide)) (PB_of ip181a ip181b ikz (by decide)) (PB_of ip182a ip182b ikz (by decide)) (PB_of ip185a ip185b ikz (by decide)) (PB_of ip186a ip186b ikz (by decide)) (PB_of ip187a ip187b ikz (by decide)) (PB_of ip201a ip201b ikz (by decide)) (PB_of ip202a ip202b ikz (by decide)) (PB_of ip220a ip220b ikz (by decide)) (PB_of ip221a ip221b ikz (by decide)) (PB_of ip224a ip224b ikz (by decide)) (PB_of ip225a ip225b ikz (by decide)) (PB_of ip226a ip226b ikz (by decide)) (PB_of ip227a ip227b ikz (by decide)) (PB_of ip228a ip228b ikz (by decide)) (PB_of ip229a ip229b ikz (by decide)) (PB_of ip230a ip230b ikz (by decide)) (PB_of ip232a ip232b ikz (by decide)) (PB_of ip234a ip234b ikz (by decide)) (PB_of ip235a ip235b ikz (by decide)) (PB_of ip236a ip236b ikz (by decide)) (rng2_of iv1z (by decide) (by decide)) (rng2_of iv2z (by decide) (by decide)) (rng2_of iv3z (by decide) (by decide)) (rng2_of iv9z (by decide) (by decide)) ((fun a i b hb => by rw [io0z] at hb; cases hb)) ((fun a i b hb => by rw [io1z] at hb; cases hb)) ((fun a i b hb => by rw [io2z] at hb; cases hb)) ira irb iri irm103 irm104 irm108 iln ((fun a s => by rw [iv3z]; exact (rng_of ig203a ig203b (by decide) (by decide) : rng 0 100 (iG 203)) wd0 |>.1)) iw0 ikc iwk)
