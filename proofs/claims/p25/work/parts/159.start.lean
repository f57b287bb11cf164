def RLB (g : Nat → Int32) (F : Nat → Nat → Int32) (x tp bk wd : Nat) (G : Nat → Nat → Int32) (P : Nat → Nat → Option Nat) (V : Nat → Nat → Nat → Int32) (O : Nat → Nat → Nat → Option Nat) (ln : Nat → Nat) (cnt : Nat) : Prop := ∃ (la : Nat → Nat) (D tb wl wz : Nat), LB la cnt P ∧ x < cnt ∧ la x = 200 ∧ (∀ b, P 224 x = some b → b < cnt ∧ la b = D) ∧ 100000 ≤ D ∧ P 140 tp = some tb ∧ P 0 bk = some wd ∧ P 201 wd = some wl ∧ P 202 wd = some wz ∧ ln wz = 100 ∧ (G 200 wd).toInt = 24 ∧ G 203 wd = g 48 ∧ V 0 tb = F 0 ∧ V 0 wl = F 49 ∧ V 1 wz = F 50 ∧ RLR g F la D x G P V O ln cnt ∧ RLW g F ∧ RTA x G P ln ∧ RTB g F x G P V O ∧ RTC la x G P ln ∧ RTD g F x G P V ln ∧ RBW g F ∧ RBM g F ∧ RBO g F x G P V ∧ RBK g F la D x G P V O ln cnt ∧ RMX g F x G P V
/-! the start: labels -/
def la0 (a : Nat) : Nat := [200, 10, 11, 203, 100040, 100040, 100041, 100041, 100041, 100042, 100042, 100042, 100043, 100043, 100043, 100040, 100044, 100044, 100044, 100040, 100040, 300, 922, 90, 96, 96, 96, 97, 96, 98, 930, 930, 930, 91, 92, 93, 94, 94, 94, 95, 95, 95, 50, 50, 50, 60, 60, 60, 61, 60, 62, 951, 951, 951, 70, 20, 20, 20, 70, 70, 70, 71, 71, 71, 72, 72, 72, 201, 202, 310, 970, 320, 321, 322, 321, 322, 330, 330, 330, 330].getD a 0
def lokb (f x y : Nat) : Bool := if f = 0 then decide (y = 20) else if f = 1 then decide (y = x + 0) else if f = 2 then decide (y = x + 0) else if f = 3 then decide (y = x + 0) else if f = 4 then decide (y = x + 1) else if f = 5 then decide (y = x + 2) else if f = 20 then decide (y = x + 0) else if f = 21 then decide (y = x + 0) else if f = 22 then decide (y = x + 0) else if f = 23 then decide (y = x + 0) else if f = 40 then decide (y = x + 0) else if f = 41 then decide (y = x + 0) else if f = 42 then decide (y = x + 0) else if f = 61 then decide (y = x + 0) else if f = 62 then decide (y = x + 0) else if f = 63 then decide (y = x + 1) else if f = 64 then decide (y = x + 0) else if f = 65 then decide (y = x + 2) else if f = 101 then decide (y = x + 0) else if f = 103 then decide (y = x + 1) else if f = 104 then decide (y = x + 2) else if f = 105 then decide (y = x + 3) else if f = 106 then decide (y = x + 0) else if f = 108 then decide (y = x + 4) else if f = 109 then decide (y = x + 0) else if f = 110 then decide (y = x + 0) else if f = 120 then decide (y = x + 1) || decide (y = x + 2) else if f = 121 then decide (y = x + 1) || decide (y = x + 2) else if f = 122 then decide (y = x + 1) || decide (y = x + 2) else if f = 123 then decide (y = x + 1) || decide (y = x + 2) else if f = 140 then decide (y = x + 1) else if f = 180 then decide (y = x + 6) else if f = 181 then decide (y = x + 1) || decide (y = x + 2) else if f = 182 then decide (y = x + 1) || decide (y = x + 2) else if f = 185 then decide (y = x + 3) else if f = 186 then decide (y = x + 4) || decide (y = x + 5) else if f = 187 then decide (y = x + 4) || decide (y = x + 5) else if f = 201 then decide (y = x + 0) else if f = 202 then decide (y = x + 0) else if f = 220 then decide (y = 10) else if f = 221 then decide (y = x + 3) else if f = 225 then decide (y = 300) else if f = 226 then decide (y = 90) else if f = 227 then decide (y = 50) else if f = 228 then decide (y = 60) else if f = 229 then decide (y = 70) else if f = 230 then decide (y = x + 1) else if f = 232 then decide (y = x + 2) else if f = 234 then decide (y = 310) else if f = 235 then decide (y = 320) else if f = 236 then decide (y = 330) else true
theorem LC_of {f : Nat} (p : Nat → Option Nat) (h1 : ∀ a, a < 80 → (match p a with | none => true | some b => decide (b < 80) && lokb f (la0 a) (la0 b)) = true) (h2 : ∀ j, p (j + 80) = none) (h3 : ∀ x y, lokb f x y = true → lok f x y) : LC f la0 80 p := by
  intro a b hb
  by_cases ha : a < 80
  · have h := h1 a ha
    rw [hb] at h
    simp only [Bool.and_eq_true, decide_eq_true_eq] at h
    exact ⟨ha, h.1, h3 _ _ h.2⟩
  · obtain ⟨j, rfl⟩ : ∃ j, a = j + 80 := ⟨a - 80, by omega⟩
    rw [h2] at hb
    cases hb
theorem lkb_0 (x y : Nat) (h : lokb 0 x y = true) : lok 0 x y := lk_0.mpr (by simpa [lokb] using h)
set_option maxRecDepth 100000 in
theorem ilc0a : ∀ a, a < 80 → (match iP 0 a with | none => true | some b => decide (b < 80) && lokb 0 (la0 a) (la0 b)) = true := by decide +kernel
theorem ilc0 : LC 0 la0 80 (iP 0) := LC_of _ ilc0a ip0b lkb_0
theorem lkb_1 (x y : Nat) (h : lokb 1 x y = true) : lok 1 x y := lk_1.mpr (by simpa [lokb] using h)
set_option maxRecDepth 100000 in
theorem ilc1a : ∀ a, a < 80 → (match iP 1 a with | none => true | some b => decide (b < 80) && lokb 1 (la0 a) (la0 b)) = true := by decide +kernel
theorem ilc1 : LC 1 la0 80 (iP 1) := LC_of _ ilc1a ip1b lkb_1
theorem lkb_2 (x y : Nat) (h : lokb 2 x y = true) : lok 2 x y := lk_2.mpr (by simpa [lokb] using h)
set_option maxRecDepth 100000 in
theorem ilc2a : ∀ a, a < 80 → (match iP 2 a with | none => true | some b => decide (b < 80) && lokb 2 (la0 a) (la0 b)) = true := by decide +kernel
theorem ilc2 : LC 2 la0 80 (iP 2) := LC_of _ ilc2a ip2b lkb_2
theorem lkb_3 (x y : Nat) (h : lokb 3 x y = true) : lok 3 x y := lk_3.mpr (by simpa [lokb] using h)
set_option maxRecDepth 100000 in
theorem ilc3a : ∀ a, a < 80 → (match iP 3 a with | none => true | some b => decide (b < 80) && lokb 3 (la0 a) (la0 b)) = true := by decide +kernel
theorem ilc3 : LC 3 la0 80 (iP 3) := LC_of _ ilc3a ip3b lkb_3
theorem lkb_4 (x y : Nat) (h : lokb 4 x y = true) : lok 4 x y := lk_4.mpr (by simpa [lokb] using h)
set_option maxRecDepth 100000 in
theorem ilc4a : ∀ a, a < 80 → (match iP 4 a with | none => true | some b => decide (b < 80) && lokb 4 (la0 a) (la0 b)) = true := by decide +kernel
theorem ilc4 : LC 4 la0 80 (iP 4) := LC_of _ ilc4a ip4b lkb_4
theorem lkb_5 (x y : Nat) (h : lokb 5 x y = true) : lok 5 x y := lk_5.mpr (by simpa [lokb] using h)
set_option maxRecDepth 100000 in
theorem ilc5a : ∀ a, a < 80 → (match iP 5 a with | none => true | some b => decide (b < 80) && lokb 5 (la0 a) (la0 b)) = true := by decide +kernel
theorem ilc5 : LC 5 la0 80 (iP 5) := LC_of _ ilc5a ip5b lkb_5
theorem lkb_20 (x y : Nat) (h : lokb 20 x y = true) : lok 20 x y := lk_20.mpr (by simpa [lokb] using h)
set_option maxRecDepth 100000 in
theorem ilc20a : ∀ a, a < 80 → (match iP 20 a with | none => true | some b => decide (b < 80) && lokb 20 (la0 a) (la0 b)) = true := by decide +kernel
theorem ilc20 : LC 20 la0 80 (iP 20) := LC_of _ ilc20a ip20b lkb_20
theorem lkb_21 (x y : Nat) (h : lokb 21 x y = true) : lok 21 x y := lk_21.mpr (by simpa [lokb] using h)
set_option maxRecDepth 100000 in
theorem ilc21a : ∀ a, a < 80 → (match iP 21 a with | none => true | some b => decide (b < 80) && lokb 21 (la0 a) (la0 b)) = true := by decide +kernel
theorem ilc21 : LC 21 la0 80 (iP 21) := LC_of _ ilc21a ip21b lkb_21
theorem lkb_22 (x y : Nat) (h : lokb 22 x y = true) : lok 22 x y := lk_22.mpr (by simpa [lokb] using h)
set_option maxRecDepth 100000 in
theorem ilc22a : ∀ a, a < 80 → (match iP 22 a with | none => true | some b => decide (b < 80) && lokb 22 (la0 a) (la0 b)) = true := by decide +kernel
theorem ilc22 : LC 22 la0 80 (iP 22) := LC_of _ ilc22a ip22b lkb_22
theorem lkb_23 (x y : Nat) (h : lokb 23 x y = true) : lok 23 x y := lk_23.mpr (by simpa [lokb] using h)
set_option maxRecDepth 100000 in
theorem ilc23a : ∀ a, a < 80 → (match iP 23 a with | none => true | some b => decide (b < 80) && lokb 23 (la0 a) (la0 b)) = true := by decide +kernel
theorem ilc23 : LC 23 la0 80 (iP 23) := LC_of _ ilc23a ip23b lkb_23
theorem lkb_40 (x y : Nat) (h : lokb 40 x y = true) : lok 40 x y := lk_40.mpr (by simpa [lokb] using h)
set_option maxRecDepth 100000 in
theorem ilc40a : ∀ a, a < 80 → (match iP 40 a with | none => true | some b => decide (b < 80) && lokb 40 (la0 a) (la0 b)) = true := by decide +kernel
theorem ilc40 : LC 40 la0 80 (iP 40) := LC_of _ ilc40a ip40b lkb_40
theorem lkb_41 (x y : Nat) (h : lokb 41 x y = true) : lok 41 x y := lk_41.mpr (by simpa [lokb] using h)
set_option maxRecDepth 100000 in
theorem ilc41a : ∀ a, a < 80 → (match iP 41 a with | none => true | some b => decide (b < 80) && lokb 41 (la0 a) (la0 b)) = true := by decide +kernel
theorem ilc41 : LC 41 la0 80 (iP 41) := LC_of _ ilc41a ip41b lkb_41
theorem lkb_42 (x y : Nat) (h : lokb 42 x y = true) : lok 42 x y := lk_42.mpr (by simpa [lokb] using h)
set_option maxRecDepth 100000 in
theorem ilc42a : ∀ a, a < 80 → (match iP 42 a with | none => true | some b => decide (b < 80) && lokb 42 (la0 a) (la0 b)) = true := by decide +kernel
theorem ilc42 : LC 42 la0 80 (iP 42) := LC_of _ ilc42a ip42b lkb_42
theorem lkb_61 (x y : Nat) (h : lokb 61 x y = true) : lok 61 x y := lk_61.mpr (by simpa [lokb] using h)
set_option maxRecDepth 100000 in
theorem ilc61a : ∀ a, a < 80 → (match iP 61 a with | none => true | some b => decide (b < 80) && lokb 61 (la0 a) (la0 b)) = true := by decide +kernel
theorem ilc61 : LC 61 la0 80 (iP 61) := LC_of _ ilc61a ip61b lkb_61
theorem lkb_62 (x y : Nat) (h : lokb 62 x y = true) : lok 62 x y := lk_62.mpr (by simpa [lokb] using h)
set_option maxRecDepth 100000 in
theorem ilc62a : ∀ a, a < 80 → (match iP 62 a with | none => true | some b => decide (b < 80) && lokb 62 (la0 a) (la0 b)) = true := by decide +kernel
theorem ilc62 : LC 62 la0 80 (iP 62) := LC_of _ ilc62a ip62b lkb_62
theorem lkb_63 (x y : Nat) (h : lokb 63 x y = true) : lok 63 x y := lk_63.mpr (by simpa [lokb] using h)
set_option maxRecDepth 100000 in
theorem ilc63a : ∀ a, a < 80 → (match iP 63 a with | none => true | some b => decide (b < 80) && lokb 63 (la0 a) (la0 b)) = true := by decide +kernel
theorem ilc63 : LC 63 la0 80 (iP 63) := LC_of _ ilc63a ip63b lkb_63
theorem lkb_64 (x y : Nat) (h : lokb 64 x y = true) : lok 64 x y := lk_64.mpr (by simpa [lokb] using h)
set_option maxRecDepth 100000 in
theorem ilc64a : ∀ a, a < 80 → (match iP 64 a with | none => true | some b => decide (b < 80) && lokb 64 (la0 a) (la0 b)) = true := by decide +kernel
theorem ilc64 : LC 64 la0 80 (iP 64) := LC_of _ ilc64a ip64b lkb_64
theorem lkb_65 (x y : Nat) (h : lokb 65 x y = true) : lok 65 x y := lk_65.mpr (by simpa [lokb] using h)
set_option maxRecDepth 100000 in
theorem ilc65a : ∀ a, a < 80 → (match iP 65 a with | none => true | some b => decide (b < 80) && lokb 65 (la0 a) (la0 b)) = true := by decide +kernel
theorem ilc65 : LC 65 la0 80 (iP 65) := LC_of _ ilc65a ip65b lkb_65
theorem lkb_66 (x y : Nat) (_ : lokb 66 x y = true) : lok 66 x y := lk_66 x y
set_option maxRecDepth 100000 in
theorem ilc66a : ∀ a, a < 80 → (match iP 66 a with | none => true | some b => decide (b < 80) && lokb 66 (la0 a) (la0 b)) = true := by decide +kernel
theorem ilc66 : LC 66 la0 80 (iP 66) := LC_of _ ilc66a ip66b lkb_66
theorem lkb_82 (x y : Nat) (_ : lokb 82 x y = true) : lok 82 x y := lk_82 x y
set_option maxRecDepth 100000 in
theorem ilc82a : ∀ a, a < 80 → (match iP 82 a with | none => true | some b => decide (b < 80) && lokb 82 (la0 a) (la0 b)) = true := by decide +kernel
theorem ilc82 : LC 82 la0 80 (iP 82) := LC_of _ ilc82a ip82b lkb_82
theorem lkb_101 (x y : Nat) (h : lokb 101 x y = true) : lok 101 x y := lk_101.mpr (by simpa [lokb] using h)
set_option maxRecDepth 100000 in
theorem ilc101a : ∀ a, a < 80 → (match iP 101 a with | none => true | some b => decide (b < 80) && lokb 101 (la0 a) (la0 b)) = true := by decide +kernel
theorem ilc101 : LC 101 la0 80 (iP 101) := LC_of _ ilc101a ip101b lkb_101
theorem lkb_103 (x y : Nat) (h : lokb 103 x y = true) : lok 103 x y := lk_103.mpr (by simpa [lokb] using h)
set_option maxRecDepth 100000 in
theorem ilc103a : ∀ a, a < 80 → (match iP 103 a with | none => true | some b => decide (b < 80) && lokb 103 (la0 a) (la0 b)) = true := by decide +kernel
theorem ilc103 : LC 103 la0 80 (iP 103) := LC_of _ ilc103a ip103b lkb_103
theorem lkb_104 (x y : Nat) (h : lokb 104 x y = true) : lok 104 x y := lk_104.mpr (by simpa [lokb] using h)
set_option maxRecDepth 100000 in
theorem ilc104a : ∀ a, a < 80 → (match iP 104 a with | none => true | some b => decide (b < 80) && lokb 104 (la0 a) (la0 b)) = true := by decide +kernel
theorem ilc104 : LC 104 la0 80 (iP 104) := LC_of _ ilc104a ip104b lkb_104
theorem lkb_105 (x y : Nat) (h : lokb 105 x y = true) : lok 105 x y := lk_105.mpr (by simpa [lokb] using h)
set_option maxRecDepth 100000 in
theorem ilc105a : ∀ a, a < 80 → (match iP 105 a with | none => true | some b => decide (b < 80) && lokb 105 (la0 a) (la0 b)) = true := by decide +kernel
theorem ilc105 : LC 105 la0 80 (iP 105) := LC_of _ ilc105a ip105b lkb_105
theorem lkb_106 (x y : Nat) (h : lokb 106 x y = true) : lok 106 x y := lk_106.mpr (by simpa [lokb] using h)
set_option maxRecDepth 100000 in
theorem ilc106a : ∀ a, a < 80 → (match iP 106 a with | none => true | some b => decide (b < 80) && lokb 106 (la0 a) (la0 b)) = true := by decide +kernel
theorem ilc106 : LC 106 la0 80 (iP 106) := LC_of _ ilc106a ip106b lkb_106
theorem lkb_108 (x y : Nat) (h : lokb 108 x y = true) : lok 108 x y := lk_108.mpr (by simpa [lokb] using h)
set_option maxRecDepth 100000 in
theorem ilc108a : ∀ a, a < 80 → (match iP 108 a with | none => true | some b => decide (b < 80) && lokb 108 (la0 a) (la0 b)) = true := by decide +kernel
theorem ilc108 : LC 108 la0 80 (iP 108) := LC_of _ ilc108a ip108b lkb_108
theorem lkb_109 (x y : Nat) (h : lokb 109 x y = true) : lok 109 x y := lk_109.mpr (by simpa [lokb] using h)
set_option maxRecDepth 100000 in
theorem ilc109a : ∀ a, a < 80 → (match iP 109 a with | none => true | some b => decide (b < 80) && lokb 109 (la0 a) (la0 b)) = true := by decide +kernel
theorem ilc109 : LC 109 la0 80 (iP 109) := LC_of _ ilc109a ip109b lkb_109
theorem lkb_110 (x y : Nat) (h : lokb 110 x y = true) : lok 110 x y := lk_110.mpr (by simpa [lokb] using h)
set_option maxRecDepth 100000 in
theorem ilc110a : ∀ a, a < 80 → (match iP 110 a with | none => true | some b => decide (b < 80) && lokb 110 (la0 a) (la0 b)) = true := by decide +kernel
theorem ilc110 : LC 110 la0 80 (iP 110) := LC_of _ ilc110a ip110b lkb_110
theorem lkb_120 (x y : Nat) (h : lokb 120 x y = true) : lok 120 x y := lk_120.mpr (by simpa [lokb] using h)
set_option maxRecDepth 100000 in
theorem ilc120a : ∀ a, a < 80 → (match iP 120 a with | none => true | some b => decide (b < 80) && lokb 120 (la0 a) (la0 b)) = true := by decide +kernel
theorem ilc120 : LC 120 la0 80 (iP 120) := LC_of _ ilc120a ip120b lkb_120
theorem lkb_121 (x y : Nat) (h : lokb 121 x y = true) : lok 121 x y := lk_121.mpr (by simpa [lokb] using h)
set_option maxRecDepth 100000 in
theorem ilc121a : ∀ a, a < 80 → (match iP 121 a with | none => true | some b => decide (b < 80) && lokb 121 (la0 a) (la0 b)) = true := by decide +kernel
theorem ilc121 : LC 121 la0 80 (iP 121) := LC_of _ ilc121a ip121b lkb_121
theorem lkb_122 (x y : Nat) (h : lokb 122 x y = true) : lok 122 x y := lk_122.mpr (by simpa [lokb] using h)
set_option maxRecDepth 100000 in
theorem ilc122a : ∀ a, a < 80 → (match iP 122 a with | none => true | some b => decide (b < 80) && lokb 122 (la0 a) (la0 b)) = true := by decide +kernel
theorem ilc122 : LC 122 la0 80 (iP 122) := LC_of _ ilc122a ip122b lkb_122
theorem lkb_123 (x y : Nat) (h : lokb 123 x y = true) : lok 123 x y := lk_123.mpr (by simpa [lokb] using h)
set_option maxRecDepth 100000 in
theorem ilc123a : ∀ a, a < 80 → (match iP 123 a with | none => true | some b => decide (b < 80) && lokb 123 (la0 a) (la0 b)) = true := by decide +kernel
theorem ilc123 : LC 123 la0 80 (iP 123) := LC_of _ ilc123a ip123b lkb_123
theorem lkb_140 (x y : Nat) (h : lokb 140 x y = true) : lok 140 x y := lk_140.mpr (by simpa [lokb] using h)
set_option maxRecDepth 100000 in
theorem ilc140a : ∀ a, a < 80 → (match iP 140 a with | none => true | some b => decide (b < 80) && lokb 140 (la0 a) (la0 b)) = true := by decide +kernel
theorem ilc140 : LC 140 la0 80 (iP 140) := LC_of _ ilc140a ip140b lkb_140
theorem lkb_164 (x y : Nat) (_ : lokb 164 x y = true) : lok 164 x y := lk_164 x y
set_option maxRecDepth 100000 in
theorem ilc164a : ∀ a, a < 80 → (match iP 164 a with | none => true | some b => decide (b < 80) && lokb 164 (la0 a) (la0 b)) = true := by decide +kernel
theorem ilc164 : LC 164 la0 80 (iP 164) := LC_of _ ilc164a ip164b lkb_164
theorem lkb_180 (x y : Nat) (h : lokb 180 x y = true) : lok 180 x y := lk_180.mpr (by simpa [lokb] using h)
set_option maxRecDepth 100000 in
theorem ilc180a : ∀ a, a < 80 → (match iP 180 a with | none => true | some b => decide (b < 80) && lokb 180 (la0 a) (la0 b)) = true := by decide +kernel
theorem ilc180 : LC 180 la0 80 (iP 180) := LC_of _ ilc180a ip180b lkb_180
theorem lkb_181 (x y : Nat) (h : lokb 181 x y = true) : lok 181 x y := lk_181.mpr (by simpa [lokb] using h)
set_option maxRecDepth 100000 in
theorem ilc181a : ∀ a, a < 80 → (match iP 181 a with | none => true | some b => decide (b < 80) && lokb 181 (la0 a) (la0 b)) = true := by decide +kernel
theorem ilc181 : LC 181 la0 80 (iP 181) := LC_of _ ilc181a ip181b lkb_181
theorem lkb_182 (x y : Nat) (h : lokb 182 x y = true) : lok 182 x y := lk_182.mpr (by simpa [lokb] using h)
set_option maxRecDepth 100000 in
theorem ilc182a : ∀ a, a < 80 → (match iP 182 a with | none => true | some b => decide (b < 80) && lokb 182 (la0 a) (la0 b)) = true := by decide +kernel
theorem ilc182 : LC 182 la0 80 (iP 182) := LC_of _ ilc182a ip182b lkb_182
theorem lkb_185 (x y : Nat) (h : lokb 185 x y = true) : lok 185 x y := lk_185.mpr (by simpa [lokb] using h)
set_option maxRecDepth 100000 in
theorem ilc185a : ∀ a, a < 80 → (match iP 185 a with | none => true | some b => decide (b < 80) && lokb 185 (la0 a) (la0 b)) = true := by decide +kernel
theorem ilc185 : LC 185 la0 80 (iP 185) := LC_of _ ilc185a ip185b lkb_185
theorem lkb_186 (x y : Nat) (h : lokb 186 x y = true) : lok 186 x y := lk_186.mpr (by simpa [lokb] using h)
set_option maxRecDepth 100000 in
theorem ilc186a : ∀ a, a < 80 → (match iP 186 a with | none => true | some b => decide (b < 80) && lokb 186 (la0 a) (la0 b)) = true := by decide +kernel
theorem ilc186 : LC 186 la0 80 (iP 186) := LC_of _ ilc186a ip186b lkb_186
theorem lkb_187 (x y : Nat) (h : lokb 187 x y = true) : lok 187 x y := lk_187.mpr (by simpa [lokb] using h)
set_option maxRecDepth 100000 in
theorem ilc187a : ∀ a, a < 80 → (match iP 187 a with | none => true | some b => decide (b < 80) && lokb 187 (la0 a) (la0 b)) = true := by decide +kernel
theorem ilc187 : LC 187 la0 80 (iP 187) := LC_of _ ilc187a ip187b lkb_187
theorem lkb_201 (x y : Nat) (h : lokb 201 x y = true) : lok 201 x y := lk_201.mpr (by simpa [lokb] using h)
set_option maxRecDepth 100000 in
theorem ilc201a : ∀ a, a < 80 → (match iP 201 a with | none => true | some b => decide (b < 80) && lokb 201 (la0 a) (la0 b)) = true := by decide +kernel
theorem ilc201 : LC 201 la0 80 (iP 201) := LC_of _ ilc201a ip201b lkb_201
theorem lkb_202 (x y : Nat) (h : lokb 202 x y = true) : lok 202 x y := lk_202.mpr (by simpa [lokb] using h)
set_option maxRecDepth 100000 in
theorem ilc202a : ∀ a, a < 80 → (match iP 202 a with | none => true | some b => decide (b < 80) && lokb 202 (la0 a) (la0 b)) = true := by decide +kernel
theorem ilc202 : LC 202 la0 80 (iP 202) := LC_of _ ilc202a ip202b lkb_202
theorem lkb_220 (x y : Nat) (h : lokb 220 x y = true) : lok 220 x y := lk_220.mpr (by simpa [lokb] using h)
set_option maxRecDepth 100000 in
theorem ilc220a : ∀ a, a < 80 → (match iP 220 a with | none => true | some b => decide (b < 80) && lokb 220 (la0 a) (la0 b)) = true := by decide +kernel
theorem ilc220 : LC 220 la0 80 (iP 220) := LC_of _ ilc220a ip220b lkb_220
theorem lkb_221 (x y : Nat) (h : lokb 221 x y = true) : lok 221 x y := lk_221.mpr (by simpa [lokb] using h)
set_option maxRecDepth 100000 in
theorem ilc221a : ∀ a, a < 80 → (match iP 221 a with | none => true | some b => decide (b < 80) && lokb 221 (la0 a) (la0 b)) = true := by decide +kernel
theorem ilc221 : LC 221 la0 80 (iP 221) := LC_of _ ilc221a ip221b lkb_221
theorem lkb_224 (x y : Nat) (_ : lokb 224 x y = true) : lok 224 x y := lk_224 x y
set_option maxRecDepth 100000 in
theorem ilc224a : ∀ a, a < 80 → (match iP 224 a with | none => true | some b => decide (b < 80) && lokb 224 (la0 a) (la0 b)) = true := by decide +kernel
theorem ilc224 : LC 224 la0 80 (iP 224) := LC_of _ ilc224a ip224b lkb_224
theorem lkb_225 (x y : Nat) (h : lokb 225 x y = true) : lok 225 x y := lk_225.mpr (by simpa [lokb] using h)
set_option maxRecDepth 100000 in
theorem ilc225a : ∀ a, a < 80 → (match iP 225 a with | none => true | some b => decide (b < 80) && lokb 225 (la0 a) (la0 b)) = true := by decide +kernel
theorem ilc225 : LC 225 la0 80 (iP 225) := LC_of _ ilc225a ip225b lkb_225
theorem lkb_226 (x y : Nat) (h : lokb 226 x y = true) : lok 226 x y := lk_226.mpr (by simpa [lokb] using h)
set_option maxRecDepth 100000 in
theorem ilc226a : ∀ a, a < 80 → (match iP 226 a with | none => true | some b => decide (b < 80) && lokb 226 (la0 a) (la0 b)) = true := by decide +kernel
theorem ilc226 : LC 226 la0 80 (iP 226) := LC_of _ ilc226a ip226b lkb_226
theorem lkb_227 (x y : Nat) (h : lokb 227 x y = true) : lok 227 x y := lk_227.mpr (by simpa [lokb] using h)
set_option maxRecDepth 100000 in
theorem ilc227a : ∀ a, a < 80 → (match iP 227 a with | none => true | some b => decide (b < 80) && lokb 227 (la0 a) (la0 b)) = true := by decide +kernel
theorem ilc227 : LC 227 la0 80 (iP 227) := LC_of _ ilc227a ip227b lkb_227
theorem lkb_228 (x y : Nat) (h : lokb 228 x y = true) : lok 228 x y := lk_228.mpr (by simpa [lokb] using h)
set_option maxRecDepth 100000 in
theorem ilc228a : ∀ a, a < 80 → (match iP 228 a with | none => true | some b => decide (b < 80) && lokb 228 (la0 a) (la0 b)) = true := by decide +kernel
theorem ilc228 : LC 228 la0 80 (iP 228) := LC_of _ ilc228a ip228b lkb_228
theorem lkb_229 (x y : Nat) (h : lokb 229 x y = true) : lok 229 x y := lk_229.mpr (by simpa [lokb] using h)
set_option maxRecDepth 100000 in
theorem ilc229a : ∀ a, a < 80 → (match iP 229 a with | none => true | some b => decide (b < 80) && lokb 229 (la0 a) (la0 b)) = true := by decide +kernel
theorem ilc229 : LC 229 la0 80 (iP 229) := LC_of _ ilc229a ip229b lkb_229
theorem lkb_230 (x y : Nat) (h : lokb 230 x y = true) : lok 230 x y := lk_230.mpr (by simpa [lokb] using h)
set_option maxRecDepth 100000 in
theorem ilc230a : ∀ a, a < 80 → (match iP 230 a with | none => true | some b => decide (b < 80) && lokb 230 (la0 a) (la0 b)) = true := by decide +kernel
theorem ilc230 : LC 230 la0 80 (iP 230) := LC_of _ ilc230a ip230b lkb_230
theorem lkb_232 (x y : Nat) (h : lokb 232 x y = true) : lok 232 x y := lk_232.mpr (by simpa [lokb] using h)
set_option maxRecDepth 100000 in
theorem ilc232a : ∀ a, a < 80 → (match iP 232 a with | none => true | some b => decide (b < 80) && lokb 232 (la0 a) (la0 b)) = true := by decide +kernel
theorem ilc232 : LC 232 la0 80 (iP 232) := LC_of _ ilc232a ip232b lkb_232
theorem lkb_234 (x y : Nat) (h : lokb 234 x y = true) : lok 234 x y := lk_234.mpr (by simpa [lokb] using h)
set_option maxRecDepth 100000 in
theorem ilc234a : ∀ a, a < 80 → (match iP 234 a with | none => true | some b => decide (b < 80) && lokb 234 (la0 a) (la0 b)) = true := by decide +kernel
theorem ilc234 : LC 234 la0 80 (iP 234) := LC_of _ ilc234a ip234b lkb_234
theorem lkb_235 (x y : Nat) (h : lokb 235 x y = true) : lok 235 x y := lk_235.mpr (by simpa [lokb] using h)
set_option maxRecDepth 100000 in
theorem ilc235a : ∀ a, a < 80 → (match iP 235 a with | none => true | some b => decide (b < 80) && lokb 235 (la0 a) (la0 b)) = true := by decide +kernel
theorem ilc235 : LC 235 la0 80 (iP 235) := LC_of _ ilc235a ip235b lkb_235
theorem lkb_236 (x y : Nat) (h : lokb 236 x y = true) : lok 236 x y := lk_236.mpr (by simpa [lokb] using h)
set_option maxRecDepth 100000 in
theorem ilc236a : ∀ a, a < 80 → (match iP 236 a with | none => true | some b => decide (b < 80) && lokb 236 (la0 a) (la0 b)) = true := by decide +kernel
theorem ilc236 : LC 236 la0 80 (iP 236) := LC_of _ ilc236a ip236b lkb_236
theorem ila : ∀ a, a < 80 → la0 a < 100000 + 10 * 80 := by decide +kernel
theorem i_lb : LB la0 iC iP := by
  rw [ic_eq]
  refine ⟨fun f hf => ?_, ila⟩
  simp only [flds, List.mem_cons, List.not_mem_nil, or_false] at hf
  rcases hf with rfl | rfl | rfl | rfl | rfl | rfl | rfl | rfl | rfl | rfl | rfl | rfl | rfl | rfl | rfl | rfl | rfl | rfl | rfl | rfl | rfl | rfl | rfl | rfl | rfl | rfl | rfl | rfl | rfl | rfl | rfl | rfl | rfl | rfl | rfl | rfl | rfl | rfl | rfl | rfl | rfl | rfl | rfl | rfl | rfl | rfl | rfl | rfl | rfl | rfl | rfl | rfl | rfl | rfl | rfl
  · exact ilc0
  · exact ilc1
  · exact ilc2
  · exact ilc3
  · exact ilc4
  · exact ilc5
  · exact ilc20
  · exact ilc21
  · exact ilc22
  · exact ilc23
  · exact ilc40
  · exact ilc41
  · exact ilc42
  · exact ilc61
  · exact ilc62
  · exact ilc63
  · exact ilc64
  · exact ilc65
  · exact ilc66
  · exact ilc82
  · exact ilc101
  · exact ilc103
  · exact ilc104
  · exact ilc105
  · exact ilc106
  · exact ilc108
  · exact ilc109
  · exact ilc110
  · exact ilc120
  · exact ilc121
  · exact ilc122
  · exact ilc123
  · exact ilc140
  · exact ilc164
  · exact ilc180
  · exact ilc181
  · exact ilc182
  · exact ilc185
  · exact ilc186
  · exact ilc187
  · exact ilc201
  · exact ilc202
  · exact ilc220
  · exact ilc221
  · exact ilc224
  · exact ilc225
  · exact ilc226
  · exact ilc227
  · exact ilc228
  · exact ilc229
  · exact ilc230
  · exact ilc232
  · exact ilc234
  · exact ilc235
  · exact ilc236
noncomputable abbrev tb0 : Nat := (iP 140 tp0).getD 0
noncomputable abbrev wl0 : Nat := (iP 201 wd0).getD 0
noncomputable abbrev wz0 : Nat := (iP 202 wd0).getD 0
set_option maxRecDepth 100000 in
theorem j_tb : iP 140 tp0 = some tb0 := by decide +kernel
set_option maxRecDepth 100000 in
theorem j_w0 : iP 0 bk0 = some wd0 := by decide +kernel
set_option maxRecDepth 100000 in
theorem j_wl : iP 201 wd0 = some wl0 := by decide +kernel
set_option maxRecDepth 100000 in
theorem j_wz : iP 202 wd0 = some wz0 := by decide +kernel
set_option maxRecDepth 100000 in
theorem j_lz : iL wz0 = 100 := by decide +kernel
set_option maxRecDepth 100000 in
theorem j_w24 : (iG 200 wd0).toInt = 24 := by decide +kernel
set_option maxRecDepth 100000 in
theorem j_w203 : iG 203 wd0 = 0 := by decide +kernel
set_option maxRecDepth 100000 in
theorem j_dr : iP 224 0 = some 4 := by decide +kernel
set_option maxRecDepth 100000 in
theorem iv0z : ∀ a i, iV 0 a i = 0
  | 0, _ => rfl
  | 1, _ => rfl
  | 2, _ => rfl
  | 3, _ => rfl
  | 4, _ => rfl
  | 5, _ => rfl
  | 6, _ => rfl
  | 7, _ => rfl
  | 8, _ => rfl
  | 9, _ => rfl
  | 10, _ => rfl
  | 11, _ => rfl
  | 12, _ => rfl
  | 13, _ => rfl
  | 14, _ => rfl
  | 15, _ => rfl
  | 16, _ => rfl
  | 17, _ => rfl
  | 18, _ => rfl
  | 19, _ => rfl
  | 20, _ => rfl
  | 21, _ => rfl
  | 22, _ => rfl
  | 23, _ => rfl
  | 24, _ => rfl
  | 25, _ => rfl
  | 26, _ => rfl
  | 27, _ => rfl
  | 28, _ => rfl
  | 29, _ => rfl
  | 30, _ => rfl
  | 31, _ => rfl
  | 32, _ => rfl
  | 33, _ => rfl
  | 34, _ => rfl
  | 35, _ => rfl
  | 36, _ => rfl
  | 37, _ => rfl
  | 38, _ => rfl
  | 39, _ => rfl
  | 40, _ => rfl
  | 41, _ => rfl
  | 42, _ => rfl
  | 43, _ => rfl
  | 44, _ => rfl
  | 45, _ => rfl
  | 46, _ => rfl
  | 47, _ => rfl
  | 48, _ => rfl
  | 49, _ => rfl
  | 50, _ => rfl
  | 51, _ => rfl
  | 52, _ => rfl
  | 53, _ => rfl
  | 54, _ => rfl
  | 55, _ => rfl
  | 56, _ => rfl
  | 57, _ => rfl
  | 58, _ => rfl
  | 59, _ => rfl
  | 60, _ => rfl
  | 61, _ => rfl
  | 62, _ => rfl
  | 63, _ => rfl
  | 64, _ => rfl
  | 65, _ => rfl
  | 66, _ => rfl
  | 67, _ => rfl
  | 68, _ => rfl
  | 69, _ => rfl
  | 70, _ => rfl
  | 71, _ => rfl
  | 72, _ => rfl
  | 73, _ => rfl
  | 74, _ => rfl
  | 75, _ => rfl
  | 76, _ => rfl
  | 77, _ => rfl
  | 78, _ => rfl
  | 79, _ => rfl
  | _ + 80, _ => rfl
set_option maxRecDepth 100000 in
theorem j_rd : iP 225 0 = some 21 := by decide +kernel
set_option maxRecDepth 100000 in
theorem j_ra : iP 221 0 = some 3 := by decide +kernel
set_option maxRecDepth 100000 in
theorem j_g222 : iG 222 0 = 0 := by decide +kernel
set_option maxRecDepth 100000 in
theorem j_g223 : iG 223 0 = -1 := by decide +kernel
set_option maxRecDepth 100000 in
theorem j_g80 : iG 80 21 = 0 := by decide +kernel
set_option maxRecDepth 100000 in
theorem j_g81 : iG 81 21 = -1 := by decide +kernel
set_option maxRecDepth 100000 in
theorem j_drf : DRF iG iP iL 4 := ⟨9, 12, 6, 15, 5, 10, 13, 7, 11, 14, 8, ⟨by decide +kernel, by decide +kernel, by decide +kernel, by decide +kernel, by decide +kernel⟩, ⟨by decide +kernel, by decide +kernel, by decide +kernel⟩, ⟨by decide +kernel, by decide +kernel, by decide +kernel⟩, ⟨by decide +kernel, by decide +kernel, by decide +kernel⟩, ⟨by decide +kernel, by decide +kernel, by decide +kernel⟩⟩
theorem i_rr {g : Nat → Int32} {F : Nat → Nat → Int32} (h7 : g 7 = 0) (h8 : g 8 = -1) (h9 : g 9 = 0) : RLR g F la0 100040 0 iG iP iV iO iL iC := ⟨21, 4, 3, ⟨j_rd, j_dr, j_ra⟩, ⟨by decide, j_drf, 4, by decide⟩, ⟨j_g222.trans h9.symm, j_g80.trans h7.symm, j_g81.trans h8.symm⟩, ⟨by rw [j_g223]; decide, by rw [j_g223]; decide⟩, Or.inl ⟨by rw [h9]; decide, by rw [j_g223]; decide⟩, fun q hq => absurd hq (by rw [h9]; exact Nat.not_lt_zero _)⟩
theorem i_rw {g : Nat → Int32} {F : Nat → Nat → Int32} (h9 : g 9 = 0) : RLW g F := fun q hq => absurd hq (by rw [h9]; exact Nat.not_lt_zero _)
set_option maxRecDepth 100000 in
theorem j_p108_4 : iP 108 4 = some 16 := by decide +kernel
set_option maxRecDepth 100000 in
theorem j_p109_4 : iP 109 4 = some 19 := by decide +kernel
set_option maxRecDepth 100000 in
theorem j_p201_16 : iP 201 16 = some 17 := by decide +kernel
set_option maxRecDepth 100000 in
theorem j_p202_16 : iP 202 16 = some 18 := by decide +kernel
set_option maxRecDepth 100000 in
theorem j_w200_16 : iG 200 16 = 24 := by decide +kernel
set_option maxRecDepth 100000 in
theorem j_l18 : iL 18 = 40 := by decide +kernel
theorem i_ta : RTA 0 iG iP iL := ⟨4, j_dr, 16, 19, 17, 18, ⟨j_p108_4, j_p109_4, j_p201_16, j_p202_16⟩, (by rw [j_w200_16]; decide), j_l18⟩
theorem i_tb {g : Nat → Int32} {F : Nat → Nat → Int32} (h9 : g 9 = 0) : RTB g F 0 iG iP iV iO := fun q hq => absurd hq (by rw [h9]; exact Nat.not_lt_zero _)
set_option maxRecDepth 100000 in
theorem j_p226_0 : iP 226 0 = some 23 := by decide +kernel
set_option maxRecDepth 100000 in
theorem j_p181_23 : iP 181 23 = some 33 := by decide +kernel
set_option maxRecDepth 100000 in
theorem j_p182_23 : iP 182 23 = some 34 := by decide +kernel
set_option maxRecDepth 100000 in
theorem j_p186_23 : iP 186 23 = some 36 := by decide +kernel
set_option maxRecDepth 100000 in
theorem j_p187_23 : iP 187 23 = some 39 := by decide +kernel
set_option maxRecDepth 100000 in
theorem j_p185_23 : iP 185 23 = some 35 := by decide +kernel
set_option maxRecDepth 100000 in
theorem j_p180_23 : iP 180 23 = some 24 := by decide +kernel
set_option maxRecDepth 100000 in
theorem j_p63_24 : iP 63 24 = some 27 := by decide +kernel
set_option maxRecDepth 100000 in
theorem j_p65_24 : iP 65 24 = some 29 := by decide +kernel
set_option maxRecDepth 100000 in
theorem j_p62_24 : iP 62 24 = some 26 := by decide +kernel
set_option maxRecDepth 100000 in
theorem j_p61_24 : iP 61 24 = some 25 := by decide +kernel
set_option maxRecDepth 100000 in
theorem j_p64_24 : iP 64 24 = some 28 := by decide +kernel
set_option maxRecDepth 100000 in
theorem j_p201_36 : iP 201 36 = some 37 := by decide +kernel
set_option maxRecDepth 100000 in
theorem j_p202_36 : iP 202 36 = some 38 := by decide +kernel
set_option maxRecDepth 100000 in
theorem j_p201_39 : iP 201 39 = some 40 := by decide +kernel
set_option maxRecDepth 100000 in
theorem j_p202_39 : iP 202 39 = some 41 := by decide +kernel
set_option maxRecDepth 100000 in
theorem j_w200_36 : iG 200 36 = 24 := by decide +kernel
set_option maxRecDepth 100000 in
theorem j_w200_39 : iG 200 39 = 24 := by decide +kernel
set_option maxRecDepth 100000 in
theorem j_l38 : iL 38 = 12 := by decide +kernel
set_option maxRecDepth 100000 in
theorem j_l41 : iL 41 = 12 := by decide +kernel
theorem i_tc : RTC la0 0 iG iP iL := ⟨23, 33, 34, 35, 24, 27, 29, 26, 25, 28, 36, 39, 37, 38, 40, 41, ⟨j_p226_0, ⟨Or.inl ⟨j_p181_23, j_p182_23⟩, Or.inl ⟨j_p186_23, j_p187_23⟩⟩, (by decide)⟩, ⟨j_p185_23, j_p180_23, j_p63_24, j_p65_24, j_p62_24, j_p61_24, j_p64_24⟩, ⟨j_p201_36, j_p202_36, j_p201_39, j_p202_39⟩, ⟨(by rw [j_w200_36]; decide), (by rw [j_w200_39]; decide), j_l38, j_l41⟩, by decide⟩
set_option maxRecDepth 100000 in
theorem j_p227_0 : iP 227 0 = some 42 := by decide +kernel
set_option maxRecDepth 100000 in
theorem j_p201_42 : iP 201 42 = some 43 := by decide +kernel
set_option maxRecDepth 100000 in
theorem j_p202_42 : iP 202 42 = some 44 := by decide +kernel
set_option maxRecDepth 100000 in
theorem j_w200_42 : iG 200 42 = 24 := by decide +kernel
set_option maxRecDepth 100000 in
theorem j_l44 : iL 44 = 12 := by decide +kernel
set_option maxRecDepth 100000 in
theorem j_w203_42 : iG 203 42 = 0 := by decide +kernel
theorem i_td {g : Nat → Int32} {F : Nat → Nat → Int32} (h44 : g 44 = 0) : RTD g F 0 iG iP iV iL := ⟨42, 43, 44, [], ⟨j_p227_0, j_p201_42, j_p202_42⟩, ⟨(by rw [j_w200_42]; decide), j_l44⟩, List.length_eq_zero_iff.mp (by rw [rw_len, j_w203_42]; rfl), List.length_eq_zero_iff.mp (by rw [rw_len, h44]; rfl)⟩
set_option maxRecDepth 100000 in
theorem j_p229_0 : iP 229 0 = some 54 := by decide +kernel
set_option maxRecDepth 100000 in
theorem j_p1_54 : iP 1 54 = some 58 := by decide +kernel
set_option maxRecDepth 100000 in
theorem j_p3_54 : iP 3 54 = some 60 := by decide +kernel
set_option maxRecDepth 100000 in
theorem j_p4_54 : iP 4 54 = some 61 := by decide +kernel
set_option maxRecDepth 100000 in
theorem j_p201_61 : iP 201 61 = some 62 := by decide +kernel
set_option maxRecDepth 100000 in
theorem j_p202_61 : iP 202 61 = some 63 := by decide +kernel
set_option maxRecDepth 100000 in
theorem j_w200_61 : iG 200 61 = 24 := by decide +kernel
set_option maxRecDepth 100000 in
theorem j_l63 : iL 63 = 12 := by decide +kernel
set_option maxRecDepth 100000 in
theorem j_g231 : iG 231 0 = 0 := by decide +kernel
set_option maxRecDepth 100000 in
theorem j_p230_0 : iP 230 0 = some 67 := by decide +kernel
theorem i_rbk {g : Nat → Int32} {F : Nat → Nat → Int32} : RBK g F la0 100040 0 iG iP iV iO iL iC := ⟨54, 58, 60, 61, 62, 63, ⟨j_p229_0, j_p1_54, j_p3_54, j_p4_54, j_p201_61, j_p202_61⟩, ⟨(by rw [j_w200_61]; decide), j_l63⟩, fun s w hs hw => absurd hw (by show ¬ (w < Int32.toNatClampNeg (iV 3 60 s)); rw [iv3z]; exact Nat.not_lt_zero _), fun s _ _ => by rw [iv3z]; rfl⟩
theorem i_bw {g : Nat → Int32} {F : Nat → Nat → Int32} (hg : g 48 = 0) : RBW g F := by
  have e : wsR g F = [] := List.length_eq_zero_iff.mp (by unfold wsR; rw [rw_len, hg]; rfl)
  unfold RBW
  rw [e]
  exact wds_0
theorem i_bo {g : Nat → Int32} {F : Nat → Nat → Int32} (h56 : g 56 = 0) : RBO g F 0 iG iP iV := ⟨67, [], j_p230_0, NTL_0 (by rw [j_g231]; decide), NTL_0 (by rw [h56]; decide)⟩
set_option maxRecDepth 100000 in
theorem j_p236_0 : iP 236 0 = some 76 := by decide +kernel
set_option maxRecDepth 100000 in
theorem j_p42_76 : iP 42 76 = some 79 := by decide +kernel
set_option maxRecDepth 100000 in
theorem j_w43_76 : iG 43 76 = 0 := by decide +kernel
theorem i_mx {g : Nat → Int32} {F : Nat → Nat → Int32} (h70 : g 70 = 0) : RMX g F 0 iG iP iV := ⟨76, 79, j_p236_0, j_p42_76, by rw [j_w43_76, h70], fun j hj => absurd hj (by rw [h70]; show ¬ ((j : Int) < 0); omega)⟩
theorem i_rl {g : Nat → Int32} {F : Nat → Nat → Int32} (hg : g 48 = 0) (h0 : ∀ i, F 0 i = 0) (h49 : ∀ i, F 49 i = 0) (h50 : ∀ i, F 50 i = 0) (h7 : g 7 = 0) (h8 : g 8 = -1) (h9 : g 9 = 0) (h47 : g 47 = 0) (h44 : g 44 = 0) (h51 : g 51 = 0) (h56 : g 56 = 0) (h70 : g 70 = 0) : RLB g F 0 tp0 bk0 wd0 iG iP iV iO iL iC := ⟨la0, 100040, tb0, wl0, wz0, i_lb, by rw [ic_eq]; decide, by decide, fun b hb => by rw [j_dr] at hb; cases hb; rw [ic_eq]; decide, by decide, j_tb, j_w0, j_wl, j_wz, j_lz, j_w24, j_w203.trans hg.symm, funext (fun i => (iv0z _ _).trans (h0 i).symm), funext (fun i => (iv0z _ _).trans (h49 i).symm), funext (fun i => (iv1z _ _).trans (h50 i).symm), i_rr h7 h8 h9, i_rw h9, i_ta, i_tb h9, i_tc, i_td h44, i_bw hg, RBM_0 (by rw [h51]; decide), i_bo h56, i_rbk, i_mx h70⟩
