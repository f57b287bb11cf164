def ABT (w r dy lc pc kc ec : Int) : Prop := (w = 0 → r = dy) ∧ (w = 1 → r = lc) ∧ (w = 2 → r = pc) ∧ (w = 3 → r = kc) ∧ (w = 4 → r = ec - kc) ∧ (w < 0 ∨ 4 < w → r = -1)
theorem ABT_det {w r1 r2 dy lc pc kc ec : Int} (h1 : ABT w r1 dy lc pc kc ec) (h2 : ABT w r2 dy lc pc kc ec) : r1 = r2 := by
  obtain ⟨a0, a1, a2, a3, a4, a5⟩ := h1
  obtain ⟨b0, b1, b2, b3, b4, b5⟩ := h2
  omega
theorem kct_tab {g : Nat → Wd × Option Wd} {k : Nat} : kct (tab (k + 1) g) = kct (tab k g) + (if (g k).2.isNone = true then 1 else 0) := by
  rw [tab_succ, kct_app]
