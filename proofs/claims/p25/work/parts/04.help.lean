/-! what the tables say of the nest and of arrays of objects; small facts of numbers; Arrays.fill over noughts -/
def EnvOK (U : State) : Prop := va_Nw (.methodLinkNest RX11 11 yX7_init RX11) U ∧ va_Nw (.methodLinkNest RX11 29 yX5_init RX11) U ∧ va_Nw (.methodLinkNest RX11 36 yX4_init RX11) U ∧ va_Nw (.methodLinkNest RX11 43 yX9_init RX11) U ∧ va_Nw (.methodLinkNest RX11 59 yX3_init RX11) U ∧ va_Nw (.methodLinkNest RX11 66 yX0_init RX11) U ∧ va_Nw (.methodLinkNest RX11 86 yX8_init RX11) U ∧ va_Nw (.methodLinkNest RX11 93 yX6_init RX11) U ∧ va_Nw (.methodLinkNest RX11 100 yX2_init RX11) U ∧ va_Nw (.methodLinkNest RX9 11 yX3_init RX11) U ∧ va_AO RX1 U ∧ va_AO RX5 U ∧ va_AO RX10 U
theorem en_nRX11_11 {U : State} (h : EnvOK U) : va_Nw (.methodLinkNest RX11 11 yX7_init RX11) U := h.1
theorem en_nRX11_29 {U : State} (h : EnvOK U) : va_Nw (.methodLinkNest RX11 29 yX5_init RX11) U := h.2.1
theorem en_nRX11_36 {U : State} (h : EnvOK U) : va_Nw (.methodLinkNest RX11 36 yX4_init RX11) U := h.2.2.1
theorem en_nRX11_43 {U : State} (h : EnvOK U) : va_Nw (.methodLinkNest RX11 43 yX9_init RX11) U := h.2.2.2.1
theorem en_nRX11_59 {U : State} (h : EnvOK U) : va_Nw (.methodLinkNest RX11 59 yX3_init RX11) U := h.2.2.2.2.1
theorem en_nRX11_66 {U : State} (h : EnvOK U) : va_Nw (.methodLinkNest RX11 66 yX0_init RX11) U := h.2.2.2.2.2.1
theorem en_nRX11_86 {U : State} (h : EnvOK U) : va_Nw (.methodLinkNest RX11 86 yX8_init RX11) U := h.2.2.2.2.2.2.1
theorem en_nRX11_93 {U : State} (h : EnvOK U) : va_Nw (.methodLinkNest RX11 93 yX6_init RX11) U := h.2.2.2.2.2.2.2.1
theorem en_nRX11_100 {U : State} (h : EnvOK U) : va_Nw (.methodLinkNest RX11 100 yX2_init RX11) U := h.2.2.2.2.2.2.2.2.1
theorem en_nRX9_11 {U : State} (h : EnvOK U) : va_Nw (.methodLinkNest RX9 11 yX3_init RX11) U := h.2.2.2.2.2.2.2.2.2.1
theorem en_aoRX1 {U : State} (h : EnvOK U) : va_AO RX1 U := h.2.2.2.2.2.2.2.2.2.2.1
theorem en_aoRX5 {U : State} (h : EnvOK U) : va_AO RX5 U := h.2.2.2.2.2.2.2.2.2.2.2.1
theorem en_aoRX10 {U : State} (h : EnvOK U) : va_AO RX10 U := h.2.2.2.2.2.2.2.2.2.2.2.2
theorem en_call {U : State} {g : JFrame} {mk : MethodId} {a : Array Value} (h : EnvOK U) : EnvOK (U.calling g mk a) := ⟨va_Nw.same rfl rfl (h.1), va_Nw.same rfl rfl (h.2.1), va_Nw.same rfl rfl (h.2.2.1), va_Nw.same rfl rfl (h.2.2.2.1), va_Nw.same rfl rfl (h.2.2.2.2.1), va_Nw.same rfl rfl (h.2.2.2.2.2.1), va_Nw.same rfl rfl (h.2.2.2.2.2.2.1), va_Nw.same rfl rfl (h.2.2.2.2.2.2.2.1), va_Nw.same rfl rfl (h.2.2.2.2.2.2.2.2.1), va_Nw.same rfl rfl (h.2.2.2.2.2.2.2.2.2.1), va_AO.moved (u := U) (U := U.calling g mk a) (Vm.Alike.refl U.vm) (h.2.2.2.2.2.2.2.2.2.2.1), va_AO.moved (u := U) (U := U.calling g mk a) (Vm.Alike.refl U.vm) (h.2.2.2.2.2.2.2.2.2.2.2.1), va_AO.moved (u := U) (U := U.calling g mk a) (Vm.Alike.refl U.vm) (h.2.2.2.2.2.2.2.2.2.2.2.2)⟩
theorem en_warm {s U : State} (hW : s.WarmedH U.vm) (h : EnvOK s) : EnvOK U := ⟨va_Nw.warmM hW (h.1), va_Nw.warmM hW (h.2.1), va_Nw.warmM hW (h.2.2.1), va_Nw.warmM hW (h.2.2.2.1), va_Nw.warmM hW (h.2.2.2.2.1), va_Nw.warmM hW (h.2.2.2.2.2.1), va_Nw.warmM hW (h.2.2.2.2.2.2.1), va_Nw.warmM hW (h.2.2.2.2.2.2.2.1), va_Nw.warmM hW (h.2.2.2.2.2.2.2.2.1), va_Nw.warmM hW (h.2.2.2.2.2.2.2.2.2.1), va_AO.moved hW.alike (h.2.2.2.2.2.2.2.2.2.2.1), va_AO.moved hW.alike (h.2.2.2.2.2.2.2.2.2.2.2.1), va_AO.moved hW.alike (h.2.2.2.2.2.2.2.2.2.2.2.2)⟩
theorem z_lt (a b : Int32) : a < b ↔ a.toInt < b.toInt := Int32.lt_iff_toInt_lt
theorem z_le (a b : Int32) : a ≤ b ↔ a.toInt ≤ b.toInt := Int32.le_iff_toInt_le
theorem z_eqi (a b : Int32) : a = b ↔ a.toInt = b.toInt := Int32.toInt_inj.symm
theorem z_e {a b : Int32} (h : a.toInt = b.toInt) : a = b := Int32.toInt_inj.mp h
theorem zl_0 : (0 : Int32).toInt = 0 := by decide
theorem zl_1 : (1 : Int32).toInt = 1 := by decide
theorem z_lk2 {x : Int32} {a b d : Int} (h0 : ¬ (x = 0)) (h1 : ¬ (x = 1)) : Op.lookupswitch.offset [(0, a), (1, b)] d x.toInt = d := by
  simp only [z_eqi, zl_0, zl_1] at h0 h1
  rw [show Op.lookupswitch.offset [(0, a), (1, b)] d x.toInt = if (0 : Int) = x.toInt then a else if (1 : Int) = x.toInt then b else d from rfl, if_neg (fun h => h0 h.symm), if_neg (fun h => h1 h.symm)]