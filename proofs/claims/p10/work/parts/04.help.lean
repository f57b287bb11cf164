/-! what the tables say of the nest and of arrays of objects; small facts of numbers; Arrays.fill over noughts -/
def EnvOK (U : State) : Prop := va_Nw (.methodLinkNest RX11 11 yX7_init RX11) U ∧ va_Nw (.methodLinkNest RX11 29 yX5_init RX11) U ∧ va_Nw (.methodLinkNest RX11 36 yX4_init RX11) U ∧ va_Nw (.methodLinkNest RX11 43 yX9_init RX11) U ∧ va_Nw (.methodLinkNest RX11 59 yX3_init RX11) U ∧ va_Nw (.methodLinkNest RX11 66 yX0_init RX11) U ∧ va_Nw (.methodLinkNest RX11 86 yX8_init RX11) U ∧ va_Nw (.methodLinkNest RX11 93 yX6_init RX11) U ∧ va_Nw (.methodLinkNest RX11 100 yX2_init RX11) U ∧ va_Nw (.methodLinkNest RX9 11 yX3_init RX11) U ∧ va_AO RX1 U ∧ va_AO RX5 U ∧ va_AO RX10 U
theorem en_nRX11_11 {U : State} (h : EnvOK U) : va_Nw (.methodLinkNest RX11 11 yX7_init RX11) U := h.1
theorem en_nRX11_29 {U : State} (h : EnvOK U) : va_Nw (.methodLinkNest RX11 29 yX5_init RX11) U := h.2.1
theorem en_nRX11_36 {U : State} (h : EnvOK U) : va_Nw (.methodLinkNest RX11 36 yX4_init RX11) U := h.2.2.1
theorem en_nRX11_43 {U : State} (h : EnvOK U) : va_Nw (.methodLinkNest RX11 43 yX9_init RX11) U := h.2.2.2.1
theorem en_nRX11_59 {U : State} (h : EnvOK U) : va_Nw (.methodLinkNest RX11 59 yX3_init RX11) U := h.2.2.2.2.1
theorem en_nRX11_66 {U : State} (h : EnvOK U) : va_Nw (.methodLinkNest RX11 66 yX0_init RX11) U := h.2.2.2.2.2.1
theorem en_nRX11_86 {U : State} (h : EnvOK U) : va_Nw (.methodLinkNest RX11 86 yX8_init RX11) U := h.2.2.2.2.2.2.1
theorem en_nRX11_93 {U : State} (h : EnvOK U) : va_Nw (.methodLinkNest RX11 93 yX6_init RX11) U := h.2.2.2.2.2.2.2.1
theorem en_nRX11_100 {U : State} (h : EnvOK U) : va_Nw (.methodLinkNest RX11 100 yX2_init RX11) U := h.2.2.2.2.2.2.2.2.1
theorem en_nRX9_11 {U : State} (h : EnvOK U) : va_Nw (.methodLinkNest RX9 11 yX3_init RX11) U := h.2.2.2.2.2.2.2.2.2.1
theorem en_aoRX1 {U : State} (h : EnvOK U) : va_AO RX1 U := h.2.2.2.2.2.2.2.2.2.2.1
theorem en_aoRX5 {U : State} (h : EnvOK U) : va_AO RX5 U := h.2.2.2.2.2.2.2.2.2.2.2.1
theorem en_aoRX10 {U : State} (h : EnvOK U) : va_AO RX10 U := h.2.2.2.2.2.2.2.2.2.2.2.2
theorem en_call {U : State} {g : JFrame} {mk : MethodId} {a : Array Value} (h : EnvOK U) : EnvOK (U.calling g mk a) := ⟨va_Nw.same rfl rfl (h.1), va_Nw.same rfl rfl (h.2.1), va_Nw.same rfl rfl (h.2.2.1), va_Nw.same rfl rfl (h.2.2.2.1), va_Nw.same rfl rfl (h.2.2.2.2.1), va_Nw.same rfl rfl (h.2.2.2.2.2.1), va_Nw.same rfl rfl (h.2.2.2.2.2.2.1), va_Nw.same rfl rfl (h.2.2.2.2.2.2.2.1), va_Nw.same rfl rfl (h.2.2.2.2.2.2.2.2.1), va_Nw.same rfl rfl (h.2.2.2.2.2.2.2.2.2.1), va_AO.moved (u := U) (U := U.calling g mk a) (Vm.Alike.refl U.vm) (h.2.2.2.2.2.2.2.2.2.2.1), va_AO.moved (u := U) (U := U.calling g mk a) (Vm.Alike.refl U.vm) (h.2.2.2.2.2.2.2.2.2.2.2.1), va_AO.moved (u := U) (U := U.calling g mk a) (Vm.Alike.refl U.vm) (h.2.2.2.2.2.2.2.2.2.2.2.2)⟩
theorem en_warm {s U : State} (hW : s.WarmedH U.vm) (h : EnvOK s) : EnvOK U := ⟨va_Nw.warmM hW (h.1), va_Nw.warmM hW (h.2.1), va_Nw.warmM hW (h.2.2.1), va_Nw.warmM hW (h.2.2.2.1), va_Nw.warmM hW (h.2.2.2.2.1), va_Nw.warmM hW (h.2.2.2.2.2.1), va_Nw.warmM hW (h.2.2.2.2.2.2.1), va_Nw.warmM hW (h.2.2.2.2.2.2.2.1), va_Nw.warmM hW (h.2.2.2.2.2.2.2.2.1), va_Nw.warmM hW (h.2.2.2.2.2.2.2.2.2.1), va_AO.moved hW.alike (h.2.2.2.2.2.2.2.2.2.2.1), va_AO.moved hW.alike (h.2.2.2.2.2.2.2.2.2.2.2.1), va_AO.moved hW.alike (h.2.2.2.2.2.2.2.2.2.2.2.2)⟩
theorem z_lt (a b : Int32) : a < b ↔ a.toInt < b.toInt := Int32.lt_iff_toInt_lt
theorem z_le (a b : Int32) : a ≤ b ↔ a.toInt ≤ b.toInt := Int32.le_iff_toInt_le
theorem z_eqi (a b : Int32) : a = b ↔ a.toInt = b.toInt := Int32.toInt_inj.symm
theorem z_e {a b : Int32} (h : a.toInt = b.toInt) : a = b := Int32.toInt_inj.mp h
theorem zl_m2 : (-2 : Int32).toInt = -2 := by decide
theorem zl_m1 : (-1 : Int32).toInt = -1 := by decide
theorem zl_0 : (0 : Int32).toInt = 0 := by decide
theorem zl_1 : (1 : Int32).toInt = 1 := by decide
theorem zl_2 : (2 : Int32).toInt = 2 := by decide
theorem zl_50 : (50 : Int32).toInt = 50 := by decide
theorem zl_100000 : (100000 : Int32).toInt = 100000 := by decide
theorem z_upd (k : Nat) : upd (fun _ => 0) k 0 = fun _ => 0 := by
  funext j
  simp [upd]
theorem z_out3 {x : Int32} (h0 : ¬ (x = 0)) (h1 : ¬ (x = 1)) (h2 : ¬ (x = 2)) : x.toInt < 0 ∨ 2 < x.toInt := by
  simp only [z_eqi, zl_0, zl_1, zl_2] at h0 h1 h2
  omega
theorem z_lk2 {x : Int32} {a b d : Int} (h0 : ¬ (x = 0)) (h1 : ¬ (x = 1)) : Op.lookupswitch.offset [(0, a), (1, b)] d x.toInt = d := by
  simp only [z_eqi, zl_0, zl_1] at h0 h1
  rw [show Op.lookupswitch.offset [(0, a), (1, b)] d x.toInt = if (0 : Int) = x.toInt then a else if (1 : Int) = x.toInt then b else d from rfl, if_neg (fun h => h0 h.symm), if_neg (fun h => h1 h.symm)]
set_option maxHeartbeats 4000000 in
set_option maxRecDepth 100000 in
theorem fill_loop {p : Program} {l : Launch} {e : Env} {R : Room} {s : State} {m : MethodId} {args : Array Value} {below : List Frame} {meth : Method} {c : Code} {Q : State → Prop} {A : Nat → Prop} {dC : Nat → ClassId} {dI : Nat → Nat → Nat} {h0 : Nat} {k0 : ClassId} {n : Nat} (hn : n < 2 ^ 31) (hx : p.tables.exec = Jvm.exec) (hb : c.code = cJ7_fill_53178) (hK : va_K (dC, dI) vwCl [(k0, .int)] s) (hD : va_D A [(h0, .inl (k0, n, .inl (fun _ => 0)))])
    (hexit : ∀ (H : Heap) (locs : List Loc) (ls : Array Slot), va_P (dC, dI) vwCl [(h0, .inl (k0, n, .inl (fun _ => 0)))] H → va_S A s.heap H locs → W p l e R s m args below meth c H locs 0 0 Q (F0 m 20 ls [])) :
    ∀ (d i : Nat) (H : Heap) (locs : List Loc) (ls : Array Slot), i ≤ n → n - i < d → va_P (dC, dI) vwCl [(h0, .inl (k0, n, .inl (fun _ => 0)))] H → va_S A s.heap H locs → lv_has ls 4 [(2, .int (nI i)), (3, .int (nI n)), (0, .ref h0), (1, .int 0)] → W p l e R s m args below meth c H locs 0 0 Q (F0 m 5 ls []) := by
  intro d
  induction d with
  | zero => intro i H locs ls _ h; omega
  | succ d ih =>
    intro i H locs ls hi hd hP hS hl
    refine lv_iload_n hx hb dJ7_fill_53178_5 rfl (lv_at hl 0 rfl) ?_
    refine lv_iload_n hx hb dJ7_fill_53178_6 rfl (lv_at hl 1 rfl) ?_
    refine lv_icmp_ge (tgt := 20) hx hb dJ7_fill_53178_7 (by decide) (fun c1 => hexit H locs ls hP hS) (fun c1 => ?_)
    have hlt : i < n := by
      rcases Nat.lt_or_ge i n with q | q
      · exact q
      · exact absurd (nI_le q (by omega)) c1
    refine lv_aload_n hx hb dJ7_fill_53178_10 rfl (lv_at hl 2 rfl) ?_
    refine lv_iload_n hx hb dJ7_fill_53178_11 rfl (lv_at hl 0 rfl) ?_
    refine lv_iload_n hx hb dJ7_fill_53178_12 rfl (lv_at hl 3 rfl) ?_
    refine va_iast hx hb hK hP hD hS 0 0 rfl rfl (vp_in_nI hlt hn) dJ7_fill_53178_13 (fun H locs hP hD2 hS => ?_)
    obtain ⟨f, ef, hP⟩ : ∃ f : Nat → Int32, f = upd (fun _ => 0) (nI i).toNatClampNeg 0 ∧ va_P (dC, dI) vwCl [(h0, .inl (k0, n, .inl f))] H := ⟨_, rfl, hP⟩
    obtain rfl : f = fun _ => 0 := ef.trans (z_upd _)
    refine lv_iinc (v := nI (i + 1)) (lv' := [(2, .int (nI (i + 1))), (3, .int (nI n)), (0, .ref h0), (1, .int 0)]) hx hb dJ7_fill_53178_14 hl (k := 0) rfl (nI_1 i) (by decide) rfl (fun ls hl => ?_)
    refine lv_goto (tgt := 5) hx hb dJ7_fill_53178_17 (by decide) ?_
    exact ih (i + 1) H locs ls hlt (by omega) hP hS hl
set_option maxHeartbeats 4000000 in
set_option maxRecDepth 100000 in
/-- Arrays.fill(a, 0) where a holds noughts alone: they stay -/
theorem c_fill (l : Launch) (dC : Nat → ClassId) (dI : Nat → Nat → Nat) (sz : Nat) (h0 : Nat) (k0 : ClassId) (n : Nat) (hn : n < 2 ^ 31) : Met l yJ7_fill_53178 wmJ7_fill_53178 ({ frames := 2, cells := 0, slots := 0, locals := 60 }) (va_Pc [.ref h0, .int 0] (fun U => U.heap.size = sz ∧ va_P (dC, dI) vwCl [(h0, .inl (k0, n, .inl (fun _ => 0)))] U.heap ∧ va_K (dC, dI) vwCl [(k0, .int)] U ∧ va_D (fun _ => True) [(h0, .inl (k0, n, .inl (fun _ => 0)))])) (va_Qv (fun _ : Unit => True) (fun _ t => va_P (dC, dI) vwCl [(h0, .inl (k0, n, .inl (fun _ => 0)))] t.heap ∧ va_K (dC, dI) vwCl [] t ∧ va_D (va_A [(h0, .inl (k0, n, .inl (fun _ => 0)))] sz) [(h0, .inl (k0, n, .inl (fun _ => 0)))]) (va_A [(h0, .inl (k0, n, .inl (fun _ => 0)))] sz)) 0 0 (va_A [(h0, .inl (k0, n, .inl (fun _ => 0)))] sz) := by
  refine Met.ofW (cc := cJ7_fill_53178) (maxL := 4) (ret := none) (by decide) rfl ?_
  intro p e s m args below meth c s₁ B hml hv
  obtain ⟨rfl, hsz, hP, hK, hD0⟩ := hv
  have hx := B.exec
  have hb := B.bytes
  have hr := B.returns
  subst hsz
  have hD := hD0.self (sz := s.heap.size)
  generalize hAe : va_A [(h0, .inl (k0, n, .inl (fun _ => 0)))] s.heap.size = A at hD ⊢
  have hS : va_S A s.heap s.heap [] := va_S.rf
  have hP : va_P (dC, dI) vwCl [(h0, .inl (k0, n, .inl (fun _ => 0)))] s.heap := hP
  have hl := lv_entry ([.ref h0, .int 0]) (n := 4) (Nat.le_of_ble_eq_true rfl)
  rw [lg_entry_eq]
  generalize (lg_sl ([.ref h0, .int 0]) ++ List.replicate (4 - (lg_sl ([.ref h0, .int 0])).length) Slot.unset).toArray = ls at hl ⊢
  have hl : lv_has ls 4 [(0, .ref h0), (1, .int 0)] := hl
  refine lv_iconst (v := 0) hx hb dJ7_fill_53178_0 (by decide) ?_
  refine lv_istore_n (lv' := [(2, .int 0), (0, .ref h0), (1, .int 0)]) hx hb dJ7_fill_53178_1 rfl hl (by decide) rfl (fun ls hl => ?_)
  refine lv_aload_n hx hb dJ7_fill_53178_2 rfl (lv_at hl 1 rfl) ?_
  refine va_alen hx hb hK hP 0 0 rfl rfl (v := nI n) rfl dJ7_fill_53178_3 ?_
  refine lv_istore_n (lv' := [(3, .int (nI n)), (2, .int 0), (0, .ref h0), (1, .int 0)]) hx hb dJ7_fill_53178_4 rfl hl (by decide) rfl (fun ls hl => ?_)
  refine fill_loop hn hx hb hK hD (fun H locs ls hP hS => ?_) (n + 1) 0 s.heap [] ls (Nat.zero_le n) (by omega) hP hS (lv_sub hl [1, 0, 2, 3] rfl)
  have hK9 := hK.sub (tys' := []) [] rfl
  exact W.vret hx hb hr (fun t ht hW => ⟨⟨(), rfl, trivial, by rw [ht]; exact hP, va_K.moved hW.alike hK9, hD⟩, hS.F ht⟩) hS.2.2 dJ7_fill_53178_20
