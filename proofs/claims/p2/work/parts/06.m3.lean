def veX12_onward : List Cond := [Cond.code yX12_onward cX12_onward 7 (some .int), Cond.constant RX12 379 (2147483647), Cond.fieldLink RX12 222 "SpellTurnerModel" "reforms" "I", Cond.fieldLink RX12 146 "SpellTurnerModel" "sum" "[I"]
def vmX12_onward : List Cond := veX12_onward ++ wsX120
theorem dX12_onward_34 : decode cX12_onward 34 = .ok (.iload_n 2, 1) := by decide +kernel
theorem dX12_onward_35 : decode cX12_onward 35 = .ok (.iload 5, 2) := by decide +kernel
theorem dX12_onward_37 : decode cX12_onward 37 = .ok (.if_icmp .ne 7, 3) := by decide +kernel
theorem dX12_onward_44 : decode cX12_onward 44 = .ok (.iload_n 3, 1) := by decide +kernel
theorem dX12_onward_60 : decode cX12_onward 60 = .ok (.iload 4, 2) := by decide +kernel
set_option maxHeartbeats 4000000 in
set_option maxRecDepth 100000 in
theorem bm_onward {p : Program} {l : Launch} {e : Env} {s : State} {m : MethodId} {args : Array Value} {below : List Frame} {meth : Method} {c : Code} {Q : State → Prop} {A : Nat → Prop} {dC : Nat → ClassId} {dI : Nat → Nat → Nat} {h0 : Nat} {kB kI kZ : ClassId} {q : Nat → Nat} {g : Nat → Int32} {F : Nat → Nat → Int32} {H : Heap} {locs : List Loc} {ls : Array Slot} (p0 : Int32) (p1 : Int32) (p2 : Int32) (hx : p.tables.exec = Jvm.exec) (hb : c.code = cX12_onward) (hml : c.maxLocals = 7) (hown : s.vm.findClass RX12 = some m.cls) (hts : ∀ w ∈ vmX12_onward, w.before args s = true) (hA : ∀ q : Nat, s.heap.size ≤ q → A q) (hK : va_K (dC, dI) vwCl (mT kB kI kZ) s) (hI : MInv g F) (hq0 : (0 ≤ p0.toInt ∧ p0.toInt ≤ 40)) (hP : va_P (dC, dI) vwCl (mW h0 kB kI kZ q g F) H) (hD : va_D A (mW h0 kB kI kZ q g F)) (hS : va_S A s.heap H locs) (hl : lv_has ls 7 [(0, .ref h0), (1, .int p0), (2, .int p1), (3, .int p2)])
    (K : ∀ (pc : Nat) (ls : Array Slot) (r : Int32) (u : ((Nat → Int32) × (Nat → Nat → Int32))) (H : Heap) (locs : List Loc), decode cX12_onward pc = .ok (.ireturn, 1) → (True) → va_P (dC, dI) vwCl (mW h0 kB kI kZ q g F) H → va_D A (mW h0 kB kI kZ q g F) → va_S A s.heap H locs → W p l e ({ frames := 2, cells := 0, slots := 0, locals := 60 } : Room) s m args below meth c H locs 0 0 Q (F0 m pc ls [.int r])) : W p l e ({ frames := 2, cells := 0, slots := 0, locals := 60 } : Room) s m args below meth c H locs 0 0 Q (F0 m 0 ls []) := by
  obtain ⟨hg1z, hg2z, hg3z, hg4z, hg5z, hg6z, hg7z, hg8z, hg9z, hg23z, hg27z, hg30z, hg34z, hg36z, hg39z, hg44z, hg47z, hg48z, hg51z, hg56z, hg59z, hg62z, hg65z, hg66z, hg70z, hF11z, hF12z, hF13z, hF15z, hF19z, hF21z, hF24z, hF25z, hF26z, hF33z, hF38z, hF41z, hF43z, hF45z, hF46z, hF50z, hF53z, hF54z⟩ := hI
  have zkm1 : (-1 : Int32).toInt = -1 := by decide +kernel
  have zk0 : (0 : Int32).toInt = 0 := by decide +kernel
  have zk1 : (1 : Int32).toInt = 1 := by decide +kernel
  have zk7 : (7 : Int32).toInt = 7 := by decide +kernel
  have zk2147483647 : (2147483647 : Int32).toInt = 2147483647 := by decide +kernel
  refine lv_ldcw (own := RX12) (v := 2147483647) hx hb hown (hts (.constant RX12 379 (2147483647)) (List.mem_of_getElem? (i := 1) rfl)) dX12_onward_0 ?_
  refine lv_istore (lv' := [(4, .int 2147483647), (0, .ref h0), (1, .int p0), (2, .int p1), (3, .int p2)]) hx hb dX12_onward_3 hl (by decide) rfl (fun ls hl => ?_)
  refine lv_iconst (v := 0) hx hb dX12_onward_5 (by decide +kernel) ?_
  refine lv_istore (lv' := [(5, .int 0), (4, .int 2147483647), (0, .ref h0), (1, .int p0), (2, .int p1), (3, .int p2)]) hx hb dX12_onward_6 hl (by decide) rfl (fun ls hl => ?_)
  have lp8 : ∀ (n8 : Nat) (x907 : Int32) (x908 : Int32) (gl909 : Nat → Int32) (fl910 : Nat → Nat → Int32) (H : Heap) (locs : List Loc) (ls : Array Slot), (7 - x907.toInt).toNat < n8 → (0 ≤ x907.toInt ∧ x907.toInt ≤ 7) → va_P (dC, dI) vwCl (mW h0 kB kI kZ q g F) H → va_D A (mW h0 kB kI kZ q g F) → va_S A s.heap H locs → lv_has ls 7 [(5, .int x907), (4, .int x908), (0, .ref h0), (1, .int p0), (2, .int p1), (3, .int p2)] → W p l e ({ frames := 2, cells := 0, slots := 0, locals := 60 } : Room) s m args below meth c H locs 0 0 Q (F0 m 8 ls []) := by
    intro n8
    induction n8 with
    | zero => intro x907 x908 gl909 fl910 H locs ls hm; exact absurd hm (Nat.not_lt_zero _)
    | succ n8 ih8 =>
      intro x907 x908 gl909 fl910 H locs ls hm8 f911 hP hD hS hl
      refine lv_iload hx hb dX12_onward_8 (lv_at hl 0 rfl) ?_
      refine lv_aload_n hx hb dX12_onward_10 rfl (lv_at hl 2 rfl) ?_
      refine va_get (D := (dC, dI)) (ci := 12) (v := .int (g 9)) (C := RX12) (T := TX12) (N := 71) hx hb hts (fun _ h => List.mem_append_right _ h) hown hK hP 0 rfl rfl 9 (by decide) (hts (.fieldLink RX12 222 "SpellTurnerModel" "reforms" "I") (List.mem_of_getElem? (i := 2) rfl)) (fun _ h9 => h9) rfl dX12_onward_11 ?_
      refine lv_icmp_gt (tgt := 70) hx hb dX12_onward_14 (by decide) (fun c912 => ?_) (fun c912 => ?_)
      · have c912 := (z_lt _ _).mp c912
        refine lv_iload hx hb dX12_onward_70 (lv_at hl 1 rfl) ?_
        exact K 72 ls x908 (g, F) H _ dX12_onward_72 trivial hP hD hS
      · have c912 := z_nlt c912
        refine lv_aload_n hx hb dX12_onward_17 rfl (lv_at hl 2 rfl) ?_
        refine va_get (D := (dC, dI)) (ci := 12) (v := .ref (q 68)) (C := RX12) (T := TX12) (N := 71) hx hb hts (fun _ h => List.mem_append_right _ h) hown hK hP 0 rfl rfl 68 (by decide) (hts (.fieldLink RX12 146 "SpellTurnerModel" "sum" "[I") (List.mem_of_getElem? (i := 3) rfl)) (fun _ h9 => h9) rfl dX12_onward_18 ?_
        refine lv_bipush (v := 7) hx hb dX12_onward_21 (by decide +kernel) ?_
        refine lv_iload_n hx hb dX12_onward_23 rfl (lv_at hl 3 rfl) ?_
        refine lv_imul hx hb dX12_onward_24 ?_
        refine lv_topi (fun x913 ex913 => ?_)
        have fx913 : x913.toInt = 7 * p0.toInt := by rw [ex913, z_mul (by simp only [zk7]; omega) (by simp only [zk7]; omega)]; simp only [zk7]
        clear ex913
        refine lv_iload hx hb dX12_onward_25 (lv_at hl 0 rfl) ?_
        refine lv_iadd hx hb dX12_onward_27 ?_
        refine lv_topi (fun x914 ex914 => ?_)
        have fx914 : x914.toInt = x913.toInt + x907.toInt := by have h := @z_add x913 x907 (by omega) (by omega); rw [← ex914] at h; omega
        clear ex914
        refine va_iald hx hb hK hP 44 1 rfl rfl (z_in (i := x914) (by omega) (by omega)) dX12_onward_28 ?_
        refine lv_topi (fun x915 ex915 => ?_)
        clear ex915
        refine lv_iload_n hx hb dX12_onward_29 rfl (lv_at hl 4 rfl) ?_
        refine lv_iconst (v := (-1)) hx hb dX12_onward_30 (by decide +kernel) ?_
        refine lv_icmp_eq (tgt := 40) hx hb dX12_onward_31 (by decide) (fun c916 => ?_) (fun c916 => ?_)
        · have c916 := congrArg Int32.toInt c916
          refine lv_iconst (v := 0) hx hb dX12_onward_40 (by decide +kernel) ?_
          refine lv_goto (tgt := 45) hx hb dX12_onward_41 (by decide) ?_
          refine lv_iadd hx hb dX12_onward_45 ?_
          refine lv_topi (fun x917 ex917 => ?_)
          clear ex917
          refine lv_istore (lv' := [(6, .int x917), (5, .int x907), (4, .int x908), (0, .ref h0), (1, .int p0), (2, .int p1), (3, .int p2)]) hx hb dX12_onward_46 hl (by decide) rfl (fun ls hl => ?_)
          refine lv_iload hx hb dX12_onward_48 (lv_at hl 0 rfl) ?_
          refine lv_iload hx hb dX12_onward_50 (lv_at hl 2 rfl) ?_
          refine lv_icmp_ge (tgt := 60) hx hb dX12_onward_52 (by decide) (fun c918 => ?_) (fun c918 => ?_)
          · have c918 := (z_le _ _).mp c918
            refine lv_iload hx hb dX12_onward_60 (lv_at hl 2 rfl) ?_
            refine lv_istore (lv' := [(4, .int x908), (6, .int x917), (5, .int x907), (0, .ref h0), (1, .int p0), (2, .int p1), (3, .int p2)]) hx hb dX12_onward_62 hl (by decide) rfl (fun ls hl => ?_)
            obtain ⟨x919, ex919⟩ : ∃ y : Int32, y = x907 + 1 := ⟨_, rfl⟩
            have fx919 : x919.toInt = x907.toInt + (1) := by rw [ex919, z_add (by omega) (by omega)]; omega
            refine lv_iinc (v := x919) (lv' := [(5, .int x919), (4, .int x908), (6, .int x917), (0, .ref h0), (1, .int p0), (2, .int p1), (3, .int p2)]) hx hb dX12_onward_64 hl (k := 2) rfl (by rw [ex919]; rfl) (by decide) rfl (fun ls hl => ?_)
            clear ex919
            refine lv_goto (tgt := 8) hx hb dX12_onward_67 (by decide) ?_
            exact ih8 x919 x908 g F H _ ls (show (7 - x919.toInt).toNat < n8 from by omega) (show (0 ≤ x919.toInt ∧ x919.toInt ≤ 7) from by omega) hP hD hS (lv_sub hl [0, 1, 3, 4, 5, 6] rfl)
          · have c918 := z_nle c918
            refine lv_iload hx hb dX12_onward_55 (lv_at hl 0 rfl) ?_
            refine lv_goto (tgt := 62) hx hb dX12_onward_57 (by decide) ?_
            refine lv_istore (lv' := [(4, .int x917), (6, .int x917), (5, .int x907), (0, .ref h0), (1, .int p0), (2, .int p1), (3, .int p2)]) hx hb dX12_onward_62 hl (by decide) rfl (fun ls hl => ?_)
            obtain ⟨x920, ex920⟩ : ∃ y : Int32, y = x907 + 1 := ⟨_, rfl⟩
            have fx920 : x920.toInt = x907.toInt + (1) := by rw [ex920, z_add (by omega) (by omega)]; omega
            refine lv_iinc (v := x920) (lv' := [(5, .int x920), (4, .int x917), (6, .int x917), (0, .ref h0), (1, .int p0), (2, .int p1), (3, .int p2)]) hx hb dX12_onward_64 hl (k := 2) rfl (by rw [ex920]; rfl) (by decide) rfl (fun ls hl => ?_)
            clear ex920
            refine lv_goto (tgt := 8) hx hb dX12_onward_67 (by decide) ?_
            exact ih8 x920 x917 g F H _ ls (show (7 - x920.toInt).toNat < n8 from by omega) (show (0 ≤ x920.toInt ∧ x920.toInt ≤ 7) from by omega) hP hD hS (lv_sub hl [0, 1, 3, 4, 5, 6] rfl)
        · have c916 := z_ne c916
          refine lv_iload_n hx hb dX12_onward_34 rfl (lv_at hl 4 rfl) ?_
          refine lv_iload hx hb dX12_onward_35 (lv_at hl 0 rfl) ?_
          refine lv_icmp_ne (tgt := 44) hx hb dX12_onward_37 (by decide) (fun c921 => ?_) (fun c921 => ?_)
          · have c921 := z_ne c921
            refine lv_iload_n hx hb dX12_onward_44 rfl (lv_at hl 5 rfl) ?_
            refine lv_iadd hx hb dX12_onward_45 ?_
            refine lv_topi (fun x922 ex922 => ?_)
            clear ex922
            refine lv_istore (lv' := [(6, .int x922), (5, .int x907), (4, .int x908), (0, .ref h0), (1, .int p0), (2, .int p1), (3, .int p2)]) hx hb dX12_onward_46 hl (by decide) rfl (fun ls hl => ?_)
            refine lv_iload hx hb dX12_onward_48 (lv_at hl 0 rfl) ?_
            refine lv_iload hx hb dX12_onward_50 (lv_at hl 2 rfl) ?_
            refine lv_icmp_ge (tgt := 60) hx hb dX12_onward_52 (by decide) (fun c923 => ?_) (fun c923 => ?_)
            · have c923 := (z_le _ _).mp c923
              refine lv_iload hx hb dX12_onward_60 (lv_at hl 2 rfl) ?_
              refine lv_istore (lv' := [(4, .int x908), (6, .int x922), (5, .int x907), (0, .ref h0), (1, .int p0), (2, .int p1), (3, .int p2)]) hx hb dX12_onward_62 hl (by decide) rfl (fun ls hl => ?_)
              obtain ⟨x924, ex924⟩ : ∃ y : Int32, y = x907 + 1 := ⟨_, rfl⟩
              have fx924 : x924.toInt = x907.toInt + (1) := by rw [ex924, z_add (by omega) (by omega)]; omega
              refine lv_iinc (v := x924) (lv' := [(5, .int x924), (4, .int x908), (6, .int x922), (0, .ref h0), (1, .int p0), (2, .int p1), (3, .int p2)]) hx hb dX12_onward_64 hl (k := 2) rfl (by rw [ex924]; rfl) (by decide) rfl (fun ls hl => ?_)
              clear ex924
              refine lv_goto (tgt := 8) hx hb dX12_onward_67 (by decide) ?_
              exact ih8 x924 x908 g F H _ ls (show (7 - x924.toInt).toNat < n8 from by omega) (show (0 ≤ x924.toInt ∧ x924.toInt ≤ 7) from by omega) hP hD hS (lv_sub hl [0, 1, 3, 4, 5, 6] rfl)
            · have c923 := z_nle c923
              refine lv_iload hx hb dX12_onward_55 (lv_at hl 0 rfl) ?_
              refine lv_goto (tgt := 62) hx hb dX12_onward_57 (by decide) ?_
              refine lv_istore (lv' := [(4, .int x922), (6, .int x922), (5, .int x907), (0, .ref h0), (1, .int p0), (2, .int p1), (3, .int p2)]) hx hb dX12_onward_62 hl (by decide) rfl (fun ls hl => ?_)
              obtain ⟨x925, ex925⟩ : ∃ y : Int32, y = x907 + 1 := ⟨_, rfl⟩
              have fx925 : x925.toInt = x907.toInt + (1) := by rw [ex925, z_add (by omega) (by omega)]; omega
              refine lv_iinc (v := x925) (lv' := [(5, .int x925), (4, .int x922), (6, .int x922), (0, .ref h0), (1, .int p0), (2, .int p1), (3, .int p2)]) hx hb dX12_onward_64 hl (k := 2) rfl (by rw [ex925]; rfl) (by decide) rfl (fun ls hl => ?_)
              clear ex925
              refine lv_goto (tgt := 8) hx hb dX12_onward_67 (by decide) ?_
              exact ih8 x925 x922 g F H _ ls (show (7 - x925.toInt).toNat < n8 from by omega) (show (0 ≤ x925.toInt ∧ x925.toInt ≤ 7) from by omega) hP hD hS (lv_sub hl [0, 1, 3, 4, 5, 6] rfl)
          · have c921 := congrArg Int32.toInt c921
            refine lv_iconst (v := 0) hx hb dX12_onward_40 (by decide +kernel) ?_
            refine lv_goto (tgt := 45) hx hb dX12_onward_41 (by decide) ?_
            refine lv_iadd hx hb dX12_onward_45 ?_
            refine lv_topi (fun x926 ex926 => ?_)
            clear ex926
            refine lv_istore (lv' := [(6, .int x926), (5, .int x907), (4, .int x908), (0, .ref h0), (1, .int p0), (2, .int p1), (3, .int p2)]) hx hb dX12_onward_46 hl (by decide) rfl (fun ls hl => ?_)
            refine lv_iload hx hb dX12_onward_48 (lv_at hl 0 rfl) ?_
            refine lv_iload hx hb dX12_onward_50 (lv_at hl 2 rfl) ?_
            refine lv_icmp_ge (tgt := 60) hx hb dX12_onward_52 (by decide) (fun c927 => ?_) (fun c927 => ?_)
            · have c927 := (z_le _ _).mp c927
              refine lv_iload hx hb dX12_onward_60 (lv_at hl 2 rfl) ?_
              refine lv_istore (lv' := [(4, .int x908), (6, .int x926), (5, .int x907), (0, .ref h0), (1, .int p0), (2, .int p1), (3, .int p2)]) hx hb dX12_onward_62 hl (by decide) rfl (fun ls hl => ?_)
              obtain ⟨x928, ex928⟩ : ∃ y : Int32, y = x907 + 1 := ⟨_, rfl⟩
              have fx928 : x928.toInt = x907.toInt + (1) := by rw [ex928, z_add (by omega) (by omega)]; omega
              refine lv_iinc (v := x928) (lv' := [(5, .int x928), (4, .int x908), (6, .int x926), (0, .ref h0), (1, .int p0), (2, .int p1), (3, .int p2)]) hx hb dX12_onward_64 hl (k := 2) rfl (by rw [ex928]; rfl) (by decide) rfl (fun ls hl => ?_)
              clear ex928
              refine lv_goto (tgt := 8) hx hb dX12_onward_67 (by decide) ?_
              exact ih8 x928 x908 g F H _ ls (show (7 - x928.toInt).toNat < n8 from by omega) (show (0 ≤ x928.toInt ∧ x928.toInt ≤ 7) from by omega) hP hD hS (lv_sub hl [0, 1, 3, 4, 5, 6] rfl)
            · have c927 := z_nle c927
              refine lv_iload hx hb dX12_onward_55 (lv_at hl 0 rfl) ?_
              refine lv_goto (tgt := 62) hx hb dX12_onward_57 (by decide) ?_
              refine lv_istore (lv' := [(4, .int x926), (6, .int x926), (5, .int x907), (0, .ref h0), (1, .int p0), (2, .int p1), (3, .int p2)]) hx hb dX12_onward_62 hl (by decide) rfl (fun ls hl => ?_)
              obtain ⟨x929, ex929⟩ : ∃ y : Int32, y = x907 + 1 := ⟨_, rfl⟩
              have fx929 : x929.toInt = x907.toInt + (1) := by rw [ex929, z_add (by omega) (by omega)]; omega
              refine lv_iinc (v := x929) (lv' := [(5, .int x929), (4, .int x926), (6, .int x926), (0, .ref h0), (1, .int p0), (2, .int p1), (3, .int p2)]) hx hb dX12_onward_64 hl (k := 2) rfl (by rw [ex929]; rfl) (by decide) rfl (fun ls hl => ?_)
              clear ex929
              refine lv_goto (tgt := 8) hx hb dX12_onward_67 (by decide) ?_
              exact ih8 x929 x926 g F H _ ls (show (7 - x929.toInt).toNat < n8 from by omega) (show (0 ≤ x929.toInt ∧ x929.toInt ≤ 7) from by omega) hP hD hS (lv_sub hl [0, 1, 3, 4, 5, 6] rfl)
  exact lp8 ((7 - (0 : Int32).toInt).toNat + 1) 0 2147483647 g F H _ ls (Nat.lt_succ_self _) (show (0 ≤ (0 : Int32).toInt ∧ (0 : Int32).toInt ≤ 7) from by omega) hP hD hS (lv_sub hl [0, 1, 2, 3, 4, 5] rfl)
set_option maxHeartbeats 4000000 in
set_option maxRecDepth 100000 in
theorem m_onward (l : Launch) (dC : Nat → ClassId) (dI : Nat → Nat → Nat) (sz : Nat) (h0 : Nat) (kB kI kZ : ClassId) (q : Nat → Nat) (g : Nat → Int32) (F : Nat → Nat → Int32) (p0 : Int32) (p1 : Int32) (p2 : Int32) (hI : MInv g F) (hq0 : (0 ≤ p0.toInt ∧ p0.toInt ≤ 40)) : Met l yX12_onward vmX12_onward ({ frames := 2, cells := 0, slots := 0, locals := 60 } : Room) (va_Pc [.ref h0, .int p0, .int p1, .int p2] (fun U => U.heap.size = sz ∧ va_P (dC, dI) vwCl (mW h0 kB kI kZ q g F) U.heap ∧ va_K (dC, dI) vwCl (mT kB kI kZ) U ∧ va_D (fun _ => True) (mW h0 kB kI kZ q g F))) (va_Qi (fun (r : Int32) (u : ((Nat → Int32) × (Nat → Nat → Int32))) => True) (fun u t => va_P (dC, dI) vwCl (mW h0 kB kI kZ q g F) t.heap ∧ va_K (dC, dI) vwCl (mT kB kI kZ) t ∧ va_D (va_A (mW h0 kB kI kZ q g F) sz) (mW h0 kB kI kZ q g F)) (va_A (mW h0 kB kI kZ q g F) sz)) 0 0 (va_A (mW h0 kB kI kZ q g F) sz) := by
  refine Met.ofW (cc := cX12_onward) (maxL := 7) (ret := (some .int)) (by decide) rfl ?_
  intro p e s m args below meth c s₁ B hml hv
  obtain ⟨rfl, hsz, hP, hK, hD0⟩ := hv
  have hx := B.exec
  have hb := B.bytes
  have hr := B.returns
  have hts := atoms_spec (ws := vmX12_onward) B.pre
  have hown : s.vm.findClass RX12 = some m.cls := findClass_of_methodNamed B.named
  subst hsz
  have hD := hD0.self (sz := s.heap.size)
  generalize hAe : va_A (mW h0 kB kI kZ q g F) s.heap.size = A at hD ⊢
  have hA : ∀ q : Nat, s.heap.size ≤ q → A q := fun q h => by rw [← hAe]; exact Or.inr h
  have hS : va_S A s.heap s.heap [] := va_S.rf
  have hl := lv_entry ([.ref h0, .int p0, .int p1, .int p2]) (n := 7) (Nat.le_of_ble_eq_true rfl)
  rw [lg_entry_eq]
  generalize (lg_sl ([.ref h0, .int p0, .int p1, .int p2]) ++ List.replicate (7 - (lg_sl ([.ref h0, .int p0, .int p1, .int p2])).length) Slot.unset).toArray = ls at hl ⊢
  exact bm_onward p0 p1 p2 hx hb hml hown hts hA hK hI hq0 hP hD hS hl (fun pc ls r u H locs hd hw hP hD hS => W.iret (v := r) hx hb hr (fun t ht hW => ⟨⟨r, u, rfl, hw, by rw [ht]; exact hP, va_K.moved hW.alike hK, hD⟩, hS.F ht⟩) hS.2.2 hd)
