/-! references that may be null; small rows -/
def nn {β : Type} (o : Option Nat) (f : Nat → Option β) : Option β := o.bind f
theorem nnS {β : Type} {o : Option Nat} {f : Nat → Option β} {r : β} (h : nn o f = some r) : ∃ a, o = some a ∧ f a = some r := by
  cases o with
  | none => cases h
  | some a => exact ⟨a, rfl, h⟩
def oc {β : Type} (o : Option Nat) (n : β) (f : Nat → β) : β := match o with
  | none => n
  | some a => f a
theorem ocN {β : Type} {n r : β} {f : Nat → β} (h : oc none n f = r) : n = r := h
theorem ocS {β : Type} {n r : β} {a : Nat} {f : Nat → β} (h : oc (some a) n f = r) : f a = r := h
theorem re_cat {ad : Nat → Nat} {o : Option Nat} : (va_re ad o).category = 1 := by
  cases o <;> rfl
abbrev cpb (sp dp n : Int32) (n0 n1 : Nat) : Prop := 0 ≤ sp.toInt ∧ 0 ≤ dp.toInt ∧ 0 ≤ n.toInt ∧ sp.toInt + n.toInt ≤ n0 ∧ dp.toInt + n.toInt ≤ n1
theorem nnk {z : Int32} (h : 0 ≤ z.toInt) : ¬ z < 0 ∧ z.toInt = (z.toNatClampNeg : Int) := by
  refine ⟨fun q => ?_, ?_⟩
  · have := (z_lt _ _).mp q
    have z0 : (0 : Int32).toInt = 0 := by decide
    omega
  · show z.toInt = ((z.toInt.toNat : Nat) : Int)
    omega
theorem cpbS {sp dp n : Int32} {n0 n1 : Nat} (h : cpb sp dp n n0 n1) : ¬ sp < 0 ∧ ¬ dp < 0 ∧ ¬ n < 0 ∧ sp.toNatClampNeg + n.toNatClampNeg ≤ n0 ∧ dp.toNatClampNeg + n.toNatClampNeg ≤ n1 := by
  obtain ⟨h1, h2, h3, h4, h5⟩ := h
  have a := nnk h1
  have b := nnk h2
  have d := nnk h3
  exact ⟨a.1, b.1, d.1, by omega, by omega⟩
theorem up_map {ad : Nat → Nat} {f : Nat → Option Nat} {k b : Nat} : (fun i => (va_up f k (some b) i).map ad) = va_up (fun i => (f i).map ad) k (some (ad b)) := by
  funext i
  unfold va_up
  by_cases h : i = k
  · simp [h]
  · simp [h]
theorem lv_tope {p : Program} {l : Launch} {e : Env} {R : Room} {s : State} {m : MethodId} {args : Array Value} {below : List Frame} {meth : Method} {c : Code} {H : Heap} {locs : List Loc} {cells slots : Nat} {Q : State → Prop} {pc : Nat} {ls : Array Slot} {rest : List Value} {ad : Nat → Nat} {o : Option Nat} (kk : ∀ y, y = o → W p l e R s m args below meth c H locs cells slots Q (F0 m pc ls (va_re ad y :: rest))) : W p l e R s m args below meth c H locs cells slots Q (F0 m pc ls (va_re ad o :: rest)) := kk o rfl
theorem lq_aload_n {p : Program} {l : Launch} {e : Env} {R : Room} {s : State} {m : MethodId} {args : Array Value} {below : List Frame} {meth : Method} {c : Code} {H : Heap} {locs : List Loc} {cells slots : Nat} {Q : State → Prop} {cc : ByteArray} {pc : Nat} {ls : Array Slot} {rest : List Value} {ad : Nat → Nat} {o : Option Nat} (hexec : p.tables.exec = Jvm.exec) (hb : c.code = cc) {k : Fin 4} {i : Nat} (hdg : decode cc pc = .ok (.aload_n k, 1)) (hi : (k : Nat) = i) (hl : ls[i]? = some (.val (va_re ad o))) (kk : W p l e R s m args below meth c H locs cells slots Q (F0 m (pc + 1) ls (va_re ad o :: rest))) : W p l e R s m args below meth c H locs cells slots Q (F0 m pc ls rest) := by
  cases o with
  | none => exact lv_aload_nN hexec hb hdg hi hl kk
  | some x => exact lv_aload_n hexec hb hdg hi hl kk
theorem lq_aload {p : Program} {l : Launch} {e : Env} {R : Room} {s : State} {m : MethodId} {args : Array Value} {below : List Frame} {meth : Method} {c : Code} {H : Heap} {locs : List Loc} {cells slots : Nat} {Q : State → Prop} {cc : ByteArray} {pc : Nat} {ls : Array Slot} {rest : List Value} {ad : Nat → Nat} {o : Option Nat} (hexec : p.tables.exec = Jvm.exec) (hb : c.code = cc) {i : Nat} (hdg : decode cc pc = .ok (.aload i, 2)) (hl : ls[i]? = some (.val (va_re ad o))) (kk : W p l e R s m args below meth c H locs cells slots Q (F0 m (pc + 2) ls (va_re ad o :: rest))) : W p l e R s m args below meth c H locs cells slots Q (F0 m pc ls rest) := by
  cases o with
  | none => exact lv_aloadN hexec hb hdg hl kk
  | some x => exact lv_aload hexec hb hdg hl kk
theorem lq_astore_n {p : Program} {l : Launch} {e : Env} {R : Room} {s : State} {m : MethodId} {args : Array Value} {below : List Frame} {meth : Method} {c : Code} {H : Heap} {locs : List Loc} {cells slots : Nat} {Q : State → Prop} {cc : ByteArray} {pc : Nat} {ls : Array Slot} {rest : List Value} {ad : Nat → Nat} {o : Option Nat} (hexec : p.tables.exec = Jvm.exec) (hb : c.code = cc) {k : Fin 4} {i nL : Nat} {lv lv' : List (Nat × Value)} (hdg : decode cc pc = .ok (.astore_n k, 1)) (hi : (k : Nat) = i) (h : lv_has ls nL lv) (hn : i < nL) (hl : (i, va_re ad o) :: lv.filter (fun q => !(q.1 == i) && !(q.1 + 1 == i && q.2.category == 2)) = lv') (kk : ∀ ls' : Array Slot, lv_has ls' nL lv' → W p l e R s m args below meth c H locs cells slots Q (F0 m (pc + 1) ls' rest)) : W p l e R s m args below meth c H locs cells slots Q (F0 m pc ls (va_re ad o :: rest)) := by
  cases o with
  | none => exact lv_astore_nN hexec hb hdg hi h hn hl kk
  | some x => exact lv_astore_n hexec hb hdg hi h hn hl kk
theorem lq_astore {p : Program} {l : Launch} {e : Env} {R : Room} {s : State} {m : MethodId} {args : Array Value} {below : List Frame} {meth : Method} {c : Code} {H : Heap} {locs : List Loc} {cells slots : Nat} {Q : State → Prop} {cc : ByteArray} {pc : Nat} {ls : Array Slot} {rest : List Value} {ad : Nat → Nat} {o : Option Nat} (hexec : p.tables.exec = Jvm.exec) (hb : c.code = cc) {i nL : Nat} {lv lv' : List (Nat × Value)} (hdg : decode cc pc = .ok (.astore i, 2)) (h : lv_has ls nL lv) (hn : i < nL) (hl : (i, va_re ad o) :: lv.filter (fun q => !(q.1 == i) && !(q.1 + 1 == i && q.2.category == 2)) = lv') (kk : ∀ ls' : Array Slot, lv_has ls' nL lv' → W p l e R s m args below meth c H locs cells slots Q (F0 m (pc + 2) ls' rest)) : W p l e R s m args below meth c H locs cells slots Q (F0 m pc ls (va_re ad o :: rest)) := by
  cases o with
  | none => exact lv_astoreN hexec hb hdg h hn hl kk
  | some x => exact lv_astore hexec hb hdg h hn hl kk
theorem lq_ifnull {p : Program} {l : Launch} {e : Env} {R : Room} {s : State} {m : MethodId} {args : Array Value} {below : List Frame} {meth : Method} {c : Code} {H : Heap} {locs : List Loc} {cells slots : Nat} {Q : State → Prop} {cc : ByteArray} {pc : Nat} {ls : Array Slot} {rest : List Value} {ad : Nat → Nat} {o : Option Nat} {off : Int} {tgt : Nat} (hexec : p.tables.exec = Jvm.exec) (hb : c.code = cc) (hdg : decode cc pc = .ok (.ifnull off, 3)) (ht : (pc : Int) + off = (tgt : Int)) (hn : o = none → W p l e R s m args below meth c H locs cells slots Q (F0 m tgt ls rest)) (hs : ∀ b, o = some b → W p l e R s m args below meth c H locs cells slots Q (F0 m (pc + 3) ls rest)) : W p l e R s m args below meth c H locs cells slots Q (F0 m pc ls (va_re ad o :: rest)) := by
  cases o with
  | none => exact lv_ifnullN hexec hb hdg ht (hn rfl)
  | some x => exact lv_ifnull hexec hb hdg (hs x rfl)
theorem lq_ifnonnull {p : Program} {l : Launch} {e : Env} {R : Room} {s : State} {m : MethodId} {args : Array Value} {below : List Frame} {meth : Method} {c : Code} {H : Heap} {locs : List Loc} {cells slots : Nat} {Q : State → Prop} {cc : ByteArray} {pc : Nat} {ls : Array Slot} {rest : List Value} {ad : Nat → Nat} {o : Option Nat} {off : Int} {tgt : Nat} (hexec : p.tables.exec = Jvm.exec) (hb : c.code = cc) (hdg : decode cc pc = .ok (.ifnonnull off, 3)) (ht : (pc : Int) + off = (tgt : Int)) (hn : o = none → W p l e R s m args below meth c H locs cells slots Q (F0 m (pc + 3) ls rest)) (hs : ∀ b, o = some b → W p l e R s m args below meth c H locs cells slots Q (F0 m tgt ls rest)) : W p l e R s m args below meth c H locs cells slots Q (F0 m pc ls (va_re ad o :: rest)) := by
  cases o with
  | none => exact lv_ifnonnullN hexec hb hdg (hn rfl)
  | some x => exact lv_ifnonnull hexec hb hdg ht (hs x rfl)
def adEx (kd ad kd1 ad1 : Nat → Nat) : Prop := (∀ a, kd a ≠ 0 → ad1 a = ad a) ∧ ∀ a, kd a ≠ 0 → kd1 a = kd a
theorem adE {kd ad kd1 ad1 kd2 ad2 : Nat → Nat} (h : adEx kd ad kd1 ad1) (h2 : adEx kd1 ad1 kd2 ad2) : adEx kd ad kd2 ad2 := ⟨fun a ha => (h2.1 a (by rw [h.2 a ha]; exact ha)).trans (h.1 a ha), fun a ha => (h2.2 a (by rw [h.2 a ha]; exact ha)).trans (h.2 a ha)⟩
def tk {ρ : Type} (a b : Nat) (m : Option (ρ × Nat × Nat)) : Option (ρ × Nat × Nat) := m.bind (fun t => some (t.1, t.2.1 + a, t.2.2 + b))
theorem tkS {ρ : Type} {a b : Nat} {m : Option (ρ × Nat × Nat)} {x : ρ} {u v : Nat} (h : tk a b m = some (x, u, v)) : ∃ u1 v1, m = some (x, u1, v1) ∧ u = u1 + a ∧ v = v1 + b := by
  cases m with
  | none => cases h
  | some t =>
    obtain ⟨y, u1, v1⟩ := t
    cases h
    exact ⟨u1, v1, rfl, rfl, rfl⟩
theorem retS {ρ : Type} {x y : ρ} {u v : Nat} (h : some (x, 0, 0) = some (y, u, v)) : some x = some y ∧ u = 0 ∧ v = 0 := by
  cases h
  exact ⟨rfl, rfl, rfl⟩
abbrev nab (t : Int32) : Prop := 0 ≤ t.toInt ∧ t.toInt ≤ 100000
theorem nabS {t : Int32} (h : nab t) : ¬ t < 0 ∧ t.toNatClampNeg ≤ 100000 := by
  have a := nnk h.1
  exact ⟨a.1, by have := h.2; omega⟩
theorem nabB {t : Int32} (h : nab t) {k : Nat} (hk : k ≤ 8) : t.toNatClampNeg * k ≤ 536870912 := by
  have := (nabS h).2
  have h2 : t.toNatClampNeg * k ≤ 100000 * 8 := Nat.mul_le_mul this hk
  omega
def newc {β : Type} (K n : Nat) (G : Nat → Nat → Int32) (P : Nat → Nat → Option Nat) (U : Nat → Nat → Int64) (V : Nat → Nat → Nat → Int32) (X : Nat → Nat → Nat → Int64) (O : Nat → Nat → Nat → Option Nat) (kd ln : Nat → Nat) (cnt : Nat) (f : (Nat → Nat → Int32) → (Nat → Nat → Option Nat) → (Nat → Nat → Int64) → (Nat → Nat → Nat → Int32) → (Nat → Nat → Nat → Int64) → (Nat → Nat → Nat → Option Nat) → (Nat → Nat) → (Nat → Nat) → Nat → β) : β := f (fun f => va_up (G f) cnt 0) (fun f => va_up (P f) cnt none) (fun f => va_up (U f) cnt 0) (fun r => va_up (V r) cnt (fun _ => 0)) (fun r => va_up (X r) cnt (fun _ => 0)) (fun r => va_up (O r) cnt (fun _ => none)) (va_up kd cnt K) (va_up ln cnt n) (cnt + 1)
theorem newcS {β : Type} {K n : Nat} {G : Nat → Nat → Int32} {P : Nat → Nat → Option Nat} {U : Nat → Nat → Int64} {V : Nat → Nat → Nat → Int32} {X : Nat → Nat → Nat → Int64} {O : Nat → Nat → Nat → Option Nat} {kd ln : Nat → Nat} {cnt : Nat} {f : (Nat → Nat → Int32) → (Nat → Nat → Option Nat) → (Nat → Nat → Int64) → (Nat → Nat → Nat → Int32) → (Nat → Nat → Nat → Int64) → (Nat → Nat → Nat → Option Nat) → (Nat → Nat) → (Nat → Nat) → Nat → β} {r : β} {ws : va_W} {ad : Nat → Nat} {kk : Nat → ClassId} {A : Nat → Prop} {q : Nat} {e1 : va_E} (h : newc K n G P U V X O kd ln cnt f = r) (hW : LW ws ad kk kd ln G P U V X O) (hT : TYP kd P O (V 0) cnt) (hD : va_D A (ws ++ [(q, e1)])) (hK : K ≠ 0) (he : ∀ ad1 : Nat → Nat, cellOf ad1 kk K n (fun _ => 0) (fun _ => none) (fun _ => 0) (fun _ _ => 0) (fun _ _ => 0) (fun _ _ => none) = e1) : ∃ G1 P1 U1 V1 X1 O1 kd1 ln1 cnt1 ad1, f G1 P1 U1 V1 X1 O1 kd1 ln1 cnt1 = r ∧ LW (ws ++ [(q, e1)]) ad1 kk kd1 ln1 G1 P1 U1 V1 X1 O1 ∧ TYP kd1 P1 O1 (V1 0) cnt1 ∧ adEx kd ad kd1 ad1 ∧ kd1 cnt = K ∧ ad1 cnt = q := by
  have hc : kd cnt = 0 := hT.2.2.2 cnt (Nat.le_refl _)
  exact ⟨_, _, _, _, _, _, _, _, _, _, h, hW.push hT hD hK (he _), hT.push K hK, ⟨fun a ha => va_up_ne ad q (fun z => ha (by rw [z]; exact hc)), fun a ha => va_up_ne kd K (fun z => ha (by rw [z]; exact hc))⟩, va_up_self _ _ _, va_up_self _ _ _⟩
theorem kA_byte {dC : Nat → ClassId} {dI : Nat → Nat → Nat} {kk : Nat → ClassId} {s : State} {cA : ClassId} (h : va_K (dC, dI) vwCl (cT kk ++ [(cA, .byte)]) s) : cA = kk 0 := by
  have h1 := va_nm_byte (h.2 0 _ rfl).2
  have h2 := va_nm_byte (h.2 7 _ rfl).2
  exact Option.some.inj (h2.symm.trans h1)
theorem kA_int {dC : Nat → ClassId} {dI : Nat → Nat → Nat} {kk : Nat → ClassId} {s : State} {cA : ClassId} (h : va_K (dC, dI) vwCl (cT kk ++ [(cA, .int)]) s) : cA = kk 1 := by
  have h1 := va_nm_int (h.2 1 _ rfl).2
  have h2 := va_nm_int (h.2 7 _ rfl).2
  exact Option.some.inj (h2.symm.trans h1)
theorem kA_boolean {dC : Nat → ClassId} {dI : Nat → Nat → Nat} {kk : Nat → ClassId} {s : State} {cA : ClassId} (h : va_K (dC, dI) vwCl (cT kk ++ [(cA, .boolean)]) s) : cA = kk 2 := by
  have h1 := va_nm_boolean (h.2 2 _ rfl).2
  have h2 := va_nm_boolean (h.2 7 _ rfl).2
  exact Option.some.inj (h2.symm.trans h1)
theorem kA_long {dC : Nat → ClassId} {dI : Nat → Nat → Nat} {kk : Nat → ClassId} {s : State} {cA : ClassId} (h : va_K (dC, dI) vwCl (cT kk ++ [(cA, .long)]) s) : cA = kk 3 := by
  have h1 := va_nm_long (h.2 3 _ rfl).2
  have h2 := va_nm_long (h.2 7 _ rfl).2
  exact Option.some.inj (h2.symm.trans h1)
theorem kA_RX1 {dC : Nat → ClassId} {dI : Nat → Nat → Nat} {kk : Nat → ClassId} {s : State} {cA : ClassId} (h : va_K (dC, dI) vwCl (cT kk ++ [(cA, .object RX1)]) s) : cA = kk 4 := by
  obtain ⟨_, _, _, _, _, h1⟩ := (h.2 4 _ rfl).2
  obtain ⟨_, _, _, _, _, h2⟩ := (h.2 7 _ rfl).2
  exact Option.some.inj (h2.symm.trans h1)
theorem kA_RX10 {dC : Nat → ClassId} {dI : Nat → Nat → Nat} {kk : Nat → ClassId} {s : State} {cA : ClassId} (h : va_K (dC, dI) vwCl (cT kk ++ [(cA, .object RX10)]) s) : cA = kk 5 := by
  obtain ⟨_, _, _, _, _, h1⟩ := (h.2 5 _ rfl).2
  obtain ⟨_, _, _, _, _, h2⟩ := (h.2 7 _ rfl).2
  exact Option.some.inj (h2.symm.trans h1)
theorem kA_RX5 {dC : Nat → ClassId} {dI : Nat → Nat → Nat} {kk : Nat → ClassId} {s : State} {cA : ClassId} (h : va_K (dC, dI) vwCl (cT kk ++ [(cA, .object RX5)]) s) : cA = kk 6 := by
  obtain ⟨_, _, _, _, _, h1⟩ := (h.2 6 _ rfl).2
  obtain ⟨_, _, _, _, _, h2⟩ := (h.2 7 _ rfl).2
  exact Option.some.inj (h2.symm.trans h1)
def bA9 {α0 α1 α2 α3 α4 α5 α6 α7 α8 ρ : Type} (m : Option ((α0 × α1 × α2 × α3 × α4 × α5 × α6 × α7 × α8) × Nat × Nat)) (f : α0 → α1 → α2 → α3 → α4 → α5 → α6 → α7 → α8 → Option (ρ × Nat × Nat)) : Option (ρ × Nat × Nat) := m.bind (fun t => tk t.2.1 t.2.2 (f t.1.1 t.1.2.1 t.1.2.2.1 t.1.2.2.2.1 t.1.2.2.2.2.1 t.1.2.2.2.2.2.1 t.1.2.2.2.2.2.2.1 t.1.2.2.2.2.2.2.2.1 t.1.2.2.2.2.2.2.2.2))
theorem bA9S {α0 α1 α2 α3 α4 α5 α6 α7 α8 ρ : Type} {m : Option ((α0 × α1 × α2 × α3 × α4 × α5 × α6 × α7 × α8) × Nat × Nat)} {f : α0 → α1 → α2 → α3 → α4 → α5 → α6 → α7 → α8 → Option (ρ × Nat × Nat)} {x : ρ} {u v : Nat} (h : bA9 m f = some (x, u, v)) : ∃ a0 a1 a2 a3 a4 a5 a6 a7 a8 v1 v2 w1 w2, m = some ((a0, a1, a2, a3, a4, a5, a6, a7, a8), v1, v2) ∧ f a0 a1 a2 a3 a4 a5 a6 a7 a8 = some (x, w1, w2) ∧ u = w1 + v1 ∧ v = w2 + v2 := by
  cases m with
  | none => cases h
  | some t =>
    obtain ⟨w1, w2, h1, h2, h3⟩ := tkS h
    exact ⟨_, _, _, _, _, _, _, _, _, _, _, w1, w2, rfl, h1, h2, h3⟩
def bA10 {α0 α1 α2 α3 α4 α5 α6 α7 α8 α9 ρ : Type} (m : Option ((α0 × α1 × α2 × α3 × α4 × α5 × α6 × α7 × α8 × α9) × Nat × Nat)) (f : α0 → α1 → α2 → α3 → α4 → α5 → α6 → α7 → α8 → α9 → Option (ρ × Nat × Nat)) : Option (ρ × Nat × Nat) := m.bind (fun t => tk t.2.1 t.2.2 (f t.1.1 t.1.2.1 t.1.2.2.1 t.1.2.2.2.1 t.1.2.2.2.2.1 t.1.2.2.2.2.2.1 t.1.2.2.2.2.2.2.1 t.1.2.2.2.2.2.2.2.1 t.1.2.2.2.2.2.2.2.2.1 t.1.2.2.2.2.2.2.2.2.2))
theorem bA10S {α0 α1 α2 α3 α4 α5 α6 α7 α8 α9 ρ : Type} {m : Option ((α0 × α1 × α2 × α3 × α4 × α5 × α6 × α7 × α8 × α9) × Nat × Nat)} {f : α0 → α1 → α2 → α3 → α4 → α5 → α6 → α7 → α8 → α9 → Option (ρ × Nat × Nat)} {x : ρ} {u v : Nat} (h : bA10 m f = some (x, u, v)) : ∃ a0 a1 a2 a3 a4 a5 a6 a7 a8 a9 v1 v2 w1 w2, m = some ((a0, a1, a2, a3, a4, a5, a6, a7, a8, a9), v1, v2) ∧ f a0 a1 a2 a3 a4 a5 a6 a7 a8 a9 = some (x, w1, w2) ∧ u = w1 + v1 ∧ v = w2 + v2 := by
  cases m with
  | none => cases h
  | some t =>
    obtain ⟨w1, w2, h1, h2, h3⟩ := tkS h
    exact ⟨_, _, _, _, _, _, _, _, _, _, _, _, w1, w2, rfl, h1, h2, h3⟩