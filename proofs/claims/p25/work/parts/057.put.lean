/-! worlds behind a store -/
theorem upd_same {g : Nat → Int32} {k : Nat} {a v : Int32} : upd (upd g k a) k v = upd g k v := by
  funext i
  show (if i = k then v else if i = k then a else g i) = (if i = k then v else g i)
  by_cases h : i = k
  · simp only [if_pos h]
  · simp only [if_neg h]
theorem upd_in {g g1 : Nat → Int32} {j k : Nat} {a b : Int32} (h : j ≠ k) (e : upd g j a = g1) : upd (upd g k b) j a = upd g1 k b := by
  subst e
  funext i
  show (if i = j then a else if i = k then b else g i) = (if i = k then b else if i = j then a else g i)
  by_cases h1 : i = j
  · have h2 : ¬ i = k := fun q => h (h1.symm.trans q)
    simp only [if_pos h1, if_neg h2]
  · simp only [if_neg h1]
theorem upF_same {g : Nat → Nat → Int32} {k : Nat} {a v : Nat → Int32} : upF (upF g k a) k v = upF g k v := by
  funext i
  show (if i = k then v else if i = k then a else g i) = (if i = k then v else g i)
  by_cases h : i = k
  · simp only [if_pos h]
  · simp only [if_neg h]
theorem upF_in {g g1 : Nat → Nat → Int32} {j k : Nat} {a b : Nat → Int32} (h : j ≠ k) (e : upF g j a = g1) : upF (upF g k b) j a = upF g1 k b := by
  subst e
  funext i
  show (if i = j then a else if i = k then b else g i) = (if i = k then b else if i = j then a else g i)
  by_cases h1 : i = j
  · have h2 : ¬ i = k := fun q => h (h1.symm.trans q)
    simp only [if_pos h1, if_neg h2]
  · simp only [if_neg h1]
theorem upd_id {g : Nat → Int32} {k : Nat} {v : Int32} (e : g k = v) : g = upd g k v := by
  subst e
  funext i
  show g i = (if i = k then g k else g i)
  by_cases h : i = k
  · rw [if_pos h, h]
  · rw [if_neg h]
theorem upd_cg {g1 g2 : Nat → Int32} {k : Nat} {v : Int32} (e : g1 = g2) : upd g1 k v = upd g2 k v := congrArg (fun z => upd z k v) e
theorem upF_id {g : Nat → Nat → Int32} {k : Nat} {v : Nat → Int32} (e : g k = v) : g = upF g k v := by
  subst e
  funext i
  show g i = (if i = k then g k else g i)
  by_cases h : i = k
  · rw [if_pos h, h]
  · rw [if_neg h]
theorem upF_cg {g1 g2 : Nat → Nat → Int32} {k : Nat} {v : Nat → Int32} (e : g1 = g2) : upF g1 k v = upF g2 k v := congrArg (fun z => upF z k v) e
theorem mW_cg {h0 : Nat} {kB kI kZ : ClassId} {q : Nat → Nat} {g1 g2 : Nat → Int32} {F1 F2 : Nat → Nat → Int32} (eg : g1 = g2) (eF : F1 = F2) : mW h0 kB kI kZ q g1 F1 = mW h0 kB kI kZ q g2 F2 := by
  rw [eg, eF]
theorem sP_eq {D : va_G} {cl : List vw_C} {w w1 : va_W} {H : Heap} (e : w = w1) (h : va_P D cl w H) : va_P D cl w1 H := e ▸ h
theorem sD_eq {A : Nat → Prop} {w w1 : va_W} (e : w = w1) (h : va_D A w) : va_D A w1 := e ▸ h
theorem sE_g1 {h0 : Nat} {kB kI kZ : ClassId} {q : Nat → Nat} {g : Nat → Int32} {F : Nat → Nat → Int32} {v : Int32} : List.set (mW h0 kB kI kZ q g F) 0 (h0, .inr (12, List.set (mFs g q) 1 (.int v))) = mW h0 kB kI kZ q (upd g 1 v) F := rfl
theorem sP_g1 {D : va_G} {cl : List vw_C} {h0 : Nat} {kB kI kZ : ClassId} {q : Nat → Nat} {g : Nat → Int32} {F : Nat → Nat → Int32} {g1 : Nat → Int32} {v : Int32} {H : Heap} (h : va_P D cl (List.set (mW h0 kB kI kZ q g F) 0 (h0, .inr (12, List.set (mFs g q) 1 (.int v)))) H) (e : upd g 1 v = g1) : va_P D cl (mW h0 kB kI kZ q g1 F) H := by
  subst e
  exact sP_eq sE_g1 h
theorem sD_g1 {A : Nat → Prop} {h0 : Nat} {kB kI kZ : ClassId} {q : Nat → Nat} {g : Nat → Int32} {F : Nat → Nat → Int32} {g1 : Nat → Int32} {v : Int32} (h : va_D A (List.set (mW h0 kB kI kZ q g F) 0 (h0, .inr (12, List.set (mFs g q) 1 (.int v))))) (e : upd g 1 v = g1) : va_D A (mW h0 kB kI kZ q g1 F) := by
  subst e
  exact sD_eq sE_g1 h
theorem sE_g2 {h0 : Nat} {kB kI kZ : ClassId} {q : Nat → Nat} {g : Nat → Int32} {F : Nat → Nat → Int32} {v : Int32} : List.set (mW h0 kB kI kZ q g F) 0 (h0, .inr (12, List.set (mFs g q) 2 (.int v))) = mW h0 kB kI kZ q (upd g 2 v) F := rfl
theorem sP_g2 {D : va_G} {cl : List vw_C} {h0 : Nat} {kB kI kZ : ClassId} {q : Nat → Nat} {g : Nat → Int32} {F : Nat → Nat → Int32} {g1 : Nat → Int32} {v : Int32} {H : Heap} (h : va_P D cl (List.set (mW h0 kB kI kZ q g F) 0 (h0, .inr (12, List.set (mFs g q) 2 (.int v)))) H) (e : upd g 2 v = g1) : va_P D cl (mW h0 kB kI kZ q g1 F) H := by
  subst e
  exact sP_eq sE_g2 h
theorem sD_g2 {A : Nat → Prop} {h0 : Nat} {kB kI kZ : ClassId} {q : Nat → Nat} {g : Nat → Int32} {F : Nat → Nat → Int32} {g1 : Nat → Int32} {v : Int32} (h : va_D A (List.set (mW h0 kB kI kZ q g F) 0 (h0, .inr (12, List.set (mFs g q) 2 (.int v))))) (e : upd g 2 v = g1) : va_D A (mW h0 kB kI kZ q g1 F) := by
  subst e
  exact sD_eq sE_g2 h
theorem sE_g3 {h0 : Nat} {kB kI kZ : ClassId} {q : Nat → Nat} {g : Nat → Int32} {F : Nat → Nat → Int32} {v : Int32} : List.set (mW h0 kB kI kZ q g F) 0 (h0, .inr (12, List.set (mFs g q) 3 (.int v))) = mW h0 kB kI kZ q (upd g 3 v) F := rfl
theorem sP_g3 {D : va_G} {cl : List vw_C} {h0 : Nat} {kB kI kZ : ClassId} {q : Nat → Nat} {g : Nat → Int32} {F : Nat → Nat → Int32} {g1 : Nat → Int32} {v : Int32} {H : Heap} (h : va_P D cl (List.set (mW h0 kB kI kZ q g F) 0 (h0, .inr (12, List.set (mFs g q) 3 (.int v)))) H) (e : upd g 3 v = g1) : va_P D cl (mW h0 kB kI kZ q g1 F) H := by
  subst e
  exact sP_eq sE_g3 h
theorem sD_g3 {A : Nat → Prop} {h0 : Nat} {kB kI kZ : ClassId} {q : Nat → Nat} {g : Nat → Int32} {F : Nat → Nat → Int32} {g1 : Nat → Int32} {v : Int32} (h : va_D A (List.set (mW h0 kB kI kZ q g F) 0 (h0, .inr (12, List.set (mFs g q) 3 (.int v))))) (e : upd g 3 v = g1) : va_D A (mW h0 kB kI kZ q g1 F) := by
  subst e
  exact sD_eq sE_g3 h
theorem sE_g4 {h0 : Nat} {kB kI kZ : ClassId} {q : Nat → Nat} {g : Nat → Int32} {F : Nat → Nat → Int32} {v : Int32} : List.set (mW h0 kB kI kZ q g F) 0 (h0, .inr (12, List.set (mFs g q) 4 (.int v))) = mW h0 kB kI kZ q (upd g 4 v) F := rfl
theorem sP_g4 {D : va_G} {cl : List vw_C} {h0 : Nat} {kB kI kZ : ClassId} {q : Nat → Nat} {g : Nat → Int32} {F : Nat → Nat → Int32} {g1 : Nat → Int32} {v : Int32} {H : Heap} (h : va_P D cl (List.set (mW h0 kB kI kZ q g F) 0 (h0, .inr (12, List.set (mFs g q) 4 (.int v)))) H) (e : upd g 4 v = g1) : va_P D cl (mW h0 kB kI kZ q g1 F) H := by
  subst e
  exact sP_eq sE_g4 h
theorem sD_g4 {A : Nat → Prop} {h0 : Nat} {kB kI kZ : ClassId} {q : Nat → Nat} {g : Nat → Int32} {F : Nat → Nat → Int32} {g1 : Nat → Int32} {v : Int32} (h : va_D A (List.set (mW h0 kB kI kZ q g F) 0 (h0, .inr (12, List.set (mFs g q) 4 (.int v))))) (e : upd g 4 v = g1) : va_D A (mW h0 kB kI kZ q g1 F) := by
  subst e
  exact sD_eq sE_g4 h
theorem sE_g5 {h0 : Nat} {kB kI kZ : ClassId} {q : Nat → Nat} {g : Nat → Int32} {F : Nat → Nat → Int32} {v : Int32} : List.set (mW h0 kB kI kZ q g F) 0 (h0, .inr (12, List.set (mFs g q) 5 (.int v))) = mW h0 kB kI kZ q (upd g 5 v) F := rfl
theorem sP_g5 {D : va_G} {cl : List vw_C} {h0 : Nat} {kB kI kZ : ClassId} {q : Nat → Nat} {g : Nat → Int32} {F : Nat → Nat → Int32} {g1 : Nat → Int32} {v : Int32} {H : Heap} (h : va_P D cl (List.set (mW h0 kB kI kZ q g F) 0 (h0, .inr (12, List.set (mFs g q) 5 (.int v)))) H) (e : upd g 5 v = g1) : va_P D cl (mW h0 kB kI kZ q g1 F) H := by
  subst e
  exact sP_eq sE_g5 h
theorem sD_g5 {A : Nat → Prop} {h0 : Nat} {kB kI kZ : ClassId} {q : Nat → Nat} {g : Nat → Int32} {F : Nat → Nat → Int32} {g1 : Nat → Int32} {v : Int32} (h : va_D A (List.set (mW h0 kB kI kZ q g F) 0 (h0, .inr (12, List.set (mFs g q) 5 (.int v))))) (e : upd g 5 v = g1) : va_D A (mW h0 kB kI kZ q g1 F) := by
  subst e
  exact sD_eq sE_g5 h
theorem sE_g6 {h0 : Nat} {kB kI kZ : ClassId} {q : Nat → Nat} {g : Nat → Int32} {F : Nat → Nat → Int32} {v : Int32} : List.set (mW h0 kB kI kZ q g F) 0 (h0, .inr (12, List.set (mFs g q) 6 (.int v))) = mW h0 kB kI kZ q (upd g 6 v) F := rfl
theorem sP_g6 {D : va_G} {cl : List vw_C} {h0 : Nat} {kB kI kZ : ClassId} {q : Nat → Nat} {g : Nat → Int32} {F : Nat → Nat → Int32} {g1 : Nat → Int32} {v : Int32} {H : Heap} (h : va_P D cl (List.set (mW h0 kB kI kZ q g F) 0 (h0, .inr (12, List.set (mFs g q) 6 (.int v)))) H) (e : upd g 6 v = g1) : va_P D cl (mW h0 kB kI kZ q g1 F) H := by
  subst e
  exact sP_eq sE_g6 h
theorem sD_g6 {A : Nat → Prop} {h0 : Nat} {kB kI kZ : ClassId} {q : Nat → Nat} {g : Nat → Int32} {F : Nat → Nat → Int32} {g1 : Nat → Int32} {v : Int32} (h : va_D A (List.set (mW h0 kB kI kZ q g F) 0 (h0, .inr (12, List.set (mFs g q) 6 (.int v))))) (e : upd g 6 v = g1) : va_D A (mW h0 kB kI kZ q g1 F) := by
  subst e
  exact sD_eq sE_g6 h
theorem sE_g7 {h0 : Nat} {kB kI kZ : ClassId} {q : Nat → Nat} {g : Nat → Int32} {F : Nat → Nat → Int32} {v : Int32} : List.set (mW h0 kB kI kZ q g F) 0 (h0, .inr (12, List.set (mFs g q) 7 (.int v))) = mW h0 kB kI kZ q (upd g 7 v) F := rfl
theorem sP_g7 {D : va_G} {cl : List vw_C} {h0 : Nat} {kB kI kZ : ClassId} {q : Nat → Nat} {g : Nat → Int32} {F : Nat → Nat → Int32} {g1 : Nat → Int32} {v : Int32} {H : Heap} (h : va_P D cl (List.set (mW h0 kB kI kZ q g F) 0 (h0, .inr (12, List.set (mFs g q) 7 (.int v)))) H) (e : upd g 7 v = g1) : va_P D cl (mW h0 kB kI kZ q g1 F) H := by
  subst e
  exact sP_eq sE_g7 h
theorem sD_g7 {A : Nat → Prop} {h0 : Nat} {kB kI kZ : ClassId} {q : Nat → Nat} {g : Nat → Int32} {F : Nat → Nat → Int32} {g1 : Nat → Int32} {v : Int32} (h : va_D A (List.set (mW h0 kB kI kZ q g F) 0 (h0, .inr (12, List.set (mFs g q) 7 (.int v))))) (e : upd g 7 v = g1) : va_D A (mW h0 kB kI kZ q g1 F) := by
  subst e
  exact sD_eq sE_g7 h
theorem sE_g8 {h0 : Nat} {kB kI kZ : ClassId} {q : Nat → Nat} {g : Nat → Int32} {F : Nat → Nat → Int32} {v : Int32} : List.set (mW h0 kB kI kZ q g F) 0 (h0, .inr (12, List.set (mFs g q) 8 (.int v))) = mW h0 kB kI kZ q (upd g 8 v) F := rfl
theorem sP_g8 {D : va_G} {cl : List vw_C} {h0 : Nat} {kB kI kZ : ClassId} {q : Nat → Nat} {g : Nat → Int32} {F : Nat → Nat → Int32} {g1 : Nat → Int32} {v : Int32} {H : Heap} (h : va_P D cl (List.set (mW h0 kB kI kZ q g F) 0 (h0, .inr (12, List.set (mFs g q) 8 (.int v)))) H) (e : upd g 8 v = g1) : va_P D cl (mW h0 kB kI kZ q g1 F) H := by
  subst e
  exact sP_eq sE_g8 h
theorem sD_g8 {A : Nat → Prop} {h0 : Nat} {kB kI kZ : ClassId} {q : Nat → Nat} {g : Nat → Int32} {F : Nat → Nat → Int32} {g1 : Nat → Int32} {v : Int32} (h : va_D A (List.set (mW h0 kB kI kZ q g F) 0 (h0, .inr (12, List.set (mFs g q) 8 (.int v))))) (e : upd g 8 v = g1) : va_D A (mW h0 kB kI kZ q g1 F) := by
  subst e
  exact sD_eq sE_g8 h
theorem sE_g9 {h0 : Nat} {kB kI kZ : ClassId} {q : Nat → Nat} {g : Nat → Int32} {F : Nat → Nat → Int32} {v : Int32} : List.set (mW h0 kB kI kZ q g F) 0 (h0, .inr (12, List.set (mFs g q) 9 (.int v))) = mW h0 kB kI kZ q (upd g 9 v) F := rfl
theorem sP_g9 {D : va_G} {cl : List vw_C} {h0 : Nat} {kB kI kZ : ClassId} {q : Nat → Nat} {g : Nat → Int32} {F : Nat → Nat → Int32} {g1 : Nat → Int32} {v : Int32} {H : Heap} (h : va_P D cl (List.set (mW h0 kB kI kZ q g F) 0 (h0, .inr (12, List.set (mFs g q) 9 (.int v)))) H) (e : upd g 9 v = g1) : va_P D cl (mW h0 kB kI kZ q g1 F) H := by
  subst e
  exact sP_eq sE_g9 h
theorem sD_g9 {A : Nat → Prop} {h0 : Nat} {kB kI kZ : ClassId} {q : Nat → Nat} {g : Nat → Int32} {F : Nat → Nat → Int32} {g1 : Nat → Int32} {v : Int32} (h : va_D A (List.set (mW h0 kB kI kZ q g F) 0 (h0, .inr (12, List.set (mFs g q) 9 (.int v))))) (e : upd g 9 v = g1) : va_D A (mW h0 kB kI kZ q g1 F) := by
  subst e
  exact sD_eq sE_g9 h
theorem sE_g23 {h0 : Nat} {kB kI kZ : ClassId} {q : Nat → Nat} {g : Nat → Int32} {F : Nat → Nat → Int32} {v : Int32} : List.set (mW h0 kB kI kZ q g F) 0 (h0, .inr (12, List.set (mFs g q) 23 (.int v))) = mW h0 kB kI kZ q (upd g 23 v) F := rfl
theorem sP_g23 {D : va_G} {cl : List vw_C} {h0 : Nat} {kB kI kZ : ClassId} {q : Nat → Nat} {g : Nat → Int32} {F : Nat → Nat → Int32} {g1 : Nat → Int32} {v : Int32} {H : Heap} (h : va_P D cl (List.set (mW h0 kB kI kZ q g F) 0 (h0, .inr (12, List.set (mFs g q) 23 (.int v)))) H) (e : upd g 23 v = g1) : va_P D cl (mW h0 kB kI kZ q g1 F) H := by
  subst e
  exact sP_eq sE_g23 h
theorem sD_g23 {A : Nat → Prop} {h0 : Nat} {kB kI kZ : ClassId} {q : Nat → Nat} {g : Nat → Int32} {F : Nat → Nat → Int32} {g1 : Nat → Int32} {v : Int32} (h : va_D A (List.set (mW h0 kB kI kZ q g F) 0 (h0, .inr (12, List.set (mFs g q) 23 (.int v))))) (e : upd g 23 v = g1) : va_D A (mW h0 kB kI kZ q g1 F) := by
  subst e
  exact sD_eq sE_g23 h
theorem sE_g27 {h0 : Nat} {kB kI kZ : ClassId} {q : Nat → Nat} {g : Nat → Int32} {F : Nat → Nat → Int32} {v : Int32} : List.set (mW h0 kB kI kZ q g F) 0 (h0, .inr (12, List.set (mFs g q) 27 (.int v))) = mW h0 kB kI kZ q (upd g 27 v) F := rfl
theorem sP_g27 {D : va_G} {cl : List vw_C} {h0 : Nat} {kB kI kZ : ClassId} {q : Nat → Nat} {g : Nat → Int32} {F : Nat → Nat → Int32} {g1 : Nat → Int32} {v : Int32} {H : Heap} (h : va_P D cl (List.set (mW h0 kB kI kZ q g F) 0 (h0, .inr (12, List.set (mFs g q) 27 (.int v)))) H) (e : upd g 27 v = g1) : va_P D cl (mW h0 kB kI kZ q g1 F) H := by
  subst e
  exact sP_eq sE_g27 h
theorem sD_g27 {A : Nat → Prop} {h0 : Nat} {kB kI kZ : ClassId} {q : Nat → Nat} {g : Nat → Int32} {F : Nat → Nat → Int32} {g1 : Nat → Int32} {v : Int32} (h : va_D A (List.set (mW h0 kB kI kZ q g F) 0 (h0, .inr (12, List.set (mFs g q) 27 (.int v))))) (e : upd g 27 v = g1) : va_D A (mW h0 kB kI kZ q g1 F) := by
  subst e
  exact sD_eq sE_g27 h
theorem sE_g30 {h0 : Nat} {kB kI kZ : ClassId} {q : Nat → Nat} {g : Nat → Int32} {F : Nat → Nat → Int32} {v : Int32} : List.set (mW h0 kB kI kZ q g F) 0 (h0, .inr (12, List.set (mFs g q) 30 (.int v))) = mW h0 kB kI kZ q (upd g 30 v) F := rfl
theorem sP_g30 {D : va_G} {cl : List vw_C} {h0 : Nat} {kB kI kZ : ClassId} {q : Nat → Nat} {g : Nat → Int32} {F : Nat → Nat → Int32} {g1 : Nat → Int32} {v : Int32} {H : Heap} (h : va_P D cl (List.set (mW h0 kB kI kZ q g F) 0 (h0, .inr (12, List.set (mFs g q) 30 (.int v)))) H) (e : upd g 30 v = g1) : va_P D cl (mW h0 kB kI kZ q g1 F) H := by
  subst e
  exact sP_eq sE_g30 h
theorem sD_g30 {A : Nat → Prop} {h0 : Nat} {kB kI kZ : ClassId} {q : Nat → Nat} {g : Nat → Int32} {F : Nat → Nat → Int32} {g1 : Nat → Int32} {v : Int32} (h : va_D A (List.set (mW h0 kB kI kZ q g F) 0 (h0, .inr (12, List.set (mFs g q) 30 (.int v))))) (e : upd g 30 v = g1) : va_D A (mW h0 kB kI kZ q g1 F) := by
  subst e
  exact sD_eq sE_g30 h
theorem sE_g34 {h0 : Nat} {kB kI kZ : ClassId} {q : Nat → Nat} {g : Nat → Int32} {F : Nat → Nat → Int32} {v : Int32} : List.set (mW h0 kB kI kZ q g F) 0 (h0, .inr (12, List.set (mFs g q) 34 (.int v))) = mW h0 kB kI kZ q (upd g 34 v) F := rfl
theorem sP_g34 {D : va_G} {cl : List vw_C} {h0 : Nat} {kB kI kZ : ClassId} {q : Nat → Nat} {g : Nat → Int32} {F : Nat → Nat → Int32} {g1 : Nat → Int32} {v : Int32} {H : Heap} (h : va_P D cl (List.set (mW h0 kB kI kZ q g F) 0 (h0, .inr (12, List.set (mFs g q) 34 (.int v)))) H) (e : upd g 34 v = g1) : va_P D cl (mW h0 kB kI kZ q g1 F) H := by
  subst e
  exact sP_eq sE_g34 h
theorem sD_g34 {A : Nat → Prop} {h0 : Nat} {kB kI kZ : ClassId} {q : Nat → Nat} {g : Nat → Int32} {F : Nat → Nat → Int32} {g1 : Nat → Int32} {v : Int32} (h : va_D A (List.set (mW h0 kB kI kZ q g F) 0 (h0, .inr (12, List.set (mFs g q) 34 (.int v))))) (e : upd g 34 v = g1) : va_D A (mW h0 kB kI kZ q g1 F) := by
  subst e
  exact sD_eq sE_g34 h
theorem sE_g35 {h0 : Nat} {kB kI kZ : ClassId} {q : Nat → Nat} {g : Nat → Int32} {F : Nat → Nat → Int32} {v : Int32} : List.set (mW h0 kB kI kZ q g F) 0 (h0, .inr (12, List.set (mFs g q) 35 (.int v))) = mW h0 kB kI kZ q (upd g 35 v) F := rfl
theorem sP_g35 {D : va_G} {cl : List vw_C} {h0 : Nat} {kB kI kZ : ClassId} {q : Nat → Nat} {g : Nat → Int32} {F : Nat → Nat → Int32} {g1 : Nat → Int32} {v : Int32} {H : Heap} (h : va_P D cl (List.set (mW h0 kB kI kZ q g F) 0 (h0, .inr (12, List.set (mFs g q) 35 (.int v)))) H) (e : upd g 35 v = g1) : va_P D cl (mW h0 kB kI kZ q g1 F) H := by
  subst e
  exact sP_eq sE_g35 h
theorem sD_g35 {A : Nat → Prop} {h0 : Nat} {kB kI kZ : ClassId} {q : Nat → Nat} {g : Nat → Int32} {F : Nat → Nat → Int32} {g1 : Nat → Int32} {v : Int32} (h : va_D A (List.set (mW h0 kB kI kZ q g F) 0 (h0, .inr (12, List.set (mFs g q) 35 (.int v))))) (e : upd g 35 v = g1) : va_D A (mW h0 kB kI kZ q g1 F) := by
  subst e
  exact sD_eq sE_g35 h
theorem sE_g36 {h0 : Nat} {kB kI kZ : ClassId} {q : Nat → Nat} {g : Nat → Int32} {F : Nat → Nat → Int32} {v : Int32} : List.set (mW h0 kB kI kZ q g F) 0 (h0, .inr (12, List.set (mFs g q) 36 (.int v))) = mW h0 kB kI kZ q (upd g 36 v) F := rfl
theorem sP_g36 {D : va_G} {cl : List vw_C} {h0 : Nat} {kB kI kZ : ClassId} {q : Nat → Nat} {g : Nat → Int32} {F : Nat → Nat → Int32} {g1 : Nat → Int32} {v : Int32} {H : Heap} (h : va_P D cl (List.set (mW h0 kB kI kZ q g F) 0 (h0, .inr (12, List.set (mFs g q) 36 (.int v)))) H) (e : upd g 36 v = g1) : va_P D cl (mW h0 kB kI kZ q g1 F) H := by
  subst e
  exact sP_eq sE_g36 h
theorem sD_g36 {A : Nat → Prop} {h0 : Nat} {kB kI kZ : ClassId} {q : Nat → Nat} {g : Nat → Int32} {F : Nat → Nat → Int32} {g1 : Nat → Int32} {v : Int32} (h : va_D A (List.set (mW h0 kB kI kZ q g F) 0 (h0, .inr (12, List.set (mFs g q) 36 (.int v))))) (e : upd g 36 v = g1) : va_D A (mW h0 kB kI kZ q g1 F) := by
  subst e
  exact sD_eq sE_g36 h
theorem sE_g39 {h0 : Nat} {kB kI kZ : ClassId} {q : Nat → Nat} {g : Nat → Int32} {F : Nat → Nat → Int32} {v : Int32} : List.set (mW h0 kB kI kZ q g F) 0 (h0, .inr (12, List.set (mFs g q) 39 (.int v))) = mW h0 kB kI kZ q (upd g 39 v) F := rfl
theorem sP_g39 {D : va_G} {cl : List vw_C} {h0 : Nat} {kB kI kZ : ClassId} {q : Nat → Nat} {g : Nat → Int32} {F : Nat → Nat → Int32} {g1 : Nat → Int32} {v : Int32} {H : Heap} (h : va_P D cl (List.set (mW h0 kB kI kZ q g F) 0 (h0, .inr (12, List.set (mFs g q) 39 (.int v)))) H) (e : upd g 39 v = g1) : va_P D cl (mW h0 kB kI kZ q g1 F) H := by
  subst e
  exact sP_eq sE_g39 h
theorem sD_g39 {A : Nat → Prop} {h0 : Nat} {kB kI kZ : ClassId} {q : Nat → Nat} {g : Nat → Int32} {F : Nat → Nat → Int32} {g1 : Nat → Int32} {v : Int32} (h : va_D A (List.set (mW h0 kB kI kZ q g F) 0 (h0, .inr (12, List.set (mFs g q) 39 (.int v))))) (e : upd g 39 v = g1) : va_D A (mW h0 kB kI kZ q g1 F) := by
  subst e
  exact sD_eq sE_g39 h
theorem sE_g44 {h0 : Nat} {kB kI kZ : ClassId} {q : Nat → Nat} {g : Nat → Int32} {F : Nat → Nat → Int32} {v : Int32} : List.set (mW h0 kB kI kZ q g F) 0 (h0, .inr (12, List.set (mFs g q) 44 (.int v))) = mW h0 kB kI kZ q (upd g 44 v) F := rfl
theorem sP_g44 {D : va_G} {cl : List vw_C} {h0 : Nat} {kB kI kZ : ClassId} {q : Nat → Nat} {g : Nat → Int32} {F : Nat → Nat → Int32} {g1 : Nat → Int32} {v : Int32} {H : Heap} (h : va_P D cl (List.set (mW h0 kB kI kZ q g F) 0 (h0, .inr (12, List.set (mFs g q) 44 (.int v)))) H) (e : upd g 44 v = g1) : va_P D cl (mW h0 kB kI kZ q g1 F) H := by
  subst e
  exact sP_eq sE_g44 h
theorem sD_g44 {A : Nat → Prop} {h0 : Nat} {kB kI kZ : ClassId} {q : Nat → Nat} {g : Nat → Int32} {F : Nat → Nat → Int32} {g1 : Nat → Int32} {v : Int32} (h : va_D A (List.set (mW h0 kB kI kZ q g F) 0 (h0, .inr (12, List.set (mFs g q) 44 (.int v))))) (e : upd g 44 v = g1) : va_D A (mW h0 kB kI kZ q g1 F) := by
  subst e
  exact sD_eq sE_g44 h
theorem sE_g47 {h0 : Nat} {kB kI kZ : ClassId} {q : Nat → Nat} {g : Nat → Int32} {F : Nat → Nat → Int32} {v : Int32} : List.set (mW h0 kB kI kZ q g F) 0 (h0, .inr (12, List.set (mFs g q) 47 (.int v))) = mW h0 kB kI kZ q (upd g 47 v) F := rfl
theorem sP_g47 {D : va_G} {cl : List vw_C} {h0 : Nat} {kB kI kZ : ClassId} {q : Nat → Nat} {g : Nat → Int32} {F : Nat → Nat → Int32} {g1 : Nat → Int32} {v : Int32} {H : Heap} (h : va_P D cl (List.set (mW h0 kB kI kZ q g F) 0 (h0, .inr (12, List.set (mFs g q) 47 (.int v)))) H) (e : upd g 47 v = g1) : va_P D cl (mW h0 kB kI kZ q g1 F) H := by
  subst e
  exact sP_eq sE_g47 h
theorem sD_g47 {A : Nat → Prop} {h0 : Nat} {kB kI kZ : ClassId} {q : Nat → Nat} {g : Nat → Int32} {F : Nat → Nat → Int32} {g1 : Nat → Int32} {v : Int32} (h : va_D A (List.set (mW h0 kB kI kZ q g F) 0 (h0, .inr (12, List.set (mFs g q) 47 (.int v))))) (e : upd g 47 v = g1) : va_D A (mW h0 kB kI kZ q g1 F) := by
  subst e
  exact sD_eq sE_g47 h
theorem sE_g48 {h0 : Nat} {kB kI kZ : ClassId} {q : Nat → Nat} {g : Nat → Int32} {F : Nat → Nat → Int32} {v : Int32} : List.set (mW h0 kB kI kZ q g F) 0 (h0, .inr (12, List.set (mFs g q) 48 (.int v))) = mW h0 kB kI kZ q (upd g 48 v) F := rfl
theorem sP_g48 {D : va_G} {cl : List vw_C} {h0 : Nat} {kB kI kZ : ClassId} {q : Nat → Nat} {g : Nat → Int32} {F : Nat → Nat → Int32} {g1 : Nat → Int32} {v : Int32} {H : Heap} (h : va_P D cl (List.set (mW h0 kB kI kZ q g F) 0 (h0, .inr (12, List.set (mFs g q) 48 (.int v)))) H) (e : upd g 48 v = g1) : va_P D cl (mW h0 kB kI kZ q g1 F) H := by
  subst e
  exact sP_eq sE_g48 h
theorem sD_g48 {A : Nat → Prop} {h0 : Nat} {kB kI kZ : ClassId} {q : Nat → Nat} {g : Nat → Int32} {F : Nat → Nat → Int32} {g1 : Nat → Int32} {v : Int32} (h : va_D A (List.set (mW h0 kB kI kZ q g F) 0 (h0, .inr (12, List.set (mFs g q) 48 (.int v))))) (e : upd g 48 v = g1) : va_D A (mW h0 kB kI kZ q g1 F) := by
  subst e
  exact sD_eq sE_g48 h
theorem sE_g51 {h0 : Nat} {kB kI kZ : ClassId} {q : Nat → Nat} {g : Nat → Int32} {F : Nat → Nat → Int32} {v : Int32} : List.set (mW h0 kB kI kZ q g F) 0 (h0, .inr (12, List.set (mFs g q) 51 (.int v))) = mW h0 kB kI kZ q (upd g 51 v) F := rfl
theorem sP_g51 {D : va_G} {cl : List vw_C} {h0 : Nat} {kB kI kZ : ClassId} {q : Nat → Nat} {g : Nat → Int32} {F : Nat → Nat → Int32} {g1 : Nat → Int32} {v : Int32} {H : Heap} (h : va_P D cl (List.set (mW h0 kB kI kZ q g F) 0 (h0, .inr (12, List.set (mFs g q) 51 (.int v)))) H) (e : upd g 51 v = g1) : va_P D cl (mW h0 kB kI kZ q g1 F) H := by
  subst e
  exact sP_eq sE_g51 h
theorem sD_g51 {A : Nat → Prop} {h0 : Nat} {kB kI kZ : ClassId} {q : Nat → Nat} {g : Nat → Int32} {F : Nat → Nat → Int32} {g1 : Nat → Int32} {v : Int32} (h : va_D A (List.set (mW h0 kB kI kZ q g F) 0 (h0, .inr (12, List.set (mFs g q) 51 (.int v))))) (e : upd g 51 v = g1) : va_D A (mW h0 kB kI kZ q g1 F) := by
  subst e
  exact sD_eq sE_g51 h
theorem sE_g56 {h0 : Nat} {kB kI kZ : ClassId} {q : Nat → Nat} {g : Nat → Int32} {F : Nat → Nat → Int32} {v : Int32} : List.set (mW h0 kB kI kZ q g F) 0 (h0, .inr (12, List.set (mFs g q) 56 (.int v))) = mW h0 kB kI kZ q (upd g 56 v) F := rfl
theorem sP_g56 {D : va_G} {cl : List vw_C} {h0 : Nat} {kB kI kZ : ClassId} {q : Nat → Nat} {g : Nat → Int32} {F : Nat → Nat → Int32} {g1 : Nat → Int32} {v : Int32} {H : Heap} (h : va_P D cl (List.set (mW h0 kB kI kZ q g F) 0 (h0, .inr (12, List.set (mFs g q) 56 (.int v)))) H) (e : upd g 56 v = g1) : va_P D cl (mW h0 kB kI kZ q g1 F) H := by
  subst e
  exact sP_eq sE_g56 h
theorem sD_g56 {A : Nat → Prop} {h0 : Nat} {kB kI kZ : ClassId} {q : Nat → Nat} {g : Nat → Int32} {F : Nat → Nat → Int32} {g1 : Nat → Int32} {v : Int32} (h : va_D A (List.set (mW h0 kB kI kZ q g F) 0 (h0, .inr (12, List.set (mFs g q) 56 (.int v))))) (e : upd g 56 v = g1) : va_D A (mW h0 kB kI kZ q g1 F) := by
  subst e
  exact sD_eq sE_g56 h
theorem sE_g59 {h0 : Nat} {kB kI kZ : ClassId} {q : Nat → Nat} {g : Nat → Int32} {F : Nat → Nat → Int32} {v : Int32} : List.set (mW h0 kB kI kZ q g F) 0 (h0, .inr (12, List.set (mFs g q) 59 (.int v))) = mW h0 kB kI kZ q (upd g 59 v) F := rfl
theorem sP_g59 {D : va_G} {cl : List vw_C} {h0 : Nat} {kB kI kZ : ClassId} {q : Nat → Nat} {g : Nat → Int32} {F : Nat → Nat → Int32} {g1 : Nat → Int32} {v : Int32} {H : Heap} (h : va_P D cl (List.set (mW h0 kB kI kZ q g F) 0 (h0, .inr (12, List.set (mFs g q) 59 (.int v)))) H) (e : upd g 59 v = g1) : va_P D cl (mW h0 kB kI kZ q g1 F) H := by
  subst e
  exact sP_eq sE_g59 h
theorem sD_g59 {A : Nat → Prop} {h0 : Nat} {kB kI kZ : ClassId} {q : Nat → Nat} {g : Nat → Int32} {F : Nat → Nat → Int32} {g1 : Nat → Int32} {v : Int32} (h : va_D A (List.set (mW h0 kB kI kZ q g F) 0 (h0, .inr (12, List.set (mFs g q) 59 (.int v))))) (e : upd g 59 v = g1) : va_D A (mW h0 kB kI kZ q g1 F) := by
  subst e
  exact sD_eq sE_g59 h
theorem sE_g62 {h0 : Nat} {kB kI kZ : ClassId} {q : Nat → Nat} {g : Nat → Int32} {F : Nat → Nat → Int32} {v : Int32} : List.set (mW h0 kB kI kZ q g F) 0 (h0, .inr (12, List.set (mFs g q) 62 (.int v))) = mW h0 kB kI kZ q (upd g 62 v) F := rfl
theorem sP_g62 {D : va_G} {cl : List vw_C} {h0 : Nat} {kB kI kZ : ClassId} {q : Nat → Nat} {g : Nat → Int32} {F : Nat → Nat → Int32} {g1 : Nat → Int32} {v : Int32} {H : Heap} (h : va_P D cl (List.set (mW h0 kB kI kZ q g F) 0 (h0, .inr (12, List.set (mFs g q) 62 (.int v)))) H) (e : upd g 62 v = g1) : va_P D cl (mW h0 kB kI kZ q g1 F) H := by
  subst e
  exact sP_eq sE_g62 h
theorem sD_g62 {A : Nat → Prop} {h0 : Nat} {kB kI kZ : ClassId} {q : Nat → Nat} {g : Nat → Int32} {F : Nat → Nat → Int32} {g1 : Nat → Int32} {v : Int32} (h : va_D A (List.set (mW h0 kB kI kZ q g F) 0 (h0, .inr (12, List.set (mFs g q) 62 (.int v))))) (e : upd g 62 v = g1) : va_D A (mW h0 kB kI kZ q g1 F) := by
  subst e
  exact sD_eq sE_g62 h
theorem sE_g65 {h0 : Nat} {kB kI kZ : ClassId} {q : Nat → Nat} {g : Nat → Int32} {F : Nat → Nat → Int32} {v : Int32} : List.set (mW h0 kB kI kZ q g F) 0 (h0, .inr (12, List.set (mFs g q) 65 (.int v))) = mW h0 kB kI kZ q (upd g 65 v) F := rfl
theorem sP_g65 {D : va_G} {cl : List vw_C} {h0 : Nat} {kB kI kZ : ClassId} {q : Nat → Nat} {g : Nat → Int32} {F : Nat → Nat → Int32} {g1 : Nat → Int32} {v : Int32} {H : Heap} (h : va_P D cl (List.set (mW h0 kB kI kZ q g F) 0 (h0, .inr (12, List.set (mFs g q) 65 (.int v)))) H) (e : upd g 65 v = g1) : va_P D cl (mW h0 kB kI kZ q g1 F) H := by
  subst e
  exact sP_eq sE_g65 h
theorem sD_g65 {A : Nat → Prop} {h0 : Nat} {kB kI kZ : ClassId} {q : Nat → Nat} {g : Nat → Int32} {F : Nat → Nat → Int32} {g1 : Nat → Int32} {v : Int32} (h : va_D A (List.set (mW h0 kB kI kZ q g F) 0 (h0, .inr (12, List.set (mFs g q) 65 (.int v))))) (e : upd g 65 v = g1) : va_D A (mW h0 kB kI kZ q g1 F) := by
  subst e
  exact sD_eq sE_g65 h
theorem sE_g66 {h0 : Nat} {kB kI kZ : ClassId} {q : Nat → Nat} {g : Nat → Int32} {F : Nat → Nat → Int32} {v : Int32} : List.set (mW h0 kB kI kZ q g F) 0 (h0, .inr (12, List.set (mFs g q) 66 (.int v))) = mW h0 kB kI kZ q (upd g 66 v) F := rfl
theorem sP_g66 {D : va_G} {cl : List vw_C} {h0 : Nat} {kB kI kZ : ClassId} {q : Nat → Nat} {g : Nat → Int32} {F : Nat → Nat → Int32} {g1 : Nat → Int32} {v : Int32} {H : Heap} (h : va_P D cl (List.set (mW h0 kB kI kZ q g F) 0 (h0, .inr (12, List.set (mFs g q) 66 (.int v)))) H) (e : upd g 66 v = g1) : va_P D cl (mW h0 kB kI kZ q g1 F) H := by
  subst e
  exact sP_eq sE_g66 h
theorem sD_g66 {A : Nat → Prop} {h0 : Nat} {kB kI kZ : ClassId} {q : Nat → Nat} {g : Nat → Int32} {F : Nat → Nat → Int32} {g1 : Nat → Int32} {v : Int32} (h : va_D A (List.set (mW h0 kB kI kZ q g F) 0 (h0, .inr (12, List.set (mFs g q) 66 (.int v))))) (e : upd g 66 v = g1) : va_D A (mW h0 kB kI kZ q g1 F) := by
  subst e
  exact sD_eq sE_g66 h
theorem sE_g70 {h0 : Nat} {kB kI kZ : ClassId} {q : Nat → Nat} {g : Nat → Int32} {F : Nat → Nat → Int32} {v : Int32} : List.set (mW h0 kB kI kZ q g F) 0 (h0, .inr (12, List.set (mFs g q) 70 (.int v))) = mW h0 kB kI kZ q (upd g 70 v) F := rfl
theorem sP_g70 {D : va_G} {cl : List vw_C} {h0 : Nat} {kB kI kZ : ClassId} {q : Nat → Nat} {g : Nat → Int32} {F : Nat → Nat → Int32} {g1 : Nat → Int32} {v : Int32} {H : Heap} (h : va_P D cl (List.set (mW h0 kB kI kZ q g F) 0 (h0, .inr (12, List.set (mFs g q) 70 (.int v)))) H) (e : upd g 70 v = g1) : va_P D cl (mW h0 kB kI kZ q g1 F) H := by
  subst e
  exact sP_eq sE_g70 h
theorem sD_g70 {A : Nat → Prop} {h0 : Nat} {kB kI kZ : ClassId} {q : Nat → Nat} {g : Nat → Int32} {F : Nat → Nat → Int32} {g1 : Nat → Int32} {v : Int32} (h : va_D A (List.set (mW h0 kB kI kZ q g F) 0 (h0, .inr (12, List.set (mFs g q) 70 (.int v))))) (e : upd g 70 v = g1) : va_D A (mW h0 kB kI kZ q g1 F) := by
  subst e
  exact sD_eq sE_g70 h
theorem sE_F0 {h0 : Nat} {kB kI kZ : ClassId} {q : Nat → Nat} {g : Nat → Int32} {F : Nat → Nat → Int32} {u : Nat → Int32} : List.set (mW h0 kB kI kZ q g F) 1 (q 0, .inl (kB, 2000, .inl u)) = mW h0 kB kI kZ q g (upF F 0 u) := rfl
theorem sP_F0 {D : va_G} {cl : List vw_C} {h0 : Nat} {kB kI kZ : ClassId} {q : Nat → Nat} {g : Nat → Int32} {F : Nat → Nat → Int32} {F1 : Nat → Nat → Int32} {u : Nat → Int32} {H : Heap} (h : va_P D cl (List.set (mW h0 kB kI kZ q g F) 1 (q 0, .inl (kB, 2000, .inl u))) H) (e : upF F 0 u = F1) : va_P D cl (mW h0 kB kI kZ q g F1) H := by
  subst e
  exact sP_eq sE_F0 h
theorem sD_F0 {A : Nat → Prop} {h0 : Nat} {kB kI kZ : ClassId} {q : Nat → Nat} {g : Nat → Int32} {F : Nat → Nat → Int32} {F1 : Nat → Nat → Int32} {u : Nat → Int32} (h : va_D A (List.set (mW h0 kB kI kZ q g F) 1 (q 0, .inl (kB, 2000, .inl u)))) (e : upF F 0 u = F1) : va_D A (mW h0 kB kI kZ q g F1) := by
  subst e
  exact sD_eq sE_F0 h
theorem sE_F10 {h0 : Nat} {kB kI kZ : ClassId} {q : Nat → Nat} {g : Nat → Int32} {F : Nat → Nat → Int32} {u : Nat → Int32} : List.set (mW h0 kB kI kZ q g F) 2 (q 10, .inl (kI, 7, .inl u)) = mW h0 kB kI kZ q g (upF F 10 u) := rfl
theorem sP_F10 {D : va_G} {cl : List vw_C} {h0 : Nat} {kB kI kZ : ClassId} {q : Nat → Nat} {g : Nat → Int32} {F : Nat → Nat → Int32} {F1 : Nat → Nat → Int32} {u : Nat → Int32} {H : Heap} (h : va_P D cl (List.set (mW h0 kB kI kZ q g F) 2 (q 10, .inl (kI, 7, .inl u))) H) (e : upF F 10 u = F1) : va_P D cl (mW h0 kB kI kZ q g F1) H := by
  subst e
  exact sP_eq sE_F10 h
theorem sD_F10 {A : Nat → Prop} {h0 : Nat} {kB kI kZ : ClassId} {q : Nat → Nat} {g : Nat → Int32} {F : Nat → Nat → Int32} {F1 : Nat → Nat → Int32} {u : Nat → Int32} (h : va_D A (List.set (mW h0 kB kI kZ q g F) 2 (q 10, .inl (kI, 7, .inl u)))) (e : upF F 10 u = F1) : va_D A (mW h0 kB kI kZ q g F1) := by
  subst e
  exact sD_eq sE_F10 h
theorem sE_F11 {h0 : Nat} {kB kI kZ : ClassId} {q : Nat → Nat} {g : Nat → Int32} {F : Nat → Nat → Int32} {u : Nat → Int32} : List.set (mW h0 kB kI kZ q g F) 3 (q 11, .inl (kI, 7, .inl u)) = mW h0 kB kI kZ q g (upF F 11 u) := rfl
theorem sP_F11 {D : va_G} {cl : List vw_C} {h0 : Nat} {kB kI kZ : ClassId} {q : Nat → Nat} {g : Nat → Int32} {F : Nat → Nat → Int32} {F1 : Nat → Nat → Int32} {u : Nat → Int32} {H : Heap} (h : va_P D cl (List.set (mW h0 kB kI kZ q g F) 3 (q 11, .inl (kI, 7, .inl u))) H) (e : upF F 11 u = F1) : va_P D cl (mW h0 kB kI kZ q g F1) H := by
  subst e
  exact sP_eq sE_F11 h
theorem sD_F11 {A : Nat → Prop} {h0 : Nat} {kB kI kZ : ClassId} {q : Nat → Nat} {g : Nat → Int32} {F : Nat → Nat → Int32} {F1 : Nat → Nat → Int32} {u : Nat → Int32} (h : va_D A (List.set (mW h0 kB kI kZ q g F) 3 (q 11, .inl (kI, 7, .inl u)))) (e : upF F 11 u = F1) : va_D A (mW h0 kB kI kZ q g F1) := by
  subst e
  exact sD_eq sE_F11 h
theorem sE_F12 {h0 : Nat} {kB kI kZ : ClassId} {q : Nat → Nat} {g : Nat → Int32} {F : Nat → Nat → Int32} {u : Nat → Int32} : List.set (mW h0 kB kI kZ q g F) 4 (q 12, .inl (kI, 7, .inl u)) = mW h0 kB kI kZ q g (upF F 12 u) := rfl
theorem sP_F12 {D : va_G} {cl : List vw_C} {h0 : Nat} {kB kI kZ : ClassId} {q : Nat → Nat} {g : Nat → Int32} {F : Nat → Nat → Int32} {F1 : Nat → Nat → Int32} {u : Nat → Int32} {H : Heap} (h : va_P D cl (List.set (mW h0 kB kI kZ q g F) 4 (q 12, .inl (kI, 7, .inl u))) H) (e : upF F 12 u = F1) : va_P D cl (mW h0 kB kI kZ q g F1) H := by
  subst e
  exact sP_eq sE_F12 h
theorem sD_F12 {A : Nat → Prop} {h0 : Nat} {kB kI kZ : ClassId} {q : Nat → Nat} {g : Nat → Int32} {F : Nat → Nat → Int32} {F1 : Nat → Nat → Int32} {u : Nat → Int32} (h : va_D A (List.set (mW h0 kB kI kZ q g F) 4 (q 12, .inl (kI, 7, .inl u)))) (e : upF F 12 u = F1) : va_D A (mW h0 kB kI kZ q g F1) := by
  subst e
  exact sD_eq sE_F12 h
theorem sE_F13 {h0 : Nat} {kB kI kZ : ClassId} {q : Nat → Nat} {g : Nat → Int32} {F : Nat → Nat → Int32} {u : Nat → Int32} : List.set (mW h0 kB kI kZ q g F) 5 (q 13, .inl (kI, 7, .inl u)) = mW h0 kB kI kZ q g (upF F 13 u) := rfl
theorem sP_F13 {D : va_G} {cl : List vw_C} {h0 : Nat} {kB kI kZ : ClassId} {q : Nat → Nat} {g : Nat → Int32} {F : Nat → Nat → Int32} {F1 : Nat → Nat → Int32} {u : Nat → Int32} {H : Heap} (h : va_P D cl (List.set (mW h0 kB kI kZ q g F) 5 (q 13, .inl (kI, 7, .inl u))) H) (e : upF F 13 u = F1) : va_P D cl (mW h0 kB kI kZ q g F1) H := by
  subst e
  exact sP_eq sE_F13 h
theorem sD_F13 {A : Nat → Prop} {h0 : Nat} {kB kI kZ : ClassId} {q : Nat → Nat} {g : Nat → Int32} {F : Nat → Nat → Int32} {F1 : Nat → Nat → Int32} {u : Nat → Int32} (h : va_D A (List.set (mW h0 kB kI kZ q g F) 5 (q 13, .inl (kI, 7, .inl u)))) (e : upF F 13 u = F1) : va_D A (mW h0 kB kI kZ q g F1) := by
  subst e
  exact sD_eq sE_F13 h
theorem sE_F14 {h0 : Nat} {kB kI kZ : ClassId} {q : Nat → Nat} {g : Nat → Int32} {F : Nat → Nat → Int32} {u : Nat → Int32} : List.set (mW h0 kB kI kZ q g F) 6 (q 14, .inl (kB, 17920, .inl u)) = mW h0 kB kI kZ q g (upF F 14 u) := rfl
theorem sP_F14 {D : va_G} {cl : List vw_C} {h0 : Nat} {kB kI kZ : ClassId} {q : Nat → Nat} {g : Nat → Int32} {F : Nat → Nat → Int32} {F1 : Nat → Nat → Int32} {u : Nat → Int32} {H : Heap} (h : va_P D cl (List.set (mW h0 kB kI kZ q g F) 6 (q 14, .inl (kB, 17920, .inl u))) H) (e : upF F 14 u = F1) : va_P D cl (mW h0 kB kI kZ q g F1) H := by
  subst e
  exact sP_eq sE_F14 h
theorem sD_F14 {A : Nat → Prop} {h0 : Nat} {kB kI kZ : ClassId} {q : Nat → Nat} {g : Nat → Int32} {F : Nat → Nat → Int32} {F1 : Nat → Nat → Int32} {u : Nat → Int32} (h : va_D A (List.set (mW h0 kB kI kZ q g F) 6 (q 14, .inl (kB, 17920, .inl u)))) (e : upF F 14 u = F1) : va_D A (mW h0 kB kI kZ q g F1) := by
  subst e
  exact sD_eq sE_F14 h
theorem sE_F15 {h0 : Nat} {kB kI kZ : ClassId} {q : Nat → Nat} {g : Nat → Int32} {F : Nat → Nat → Int32} {u : Nat → Int32} : List.set (mW h0 kB kI kZ q g F) 7 (q 15, .inl (kI, 1120, .inl u)) = mW h0 kB kI kZ q g (upF F 15 u) := rfl
theorem sP_F15 {D : va_G} {cl : List vw_C} {h0 : Nat} {kB kI kZ : ClassId} {q : Nat → Nat} {g : Nat → Int32} {F : Nat → Nat → Int32} {F1 : Nat → Nat → Int32} {u : Nat → Int32} {H : Heap} (h : va_P D cl (List.set (mW h0 kB kI kZ q g F) 7 (q 15, .inl (kI, 1120, .inl u))) H) (e : upF F 15 u = F1) : va_P D cl (mW h0 kB kI kZ q g F1) H := by
  subst e
  exact sP_eq sE_F15 h
theorem sD_F15 {A : Nat → Prop} {h0 : Nat} {kB kI kZ : ClassId} {q : Nat → Nat} {g : Nat → Int32} {F : Nat → Nat → Int32} {F1 : Nat → Nat → Int32} {u : Nat → Int32} (h : va_D A (List.set (mW h0 kB kI kZ q g F) 7 (q 15, .inl (kI, 1120, .inl u)))) (e : upF F 15 u = F1) : va_D A (mW h0 kB kI kZ q g F1) := by
  subst e
  exact sD_eq sE_F15 h
theorem sE_F16 {h0 : Nat} {kB kI kZ : ClassId} {q : Nat → Nat} {g : Nat → Int32} {F : Nat → Nat → Int32} {u : Nat → Int32} : List.set (mW h0 kB kI kZ q g F) 8 (q 16, .inl (kZ, 280, .inl u)) = mW h0 kB kI kZ q g (upF F 16 u) := rfl
theorem sP_F16 {D : va_G} {cl : List vw_C} {h0 : Nat} {kB kI kZ : ClassId} {q : Nat → Nat} {g : Nat → Int32} {F : Nat → Nat → Int32} {F1 : Nat → Nat → Int32} {u : Nat → Int32} {H : Heap} (h : va_P D cl (List.set (mW h0 kB kI kZ q g F) 8 (q 16, .inl (kZ, 280, .inl u))) H) (e : upF F 16 u = F1) : va_P D cl (mW h0 kB kI kZ q g F1) H := by
  subst e
  exact sP_eq sE_F16 h
theorem sD_F16 {A : Nat → Prop} {h0 : Nat} {kB kI kZ : ClassId} {q : Nat → Nat} {g : Nat → Int32} {F : Nat → Nat → Int32} {F1 : Nat → Nat → Int32} {u : Nat → Int32} (h : va_D A (List.set (mW h0 kB kI kZ q g F) 8 (q 16, .inl (kZ, 280, .inl u)))) (e : upF F 16 u = F1) : va_D A (mW h0 kB kI kZ q g F1) := by
  subst e
  exact sD_eq sE_F16 h
theorem sE_F17 {h0 : Nat} {kB kI kZ : ClassId} {q : Nat → Nat} {g : Nat → Int32} {F : Nat → Nat → Int32} {u : Nat → Int32} : List.set (mW h0 kB kI kZ q g F) 9 (q 17, .inl (kZ, 280, .inl u)) = mW h0 kB kI kZ q g (upF F 17 u) := rfl
theorem sP_F17 {D : va_G} {cl : List vw_C} {h0 : Nat} {kB kI kZ : ClassId} {q : Nat → Nat} {g : Nat → Int32} {F : Nat → Nat → Int32} {F1 : Nat → Nat → Int32} {u : Nat → Int32} {H : Heap} (h : va_P D cl (List.set (mW h0 kB kI kZ q g F) 9 (q 17, .inl (kZ, 280, .inl u))) H) (e : upF F 17 u = F1) : va_P D cl (mW h0 kB kI kZ q g F1) H := by
  subst e
  exact sP_eq sE_F17 h
theorem sD_F17 {A : Nat → Prop} {h0 : Nat} {kB kI kZ : ClassId} {q : Nat → Nat} {g : Nat → Int32} {F : Nat → Nat → Int32} {F1 : Nat → Nat → Int32} {u : Nat → Int32} (h : va_D A (List.set (mW h0 kB kI kZ q g F) 9 (q 17, .inl (kZ, 280, .inl u)))) (e : upF F 17 u = F1) : va_D A (mW h0 kB kI kZ q g F1) := by
  subst e
  exact sD_eq sE_F17 h
theorem sE_F18 {h0 : Nat} {kB kI kZ : ClassId} {q : Nat → Nat} {g : Nat → Int32} {F : Nat → Nat → Int32} {u : Nat → Int32} : List.set (mW h0 kB kI kZ q g F) 10 (q 18, .inl (kB, 4480, .inl u)) = mW h0 kB kI kZ q g (upF F 18 u) := rfl
theorem sP_F18 {D : va_G} {cl : List vw_C} {h0 : Nat} {kB kI kZ : ClassId} {q : Nat → Nat} {g : Nat → Int32} {F : Nat → Nat → Int32} {F1 : Nat → Nat → Int32} {u : Nat → Int32} {H : Heap} (h : va_P D cl (List.set (mW h0 kB kI kZ q g F) 10 (q 18, .inl (kB, 4480, .inl u))) H) (e : upF F 18 u = F1) : va_P D cl (mW h0 kB kI kZ q g F1) H := by
  subst e
  exact sP_eq sE_F18 h
theorem sD_F18 {A : Nat → Prop} {h0 : Nat} {kB kI kZ : ClassId} {q : Nat → Nat} {g : Nat → Int32} {F : Nat → Nat → Int32} {F1 : Nat → Nat → Int32} {u : Nat → Int32} (h : va_D A (List.set (mW h0 kB kI kZ q g F) 10 (q 18, .inl (kB, 4480, .inl u)))) (e : upF F 18 u = F1) : va_D A (mW h0 kB kI kZ q g F1) := by
  subst e
  exact sD_eq sE_F18 h
theorem sE_F19 {h0 : Nat} {kB kI kZ : ClassId} {q : Nat → Nat} {g : Nat → Int32} {F : Nat → Nat → Int32} {u : Nat → Int32} : List.set (mW h0 kB kI kZ q g F) 11 (q 19, .inl (kI, 280, .inl u)) = mW h0 kB kI kZ q g (upF F 19 u) := rfl
theorem sP_F19 {D : va_G} {cl : List vw_C} {h0 : Nat} {kB kI kZ : ClassId} {q : Nat → Nat} {g : Nat → Int32} {F : Nat → Nat → Int32} {F1 : Nat → Nat → Int32} {u : Nat → Int32} {H : Heap} (h : va_P D cl (List.set (mW h0 kB kI kZ q g F) 11 (q 19, .inl (kI, 280, .inl u))) H) (e : upF F 19 u = F1) : va_P D cl (mW h0 kB kI kZ q g F1) H := by
  subst e
  exact sP_eq sE_F19 h
theorem sD_F19 {A : Nat → Prop} {h0 : Nat} {kB kI kZ : ClassId} {q : Nat → Nat} {g : Nat → Int32} {F : Nat → Nat → Int32} {F1 : Nat → Nat → Int32} {u : Nat → Int32} (h : va_D A (List.set (mW h0 kB kI kZ q g F) 11 (q 19, .inl (kI, 280, .inl u)))) (e : upF F 19 u = F1) : va_D A (mW h0 kB kI kZ q g F1) := by
  subst e
  exact sD_eq sE_F19 h
theorem sE_F20 {h0 : Nat} {kB kI kZ : ClassId} {q : Nat → Nat} {g : Nat → Int32} {F : Nat → Nat → Int32} {u : Nat → Int32} : List.set (mW h0 kB kI kZ q g F) 12 (q 20, .inl (kB, 8960, .inl u)) = mW h0 kB kI kZ q g (upF F 20 u) := rfl
theorem sP_F20 {D : va_G} {cl : List vw_C} {h0 : Nat} {kB kI kZ : ClassId} {q : Nat → Nat} {g : Nat → Int32} {F : Nat → Nat → Int32} {F1 : Nat → Nat → Int32} {u : Nat → Int32} {H : Heap} (h : va_P D cl (List.set (mW h0 kB kI kZ q g F) 12 (q 20, .inl (kB, 8960, .inl u))) H) (e : upF F 20 u = F1) : va_P D cl (mW h0 kB kI kZ q g F1) H := by
  subst e
  exact sP_eq sE_F20 h
theorem sD_F20 {A : Nat → Prop} {h0 : Nat} {kB kI kZ : ClassId} {q : Nat → Nat} {g : Nat → Int32} {F : Nat → Nat → Int32} {F1 : Nat → Nat → Int32} {u : Nat → Int32} (h : va_D A (List.set (mW h0 kB kI kZ q g F) 12 (q 20, .inl (kB, 8960, .inl u)))) (e : upF F 20 u = F1) : va_D A (mW h0 kB kI kZ q g F1) := by
  subst e
  exact sD_eq sE_F20 h
theorem sE_F21 {h0 : Nat} {kB kI kZ : ClassId} {q : Nat → Nat} {g : Nat → Int32} {F : Nat → Nat → Int32} {u : Nat → Int32} : List.set (mW h0 kB kI kZ q g F) 13 (q 21, .inl (kI, 560, .inl u)) = mW h0 kB kI kZ q g (upF F 21 u) := rfl
theorem sP_F21 {D : va_G} {cl : List vw_C} {h0 : Nat} {kB kI kZ : ClassId} {q : Nat → Nat} {g : Nat → Int32} {F : Nat → Nat → Int32} {F1 : Nat → Nat → Int32} {u : Nat → Int32} {H : Heap} (h : va_P D cl (List.set (mW h0 kB kI kZ q g F) 13 (q 21, .inl (kI, 560, .inl u))) H) (e : upF F 21 u = F1) : va_P D cl (mW h0 kB kI kZ q g F1) H := by
  subst e
  exact sP_eq sE_F21 h
theorem sD_F21 {A : Nat → Prop} {h0 : Nat} {kB kI kZ : ClassId} {q : Nat → Nat} {g : Nat → Int32} {F : Nat → Nat → Int32} {F1 : Nat → Nat → Int32} {u : Nat → Int32} (h : va_D A (List.set (mW h0 kB kI kZ q g F) 13 (q 21, .inl (kI, 560, .inl u)))) (e : upF F 21 u = F1) : va_D A (mW h0 kB kI kZ q g F1) := by
  subst e
  exact sD_eq sE_F21 h
theorem sE_F22 {h0 : Nat} {kB kI kZ : ClassId} {q : Nat → Nat} {g : Nat → Int32} {F : Nat → Nat → Int32} {u : Nat → Int32} : List.set (mW h0 kB kI kZ q g F) 14 (q 22, .inl (kB, 24, .inl u)) = mW h0 kB kI kZ q g (upF F 22 u) := rfl
theorem sP_F22 {D : va_G} {cl : List vw_C} {h0 : Nat} {kB kI kZ : ClassId} {q : Nat → Nat} {g : Nat → Int32} {F : Nat → Nat → Int32} {F1 : Nat → Nat → Int32} {u : Nat → Int32} {H : Heap} (h : va_P D cl (List.set (mW h0 kB kI kZ q g F) 14 (q 22, .inl (kB, 24, .inl u))) H) (e : upF F 22 u = F1) : va_P D cl (mW h0 kB kI kZ q g F1) H := by
  subst e
  exact sP_eq sE_F22 h
theorem sD_F22 {A : Nat → Prop} {h0 : Nat} {kB kI kZ : ClassId} {q : Nat → Nat} {g : Nat → Int32} {F : Nat → Nat → Int32} {F1 : Nat → Nat → Int32} {u : Nat → Int32} (h : va_D A (List.set (mW h0 kB kI kZ q g F) 14 (q 22, .inl (kB, 24, .inl u)))) (e : upF F 22 u = F1) : va_D A (mW h0 kB kI kZ q g F1) := by
  subst e
  exact sD_eq sE_F22 h
theorem sE_F24 {h0 : Nat} {kB kI kZ : ClassId} {q : Nat → Nat} {g : Nat → Int32} {F : Nat → Nat → Int32} {u : Nat → Int32} : List.set (mW h0 kB kI kZ q g F) 15 (q 24, .inl (kI, 24, .inl u)) = mW h0 kB kI kZ q g (upF F 24 u) := rfl
theorem sP_F24 {D : va_G} {cl : List vw_C} {h0 : Nat} {kB kI kZ : ClassId} {q : Nat → Nat} {g : Nat → Int32} {F : Nat → Nat → Int32} {F1 : Nat → Nat → Int32} {u : Nat → Int32} {H : Heap} (h : va_P D cl (List.set (mW h0 kB kI kZ q g F) 15 (q 24, .inl (kI, 24, .inl u))) H) (e : upF F 24 u = F1) : va_P D cl (mW h0 kB kI kZ q g F1) H := by
  subst e
  exact sP_eq sE_F24 h
theorem sD_F24 {A : Nat → Prop} {h0 : Nat} {kB kI kZ : ClassId} {q : Nat → Nat} {g : Nat → Int32} {F : Nat → Nat → Int32} {F1 : Nat → Nat → Int32} {u : Nat → Int32} (h : va_D A (List.set (mW h0 kB kI kZ q g F) 15 (q 24, .inl (kI, 24, .inl u)))) (e : upF F 24 u = F1) : va_D A (mW h0 kB kI kZ q g F1) := by
  subst e
  exact sD_eq sE_F24 h
theorem sE_F25 {h0 : Nat} {kB kI kZ : ClassId} {q : Nat → Nat} {g : Nat → Int32} {F : Nat → Nat → Int32} {u : Nat → Int32} : List.set (mW h0 kB kI kZ q g F) 16 (q 25, .inl (kI, 720, .inl u)) = mW h0 kB kI kZ q g (upF F 25 u) := rfl
theorem sP_F25 {D : va_G} {cl : List vw_C} {h0 : Nat} {kB kI kZ : ClassId} {q : Nat → Nat} {g : Nat → Int32} {F : Nat → Nat → Int32} {F1 : Nat → Nat → Int32} {u : Nat → Int32} {H : Heap} (h : va_P D cl (List.set (mW h0 kB kI kZ q g F) 16 (q 25, .inl (kI, 720, .inl u))) H) (e : upF F 25 u = F1) : va_P D cl (mW h0 kB kI kZ q g F1) H := by
  subst e
  exact sP_eq sE_F25 h
theorem sD_F25 {A : Nat → Prop} {h0 : Nat} {kB kI kZ : ClassId} {q : Nat → Nat} {g : Nat → Int32} {F : Nat → Nat → Int32} {F1 : Nat → Nat → Int32} {u : Nat → Int32} (h : va_D A (List.set (mW h0 kB kI kZ q g F) 16 (q 25, .inl (kI, 720, .inl u)))) (e : upF F 25 u = F1) : va_D A (mW h0 kB kI kZ q g F1) := by
  subst e
  exact sD_eq sE_F25 h
theorem sE_F26 {h0 : Nat} {kB kI kZ : ClassId} {q : Nat → Nat} {g : Nat → Int32} {F : Nat → Nat → Int32} {u : Nat → Int32} : List.set (mW h0 kB kI kZ q g F) 17 (q 26, .inl (kI, 30, .inl u)) = mW h0 kB kI kZ q g (upF F 26 u) := rfl
theorem sP_F26 {D : va_G} {cl : List vw_C} {h0 : Nat} {kB kI kZ : ClassId} {q : Nat → Nat} {g : Nat → Int32} {F : Nat → Nat → Int32} {F1 : Nat → Nat → Int32} {u : Nat → Int32} {H : Heap} (h : va_P D cl (List.set (mW h0 kB kI kZ q g F) 17 (q 26, .inl (kI, 30, .inl u))) H) (e : upF F 26 u = F1) : va_P D cl (mW h0 kB kI kZ q g F1) H := by
  subst e
  exact sP_eq sE_F26 h
theorem sD_F26 {A : Nat → Prop} {h0 : Nat} {kB kI kZ : ClassId} {q : Nat → Nat} {g : Nat → Int32} {F : Nat → Nat → Int32} {F1 : Nat → Nat → Int32} {u : Nat → Int32} (h : va_D A (List.set (mW h0 kB kI kZ q g F) 17 (q 26, .inl (kI, 30, .inl u)))) (e : upF F 26 u = F1) : va_D A (mW h0 kB kI kZ q g F1) := by
  subst e
  exact sD_eq sE_F26 h
theorem sE_F28 {h0 : Nat} {kB kI kZ : ClassId} {q : Nat → Nat} {g : Nat → Int32} {F : Nat → Nat → Int32} {u : Nat → Int32} : List.set (mW h0 kB kI kZ q g F) 18 (q 28, .inl (kZ, 25, .inl u)) = mW h0 kB kI kZ q g (upF F 28 u) := rfl
theorem sP_F28 {D : va_G} {cl : List vw_C} {h0 : Nat} {kB kI kZ : ClassId} {q : Nat → Nat} {g : Nat → Int32} {F : Nat → Nat → Int32} {F1 : Nat → Nat → Int32} {u : Nat → Int32} {H : Heap} (h : va_P D cl (List.set (mW h0 kB kI kZ q g F) 18 (q 28, .inl (kZ, 25, .inl u))) H) (e : upF F 28 u = F1) : va_P D cl (mW h0 kB kI kZ q g F1) H := by
  subst e
  exact sP_eq sE_F28 h
theorem sD_F28 {A : Nat → Prop} {h0 : Nat} {kB kI kZ : ClassId} {q : Nat → Nat} {g : Nat → Int32} {F : Nat → Nat → Int32} {F1 : Nat → Nat → Int32} {u : Nat → Int32} (h : va_D A (List.set (mW h0 kB kI kZ q g F) 18 (q 28, .inl (kZ, 25, .inl u)))) (e : upF F 28 u = F1) : va_D A (mW h0 kB kI kZ q g F1) := by
  subst e
  exact sD_eq sE_F28 h
theorem sE_F29 {h0 : Nat} {kB kI kZ : ClassId} {q : Nat → Nat} {g : Nat → Int32} {F : Nat → Nat → Int32} {u : Nat → Int32} : List.set (mW h0 kB kI kZ q g F) 19 (q 29, .inl (kB, 400, .inl u)) = mW h0 kB kI kZ q g (upF F 29 u) := rfl
theorem sP_F29 {D : va_G} {cl : List vw_C} {h0 : Nat} {kB kI kZ : ClassId} {q : Nat → Nat} {g : Nat → Int32} {F : Nat → Nat → Int32} {F1 : Nat → Nat → Int32} {u : Nat → Int32} {H : Heap} (h : va_P D cl (List.set (mW h0 kB kI kZ q g F) 19 (q 29, .inl (kB, 400, .inl u))) H) (e : upF F 29 u = F1) : va_P D cl (mW h0 kB kI kZ q g F1) H := by
  subst e
  exact sP_eq sE_F29 h
theorem sD_F29 {A : Nat → Prop} {h0 : Nat} {kB kI kZ : ClassId} {q : Nat → Nat} {g : Nat → Int32} {F : Nat → Nat → Int32} {F1 : Nat → Nat → Int32} {u : Nat → Int32} (h : va_D A (List.set (mW h0 kB kI kZ q g F) 19 (q 29, .inl (kB, 400, .inl u)))) (e : upF F 29 u = F1) : va_D A (mW h0 kB kI kZ q g F1) := by
  subst e
  exact sD_eq sE_F29 h
theorem sE_F31 {h0 : Nat} {kB kI kZ : ClassId} {q : Nat → Nat} {g : Nat → Int32} {F : Nat → Nat → Int32} {u : Nat → Int32} : List.set (mW h0 kB kI kZ q g F) 20 (q 31, .inl (kB, 400, .inl u)) = mW h0 kB kI kZ q g (upF F 31 u) := rfl
theorem sP_F31 {D : va_G} {cl : List vw_C} {h0 : Nat} {kB kI kZ : ClassId} {q : Nat → Nat} {g : Nat → Int32} {F : Nat → Nat → Int32} {F1 : Nat → Nat → Int32} {u : Nat → Int32} {H : Heap} (h : va_P D cl (List.set (mW h0 kB kI kZ q g F) 20 (q 31, .inl (kB, 400, .inl u))) H) (e : upF F 31 u = F1) : va_P D cl (mW h0 kB kI kZ q g F1) H := by
  subst e
  exact sP_eq sE_F31 h
theorem sD_F31 {A : Nat → Prop} {h0 : Nat} {kB kI kZ : ClassId} {q : Nat → Nat} {g : Nat → Int32} {F : Nat → Nat → Int32} {F1 : Nat → Nat → Int32} {u : Nat → Int32} (h : va_D A (List.set (mW h0 kB kI kZ q g F) 20 (q 31, .inl (kB, 400, .inl u)))) (e : upF F 31 u = F1) : va_D A (mW h0 kB kI kZ q g F1) := by
  subst e
  exact sD_eq sE_F31 h
theorem sE_F32 {h0 : Nat} {kB kI kZ : ClassId} {q : Nat → Nat} {g : Nat → Int32} {F : Nat → Nat → Int32} {u : Nat → Int32} : List.set (mW h0 kB kI kZ q g F) 21 (q 32, .inl (kB, 720, .inl u)) = mW h0 kB kI kZ q g (upF F 32 u) := rfl
theorem sP_F32 {D : va_G} {cl : List vw_C} {h0 : Nat} {kB kI kZ : ClassId} {q : Nat → Nat} {g : Nat → Int32} {F : Nat → Nat → Int32} {F1 : Nat → Nat → Int32} {u : Nat → Int32} {H : Heap} (h : va_P D cl (List.set (mW h0 kB kI kZ q g F) 21 (q 32, .inl (kB, 720, .inl u))) H) (e : upF F 32 u = F1) : va_P D cl (mW h0 kB kI kZ q g F1) H := by
  subst e
  exact sP_eq sE_F32 h
theorem sD_F32 {A : Nat → Prop} {h0 : Nat} {kB kI kZ : ClassId} {q : Nat → Nat} {g : Nat → Int32} {F : Nat → Nat → Int32} {F1 : Nat → Nat → Int32} {u : Nat → Int32} (h : va_D A (List.set (mW h0 kB kI kZ q g F) 21 (q 32, .inl (kB, 720, .inl u)))) (e : upF F 32 u = F1) : va_D A (mW h0 kB kI kZ q g F1) := by
  subst e
  exact sD_eq sE_F32 h
theorem sE_F33 {h0 : Nat} {kB kI kZ : ClassId} {q : Nat → Nat} {g : Nat → Int32} {F : Nat → Nat → Int32} {u : Nat → Int32} : List.set (mW h0 kB kI kZ q g F) 22 (q 33, .inl (kI, 30, .inl u)) = mW h0 kB kI kZ q g (upF F 33 u) := rfl
theorem sP_F33 {D : va_G} {cl : List vw_C} {h0 : Nat} {kB kI kZ : ClassId} {q : Nat → Nat} {g : Nat → Int32} {F : Nat → Nat → Int32} {F1 : Nat → Nat → Int32} {u : Nat → Int32} {H : Heap} (h : va_P D cl (List.set (mW h0 kB kI kZ q g F) 22 (q 33, .inl (kI, 30, .inl u))) H) (e : upF F 33 u = F1) : va_P D cl (mW h0 kB kI kZ q g F1) H := by
  subst e
  exact sP_eq sE_F33 h
theorem sD_F33 {A : Nat → Prop} {h0 : Nat} {kB kI kZ : ClassId} {q : Nat → Nat} {g : Nat → Int32} {F : Nat → Nat → Int32} {F1 : Nat → Nat → Int32} {u : Nat → Int32} (h : va_D A (List.set (mW h0 kB kI kZ q g F) 22 (q 33, .inl (kI, 30, .inl u)))) (e : upF F 33 u = F1) : va_D A (mW h0 kB kI kZ q g F1) := by
  subst e
  exact sD_eq sE_F33 h
theorem sE_F37 {h0 : Nat} {kB kI kZ : ClassId} {q : Nat → Nat} {g : Nat → Int32} {F : Nat → Nat → Int32} {u : Nat → Int32} : List.set (mW h0 kB kI kZ q g F) 23 (q 37, .inl (kB, 288, .inl u)) = mW h0 kB kI kZ q g (upF F 37 u) := rfl
theorem sP_F37 {D : va_G} {cl : List vw_C} {h0 : Nat} {kB kI kZ : ClassId} {q : Nat → Nat} {g : Nat → Int32} {F : Nat → Nat → Int32} {F1 : Nat → Nat → Int32} {u : Nat → Int32} {H : Heap} (h : va_P D cl (List.set (mW h0 kB kI kZ q g F) 23 (q 37, .inl (kB, 288, .inl u))) H) (e : upF F 37 u = F1) : va_P D cl (mW h0 kB kI kZ q g F1) H := by
  subst e
  exact sP_eq sE_F37 h
theorem sD_F37 {A : Nat → Prop} {h0 : Nat} {kB kI kZ : ClassId} {q : Nat → Nat} {g : Nat → Int32} {F : Nat → Nat → Int32} {F1 : Nat → Nat → Int32} {u : Nat → Int32} (h : va_D A (List.set (mW h0 kB kI kZ q g F) 23 (q 37, .inl (kB, 288, .inl u)))) (e : upF F 37 u = F1) : va_D A (mW h0 kB kI kZ q g F1) := by
  subst e
  exact sD_eq sE_F37 h
theorem sE_F38 {h0 : Nat} {kB kI kZ : ClassId} {q : Nat → Nat} {g : Nat → Int32} {F : Nat → Nat → Int32} {u : Nat → Int32} : List.set (mW h0 kB kI kZ q g F) 24 (q 38, .inl (kI, 12, .inl u)) = mW h0 kB kI kZ q g (upF F 38 u) := rfl
theorem sP_F38 {D : va_G} {cl : List vw_C} {h0 : Nat} {kB kI kZ : ClassId} {q : Nat → Nat} {g : Nat → Int32} {F : Nat → Nat → Int32} {F1 : Nat → Nat → Int32} {u : Nat → Int32} {H : Heap} (h : va_P D cl (List.set (mW h0 kB kI kZ q g F) 24 (q 38, .inl (kI, 12, .inl u))) H) (e : upF F 38 u = F1) : va_P D cl (mW h0 kB kI kZ q g F1) H := by
  subst e
  exact sP_eq sE_F38 h
theorem sD_F38 {A : Nat → Prop} {h0 : Nat} {kB kI kZ : ClassId} {q : Nat → Nat} {g : Nat → Int32} {F : Nat → Nat → Int32} {F1 : Nat → Nat → Int32} {u : Nat → Int32} (h : va_D A (List.set (mW h0 kB kI kZ q g F) 24 (q 38, .inl (kI, 12, .inl u)))) (e : upF F 38 u = F1) : va_D A (mW h0 kB kI kZ q g F1) := by
  subst e
  exact sD_eq sE_F38 h
theorem sE_F40 {h0 : Nat} {kB kI kZ : ClassId} {q : Nat → Nat} {g : Nat → Int32} {F : Nat → Nat → Int32} {u : Nat → Int32} : List.set (mW h0 kB kI kZ q g F) 25 (q 40, .inl (kB, 288, .inl u)) = mW h0 kB kI kZ q g (upF F 40 u) := rfl
theorem sP_F40 {D : va_G} {cl : List vw_C} {h0 : Nat} {kB kI kZ : ClassId} {q : Nat → Nat} {g : Nat → Int32} {F : Nat → Nat → Int32} {F1 : Nat → Nat → Int32} {u : Nat → Int32} {H : Heap} (h : va_P D cl (List.set (mW h0 kB kI kZ q g F) 25 (q 40, .inl (kB, 288, .inl u))) H) (e : upF F 40 u = F1) : va_P D cl (mW h0 kB kI kZ q g F1) H := by
  subst e
  exact sP_eq sE_F40 h
theorem sD_F40 {A : Nat → Prop} {h0 : Nat} {kB kI kZ : ClassId} {q : Nat → Nat} {g : Nat → Int32} {F : Nat → Nat → Int32} {F1 : Nat → Nat → Int32} {u : Nat → Int32} (h : va_D A (List.set (mW h0 kB kI kZ q g F) 25 (q 40, .inl (kB, 288, .inl u)))) (e : upF F 40 u = F1) : va_D A (mW h0 kB kI kZ q g F1) := by
  subst e
  exact sD_eq sE_F40 h
theorem sE_F41 {h0 : Nat} {kB kI kZ : ClassId} {q : Nat → Nat} {g : Nat → Int32} {F : Nat → Nat → Int32} {u : Nat → Int32} : List.set (mW h0 kB kI kZ q g F) 26 (q 41, .inl (kI, 12, .inl u)) = mW h0 kB kI kZ q g (upF F 41 u) := rfl
theorem sP_F41 {D : va_G} {cl : List vw_C} {h0 : Nat} {kB kI kZ : ClassId} {q : Nat → Nat} {g : Nat → Int32} {F : Nat → Nat → Int32} {F1 : Nat → Nat → Int32} {u : Nat → Int32} {H : Heap} (h : va_P D cl (List.set (mW h0 kB kI kZ q g F) 26 (q 41, .inl (kI, 12, .inl u))) H) (e : upF F 41 u = F1) : va_P D cl (mW h0 kB kI kZ q g F1) H := by
  subst e
  exact sP_eq sE_F41 h
theorem sD_F41 {A : Nat → Prop} {h0 : Nat} {kB kI kZ : ClassId} {q : Nat → Nat} {g : Nat → Int32} {F : Nat → Nat → Int32} {F1 : Nat → Nat → Int32} {u : Nat → Int32} (h : va_D A (List.set (mW h0 kB kI kZ q g F) 26 (q 41, .inl (kI, 12, .inl u)))) (e : upF F 41 u = F1) : va_D A (mW h0 kB kI kZ q g F1) := by
  subst e
  exact sD_eq sE_F41 h
theorem sE_F42 {h0 : Nat} {kB kI kZ : ClassId} {q : Nat → Nat} {g : Nat → Int32} {F : Nat → Nat → Int32} {u : Nat → Int32} : List.set (mW h0 kB kI kZ q g F) 27 (q 42, .inl (kB, 288, .inl u)) = mW h0 kB kI kZ q g (upF F 42 u) := rfl
theorem sP_F42 {D : va_G} {cl : List vw_C} {h0 : Nat} {kB kI kZ : ClassId} {q : Nat → Nat} {g : Nat → Int32} {F : Nat → Nat → Int32} {F1 : Nat → Nat → Int32} {u : Nat → Int32} {H : Heap} (h : va_P D cl (List.set (mW h0 kB kI kZ q g F) 27 (q 42, .inl (kB, 288, .inl u))) H) (e : upF F 42 u = F1) : va_P D cl (mW h0 kB kI kZ q g F1) H := by
  subst e
  exact sP_eq sE_F42 h
theorem sD_F42 {A : Nat → Prop} {h0 : Nat} {kB kI kZ : ClassId} {q : Nat → Nat} {g : Nat → Int32} {F : Nat → Nat → Int32} {F1 : Nat → Nat → Int32} {u : Nat → Int32} (h : va_D A (List.set (mW h0 kB kI kZ q g F) 27 (q 42, .inl (kB, 288, .inl u)))) (e : upF F 42 u = F1) : va_D A (mW h0 kB kI kZ q g F1) := by
  subst e
  exact sD_eq sE_F42 h
theorem sE_F43 {h0 : Nat} {kB kI kZ : ClassId} {q : Nat → Nat} {g : Nat → Int32} {F : Nat → Nat → Int32} {u : Nat → Int32} : List.set (mW h0 kB kI kZ q g F) 28 (q 43, .inl (kI, 12, .inl u)) = mW h0 kB kI kZ q g (upF F 43 u) := rfl
theorem sP_F43 {D : va_G} {cl : List vw_C} {h0 : Nat} {kB kI kZ : ClassId} {q : Nat → Nat} {g : Nat → Int32} {F : Nat → Nat → Int32} {F1 : Nat → Nat → Int32} {u : Nat → Int32} {H : Heap} (h : va_P D cl (List.set (mW h0 kB kI kZ q g F) 28 (q 43, .inl (kI, 12, .inl u))) H) (e : upF F 43 u = F1) : va_P D cl (mW h0 kB kI kZ q g F1) H := by
  subst e
  exact sP_eq sE_F43 h
theorem sD_F43 {A : Nat → Prop} {h0 : Nat} {kB kI kZ : ClassId} {q : Nat → Nat} {g : Nat → Int32} {F : Nat → Nat → Int32} {F1 : Nat → Nat → Int32} {u : Nat → Int32} (h : va_D A (List.set (mW h0 kB kI kZ q g F) 28 (q 43, .inl (kI, 12, .inl u)))) (e : upF F 43 u = F1) : va_D A (mW h0 kB kI kZ q g F1) := by
  subst e
  exact sD_eq sE_F43 h
theorem sE_F45 {h0 : Nat} {kB kI kZ : ClassId} {q : Nat → Nat} {g : Nat → Int32} {F : Nat → Nat → Int32} {u : Nat → Int32} : List.set (mW h0 kB kI kZ q g F) 29 (q 45, .inl (kI, 720, .inl u)) = mW h0 kB kI kZ q g (upF F 45 u) := rfl
theorem sP_F45 {D : va_G} {cl : List vw_C} {h0 : Nat} {kB kI kZ : ClassId} {q : Nat → Nat} {g : Nat → Int32} {F : Nat → Nat → Int32} {F1 : Nat → Nat → Int32} {u : Nat → Int32} {H : Heap} (h : va_P D cl (List.set (mW h0 kB kI kZ q g F) 29 (q 45, .inl (kI, 720, .inl u))) H) (e : upF F 45 u = F1) : va_P D cl (mW h0 kB kI kZ q g F1) H := by
  subst e
  exact sP_eq sE_F45 h
theorem sD_F45 {A : Nat → Prop} {h0 : Nat} {kB kI kZ : ClassId} {q : Nat → Nat} {g : Nat → Int32} {F : Nat → Nat → Int32} {F1 : Nat → Nat → Int32} {u : Nat → Int32} (h : va_D A (List.set (mW h0 kB kI kZ q g F) 29 (q 45, .inl (kI, 720, .inl u)))) (e : upF F 45 u = F1) : va_D A (mW h0 kB kI kZ q g F1) := by
  subst e
  exact sD_eq sE_F45 h
theorem sE_F46 {h0 : Nat} {kB kI kZ : ClassId} {q : Nat → Nat} {g : Nat → Int32} {F : Nat → Nat → Int32} {u : Nat → Int32} : List.set (mW h0 kB kI kZ q g F) 30 (q 46, .inl (kI, 30, .inl u)) = mW h0 kB kI kZ q g (upF F 46 u) := rfl
theorem sP_F46 {D : va_G} {cl : List vw_C} {h0 : Nat} {kB kI kZ : ClassId} {q : Nat → Nat} {g : Nat → Int32} {F : Nat → Nat → Int32} {F1 : Nat → Nat → Int32} {u : Nat → Int32} {H : Heap} (h : va_P D cl (List.set (mW h0 kB kI kZ q g F) 30 (q 46, .inl (kI, 30, .inl u))) H) (e : upF F 46 u = F1) : va_P D cl (mW h0 kB kI kZ q g F1) H := by
  subst e
  exact sP_eq sE_F46 h
theorem sD_F46 {A : Nat → Prop} {h0 : Nat} {kB kI kZ : ClassId} {q : Nat → Nat} {g : Nat → Int32} {F : Nat → Nat → Int32} {F1 : Nat → Nat → Int32} {u : Nat → Int32} (h : va_D A (List.set (mW h0 kB kI kZ q g F) 30 (q 46, .inl (kI, 30, .inl u)))) (e : upF F 46 u = F1) : va_D A (mW h0 kB kI kZ q g F1) := by
  subst e
  exact sD_eq sE_F46 h
theorem sE_F49 {h0 : Nat} {kB kI kZ : ClassId} {q : Nat → Nat} {g : Nat → Int32} {F : Nat → Nat → Int32} {u : Nat → Int32} : List.set (mW h0 kB kI kZ q g F) 31 (q 49, .inl (kB, 2400, .inl u)) = mW h0 kB kI kZ q g (upF F 49 u) := rfl
theorem sP_F49 {D : va_G} {cl : List vw_C} {h0 : Nat} {kB kI kZ : ClassId} {q : Nat → Nat} {g : Nat → Int32} {F : Nat → Nat → Int32} {F1 : Nat → Nat → Int32} {u : Nat → Int32} {H : Heap} (h : va_P D cl (List.set (mW h0 kB kI kZ q g F) 31 (q 49, .inl (kB, 2400, .inl u))) H) (e : upF F 49 u = F1) : va_P D cl (mW h0 kB kI kZ q g F1) H := by
  subst e
  exact sP_eq sE_F49 h
theorem sD_F49 {A : Nat → Prop} {h0 : Nat} {kB kI kZ : ClassId} {q : Nat → Nat} {g : Nat → Int32} {F : Nat → Nat → Int32} {F1 : Nat → Nat → Int32} {u : Nat → Int32} (h : va_D A (List.set (mW h0 kB kI kZ q g F) 31 (q 49, .inl (kB, 2400, .inl u)))) (e : upF F 49 u = F1) : va_D A (mW h0 kB kI kZ q g F1) := by
  subst e
  exact sD_eq sE_F49 h
theorem sE_F50 {h0 : Nat} {kB kI kZ : ClassId} {q : Nat → Nat} {g : Nat → Int32} {F : Nat → Nat → Int32} {u : Nat → Int32} : List.set (mW h0 kB kI kZ q g F) 32 (q 50, .inl (kI, 100, .inl u)) = mW h0 kB kI kZ q g (upF F 50 u) := rfl
theorem sP_F50 {D : va_G} {cl : List vw_C} {h0 : Nat} {kB kI kZ : ClassId} {q : Nat → Nat} {g : Nat → Int32} {F : Nat → Nat → Int32} {F1 : Nat → Nat → Int32} {u : Nat → Int32} {H : Heap} (h : va_P D cl (List.set (mW h0 kB kI kZ q g F) 32 (q 50, .inl (kI, 100, .inl u))) H) (e : upF F 50 u = F1) : va_P D cl (mW h0 kB kI kZ q g F1) H := by
  subst e
  exact sP_eq sE_F50 h
theorem sD_F50 {A : Nat → Prop} {h0 : Nat} {kB kI kZ : ClassId} {q : Nat → Nat} {g : Nat → Int32} {F : Nat → Nat → Int32} {F1 : Nat → Nat → Int32} {u : Nat → Int32} (h : va_D A (List.set (mW h0 kB kI kZ q g F) 32 (q 50, .inl (kI, 100, .inl u)))) (e : upF F 50 u = F1) : va_D A (mW h0 kB kI kZ q g F1) := by
  subst e
  exact sD_eq sE_F50 h
theorem sE_F52 {h0 : Nat} {kB kI kZ : ClassId} {q : Nat → Nat} {g : Nat → Int32} {F : Nat → Nat → Int32} {u : Nat → Int32} : List.set (mW h0 kB kI kZ q g F) 33 (q 52, .inl (kB, 201600, .inl u)) = mW h0 kB kI kZ q g (upF F 52 u) := rfl
theorem sP_F52 {D : va_G} {cl : List vw_C} {h0 : Nat} {kB kI kZ : ClassId} {q : Nat → Nat} {g : Nat → Int32} {F : Nat → Nat → Int32} {F1 : Nat → Nat → Int32} {u : Nat → Int32} {H : Heap} (h : va_P D cl (List.set (mW h0 kB kI kZ q g F) 33 (q 52, .inl (kB, 201600, .inl u))) H) (e : upF F 52 u = F1) : va_P D cl (mW h0 kB kI kZ q g F1) H := by
  subst e
  exact sP_eq sE_F52 h
theorem sD_F52 {A : Nat → Prop} {h0 : Nat} {kB kI kZ : ClassId} {q : Nat → Nat} {g : Nat → Int32} {F : Nat → Nat → Int32} {F1 : Nat → Nat → Int32} {u : Nat → Int32} (h : va_D A (List.set (mW h0 kB kI kZ q g F) 33 (q 52, .inl (kB, 201600, .inl u)))) (e : upF F 52 u = F1) : va_D A (mW h0 kB kI kZ q g F1) := by
  subst e
  exact sD_eq sE_F52 h
theorem sE_F53 {h0 : Nat} {kB kI kZ : ClassId} {q : Nat → Nat} {g : Nat → Int32} {F : Nat → Nat → Int32} {u : Nat → Int32} : List.set (mW h0 kB kI kZ q g F) 34 (q 53, .inl (kI, 8400, .inl u)) = mW h0 kB kI kZ q g (upF F 53 u) := rfl
theorem sP_F53 {D : va_G} {cl : List vw_C} {h0 : Nat} {kB kI kZ : ClassId} {q : Nat → Nat} {g : Nat → Int32} {F : Nat → Nat → Int32} {F1 : Nat → Nat → Int32} {u : Nat → Int32} {H : Heap} (h : va_P D cl (List.set (mW h0 kB kI kZ q g F) 34 (q 53, .inl (kI, 8400, .inl u))) H) (e : upF F 53 u = F1) : va_P D cl (mW h0 kB kI kZ q g F1) H := by
  subst e
  exact sP_eq sE_F53 h
theorem sD_F53 {A : Nat → Prop} {h0 : Nat} {kB kI kZ : ClassId} {q : Nat → Nat} {g : Nat → Int32} {F : Nat → Nat → Int32} {F1 : Nat → Nat → Int32} {u : Nat → Int32} (h : va_D A (List.set (mW h0 kB kI kZ q g F) 34 (q 53, .inl (kI, 8400, .inl u)))) (e : upF F 53 u = F1) : va_D A (mW h0 kB kI kZ q g F1) := by
  subst e
  exact sD_eq sE_F53 h
theorem sE_F54 {h0 : Nat} {kB kI kZ : ClassId} {q : Nat → Nat} {g : Nat → Int32} {F : Nat → Nat → Int32} {u : Nat → Int32} : List.set (mW h0 kB kI kZ q g F) 35 (q 54, .inl (kI, 700, .inl u)) = mW h0 kB kI kZ q g (upF F 54 u) := rfl
theorem sP_F54 {D : va_G} {cl : List vw_C} {h0 : Nat} {kB kI kZ : ClassId} {q : Nat → Nat} {g : Nat → Int32} {F : Nat → Nat → Int32} {F1 : Nat → Nat → Int32} {u : Nat → Int32} {H : Heap} (h : va_P D cl (List.set (mW h0 kB kI kZ q g F) 35 (q 54, .inl (kI, 700, .inl u))) H) (e : upF F 54 u = F1) : va_P D cl (mW h0 kB kI kZ q g F1) H := by
  subst e
  exact sP_eq sE_F54 h
theorem sD_F54 {A : Nat → Prop} {h0 : Nat} {kB kI kZ : ClassId} {q : Nat → Nat} {g : Nat → Int32} {F : Nat → Nat → Int32} {F1 : Nat → Nat → Int32} {u : Nat → Int32} (h : va_D A (List.set (mW h0 kB kI kZ q g F) 35 (q 54, .inl (kI, 700, .inl u)))) (e : upF F 54 u = F1) : va_D A (mW h0 kB kI kZ q g F1) := by
  subst e
  exact sD_eq sE_F54 h
theorem sE_F55 {h0 : Nat} {kB kI kZ : ClassId} {q : Nat → Nat} {g : Nat → Int32} {F : Nat → Nat → Int32} {u : Nat → Int32} : List.set (mW h0 kB kI kZ q g F) 36 (q 55, .inl (kI, 100, .inl u)) = mW h0 kB kI kZ q g (upF F 55 u) := rfl
theorem sP_F55 {D : va_G} {cl : List vw_C} {h0 : Nat} {kB kI kZ : ClassId} {q : Nat → Nat} {g : Nat → Int32} {F : Nat → Nat → Int32} {F1 : Nat → Nat → Int32} {u : Nat → Int32} {H : Heap} (h : va_P D cl (List.set (mW h0 kB kI kZ q g F) 36 (q 55, .inl (kI, 100, .inl u))) H) (e : upF F 55 u = F1) : va_P D cl (mW h0 kB kI kZ q g F1) H := by
  subst e
  exact sP_eq sE_F55 h
theorem sD_F55 {A : Nat → Prop} {h0 : Nat} {kB kI kZ : ClassId} {q : Nat → Nat} {g : Nat → Int32} {F : Nat → Nat → Int32} {F1 : Nat → Nat → Int32} {u : Nat → Int32} (h : va_D A (List.set (mW h0 kB kI kZ q g F) 36 (q 55, .inl (kI, 100, .inl u)))) (e : upF F 55 u = F1) : va_D A (mW h0 kB kI kZ q g F1) := by
  subst e
  exact sD_eq sE_F55 h
theorem sE_F57 {h0 : Nat} {kB kI kZ : ClassId} {q : Nat → Nat} {g : Nat → Int32} {F : Nat → Nat → Int32} {u : Nat → Int32} : List.set (mW h0 kB kI kZ q g F) 37 (q 57, .inl (kB, 24, .inl u)) = mW h0 kB kI kZ q g (upF F 57 u) := rfl
theorem sP_F57 {D : va_G} {cl : List vw_C} {h0 : Nat} {kB kI kZ : ClassId} {q : Nat → Nat} {g : Nat → Int32} {F : Nat → Nat → Int32} {F1 : Nat → Nat → Int32} {u : Nat → Int32} {H : Heap} (h : va_P D cl (List.set (mW h0 kB kI kZ q g F) 37 (q 57, .inl (kB, 24, .inl u))) H) (e : upF F 57 u = F1) : va_P D cl (mW h0 kB kI kZ q g F1) H := by
  subst e
  exact sP_eq sE_F57 h
theorem sD_F57 {A : Nat → Prop} {h0 : Nat} {kB kI kZ : ClassId} {q : Nat → Nat} {g : Nat → Int32} {F : Nat → Nat → Int32} {F1 : Nat → Nat → Int32} {u : Nat → Int32} (h : va_D A (List.set (mW h0 kB kI kZ q g F) 37 (q 57, .inl (kB, 24, .inl u)))) (e : upF F 57 u = F1) : va_D A (mW h0 kB kI kZ q g F1) := by
  subst e
  exact sD_eq sE_F57 h
theorem sE_F58 {h0 : Nat} {kB kI kZ : ClassId} {q : Nat → Nat} {g : Nat → Int32} {F : Nat → Nat → Int32} {u : Nat → Int32} : List.set (mW h0 kB kI kZ q g F) 38 (q 58, .inl (kI, 200, .inl u)) = mW h0 kB kI kZ q g (upF F 58 u) := rfl
theorem sP_F58 {D : va_G} {cl : List vw_C} {h0 : Nat} {kB kI kZ : ClassId} {q : Nat → Nat} {g : Nat → Int32} {F : Nat → Nat → Int32} {F1 : Nat → Nat → Int32} {u : Nat → Int32} {H : Heap} (h : va_P D cl (List.set (mW h0 kB kI kZ q g F) 38 (q 58, .inl (kI, 200, .inl u))) H) (e : upF F 58 u = F1) : va_P D cl (mW h0 kB kI kZ q g F1) H := by
  subst e
  exact sP_eq sE_F58 h
theorem sD_F58 {A : Nat → Prop} {h0 : Nat} {kB kI kZ : ClassId} {q : Nat → Nat} {g : Nat → Int32} {F : Nat → Nat → Int32} {F1 : Nat → Nat → Int32} {u : Nat → Int32} (h : va_D A (List.set (mW h0 kB kI kZ q g F) 38 (q 58, .inl (kI, 200, .inl u)))) (e : upF F 58 u = F1) : va_D A (mW h0 kB kI kZ q g F1) := by
  subst e
  exact sD_eq sE_F58 h
theorem sE_F60 {h0 : Nat} {kB kI kZ : ClassId} {q : Nat → Nat} {g : Nat → Int32} {F : Nat → Nat → Int32} {u : Nat → Int32} : List.set (mW h0 kB kI kZ q g F) 39 (q 60, .inl (kB, 2500, .inl u)) = mW h0 kB kI kZ q g (upF F 60 u) := rfl
theorem sP_F60 {D : va_G} {cl : List vw_C} {h0 : Nat} {kB kI kZ : ClassId} {q : Nat → Nat} {g : Nat → Int32} {F : Nat → Nat → Int32} {F1 : Nat → Nat → Int32} {u : Nat → Int32} {H : Heap} (h : va_P D cl (List.set (mW h0 kB kI kZ q g F) 39 (q 60, .inl (kB, 2500, .inl u))) H) (e : upF F 60 u = F1) : va_P D cl (mW h0 kB kI kZ q g F1) H := by
  subst e
  exact sP_eq sE_F60 h
theorem sD_F60 {A : Nat → Prop} {h0 : Nat} {kB kI kZ : ClassId} {q : Nat → Nat} {g : Nat → Int32} {F : Nat → Nat → Int32} {F1 : Nat → Nat → Int32} {u : Nat → Int32} (h : va_D A (List.set (mW h0 kB kI kZ q g F) 39 (q 60, .inl (kB, 2500, .inl u)))) (e : upF F 60 u = F1) : va_D A (mW h0 kB kI kZ q g F1) := by
  subst e
  exact sD_eq sE_F60 h
theorem sE_F61 {h0 : Nat} {kB kI kZ : ClassId} {q : Nat → Nat} {g : Nat → Int32} {F : Nat → Nat → Int32} {u : Nat → Int32} : List.set (mW h0 kB kI kZ q g F) 40 (q 61, .inl (kB, 2500, .inl u)) = mW h0 kB kI kZ q g (upF F 61 u) := rfl
theorem sP_F61 {D : va_G} {cl : List vw_C} {h0 : Nat} {kB kI kZ : ClassId} {q : Nat → Nat} {g : Nat → Int32} {F : Nat → Nat → Int32} {F1 : Nat → Nat → Int32} {u : Nat → Int32} {H : Heap} (h : va_P D cl (List.set (mW h0 kB kI kZ q g F) 40 (q 61, .inl (kB, 2500, .inl u))) H) (e : upF F 61 u = F1) : va_P D cl (mW h0 kB kI kZ q g F1) H := by
  subst e
  exact sP_eq sE_F61 h
theorem sD_F61 {A : Nat → Prop} {h0 : Nat} {kB kI kZ : ClassId} {q : Nat → Nat} {g : Nat → Int32} {F : Nat → Nat → Int32} {F1 : Nat → Nat → Int32} {u : Nat → Int32} (h : va_D A (List.set (mW h0 kB kI kZ q g F) 40 (q 61, .inl (kB, 2500, .inl u)))) (e : upF F 61 u = F1) : va_D A (mW h0 kB kI kZ q g F1) := by
  subst e
  exact sD_eq sE_F61 h
theorem sE_F63 {h0 : Nat} {kB kI kZ : ClassId} {q : Nat → Nat} {g : Nat → Int32} {F : Nat → Nat → Int32} {u : Nat → Int32} : List.set (mW h0 kB kI kZ q g F) 41 (q 63, .inl (kI, 5, .inl u)) = mW h0 kB kI kZ q g (upF F 63 u) := rfl
theorem sP_F63 {D : va_G} {cl : List vw_C} {h0 : Nat} {kB kI kZ : ClassId} {q : Nat → Nat} {g : Nat → Int32} {F : Nat → Nat → Int32} {F1 : Nat → Nat → Int32} {u : Nat → Int32} {H : Heap} (h : va_P D cl (List.set (mW h0 kB kI kZ q g F) 41 (q 63, .inl (kI, 5, .inl u))) H) (e : upF F 63 u = F1) : va_P D cl (mW h0 kB kI kZ q g F1) H := by
  subst e
  exact sP_eq sE_F63 h
theorem sD_F63 {A : Nat → Prop} {h0 : Nat} {kB kI kZ : ClassId} {q : Nat → Nat} {g : Nat → Int32} {F : Nat → Nat → Int32} {F1 : Nat → Nat → Int32} {u : Nat → Int32} (h : va_D A (List.set (mW h0 kB kI kZ q g F) 41 (q 63, .inl (kI, 5, .inl u)))) (e : upF F 63 u = F1) : va_D A (mW h0 kB kI kZ q g F1) := by
  subst e
  exact sD_eq sE_F63 h
theorem sE_F64 {h0 : Nat} {kB kI kZ : ClassId} {q : Nat → Nat} {g : Nat → Int32} {F : Nat → Nat → Int32} {u : Nat → Int32} : List.set (mW h0 kB kI kZ q g F) 42 (q 64, .inl (kI, 5, .inl u)) = mW h0 kB kI kZ q g (upF F 64 u) := rfl
theorem sP_F64 {D : va_G} {cl : List vw_C} {h0 : Nat} {kB kI kZ : ClassId} {q : Nat → Nat} {g : Nat → Int32} {F : Nat → Nat → Int32} {F1 : Nat → Nat → Int32} {u : Nat → Int32} {H : Heap} (h : va_P D cl (List.set (mW h0 kB kI kZ q g F) 42 (q 64, .inl (kI, 5, .inl u))) H) (e : upF F 64 u = F1) : va_P D cl (mW h0 kB kI kZ q g F1) H := by
  subst e
  exact sP_eq sE_F64 h
theorem sD_F64 {A : Nat → Prop} {h0 : Nat} {kB kI kZ : ClassId} {q : Nat → Nat} {g : Nat → Int32} {F : Nat → Nat → Int32} {F1 : Nat → Nat → Int32} {u : Nat → Int32} (h : va_D A (List.set (mW h0 kB kI kZ q g F) 42 (q 64, .inl (kI, 5, .inl u)))) (e : upF F 64 u = F1) : va_D A (mW h0 kB kI kZ q g F1) := by
  subst e
  exact sD_eq sE_F64 h
theorem sE_F67 {h0 : Nat} {kB kI kZ : ClassId} {q : Nat → Nat} {g : Nat → Int32} {F : Nat → Nat → Int32} {u : Nat → Int32} : List.set (mW h0 kB kI kZ q g F) 43 (q 67, .inl (kI, 280, .inl u)) = mW h0 kB kI kZ q g (upF F 67 u) := rfl
theorem sP_F67 {D : va_G} {cl : List vw_C} {h0 : Nat} {kB kI kZ : ClassId} {q : Nat → Nat} {g : Nat → Int32} {F : Nat → Nat → Int32} {F1 : Nat → Nat → Int32} {u : Nat → Int32} {H : Heap} (h : va_P D cl (List.set (mW h0 kB kI kZ q g F) 43 (q 67, .inl (kI, 280, .inl u))) H) (e : upF F 67 u = F1) : va_P D cl (mW h0 kB kI kZ q g F1) H := by
  subst e
  exact sP_eq sE_F67 h
theorem sD_F67 {A : Nat → Prop} {h0 : Nat} {kB kI kZ : ClassId} {q : Nat → Nat} {g : Nat → Int32} {F : Nat → Nat → Int32} {F1 : Nat → Nat → Int32} {u : Nat → Int32} (h : va_D A (List.set (mW h0 kB kI kZ q g F) 43 (q 67, .inl (kI, 280, .inl u)))) (e : upF F 67 u = F1) : va_D A (mW h0 kB kI kZ q g F1) := by
  subst e
  exact sD_eq sE_F67 h
theorem sE_F68 {h0 : Nat} {kB kI kZ : ClassId} {q : Nat → Nat} {g : Nat → Int32} {F : Nat → Nat → Int32} {u : Nat → Int32} : List.set (mW h0 kB kI kZ q g F) 44 (q 68, .inl (kI, 287, .inl u)) = mW h0 kB kI kZ q g (upF F 68 u) := rfl
theorem sP_F68 {D : va_G} {cl : List vw_C} {h0 : Nat} {kB kI kZ : ClassId} {q : Nat → Nat} {g : Nat → Int32} {F : Nat → Nat → Int32} {F1 : Nat → Nat → Int32} {u : Nat → Int32} {H : Heap} (h : va_P D cl (List.set (mW h0 kB kI kZ q g F) 44 (q 68, .inl (kI, 287, .inl u))) H) (e : upF F 68 u = F1) : va_P D cl (mW h0 kB kI kZ q g F1) H := by
  subst e
  exact sP_eq sE_F68 h
theorem sD_F68 {A : Nat → Prop} {h0 : Nat} {kB kI kZ : ClassId} {q : Nat → Nat} {g : Nat → Int32} {F : Nat → Nat → Int32} {F1 : Nat → Nat → Int32} {u : Nat → Int32} (h : va_D A (List.set (mW h0 kB kI kZ q g F) 44 (q 68, .inl (kI, 287, .inl u)))) (e : upF F 68 u = F1) : va_D A (mW h0 kB kI kZ q g F1) := by
  subst e
  exact sD_eq sE_F68 h
theorem sE_F69 {h0 : Nat} {kB kI kZ : ClassId} {q : Nat → Nat} {g : Nat → Int32} {F : Nat → Nat → Int32} {u : Nat → Int32} : List.set (mW h0 kB kI kZ q g F) 45 (q 69, .inl (kI, 40, .inl u)) = mW h0 kB kI kZ q g (upF F 69 u) := rfl
theorem sP_F69 {D : va_G} {cl : List vw_C} {h0 : Nat} {kB kI kZ : ClassId} {q : Nat → Nat} {g : Nat → Int32} {F : Nat → Nat → Int32} {F1 : Nat → Nat → Int32} {u : Nat → Int32} {H : Heap} (h : va_P D cl (List.set (mW h0 kB kI kZ q g F) 45 (q 69, .inl (kI, 40, .inl u))) H) (e : upF F 69 u = F1) : va_P D cl (mW h0 kB kI kZ q g F1) H := by
  subst e
  exact sP_eq sE_F69 h
theorem sD_F69 {A : Nat → Prop} {h0 : Nat} {kB kI kZ : ClassId} {q : Nat → Nat} {g : Nat → Int32} {F : Nat → Nat → Int32} {F1 : Nat → Nat → Int32} {u : Nat → Int32} (h : va_D A (List.set (mW h0 kB kI kZ q g F) 45 (q 69, .inl (kI, 40, .inl u)))) (e : upF F 69 u = F1) : va_D A (mW h0 kB kI kZ q g F1) := by
  subst e
  exact sD_eq sE_F69 h
