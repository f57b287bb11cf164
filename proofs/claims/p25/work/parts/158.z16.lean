/-! the relation: the book -/
abbrev wsR (g : Nat → Int32) (F : Nat → Nat → Int32) : List Wd := rwW (g 48) (F 49) (F 50) 24
def RBK (g : Nat → Int32) (F : Nat → Nat → Int32) (la : Nat → Nat) (D x : Nat) (G : Nat → Nat → Int32) (P : Nat → Nat → Option Nat) (V : Nat → Nat → Nat → Int32) (O : Nat → Nat → Nat → Option Nat) (ln : Nat → Nat) (cnt : Nat) : Prop := ∃ bk fa fl sp lsp ssp, (P 229 x = some bk ∧ P 1 bk = some fa ∧ P 3 bk = some fl ∧ P 4 bk = some sp ∧ P 201 sp = some lsp ∧ P 202 sp = some ssp) ∧ ((G 200 sp).toInt = ((24 : Nat) : Int) ∧ ln ssp = 12) ∧ BKR G P V la cnt D (O 1 fa) (fun s => Int32.toNatClampNeg (V 3 fl s)) (FMT (RVf F) (wsR g F)) ∧ (∀ s, Int32.toNatClampNeg (g 9) < s → s < 7 → Int32.toNatClampNeg (V 3 fl s) = 0)
def RBM (g : Nat → Int32) (F : Nat → Nat → Int32) : Prop := (g 51).toInt ≠ 0 → MKT (F 54) (F 52) (F 53) (RVf F) (wsR g F) (fun w s => w < Int32.toNatClampNeg (g 48) ∧ s ≤ Int32.toNatClampNeg (g 9))
def RBW (g : Nat → Int32) (F : Nat → Nat → Int32) : Prop := WDS (wsR g F)
def RBO (g : Nat → Int32) (F : Nat → Nat → Int32) (x : Nat) (G : Nat → Nat → Int32) (P : Nat → Nat → Option Nat) (V : Nat → Nat → Nat → Int32) : Prop := ∃ ow L, P 230 x = some ow ∧ NTL (G 231 x).toInt (V 4 ow) L ∧ NTL (g 56).toInt (F 55) L
theorem RBW_keep {g g1 : Nat → Int32} {F F1 : Nat → Nat → Int32} (h : RBW g F) (e1 : g1 48 = g 48) (e2 : F1 49 = F 49) (e3 : F1 50 = F 50) : RBW g1 F1 := by
  unfold RBW wsR
  rw [e1, e2, e3]
  exact h
theorem RBM_keep {g g1 : Nat → Int32} {F F1 : Nat → Nat → Int32} (h : RBM g F) (e51 : g1 51 = g 51) (e9 : g1 9 = g 9) (e48 : g1 48 = g 48) (eF : ∀ j, 10 ≤ j → j ≤ 21 → F1 j = F j) (e49 : F1 49 = F 49) (e50 : F1 50 = F 50) (e52 : F1 52 = F 52) (e53 : F1 53 = F 53) (e54 : F1 54 = F 54) : RBM g1 F1 := by
  intro q
  rw [e51] at q
  have h2 := h q
  intro w s hq
  have e : FMT (RVf F1) (wsR g1 F1) s w = FMT (RVf F) (wsR g F) s w := by
    unfold wsR
    rw [e48, e49, e50]
    exact FMT_ext (fun q _ => RVf_eq eF)
  rw [e, e52, e53, e54]
  exact h2 w s (by rw [e48, e9] at hq; exact hq)
theorem RBM_0 {g1 : Nat → Int32} {F1 : Nat → Nat → Int32} (h : (g1 51).toInt = 0) : RBM g1 F1 := fun q => absurd h q
/-- new forms, made -/
theorem RBM_new {g g1 : Nat → Int32} {F F1 : Nat → Nat → Int32} (h : (g1 51).toInt ≠ 0 → MKT (F1 54) (F1 52) (F1 53) (RVf F) (wsR g F) (fun w s => w < Int32.toNatClampNeg (g 48) ∧ s ≤ Int32.toNatClampNeg (g 9))) (e9 : g1 9 = g 9) (e48 : g1 48 = g 48) (eF : ∀ j, 10 ≤ j → j ≤ 21 → F1 j = F j) (e49 : F1 49 = F 49) (e50 : F1 50 = F 50) : RBM g1 F1 := by
  intro q w s hq
  have e : FMT (RVf F1) (wsR g1 F1) s w = FMT (RVf F) (wsR g F) s w := by
    unfold wsR
    rw [e48, e49, e50]
    exact FMT_ext (fun q _ => RVf_eq eF)
  rw [e]
  exact h q w s (by rw [e48, e9] at hq; exact hq)
theorem rb_learn {g g1 : Nat → Int32} {F F1 : Nat → Nat → Int32} (hw : RBW g F) (hm : RBM g F) (hq : (wsR g1 F1 = wsR g F ∧ g1 51 = g 51 ∧ g1 48 = g 48) ∨ (∃ x, wsR g1 F1 = wsR g F ++ [x] ∧ (1 ≤ x.length ∧ x.length ≤ 24 ∧ BW x) ∧ (g1 51).toInt = 0)) (e9 : g1 9 = g 9) (eF : ∀ j, 10 ≤ j → j ≤ 21 → F1 j = F j) (e52 : F1 52 = F 52) (e53 : F1 53 = F 53) (e54 : F1 54 = F 54) : RBW g1 F1 ∧ RBM g1 F1 ∧ ∀ w, w < Int32.toNatClampNeg (g 48) → (wsR g1 F1)[w]? = (wsR g F)[w]? := by
  rcases hq with ⟨h1, h2, h3⟩ | ⟨x, h1, h2, h3⟩
  · refine ⟨?_, ?_, fun w _ => by rw [h1]⟩
    · unfold RBW
      rw [h1]
      exact hw
    · intro q
      rw [h2] at q
      intro w s hq
      have e : FMT (RVf F1) (wsR g1 F1) s w = FMT (RVf F) (wsR g F) s w := by
        rw [h1]
        exact FMT_ext (fun q _ => RVf_eq eF)
      rw [e, e52, e53, e54]
      exact hm q w s (by rw [h3, e9] at hq; exact hq)
  · refine ⟨?_, RBM_0 h3, fun w hw2 => ?_⟩
    · unfold RBW
      rw [h1]
      intro y hy
      rcases List.mem_append.mp hy with hy | hy
      · exact hw y hy
      · rw [List.mem_singleton] at hy
        rw [hy]
        exact h2
    · rw [h1, List.getElem?_append_left (by unfold wsR; rw [rw_len]; exact hw2)]
theorem RBK_keep {g g1 : Nat → Int32} {F F1 : Nat → Nat → Int32} {la la1 : Nat → Nat} {D D1 x : Nat} {G G1 : Nat → Nat → Int32} {P P1 : Nat → Nat → Option Nat} {V V1 : Nat → Nat → Nat → Int32} {O O1 : Nat → Nat → Nat → Option Nat} {ln ln1 : Nat → Nat} {cnt cnt1 : Nat} (h : RBK g F la D x G P V O ln cnt) (hB : LB la cnt P) (hq : ∀ q, q < Int32.toNatClampNeg (g 9) → RVf F1 q = RVf F q) (h9 : Int32.toNatClampNeg (g 9) ≤ Int32.toNatClampNeg (g1 9)) (hW : ∀ w, w < Int32.toNatClampNeg (g 48) → (wsR g1 F1)[w]? = (wsR g F)[w]?) (hfl : ∀ fl s, Int32.toNatClampNeg (V 3 fl s) ≤ Int32.toNatClampNeg (g 48)) (p9 : P1 229 x = P 229 x) (hc : ∀ z, z < cnt → P1 1 z = P 1 z ∧ P1 3 z = P 3 z ∧ P1 4 z = P 4 z ∧ P1 201 z = P 201 z ∧ P1 202 z = P 202 z ∧ G1 200 z = G 200 z ∧ ln1 z = ln z) (hb : ∀ z, z < cnt → la z = 70 → V1 3 z = V 3 z ∧ O1 1 z = O 1 z) (hv : ∀ z, z < cnt → (∃ k, la z = 100000 + 10 * k) → la z ≠ D → G1 203 z = G 203 z ∧ V1 0 z = V 0 z ∧ V1 1 z = V 1 z) (hle : cnt ≤ cnt1) (hla : ∀ z, z < cnt → la1 z = la z) (hD : ∀ z, z < cnt → la z ≠ D → la z ≠ D1) : RBK g1 F1 la1 D1 x G1 P1 V1 O1 ln1 cnt1 := by
  obtain ⟨bk, fa, fl, sp, lsp, ssp, ⟨h1, h2, h3, h4, h5, h6⟩, ⟨h7, h8⟩, hr, h0⟩ := h
  have c1 := (hB.1 229 fl_229 x bk h1).2.1
  have l1 : la bk = 70 := lk_229.mp (hB.1 229 fl_229 x bk h1).2.2
  have c2 := (hB.1 1 fl_1 bk fa h2).2.1
  have l2 : la fa = la bk + 0 := lk_1.mp (hB.1 1 fl_1 bk fa h2).2.2
  have c3 := (hB.1 3 fl_3 bk fl h3).2.1
  have l3 : la fl = la bk + 0 := lk_3.mp (hB.1 3 fl_3 bk fl h3).2.2
  obtain ⟨_, c4, _⟩ := hB.1 4 fl_4 bk sp h4
  obtain ⟨_, c6, _⟩ := hB.1 202 fl_202 sp ssp h6
  obtain ⟨a1, a2, a3, _⟩ := hc bk c1
  obtain ⟨_, _, _, b1, b2, b3, _⟩ := hc sp c4
  have b4 := (hc ssp c6).2.2.2.2.2.2
  have ev : V1 3 fl = V 3 fl := (hb fl c3 (by omega)).1
  have eo : O1 1 fa = O 1 fa := (hb fa c2 (by omega)).2
  refine ⟨bk, fa, fl, sp, lsp, ssp, ⟨p9.trans h1, a1.trans h2, a2.trans h3, a3.trans h4, b1.trans h5, b2.trans h6⟩, ⟨by rw [b3]; exact h7, b4.trans h8⟩, ?_, ?_⟩
  · intro s w hs hw
    have hw : w < Int32.toNatClampNeg (V1 3 fl s) := hw
    rw [ev] at hw
    have hs9 : s ≤ Int32.toNatClampNeg (g 9) := by
      by_cases q : s ≤ Int32.toNatClampNeg (g 9)
      · exact q
      · have := h0 s (by omega) hs
        omega
    have hr2 := hr s w hs hw
    have e : FMT (RVf F1) (wsR g1 F1) s w = FMT (RVf F) (wsR g F) s w := by
      have e1 : FMT (RVf F1) (wsR g1 F1) s w = FMT (RVf F1) (wsR g F) s w := by
        unfold FMT
        rw [hW w (by have := hfl fl s; omega)]
      rw [e1]
      exact FMT_ext (fun q hq2 => hq q (by omega))
    rw [e]
    exact ROWF_fr hr2 hB (congrFun eo _) (fun z hz => ⟨(hc z hz).2.2.2.1, (hc z hz).2.2.2.2.1, (hc z hz).2.2.2.2.2.1⟩) hv hle hla hD
  · intro s q hs
    rw [ev]
    exact h0 s (by omega) hs
theorem RBK_fill {g g1 : Nat → Int32} {F F1 : Nat → Nat → Int32} {la la1 : Nat → Nat} {D x bk fa fl sp lsp ssp : Nat} {G G1 : Nat → Nat → Int32} {P P1 : Nat → Nat → Option Nat} {V V1 : Nat → Nat → Nat → Int32} {O1 : Nat → Nat → Nat → Option Nat} {ln ln1 : Nat → Nat} {cnt cnt1 : Nat} {c : Int32} (hB : LB la cnt P) (h1 : P 229 x = some bk) (h2 : P 1 bk = some fa) (h3 : P 3 bk = some fl) (h4 : P 4 bk = some sp) (h5 : P 201 sp = some lsp) (h6 : P 202 sp = some ssp) (h7 : (G 200 sp).toInt = ((24 : Nat) : Int)) (h8 : ln ssp = 12) (h0 : ∀ s, Int32.toNatClampNeg (g 9) < s → s < 7 → Int32.toNatClampNeg (V 3 fl s) = 0) (hr : BKR G1 P1 V1 la1 cnt1 D (O1 1 fa) (fun s => Int32.toNatClampNeg (V1 3 fl s)) (FMT (RVf F) (wsR g F))) (hv : ∀ s : Nat, s < 7 → c.toInt < (s : Int) → V1 3 fl s = V 3 fl s) (hcg : c = g 9) (e9 : g1 9 = g 9) (hb9 : 0 ≤ (g 9).toInt) (eF : ∀ j, 10 ≤ j → j ≤ 21 → F1 j = F j) (ew : wsR g1 F1 = wsR g F) (p9 : P1 229 x = P 229 x) (hc : ∀ z, z < cnt → P1 1 z = P 1 z ∧ P1 3 z = P 3 z ∧ P1 4 z = P 4 z ∧ P1 201 z = P 201 z ∧ P1 202 z = P 202 z ∧ G1 200 z = G 200 z ∧ ln1 z = ln z) : RBK g1 F1 la1 D x G1 P1 V1 O1 ln1 cnt1 := by
  obtain ⟨_, c1, _⟩ := hB.1 229 fl_229 x bk h1
  obtain ⟨_, c4, _⟩ := hB.1 4 fl_4 bk sp h4
  obtain ⟨_, c6, _⟩ := hB.1 202 fl_202 sp ssp h6
  obtain ⟨a1, a2, a3, _⟩ := hc bk c1
  obtain ⟨_, _, _, b1, b2, b3, _⟩ := hc sp c4
  have b4 := (hc ssp c6).2.2.2.2.2.2
  have cg := clampI hb9
  refine ⟨bk, fa, fl, sp, lsp, ssp, ⟨p9.trans h1, a1.trans h2, a2.trans h3, a3.trans h4, b1.trans h5, b2.trans h6⟩, ⟨by rw [b3]; exact h7, b4.trans h8⟩, ?_, ?_⟩
  · intro s w hs hw
    have e : FMT (RVf F1) (wsR g1 F1) s w = FMT (RVf F) (wsR g F) s w := by
      rw [ew]
      exact FMT_ext (fun q _ => RVf_eq eF)
    rw [e]
    exact hr s w hs hw
  · intro s q hs
    rw [e9] at q
    rw [hv s hs (by rw [hcg]; omega)]
    exact h0 s q hs
theorem RBO_keep {g g1 : Nat → Int32} {F F1 : Nat → Nat → Int32} {la : Nat → Nat} {cnt x : Nat} {G G1 : Nat → Nat → Int32} {P P1 : Nat → Nat → Option Nat} {V V1 : Nat → Nat → Nat → Int32} (h : RBO g F x G P V) (hB : LB la cnt P) (p0 : P1 230 x = P 230 x) (e1 : G1 231 x = G 231 x) (hv : ∀ z, z < cnt → P 230 x = some z → V1 4 z = V 4 z) (e56 : g1 56 = g 56) (e55 : F1 55 = F 55) : RBO g1 F1 x G1 P1 V1 := by
  obtain ⟨ow, L, h1, h2, h3⟩ := h
  obtain ⟨_, c1, _⟩ := hB.1 230 fl_230 x ow h1
  exact ⟨ow, L, p0.trans h1, by rw [e1, hv ow c1 h1]; exact h2, by rw [e56, e55]; exact h3⟩
theorem RBO_back {g g1 : Nat → Int32} {F F1 : Nat → Nat → Int32} {x ow : Nat} {G G1 : Nat → Nat → Int32} {P P1 : Nat → Nat → Option Nat} {V V1 : Nat → Nat → Nat → Int32} {L L1 : List Nat} {I : Prop} {r1 r2 : Int32} (h1 : P 230 x = some ow) (h2 : NTL (G 231 x).toInt (V 4 ow) L) (h3 : NTL (g 56).toInt (F 55) L) (p0 : P1 230 x = P 230 x) (k0 : ¬ I → r1.toInt = -2 ∧ G1 231 x = G 231 x ∧ V1 4 ow = V 4 ow) (k1 : I → r1.toInt = (G1 231 x).toInt ∧ NTL (G1 231 x).toInt (V1 4 ow) L1) (n0 : ¬ I → r2.toInt = -2 ∧ g1 56 = g 56 ∧ F1 55 = F 55) (n1 : I → r2.toInt = (g1 56).toInt ∧ NTL (g1 56).toInt (F1 55) L1) : r1 = r2 ∧ RBO g1 F1 x G1 P1 V1 := by
  by_cases hi : I
  · obtain ⟨a1, a2⟩ := k1 hi
    obtain ⟨b1, b2⟩ := n1 hi
    have c1 := a2.1
    have c2 := b2.1
    exact ⟨z_e (by omega), ow, L1, p0.trans h1, a2, b2⟩
  · obtain ⟨a1, a2, a3⟩ := k0 hi
    obtain ⟨b1, b2, b3⟩ := n0 hi
    exact ⟨z_e (by omega), ow, L, p0.trans h1, by rw [a2, a3]; exact h2, by rw [b2, b3]; exact h3⟩
theorem rb_le {g g1 : Nat → Int32} {F1 : Nat → Nat → Int32} {dy r2 : Int32} {ld : Int} {res : Er × Dr} (hb9 : 0 ≤ (g 9).toInt ∧ (g 9).toInt ≤ 6) (m0 : dy.toInt ≤ ld ∨ 100000 < dy.toInt → r2.toInt = -2 ∧ (g1 9).toInt = (g 9).toInt ∧ (g1 7).toInt = (g 7).toInt ∧ (g1 8).toInt = (g 8).toInt) (m1 : ld < dy.toInt ∧ dy.toInt ≤ 100000 → ∀ z, res.1 = some z → r2.toInt = -1 ∧ (g1 9).toInt = (g 9).toInt ∧ ERR (some z) (g1 7) (g1 8)) (m2 : ld < dy.toInt ∧ dy.toInt ≤ 100000 → res.1 = none → (g 9).toInt = 6 → r2.toInt = -3 ∧ (g1 9).toInt = (g 9).toInt ∧ (g1 7).toInt = 0 ∧ (g1 8).toInt = -1) (m3 : ld < dy.toInt ∧ dy.toInt ≤ 100000 → res.1 = none → (g 9).toInt < 6 → r2.toInt = (g 9).toInt ∧ (g1 9).toInt = (g 9).toInt + 1 ∧ (g1 7).toInt = 0 ∧ (g1 8).toInt = -1 ∧ F1 10 (Int32.toNatClampNeg (g 9)) = dy ∧ RVf F1 (Int32.toNatClampNeg (g 9)) = res.2) : Int32.toNatClampNeg (g 9) ≤ Int32.toNatClampNeg (g1 9) := by
  have cg := clampI hb9.1
  have same : g1 9 = g 9 → Int32.toNatClampNeg (g 9) ≤ Int32.toNatClampNeg (g1 9) := fun e => by rw [e]; exact Nat.le_refl _
  by_cases hq : dy.toInt ≤ ld ∨ 100000 < dy.toInt
  · exact same (z_e (m0 hq).2.1)
  · have hq : ld < dy.toInt ∧ dy.toInt ≤ 100000 := by omega
    by_cases hm : res.1 = none
    · by_cases h6 : (g 9).toInt = 6
      · exact same (z_e (m2 hq hm h6).2.1)
      · have y2 := (m3 hq hm (by omega)).2.1
        have cg1 := clampI (x := g1 9) (by omega)
        omega
    · obtain ⟨z, hz⟩ := Option.ne_none_iff_exists'.mp hm
      exact same (z_e (m1 hq z hz).2.1)
theorem rbm_reform {g g1 : Nat → Int32} {F F1 : Nat → Nat → Int32} {dy r2 : Int32} {ld : Int} {res : Er × Dr} (h : RBM g F) (hb9 : 0 ≤ (g 9).toInt ∧ (g 9).toInt ≤ 6) (m0 : dy.toInt ≤ ld ∨ 100000 < dy.toInt → r2.toInt = -2 ∧ (g1 9).toInt = (g 9).toInt ∧ (g1 7).toInt = (g 7).toInt ∧ (g1 8).toInt = (g 8).toInt) (m1 : ld < dy.toInt ∧ dy.toInt ≤ 100000 → ∀ z, res.1 = some z → r2.toInt = -1 ∧ (g1 9).toInt = (g 9).toInt ∧ ERR (some z) (g1 7) (g1 8)) (m2 : ld < dy.toInt ∧ dy.toInt ≤ 100000 → res.1 = none → (g 9).toInt = 6 → r2.toInt = -3 ∧ (g1 9).toInt = (g 9).toInt ∧ (g1 7).toInt = 0 ∧ (g1 8).toInt = -1) (m3 : ld < dy.toInt ∧ dy.toInt ≤ 100000 → res.1 = none → (g 9).toInt < 6 → r2.toInt = (g 9).toInt ∧ (g1 9).toInt = (g 9).toInt + 1 ∧ (g1 7).toInt = 0 ∧ (g1 8).toInt = -1 ∧ F1 10 (Int32.toNatClampNeg (g 9)) = dy ∧ RVf F1 (Int32.toNatClampNeg (g 9)) = res.2) (m4 : ∀ q, q < Int32.toNatClampNeg (g 9) → F1 10 q = F 10 q ∧ RVf F1 q = RVf F q) (m5 : ((g1 9).toInt = (g 9).toInt → g1 51 = g 51) ∧ ((g1 9).toInt = (g 9).toInt + 1 → (g1 51).toInt = 0)) (e48 : g1 48 = g 48) (e49 : F1 49 = F 49) (e50 : F1 50 = F 50) (e52 : F1 52 = F 52) (e53 : F1 53 = F 53) (e54 : F1 54 = F 54) : RBM g1 F1 := by
  have cg := clampI hb9.1
  have same : (g1 9).toInt = (g 9).toInt → RBM g1 F1 := by
    intro e0 q
    have e9 : g1 9 = g 9 := z_e e0
    rw [m5.1 e0] at q
    intro w s hq
    have hs : s ≤ Int32.toNatClampNeg (g 9) := by
      have := hq.2
      rw [e9] at this
      exact this
    have e : FMT (RVf F1) (wsR g1 F1) s w = FMT (RVf F) (wsR g F) s w := by
      unfold wsR
      rw [e48, e49, e50]
      exact FMT_ext (fun q hq => (m4 q (by omega)).2)
    rw [e, e52, e53, e54]
    exact h q w s (by rw [e48, e9] at hq; exact hq)
  by_cases hq : dy.toInt ≤ ld ∨ 100000 < dy.toInt
  · exact same (m0 hq).2.1
  · have hq : ld < dy.toInt ∧ dy.toInt ≤ 100000 := by omega
    by_cases hm : res.1 = none
    · by_cases h6 : (g 9).toInt = 6
      · exact same (m2 hq hm h6).2.1
      · exact RBM_0 (m5.2 (m3 hq hm (by omega)).2.1)
    · obtain ⟨z, hz⟩ := Option.ne_none_iff_exists'.mp hm
      exact same (m1 hq z hz).2.1
/-- the new draft's label is another -/
theorem rb_ne {la la1 : Nat → Nat} {cnt cnt1 x z D D1 dr : Nat} {P P1 : Nat → Nat → Option Nat} {G1 : Nat → Nat → Int32} {ln1 : Nat → Nat} (k4 : ∃ dr1, P1 224 x = some dr1 ∧ DRF G1 P1 ln1 dr1 ∧ dr1 < cnt1 ∧ ((la1 dr1 = la dr ∧ dr1 = dr) ∨ (la1 dr1 = 100000 + 10 * dr1 ∧ cnt ≤ dr1))) (hB : LB la cnt P) (hz : z < cnt) (b1 : la dr = D) (h : la z ≠ D) (hd : ∀ b, P1 224 x = some b → b < cnt1 ∧ la1 b = D1) : la z ≠ D1 := by
  obtain ⟨dr1, u1, _, _, u4⟩ := k4
  have e := (hd dr1 u1).2
  have hb := hB.2 z hz
  rcases u4 with ⟨u5, _⟩ | ⟨u5, u6⟩
  · omega
  · omega