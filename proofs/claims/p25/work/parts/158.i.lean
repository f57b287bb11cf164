/-! a reform that the class holds -/
def RFC (G : Nat → Nat → Int32) (P : Nat → Nat → Option Nat) (V : Nat → Nat → Nat → Int32) (O : Nat → Nat → Nat → Option Nat) (ln la : Nat → Nat) (cnt rf : Nat) (dy : Int32) (d : Dr) : Prop := ∃ er br pr kp lr le lb lp se sb sp, PTS P (G 200) ln rf er br pr kp lr le lb lp se sb sp ∧ (entV (G 203 er) (V 0 le) (V 1 se) (V 0 lb) (V 1 sb) (V 10 kp), rwW (G 203 pr) (V 0 lp) (V 1 sp) 16, lwsV (G 102 rf) (O 0 lr) (P 20) (P 21) (P 22) (P 23) (G 24) (G 25) (V 0) ln) = d ∧ LWL (G 102 rf) (O 0 lr) la cnt (la rf + 5) ∧ (G 203 br).toInt = (G 203 er).toInt ∧ (G 107 rf).toInt = ((kct d.1 : Nat) : Int) ∧ G 100 rf = dy
def DRF (G : Nat → Nat → Int32) (P : Nat → Nat → Option Nat) (ln : Nat → Nat) (dr : Nat) : Prop := ∃ er br pr kp lr le lb lp se sb sp, PTS P (G 200) ln dr er br pr kp lr le lb lp se sb sp
def AGR (G G1 : Nat → Nat → Int32) (P P1 : Nat → Nat → Option Nat) (V V1 : Nat → Nat → Nat → Int32) (O O1 : Nat → Nat → Nat → Option Nat) (ln ln1 : Nat → Nat) (z : Nat) : Prop := G1 100 z = G 100 z ∧ G1 102 z = G 102 z ∧ G1 107 z = G 107 z ∧ G1 200 z = G 200 z ∧ G1 203 z = G 203 z ∧ G1 24 z = G 24 z ∧ G1 25 z = G 25 z ∧ P1 101 z = P 101 z ∧ P1 103 z = P 103 z ∧ P1 104 z = P 104 z ∧ P1 105 z = P 105 z ∧ P1 106 z = P 106 z ∧ P1 201 z = P 201 z ∧ P1 202 z = P 202 z ∧ P1 20 z = P 20 z ∧ P1 21 z = P 21 z ∧ P1 22 z = P 22 z ∧ P1 23 z = P 23 z ∧ V1 0 z = V 0 z ∧ V1 1 z = V 1 z ∧ V1 10 z = V 10 z ∧ O1 0 z = O 0 z ∧ ln1 z = ln z
theorem pts_lab {la : Nat → Nat} {cnt : Nat} {P : Nat → Nat → Option Nat} {c200 : Nat → Int32} {ln : Nat → Nat} {rf er br pr kp lr le lb lp se sb sp : Nat} (h : PTS P c200 ln rf er br pr kp lr le lb lp se sb sp) (hB : LB la cnt P) : (er < cnt ∧ la er = la rf + 2) ∧ (br < cnt ∧ la br = la rf + 3) ∧ (pr < cnt ∧ la pr = la rf + 1) ∧ (kp < cnt ∧ la kp = la rf) ∧ (lr < cnt ∧ la lr = la rf) ∧ (le < cnt ∧ la le = la rf + 2) ∧ (lb < cnt ∧ la lb = la rf + 3) ∧ (lp < cnt ∧ la lp = la rf + 1) ∧ (se < cnt ∧ la se = la rf + 2) ∧ (sb < cnt ∧ la sb = la rf + 3) ∧ (sp < cnt ∧ la sp = la rf + 1) := by
  obtain ⟨⟨a1, a2, a3, a4, a5⟩, ⟨b1, b2, b3⟩, ⟨c1, c2, c3⟩, _, _⟩ := h
  obtain ⟨_, x1, y1⟩ := hB.1 104 fl_104 rf er a1
  obtain ⟨_, x2, y2⟩ := hB.1 105 fl_105 rf br a2
  obtain ⟨_, x3, y3⟩ := hB.1 103 fl_103 rf pr a3
  obtain ⟨_, x4, y4⟩ := hB.1 106 fl_106 rf kp a4
  obtain ⟨_, x5, y5⟩ := hB.1 101 fl_101 rf lr a5
  obtain ⟨_, x6, y6⟩ := hB.1 201 fl_201 er le b1
  obtain ⟨_, x7, y7⟩ := hB.1 201 fl_201 br lb b2
  obtain ⟨_, x8, y8⟩ := hB.1 201 fl_201 pr lp b3
  obtain ⟨_, x9, y9⟩ := hB.1 202 fl_202 er se c1
  obtain ⟨_, x10, y10⟩ := hB.1 202 fl_202 br sb c2
  obtain ⟨_, x11, y11⟩ := hB.1 202 fl_202 pr sp c3
  have y1 : la er = la rf + 2 := lk_104.mp y1
  have y2 : la br = la rf + 3 := lk_105.mp y2
  have y3 : la pr = la rf + 1 := lk_103.mp y3
  have y4 : la kp = la rf + 0 := lk_106.mp y4
  have y5 : la lr = la rf + 0 := lk_101.mp y5
  have y6 : la le = la er + 0 := lk_201.mp y6
  have y7 : la lb = la br + 0 := lk_201.mp y7
  have y8 : la lp = la pr + 0 := lk_201.mp y8
  have y9 : la se = la er + 0 := lk_202.mp y9
  have y10 : la sb = la br + 0 := lk_202.mp y10
  have y11 : la sp = la pr + 0 := lk_202.mp y11
  refine ⟨⟨x1, y1⟩, ⟨x2, y2⟩, ⟨x3, y3⟩, ⟨x4, by omega⟩, ⟨x5, by omega⟩, ⟨x6, by omega⟩, ⟨x7, by omega⟩, ⟨x8, by omega⟩, ⟨x9, by omega⟩, ⟨x10, by omega⟩, ⟨x11, by omega⟩⟩
theorem RFC_fr {G G1 : Nat → Nat → Int32} {P P1 : Nat → Nat → Option Nat} {V V1 : Nat → Nat → Nat → Int32} {O O1 : Nat → Nat → Nat → Option Nat} {ln ln1 la la1 : Nat → Nat} {cnt cnt1 rf : Nat} {dy : Int32} {d : Dr} (h : RFC G P V O ln la cnt rf dy d) (hB : LB la cnt P) (hrf : rf < cnt) (hag : ∀ z, z < cnt → la rf ≤ la z → la z ≤ la rf + 5 → la z ≠ la rf + 4 → AGR G G1 P P1 V V1 O O1 ln ln1 z) (hle : cnt ≤ cnt1) (hla : ∀ z, z < cnt → la1 z = la z) : RFC G1 P1 V1 O1 ln1 la1 cnt1 rf dy d := by
  obtain ⟨er, br, pr, kp, lr, le, lb, lp, se, sb, sp, hp, hd, hw, hc, hk, hy⟩ := h
  obtain ⟨⟨q1, r1⟩, ⟨q2, r2⟩, ⟨q3, r3⟩, ⟨q4, r4⟩, ⟨q5, r5⟩, ⟨q6, r6⟩, ⟨q7, r7⟩, ⟨q8, r8⟩, ⟨q9, r9⟩, ⟨q10, r10⟩, ⟨q11, r11⟩⟩ := pts_lab hp hB
  have A0 := hag rf hrf (by omega) (by omega) (by omega)
  have A1 := hag er q1 (by omega) (by omega) (by omega)
  have A2 := hag br q2 (by omega) (by omega) (by omega)
  have A3 := hag pr q3 (by omega) (by omega) (by omega)
  have A4 := hag kp q4 (by omega) (by omega) (by omega)
  have A5 := hag lr q5 (by omega) (by omega) (by omega)
  have A6 := hag le q6 (by omega) (by omega) (by omega)
  have A7 := hag lb q7 (by omega) (by omega) (by omega)
  have A8 := hag lp q8 (by omega) (by omega) (by omega)
  have A9 := hag se q9 (by omega) (by omega) (by omega)
  have A10 := hag sb q10 (by omega) (by omega) (by omega)
  have A11 := hag sp q11 (by omega) (by omega) (by omega)
  have hL5 : la1 rf = la rf := hla rf hrf
  obtain ⟨⟨a1, a2, a3, a4, a5⟩, ⟨b1, b2, b3⟩, ⟨c1, c2, c3⟩, ⟨w1, w2, w3⟩, ⟨l1, l2, l3⟩⟩ := hp
  refine ⟨er, br, pr, kp, lr, le, lb, lp, se, sb, sp, ⟨⟨?_, ?_, ?_, ?_, ?_⟩, ⟨?_, ?_, ?_⟩, ⟨?_, ?_, ?_⟩, ⟨?_, ?_, ?_⟩, ⟨?_, ?_, ?_⟩⟩, ?_, ?_, ?_, ?_, ?_⟩
  · exact (A0.2.2.2.2.2.2.2.2.2.1).trans a1
  · exact (A0.2.2.2.2.2.2.2.2.2.2.1).trans a2
  · exact (A0.2.2.2.2.2.2.2.2.1).trans a3
  · exact (A0.2.2.2.2.2.2.2.2.2.2.2.1).trans a4
  · exact (A0.2.2.2.2.2.2.2.1).trans a5
  · exact (A1.2.2.2.2.2.2.2.2.2.2.2.2.1).trans b1
  · exact (A2.2.2.2.2.2.2.2.2.2.2.2.2.1).trans b2
  · exact (A3.2.2.2.2.2.2.2.2.2.2.2.2.1).trans b3
  · exact (A1.2.2.2.2.2.2.2.2.2.2.2.2.2.1).trans c1
  · exact (A2.2.2.2.2.2.2.2.2.2.2.2.2.2.1).trans c2
  · exact (A3.2.2.2.2.2.2.2.2.2.2.2.2.2.1).trans c3
  · rw [A1.2.2.2.1]; exact w1
  · rw [A2.2.2.2.1]; exact w2
  · rw [A3.2.2.2.1]; exact w3
  · exact (A9.2.2.2.2.2.2.2.2.2.2.2.2.2.2.2.2.2.2.2.2.2.2).trans l1
  · exact (A10.2.2.2.2.2.2.2.2.2.2.2.2.2.2.2.2.2.2.2.2.2.2).trans l2
  · exact (A11.2.2.2.2.2.2.2.2.2.2.2.2.2.2.2.2.2.2.2.2.2.2).trans l3
  · rw [← hd]
    refine Prod.ext ?_ (Prod.ext ?_ ?_)
    · exact ent_congr A1.2.2.2.2.1 A6.2.2.2.2.2.2.2.2.2.2.2.2.2.2.2.2.2.2.1 A9.2.2.2.2.2.2.2.2.2.2.2.2.2.2.2.2.2.2.2.1 A7.2.2.2.2.2.2.2.2.2.2.2.2.2.2.2.2.2.2.1 A10.2.2.2.2.2.2.2.2.2.2.2.2.2.2.2.2.2.2.2.1 A4.2.2.2.2.2.2.2.2.2.2.2.2.2.2.2.2.2.2.2.2.1
    · show rwW (G1 203 pr) (V1 0 lp) (V1 1 sp) 16 = rwW (G 203 pr) (V 0 lp) (V 1 sp) 16
      rw [A3.2.2.2.2.1, A8.2.2.2.2.2.2.2.2.2.2.2.2.2.2.2.2.2.2.1, A11.2.2.2.2.2.2.2.2.2.2.2.2.2.2.2.2.2.2.2.1]
    · refine lws_fr hB hw A0.2.1 (fun i _ => congrFun A5.2.2.2.2.2.2.2.2.2.2.2.2.2.2.2.2.2.2.2.2.2.1 i) (fun z hz hl => ?_)
      have AZ := hag z hz (by omega) (by omega) (by omega)
      exact ⟨AZ.2.2.2.2.2.2.2.2.2.2.2.2.2.2.1, AZ.2.2.2.2.2.2.2.2.2.2.2.2.2.2.2.1, AZ.2.2.2.2.2.2.2.2.2.2.2.2.2.2.2.2.1, AZ.2.2.2.2.2.2.2.2.2.2.2.2.2.2.2.2.2.1, AZ.2.2.2.2.2.1, AZ.2.2.2.2.2.2.1, AZ.2.2.2.2.2.2.2.2.2.2.2.2.2.2.2.2.2.2.1, AZ.2.2.2.2.2.2.2.2.2.2.2.2.2.2.2.2.2.2.2.2.2.2⟩
  · rw [hL5]
    exact LWL_fr hw A0.2.1 (fun i _ => congrFun A5.2.2.2.2.2.2.2.2.2.2.2.2.2.2.2.2.2.2.2.2.2.1 i) hle hla
  · rw [A2.2.2.2.2.1, A1.2.2.2.2.1]
    exact hc
  · rw [A0.2.2.1]
    exact hk
  · rw [A0.1]
    exact hy
theorem ent_0 {c : Int32} {fe se fb sb kp : Nat → Int32} (h : c.toInt = 0) : entV c fe se fb sb kp = [] := by
  unfold entV
  rw [show Int32.toNatClampNeg c = 0 from by show c.toInt.toNat = 0; omega]
  rfl
theorem rw_0 {c : Int32} {fl fs : Nat → Int32} {w : Nat} (h : c.toInt = 0) : rwW c fl fs w = [] := by
  unfold rwW
  rw [show Int32.toNatClampNeg c = 0 from by show c.toInt.toNat = 0; omega]
  rfl
theorem lws_0 {c : Int32} {ol p20 p21 p22 p23 : Nat → Option Nat} {g24 g25 : Nat → Int32} {v0 : Nat → Nat → Int32} {ln : Nat → Nat} (h : c.toInt = 0) : lwsV c ol p20 p21 p22 p23 g24 g25 v0 ln = [] := by
  unfold lwsV
  rw [show Int32.toNatClampNeg c = 0 from by show c.toInt.toNat = 0; omega]
  rfl
theorem LWL_0 {c : Int32} {ol : Nat → Option Nat} {la : Nat → Nat} {cnt L : Nat} (h : c.toInt = 0) : LWL c ol la cnt L := fun i hi => by
  rw [show Int32.toNatClampNeg c = 0 from by show c.toInt.toNat = 0; omega] at hi
  omega