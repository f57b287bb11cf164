/-! the relation: turning -/
def RTA (x : Nat) (G : Nat → Nat → Int32) (P : Nat → Nat → Option Nat) (ln : Nat → Nat) : Prop := ∃ dr, P 224 x = some dr ∧ DRT G P ln dr
theorem RTA_keep {la : Nat → Nat} {cnt x : Nat} {G G1 : Nat → Nat → Int32} {P P1 : Nat → Nat → Option Nat} {ln ln1 : Nat → Nat} (h : RTA x G P ln) (hB : LB la cnt P) (p4 : P1 224 x = P 224 x) (hc : ∀ z, z < cnt → P1 108 z = P 108 z ∧ P1 109 z = P 109 z ∧ P1 201 z = P 201 z ∧ P1 202 z = P 202 z ∧ G1 200 z = G 200 z ∧ ln1 z = ln z) : RTA x G1 P1 ln1 := by
  obtain ⟨dr, h0, tr, ph, tl, ts, ⟨h1, h2, h3, h4⟩, h5, h6⟩ := h
  obtain ⟨_, c0, _⟩ := hB.1 224 fl_224 x dr h0
  obtain ⟨_, c1, _⟩ := hB.1 108 fl_108 dr tr h1
  obtain ⟨_, c4, _⟩ := hB.1 202 fl_202 tr ts h4
  obtain ⟨a1, a2, _, _, _, _⟩ := hc dr c0
  obtain ⟨_, _, a3, a4, a5, _⟩ := hc tr c1
  obtain ⟨_, _, _, _, _, a6⟩ := hc ts c4
  exact ⟨dr, p4.trans h0, tr, ph, tl, ts, ⟨a1.trans h1, a2.trans h2, a3.trans h3, a4.trans h4⟩, by rw [a5]; exact h5, a6.trans h6⟩
def RTB (g : Nat → Int32) (F : Nat → Nat → Int32) (x : Nat) (G : Nat → Nat → Int32) (P : Nat → Nat → Option Nat) (V : Nat → Nat → Nat → Int32) (O : Nat → Nat → Nat → Option Nat) : Prop := ∀ q, q < Int32.toNatClampNeg (g 9) → ∃ ra rf, P 221 x = some ra ∧ O 2 ra q = some rf ∧ TPC G P V rf (RVf F q)
theorem RTB_one {g : Nat → Int32} {F F1 : Nat → Nat → Int32} {la : Nat → Nat} {D x : Nat} {G G1 : Nat → Nat → Int32} {P P1 : Nat → Nat → Option Nat} {V V1 : Nat → Nat → Nat → Int32} {O O1 : Nat → Nat → Nat → Option Nat} {ln : Nat → Nat} {cnt q : Nat} (h : RTB g F x G P V O) (hR : RLR g F la D x G P V O ln cnt) (hB : LB la cnt P) (hq : q < Int32.toNatClampNeg (g 9)) (e : RVf F1 q = RVf F q) (hO : ∀ ra, P 221 x = some ra → O1 2 ra q = O 2 ra q) (p1 : P1 221 x = P 221 x) (hc : ∀ z, z < cnt → P1 108 z = P 108 z ∧ P1 109 z = P 109 z ∧ P1 201 z = P 201 z ∧ P1 202 z = P 202 z ∧ G1 200 z = G 200 z) (hv : ∀ z, z < cnt → 100000 ≤ la z → (la z < D ∨ D + 5 < la z) → G1 203 z = G 203 z ∧ V1 0 z = V 0 z ∧ V1 1 z = V 1 z ∧ V1 11 z = V 11 z) : ∃ ra rf, P1 221 x = some ra ∧ O1 2 ra q = some rf ∧ TPC G1 P1 V1 rf (RVf F1 q) := by
  obtain ⟨ra, rf, h1, h2, tr, ph, tl, ts, ⟨t1, t2, t3, t4⟩, t5, t6⟩ := h q hq
  obtain ⟨rd, dr, ra2, ⟨a1, a2, a3⟩, ⟨b1, b2, kD, b3⟩, _, _, _, d3⟩ := hR
  obtain ⟨rf2, k, z1, z2, z3, z4, _⟩ := d3 q hq
  have era : ra2 = ra := Option.some.inj (a3.symm.trans h1)
  rw [era, h2] at z1
  have erf : rf = rf2 := Option.some.inj z1
  rw [← erf] at z2 z3 z4
  have c1 := (hB.1 108 fl_108 rf tr t1).2.1
  have l1 : la tr = la rf + 4 := lk_108.mp (hB.1 108 fl_108 rf tr t1).2.2
  have c2 := (hB.1 109 fl_109 rf ph t2).2.1
  have l2 : la ph = la rf + 0 := lk_109.mp (hB.1 109 fl_109 rf ph t2).2.2
  have c3 := (hB.1 201 fl_201 tr tl t3).2.1
  have l3 : la tl = la tr + 0 := lk_201.mp (hB.1 201 fl_201 tr tl t3).2.2
  have c4 := (hB.1 202 fl_202 tr ts t4).2.1
  have l4 : la ts = la tr + 0 := lk_202.mp (hB.1 202 fl_202 tr ts t4).2.2
  obtain ⟨x1, x2, _, _, _⟩ := hc rf z2
  obtain ⟨_, _, x3, x4, x5⟩ := hc tr c1
  have y1 := (hv tr c1 (by omega) (by omega)).1
  have y2 := (hv tl c3 (by omega) (by omega)).2.1
  have y3 := (hv ts c4 (by omega) (by omega)).2.2.1
  have y4 := (hv ph c2 (by omega) (by omega)).2.2.2
  refine ⟨ra, rf, p1.trans h1, (hO ra h1).trans h2, tr, ph, tl, ts, ⟨x1.trans t1, x2.trans t2, x3.trans t3, x4.trans t4⟩, by rw [x5]; exact t5, ?_⟩
  rw [y1, y2, y3, y4, e]
  exact t6
theorem rtb_reform {g g1 : Nat → Int32} {F1 : Nat → Nat → Int32} {x ra dr : Nat} {G1 : Nat → Nat → Int32} {P1 : Nat → Nat → Option Nat} {V1 : Nat → Nat → Nat → Int32} {O1 : Nat → Nat → Nat → Option Nat} {dy r2 : Int32} {ld : Int} {res : Er × Dr} (hb9 : 0 ≤ (g 9).toInt ∧ (g 9).toInt ≤ 6) (m0 : dy.toInt ≤ ld ∨ 100000 < dy.toInt → r2.toInt = -2 ∧ (g1 9).toInt = (g 9).toInt ∧ (g1 7).toInt = (g 7).toInt ∧ (g1 8).toInt = (g 8).toInt) (m1 : ld < dy.toInt ∧ dy.toInt ≤ 100000 → ∀ z, res.1 = some z → r2.toInt = -1 ∧ (g1 9).toInt = (g 9).toInt ∧ ERR (some z) (g1 7) (g1 8)) (m2 : ld < dy.toInt ∧ dy.toInt ≤ 100000 → res.1 = none → (g 9).toInt = 6 → r2.toInt = -3 ∧ (g1 9).toInt = (g 9).toInt ∧ (g1 7).toInt = 0 ∧ (g1 8).toInt = -1) (m3 : ld < dy.toInt ∧ dy.toInt ≤ 100000 → res.1 = none → (g 9).toInt < 6 → r2.toInt = (g 9).toInt ∧ (g1 9).toInt = (g 9).toInt + 1 ∧ (g1 7).toInt = 0 ∧ (g1 8).toInt = -1 ∧ F1 10 (Int32.toNatClampNeg (g 9)) = dy ∧ RVf F1 (Int32.toNatClampNeg (g 9)) = res.2) (p1 : P1 221 x = some ra) (hn : ld < dy.toInt ∧ dy.toInt ≤ 100000 → res.1 = none → (g 9).toInt < 6 → O1 2 ra (Int32.toNatClampNeg (g 9)) = some dr ∧ TPC G1 P1 V1 dr res.2) (hold : ∀ q, q < Int32.toNatClampNeg (g 9) → ∃ ra rf, P1 221 x = some ra ∧ O1 2 ra q = some rf ∧ TPC G1 P1 V1 rf (RVf F1 q)) : RTB g1 F1 x G1 P1 V1 O1 := by
  have cg := clampI hb9.1
  have same : g1 9 = g 9 → RTB g1 F1 x G1 P1 V1 O1 := fun e q hq => hold q (by rw [e] at hq; exact hq)
  by_cases hq : dy.toInt ≤ ld ∨ 100000 < dy.toInt
  · exact same (z_e (m0 hq).2.1)
  · have hq : ld < dy.toInt ∧ dy.toInt ≤ 100000 := by omega
    by_cases hm : res.1 = none
    · by_cases h6 : (g 9).toInt = 6
      · exact same (z_e (m2 hq hm h6).2.1)
      · obtain ⟨y1, y2, y3, y4, y5, y6⟩ := m3 hq hm (by omega)
        have cg1 := clampI (x := g1 9) (by omega)
        intro q hq2
        by_cases q9 : q = Int32.toNatClampNeg (g 9)
        · obtain ⟨z1, z2⟩ := hn hq hm (by omega)
          rw [q9, y6]
          exact ⟨ra, dr, p1, z1, z2⟩
        · exact hold q (by omega)
    · obtain ⟨z, hz⟩ := Option.ne_none_iff_exists'.mp hm
      exact same (z_e (m1 hq z hz).2.1)
def RTC (la : Nat → Nat) (x : Nat) (G : Nat → Nat → Int32) (P : Nat → Nat → Option Nat) (ln : Nat → Nat) : Prop := ∃ tn nw nx wh pg fi pa pk sz cl ah bh lah sah lbh sbh, (P 226 x = some tn ∧ SWT (P 181) (P 182) (P 186) (P 187) tn nw nx ah bh ∧ nw ≠ nx) ∧ (P 185 tn = some wh ∧ P 180 tn = some pg ∧ P 63 pg = some fi ∧ P 65 pg = some pa ∧ P 62 pg = some pk ∧ P 61 pg = some sz ∧ P 64 pg = some cl) ∧ (P 201 ah = some lah ∧ P 202 ah = some sah ∧ P 201 bh = some lbh ∧ P 202 bh = some sbh) ∧ ((G 200 ah).toInt = ((24 : Nat) : Int) ∧ (G 200 bh).toInt = ((24 : Nat) : Int) ∧ ln sah = 12 ∧ ln sbh = 12) ∧ ((la ah = 94 ∧ la bh = 95) ∨ (la ah = 95 ∧ la bh = 94))
theorem RTC_keep {la la1 : Nat → Nat} {cnt x : Nat} {G G1 : Nat → Nat → Int32} {P P1 : Nat → Nat → Option Nat} {ln ln1 : Nat → Nat} (h : RTC la x G P ln) (hB : LB la cnt P) (p6 : P1 226 x = P 226 x) (hsw : ∀ tn nw nx ah bh, P 226 x = some tn → tn < cnt → SWT (P 181) (P 182) (P 186) (P 187) tn nw nx ah bh → SWT (P1 181) (P1 182) (P1 186) (P1 187) tn nw nx ah bh) (hc : ∀ z, z < cnt → P1 185 z = P 185 z ∧ P1 180 z = P 180 z ∧ P1 63 z = P 63 z ∧ P1 65 z = P 65 z ∧ P1 62 z = P 62 z ∧ P1 61 z = P 61 z ∧ P1 64 z = P 64 z ∧ P1 201 z = P 201 z ∧ P1 202 z = P 202 z ∧ G1 200 z = G 200 z ∧ ln1 z = ln z) (hla : ∀ z, z < cnt → la1 z = la z) : RTC la1 x G1 P1 ln1 := by
  obtain ⟨tn, nw, nx, wh, pg, fi, pa, pk, sz, cl, ah, bh, lah, sah, lbh, sbh, ⟨h1, h2, h3⟩, ⟨i1, i2, i3, i4, i5, i6, i7⟩, ⟨j1, j2, j3, j4⟩, ⟨k1, k2, k3, k4⟩, h5⟩ := h
  obtain ⟨_, c1, _⟩ := hB.1 226 fl_226 x tn h1
  obtain ⟨_, c2, _⟩ := hB.1 180 fl_180 tn pg i2
  obtain ⟨d1, d2, _⟩ := hB.1 202 fl_202 ah sah j2
  obtain ⟨d3, d4, _⟩ := hB.1 202 fl_202 bh sbh j4
  obtain ⟨a1, a2, _⟩ := hc tn c1
  obtain ⟨_, _, a3, a4, a5, a6, a7, _⟩ := hc pg c2
  obtain ⟨_, _, _, _, _, _, _, b1, b2, b3, _⟩ := hc ah d1
  obtain ⟨_, _, _, _, _, _, _, b4, b5, b6, _⟩ := hc bh d3
  have e1 := (hc sah d2).2.2.2.2.2.2.2.2.2.2
  have e2 := (hc sbh d4).2.2.2.2.2.2.2.2.2.2
  exact ⟨tn, nw, nx, wh, pg, fi, pa, pk, sz, cl, ah, bh, lah, sah, lbh, sbh, ⟨p6.trans h1, hsw tn nw nx ah bh h1 c1 h2, h3⟩, ⟨a1.trans i1, a2.trans i2, a3.trans i3, a4.trans i4, a5.trans i5, a6.trans i6, a7.trans i7⟩, ⟨b1.trans j1, b2.trans j2, b4.trans j3, b5.trans j4⟩, ⟨by rw [b3]; exact k1, by rw [b6]; exact k2, e1.trans k3, e2.trans k4⟩, by rw [hla ah d1, hla bh d3]; exact h5⟩
/-- in the order of the fields -/
theorem RTC_ord {la : Nat → Nat} {x : Nat} {G : Nat → Nat → Int32} {P : Nat → Nat → Option Nat} {ln : Nat → Nat} (h : RTC la x G P ln) : ∃ tn nw nx wh pg fi pa pk sz cl ah bh lah sah lbh sbh, (P 226 x = some tn ∧ P 181 tn = some nw ∧ P 182 tn = some nx ∧ nw ≠ nx) ∧ (P 185 tn = some wh ∧ P 180 tn = some pg ∧ P 63 pg = some fi ∧ P 65 pg = some pa ∧ P 62 pg = some pk ∧ P 61 pg = some sz ∧ P 64 pg = some cl) ∧ (P 186 tn = some ah ∧ P 187 tn = some bh) ∧ (P 201 ah = some lah ∧ P 202 ah = some sah ∧ P 201 bh = some lbh ∧ P 202 bh = some sbh) ∧ ((G 200 ah).toInt = ((24 : Nat) : Int) ∧ (G 200 bh).toInt = ((24 : Nat) : Int) ∧ ln sah = 12 ∧ ln sbh = 12) ∧ ((la ah = 94 ∧ la bh = 95) ∨ (la ah = 95 ∧ la bh = 94)) := by
  obtain ⟨tn, nw, nx, wh, pg, fi, pa, pk, sz, cl, ah, bh, lah, sah, lbh, sbh, ⟨h1, ⟨s1, s2⟩, h3⟩, hi, ⟨j1, j2, j3, j4⟩, ⟨k1, k2, k3, k4⟩, h5⟩ := h
  have h6 : (la bh = 94 ∧ la ah = 95) ∨ (la bh = 95 ∧ la ah = 94) := by omega
  have h7 : nx ≠ nw := fun q => h3 q.symm
  rcases s1 with ⟨s1, s3⟩ | ⟨s1, s3⟩
  · rcases s2 with ⟨s2, s4⟩ | ⟨s2, s4⟩
    · exact ⟨tn, nw, nx, wh, pg, fi, pa, pk, sz, cl, ah, bh, lah, sah, lbh, sbh, ⟨h1, s1, s3, h3⟩, hi, ⟨s2, s4⟩, ⟨j1, j2, j3, j4⟩, ⟨k1, k2, k3, k4⟩, h5⟩
    · exact ⟨tn, nw, nx, wh, pg, fi, pa, pk, sz, cl, bh, ah, lbh, sbh, lah, sah, ⟨h1, s1, s3, h3⟩, hi, ⟨s2, s4⟩, ⟨j3, j4, j1, j2⟩, ⟨k2, k1, k4, k3⟩, h6⟩
  · rcases s2 with ⟨s2, s4⟩ | ⟨s2, s4⟩
    · exact ⟨tn, nx, nw, wh, pg, fi, pa, pk, sz, cl, ah, bh, lah, sah, lbh, sbh, ⟨h1, s1, s3, h7⟩, hi, ⟨s2, s4⟩, ⟨j1, j2, j3, j4⟩, ⟨k1, k2, k3, k4⟩, h5⟩
    · exact ⟨tn, nx, nw, wh, pg, fi, pa, pk, sz, cl, bh, ah, lbh, sbh, lah, sah, ⟨h1, s1, s3, h7⟩, hi, ⟨s2, s4⟩, ⟨j3, j4, j1, j2⟩, ⟨k2, k1, k4, k3⟩, h6⟩
def RTD (g : Nat → Int32) (F : Nat → Nat → Int32) (x : Nat) (G : Nat → Nat → Int32) (P : Nat → Nat → Option Nat) (V : Nat → Nat → Nat → Int32) (ln : Nat → Nat) : Prop := ∃ lf l s T, (P 227 x = some lf ∧ P 201 lf = some l ∧ P 202 lf = some s) ∧ ((G 200 lf).toInt = ((24 : Nat) : Int) ∧ ln s = 12) ∧ rwW (G 203 lf) (V 0 l) (V 1 s) 24 = T ∧ rwW (g 44) (F 42) (F 43) 24 = T
theorem RTD_keep {g g1 : Nat → Int32} {F F1 : Nat → Nat → Int32} {la : Nat → Nat} {cnt x : Nat} {G G1 : Nat → Nat → Int32} {P P1 : Nat → Nat → Option Nat} {V V1 : Nat → Nat → Nat → Int32} {ln ln1 : Nat → Nat} (h : RTD g F x G P V ln) (hB : LB la cnt P) (p7 : P1 227 x = P 227 x) (e44 : g1 44 = g 44) (e42 : F1 42 = F 42) (e43 : F1 43 = F 43) (hc : ∀ z, z < cnt → P1 201 z = P 201 z ∧ P1 202 z = P 202 z ∧ G1 200 z = G 200 z ∧ ln1 z = ln z) (hv : ∀ z, z < cnt → la z = 50 → G1 203 z = G 203 z ∧ V1 0 z = V 0 z ∧ V1 1 z = V 1 z) : RTD g1 F1 x G1 P1 V1 ln1 := by
  obtain ⟨lf, l, s, T, ⟨h1, h2, h3⟩, ⟨h4, h5⟩, h6, h7⟩ := h
  have c1 := (hB.1 227 fl_227 x lf h1).2.1
  have l1 : la lf = 50 := lk_227.mp (hB.1 227 fl_227 x lf h1).2.2
  have c2 := (hB.1 201 fl_201 lf l h2).2.1
  have l2 : la l = la lf + 0 := lk_201.mp (hB.1 201 fl_201 lf l h2).2.2
  have c3 := (hB.1 202 fl_202 lf s h3).2.1
  have l3 : la s = la lf + 0 := lk_202.mp (hB.1 202 fl_202 lf s h3).2.2
  obtain ⟨a1, a2, a3, _⟩ := hc lf c1
  have a4 := (hc s c3).2.2.2
  refine ⟨lf, l, s, T, ⟨p7.trans h1, a1.trans h2, a2.trans h3⟩, ⟨by rw [a3]; exact h4, a4.trans h5⟩, ?_, ?_⟩
  · rw [(hv lf c1 l1).1, (hv l c2 (by omega)).2.1, (hv s c3 (by omega)).2.2]
    exact h6
  · rw [e44, e42, e43]
    exact h7
theorem RTD_turn {g g1 : Nat → Int32} {F F1 : Nat → Nat → Int32} {x : Nat} {G G1 : Nat → Nat → Int32} {P P1 : Nat → Nat → Option Nat} {V V1 : Nat → Nat → Nat → Int32} {ln : Nat → Nat} {lf l s : Nat} {T T1 : List Wd} {I : Prop} {r1 r2 : Int32} (h1 : P 227 x = some lf) (h2 : P 201 lf = some l) (h3 : P 202 lf = some s) (h4 : (G 200 lf).toInt = ((24 : Nat) : Int)) (h5 : ln s = 12) (h6 : rwW (G 203 lf) (V 0 l) (V 1 s) 24 = T) (h7 : rwW (g 44) (F 42) (F 43) 24 = T) (k0 : ¬ I → r1.toInt = -2 ∧ G1 203 lf = G 203 lf ∧ V1 0 l = V 0 l ∧ V1 1 s = V 1 s) (k1 : I → r1.toInt = ((T1.length : Nat) : Int) ∧ rwW (G1 203 lf) (V1 0 l) (V1 1 s) 24 = T1) (n0 : ¬ I → r2.toInt = -2 ∧ g1 44 = g 44 ∧ F1 42 = F 42 ∧ F1 43 = F 43) (n1 : I → r2.toInt = ((T1.length : Nat) : Int) ∧ rwW (g1 44) (F1 42) (F1 43) 24 = T1) (p7 : P1 227 x = P 227 x) (e1 : P1 201 lf = P 201 lf) (e2 : P1 202 lf = P 202 lf) (e3 : G1 200 lf = G 200 lf) : r1 = r2 ∧ RTD g1 F1 x G1 P1 V1 ln := by
  by_cases hi : I
  · obtain ⟨a1, a2⟩ := k1 hi
    obtain ⟨b1, b2⟩ := n1 hi
    exact ⟨z_e (by omega), lf, l, s, T1, ⟨p7.trans h1, e1.trans h2, e2.trans h3⟩, ⟨by rw [e3]; exact h4, h5⟩, a2, b2⟩
  · obtain ⟨a1, a2, a3, a4⟩ := k0 hi
    obtain ⟨b1, b2, b3, b4⟩ := n0 hi
    refine ⟨z_e (by omega), lf, l, s, T, ⟨p7.trans h1, e1.trans h2, e2.trans h3⟩, ⟨by rw [e3]; exact h4, h5⟩, ?_, ?_⟩
    · rw [a2, a3, a4]
      exact h6
    · rw [b2, b3, b4]
      exact h7