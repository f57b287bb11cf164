abbrev QX_feed (g : Nat → Int32) (F : Nat → Nat → Int32) (p0 : Int32) (p1 : Int32) (p2 : Int32) (p3 : Int32) (p4 : Int32) : (Int32 × Int32 × (Nat → Int32)) → Prop := (fun t => (((0) ≤ (t.2.1).toInt ∧ (t.2.1).toInt ≤ 2000)) ∧ (((g 1).toInt + 20 ≤ 2000 → (t.2.1).toInt = (g 1).toInt + 20 ∧ (t.1).toInt = (g 1).toInt + 20)) ∧ ((2000 < (g 1).toInt + 20 → (t.2.1).toInt = (g 1).toInt ∧ (t.1).toInt = -3)) ∧ ((((g 1).toInt + 20 ≤ 2000 → (t.2.2) = fds (F 0) (g 1).toInt.toNat (vs5 p0 p1 p2 p3 p4) 5) ∧ (2000 < (g 1).toInt + 20 → (t.2.2) = (F 0)))))
set_option maxHeartbeats 4000000 in
set_option maxRecDepth 100000 in
theorem fx_feed (g : Nat → Int32) (F : Nat → Nat → Int32) (p0 : Int32) (p1 : Int32) (p2 : Int32) (p3 : Int32) (p4 : Int32) (hI : MInv g F) : wp (f_feed g F p0 p1 p2 p3 p4) (QX_feed g F p0 p1 p2 p3 p4) := by
  unfold f_feed
  refine MInv_e hI (fun hzg1 (hzg2 : id _) (hzg3 : id _) (hzg4 : id _) (hzg5 : id _) (hzg6 : id _) (hzg7 : id _) (hzg8 : id _) (hzg9 : id _) (hzg23 : id _) (hzg27 : id _) (hzg30 : id _) (hzg34 : id _) (hzg36 : id _) (hzg39 : id _) (hzg44 : id _) (hzg47 : id _) (hzg48 : id _) (hzg51 : id _) (hzg56 : id _) (hzg59 : id _) (hzg62 : id _) (hzg65 : id _) (hzg66 : id _) (hzg70 : id _) hzF11 hzF12 hzF13 hzF15 hzF19 hzF21 hzF24 hzF25 hzF26 hzF33 hzF38 hzF41 hzF43 hzF45 hzF46 hzF50 hzF53 hzF54 hzLQ => ?_)
  clear hI
  have zkm3 : (-3 : Int32).toInt = -3 := by decide +kernel
  have zk0 : (0 : Int32).toInt = 0 := by decide +kernel
  have zk1 : (1 : Int32).toInt = 1 := by decide +kernel
  have zk2 : (2 : Int32).toInt = 2 := by decide +kernel
  have zk3 : (3 : Int32).toInt = 3 := by decide +kernel
  have zk5 : (5 : Int32).toInt = 5 := by decide +kernel
  have zk20 : (20 : Int32).toInt = 20 := by decide +kernel
  have zk24 : (24 : Int32).toInt = 24 := by decide +kernel
  have zk2000 : (2000 : Int32).toInt = 2000 := by decide +kernel
  have f1 : ((g 1) + 20).toInt = (g 1).toInt + 20 := z_addc (by decide +kernel) (by (first | omega | (simp only [id_eq] at *; omega))) (by (first | omega | (simp only [id_eq] at *; omega)))
  refine wp_ite (fun c10 => ?_) (fun c10 => ?_)
  · have c10 := (z_le _ _).mp c10
    have lp19 : ∀ (n19 : Nat) (y19_6 : Int32) (d19_g1 : Int32) (d19_F0 : (Nat → Int32)), (5 - y19_6.toInt).toNat < n19 → ((0) ≤ d19_g1.toInt ∧ d19_g1.toInt ≤ 2000) → (0 ≤ y19_6.toInt ∧ y19_6.toInt ≤ 5) → d19_g1.toInt = (g 1).toInt + 4 * y19_6.toInt → (d19_F0 = fds (F 0) (g 1).toInt.toNat (vs5 p0 p1 p2 p3 p4) y19_6.toInt.toNat) → wp (L_feed_19 p0 p1 p2 p3 p4 n19 y19_6 d19_g1 d19_F0) (QX_feed g F p0 p1 p2 p3 p4) := by
      intro n19
      induction n19 with
      | zero => intro y19_6 d19_g1 d19_F0 hm; exact absurd hm (Nat.not_lt_zero _)
      | succ n19 ih19 =>
        intro y19_6 d19_g1 d19_F0 hm19 hg2 f3 f4 jf19
        show wp (B_feed_19 p0 p1 p2 p3 p4 (L_feed_19 p0 p1 p2 p3 p4 n19) y19_6 d19_g1 d19_F0) _
        unfold B_feed_19
        refine wp_ite (fun c22 => ?_) (fun c22 => ?_)
        · have c22 := (z_le _ _).mp c22
          exact ⟨_, rfl, ⟨hg2, (show ((g 1).toInt + 20 ≤ 2000 → d19_g1.toInt = (g 1).toInt + 20 ∧ d19_g1.toInt = (g 1).toInt + 20) from by (first | omega | (simp only [id_eq] at *; omega))), (show (2000 < (g 1).toInt + 20 → d19_g1.toInt = (g 1).toInt ∧ d19_g1.toInt = -3) from by (first | omega | (simp only [id_eq] at *; omega))), (show (((g 1).toInt + 20 ≤ 2000 → d19_F0 = fds (F 0) (g 1).toInt.toNat (vs5 p0 p1 p2 p3 p4) 5) ∧ (2000 < (g 1).toInt + 20 → d19_F0 = (F 0))) from by exact ⟨fun _ => by have h := jf19; rw [show y19_6.toInt.toNat = 5 by (first | omega | (simp only [id_eq] at *; omega))] at h; exact h, fun h => by (first | omega | (simp only [id_eq] at *; omega))⟩)⟩⟩
        · have c22 := z_nle c22
          refine wp_jn (fun j67 => ∀ (t67_0 : Int32), (t67_0 = vs5 p0 p1 p2 p3 p4 y19_6.toInt.toNat) → wp (j67 t67_0) (QX_feed g F p0 p1 p2 p3 p4)) ?_ ?_
          · intro t67_0 jv67
            show wp _ _
            refine wp_jn (fun k109 => ∀ (c109_g1 : Int32) (c109_F0 : (Nat → Int32)), ((0) ≤ c109_g1.toInt ∧ c109_g1.toInt ≤ 2000) → (0 ≤ c109_g1.toInt - (g 1).toInt - 4 * y19_6.toInt ∧ c109_g1.toInt - (g 1).toInt - 4 * y19_6.toInt ≤ 4) → (c109_F0 = app (fds (F 0) (g 1).toInt.toNat (vs5 p0 p1 p2 p3 p4) y19_6.toInt.toNat) ((g 1).toInt.toNat + 4 * y19_6.toInt.toNat) (vs5 p0 p1 p2 p3 p4 y19_6.toInt.toNat) (c109_g1.toInt - (g 1).toInt - 4 * y19_6.toInt).toNat) → c109_g1.toInt = (g 1).toInt + 4 * y19_6.toInt + 4 → wp (k109 c109_g1 c109_F0) (QX_feed g F p0 p1 p2 p3 p4)) ?_ ?_
            · intro c109_g1 c109_F0 hg5 f6 jg109 f7
              show wp _ _
              have f8 : (y19_6 + 1).toInt = y19_6.toInt + (1) := z_addc (by decide +kernel) (by (first | omega | (simp only [id_eq] at *; omega))) (by (first | omega | (simp only [id_eq] at *; omega)))
              exact ih19 (y19_6 + 1) c109_g1 c109_F0 (show (5 - (y19_6 + 1).toInt).toNat < n19 from by (first | omega | (simp only [id_eq] at *; omega))) hg5 (show (0 ≤ (y19_6 + 1).toInt ∧ (y19_6 + 1).toInt ≤ 5) from by (first | omega | (simp only [id_eq] at *; omega))) (show c109_g1.toInt = (g 1).toInt + 4 * (y19_6 + 1).toInt from by (first | omega | (simp only [id_eq] at *; omega))) (show (c109_F0 = fds (F 0) (g 1).toInt.toNat (vs5 p0 p1 p2 p3 p4) (y19_6 + 1).toInt.toNat) from by rw [show (y19_6 + 1).toInt.toNat = y19_6.toInt.toNat + 1 by (first | omega | (simp only [id_eq] at *; omega))]; show _ = app _ _ _ 4; have h := jg109; rw [show (c109_g1.toInt - (g 1).toInt - 4 * y19_6.toInt).toNat = 4 by (first | omega | (simp only [id_eq] at *; omega))] at h; exact h)
            intro k109 Jk109
            have lp73 : ∀ (n73 : Nat) (y73_8 : Int32) (d73_g1 : Int32) (d73_F0 : (Nat → Int32)), (4 - (d73_g1.toInt - (g 1).toInt - 4 * y19_6.toInt)).toNat < n73 → ((0) ≤ d73_g1.toInt ∧ d73_g1.toInt ≤ 2000) → (0 ≤ d73_g1.toInt - (g 1).toInt - 4 * y19_6.toInt ∧ d73_g1.toInt - (g 1).toInt - 4 * y19_6.toInt ≤ 4) → y73_8.toInt = 24 - 8 * (d73_g1.toInt - (g 1).toInt - 4 * y19_6.toInt) → (d73_F0 = app (fds (F 0) (g 1).toInt.toNat (vs5 p0 p1 p2 p3 p4) y19_6.toInt.toNat) ((g 1).toInt.toNat + 4 * y19_6.toInt.toNat) (vs5 p0 p1 p2 p3 p4 y19_6.toInt.toNat) (d73_g1.toInt - (g 1).toInt - 4 * y19_6.toInt).toNat) → wp (L_feed_73 t67_0 k109 n73 y73_8 d73_g1 d73_F0) (QX_feed g F p0 p1 p2 p3 p4) := by
              intro n73
              induction n73 with
              | zero => intro y73_8 d73_g1 d73_F0 hm; exact absurd hm (Nat.not_lt_zero _)
              | succ n73 ih73 =>
                intro y73_8 d73_g1 d73_F0 hm73 hg9 f10 f11 jg73
                show wp (B_feed_73 t67_0 k109 (L_feed_73 t67_0 k109 n73) y73_8 d73_g1 d73_F0) _
                unfold B_feed_73
                refine wp_ite (fun c75 => ?_) (fun c75 => ?_)
                · have c75 := (z_lt _ _).mp c75
                  exact Jk109 d73_g1 d73_F0 hg9 (show (0 ≤ d73_g1.toInt - (g 1).toInt - 4 * y19_6.toInt ∧ d73_g1.toInt - (g 1).toInt - 4 * y19_6.toInt ≤ 4) from by (first | omega | (simp only [id_eq] at *; omega))) (show (d73_F0 = app (fds (F 0) (g 1).toInt.toNat (vs5 p0 p1 p2 p3 p4) y19_6.toInt.toNat) ((g 1).toInt.toNat + 4 * y19_6.toInt.toNat) (vs5 p0 p1 p2 p3 p4 y19_6.toInt.toNat) (d73_g1.toInt - (g 1).toInt - 4 * y19_6.toInt).toNat) from by first | exact jg73 | (rw [ew92, show (x100.toInt - (g 1).toInt - 4 * y19_6.toInt).toNat = (d73_g1.toInt - (g 1).toInt - 4 * y19_6.toInt).toNat + 1 by (first | omega | (simp only [id_eq] at *; omega)), jv67]; exact app_step jg73 (by (first | omega | (simp only [id_eq] at *; omega))) (by (first | omega | (simp only [id_eq] at *; omega))) (by (first | omega | (simp only [id_eq] at *; omega))))) (show d73_g1.toInt = (g 1).toInt + 4 * y19_6.toInt + 4 from by (first | omega | (simp only [id_eq] at *; omega)))
                · have c75 := z_nlt c75
                  refine wp_if ⟨by (first | omega | (simp only [id_eq] at *; omega)), by (first | omega | (simp only [id_eq] at *; omega))⟩ ?_
                  refine wp_vl (fun w92 ew92 => ?_)
                  have f12 : (d73_g1 + 1).toInt = d73_g1.toInt + 1 := z_addc (by decide +kernel) (by (first | omega | (simp only [id_eq] at *; omega))) (by (first | omega | (simp only [id_eq] at *; omega)))
                  refine wp_vl (fun x100 ex100 => ?_)
                  have f13 : x100.toInt = (d73_g1 + 1).toInt := congrArg Int32.toInt ex100
                  clear ex100
                  have hg14 : ((0) ≤ x100.toInt ∧ x100.toInt ≤ 2000) := ⟨by (first | omega | (simp only [id_eq] at *; omega)), by (first | omega | (simp only [id_eq] at *; omega))⟩
                  have f15 : (y73_8 + (-8)).toInt = y73_8.toInt + (-8) := z_addc (by decide +kernel) (by (first | omega | (simp only [id_eq] at *; omega))) (by (first | omega | (simp only [id_eq] at *; omega)))
                  obtain ⟨z16, ez16⟩ : ∃ z : Int32, z = (y73_8 + (-8)) := ⟨_, rfl⟩
                  have fz16 : z16.toInt = y73_8.toInt + (-8) := by rw [ez16]; exact f15
                  rw [← ez16]
                  clear f15 ez16
                  exact ih73 z16 x100 w92 (show (4 - (x100.toInt - (g 1).toInt - 4 * y19_6.toInt)).toNat < n73 from by (first | omega | (simp only [id_eq] at *; omega))) hg14 (show (0 ≤ x100.toInt - (g 1).toInt - 4 * y19_6.toInt ∧ x100.toInt - (g 1).toInt - 4 * y19_6.toInt ≤ 4) from by (first | omega | (simp only [id_eq] at *; omega))) (show z16.toInt = 24 - 8 * (x100.toInt - (g 1).toInt - 4 * y19_6.toInt) from by (first | omega | (simp only [id_eq] at *; omega))) (show (w92 = app (fds (F 0) (g 1).toInt.toNat (vs5 p0 p1 p2 p3 p4) y19_6.toInt.toNat) ((g 1).toInt.toNat + 4 * y19_6.toInt.toNat) (vs5 p0 p1 p2 p3 p4 y19_6.toInt.toNat) (x100.toInt - (g 1).toInt - 4 * y19_6.toInt).toNat) from by rw [ew92, show (x100.toInt - (g 1).toInt - 4 * y19_6.toInt).toNat = (d73_g1.toInt - (g 1).toInt - 4 * y19_6.toInt).toNat + 1 by (first | omega | (simp only [id_eq] at *; omega)), jv67]; exact app_step jg73 (by (first | omega | (simp only [id_eq] at *; omega))) (by (first | omega | (simp only [id_eq] at *; omega))) (by (first | omega | (simp only [id_eq] at *; omega))))
            exact lp73 NN (24 : Int32) d19_g1 d19_F0 (by have := NN_eq; (first | omega | (simp only [id_eq] at *; omega))) hg2 (show (0 ≤ d19_g1.toInt - (g 1).toInt - 4 * y19_6.toInt ∧ d19_g1.toInt - (g 1).toInt - 4 * y19_6.toInt ≤ 4) from by (first | omega | (simp only [id_eq] at *; omega))) (show (24 : Int32).toInt = 24 - 8 * (d19_g1.toInt - (g 1).toInt - 4 * y19_6.toInt) from by (first | omega | (simp only [id_eq] at *; omega))) (show (d19_F0 = app (fds (F 0) (g 1).toInt.toNat (vs5 p0 p1 p2 p3 p4) y19_6.toInt.toNat) ((g 1).toInt.toNat + 4 * y19_6.toInt.toNat) (vs5 p0 p1 p2 p3 p4 y19_6.toInt.toNat) (d19_g1.toInt - (g 1).toInt - 4 * y19_6.toInt).toNat) from by rw [show (d19_g1.toInt - (g 1).toInt - 4 * y19_6.toInt).toNat = 0 by (first | omega | (simp only [id_eq] at *; omega))]; exact jf19)
          intro j67 Jj67
          refine wp_ite (fun c27 => ?_) (fun c27 => ?_)
          · have c27 := congrArg Int32.toInt c27
            exact Jj67 p0 (show (p0 = vs5 p0 p1 p2 p3 p4 y19_6.toInt.toNat) from by unfold vs5; repeat (first | rw [if_pos (by (first | omega | (simp only [id_eq] at *; omega)))] | rw [if_neg (by (first | omega | (simp only [id_eq] at *; omega)))]))
          · have c27 := z_ne c27
            refine wp_ite (fun c37 => ?_) (fun c37 => ?_)
            · have c37 := congrArg Int32.toInt c37
              exact Jj67 p1 (show (p1 = vs5 p0 p1 p2 p3 p4 y19_6.toInt.toNat) from by unfold vs5; repeat (first | rw [if_pos (by (first | omega | (simp only [id_eq] at *; omega)))] | rw [if_neg (by (first | omega | (simp only [id_eq] at *; omega)))]))
            · have c37 := z_ne c37
              refine wp_ite (fun c47 => ?_) (fun c47 => ?_)
              · have c47 := congrArg Int32.toInt c47
                exact Jj67 p2 (show (p2 = vs5 p0 p1 p2 p3 p4 y19_6.toInt.toNat) from by unfold vs5; repeat (first | rw [if_pos (by (first | omega | (simp only [id_eq] at *; omega)))] | rw [if_neg (by (first | omega | (simp only [id_eq] at *; omega)))]))
              · have c47 := z_ne c47
                refine wp_ite (fun c57 => ?_) (fun c57 => ?_)
                · have c57 := congrArg Int32.toInt c57
                  exact Jj67 p3 (show (p3 = vs5 p0 p1 p2 p3 p4 y19_6.toInt.toNat) from by unfold vs5; repeat (first | rw [if_pos (by (first | omega | (simp only [id_eq] at *; omega)))] | rw [if_neg (by (first | omega | (simp only [id_eq] at *; omega)))]))
                · have c57 := z_ne c57
                  exact Jj67 p4 (show (p4 = vs5 p0 p1 p2 p3 p4 y19_6.toInt.toNat) from by unfold vs5; repeat (first | rw [if_pos (by (first | omega | (simp only [id_eq] at *; omega)))] | rw [if_neg (by (first | omega | (simp only [id_eq] at *; omega)))]))
    exact lp19 NN (0 : Int32) (g 1) (F 0) (by have := NN_eq; (first | omega | (simp only [id_eq] at *; omega))) hzg1 (show (0 ≤ (0 : Int32).toInt ∧ (0 : Int32).toInt ≤ 5) from by (first | omega | (simp only [id_eq] at *; omega))) (show (g 1).toInt = (g 1).toInt + 4 * (0 : Int32).toInt from by (first | omega | (simp only [id_eq] at *; omega))) (show ((F 0) = fds (F 0) (g 1).toInt.toNat (vs5 p0 p1 p2 p3 p4) (0 : Int32).toInt.toNat) from by rw [show (0 : Int32).toInt.toNat = 0 from rfl]; rfl)
  · have c10 := z_nle c10
    exact ⟨_, rfl, ⟨hzg1, (show ((g 1).toInt + 20 ≤ 2000 → (g 1).toInt = (g 1).toInt + 20 ∧ (-3 : Int32).toInt = (g 1).toInt + 20) from by (first | omega | (simp only [id_eq] at *; omega))), (show (2000 < (g 1).toInt + 20 → (g 1).toInt = (g 1).toInt ∧ (-3 : Int32).toInt = -3) from by (first | omega | (simp only [id_eq] at *; omega))), (show (((g 1).toInt + 20 ≤ 2000 → (F 0) = fds (F 0) (g 1).toInt.toNat (vs5 p0 p1 p2 p3 p4) 5) ∧ (2000 < (g 1).toInt + 20 → (F 0) = (F 0))) from by exact ⟨fun h => by (first | omega | (simp only [id_eq] at *; omega)), fun _ => rfl⟩)⟩⟩
abbrev QX_sameBytes (A0 : (Nat → Int32)) (n0 : Nat) (p1 : Int32) (p2 : Int32) (A3 : (Nat → Int32)) (n3 : Nat) (p4 : Int32) (p5 : Int32) : (Int32) → Prop := (fun t => ((0 ≤ t.toInt ∧ t.toInt ≤ 1)) ∧ (((t.toInt = 1 ∧ sbs A0 p1.toInt p2.toInt A3 p4.toInt p5.toInt) ∨ (t.toInt = 0 ∧ ¬ sbs A0 p1.toInt p2.toInt A3 p4.toInt p5.toInt))))
set_option maxHeartbeats 4000000 in
set_option maxRecDepth 100000 in
theorem fx_sameBytes (A0 : (Nat → Int32)) (n0 : Nat) (p1 : Int32) (p2 : Int32) (A3 : (Nat → Int32)) (n3 : Nat) (p4 : Int32) (p5 : Int32) (hp0 : (0 ≤ p1.toInt ∧ p1.toInt + p2.toInt ≤ n0)) (hp1 : n0 ≤ 500000) (hp2 : (0 ≤ p4.toInt ∧ p4.toInt + p5.toInt ≤ n3)) (hp3 : n3 ≤ 500000) : wp (f_sameBytes A0 n0 p1 p2 A3 n3 p4 p5) (QX_sameBytes A0 n0 p1 p2 A3 n3 p4 p5) := by
  unfold f_sameBytes
  have zk0 : (0 : Int32).toInt = 0 := by decide +kernel
  have zk1 : (1 : Int32).toInt = 1 := by decide +kernel
  refine wp_ite (fun c3 => ?_) (fun c3 => ?_)
  · have c3 := congrArg Int32.toInt c3
    have lp11 : ∀ (n11 : Nat) (y11_6 : Int32), (p2.toInt - y11_6.toInt).toNat < n11 → 0 ≤ y11_6.toInt → (∀ i : Nat, (i : Int) < y11_6.toInt → A0 (p1.toInt.toNat + i) = A3 (p4.toInt.toNat + i)) → wp (L_sameBytes_11 A0 n0 p1 p2 A3 n3 p4 n11 y11_6) (QX_sameBytes A0 n0 p1 p2 A3 n3 p4 p5) := by
      intro n11
      induction n11 with
      | zero => intro y11_6 hm; exact absurd hm (Nat.not_lt_zero _)
      | succ n11 ih11 =>
        intro y11_6 hm11 f1 ib11
        show wp (B_sameBytes_11 A0 n0 p1 p2 A3 n3 p4 (L_sameBytes_11 A0 n0 p1 p2 A3 n3 p4 n11) y11_6) _
        unfold B_sameBytes_11
        refine wp_ite (fun c14 => ?_) (fun c14 => ?_)
        · have c14 := (z_le _ _).mp c14
          exact ⟨_, rfl, ⟨(show (0 ≤ (1 : Int32).toInt ∧ (1 : Int32).toInt ≤ 1) from by (first | omega | (simp only [id_eq] at *; omega))), (show (((1 : Int32).toInt = 1 ∧ sbs A0 p1.toInt p2.toInt A3 p4.toInt p5.toInt) ∨ ((1 : Int32).toInt = 0 ∧ ¬ sbs A0 p1.toInt p2.toInt A3 p4.toInt p5.toInt)) from by exact Or.inl ⟨by (first | omega | (simp only [id_eq] at *; omega)), by (first | omega | (simp only [id_eq] at *; omega)), fun i hi => ib11 i (by (first | omega | (simp only [id_eq] at *; omega)))⟩)⟩⟩
        · have c14 := z_nle c14
          have f2 : (p1 + y11_6).toInt = p1.toInt + y11_6.toInt := z_add (by (first | omega | (simp only [id_eq] at *; omega))) (by (first | omega | (simp only [id_eq] at *; omega)))
          refine wp_if ⟨by (first | omega | (simp only [id_eq] at *; omega)), by (first | omega | (simp only [id_eq] at *; omega))⟩ ?_
          have f3 : (p4 + y11_6).toInt = p4.toInt + y11_6.toInt := z_add (by (first | omega | (simp only [id_eq] at *; omega))) (by (first | omega | (simp only [id_eq] at *; omega)))
          refine wp_if ⟨by (first | omega | (simp only [id_eq] at *; omega)), by (first | omega | (simp only [id_eq] at *; omega))⟩ ?_
          refine wp_ite (fun c30 => ?_) (fun c30 => ?_)
          · have c30 := congrArg Int32.toInt c30
            have f4 : (y11_6 + 1).toInt = y11_6.toInt + (1) := z_addc (by decide +kernel) (by (first | omega | (simp only [id_eq] at *; omega))) (by (first | omega | (simp only [id_eq] at *; omega)))
            exact ih11 (y11_6 + 1) (show (p2.toInt - (y11_6 + 1).toInt).toNat < n11 from by (first | omega | (simp only [id_eq] at *; omega))) (show 0 ≤ (y11_6 + 1).toInt from by (first | omega | (simp only [id_eq] at *; omega))) (show (∀ i : Nat, (i : Int) < (y11_6 + 1).toInt → A0 (p1.toInt.toNat + i) = A3 (p4.toInt.toNat + i)) from by intro i hi; by_cases q : (i : Int) < y11_6.toInt; (exact ib11 i q); (have e1 := clampI (x := p1 + y11_6) (by (first | omega | (simp only [id_eq] at *; omega))); have e2 := clampI (x := p4 + y11_6) (by (first | omega | (simp only [id_eq] at *; omega))); have e3 : p1.toInt.toNat + i = Int32.toNatClampNeg (p1 + y11_6) := (by (first | omega | (simp only [id_eq] at *; omega))); have e4 : p4.toInt.toNat + i = Int32.toNatClampNeg (p4 + y11_6) := (by (first | omega | (simp only [id_eq] at *; omega))); rw [e3, e4]; exact z_e c30))
          · have c30 := z_ne c30
            exact ⟨_, rfl, ⟨(show (0 ≤ (0 : Int32).toInt ∧ (0 : Int32).toInt ≤ 1) from by (first | omega | (simp only [id_eq] at *; omega))), (show (((0 : Int32).toInt = 1 ∧ sbs A0 p1.toInt p2.toInt A3 p4.toInt p5.toInt) ∨ ((0 : Int32).toInt = 0 ∧ ¬ sbs A0 p1.toInt p2.toInt A3 p4.toInt p5.toInt)) from by exact Or.inr ⟨by (first | omega | (simp only [id_eq] at *; omega)), fun h => by have e1 := clampI (x := p1 + y11_6) (by (first | omega | (simp only [id_eq] at *; omega))); have e2 := clampI (x := p4 + y11_6) (by (first | omega | (simp only [id_eq] at *; omega))); have h6 := h.2 y11_6.toInt.toNat (by (first | omega | (simp only [id_eq] at *; omega))); rw [show p1.toInt.toNat + y11_6.toInt.toNat = Int32.toNatClampNeg (p1 + y11_6) by (first | omega | (simp only [id_eq] at *; omega)), show p4.toInt.toNat + y11_6.toInt.toNat = Int32.toNatClampNeg (p4 + y11_6) by (first | omega | (simp only [id_eq] at *; omega))] at h6; exact c30 (congrArg Int32.toInt h6)⟩)⟩⟩
    exact lp11 NN (0 : Int32) (by have := NN_eq; (first | omega | (simp only [id_eq] at *; omega))) (show 0 ≤ (0 : Int32).toInt from by (first | omega | (simp only [id_eq] at *; omega))) (show (∀ i : Nat, (i : Int) < (0 : Int32).toInt → A0 (p1.toInt.toNat + i) = A3 (p4.toInt.toNat + i)) from by intro i hi; (first | omega | (simp only [id_eq] at *; omega)))
  · have c3 := z_ne c3
    exact ⟨_, rfl, ⟨(show (0 ≤ (0 : Int32).toInt ∧ (0 : Int32).toInt ≤ 1) from by (first | omega | (simp only [id_eq] at *; omega))), (show (((0 : Int32).toInt = 1 ∧ sbs A0 p1.toInt p2.toInt A3 p4.toInt p5.toInt) ∨ ((0 : Int32).toInt = 0 ∧ ¬ sbs A0 p1.toInt p2.toInt A3 p4.toInt p5.toInt)) from by exact Or.inr ⟨by (first | omega | (simp only [id_eq] at *; omega)), fun h => c3 h.1⟩)⟩⟩
abbrev QX_takeWord (g : Nat → Int32) (F : Nat → Nat → Int32) (A0 : (Nat → Int32)) (n0 : Nat) (p1 : Int32) (p2 : Int32) : (Int32 × (Nat → Int32)) → Prop := (fun t => (((0) ≤ (t.1).toInt ∧ (t.1).toInt ≤ 24)) ∧ ((t.1).toInt = p2.toInt) ∧ ((∀ i : Nat, (i : Int) < p2.toInt → (t.2) i = vp_nar .byte (A0 (p1.toInt.toNat + i)))))
set_option maxHeartbeats 4000000 in
set_option maxRecDepth 100000 in
theorem fx_takeWord (g : Nat → Int32) (F : Nat → Nat → Int32) (A0 : (Nat → Int32)) (n0 : Nat) (p1 : Int32) (p2 : Int32) (hI : MInv g F) (hp0 : (0 ≤ p1.toInt ∧ p1.toInt + p2.toInt ≤ n0)) (hp1 : n0 ≤ 500000) (hp2 : (0 ≤ p2.toInt ∧ p2.toInt ≤ 24)) : wp (f_takeWord g F A0 n0 p1 p2) (QX_takeWord g F A0 n0 p1 p2) := by
  unfold f_takeWord
  refine MInv_e hI (fun (hzg1 : id _) (hzg2 : id _) (hzg3 : id _) (hzg4 : id _) (hzg5 : id _) (hzg6 : id _) (hzg7 : id _) (hzg8 : id _) (hzg9 : id _) (hzg23 : id _) (hzg27 : id _) (hzg30 : id _) (hzg34 : id _) (hzg36 : id _) (hzg39 : id _) (hzg44 : id _) (hzg47 : id _) (hzg48 : id _) (hzg51 : id _) (hzg56 : id _) (hzg59 : id _) (hzg62 : id _) (hzg65 : id _) (hzg66 : id _) (hzg70 : id _) hzF11 hzF12 hzF13 hzF15 hzF19 hzF21 hzF24 hzF25 hzF26 hzF33 hzF38 hzF41 hzF43 hzF45 hzF46 hzF50 hzF53 hzF54 hzLQ => ?_)
  clear hI
  have zk0 : (0 : Int32).toInt = 0 := by decide +kernel
  have lp3 : ∀ (n3 : Nat) (y3_4 : Int32) (d3_F22 : (Nat → Int32)), (p2.toInt - y3_4.toInt).toNat < n3 → 0 ≤ y3_4.toInt → (∀ i : Nat, (i : Int) < y3_4.toInt → d3_F22 i = vp_nar .byte (A0 (p1.toInt.toNat + i))) → wp (L_takeWord_3 A0 n0 p1 p2 n3 y3_4 d3_F22) (QX_takeWord g F A0 n0 p1 p2) := by
    intro n3
    induction n3 with
    | zero => intro y3_4 d3_F22 hm; exact absurd hm (Nat.not_lt_zero _)
    | succ n3 ih3 =>
      intro y3_4 d3_F22 hm3 f1 it3
      show wp (B_takeWord_3 A0 n0 p1 p2 (L_takeWord_3 A0 n0 p1 p2 n3) y3_4 d3_F22) _
      unfold B_takeWord_3
      refine wp_ite (fun c6 => ?_) (fun c6 => ?_)
      · have c6 := (z_le _ _).mp c6
        have hg2 : ((0) ≤ p2.toInt ∧ p2.toInt ≤ 24) := ⟨by (first | omega | (simp only [id_eq] at *; omega)), by (first | omega | (simp only [id_eq] at *; omega))⟩
        exact ⟨_, rfl, ⟨hg2, (show p2.toInt = p2.toInt from by (first | omega | (simp only [id_eq] at *; omega))), (show (∀ i : Nat, (i : Int) < p2.toInt → d3_F22 i = vp_nar .byte (A0 (p1.toInt.toNat + i))) from by intro i hi; exact it3 i (by (first | omega | (simp only [id_eq] at *; omega))))⟩⟩
      · have c6 := z_nle c6
        have f3 : (p1 + y3_4).toInt = p1.toInt + y3_4.toInt := z_add (by (first | omega | (simp only [id_eq] at *; omega))) (by (first | omega | (simp only [id_eq] at *; omega)))
        refine wp_if ⟨by (first | omega | (simp only [id_eq] at *; omega)), by (first | omega | (simp only [id_eq] at *; omega))⟩ ?_
        refine wp_if ⟨by (first | omega | (simp only [id_eq] at *; omega)), by (first | omega | (simp only [id_eq] at *; omega))⟩ ?_
        refine wp_vl (fun w21 ew21 => ?_)
        have f4 : (y3_4 + 1).toInt = y3_4.toInt + (1) := z_addc (by decide +kernel) (by (first | omega | (simp only [id_eq] at *; omega))) (by (first | omega | (simp only [id_eq] at *; omega)))
        exact ih3 (y3_4 + 1) w21 (show (p2.toInt - (y3_4 + 1).toInt).toNat < n3 from by (first | omega | (simp only [id_eq] at *; omega))) (show 0 ≤ (y3_4 + 1).toInt from by (first | omega | (simp only [id_eq] at *; omega))) (show (∀ i : Nat, (i : Int) < (y3_4 + 1).toInt → w21 i = vp_nar .byte (A0 (p1.toInt.toNat + i))) from by intro i hi; have e1 := clampI (x := p1 + y3_4) (by (first | omega | (simp only [id_eq] at *; omega))); have e2 := clampI (x := y3_4) (by (first | omega | (simp only [id_eq] at *; omega))); by_cases q : (i : Int) < y3_4.toInt; (rw [ew21, pk_un (by (first | omega | (simp only [id_eq] at *; omega)))]; exact it3 i q); (rw [ew21, show i = Int32.toNatClampNeg y3_4 by (first | omega | (simp only [id_eq] at *; omega)), pk_us, show p1.toInt.toNat + Int32.toNatClampNeg y3_4 = Int32.toNatClampNeg (p1 + y3_4) by (first | omega | (simp only [id_eq] at *; omega))]))
  exact lp3 NN (0 : Int32) (F 22) (by have := NN_eq; (first | omega | (simp only [id_eq] at *; omega))) (show 0 ≤ (0 : Int32).toInt from by (first | omega | (simp only [id_eq] at *; omega))) (show (∀ i : Nat, (i : Int) < (0 : Int32).toInt → (F 22) i = vp_nar .byte (A0 (p1.toInt.toNat + i))) from by intro i hi; (first | omega | (simp only [id_eq] at *; omega)))
abbrev QX_readWord (g : Nat → Int32) (F : Nat → Nat → Int32) : (Int32 × Int32 × Int32 × (Nat → Int32)) → Prop := (fun t => (((0) ≤ (t.2.1).toInt ∧ (t.2.1).toInt ≤ 2000)) ∧ (((0) ≤ (t.2.2.1).toInt ∧ (t.2.2.1).toInt ≤ 24)) ∧ ((t.2.1).toInt = 0) ∧ (((t.1).toInt = 1 → 1 ≤ (t.2.2.1).toInt)) ∧ ((0 ≤ (t.1).toInt ∧ (t.1).toInt ≤ 1)) ∧ ((((t.1).toInt = 1 ∧ isw (F 0) (g 1).toInt ∧ (t.2.2.1).toInt = (g 1).toInt ∧ ∀ i : Nat, (i : Int) < (g 1).toInt → (t.2.2.2) i = vp_nar .byte ((F 0) i)) ∨ ((t.1).toInt = 0 ∧ ¬ isw (F 0) (g 1).toInt))))
set_option maxHeartbeats 4000000 in
set_option maxRecDepth 100000 in
theorem fx_readWord (g : Nat → Int32) (F : Nat → Nat → Int32) (hI : MInv g F) : wp (f_readWord g F) (QX_readWord g F) := by
  unfold f_readWord
  refine MInv_e hI (fun hzg1 (hzg2 : id _) (hzg3 : id _) (hzg4 : id _) (hzg5 : id _) (hzg6 : id _) (hzg7 : id _) (hzg8 : id _) (hzg9 : id _) hzg23 (hzg27 : id _) (hzg30 : id _) (hzg34 : id _) (hzg36 : id _) (hzg39 : id _) (hzg44 : id _) (hzg47 : id _) (hzg48 : id _) (hzg51 : id _) (hzg56 : id _) (hzg59 : id _) (hzg62 : id _) (hzg65 : id _) (hzg66 : id _) (hzg70 : id _) hzF11 hzF12 hzF13 hzF15 hzF19 hzF21 hzF24 hzF25 hzF26 hzF33 hzF38 hzF41 hzF43 hzF45 hzF46 hzF50 hzF53 hzF54 hzLQ => ?_)
  clear hI
  have zk0 : (0 : Int32).toInt = 0 := by decide +kernel
  have zk1 : (1 : Int32).toInt = 1 := by decide +kernel
  have zk24 : (24 : Int32).toInt = 24 := by decide +kernel
  have hg1 : ((0) ≤ (0 : Int32).toInt ∧ (0 : Int32).toInt ≤ 2000) := ⟨by (first | omega | (simp only [id_eq] at *; omega)), by (first | omega | (simp only [id_eq] at *; omega))⟩
  obtain ⟨r14, hc14, hq14⟩ := ok_in (g 1) 1 24 
  obtain ⟨f2, f3, f4⟩ : (id (r14.toInt = 1 → (1 : Int32).toInt ≤ (g 1).toInt ∧ (g 1).toInt ≤ (24 : Int32).toInt)) ∧ (id (r14.toInt = 0 → (g 1).toInt < (1 : Int32).toInt ∨ (24 : Int32).toInt < (g 1).toInt)) ∧ ((0 ≤ r14.toInt ∧ r14.toInt ≤ 1)) := hq14
  refine wp_b1 hc14 ?_
  clear hc14
  refine wp_ite (fun c17 => ?_) (fun c17 => ?_)
  · have c17 := congrArg Int32.toInt c17
    exact ⟨_, rfl, ⟨hg1, hzg23, (show (0 : Int32).toInt = 0 from by (first | omega | (simp only [id_eq] at *; omega))), (show ((0 : Int32).toInt = 1 → 1 ≤ (g 23).toInt) from by (first | omega | (simp only [id_eq] at *; omega))), (show (0 ≤ (0 : Int32).toInt ∧ (0 : Int32).toInt ≤ 1) from by (first | omega | (simp only [id_eq] at *; omega))), (show (((0 : Int32).toInt = 1 ∧ isw (F 0) (g 1).toInt ∧ (g 23).toInt = (g 1).toInt ∧ ∀ i : Nat, (i : Int) < (g 1).toInt → (F 22) i = vp_nar .byte ((F 0) i)) ∨ ((0 : Int32).toInt = 0 ∧ ¬ isw (F 0) (g 1).toInt)) from by exact Or.inr ⟨by (first | omega | (simp only [id_eq] at *; omega)), fun h => by have h1 := h.1; have h2 := h.2.1; (first | omega | (simp only [id_eq] at *; omega))⟩)⟩⟩
  · have c17 := z_ne c17
    have lp24 : ∀ (n24 : Nat) (y24_2 : Int32), (24 - y24_2.toInt).toNat < n24 → 0 ≤ y24_2.toInt → (∀ i : Nat, (i : Int) < y24_2.toInt → 97 ≤ ((F 0) i).toInt ∧ ((F 0) i).toInt ≤ 122) → wp (L_readWord_24 g F n24 y24_2) (QX_readWord g F) := by
      intro n24
      induction n24 with
      | zero => intro y24_2 hm; exact absurd hm (Nat.not_lt_zero _)
      | succ n24 ih24 =>
        intro y24_2 hm24 f5 ir24
        show wp (B_readWord_24 g F (L_readWord_24 g F n24) y24_2) _
        unfold B_readWord_24
        refine wp_ite (fun c26 => ?_) (fun c26 => ?_)
        · have c26 := (z_le _ _).mp c26
          obtain ⟨⟨c56_g23, c56_F22⟩, hc56, hq56⟩ := fx_takeWord (upd g 1 0) F (F 0) 2000 0 (g 1) (MInv_i hg1 hzg2 hzg3 hzg4 hzg5 hzg6 hzg7 hzg8 hzg9 hzg23 hzg27 hzg30 hzg34 hzg36 hzg39 hzg44 hzg47 hzg48 hzg51 hzg56 hzg59 hzg62 hzg65 hzg66 hzg70 hzF11 hzF12 hzF13 hzF15 hzF19 hzF21 hzF24 hzF25 hzF26 hzF33 hzF38 hzF41 hzF43 hzF45 hzF46 hzF50 hzF53 hzF54 hzLQ) (show (0 ≤ (0 : Int32).toInt ∧ (0 : Int32).toInt + (g 1).toInt ≤ 2000) from by (first | omega | (simp only [id_eq] at *; omega))) (show 2000 ≤ 500000 from by (first | omega | (simp only [id_eq] at *; omega))) (show (0 ≤ (g 1).toInt ∧ (g 1).toInt ≤ 24) from by (first | omega | (simp only [id_eq] at *; omega)))
          obtain ⟨hg6, f7, f8⟩ : (((0) ≤ c56_g23.toInt ∧ c56_g23.toInt ≤ 24)) ∧ (c56_g23.toInt = (g 1).toInt) ∧ ((∀ i : Nat, (i : Int) < (g 1).toInt → c56_F22 i = vp_nar .byte ((F 0) ((0 : Int32).toInt.toNat + i)))) := hq56
          refine wp_b2 hc56 ?_
          clear hc56
          have htw := f8
          exact ⟨_, rfl, ⟨hg1, hg6, (show (0 : Int32).toInt = 0 from by (first | omega | (simp only [id_eq] at *; omega))), (show ((1 : Int32).toInt = 1 → 1 ≤ c56_g23.toInt) from by (first | omega | (simp only [id_eq] at *; omega))), (show (0 ≤ (1 : Int32).toInt ∧ (1 : Int32).toInt ≤ 1) from by (first | omega | (simp only [id_eq] at *; omega))), (show (((1 : Int32).toInt = 1 ∧ isw (F 0) (g 1).toInt ∧ c56_g23.toInt = (g 1).toInt ∧ ∀ i : Nat, (i : Int) < (g 1).toInt → c56_F22 i = vp_nar .byte ((F 0) i)) ∨ ((1 : Int32).toInt = 0 ∧ ¬ isw (F 0) (g 1).toInt)) from by exact Or.inl ⟨by (first | omega | (simp only [id_eq] at *; omega)), ⟨by (first | omega | (simp only [id_eq] at *; omega)), by (first | omega | (simp only [id_eq] at *; omega)), fun i hi => ir24 i (by (first | omega | (simp only [id_eq] at *; omega)))⟩, by (first | omega | (simp only [id_eq] at *; omega)), fun i hi => by have h := htw i hi; rw [zk0] at h; rw [h]; exact congrArg (fun z => vp_nar .byte ((F 0) z)) (by show (0 : Int).toNat + i = i; (first | omega | (simp only [id_eq] at *; omega)))⟩)⟩⟩
        · have c26 := z_nle c26
          refine wp_if ⟨by (first | omega | (simp only [id_eq] at *; omega)), by (first | omega | (simp only [id_eq] at *; omega))⟩ ?_
          obtain ⟨r35, hc35, hq35⟩ := ok_isSmall ((F 0) (Int32.toNatClampNeg y24_2)) 
          obtain ⟨f9, f10, f11⟩ : (id (r35.toInt = 1 → 97 ≤ ((F 0) (Int32.toNatClampNeg y24_2)).toInt ∧ ((F 0) (Int32.toNatClampNeg y24_2)).toInt ≤ 122)) ∧ (id (r35.toInt = 0 → ((F 0) (Int32.toNatClampNeg y24_2)).toInt < 97 ∨ 122 < ((F 0) (Int32.toNatClampNeg y24_2)).toInt)) ∧ ((0 ≤ r35.toInt ∧ r35.toInt ≤ 1)) := hq35
          refine wp_b1 hc35 ?_
          clear hc35
          refine wp_ite (fun c38 => ?_) (fun c38 => ?_)
          · have c38 := congrArg Int32.toInt c38
            exact ⟨_, rfl, ⟨hg1, hzg23, (show (0 : Int32).toInt = 0 from by (first | omega | (simp only [id_eq] at *; omega))), (show ((0 : Int32).toInt = 1 → 1 ≤ (g 23).toInt) from by (first | omega | (simp only [id_eq] at *; omega))), (show (0 ≤ (0 : Int32).toInt ∧ (0 : Int32).toInt ≤ 1) from by (first | omega | (simp only [id_eq] at *; omega))), (show (((0 : Int32).toInt = 1 ∧ isw (F 0) (g 1).toInt ∧ (g 23).toInt = (g 1).toInt ∧ ∀ i : Nat, (i : Int) < (g 1).toInt → (F 22) i = vp_nar .byte ((F 0) i)) ∨ ((0 : Int32).toInt = 0 ∧ ¬ isw (F 0) (g 1).toInt)) from by exact Or.inr ⟨by (first | omega | (simp only [id_eq] at *; omega)), fun h => by have e := clampI (x := y24_2) (by (first | omega | (simp only [id_eq] at *; omega))); have h2 := h.2.2 (Int32.toNatClampNeg y24_2) (by (first | omega | (simp only [id_eq] at *; omega))); (first | omega | (simp only [id_eq] at *; omega))⟩)⟩⟩
          · have c38 := z_ne c38
            have f12 : (y24_2 + 1).toInt = y24_2.toInt + (1) := z_addc (by decide +kernel) (by (first | omega | (simp only [id_eq] at *; omega))) (by (first | omega | (simp only [id_eq] at *; omega)))
            exact ih24 (y24_2 + 1) (show (24 - (y24_2 + 1).toInt).toNat < n24 from by (first | omega | (simp only [id_eq] at *; omega))) (show 0 ≤ (y24_2 + 1).toInt from by (first | omega | (simp only [id_eq] at *; omega))) (show (∀ i : Nat, (i : Int) < (y24_2 + 1).toInt → 97 ≤ ((F 0) i).toInt ∧ ((F 0) i).toInt ≤ 122) from by intro i hi; by_cases q : (i : Int) < y24_2.toInt; (exact ir24 i q); (have e := clampI (x := y24_2) (by (first | omega | (simp only [id_eq] at *; omega))); rw [show i = Int32.toNatClampNeg y24_2 by (first | omega | (simp only [id_eq] at *; omega))]; (first | omega | (simp only [id_eq] at *; omega))))
    exact lp24 NN (0 : Int32) (by have := NN_eq; (first | omega | (simp only [id_eq] at *; omega))) (show 0 ≤ (0 : Int32).toInt from by (first | omega | (simp only [id_eq] at *; omega))) (show (∀ i : Nat, (i : Int) < (0 : Int32).toInt → 97 ≤ ((F 0) i).toInt ∧ ((F 0) i).toInt ≤ 122) from by intro i hi; (first | omega | (simp only [id_eq] at *; omega)))
abbrev QX_learn (g : Nat → Int32) (F : Nat → Nat → Int32) : (Int32 × Int32 × Int32 × Int32 × Int32 × (Nat → Int32) × (Nat → Int32) × (Nat → Int32)) → Prop := (fun t => (((0) ≤ (t.2.1).toInt ∧ (t.2.1).toInt ≤ 2000)) ∧ (((0) ≤ (t.2.2.1).toInt ∧ (t.2.2.1).toInt ≤ 24)) ∧ (((0) ≤ (t.2.2.2.1).toInt ∧ (t.2.2.2.1).toInt ≤ 100)) ∧ (((0) ≤ (t.2.2.2.2.1).toInt ∧ (t.2.2.2.2.1).toInt ≤ 1)) ∧ (rng (0) 24 (t.2.2.2.2.2.2.2)) ∧ ((t.2.1).toInt = 0) ∧ (LRN (F 0) (g 1).toInt (F 49) (F 50) (g 48) (t.1) (t.2.2.2.2.2.2.1) (t.2.2.2.2.2.2.2) (t.2.2.2.1)))
set_option maxHeartbeats 4000000 in
set_option maxRecDepth 100000 in
theorem fx_learn (g : Nat → Int32) (F : Nat → Nat → Int32) (hI : MInv g F) (hp0 : ∀ i, vp_nar .byte ((F 0) i) = (F 0) i) : wp (f_learn g F) (QX_learn g F) := by
  unfold f_learn
  refine MInv_e hI (fun hzg1 (hzg2 : id _) (hzg3 : id _) (hzg4 : id _) (hzg5 : id _) (hzg6 : id _) (hzg7 : id _) (hzg8 : id _) (hzg9 : id _) (hzg23 : id _) (hzg27 : id _) (hzg30 : id _) (hzg34 : id _) (hzg36 : id _) (hzg39 : id _) (hzg44 : id _) (hzg47 : id _) hzg48 hzg51 (hzg56 : id _) (hzg59 : id _) (hzg62 : id _) (hzg65 : id _) (hzg66 : id _) (hzg70 : id _) hzF11 hzF12 hzF13 hzF15 hzF19 hzF21 hzF24 hzF25 hzF26 hzF33 hzF38 hzF41 hzF43 hzF45 hzF46 hzF50 hzF53 hzF54 hzLQ => ?_)
  clear hI
  have zkm3 : (-3 : Int32).toInt = -3 := by decide +kernel
  have zkm2 : (-2 : Int32).toInt = -2 := by decide +kernel
  have zk0 : (0 : Int32).toInt = 0 := by decide +kernel
  have zk1 : (1 : Int32).toInt = 1 := by decide +kernel
  have zk24 : (24 : Int32).toInt = 24 := by decide +kernel
  have zk100 : (100 : Int32).toInt = 100 := by decide +kernel
  obtain ⟨⟨r1, c1_g1, c1_g23, c1_F22⟩, hc1, hq1⟩ := fx_readWord g F (MInv_i hzg1 hzg2 hzg3 hzg4 hzg5 hzg6 hzg7 hzg8 hzg9 hzg23 hzg27 hzg30 hzg34 hzg36 hzg39 hzg44 hzg47 hzg48 hzg51 hzg56 hzg59 hzg62 hzg65 hzg66 hzg70 hzF11 hzF12 hzF13 hzF15 hzF19 hzF21 hzF24 hzF25 hzF26 hzF33 hzF38 hzF41 hzF43 hzF45 hzF46 hzF50 hzF53 hzF54 hzLQ)
  obtain ⟨hg1, hg2, f3, f4, f5, f6⟩ : (((0) ≤ c1_g1.toInt ∧ c1_g1.toInt ≤ 2000)) ∧ (((0) ≤ c1_g23.toInt ∧ c1_g23.toInt ≤ 24)) ∧ (c1_g1.toInt = 0) ∧ (id (r1.toInt = 1 → 1 ≤ c1_g23.toInt)) ∧ ((0 ≤ r1.toInt ∧ r1.toInt ≤ 1)) ∧ (id ((r1.toInt = 1 ∧ isw (F 0) (g 1).toInt ∧ c1_g23.toInt = (g 1).toInt ∧ ∀ i : Nat, (i : Int) < (g 1).toInt → c1_F22 i = vp_nar .byte ((F 0) i)) ∨ (r1.toInt = 0 ∧ ¬ isw (F 0) (g 1).toInt))) := hq1
  refine wp_b4 hc1 ?_
  clear hc1
  have hrw := f6
  refine wp_ite (fun c4 => ?_) (fun c4 => ?_)
  · have c4 := congrArg Int32.toInt c4
    exact ⟨_, rfl, ⟨hg1, hg2, hzg48, hzg51, hzF50, (show c1_g1.toInt = 0 from by (first | omega | (simp only [id_eq] at *; omega))), (show LRN (F 0) (g 1).toInt (F 49) (F 50) (g 48) (-2 : Int32) (F 49) (F 50) (g 48) from by exact Or.inl ⟨(hrw.resolve_left (fun z => by have := z.1; (first | omega | (simp only [id_eq] at *; omega)))).2, by (first | omega | (simp only [id_eq] at *; omega)), rfl, rfl, rfl⟩)⟩⟩
  · have c4 := z_ne c4
    have hg := hrw.resolve_right (fun z => by have := z.1; (first | omega | (simp only [id_eq] at *; omega)))
    obtain ⟨_, hiw, hlt, hwc⟩ := hg
    have hn24 := hiw.2.1
    have hwf : ∀ i : Nat, (i : Int) < (g 1).toInt → c1_F22 i = (F 0) i := fun i hi => (hwc i hi).trans (hp0 i)
    refine wp_jn (fun k57 => (∀ j : Nat, (j : Int) < (g 48).toInt → ¬ mt (F 49) (F 50) (F 0) (g 1).toInt j) → wp (k57 ()) (QX_learn g F)) ?_ ?_
    · intro ik57
      show wp _ _
      refine wp_ite (fun c63 => ?_) (fun c63 => ?_)
      · have c63 := congrArg Int32.toInt c63
        exact ⟨_, rfl, ⟨hg1, hg2, hzg48, hzg51, hzF50, (show c1_g1.toInt = 0 from by (first | omega | (simp only [id_eq] at *; omega))), (show LRN (F 0) (g 1).toInt (F 49) (F 50) (g 48) (-3 : Int32) (F 49) (F 50) (g 48) from by exact Or.inr (Or.inr (Or.inl ⟨hiw, ik57, by (first | omega | (simp only [id_eq] at *; omega)), by (first | omega | (simp only [id_eq] at *; omega)), rfl, rfl, rfl⟩)))⟩⟩
      · have c63 := z_ne c63
        refine wp_jn (fun k105 => ∀ (c105_F49 : (Nat → Int32)), (c105_F49 = va_cpy (F 0) (F 49) 0 (24 * (g 48).toInt.toNat) (g 1).toInt.toNat) → wp (k105 c105_F49) (QX_learn g F)) ?_ ?_
        · intro c105_F49 iq105
          show wp _ _
          refine wp_if ⟨by (first | omega | (simp only [id_eq] at *; omega)), by (first | omega | (simp only [id_eq] at *; omega))⟩ ?_
          refine wp_vl (fun w117 ew117 => ?_)
          have hF7 : rng (0) 24 w117 := by rw [ew117]; exact rng_upd hzF50 (by (first | omega | (simp only [id_eq] at *; omega))) (by (first | omega | (simp only [id_eq] at *; omega)))
          have f8 : ((g 48) + 1).toInt = (g 48).toInt + 1 := z_addc (by decide +kernel) (by (first | omega | (simp only [id_eq] at *; omega))) (by (first | omega | (simp only [id_eq] at *; omega)))
          refine wp_vl (fun x125 ex125 => ?_)
          have f9 : x125.toInt = ((g 48) + 1).toInt := congrArg Int32.toInt ex125
          clear ex125
          have hg10 : ((0) ≤ x125.toInt ∧ x125.toInt ≤ 100) := ⟨by (first | omega | (simp only [id_eq] at *; omega)), by (first | omega | (simp only [id_eq] at *; omega))⟩
          have hg11 : ((0) ≤ (0 : Int32).toInt ∧ (0 : Int32).toInt ≤ 1) := ⟨by (first | omega | (simp only [id_eq] at *; omega)), by (first | omega | (simp only [id_eq] at *; omega))⟩
          have f12 : (x125 - 1).toInt = x125.toInt - 1 := z_subc (by decide +kernel) (by (first | omega | (simp only [id_eq] at *; omega))) (by (first | omega | (simp only [id_eq] at *; omega)))
          exact ⟨_, rfl, ⟨hg1, hg2, hg10, hg11, hF7, (show c1_g1.toInt = 0 from by (first | omega | (simp only [id_eq] at *; omega))), (show LRN (F 0) (g 1).toInt (F 49) (F 50) (g 48) (x125 - 1) c105_F49 w117 x125 from by exact Or.inr (Or.inr (Or.inr ⟨hiw, ik57, by (first | omega | (simp only [id_eq] at *; omega)), by (first | omega | (simp only [id_eq] at *; omega)), by (first | omega | (simp only [id_eq] at *; omega)), iq105, c1_g23, hlt, ew117⟩)))⟩⟩
        intro k105 Jk105
        have lp71 : ∀ (n71 : Nat) (y71_1 : Int32) (d71_F49 : (Nat → Int32)), (24 - y71_1.toInt).toNat < n71 → 0 ≤ y71_1.toInt → y71_1.toInt ≤ c1_g23.toInt → (d71_F49 = va_cpy (F 0) (F 49) 0 (24 * (g 48).toInt.toNat) y71_1.toInt.toNat) → wp (L_learn_71 g c1_g23 c1_F22 k105 n71 y71_1 d71_F49) (QX_learn g F) := by
          intro n71
          induction n71 with
          | zero => intro y71_1 d71_F49 hm; exact absurd hm (Nat.not_lt_zero _)
          | succ n71 ih71 =>
            intro y71_1 d71_F49 hm71 f13 f14 iz71
            show wp (B_learn_71 g c1_g23 c1_F22 k105 (L_learn_71 g c1_g23 c1_F22 k105 n71) y71_1 d71_F49) _
            unfold B_learn_71
            refine wp_ite (fun c76 => ?_) (fun c76 => ?_)
            · have c76 := (z_le _ _).mp c76
              exact Jk105 d71_F49 (show (d71_F49 = va_cpy (F 0) (F 49) 0 (24 * (g 48).toInt.toNat) (g 1).toInt.toNat) from by have h := iz71; rw [show y71_1.toInt.toNat = (g 1).toInt.toNat by (first | omega | (simp only [id_eq] at *; omega))] at h; exact h)
            · have c76 := z_nle c76
              have f15 : (24 * (g 48)).toInt = 24 * (g 48).toInt := z_muld (by decide +kernel) (by (first | omega | (simp only [id_eq] at *; omega))) (by (first | omega | (simp only [id_eq] at *; omega)))
              have f16 : ((24 * (g 48)) + y71_1).toInt = (24 * (g 48)).toInt + y71_1.toInt := z_add (by (first | omega | (simp only [id_eq] at *; omega))) (by (first | omega | (simp only [id_eq] at *; omega)))
              refine wp_if ⟨by (first | omega | (simp only [id_eq] at *; omega)), by (first | omega | (simp only [id_eq] at *; omega))⟩ ?_
              refine wp_if ⟨by (first | omega | (simp only [id_eq] at *; omega)), by (first | omega | (simp only [id_eq] at *; omega))⟩ ?_
              refine wp_vl (fun w98 ew98 => ?_)
              have f17 : (y71_1 + 1).toInt = y71_1.toInt + (1) := z_addc (by decide +kernel) (by (first | omega | (simp only [id_eq] at *; omega))) (by (first | omega | (simp only [id_eq] at *; omega)))
              exact ih71 (y71_1 + 1) w98 (show (24 - (y71_1 + 1).toInt).toNat < n71 from by (first | omega | (simp only [id_eq] at *; omega))) (show 0 ≤ (y71_1 + 1).toInt from by (first | omega | (simp only [id_eq] at *; omega))) (show (y71_1 + 1).toInt ≤ c1_g23.toInt from by (first | omega | (simp only [id_eq] at *; omega))) (show (w98 = va_cpy (F 0) (F 49) 0 (24 * (g 48).toInt.toNat) (y71_1 + 1).toInt.toNat) from by rw [ew98, show (y71_1 + 1).toInt.toNat = y71_1.toInt.toNat + 1 by (first | omega | (simp only [id_eq] at *; omega))]; exact cpw_step iz71 (by (first | omega | (simp only [id_eq] at *; omega))) (by rw [show Int32.toNatClampNeg y71_1 = y71_1.toInt.toNat from rfl, hwf y71_1.toInt.toNat (by (first | omega | (simp only [id_eq] at *; omega)))]; exact hp0 _))
        exact lp71 NN (0 : Int32) (F 49) (by have := NN_eq; (first | omega | (simp only [id_eq] at *; omega))) (show 0 ≤ (0 : Int32).toInt from by (first | omega | (simp only [id_eq] at *; omega))) (show (0 : Int32).toInt ≤ c1_g23.toInt from by (first | omega | (simp only [id_eq] at *; omega))) (show ((F 49) = va_cpy (F 0) (F 49) 0 (24 * (g 48).toInt.toNat) (0 : Int32).toInt.toNat) from by rw [zk0]; exact cpw_0)
    intro k57 Jk57
    have lp12 : ∀ (n12 : Nat) (y12_1 : Int32), (100 - y12_1.toInt).toNat < n12 → (0 ≤ y12_1.toInt ∧ y12_1.toInt ≤ 100) → (∀ j : Nat, (j : Int) < y12_1.toInt → ¬ mt (F 49) (F 50) (F 0) (g 1).toInt j) → wp (L_learn_12 g F c1_g1 c1_g23 c1_F22 k57 n12 y12_1) (QX_learn g F) := by
      intro n12
      induction n12 with
      | zero => intro y12_1 hm; exact absurd hm (Nat.not_lt_zero _)
      | succ n12 ih12 =>
        intro y12_1 hm12 f18 il12
        show wp (B_learn_12 g F c1_g1 c1_g23 c1_F22 k57 (L_learn_12 g F c1_g1 c1_g23 c1_F22 k57 n12) y12_1) _
        unfold B_learn_12
        refine wp_ite (fun c17 => ?_) (fun c17 => ?_)
        · have c17 := (z_le _ _).mp c17
          exact Jk57 (show (∀ j : Nat, (j : Int) < (g 48).toInt → ¬ mt (F 49) (F 50) (F 0) (g 1).toInt j) from by intro j hj; exact il12 j (by (first | omega | (simp only [id_eq] at *; omega))))
        · have c17 := z_nle c17
          have f19 : (24 * y12_1).toInt = 24 * y12_1.toInt := z_muld (by decide +kernel) (by (first | omega | (simp only [id_eq] at *; omega))) (by (first | omega | (simp only [id_eq] at *; omega)))
          refine wp_if ⟨by (first | omega | (simp only [id_eq] at *; omega)), by (first | omega | (simp only [id_eq] at *; omega))⟩ ?_
          have f20 := hzF50 (Int32.toNatClampNeg y12_1)
          obtain ⟨r43, hc43, hq43⟩ := fx_sameBytes (F 49) 2400 (24 * y12_1) ((F 50) (Int32.toNatClampNeg y12_1)) c1_F22 24 0 c1_g23 (show (0 ≤ (24 * y12_1).toInt ∧ (24 * y12_1).toInt + ((F 50) (Int32.toNatClampNeg y12_1)).toInt ≤ 2400) from by (first | omega | (simp only [id_eq] at *; omega))) (show 2400 ≤ 500000 from by (first | omega | (simp only [id_eq] at *; omega))) (show (0 ≤ (0 : Int32).toInt ∧ (0 : Int32).toInt + c1_g23.toInt ≤ 24) from by (first | omega | (simp only [id_eq] at *; omega))) (show 24 ≤ 500000 from by (first | omega | (simp only [id_eq] at *; omega)))
          obtain ⟨f21, f22⟩ : ((0 ≤ r43.toInt ∧ r43.toInt ≤ 1)) ∧ (((r43.toInt = 1 ∧ sbs (F 49) (24 * y12_1).toInt ((F 50) (Int32.toNatClampNeg y12_1)).toInt c1_F22 (0 : Int32).toInt c1_g23.toInt) ∨ (r43.toInt = 0 ∧ ¬ sbs (F 49) (24 * y12_1).toInt ((F 50) (Int32.toNatClampNeg y12_1)).toInt c1_F22 (0 : Int32).toInt c1_g23.toInt))) := hq43
          refine wp_b1 hc43 ?_
          clear hc43
          have hsb := f22
          have hcl := clampI (x := y12_1) (by (first | omega | (simp only [id_eq] at *; omega)))
          have hmt : sbs (F 49) (24 * y12_1).toInt ((F 50) (Int32.toNatClampNeg y12_1)).toInt c1_F22 (0 : Int32).toInt c1_g23.toInt ↔ mt (F 49) (F 50) (F 0) (g 1).toInt (Int32.toNatClampNeg y12_1) := sbs_mt (by (first | omega | (simp only [id_eq] at *; omega))) (by (first | omega | (simp only [id_eq] at *; omega))) (by (first | omega | (simp only [id_eq] at *; omega))) hwf
          rw [hmt] at hsb
          refine wp_ite (fun c46 => ?_) (fun c46 => ?_)
          · have c46 := congrArg Int32.toInt c46
            have f23 : (y12_1 + 1).toInt = y12_1.toInt + (1) := z_addc (by decide +kernel) (by (first | omega | (simp only [id_eq] at *; omega))) (by (first | omega | (simp only [id_eq] at *; omega)))
            exact ih12 (y12_1 + 1) (show (100 - (y12_1 + 1).toInt).toNat < n12 from by (first | omega | (simp only [id_eq] at *; omega))) (show (0 ≤ (y12_1 + 1).toInt ∧ (y12_1 + 1).toInt ≤ 100) from by (first | omega | (simp only [id_eq] at *; omega))) (show (∀ j : Nat, (j : Int) < (y12_1 + 1).toInt → ¬ mt (F 49) (F 50) (F 0) (g 1).toInt j) from by intro j hj; by_cases q : (j : Int) < y12_1.toInt; (exact il12 j q); (rw [show j = Int32.toNatClampNeg y12_1 by (first | omega | (simp only [id_eq] at *; omega))]; exact (hsb.resolve_left (fun z => by have := z.1; (first | omega | (simp only [id_eq] at *; omega)))).2))
          · have c46 := z_ne c46
            exact ⟨_, rfl, ⟨hg1, hg2, hzg48, hzg51, hzF50, (show c1_g1.toInt = 0 from by (first | omega | (simp only [id_eq] at *; omega))), (show LRN (F 0) (g 1).toInt (F 49) (F 50) (g 48) y12_1 (F 49) (F 50) (g 48) from by exact Or.inr (Or.inl ⟨hiw, ⟨Int32.toNatClampNeg y12_1, by (first | omega | (simp only [id_eq] at *; omega)), by (first | omega | (simp only [id_eq] at *; omega)), (hsb.resolve_right (fun z => by have := z.1; (first | omega | (simp only [id_eq] at *; omega)))).2, fun j hj => il12 j (by (first | omega | (simp only [id_eq] at *; omega)))⟩, rfl, rfl, rfl⟩))⟩⟩
    exact lp12 NN (0 : Int32) (by have := NN_eq; (first | omega | (simp only [id_eq] at *; omega))) (show (0 ≤ (0 : Int32).toInt ∧ (0 : Int32).toInt ≤ 100) from by (first | omega | (simp only [id_eq] at *; omega))) (show (∀ j : Nat, (j : Int) < (0 : Int32).toInt → ¬ mt (F 49) (F 50) (F 0) (g 1).toInt j) from by intro j hj; (first | omega | (simp only [id_eq] at *; omega)))
abbrev QX_word (g : Nat → Int32) (F : Nat → Nat → Int32) (p0 : Int32) (p1 : Int32) : (Int32) → Prop := (fun t => (WRD (F 49) (F 50) (g 48).toInt p0.toInt p1.toInt t))
set_option maxHeartbeats 4000000 in
set_option maxRecDepth 100000 in
theorem fx_word (g : Nat → Int32) (F : Nat → Nat → Int32) (p0 : Int32) (p1 : Int32) (hI : MInv g F) : wp (f_word g F p0 p1) (QX_word g F p0 p1) := by
  unfold f_word
  refine MInv_e hI (fun (hzg1 : id _) (hzg2 : id _) (hzg3 : id _) (hzg4 : id _) (hzg5 : id _) (hzg6 : id _) (hzg7 : id _) (hzg8 : id _) (hzg9 : id _) (hzg23 : id _) (hzg27 : id _) (hzg30 : id _) (hzg34 : id _) (hzg36 : id _) (hzg39 : id _) (hzg44 : id _) (hzg47 : id _) hzg48 (hzg51 : id _) (hzg56 : id _) (hzg59 : id _) (hzg62 : id _) (hzg65 : id _) (hzg66 : id _) (hzg70 : id _) hzF11 hzF12 hzF13 hzF15 hzF19 hzF21 hzF24 hzF25 hzF26 hzF33 hzF38 hzF41 hzF43 hzF45 hzF46 hzF50 hzF53 hzF54 hzLQ => ?_)
  clear hI
  have zkm1 : (-1 : Int32).toInt = -1 := by decide +kernel
  have zk0 : (0 : Int32).toInt = 0 := by decide +kernel
  have zk1 : (1 : Int32).toInt = 1 := by decide +kernel
  have zk24 : (24 : Int32).toInt = 24 := by decide +kernel
  have f1 : ((g 48) - 1).toInt = (g 48).toInt - 1 := z_subc (by decide +kernel) (by (first | omega | (simp only [id_eq] at *; omega))) (by (first | omega | (simp only [id_eq] at *; omega)))
  obtain ⟨r8, hc8, hq8⟩ := ok_in p0 0 ((g 48) - 1) 
  obtain ⟨f2, f3, f4⟩ : (id (r8.toInt = 1 → (0 : Int32).toInt ≤ p0.toInt ∧ p0.toInt ≤ ((g 48) - 1).toInt)) ∧ (id (r8.toInt = 0 → p0.toInt < (0 : Int32).toInt ∨ ((g 48) - 1).toInt < p0.toInt)) ∧ ((0 ≤ r8.toInt ∧ r8.toInt ≤ 1)) := hq8
  refine wp_b1 hc8 ?_
  clear hc8
  refine wp_jn (fun j45 => ∀ (t45_0 : Int32), (WRD (F 49) (F 50) (g 48).toInt p0.toInt p1.toInt t45_0) → wp (j45 t45_0) (QX_word g F p0 p1)) ?_ ?_
  · intro t45_0 iv45
    show wp _ _
    exact ⟨_, rfl, (show WRD (F 49) (F 50) (g 48).toInt p0.toInt p1.toInt t45_0 from by exact iv45)⟩
  intro j45 Jj45
  refine wp_jn (fun j44 => (p0.toInt < 0 ∨ (g 48).toInt ≤ p0.toInt ∨ p1.toInt < 0 ∨ ((F 50) p0.toInt.toNat).toInt ≤ p1.toInt) → wp (j44 ()) (QX_word g F p0 p1)) ?_ ?_
  · intro iu44
    show wp _ _
    exact Jj45 (-1 : Int32) (show (WRD (F 49) (F 50) (g 48).toInt p0.toInt p1.toInt (-1 : Int32)) from by first | exact Or.inr ⟨iu44, by (first | omega | (simp only [id_eq] at *; omega))⟩ | exact Or.inl ⟨by (first | omega | (simp only [id_eq] at *; omega)), by (first | omega | (simp only [id_eq] at *; omega)), by (first | omega | (simp only [id_eq] at *; omega)), (show p1.toInt < ((F 50) (Int32.toNatClampNeg p0)).toInt from by (first | omega | (simp only [id_eq] at *; omega))), congrArg (F 49) (by have e := clampI (x := (24 * p0) + p1) (by (first | omega | (simp only [id_eq] at *; omega))); (first | omega | (simp only [id_eq] at *; omega)))⟩)
  intro j44 Jj44
  refine wp_ite (fun c11 => ?_) (fun c11 => ?_)
  · have c11 := congrArg Int32.toInt c11
    exact Jj44 (show (p0.toInt < 0 ∨ (g 48).toInt ≤ p0.toInt ∨ p1.toInt < 0 ∨ ((F 50) p0.toInt.toNat).toInt ≤ p1.toInt) from by first | (first | omega | (simp only [id_eq] at *; omega)) | (refine Or.inr (Or.inr ?_); show p1.toInt < 0 ∨ ((F 50) (Int32.toNatClampNeg p0)).toInt ≤ p1.toInt; (first | omega | (simp only [id_eq] at *; omega))))
  · have c11 := z_ne c11
    refine wp_if ⟨by (first | omega | (simp only [id_eq] at *; omega)), by (first | omega | (simp only [id_eq] at *; omega))⟩ ?_
    have f5 := hzF50 (Int32.toNatClampNeg p0)
    have f6 : (((F 50) (Int32.toNatClampNeg p0)) - 1).toInt = ((F 50) (Int32.toNatClampNeg p0)).toInt - 1 := z_subc (by decide +kernel) (by (first | omega | (simp only [id_eq] at *; omega))) (by (first | omega | (simp only [id_eq] at *; omega)))
    obtain ⟨r24, hc24, hq24⟩ := ok_in p1 0 (((F 50) (Int32.toNatClampNeg p0)) - 1) 
    obtain ⟨f7, f8, f9⟩ : (id (r24.toInt = 1 → (0 : Int32).toInt ≤ p1.toInt ∧ p1.toInt ≤ (((F 50) (Int32.toNatClampNeg p0)) - 1).toInt)) ∧ (id (r24.toInt = 0 → p1.toInt < (0 : Int32).toInt ∨ (((F 50) (Int32.toNatClampNeg p0)) - 1).toInt < p1.toInt)) ∧ ((0 ≤ r24.toInt ∧ r24.toInt ≤ 1)) := hq24
    refine wp_b1 hc24 ?_
    clear hc24
    refine wp_ite (fun c27 => ?_) (fun c27 => ?_)
    · have c27 := congrArg Int32.toInt c27
      exact Jj44 (show (p0.toInt < 0 ∨ (g 48).toInt ≤ p0.toInt ∨ p1.toInt < 0 ∨ ((F 50) p0.toInt.toNat).toInt ≤ p1.toInt) from by first | (first | omega | (simp only [id_eq] at *; omega)) | (refine Or.inr (Or.inr ?_); show p1.toInt < 0 ∨ ((F 50) (Int32.toNatClampNeg p0)).toInt ≤ p1.toInt; (first | omega | (simp only [id_eq] at *; omega))))
    · have c27 := z_ne c27
      have f10 : (24 * p0).toInt = 24 * p0.toInt := z_muld (by decide +kernel) (by (first | omega | (simp only [id_eq] at *; omega))) (by (first | omega | (simp only [id_eq] at *; omega)))
      have f11 : ((24 * p0) + p1).toInt = (24 * p0).toInt + p1.toInt := z_add (by (first | omega | (simp only [id_eq] at *; omega))) (by (first | omega | (simp only [id_eq] at *; omega)))
      refine wp_if ⟨by (first | omega | (simp only [id_eq] at *; omega)), by (first | omega | (simp only [id_eq] at *; omega))⟩ ?_
      exact Jj45 ((F 49) (Int32.toNatClampNeg ((24 * p0) + p1))) (show (WRD (F 49) (F 50) (g 48).toInt p0.toInt p1.toInt ((F 49) (Int32.toNatClampNeg ((24 * p0) + p1)))) from by first | exact Or.inr ⟨NOIV_iu, by (first | omega | (simp only [id_eq] at *; omega))⟩ | exact Or.inl ⟨by (first | omega | (simp only [id_eq] at *; omega)), by (first | omega | (simp only [id_eq] at *; omega)), by (first | omega | (simp only [id_eq] at *; omega)), (show p1.toInt < ((F 50) (Int32.toNatClampNeg p0)).toInt from by (first | omega | (simp only [id_eq] at *; omega))), congrArg (F 49) (by have e := clampI (x := (24 * p0) + p1) (by (first | omega | (simp only [id_eq] at *; omega))); (first | omega | (simp only [id_eq] at *; omega)))⟩)
