set_option maxHeartbeats 8000000 in
set_option maxRecDepth 100000 in
theorem law_loop {p : Program} {e : Env} {s : State} {m : MethodId} {below : List Frame} {meth : Method} {c : Code} (l : Launch) {b L : Nat} {xs : Nat → Int32} {A : Nat → Prop} {dC : Nat → ClassId} {dI : Nat → Nat → Nat} {kk : Nat → ClassId} {adK adV : Nat → Nat} (C0 : lw_At p s m meth c b L xs) (hL : L ≤ 3072) (hA : ∀ q : Nat, s.heap.size ≤ q → A q) (hbA : ¬ A b) (hAl : ∀ q : Nat, A q → s.heap.size ≤ q) (hE : EnvOK s) (hSE : SE adK adV A s) (hK : va_K (dC, dI) vwCl (cT kk) s) {xa h0 : Nat} {q : Nat → Nat} : ∀ (d j : Nat) (i : Int32) (ws : va_W) (g : Nat → Int32) (F : Nat → Nat → Int32) (n σ : Int) (H : Heap) (locs : List Loc) (ls : Array Slot) (cells slots : Nat), i.toInt = 6 * (j : Int) → L + 6 < d + 6 * j → j ≤ 513 → CS kk ws xa n σ g F → MS g F n → (cells : Int) + 10 * n ≤ (1000 + 228 * (j : Int)) + 3 * σ → (slots : Int) + 118 * n ≤ (400000 + 6860 * (j : Int)) + 2504 * σ → va_P (dC, dI) vwCl ((mW h0 (kk 0) (kk 1) (kk 2) q g F) ++ ws) H → va_D A ((mW h0 (kk 0) (kk 1) (kk 2) q g F) ++ ws) → va_S A s.heap H locs → lv_has ls 4 [(3, .int i), (2, .ref h0), (1, .ref xa), (0, .ref b)] → W p l e room_1 s m #[Value.ref b] below meth c H locs cells slots (lw_Z below #[Value.ref b] s) (F0 m 18 ls []) := by
  obtain ⟨hx, hb, hr9, hml, hown, hts0, hX, hbl, hlocks, hgv⟩ := id C0
  intro d
  induction d with
  | zero =>
    intro j i ws g F n σ H locs ls cells slots hi hd hj hC hM hB1 hB2 hP hD hS hl
    have hi2 : (L : Int) < i.toInt := by omega
    have hcs : n ≤ 2000 ∧ 0 ≤ n ∧ 0 ≤ σ ∧ σ ≤ 700 := by
      obtain ⟨ad, κ, wd, G, P, U, V, X, O, kd, ln, cnt, x, tp, bk, fl, _, _, _, hI, _, _, _, _, _, hn, hσ, _⟩ := hC
      have h1 := (CInv_G141 hI :) tp
      have h2 := s7_b (CInv_V3 hI :) fl
      omega
    have hLe : (Int32.ofNat L).toInt = (L : Int) := nI_toInt (by omega)
    have z6 : (6 : Int32).toInt = 6 := by decide
    have hsub : (Int32.ofNat L - 6).toInt = (L : Int) - 6 := by
      rw [z_subc z6 (by omega) (by omega), hLe]
    refine lv_iload_n hx hb dL_law_18 rfl (lv_at hl 0 rfl) ?_
    refine lv_aload_n hx hb dL_law_19 rfl (lv_at hl 3 rfl) ?_
    refine va_slen hx hb hX hbl hbA hS dL_law_20 ?_
    refine lv_bipush (v := 6) hx hb dL_law_21 (by decide) ?_
    refine lv_isub hx hb dL_law_23 ?_
    refine lv_icmp_gt (tgt := 839) hx hb dL_law_24 (by decide) (fun c1 => ?_) (fun c1 => ?_)
    · refine lv_iconst (v := 1) hx hb dL_law_839 (by decide) ?_
      refine va_forget (fun q hq => hAl _ (hS.2.2 q hq)) ?_
      refine W.widen (k := 600000) (n := 7302250) (by omega) (by omega) ?_
      exact lw_ret hx hb hr9 hlocks dL_law_840
    · have c1 := z_nlt c1
      exfalso; omega
  | succ d ih =>
    intro j i ws g F n σ H locs ls cells slots hi hd hj hC hM hB1 hB2 hP hD hS hl
    have hcs : n ≤ 2000 ∧ 0 ≤ n ∧ 0 ≤ σ ∧ σ ≤ 700 := by
      obtain ⟨ad, κ, wd, G, P, U, V, X, O, kd, ln, cnt, x, tp, bk, fl, _, _, _, hI, _, _, _, _, _, hn, hσ, _⟩ := hC
      have h1 := (CInv_G141 hI :) tp
      have h2 := s7_b (CInv_V3 hI :) fl
      omega
    have hLe : (Int32.ofNat L).toInt = (L : Int) := nI_toInt (by omega)
    have z6 : (6 : Int32).toInt = 6 := by decide
    have hsub : (Int32.ofNat L - 6).toInt = (L : Int) - 6 := by
      rw [z_subc z6 (by omega) (by omega), hLe]
    refine lv_iload_n hx hb dL_law_18 rfl (lv_at hl 0 rfl) ?_
    refine lv_aload_n hx hb dL_law_19 rfl (lv_at hl 3 rfl) ?_
    refine va_slen hx hb hX hbl hbA hS dL_law_20 ?_
    refine lv_bipush (v := 6) hx hb dL_law_21 (by decide) ?_
    refine lv_isub hx hb dL_law_23 ?_
    refine lv_icmp_gt (tgt := 839) hx hb dL_law_24 (by decide) (fun c1 => ?_) (fun c1 => ?_)
    · refine lv_iconst (v := 1) hx hb dL_law_839 (by decide) ?_
      refine va_forget (fun q hq => hAl _ (hS.2.2 q hq)) ?_
      refine W.widen (k := 600000) (n := 7302250) (by omega) (by omega) ?_
      exact lw_ret hx hb hr9 hlocks dL_law_840
    · have c1 := z_nlt c1
      have hi6 : 0 ≤ i.toInt ∧ i.toInt + 6 ≤ (L : Int) := by omega
      have kont : ∀ (ws : va_W) (g : Nat → Int32) (F : Nat → Nat → Int32) (n σ : Int) (H : Heap) (locs : List Loc) (cells slots : Nat), CS kk ws xa n σ g F → MS g F n → (cells : Int) + 10 * n ≤ (1000 + 228 * (j : Int)) + 228 + 3 * σ → (slots : Int) + 118 * n ≤ (400000 + 6860 * (j : Int)) + 6860 + 2504 * σ → va_P (dC, dI) vwCl ((mW h0 (kk 0) (kk 1) (kk 2) q g F) ++ ws) H → va_D A ((mW h0 (kk 0) (kk 1) (kk 2) q g F) ++ ws) → va_S A s.heap H locs → W p l e room_1 s m #[Value.ref b] below meth c H locs cells slots (lw_Z below #[Value.ref b] s) (F0 m 833 ls []) := by
        intro ws g F n σ H locs cells slots hC hM hB1 hB2 hP hD hS
        refine lv_iinc (v := i + 6) (lv' := [(3, .int (i + 6)), (2, .ref h0), (1, .ref xa), (0, .ref b)]) hx hb dL_law_833 hl (k := 0) rfl rfl (by decide) rfl (fun ls hl => ?_)
        refine lv_goto (tgt := 18) hx hb dL_law_836 (by decide) ?_
        have h6 : (i + 6).toInt = i.toInt + 6 := z_addc (by decide) (by omega) (by omega)
        exact ih (j + 1) (i + 6) ws g F n σ H locs ls cells slots (by omega) (by omega) (by omega) hC hM (by omega) (by omega) hP hD hS hl
      refine lv_aload_n hx hb dL_law_27 rfl (lv_at hl 3 rfl) ?_
      refine lv_iload_n hx hb dL_law_28 rfl (lv_at hl 0 rfl) ?_
      refine va_sld hx hb hX hbl hbA hS (z_in (by omega) (by omega)) dL_law_29 ?_
      refine lv_bipush (v := 31) hx hb dL_law_30 (by decide) ?_
      refine lv_iand hx hb dL_law_32 ?_
      refine lv_topi (fun z ez => ?_)
      obtain ⟨jj, hjj, ej⟩ := pk_andE (xs (Int32.toNatClampNeg i)) (m := 31) 5 (by decide)
      have ez : z = nI jj := ez.trans ej
      subst ez
      match jj, hjj with
      | 0, _ => exact lv_tableIn (off := 115) (tgt := 148) hx hb dL_law_33 (by decide +kernel) (by decide +kernel) (by decide +kernel) (by decide +kernel) (law_0 l C0 hL hA hbA hE hSE hK hi6 hC hM hB1 hB2 (by omega) (by omega) hP hD hS hl kont)
      | 1, _ => exact lv_tableIn (off := 178) (tgt := 211) hx hb dL_law_33 (by decide +kernel) (by decide +kernel) (by decide +kernel) (by decide +kernel) (law_1 l C0 hL hA hbA hE hSE hK hi6 hC hM hB1 hB2 (by omega) (by omega) hP hD hS hl kont)
      | 2, _ => exact lv_tableIn (off := 201) (tgt := 234) hx hb dL_law_33 (by decide +kernel) (by decide +kernel) (by decide +kernel) (by decide +kernel) (law_2 l C0 hL hA hbA hE hSE hK hi6 hC hM hB1 hB2 (by omega) (by omega) hP hD hS hl kont)
      | 3, _ => exact lv_tableIn (off := 224) (tgt := 257) hx hb dL_law_33 (by decide +kernel) (by decide +kernel) (by decide +kernel) (by decide +kernel) (law_3 l C0 hL hA hbA hE hSE hK hi6 hC hM hB1 hB2 (by omega) (by omega) hP hD hS hl kont)
      | 4, _ => exact lv_tableIn (off := 247) (tgt := 280) hx hb dL_law_33 (by decide +kernel) (by decide +kernel) (by decide +kernel) (by decide +kernel) (law_4 l C0 hL hA hbA hE hSE hK hi6 hC hM hB1 hB2 (by omega) (by omega) hP hD hS hl kont)
      | 5, _ => exact lv_tableIn (off := 280) (tgt := 313) hx hb dL_law_33 (by decide +kernel) (by decide +kernel) (by decide +kernel) (by decide +kernel) (law_5 l C0 hL hA hbA hE hSE hK hi6 hC hM hB1 hB2 (by omega) (by omega) hP hD hS hl kont)
      | 6, _ => exact lv_tableIn (off := 303) (tgt := 336) hx hb dL_law_33 (by decide +kernel) (by decide +kernel) (by decide +kernel) (by decide +kernel) (law_6 l C0 hL hA hbA hE hSE hK hi6 hC hM hB1 hB2 (by omega) (by omega) hP hD hS hl kont)
      | 7, _ => exact lv_tableIn (off := 336) (tgt := 369) hx hb dL_law_33 (by decide +kernel) (by decide +kernel) (by decide +kernel) (by decide +kernel) (law_7 l C0 hL hA hbA hE hSE hK hi6 hC hM hB1 hB2 (by omega) (by omega) hP hD hS hl kont)
      | 8, _ => exact lv_tableIn (off := 369) (tgt := 402) hx hb dL_law_33 (by decide +kernel) (by decide +kernel) (by decide +kernel) (by decide +kernel) (law_8 l C0 hL hA hbA hE hSE hK hi6 hC hM hB1 hB2 (by omega) (by omega) hP hD hS hl kont)
      | 9, _ => exact lv_tableIn (off := 392) (tgt := 425) hx hb dL_law_33 (by decide +kernel) (by decide +kernel) (by decide +kernel) (by decide +kernel) (law_9 l C0 hL hA hbA hE hSE hK hi6 hC hM hB1 hB2 (by omega) (by omega) hP hD hS hl kont)
      | 10, _ => exact lv_tableIn (off := 425) (tgt := 458) hx hb dL_law_33 (by decide +kernel) (by decide +kernel) (by decide +kernel) (by decide +kernel) (law_10 l C0 hL hA hbA hE hSE hK hi6 hC hM hB1 hB2 (by omega) (by omega) hP hD hS hl kont)
      | 11, _ => exact lv_tableIn (off := 438) (tgt := 471) hx hb dL_law_33 (by decide +kernel) (by decide +kernel) (by decide +kernel) (by decide +kernel) (law_11 l C0 hL hA hbA hE hSE hK hi6 hC hM hB1 hB2 (by omega) (by omega) hP hD hS hl kont)
      | 12, _ => exact lv_tableIn (off := 471) (tgt := 504) hx hb dL_law_33 (by decide +kernel) (by decide +kernel) (by decide +kernel) (by decide +kernel) (law_12 l C0 hL hA hbA hE hSE hK hi6 hC hM hB1 hB2 (by omega) (by omega) hP hD hS hl kont)
      | 13, _ => exact lv_tableIn (off := 494) (tgt := 527) hx hb dL_law_33 (by decide +kernel) (by decide +kernel) (by decide +kernel) (by decide +kernel) (law_13 l C0 hL hA hbA hE hSE hK hi6 hC hM hB1 hB2 (by omega) (by omega) hP hD hS hl kont)
      | 14, _ => exact lv_tableIn (off := 517) (tgt := 550) hx hb dL_law_33 (by decide +kernel) (by decide +kernel) (by decide +kernel) (by decide +kernel) (law_14 l C0 hL hA hbA hE hSE hK hi6 hC hM hB1 hB2 (by omega) (by omega) hP hD hS hl kont)
      | 15, _ => exact lv_tableIn (off := 540) (tgt := 573) hx hb dL_law_33 (by decide +kernel) (by decide +kernel) (by decide +kernel) (by decide +kernel) (law_15 l C0 hL hA hbA hE hSE hK hi6 hC hM hB1 hB2 (by omega) (by omega) hP hD hS hl kont)
      | 16, _ => exact lv_tableIn (off := 563) (tgt := 596) hx hb dL_law_33 (by decide +kernel) (by decide +kernel) (by decide +kernel) (by decide +kernel) (law_16 l C0 hL hA hbA hE hSE hK hi6 hC hM hB1 hB2 (by omega) (by omega) hP hD hS hl kont)
      | 17, _ => exact lv_tableIn (off := 586) (tgt := 619) hx hb dL_law_33 (by decide +kernel) (by decide +kernel) (by decide +kernel) (by decide +kernel) (law_17 l C0 hL hA hbA hE hSE hK hi6 hC hM hB1 hB2 (by omega) (by omega) hP hD hS hl kont)
      | 18, _ => exact lv_tableIn (off := 619) (tgt := 652) hx hb dL_law_33 (by decide +kernel) (by decide +kernel) (by decide +kernel) (by decide +kernel) (law_18 l C0 hL hA hbA hE hSE hK hi6 hC hM hB1 hB2 (by omega) (by omega) hP hD hS hl kont)
      | 19, _ => exact lv_tableIn (off := 652) (tgt := 685) hx hb dL_law_33 (by decide +kernel) (by decide +kernel) (by decide +kernel) (by decide +kernel) (law_19 l C0 hL hA hbA hE hSE hK hi6 hC hM hB1 hB2 (by omega) (by omega) hP hD hS hl kont)
      | 20, _ => exact lv_tableIn (off := 685) (tgt := 718) hx hb dL_law_33 (by decide +kernel) (by decide +kernel) (by decide +kernel) (by decide +kernel) (law_20 l C0 hL hA hbA hE hSE hK hi6 hC hM hB1 hB2 (by omega) (by omega) hP hD hS hl kont)
      | 21, _ => exact lv_tableIn (off := 708) (tgt := 741) hx hb dL_law_33 (by decide +kernel) (by decide +kernel) (by decide +kernel) (by decide +kernel) (law_21 l C0 hL hA hbA hE hSE hK hi6 hC hM hB1 hB2 (by omega) (by omega) hP hD hS hl kont)
      | 22, _ => exact lv_tableIn (off := 731) (tgt := 764) hx hb dL_law_33 (by decide +kernel) (by decide +kernel) (by decide +kernel) (by decide +kernel) (law_22 l C0 hL hA hbA hE hSE hK hi6 hC hM hB1 hB2 (by omega) (by omega) hP hD hS hl kont)
      | 23, _ => exact lv_tableIn (off := 754) (tgt := 787) hx hb dL_law_33 (by decide +kernel) (by decide +kernel) (by decide +kernel) (by decide +kernel) (law_23 l C0 hL hA hbA hE hSE hK hi6 hC hM hB1 hB2 (by omega) (by omega) hP hD hS hl kont)
      | 24, _ => exact lv_tableIn (off := 777) (tgt := 810) hx hb dL_law_33 (by decide +kernel) (by decide +kernel) (by decide +kernel) (by decide +kernel) (law_24 l C0 hL hA hbA hE hSE hK hi6 hC hM hB1 hB2 (by omega) (by omega) hP hD hS hl kont)
      | 25, _ => exact lv_tableOut (tgt := 833) hx hb dL_law_33 (Or.inr (by decide +kernel)) (by decide +kernel) (kont ws g F n σ H locs cells slots hC hM (by omega) (by omega) hP hD hS)
      | 26, _ => exact lv_tableOut (tgt := 833) hx hb dL_law_33 (Or.inr (by decide +kernel)) (by decide +kernel) (kont ws g F n σ H locs cells slots hC hM (by omega) (by omega) hP hD hS)
      | 27, _ => exact lv_tableOut (tgt := 833) hx hb dL_law_33 (Or.inr (by decide +kernel)) (by decide +kernel) (kont ws g F n σ H locs cells slots hC hM (by omega) (by omega) hP hD hS)
      | 28, _ => exact lv_tableOut (tgt := 833) hx hb dL_law_33 (Or.inr (by decide +kernel)) (by decide +kernel) (kont ws g F n σ H locs cells slots hC hM (by omega) (by omega) hP hD hS)
      | 29, _ => exact lv_tableOut (tgt := 833) hx hb dL_law_33 (Or.inr (by decide +kernel)) (by decide +kernel) (kont ws g F n σ H locs cells slots hC hM (by omega) (by omega) hP hD hS)
      | 30, _ => exact lv_tableOut (tgt := 833) hx hb dL_law_33 (Or.inr (by decide +kernel)) (by decide +kernel) (kont ws g F n σ H locs cells slots hC hM (by omega) (by omega) hP hD hS)
      | 31, _ => exact lv_tableOut (tgt := 833) hx hb dL_law_33 (Or.inr (by decide +kernel)) (by decide +kernel) (kont ws g F n σ H locs cells slots hC hM (by omega) (by omega) hP hD hS)
      | jj + 32, hjj => exact absurd hjj (by omega)
