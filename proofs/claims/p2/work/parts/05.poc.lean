def rng (lo hi : Int) (f : Nat → Int32) : Prop := ∀ k, lo ≤ (f k).toInt ∧ (f k).toInt ≤ hi
theorem rng_upd {lo hi : Int} {f : Nat → Int32} {k : Nat} {x : Int32} (h : rng lo hi f) (h1 : lo ≤ x.toInt) (h2 : x.toInt ≤ hi) : rng lo hi (upd f k x) := by
  intro j
  unfold upd
  split
  · exact ⟨h1, h2⟩
  · exact h j
abbrev MInv (g : Nat → Int32) (F : Nat → Nat → Int32) : Prop := (0 ≤ (g 1).toInt ∧ (g 1).toInt ≤ 2000) ∧ (0 ≤ (g 2).toInt ∧ (g 2).toInt ≤ 2000) ∧ (0 ≤ (g 3).toInt ∧ (g 3).toInt ≤ 4) ∧ (-1 ≤ (g 4).toInt ∧ (g 4).toInt ≤ 8) ∧ (0 ≤ (g 5).toInt ∧ (g 5).toInt ≤ 2000) ∧ (0 ≤ (g 6).toInt ∧ (g 6).toInt ≤ 2001) ∧ (0 ≤ (g 7).toInt ∧ (g 7).toInt ≤ 4) ∧ (-1 ≤ (g 8).toInt ∧ (g 8).toInt ≤ 2000) ∧ (0 ≤ (g 9).toInt ∧ (g 9).toInt ≤ 6) ∧ (0 ≤ (g 23).toInt ∧ (g 23).toInt ≤ 24) ∧ (0 ≤ (g 27).toInt ∧ (g 27).toInt ≤ 30) ∧ (0 ≤ (g 30).toInt ∧ (g 30).toInt ≤ 384) ∧ (0 ≤ (g 34).toInt ∧ (g 34).toInt ≤ 30) ∧ (0 ≤ (g 36).toInt ∧ (g 36).toInt ≤ 1) ∧ (0 ≤ (g 39).toInt ∧ (g 39).toInt ≤ 12) ∧ (0 ≤ (g 44).toInt ∧ (g 44).toInt ≤ 12) ∧ (0 ≤ (g 47).toInt ∧ (g 47).toInt ≤ 30) ∧ (0 ≤ (g 48).toInt ∧ (g 48).toInt ≤ 100) ∧ (0 ≤ (g 51).toInt ∧ (g 51).toInt ≤ 1) ∧ (0 ≤ (g 56).toInt ∧ (g 56).toInt ≤ 100) ∧ (0 ≤ (g 59).toInt ∧ (g 59).toInt ≤ 200) ∧ (0 ≤ (g 62).toInt ∧ (g 62).toInt ≤ 2500) ∧ (0 ≤ (g 65).toInt ∧ (g 65).toInt ≤ 1) ∧ (0 ≤ (g 66).toInt ∧ (g 66).toInt ≤ 2500) ∧ (0 ≤ (g 70).toInt ∧ (g 70).toInt ≤ 40) ∧ rng (0) 40 (F 11) ∧ rng (0) 40 (F 12) ∧ rng (0) 40 (F 13) ∧ rng (-1) 16 (F 15) ∧ rng (0) 16 (F 19) ∧ rng (-1) 16 (F 21) ∧ rng (0) 24 (F 24) ∧ rng (0) 24 (F 25) ∧ rng (0) 24 (F 26) ∧ rng (0) 24 (F 33) ∧ rng (0) 24 (F 38) ∧ rng (0) 24 (F 41) ∧ rng (0) 24 (F 43) ∧ rng (0) 24 (F 45) ∧ rng (0) 24 (F 46) ∧ rng (0) 24 (F 50) ∧ rng (0) 24 (F 53) ∧ rng (0) 12 (F 54)
theorem z_01 {v : Int32} (h : 0 ≤ v.toInt ∧ v.toInt ≤ 1) : v = 0 ∨ v = 1 := by
  rcases (show v.toInt = 0 ∨ v.toInt = 1 by omega) with q | q
  · exact Or.inl (z_e (by rw [q]; decide))
  · exact Or.inr (z_e (by rw [q]; decide))
theorem z_nb {v : Int32} (h : 0 ≤ v.toInt ∧ v.toInt ≤ 1) : narrow .boolean (.int v) = .int v := by
  rcases z_01 h with rfl | rfl <;> rfl
theorem z_fb {v : Int32} (h : 0 ≤ v.toInt ∧ v.toInt ≤ 1) : fits .boolean (.int v) = true := by
  rcases z_01 h with rfl | rfl <;> rfl
theorem z_and255 (x : Int32) : 0 ≤ (x &&& 255).toInt ∧ (x &&& 255).toInt ≤ 255 := by
  obtain ⟨j, hj, e⟩ := pk_andE x (m := 255) 8 (by decide)
  rw [e, nI_toInt (by omega)]
  omega
def veX12_isSmall : List Cond := [Cond.code yX12_isSmall cX12_isSmall 1 (some .boolean)]
def vmX12_isSmall : List Cond := veX12_isSmall ++ wsX120
def veX12_isLetter : List Cond := [Cond.code yX12_isLetter cX12_isLetter 1 (some .boolean), Cond.methodLink RX12 183 yX12_isSmall, Cond.static yX12_isSmall, Cond.initialized RX12, Cond.code yX12_isSmall cX12_isSmall 1 (some .boolean)]
def vmX12_isLetter : List Cond := veX12_isLetter ++ wsX120
def veX12_see : List Cond := [Cond.code yX12_see cX12_see 2 (some .int), Cond.fieldLink RX12 155 "SpellTurnerModel" "size" "I", Cond.fieldLink RX12 7 "SpellTurnerModel" "tape" "[B"]
def vmX12_see : List Cond := veX12_see ++ wsX120
def veX12_wrong : List Cond := [Cond.code yX12_wrong cX12_wrong 2 (some .boolean), Cond.fieldLink RX12 194 "SpellTurnerModel" "faultKind" "I", Cond.fieldLink RX12 177 "SpellTurnerModel" "at" "I", Cond.fieldLink RX12 13 "SpellTurnerModel" "faultPlace" "I"]
def vmX12_wrong : List Cond := veX12_wrong ++ wsX120
def veX12_in : List Cond := [Cond.code yX12_in cX12_in 3 (some .boolean)]
def vmX12_in : List Cond := veX12_in ++ wsX120
def veX12_isStage : List Cond := [Cond.code yX12_isStage cX12_isStage 2 (some .boolean), Cond.fieldLink RX12 222 "SpellTurnerModel" "reforms" "I", Cond.methodLink RX12 226 yX12_in, Cond.static yX12_in, Cond.initialized RX12, Cond.code yX12_in cX12_in 3 (some .boolean)]
def vmX12_isStage : List Cond := veX12_isStage ++ wsX120
def veX12_hasNought : List Cond := [Cond.code yX12_hasNought cX12_hasNought 3 (some .boolean), Cond.fieldLink RX12 7 "SpellTurnerModel" "tape" "[B"]
def vmX12_hasNought : List Cond := veX12_hasNought ++ wsX120
set_option maxRecDepth 100000 in
theorem vm_X12_isLetter_X12_isSmall : GoodIn vmX12_isLetter vmX12_isSmall := goodIn_app (goodIn_r (big := vmX12_isLetter) veX12_isSmall [4] (by decide +kernel) (by decide +kernel)) (gb_X12 (fun _ h => List.mem_append_right _ h))
theorem gw_X12_isLetter_X12_isSmall_183 : GoodIn vmX12_isLetter (va_wsS RX12 183 yX12_isSmall vmX12_isSmall) := goodIn_app (goodIn_r (big := vmX12_isLetter) _ [1, 2, 3] (by decide +kernel) (by decide +kernel)) vm_X12_isLetter_X12_isSmall
set_option maxRecDepth 100000 in
theorem vm_X12_isStage_X12_in : GoodIn vmX12_isStage vmX12_in := goodIn_app (goodIn_r (big := vmX12_isStage) veX12_in [5] (by decide +kernel) (by decide +kernel)) (gb_X12 (fun _ h => List.mem_append_right _ h))
theorem gw_X12_isStage_X12_in_226 : GoodIn vmX12_isStage (va_wsS RX12 226 yX12_in vmX12_in) := goodIn_app (goodIn_r (big := vmX12_isStage) _ [2, 3, 4] (by decide +kernel) (by decide +kernel)) vm_X12_isStage_X12_in
