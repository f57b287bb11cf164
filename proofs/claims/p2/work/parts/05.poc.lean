def rng (lo hi : Int) (f : Nat → Int32) : Prop := ∀ k, lo ≤ (f k).toInt ∧ (f k).toInt ≤ hi
theorem rng_upd {lo hi : Int} {f : Nat → Int32} {k : Nat} {x : Int32} (h : rng lo hi f) (h1 : lo ≤ x.toInt) (h2 : x.toInt ≤ hi) : rng lo hi (upd f k x) := by
  intro j
  unfold upd
  split
  · exact ⟨h1, h2⟩
  · exact h j
abbrev MInv (g : Nat → Int32) (F : Nat → Nat → Int32) : Prop := (0 ≤ (g 1).toInt ∧ (g 1).toInt ≤ 2000) ∧ (0 ≤ (g 2).toInt ∧ (g 2).toInt ≤ 2000) ∧ (0 ≤ (g 3).toInt ∧ (g 3).toInt ≤ 4) ∧ (-1 ≤ (g 4).toInt ∧ (g 4).toInt ≤ 8) ∧ (0 ≤ (g 5).toInt ∧ (g 5).toInt ≤ 2000) ∧ (0 ≤ (g 6).toInt ∧ (g 6).toInt ≤ 2001) ∧ (0 ≤ (g 7).toInt ∧ (g 7).toInt ≤ 4) ∧ (-1 ≤ (g 8).toInt ∧ (g 8).toInt ≤ 2000) ∧ (0 ≤ (g 9).toInt ∧ (g 9).toInt ≤ 6) ∧ (0 ≤ (g 23).toInt ∧ (g 23).toInt ≤ 24) ∧ (0 ≤ (g 27).toInt ∧ (g 27).toInt ≤ 30) ∧ (0 ≤ (g 30).toInt ∧ (g 30).toInt ≤ 384) ∧ (0 ≤ (g 34).toInt ∧ (g 34).toInt ≤ 30) ∧ (0 ≤ (g 36).toInt ∧ (g 36).toInt ≤ 1) ∧ (0 ≤ (g 39).toInt ∧ (g 39).toInt ≤ 12) ∧ (0 ≤ (g 44).toInt ∧ (g 44).toInt ≤ 12) ∧ (0 ≤ (g 47).toInt ∧ (g 47).toInt ≤ 30) ∧ (0 ≤ (g 48).toInt ∧ (g 48).toInt ≤ 100) ∧ (0 ≤ (g 51).toInt ∧ (g 51).toInt ≤ 1) ∧ (0 ≤ (g 56).toInt ∧ (g 56).toInt ≤ 100) ∧ (0 ≤ (g 59).toInt ∧ (g 59).toInt ≤ 200) ∧ (0 ≤ (g 62).toInt ∧ (g 62).toInt ≤ 2500) ∧ (0 ≤ (g 65).toInt ∧ (g 65).toInt ≤ 1) ∧ (0 ≤ (g 66).toInt ∧ (g 66).toInt ≤ 2500) ∧ (0 ≤ (g 70).toInt ∧ (g 70).toInt ≤ 40) ∧ rng (0) 40 (F 11) ∧ rng (0) 40 (F 12) ∧ rng (0) 40 (F 13) ∧ rng (-1) 16 (F 15) ∧ rng (0) 16 (F 19) ∧ rng (-1) 16 (F 21) ∧ rng (0) 24 (F 24) ∧ rng (0) 24 (F 25) ∧ rng (0) 24 (F 26) ∧ rng (0) 24 (F 33) ∧ rng (0) 24 (F 38) ∧ rng (0) 24 (F 41) ∧ rng (0) 24 (F 43) ∧ rng (0) 24 (F 45) ∧ rng (0) 24 (F 46) ∧ rng (0) 24 (F 50) ∧ rng (0) 24 (F 53) ∧ rng (0) 12 (F 54)
theorem z_01 {v : Int32} (h : 0 ≤ v.toInt ∧ v.toInt ≤ 1) : v = 0 ∨ v = 1 := by
  rcases (show v.toInt = 0 ∨ v.toInt = 1 by omega) with q | q
  · exact Or.inl (z_e (by rw [q]; decide))
  · exact Or.inr (z_e (by rw [q]; decide))
theorem z_nb {v : Int32} (h : 0 ≤ v.toInt ∧ v.toInt ≤ 1) : narrow .boolean (.int v) = .int v := by
  rcases z_01 h with rfl | rfl <;> rfl
theorem z_fb {v : Int32} (h : 0 ≤ v.toInt ∧ v.toInt ≤ 1) : fits .boolean (.int v) = true := by
  rcases z_01 h with rfl | rfl <;> rfl
theorem z_and255 (x : Int32) : 0 ≤ (x &&& 255).toInt ∧ (x &&& 255).toInt ≤ 255 := by
  obtain ⟨j, hj, e⟩ := pk_andE x (m := 255) 8 (by decide)
  rw [e, nI_toInt (by omega)]
  omega
def veX12_isSmall : List Cond := [Cond.code yX12_isSmall cX12_isSmall 1 (some .boolean)]
def vmX12_isSmall : List Cond := veX12_isSmall ++ wsX120
def veX12_isLetter : List Cond := [Cond.code yX12_isLetter cX12_isLetter 1 (some .boolean), Cond.methodLink RX12 183 yX12_isSmall, Cond.static yX12_isSmall, Cond.initialized RX12, Cond.code yX12_isSmall cX12_isSmall 1 (some .boolean)]
def vmX12_isLetter : List Cond := veX12_isLetter ++ wsX120
def veX12_see : List Cond := [Cond.code yX12_see cX12_see 2 (some .int), Cond.fieldLink RX12 155 "SpellTurnerModel" "size" "I", Cond.fieldLink RX12 7 "SpellTurnerModel" "tape" "[B"]
def vmX12_see : List Cond := veX12_see ++ wsX120
def veX12_wrong : List Cond := [Cond.code yX12_wrong cX12_wrong 2 (some .boolean), Cond.fieldLink RX12 194 "SpellTurnerModel" "faultKind" "I", Cond.fieldLink RX12 177 "SpellTurnerModel" "at" "I", Cond.fieldLink RX12 13 "SpellTurnerModel" "faultPlace" "I"]
def vmX12_wrong : List Cond := veX12_wrong ++ wsX120
def veX12_in : List Cond := [Cond.code yX12_in cX12_in 3 (some .boolean)]
def vmX12_in : List Cond := veX12_in ++ wsX120
def veX12_isStage : List Cond := [Cond.code yX12_isStage cX12_isStage 2 (some .boolean), Cond.fieldLink RX12 222 "SpellTurnerModel" "reforms" "I", Cond.methodLink RX12 226 yX12_in, Cond.static yX12_in, Cond.initialized RX12, Cond.code yX12_in cX12_in 3 (some .boolean)]
def vmX12_isStage : List Cond := veX12_isStage ++ wsX120
def veX12_hasNought : List Cond := [Cond.code yX12_hasNought cX12_hasNought 3 (some .boolean), Cond.fieldLink RX12 7 "SpellTurnerModel" "tape" "[B"]
def vmX12_hasNought : List Cond := veX12_hasNought ++ wsX120
def veX12_end : List Cond := [Cond.code yX12_end cX12_end 2 (some .int), Cond.fieldLink RX12 152 "SpellTurnerModel" "taped" "I"]
def vmX12_end : List Cond := veX12_end ++ wsX120
def veX12_feed : List Cond := [Cond.code yX12_feed cX12_feed 9 (some .int), Cond.fieldLink RX12 152 "SpellTurnerModel" "taped" "I", Cond.fieldLink RX12 7 "SpellTurnerModel" "tape" "[B"]
def vmX12_feed : List Cond := veX12_feed ++ wsX120
def veX12_fault : List Cond := [Cond.code yX12_fault cX12_fault 2 (some .int), Cond.fieldLink RX12 13 "SpellTurnerModel" "faultPlace" "I", Cond.fieldLink RX12 194 "SpellTurnerModel" "faultKind" "I"]
def vmX12_fault : List Cond := veX12_fault ++ wsX120
def veX12_stage : List Cond := [Cond.code yX12_stage cX12_stage 4 (some .int), Cond.constant RX12 225 (100000), Cond.methodLink RX12 226 yX12_in, Cond.static yX12_in, Cond.initialized RX12, Cond.fieldLink RX12 222 "SpellTurnerModel" "reforms" "I", Cond.fieldLink RX12 17 "SpellTurnerModel" "day" "[I", Cond.code yX12_in cX12_in 3 (some .boolean)]
def vmX12_stage : List Cond := veX12_stage ++ wsX120
def veX12_about : List Cond := [Cond.code yX12_about cX12_about 5 (some .int), Cond.fieldLink RX12 222 "SpellTurnerModel" "reforms" "I", Cond.methodLink RX12 226 yX12_in, Cond.static yX12_in, Cond.initialized RX12, Cond.fieldLink RX12 27 "SpellTurnerModel" "listed" "[I", Cond.fieldLink RX12 17 "SpellTurnerModel" "day" "[I", Cond.fieldLink RX12 21 "SpellTurnerModel" "laws" "[I", Cond.fieldLink RX12 24 "SpellTurnerModel" "parts" "[I", Cond.fieldLink RX12 52 "SpellTurnerModel" "listSize" "[I", Cond.code yX12_in cX12_in 3 (some .boolean)]
def vmX12_about : List Cond := veX12_about ++ wsX120
def veX12_form : List Cond := [Cond.code yX12_form cX12_form 3 (some .int), Cond.fieldLink RX12 306 "SpellTurnerModel" "tolds" "I", Cond.methodLink RX12 226 yX12_in, Cond.static yX12_in, Cond.initialized RX12, Cond.fieldLink RX12 97 "SpellTurnerModel" "toldSize" "[I", Cond.fieldLink RX12 94 "SpellTurnerModel" "told" "[B", Cond.code yX12_in cX12_in 3 (some .boolean)]
def vmX12_form : List Cond := veX12_form ++ wsX120
def veX12_parting : List Cond := [Cond.code yX12_parting cX12_parting 3 (some .int), Cond.fieldLink RX12 309 "SpellTurnerModel" "toldWayMany" "I", Cond.methodLink RX12 226 yX12_in, Cond.static yX12_in, Cond.initialized RX12, Cond.fieldLink RX12 103 "SpellTurnerModel" "toldParts" "[I", Cond.fieldLink RX12 100 "SpellTurnerModel" "toldWays" "[I", Cond.code yX12_in cX12_in 3 (some .boolean)]
def vmX12_parting : List Cond := veX12_parting ++ wsX120
def veX12_word : List Cond := [Cond.code yX12_word cX12_word 3 (some .int), Cond.fieldLink RX12 312 "SpellTurnerModel" "words" "I", Cond.methodLink RX12 226 yX12_in, Cond.static yX12_in, Cond.initialized RX12, Cond.fieldLink RX12 109 "SpellTurnerModel" "bookSize" "[I", Cond.fieldLink RX12 106 "SpellTurnerModel" "bookText" "[B", Cond.code yX12_in cX12_in 3 (some .boolean)]
def vmX12_word : List Cond := veX12_word ++ wsX120
def veX12_old : List Cond := [Cond.code yX12_old cX12_old 2 (some .int), Cond.fieldLink RX12 318 "SpellTurnerModel" "oldMany" "I", Cond.methodLink RX12 226 yX12_in, Cond.static yX12_in, Cond.initialized RX12, Cond.fieldLink RX12 122 "SpellTurnerModel" "olds" "[I", Cond.code yX12_in cX12_in 3 (some .boolean)]
def vmX12_old : List Cond := veX12_old ++ wsX120
def veX12_collision : List Cond := [Cond.code yX12_collision cX12_collision 2 (some .int), Cond.fieldLink RX12 325 "SpellTurnerModel" "pairMany" "I", Cond.methodLink RX12 226 yX12_in, Cond.static yX12_in, Cond.initialized RX12, Cond.fieldLink RX12 128 "SpellTurnerModel" "pairs" "[I", Cond.code yX12_in cX12_in 3 (some .boolean)]
def vmX12_collision : List Cond := veX12_collision ++ wsX120
def veX12_written : List Cond := [Cond.code yX12_written cX12_written 2 (some .int), Cond.fieldLink RX12 361 "SpellTurnerModel" "texted" "I", Cond.methodLink RX12 226 yX12_in, Cond.static yX12_in, Cond.initialized RX12, Cond.fieldLink RX12 131 "SpellTurnerModel" "text" "[B", Cond.code yX12_in cX12_in 3 (some .boolean)]
def vmX12_written : List Cond := veX12_written ++ wsX120
def veX12_counted : List Cond := [Cond.code yX12_counted cX12_counted 2 (some .int), Cond.fieldLink RX12 364 "SpellTurnerModel" "hasText" "Z", Cond.methodLink RX12 226 yX12_in, Cond.static yX12_in, Cond.initialized RX12, Cond.fieldLink RX12 137 "SpellTurnerModel" "counts" "[I", Cond.code yX12_in cX12_in 3 (some .boolean)]
def vmX12_counted : List Cond := veX12_counted ++ wsX120
def veX12_line : List Cond := [Cond.code yX12_line cX12_line 2 (some .int), Cond.fieldLink RX12 374 "SpellTurnerModel" "lines" "I", Cond.methodLink RX12 226 yX12_in, Cond.static yX12_in, Cond.initialized RX12, Cond.fieldLink RX12 149 "SpellTurnerModel" "stageOf" "[I", Cond.code yX12_in cX12_in 3 (some .boolean)]
def vmX12_line : List Cond := veX12_line ++ wsX120
def veX12_count : List Cond := [Cond.code yX12_count cX12_count 2 (some .int), Cond.fieldLink RX12 152 "SpellTurnerModel" "taped" "I", Cond.fieldLink RX12 312 "SpellTurnerModel" "words" "I", Cond.fieldLink RX12 222 "SpellTurnerModel" "reforms" "I"]
def vmX12_count : List Cond := veX12_count ++ wsX120
def veX12_isName : List Cond := [Cond.code yX12_isName cX12_isName 4 (some .boolean), Cond.fieldLink RX12 7 "SpellTurnerModel" "tape" "[B", Cond.methodLink RX12 183 yX12_isSmall, Cond.static yX12_isSmall, Cond.initialized RX12, Cond.code yX12_isSmall cX12_isSmall 1 (some .boolean)]
def vmX12_isName : List Cond := veX12_isName ++ wsX120
def veX12_quoted : List Cond := [Cond.code yX12_quoted cX12_quoted 4 (some .int), Cond.fieldLink RX12 7 "SpellTurnerModel" "tape" "[B"]
def vmX12_quoted : List Cond := veX12_quoted ++ wsX120
def veX12_isWordPart : List Cond := [Cond.code yX12_isWordPart cX12_isWordPart 7 (some .boolean), Cond.fieldLink RX12 24 "SpellTurnerModel" "parts" "[I", Cond.fieldLink RX12 46 "SpellTurnerModel" "partSize" "[I", Cond.fieldLink RX12 43 "SpellTurnerModel" "partText" "[B", Cond.fieldLink RX12 55 "SpellTurnerModel" "word" "[B"]
def vmX12_isWordPart : List Cond := veX12_isWordPart ++ wsX120
def veX12_takeWord : List Cond := [Cond.code yX12_takeWord cX12_takeWord 5 none, Cond.fieldLink RX12 244 "SpellTurnerModel" "letters" "I", Cond.fieldLink RX12 55 "SpellTurnerModel" "word" "[B"]
def vmX12_takeWord : List Cond := veX12_takeWord ++ wsX120
def veX12_readWord : List Cond := [Cond.code yX12_readWord cX12_readWord 3 (some .boolean), Cond.fieldLink RX12 152 "SpellTurnerModel" "taped" "I", Cond.methodLink RX12 226 yX12_in, Cond.static yX12_in, Cond.initialized RX12, Cond.fieldLink RX12 7 "SpellTurnerModel" "tape" "[B", Cond.methodLink RX12 290 yX12_takeWord, Cond.instanceMethod yX12_takeWord, Cond.selects RX12 yX12_takeWord yX12_takeWord, Cond.methodLink RX12 183 yX12_isSmall, Cond.static yX12_isSmall, Cond.code yX12_in cX12_in 3 (some .boolean), Cond.code yX12_takeWord cX12_takeWord 5 none, Cond.fieldLink RX12 244 "SpellTurnerModel" "letters" "I", Cond.fieldLink RX12 55 "SpellTurnerModel" "word" "[B", Cond.code yX12_isSmall cX12_isSmall 1 (some .boolean)]
def vmX12_readWord : List Cond := veX12_readWord ++ wsX120
def veX12_write1 : List Cond := [Cond.code yX12_write1 cX12_write1 5 (some .boolean), Cond.fieldLink RX12 337 "SpellTurnerModel" "drafted" "I", Cond.fieldLink RX12 134 "SpellTurnerModel" "draft" "[B"]
def vmX12_write1 : List Cond := veX12_write1 ++ wsX120
def veX12_sameBytes : List Cond := [Cond.code yX12_sameBytes cX12_sameBytes 7 (some .boolean)]
def vmX12_sameBytes : List Cond := veX12_sameBytes ++ wsX120
def veX12_hasForm : List Cond := [Cond.code yX12_hasForm cX12_hasForm 7 (some .boolean), Cond.fieldLink RX12 119 "SpellTurnerModel" "formMany" "[I", Cond.fieldLink RX12 113 "SpellTurnerModel" "formText" "[B", Cond.fieldLink RX12 116 "SpellTurnerModel" "formSize" "[I", Cond.methodLink RX12 273 yX12_sameBytes, Cond.static yX12_sameBytes, Cond.initialized RX12, Cond.code yX12_sameBytes cX12_sameBytes 7 (some .boolean)]
def vmX12_hasForm : List Cond := veX12_hasForm ++ wsX120
def veX12_isKnown : List Cond := [Cond.code yX12_isKnown cX12_isKnown 5 (some .boolean), Cond.fieldLink RX12 312 "SpellTurnerModel" "words" "I", Cond.fieldLink RX12 7 "SpellTurnerModel" "tape" "[B", Cond.methodLink RX12 321 yX12_hasForm, Cond.instanceMethod yX12_hasForm, Cond.selects RX12 yX12_hasForm yX12_hasForm, Cond.initialized RX12, Cond.code yX12_hasForm cX12_hasForm 7 (some .boolean), Cond.fieldLink RX12 119 "SpellTurnerModel" "formMany" "[I", Cond.fieldLink RX12 113 "SpellTurnerModel" "formText" "[B", Cond.fieldLink RX12 116 "SpellTurnerModel" "formSize" "[I", Cond.methodLink RX12 273 yX12_sameBytes, Cond.static yX12_sameBytes, Cond.code yX12_sameBytes cX12_sameBytes 7 (some .boolean)]
def vmX12_isKnown : List Cond := veX12_isKnown ++ wsX120
def veX12_stands : List Cond := [Cond.code yX12_stands cX12_stands 6 (some .boolean), Cond.fieldLink RX12 33 "SpellTurnerModel" "lawSize" "[I", Cond.fieldLink RX12 30 "SpellTurnerModel" "lawText" "[B"]
def vmX12_stands : List Cond := veX12_stands ++ wsX120
def veX12_same : List Cond := [Cond.code yX12_same cX12_same 5 (some .boolean)]
def vmX12_same : List Cond := veX12_same ++ wsX120
set_option maxRecDepth 100000 in
theorem vm_X12_isLetter_X12_isSmall : GoodIn vmX12_isLetter vmX12_isSmall := goodIn_app (goodIn_r (big := vmX12_isLetter) veX12_isSmall [4] (by decide +kernel) (by decide +kernel)) (gb_X12 (fun _ h => List.mem_append_right _ h))
theorem gw_X12_isLetter_X12_isSmall_183 : GoodIn vmX12_isLetter (va_wsS RX12 183 yX12_isSmall vmX12_isSmall) := goodIn_app (goodIn_r (big := vmX12_isLetter) _ [1, 2, 3] (by decide +kernel) (by decide +kernel)) vm_X12_isLetter_X12_isSmall
set_option maxRecDepth 100000 in
theorem vm_X12_isStage_X12_in : GoodIn vmX12_isStage vmX12_in := goodIn_app (goodIn_r (big := vmX12_isStage) veX12_in [5] (by decide +kernel) (by decide +kernel)) (gb_X12 (fun _ h => List.mem_append_right _ h))
theorem gw_X12_isStage_X12_in_226 : GoodIn vmX12_isStage (va_wsS RX12 226 yX12_in vmX12_in) := goodIn_app (goodIn_r (big := vmX12_isStage) _ [2, 3, 4] (by decide +kernel) (by decide +kernel)) vm_X12_isStage_X12_in
set_option maxRecDepth 100000 in
theorem vm_X12_stage_X12_in : GoodIn vmX12_stage vmX12_in := goodIn_app (goodIn_r (big := vmX12_stage) veX12_in [7] (by decide +kernel) (by decide +kernel)) (gb_X12 (fun _ h => List.mem_append_right _ h))
theorem gw_X12_stage_X12_in_226 : GoodIn vmX12_stage (va_wsS RX12 226 yX12_in vmX12_in) := goodIn_app (goodIn_r (big := vmX12_stage) _ [2, 3, 4] (by decide +kernel) (by decide +kernel)) vm_X12_stage_X12_in
set_option maxRecDepth 100000 in
theorem vm_X12_about_X12_in : GoodIn vmX12_about vmX12_in := goodIn_app (goodIn_r (big := vmX12_about) veX12_in [10] (by decide +kernel) (by decide +kernel)) (gb_X12 (fun _ h => List.mem_append_right _ h))
theorem gw_X12_about_X12_in_226 : GoodIn vmX12_about (va_wsS RX12 226 yX12_in vmX12_in) := goodIn_app (goodIn_r (big := vmX12_about) _ [2, 3, 4] (by decide +kernel) (by decide +kernel)) vm_X12_about_X12_in
set_option maxRecDepth 100000 in
theorem vm_X12_form_X12_in : GoodIn vmX12_form vmX12_in := goodIn_app (goodIn_r (big := vmX12_form) veX12_in [7] (by decide +kernel) (by decide +kernel)) (gb_X12 (fun _ h => List.mem_append_right _ h))
theorem gw_X12_form_X12_in_226 : GoodIn vmX12_form (va_wsS RX12 226 yX12_in vmX12_in) := goodIn_app (goodIn_r (big := vmX12_form) _ [2, 3, 4] (by decide +kernel) (by decide +kernel)) vm_X12_form_X12_in
set_option maxRecDepth 100000 in
theorem vm_X12_parting_X12_in : GoodIn vmX12_parting vmX12_in := goodIn_app (goodIn_r (big := vmX12_parting) veX12_in [7] (by decide +kernel) (by decide +kernel)) (gb_X12 (fun _ h => List.mem_append_right _ h))
theorem gw_X12_parting_X12_in_226 : GoodIn vmX12_parting (va_wsS RX12 226 yX12_in vmX12_in) := goodIn_app (goodIn_r (big := vmX12_parting) _ [2, 3, 4] (by decide +kernel) (by decide +kernel)) vm_X12_parting_X12_in
set_option maxRecDepth 100000 in
theorem vm_X12_word_X12_in : GoodIn vmX12_word vmX12_in := goodIn_app (goodIn_r (big := vmX12_word) veX12_in [7] (by decide +kernel) (by decide +kernel)) (gb_X12 (fun _ h => List.mem_append_right _ h))
theorem gw_X12_word_X12_in_226 : GoodIn vmX12_word (va_wsS RX12 226 yX12_in vmX12_in) := goodIn_app (goodIn_r (big := vmX12_word) _ [2, 3, 4] (by decide +kernel) (by decide +kernel)) vm_X12_word_X12_in
set_option maxRecDepth 100000 in
theorem vm_X12_old_X12_in : GoodIn vmX12_old vmX12_in := goodIn_app (goodIn_r (big := vmX12_old) veX12_in [6] (by decide +kernel) (by decide +kernel)) (gb_X12 (fun _ h => List.mem_append_right _ h))
theorem gw_X12_old_X12_in_226 : GoodIn vmX12_old (va_wsS RX12 226 yX12_in vmX12_in) := goodIn_app (goodIn_r (big := vmX12_old) _ [2, 3, 4] (by decide +kernel) (by decide +kernel)) vm_X12_old_X12_in
set_option maxRecDepth 100000 in
theorem vm_X12_collision_X12_in : GoodIn vmX12_collision vmX12_in := goodIn_app (goodIn_r (big := vmX12_collision) veX12_in [6] (by decide +kernel) (by decide +kernel)) (gb_X12 (fun _ h => List.mem_append_right _ h))
theorem gw_X12_collision_X12_in_226 : GoodIn vmX12_collision (va_wsS RX12 226 yX12_in vmX12_in) := goodIn_app (goodIn_r (big := vmX12_collision) _ [2, 3, 4] (by decide +kernel) (by decide +kernel)) vm_X12_collision_X12_in
set_option maxRecDepth 100000 in
theorem vm_X12_written_X12_in : GoodIn vmX12_written vmX12_in := goodIn_app (goodIn_r (big := vmX12_written) veX12_in [6] (by decide +kernel) (by decide +kernel)) (gb_X12 (fun _ h => List.mem_append_right _ h))
theorem gw_X12_written_X12_in_226 : GoodIn vmX12_written (va_wsS RX12 226 yX12_in vmX12_in) := goodIn_app (goodIn_r (big := vmX12_written) _ [2, 3, 4] (by decide +kernel) (by decide +kernel)) vm_X12_written_X12_in
set_option maxRecDepth 100000 in
theorem vm_X12_counted_X12_in : GoodIn vmX12_counted vmX12_in := goodIn_app (goodIn_r (big := vmX12_counted) veX12_in [6] (by decide +kernel) (by decide +kernel)) (gb_X12 (fun _ h => List.mem_append_right _ h))
theorem gw_X12_counted_X12_in_226 : GoodIn vmX12_counted (va_wsS RX12 226 yX12_in vmX12_in) := goodIn_app (goodIn_r (big := vmX12_counted) _ [2, 3, 4] (by decide +kernel) (by decide +kernel)) vm_X12_counted_X12_in
set_option maxRecDepth 100000 in
theorem vm_X12_line_X12_in : GoodIn vmX12_line vmX12_in := goodIn_app (goodIn_r (big := vmX12_line) veX12_in [6] (by decide +kernel) (by decide +kernel)) (gb_X12 (fun _ h => List.mem_append_right _ h))
theorem gw_X12_line_X12_in_226 : GoodIn vmX12_line (va_wsS RX12 226 yX12_in vmX12_in) := goodIn_app (goodIn_r (big := vmX12_line) _ [2, 3, 4] (by decide +kernel) (by decide +kernel)) vm_X12_line_X12_in
set_option maxRecDepth 100000 in
theorem vm_X12_isName_X12_isSmall : GoodIn vmX12_isName vmX12_isSmall := goodIn_app (goodIn_r (big := vmX12_isName) veX12_isSmall [5] (by decide +kernel) (by decide +kernel)) (gb_X12 (fun _ h => List.mem_append_right _ h))
theorem gw_X12_isName_X12_isSmall_183 : GoodIn vmX12_isName (va_wsS RX12 183 yX12_isSmall vmX12_isSmall) := goodIn_app (goodIn_r (big := vmX12_isName) _ [2, 3, 4] (by decide +kernel) (by decide +kernel)) vm_X12_isName_X12_isSmall
set_option maxRecDepth 100000 in
theorem vm_X12_readWord_X12_in : GoodIn vmX12_readWord vmX12_in := goodIn_app (goodIn_r (big := vmX12_readWord) veX12_in [11] (by decide +kernel) (by decide +kernel)) (gb_X12 (fun _ h => List.mem_append_right _ h))
theorem gw_X12_readWord_X12_in_226 : GoodIn vmX12_readWord (va_wsS RX12 226 yX12_in vmX12_in) := goodIn_app (goodIn_r (big := vmX12_readWord) _ [2, 3, 4] (by decide +kernel) (by decide +kernel)) vm_X12_readWord_X12_in
set_option maxRecDepth 100000 in
theorem vm_X12_readWord_X12_takeWord : GoodIn vmX12_readWord vmX12_takeWord := goodIn_app (goodIn_r (big := vmX12_readWord) veX12_takeWord [12, 13, 14] (by decide +kernel) (by decide +kernel)) (gb_X12 (fun _ h => List.mem_append_right _ h))
theorem gw_X12_readWord_X12_takeWord_290 : GoodIn vmX12_readWord (wsV RX12 290 RX12 yX12_takeWord vmX12_takeWord) := goodIn_app (goodIn_r (big := vmX12_readWord) _ [6, 7, 8, 4] (by decide +kernel) (by decide +kernel)) vm_X12_readWord_X12_takeWord
set_option maxRecDepth 100000 in
theorem vm_X12_readWord_X12_isSmall : GoodIn vmX12_readWord vmX12_isSmall := goodIn_app (goodIn_r (big := vmX12_readWord) veX12_isSmall [15] (by decide +kernel) (by decide +kernel)) (gb_X12 (fun _ h => List.mem_append_right _ h))
theorem gw_X12_readWord_X12_isSmall_183 : GoodIn vmX12_readWord (va_wsS RX12 183 yX12_isSmall vmX12_isSmall) := goodIn_app (goodIn_r (big := vmX12_readWord) _ [9, 10, 4] (by decide +kernel) (by decide +kernel)) vm_X12_readWord_X12_isSmall
set_option maxRecDepth 100000 in
theorem vm_X12_hasForm_X12_sameBytes : GoodIn vmX12_hasForm vmX12_sameBytes := goodIn_app (goodIn_r (big := vmX12_hasForm) veX12_sameBytes [7] (by decide +kernel) (by decide +kernel)) (gb_X12 (fun _ h => List.mem_append_right _ h))
theorem gw_X12_hasForm_X12_sameBytes_273 : GoodIn vmX12_hasForm (va_wsS RX12 273 yX12_sameBytes vmX12_sameBytes) := goodIn_app (goodIn_r (big := vmX12_hasForm) _ [4, 5, 6] (by decide +kernel) (by decide +kernel)) vm_X12_hasForm_X12_sameBytes
set_option maxRecDepth 100000 in
theorem vm_X12_isKnown_X12_hasForm : GoodIn vmX12_isKnown vmX12_hasForm := goodIn_app (goodIn_r (big := vmX12_isKnown) veX12_hasForm [7, 8, 9, 10, 11, 12, 6, 13] (by decide +kernel) (by decide +kernel)) (gb_X12 (fun _ h => List.mem_append_right _ h))
theorem gw_X12_isKnown_X12_hasForm_321 : GoodIn vmX12_isKnown (wsV RX12 321 RX12 yX12_hasForm vmX12_hasForm) := goodIn_app (goodIn_r (big := vmX12_isKnown) _ [3, 4, 5, 6] (by decide +kernel) (by decide +kernel)) vm_X12_isKnown_X12_hasForm
