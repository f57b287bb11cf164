def lwM0 : List Cond := [Cond.code yX12_in cX12_in 3 (some .boolean), Cond.code yX12_isSmall cX12_isSmall 1 (some .boolean), Cond.code yX12_isLetter cX12_isLetter 1 (some .boolean), Cond.methodLink RX12 183 yX12_isSmall, Cond.static yX12_isSmall, Cond.initialized RX12, Cond.code yX12_see cX12_see 2 (some .int), Cond.fieldLink RX12 155 "SpellTurnerModel" "size" "I", Cond.fieldLink RX12 7 "SpellTurnerModel" "tape" "[B", Cond.code yX12_wrong cX12_wrong 2 (some .boolean), Cond.fieldLink RX12 194 "SpellTurnerModel" "faultKind" "I", Cond.fieldLink RX12 177 "SpellTurnerModel" "at" "I", Cond.fieldLink RX12 13 "SpellTurnerModel" "faultPlace" "I", Cond.code yX12_isStage cX12_isStage 2 (some .boolean), Cond.fieldLink RX12 222 "SpellTurnerModel" "reforms" "I", Cond.methodLink RX12 226 yX12_in, Cond.static yX12_in, Cond.code yX12_hasNought cX12_hasNought 3 (some .boolean), Cond.code yX12_feed cX12_feed 9 (some .int), Cond.fieldLink RX12 152 "SpellTurnerModel" "taped" "I", Cond.code yX12_end cX12_end 2 (some .int), Cond.code yX12_sameBytes cX12_sameBytes 7 (some .boolean), Cond.code yX12_takeWord cX12_takeWord 5 none, Cond.fieldLink RX12 244 "SpellTurnerModel" "letters" "I", Cond.fieldLink RX12 55 "SpellTurnerModel" "word" "[B", Cond.code yX12_readWord cX12_readWord 3 (some .boolean), Cond.methodLink RX12 290 yX12_takeWord, Cond.instanceMethod yX12_takeWord, Cond.selects RX12 yX12_takeWord yX12_takeWord, Cond.code yX12_isWordPart cX12_isWordPart 7 (some .boolean), Cond.fieldLink RX12 24 "SpellTurnerModel" "parts" "[I", Cond.fieldLink RX12 46 "SpellTurnerModel" "partSize" "[I", Cond.fieldLink RX12 43 "SpellTurnerModel" "partText" "[B", Cond.code yX12_about cX12_about 5 (some .int), Cond.fieldLink RX12 17 "SpellTurnerModel" "day" "[I", Cond.fieldLink RX12 21 "SpellTurnerModel" "laws" "[I", Cond.fieldLink RX12 27 "SpellTurnerModel" "listed" "[I", Cond.fieldLink RX12 52 "SpellTurnerModel" "listSize" "[I", Cond.code yX12_take cX12_take 7 (some .boolean), Cond.fieldLink RX12 180 "SpellTurnerModel" "sort" "I", Cond.fieldLink RX12 174 "SpellTurnerModel" "end" "I", Cond.methodLink RX12 197 yX12_wrong, Cond.instanceMethod yX12_wrong, Cond.selects RX12 yX12_wrong yX12_wrong, Cond.code yX12_stands cX12_stands 6 (some .boolean), Cond.fieldLink RX12 33 "SpellTurnerModel" "lawSize" "[I", Cond.fieldLink RX12 30 "SpellTurnerModel" "lawText" "[B", Cond.code yX12_fault cX12_fault 2 (some .int), Cond.code yX12_stage cX12_stage 4 (some .int), Cond.constant RX12 225 (100000), Cond.code yX12_form cX12_form 3 (some .int), Cond.fieldLink RX12 306 "SpellTurnerModel" "tolds" "I", Cond.fieldLink RX12 97 "SpellTurnerModel" "toldSize" "[I", Cond.fieldLink RX12 94 "SpellTurnerModel" "told" "[B", Cond.code yX12_parting cX12_parting 3 (some .int), Cond.fieldLink RX12 309 "SpellTurnerModel" "toldWayMany" "I", Cond.fieldLink RX12 103 "SpellTurnerModel" "toldParts" "[I", Cond.fieldLink RX12 100 "SpellTurnerModel" "toldWays" "[I", Cond.code yX12_word cX12_word 3 (some .int), Cond.fieldLink RX12 312 "SpellTurnerModel" "words" "I", Cond.fieldLink RX12 109 "SpellTurnerModel" "bookSize" "[I", Cond.fieldLink RX12 106 "SpellTurnerModel" "bookText" "[B", Cond.code yX12_old cX12_old 2 (some .int), Cond.fieldLink RX12 318 "SpellTurnerModel" "oldMany" "I", Cond.fieldLink RX12 122 "SpellTurnerModel" "olds" "[I", Cond.code yX12_collision cX12_collision 2 (some .int), Cond.fieldLink RX12 325 "SpellTurnerModel" "pairMany" "I", Cond.fieldLink RX12 128 "SpellTurnerModel" "pairs" "[I", Cond.code yX12_written cX12_written 2 (some .int), Cond.fieldLink RX12 361 "SpellTurnerModel" "texted" "I", Cond.fieldLink RX12 131 "SpellTurnerModel" "text" "[B", Cond.code yX12_counted cX12_counted 2 (some .int), Cond.fieldLink RX12 364 "SpellTurnerModel" "hasText" "Z", Cond.fieldLink RX12 137 "SpellTurnerModel" "counts" "[I", Cond.code yX12_line cX12_line 2 (some .int), Cond.fieldLink RX12 374 "SpellTurnerModel" "lines" "I", Cond.fieldLink RX12 149 "SpellTurnerModel" "stageOf" "[I", Cond.code yX12_count cX12_count 2 (some .int), Cond.code yX12_isName cX12_isName 4 (some .boolean), Cond.code yX12_quoted cX12_quoted 4 (some .int), Cond.code yX12_hasForm cX12_hasForm 7 (some .boolean), Cond.fieldLink RX12 119 "SpellTurnerModel" "formMany" "[I", Cond.fieldLink RX12 113 "SpellTurnerModel" "formText" "[B", Cond.fieldLink RX12 116 "SpellTurnerModel" "formSize" "[I", Cond.methodLink RX12 273 yX12_sameBytes, Cond.static yX12_sameBytes, Cond.code yX12_collide cX12_collide 5 (some .boolean), Cond.methodLink RX12 321 yX12_hasForm, Cond.instanceMethod yX12_hasForm, Cond.selects RX12 yX12_hasForm yX12_hasForm, Cond.code yX12_rhyme cX12_rhyme 6 (some .boolean), Cond.code yX12_rhymeAt cX12_rhymeAt 6 (some .boolean), Cond.methodLink RX12 331 yX12_rhyme, Cond.static yX12_rhyme, Cond.code yX12_listedAs cX12_listedAs 3 (some .int), Cond.fieldLink RX12 49 "SpellTurnerModel" "listText" "[B", Cond.code yX12_learn cX12_learn 2 (some .int), Cond.methodLink RX12 297 yX12_readWord, Cond.instanceMethod yX12_readWord, Cond.selects RX12 yX12_readWord yX12_readWord, Cond.fieldLink RX12 237 "SpellTurnerModel" "isMade" "Z", Cond.code yX12_onward cX12_onward 7 (some .int), Cond.constant RX12 379 (2147483647), Cond.fieldLink RX12 146 "SpellTurnerModel" "sum" "[I", Cond.code yX12_isKnown cX12_isKnown 5 (some .boolean), Cond.code yX12_copy cX12_copy 5 none, Cond.code yX12_same cX12_same 5 (some .boolean), Cond.code yX12_part cX12_part 5 none, Cond.fieldLink RX12 241 "SpellTurnerModel" "wayMany" "I", Cond.fieldLink RX12 67 "SpellTurnerModel" "canEnd" "[Z", Cond.methodLink RX12 247 yX12_isWordPart, Cond.instanceMethod yX12_isWordPart, Cond.selects RX12 yX12_isWordPart yX12_isWordPart, Cond.fieldLink RX12 58 "SpellTurnerModel" "lengths" "[I", Cond.methodLink RX12 250 yX12_part, Cond.instanceMethod yX12_part, Cond.selects RX12 yX12_part yX12_part, Cond.fieldLink RX12 64 "SpellTurnerModel" "wayParts" "[I", Cond.fieldLink RX12 61 "SpellTurnerModel" "ways" "[I", Cond.code yX12_makeWays cX12_makeWays 4 none, Cond.code yX12_lawThrough cX12_lawThrough 8 none, Cond.fieldLink RX12 253 "SpellTurnerModel" "partLetters" "I", Cond.fieldLink RX12 260 "SpellTurnerModel" "isUsed" "Z", Cond.fieldLink RX12 263 "SpellTurnerModel" "lawAsked" "I", Cond.fieldLink RX12 70 "SpellTurnerModel" "part" "[B", Cond.fieldLink RX12 73 "SpellTurnerModel" "written" "[B", Cond.methodLink RX12 256 yX12_stands, Cond.instanceMethod yX12_stands, Cond.selects RX12 yX12_stands yX12_stands, Cond.fieldLink RX12 36 "SpellTurnerModel" "atStart" "[Z", Cond.fieldLink RX12 40 "SpellTurnerModel" "atEnd" "[Z", Cond.code yX12_makeForm cX12_makeForm 10 none, Cond.fieldLink RX12 79 "SpellTurnerModel" "madeSize" "[I", Cond.fieldLink RX12 270 "SpellTurnerModel" "mades" "I", Cond.fieldLink RX12 76 "SpellTurnerModel" "made" "[B", Cond.methodLink RX12 266 yX12_lawThrough, Cond.instanceMethod yX12_lawThrough, Cond.selects RX12 yX12_lawThrough yX12_lawThrough, Cond.code yX12_turnBy cX12_turnBy 6 none, Cond.methodLink RX12 277 yX12_listedAs, Cond.instanceMethod yX12_listedAs, Cond.selects RX12 yX12_listedAs yX12_listedAs, Cond.methodLink RX12 280 yX12_makeWays, Cond.instanceMethod yX12_makeWays, Cond.selects RX12 yX12_makeWays yX12_makeWays, Cond.methodLink RX12 283 yX12_makeForm, Cond.instanceMethod yX12_makeForm, Cond.selects RX12 yX12_makeForm yX12_makeForm, Cond.code yX12_through cX12_through 9 none, Cond.fieldLink RX12 85 "SpellTurnerModel" "nowSize" "[I", Cond.fieldLink RX12 287 "SpellTurnerModel" "nows" "I", Cond.fieldLink RX12 91 "SpellTurnerModel" "nextSize" "[I", Cond.fieldLink RX12 82 "SpellTurnerModel" "now" "[B", Cond.fieldLink RX12 88 "SpellTurnerModel" "next" "[B", Cond.methodLink RX12 294 yX12_turnBy, Cond.instanceMethod yX12_turnBy, Cond.selects RX12 yX12_turnBy yX12_turnBy, Cond.code yX12_turn cX12_turn 5 (some .int), Cond.methodLink RX12 300 yX12_isStage, Cond.instanceMethod yX12_isStage, Cond.selects RX12 yX12_isStage yX12_isStage, Cond.methodLink RX12 303 yX12_through, Cond.instanceMethod yX12_through, Cond.selects RX12 yX12_through yX12_through, Cond.code yX12_partings cX12_partings 5 (some .int), Cond.code yX12_make cX12_make 6 none, Cond.code yX12_back cX12_back 4 (some .int), Cond.methodLink RX12 315 yX12_make, Cond.instanceMethod yX12_make, Cond.selects RX12 yX12_make yX12_make, Cond.fieldLink RX12 125 "SpellTurnerModel" "asked" "[B", Cond.code yX12_collisions cX12_collisions 5 (some .int), Cond.methodLink RX12 328 yX12_collide, Cond.instanceMethod yX12_collide, Cond.selects RX12 yX12_collide yX12_collide, Cond.code yX12_rhymes cX12_rhymes 5 (some .int), Cond.methodLink RX12 334 yX12_rhymeAt, Cond.instanceMethod yX12_rhymeAt, Cond.selects RX12 yX12_rhymeAt yX12_rhymeAt, Cond.code yX12_tell cX12_tell 7 (some .int), Cond.code yX12_uses cX12_uses 6 (some .int), Cond.code yX12_write1 cX12_write1 5 (some .boolean), Cond.fieldLink RX12 337 "SpellTurnerModel" "drafted" "I", Cond.fieldLink RX12 134 "SpellTurnerModel" "draft" "[B", Cond.code yX12_writeWord cX12_writeWord 5 (some .boolean), Cond.methodLink RX12 340 yX12_isName, Cond.instanceMethod yX12_isName, Cond.selects RX12 yX12_isName yX12_isName, Cond.fieldLink RX12 140 "SpellTurnerModel" "newCounts" "[I", Cond.methodLink RX12 344 yX12_write1, Cond.instanceMethod yX12_write1, Cond.selects RX12 yX12_write1 yX12_write1, Cond.code yX12_write cX12_write 7 (some .int), Cond.methodLink RX12 348 yX12_hasNought, Cond.instanceMethod yX12_hasNought, Cond.selects RX12 yX12_hasNought yX12_hasNought, Cond.methodLink RX12 354 yX12_isLetter, Cond.static yX12_isLetter, Cond.methodLink RX12 357 yX12_writeWord, Cond.instanceMethod yX12_writeWord, Cond.selects RX12 yX12_writeWord yX12_writeWord, Cond.methodLink RX12 351 yX12_quoted, Cond.instanceMethod yX12_quoted, Cond.selects RX12 yX12_quoted yX12_quoted, Cond.code yX12_mixed cX12_mixed 11 (some .int), Cond.methodLink RX12 370 yX12_onward, Cond.instanceMethod yX12_onward, Cond.selects RX12 yX12_onward yX12_onward, Cond.fieldLink RX12 143 "SpellTurnerModel" "cost" "[I", Cond.methodLink RX12 367 yX12_isKnown, Cond.instanceMethod yX12_isKnown, Cond.selects RX12 yX12_isKnown yX12_isKnown]
def lwM : List Cond := lwM0 ++ wsX120
set_option maxRecDepth 100000 in
theorem lwM0_good : lwM0.all goodWord = true := by decide +kernel
theorem inX12 {c0 : Cond} : ∀ w ∈ u_ws RX12 TX12 71, w ∈ c0 :: lwM := fun _ h => List.mem_cons_of_mem _ (List.mem_append_right _ h)
theorem lwM_in {c0 : Cond} : GoodIn (c0 :: lwM) lwM := by
  intro w hw
  rcases List.mem_append.mp hw with h | h
  · exact ⟨List.mem_cons_of_mem _ hw, good_of_word (List.all_eq_true.mp lwM0_good w h)⟩
  · exact gb_X12 inX12 w h
theorem gdW {big ws : List Cond} {w : Cond} (h1 : w ∈ big) (h2 : goodWord w = true) (h : GoodIn big ws) : GoodIn big (w :: ws) := by
  intro v hv
  rcases List.mem_cons.mp hv with e | e
  · rw [e]; exact ⟨h1, good_of_word h2⟩
  · exact h v e
set_option maxRecDepth 100000 in
theorem im_0 {c0 : Cond} : Cond.code yX12_in cX12_in 3 (some .boolean) ∈ c0 :: lwM := List.mem_cons_of_mem _ (List.mem_append_left _ (List.mem_of_getElem? (i := 0) rfl))
set_option maxRecDepth 100000 in
theorem im_1 {c0 : Cond} : Cond.code yX12_isSmall cX12_isSmall 1 (some .boolean) ∈ c0 :: lwM := List.mem_cons_of_mem _ (List.mem_append_left _ (List.mem_of_getElem? (i := 1) rfl))
set_option maxRecDepth 100000 in
theorem im_2 {c0 : Cond} : Cond.code yX12_isLetter cX12_isLetter 1 (some .boolean) ∈ c0 :: lwM := List.mem_cons_of_mem _ (List.mem_append_left _ (List.mem_of_getElem? (i := 2) rfl))
set_option maxRecDepth 100000 in
theorem im_3 {c0 : Cond} : Cond.methodLink RX12 183 yX12_isSmall ∈ c0 :: lwM := List.mem_cons_of_mem _ (List.mem_append_left _ (List.mem_of_getElem? (i := 3) rfl))
set_option maxRecDepth 100000 in
theorem im_4 {c0 : Cond} : Cond.static yX12_isSmall ∈ c0 :: lwM := List.mem_cons_of_mem _ (List.mem_append_left _ (List.mem_of_getElem? (i := 4) rfl))
set_option maxRecDepth 100000 in
theorem im_5 {c0 : Cond} : Cond.initialized RX12 ∈ c0 :: lwM := List.mem_cons_of_mem _ (List.mem_append_left _ (List.mem_of_getElem? (i := 5) rfl))
set_option maxRecDepth 100000 in
theorem im_6 {c0 : Cond} : Cond.code yX12_see cX12_see 2 (some .int) ∈ c0 :: lwM := List.mem_cons_of_mem _ (List.mem_append_left _ (List.mem_of_getElem? (i := 6) rfl))
set_option maxRecDepth 100000 in
theorem im_7 {c0 : Cond} : Cond.fieldLink RX12 155 "SpellTurnerModel" "size" "I" ∈ c0 :: lwM := List.mem_cons_of_mem _ (List.mem_append_left _ (List.mem_of_getElem? (i := 7) rfl))
set_option maxRecDepth 100000 in
theorem im_8 {c0 : Cond} : Cond.fieldLink RX12 7 "SpellTurnerModel" "tape" "[B" ∈ c0 :: lwM := List.mem_cons_of_mem _ (List.mem_append_left _ (List.mem_of_getElem? (i := 8) rfl))
set_option maxRecDepth 100000 in
theorem im_9 {c0 : Cond} : Cond.code yX12_wrong cX12_wrong 2 (some .boolean) ∈ c0 :: lwM := List.mem_cons_of_mem _ (List.mem_append_left _ (List.mem_of_getElem? (i := 9) rfl))
set_option maxRecDepth 100000 in
theorem im_10 {c0 : Cond} : Cond.fieldLink RX12 194 "SpellTurnerModel" "faultKind" "I" ∈ c0 :: lwM := List.mem_cons_of_mem _ (List.mem_append_left _ (List.mem_of_getElem? (i := 10) rfl))
set_option maxRecDepth 100000 in
theorem im_11 {c0 : Cond} : Cond.fieldLink RX12 177 "SpellTurnerModel" "at" "I" ∈ c0 :: lwM := List.mem_cons_of_mem _ (List.mem_append_left _ (List.mem_of_getElem? (i := 11) rfl))
set_option maxRecDepth 100000 in
theorem im_12 {c0 : Cond} : Cond.fieldLink RX12 13 "SpellTurnerModel" "faultPlace" "I" ∈ c0 :: lwM := List.mem_cons_of_mem _ (List.mem_append_left _ (List.mem_of_getElem? (i := 12) rfl))
set_option maxRecDepth 100000 in
theorem im_13 {c0 : Cond} : Cond.code yX12_isStage cX12_isStage 2 (some .boolean) ∈ c0 :: lwM := List.mem_cons_of_mem _ (List.mem_append_left _ (List.mem_of_getElem? (i := 13) rfl))
set_option maxRecDepth 100000 in
theorem im_14 {c0 : Cond} : Cond.fieldLink RX12 222 "SpellTurnerModel" "reforms" "I" ∈ c0 :: lwM := List.mem_cons_of_mem _ (List.mem_append_left _ (List.mem_of_getElem? (i := 14) rfl))
set_option maxRecDepth 100000 in
theorem im_15 {c0 : Cond} : Cond.methodLink RX12 226 yX12_in ∈ c0 :: lwM := List.mem_cons_of_mem _ (List.mem_append_left _ (List.mem_of_getElem? (i := 15) rfl))
set_option maxRecDepth 100000 in
theorem im_16 {c0 : Cond} : Cond.static yX12_in ∈ c0 :: lwM := List.mem_cons_of_mem _ (List.mem_append_left _ (List.mem_of_getElem? (i := 16) rfl))
set_option maxRecDepth 100000 in
theorem im_17 {c0 : Cond} : Cond.code yX12_hasNought cX12_hasNought 3 (some .boolean) ∈ c0 :: lwM := List.mem_cons_of_mem _ (List.mem_append_left _ (List.mem_of_getElem? (i := 17) rfl))
set_option maxRecDepth 100000 in
theorem im_18 {c0 : Cond} : Cond.code yX12_feed cX12_feed 9 (some .int) ∈ c0 :: lwM := List.mem_cons_of_mem _ (List.mem_append_left _ (List.mem_of_getElem? (i := 18) rfl))
set_option maxRecDepth 100000 in
theorem im_19 {c0 : Cond} : Cond.fieldLink RX12 152 "SpellTurnerModel" "taped" "I" ∈ c0 :: lwM := List.mem_cons_of_mem _ (List.mem_append_left _ (List.mem_of_getElem? (i := 19) rfl))
set_option maxRecDepth 100000 in
theorem im_20 {c0 : Cond} : Cond.code yX12_end cX12_end 2 (some .int) ∈ c0 :: lwM := List.mem_cons_of_mem _ (List.mem_append_left _ (List.mem_of_getElem? (i := 20) rfl))
set_option maxRecDepth 100000 in
theorem im_21 {c0 : Cond} : Cond.code yX12_sameBytes cX12_sameBytes 7 (some .boolean) ∈ c0 :: lwM := List.mem_cons_of_mem _ (List.mem_append_left _ (List.mem_of_getElem? (i := 21) rfl))
set_option maxRecDepth 100000 in
theorem im_22 {c0 : Cond} : Cond.code yX12_takeWord cX12_takeWord 5 none ∈ c0 :: lwM := List.mem_cons_of_mem _ (List.mem_append_left _ (List.mem_of_getElem? (i := 22) rfl))
set_option maxRecDepth 100000 in
theorem im_23 {c0 : Cond} : Cond.fieldLink RX12 244 "SpellTurnerModel" "letters" "I" ∈ c0 :: lwM := List.mem_cons_of_mem _ (List.mem_append_left _ (List.mem_of_getElem? (i := 23) rfl))
set_option maxRecDepth 100000 in
theorem im_24 {c0 : Cond} : Cond.fieldLink RX12 55 "SpellTurnerModel" "word" "[B" ∈ c0 :: lwM := List.mem_cons_of_mem _ (List.mem_append_left _ (List.mem_of_getElem? (i := 24) rfl))
set_option maxRecDepth 100000 in
theorem im_25 {c0 : Cond} : Cond.code yX12_readWord cX12_readWord 3 (some .boolean) ∈ c0 :: lwM := List.mem_cons_of_mem _ (List.mem_append_left _ (List.mem_of_getElem? (i := 25) rfl))
set_option maxRecDepth 100000 in
theorem im_26 {c0 : Cond} : Cond.methodLink RX12 290 yX12_takeWord ∈ c0 :: lwM := List.mem_cons_of_mem _ (List.mem_append_left _ (List.mem_of_getElem? (i := 26) rfl))
set_option maxRecDepth 100000 in
theorem im_27 {c0 : Cond} : Cond.instanceMethod yX12_takeWord ∈ c0 :: lwM := List.mem_cons_of_mem _ (List.mem_append_left _ (List.mem_of_getElem? (i := 27) rfl))
set_option maxRecDepth 100000 in
theorem im_28 {c0 : Cond} : Cond.selects RX12 yX12_takeWord yX12_takeWord ∈ c0 :: lwM := List.mem_cons_of_mem _ (List.mem_append_left _ (List.mem_of_getElem? (i := 28) rfl))
set_option maxRecDepth 100000 in
theorem im_29 {c0 : Cond} : Cond.code yX12_isWordPart cX12_isWordPart 7 (some .boolean) ∈ c0 :: lwM := List.mem_cons_of_mem _ (List.mem_append_left _ (List.mem_of_getElem? (i := 29) rfl))
set_option maxRecDepth 100000 in
theorem im_30 {c0 : Cond} : Cond.fieldLink RX12 24 "SpellTurnerModel" "parts" "[I" ∈ c0 :: lwM := List.mem_cons_of_mem _ (List.mem_append_left _ (List.mem_of_getElem? (i := 30) rfl))
set_option maxRecDepth 100000 in
theorem im_31 {c0 : Cond} : Cond.fieldLink RX12 46 "SpellTurnerModel" "partSize" "[I" ∈ c0 :: lwM := List.mem_cons_of_mem _ (List.mem_append_left _ (List.mem_of_getElem? (i := 31) rfl))
set_option maxRecDepth 100000 in
theorem im_32 {c0 : Cond} : Cond.fieldLink RX12 43 "SpellTurnerModel" "partText" "[B" ∈ c0 :: lwM := List.mem_cons_of_mem _ (List.mem_append_left _ (List.mem_of_getElem? (i := 32) rfl))
set_option maxRecDepth 100000 in
theorem im_33 {c0 : Cond} : Cond.code yX12_about cX12_about 5 (some .int) ∈ c0 :: lwM := List.mem_cons_of_mem _ (List.mem_append_left _ (List.mem_of_getElem? (i := 33) rfl))
set_option maxRecDepth 100000 in
theorem im_34 {c0 : Cond} : Cond.fieldLink RX12 17 "SpellTurnerModel" "day" "[I" ∈ c0 :: lwM := List.mem_cons_of_mem _ (List.mem_append_left _ (List.mem_of_getElem? (i := 34) rfl))
set_option maxRecDepth 100000 in
theorem im_35 {c0 : Cond} : Cond.fieldLink RX12 21 "SpellTurnerModel" "laws" "[I" ∈ c0 :: lwM := List.mem_cons_of_mem _ (List.mem_append_left _ (List.mem_of_getElem? (i := 35) rfl))
set_option maxRecDepth 100000 in
theorem im_36 {c0 : Cond} : Cond.fieldLink RX12 27 "SpellTurnerModel" "listed" "[I" ∈ c0 :: lwM := List.mem_cons_of_mem _ (List.mem_append_left _ (List.mem_of_getElem? (i := 36) rfl))
set_option maxRecDepth 100000 in
theorem im_37 {c0 : Cond} : Cond.fieldLink RX12 52 "SpellTurnerModel" "listSize" "[I" ∈ c0 :: lwM := List.mem_cons_of_mem _ (List.mem_append_left _ (List.mem_of_getElem? (i := 37) rfl))
set_option maxRecDepth 100000 in
theorem im_38 {c0 : Cond} : Cond.code yX12_take cX12_take 7 (some .boolean) ∈ c0 :: lwM := List.mem_cons_of_mem _ (List.mem_append_left _ (List.mem_of_getElem? (i := 38) rfl))
set_option maxRecDepth 100000 in
theorem im_39 {c0 : Cond} : Cond.fieldLink RX12 180 "SpellTurnerModel" "sort" "I" ∈ c0 :: lwM := List.mem_cons_of_mem _ (List.mem_append_left _ (List.mem_of_getElem? (i := 39) rfl))
set_option maxRecDepth 100000 in
theorem im_40 {c0 : Cond} : Cond.fieldLink RX12 174 "SpellTurnerModel" "end" "I" ∈ c0 :: lwM := List.mem_cons_of_mem _ (List.mem_append_left _ (List.mem_of_getElem? (i := 40) rfl))
set_option maxRecDepth 100000 in
theorem im_41 {c0 : Cond} : Cond.methodLink RX12 197 yX12_wrong ∈ c0 :: lwM := List.mem_cons_of_mem _ (List.mem_append_left _ (List.mem_of_getElem? (i := 41) rfl))
set_option maxRecDepth 100000 in
theorem im_42 {c0 : Cond} : Cond.instanceMethod yX12_wrong ∈ c0 :: lwM := List.mem_cons_of_mem _ (List.mem_append_left _ (List.mem_of_getElem? (i := 42) rfl))
set_option maxRecDepth 100000 in
theorem im_43 {c0 : Cond} : Cond.selects RX12 yX12_wrong yX12_wrong ∈ c0 :: lwM := List.mem_cons_of_mem _ (List.mem_append_left _ (List.mem_of_getElem? (i := 43) rfl))
set_option maxRecDepth 100000 in
theorem im_44 {c0 : Cond} : Cond.code yX12_stands cX12_stands 6 (some .boolean) ∈ c0 :: lwM := List.mem_cons_of_mem _ (List.mem_append_left _ (List.mem_of_getElem? (i := 44) rfl))
set_option maxRecDepth 100000 in
theorem im_45 {c0 : Cond} : Cond.fieldLink RX12 33 "SpellTurnerModel" "lawSize" "[I" ∈ c0 :: lwM := List.mem_cons_of_mem _ (List.mem_append_left _ (List.mem_of_getElem? (i := 45) rfl))
set_option maxRecDepth 100000 in
theorem im_46 {c0 : Cond} : Cond.fieldLink RX12 30 "SpellTurnerModel" "lawText" "[B" ∈ c0 :: lwM := List.mem_cons_of_mem _ (List.mem_append_left _ (List.mem_of_getElem? (i := 46) rfl))
set_option maxRecDepth 100000 in
theorem im_47 {c0 : Cond} : Cond.code yX12_fault cX12_fault 2 (some .int) ∈ c0 :: lwM := List.mem_cons_of_mem _ (List.mem_append_left _ (List.mem_of_getElem? (i := 47) rfl))
set_option maxRecDepth 100000 in
theorem im_48 {c0 : Cond} : Cond.code yX12_stage cX12_stage 4 (some .int) ∈ c0 :: lwM := List.mem_cons_of_mem _ (List.mem_append_left _ (List.mem_of_getElem? (i := 48) rfl))
set_option maxRecDepth 100000 in
theorem im_49 {c0 : Cond} : Cond.constant RX12 225 (100000) ∈ c0 :: lwM := List.mem_cons_of_mem _ (List.mem_append_left _ (List.mem_of_getElem? (i := 49) rfl))
set_option maxRecDepth 100000 in
theorem im_50 {c0 : Cond} : Cond.code yX12_form cX12_form 3 (some .int) ∈ c0 :: lwM := List.mem_cons_of_mem _ (List.mem_append_left _ (List.mem_of_getElem? (i := 50) rfl))
set_option maxRecDepth 100000 in
theorem im_51 {c0 : Cond} : Cond.fieldLink RX12 306 "SpellTurnerModel" "tolds" "I" ∈ c0 :: lwM := List.mem_cons_of_mem _ (List.mem_append_left _ (List.mem_of_getElem? (i := 51) rfl))
set_option maxRecDepth 100000 in
theorem im_52 {c0 : Cond} : Cond.fieldLink RX12 97 "SpellTurnerModel" "toldSize" "[I" ∈ c0 :: lwM := List.mem_cons_of_mem _ (List.mem_append_left _ (List.mem_of_getElem? (i := 52) rfl))
set_option maxRecDepth 100000 in
theorem im_53 {c0 : Cond} : Cond.fieldLink RX12 94 "SpellTurnerModel" "told" "[B" ∈ c0 :: lwM := List.mem_cons_of_mem _ (List.mem_append_left _ (List.mem_of_getElem? (i := 53) rfl))
set_option maxRecDepth 100000 in
theorem im_54 {c0 : Cond} : Cond.code yX12_parting cX12_parting 3 (some .int) ∈ c0 :: lwM := List.mem_cons_of_mem _ (List.mem_append_left _ (List.mem_of_getElem? (i := 54) rfl))
set_option maxRecDepth 100000 in
theorem im_55 {c0 : Cond} : Cond.fieldLink RX12 309 "SpellTurnerModel" "toldWayMany" "I" ∈ c0 :: lwM := List.mem_cons_of_mem _ (List.mem_append_left _ (List.mem_of_getElem? (i := 55) rfl))
set_option maxRecDepth 100000 in
theorem im_56 {c0 : Cond} : Cond.fieldLink RX12 103 "SpellTurnerModel" "toldParts" "[I" ∈ c0 :: lwM := List.mem_cons_of_mem _ (List.mem_append_left _ (List.mem_of_getElem? (i := 56) rfl))
set_option maxRecDepth 100000 in
theorem im_57 {c0 : Cond} : Cond.fieldLink RX12 100 "SpellTurnerModel" "toldWays" "[I" ∈ c0 :: lwM := List.mem_cons_of_mem _ (List.mem_append_left _ (List.mem_of_getElem? (i := 57) rfl))
set_option maxRecDepth 100000 in
theorem im_58 {c0 : Cond} : Cond.code yX12_word cX12_word 3 (some .int) ∈ c0 :: lwM := List.mem_cons_of_mem _ (List.mem_append_left _ (List.mem_of_getElem? (i := 58) rfl))
set_option maxRecDepth 100000 in
theorem im_59 {c0 : Cond} : Cond.fieldLink RX12 312 "SpellTurnerModel" "words" "I" ∈ c0 :: lwM := List.mem_cons_of_mem _ (List.mem_append_left _ (List.mem_of_getElem? (i := 59) rfl))
set_option maxRecDepth 100000 in
theorem im_60 {c0 : Cond} : Cond.fieldLink RX12 109 "SpellTurnerModel" "bookSize" "[I" ∈ c0 :: lwM := List.mem_cons_of_mem _ (List.mem_append_left _ (List.mem_of_getElem? (i := 60) rfl))
set_option maxRecDepth 100000 in
theorem im_61 {c0 : Cond} : Cond.fieldLink RX12 106 "SpellTurnerModel" "bookText" "[B" ∈ c0 :: lwM := List.mem_cons_of_mem _ (List.mem_append_left _ (List.mem_of_getElem? (i := 61) rfl))
set_option maxRecDepth 100000 in
theorem im_62 {c0 : Cond} : Cond.code yX12_old cX12_old 2 (some .int) ∈ c0 :: lwM := List.mem_cons_of_mem _ (List.mem_append_left _ (List.mem_of_getElem? (i := 62) rfl))
set_option maxRecDepth 100000 in
theorem im_63 {c0 : Cond} : Cond.fieldLink RX12 318 "SpellTurnerModel" "oldMany" "I" ∈ c0 :: lwM := List.mem_cons_of_mem _ (List.mem_append_left _ (List.mem_of_getElem? (i := 63) rfl))
set_option maxRecDepth 100000 in
theorem im_64 {c0 : Cond} : Cond.fieldLink RX12 122 "SpellTurnerModel" "olds" "[I" ∈ c0 :: lwM := List.mem_cons_of_mem _ (List.mem_append_left _ (List.mem_of_getElem? (i := 64) rfl))
set_option maxRecDepth 100000 in
theorem im_65 {c0 : Cond} : Cond.code yX12_collision cX12_collision 2 (some .int) ∈ c0 :: lwM := List.mem_cons_of_mem _ (List.mem_append_left _ (List.mem_of_getElem? (i := 65) rfl))
set_option maxRecDepth 100000 in
theorem im_66 {c0 : Cond} : Cond.fieldLink RX12 325 "SpellTurnerModel" "pairMany" "I" ∈ c0 :: lwM := List.mem_cons_of_mem _ (List.mem_append_left _ (List.mem_of_getElem? (i := 66) rfl))
set_option maxRecDepth 100000 in
theorem im_67 {c0 : Cond} : Cond.fieldLink RX12 128 "SpellTurnerModel" "pairs" "[I" ∈ c0 :: lwM := List.mem_cons_of_mem _ (List.mem_append_left _ (List.mem_of_getElem? (i := 67) rfl))
set_option maxRecDepth 100000 in
theorem im_68 {c0 : Cond} : Cond.code yX12_written cX12_written 2 (some .int) ∈ c0 :: lwM := List.mem_cons_of_mem _ (List.mem_append_left _ (List.mem_of_getElem? (i := 68) rfl))
set_option maxRecDepth 100000 in
theorem im_69 {c0 : Cond} : Cond.fieldLink RX12 361 "SpellTurnerModel" "texted" "I" ∈ c0 :: lwM := List.mem_cons_of_mem _ (List.mem_append_left _ (List.mem_of_getElem? (i := 69) rfl))
set_option maxRecDepth 100000 in
theorem im_70 {c0 : Cond} : Cond.fieldLink RX12 131 "SpellTurnerModel" "text" "[B" ∈ c0 :: lwM := List.mem_cons_of_mem _ (List.mem_append_left _ (List.mem_of_getElem? (i := 70) rfl))
set_option maxRecDepth 100000 in
theorem im_71 {c0 : Cond} : Cond.code yX12_counted cX12_counted 2 (some .int) ∈ c0 :: lwM := List.mem_cons_of_mem _ (List.mem_append_left _ (List.mem_of_getElem? (i := 71) rfl))
set_option maxRecDepth 100000 in
theorem im_72 {c0 : Cond} : Cond.fieldLink RX12 364 "SpellTurnerModel" "hasText" "Z" ∈ c0 :: lwM := List.mem_cons_of_mem _ (List.mem_append_left _ (List.mem_of_getElem? (i := 72) rfl))
set_option maxRecDepth 100000 in
theorem im_73 {c0 : Cond} : Cond.fieldLink RX12 137 "SpellTurnerModel" "counts" "[I" ∈ c0 :: lwM := List.mem_cons_of_mem _ (List.mem_append_left _ (List.mem_of_getElem? (i := 73) rfl))
set_option maxRecDepth 100000 in
theorem im_74 {c0 : Cond} : Cond.code yX12_line cX12_line 2 (some .int) ∈ c0 :: lwM := List.mem_cons_of_mem _ (List.mem_append_left _ (List.mem_of_getElem? (i := 74) rfl))
set_option maxRecDepth 100000 in
theorem im_75 {c0 : Cond} : Cond.fieldLink RX12 374 "SpellTurnerModel" "lines" "I" ∈ c0 :: lwM := List.mem_cons_of_mem _ (List.mem_append_left _ (List.mem_of_getElem? (i := 75) rfl))
set_option maxRecDepth 100000 in
theorem im_76 {c0 : Cond} : Cond.fieldLink RX12 149 "SpellTurnerModel" "stageOf" "[I" ∈ c0 :: lwM := List.mem_cons_of_mem _ (List.mem_append_left _ (List.mem_of_getElem? (i := 76) rfl))
set_option maxRecDepth 100000 in
theorem im_77 {c0 : Cond} : Cond.code yX12_count cX12_count 2 (some .int) ∈ c0 :: lwM := List.mem_cons_of_mem _ (List.mem_append_left _ (List.mem_of_getElem? (i := 77) rfl))
set_option maxRecDepth 100000 in
theorem im_78 {c0 : Cond} : Cond.code yX12_isName cX12_isName 4 (some .boolean) ∈ c0 :: lwM := List.mem_cons_of_mem _ (List.mem_append_left _ (List.mem_of_getElem? (i := 78) rfl))
set_option maxRecDepth 100000 in
theorem im_79 {c0 : Cond} : Cond.code yX12_quoted cX12_quoted 4 (some .int) ∈ c0 :: lwM := List.mem_cons_of_mem _ (List.mem_append_left _ (List.mem_of_getElem? (i := 79) rfl))
set_option maxRecDepth 100000 in
theorem im_80 {c0 : Cond} : Cond.code yX12_hasForm cX12_hasForm 7 (some .boolean) ∈ c0 :: lwM := List.mem_cons_of_mem _ (List.mem_append_left _ (List.mem_of_getElem? (i := 80) rfl))
set_option maxRecDepth 100000 in
theorem im_81 {c0 : Cond} : Cond.fieldLink RX12 119 "SpellTurnerModel" "formMany" "[I" ∈ c0 :: lwM := List.mem_cons_of_mem _ (List.mem_append_left _ (List.mem_of_getElem? (i := 81) rfl))
set_option maxRecDepth 100000 in
theorem im_82 {c0 : Cond} : Cond.fieldLink RX12 113 "SpellTurnerModel" "formText" "[B" ∈ c0 :: lwM := List.mem_cons_of_mem _ (List.mem_append_left _ (List.mem_of_getElem? (i := 82) rfl))
set_option maxRecDepth 100000 in
theorem im_83 {c0 : Cond} : Cond.fieldLink RX12 116 "SpellTurnerModel" "formSize" "[I" ∈ c0 :: lwM := List.mem_cons_of_mem _ (List.mem_append_left _ (List.mem_of_getElem? (i := 83) rfl))
set_option maxRecDepth 100000 in
theorem im_84 {c0 : Cond} : Cond.methodLink RX12 273 yX12_sameBytes ∈ c0 :: lwM := List.mem_cons_of_mem _ (List.mem_append_left _ (List.mem_of_getElem? (i := 84) rfl))
set_option maxRecDepth 100000 in
theorem im_85 {c0 : Cond} : Cond.static yX12_sameBytes ∈ c0 :: lwM := List.mem_cons_of_mem _ (List.mem_append_left _ (List.mem_of_getElem? (i := 85) rfl))
set_option maxRecDepth 100000 in
theorem im_86 {c0 : Cond} : Cond.code yX12_collide cX12_collide 5 (some .boolean) ∈ c0 :: lwM := List.mem_cons_of_mem _ (List.mem_append_left _ (List.mem_of_getElem? (i := 86) rfl))
set_option maxRecDepth 100000 in
theorem im_87 {c0 : Cond} : Cond.methodLink RX12 321 yX12_hasForm ∈ c0 :: lwM := List.mem_cons_of_mem _ (List.mem_append_left _ (List.mem_of_getElem? (i := 87) rfl))
set_option maxRecDepth 100000 in
theorem im_88 {c0 : Cond} : Cond.instanceMethod yX12_hasForm ∈ c0 :: lwM := List.mem_cons_of_mem _ (List.mem_append_left _ (List.mem_of_getElem? (i := 88) rfl))
set_option maxRecDepth 100000 in
theorem im_89 {c0 : Cond} : Cond.selects RX12 yX12_hasForm yX12_hasForm ∈ c0 :: lwM := List.mem_cons_of_mem _ (List.mem_append_left _ (List.mem_of_getElem? (i := 89) rfl))
set_option maxRecDepth 100000 in
theorem im_90 {c0 : Cond} : Cond.code yX12_rhyme cX12_rhyme 6 (some .boolean) ∈ c0 :: lwM := List.mem_cons_of_mem _ (List.mem_append_left _ (List.mem_of_getElem? (i := 90) rfl))
set_option maxRecDepth 100000 in
theorem im_91 {c0 : Cond} : Cond.code yX12_rhymeAt cX12_rhymeAt 6 (some .boolean) ∈ c0 :: lwM := List.mem_cons_of_mem _ (List.mem_append_left _ (List.mem_of_getElem? (i := 91) rfl))
set_option maxRecDepth 100000 in
theorem im_92 {c0 : Cond} : Cond.methodLink RX12 331 yX12_rhyme ∈ c0 :: lwM := List.mem_cons_of_mem _ (List.mem_append_left _ (List.mem_of_getElem? (i := 92) rfl))
set_option maxRecDepth 100000 in
theorem im_93 {c0 : Cond} : Cond.static yX12_rhyme ∈ c0 :: lwM := List.mem_cons_of_mem _ (List.mem_append_left _ (List.mem_of_getElem? (i := 93) rfl))
set_option maxRecDepth 100000 in
theorem im_94 {c0 : Cond} : Cond.code yX12_listedAs cX12_listedAs 3 (some .int) ∈ c0 :: lwM := List.mem_cons_of_mem _ (List.mem_append_left _ (List.mem_of_getElem? (i := 94) rfl))
set_option maxRecDepth 100000 in
theorem im_95 {c0 : Cond} : Cond.fieldLink RX12 49 "SpellTurnerModel" "listText" "[B" ∈ c0 :: lwM := List.mem_cons_of_mem _ (List.mem_append_left _ (List.mem_of_getElem? (i := 95) rfl))
set_option maxRecDepth 100000 in
theorem im_96 {c0 : Cond} : Cond.code yX12_learn cX12_learn 2 (some .int) ∈ c0 :: lwM := List.mem_cons_of_mem _ (List.mem_append_left _ (List.mem_of_getElem? (i := 96) rfl))
set_option maxRecDepth 100000 in
theorem im_97 {c0 : Cond} : Cond.methodLink RX12 297 yX12_readWord ∈ c0 :: lwM := List.mem_cons_of_mem _ (List.mem_append_left _ (List.mem_of_getElem? (i := 97) rfl))
set_option maxRecDepth 100000 in
theorem im_98 {c0 : Cond} : Cond.instanceMethod yX12_readWord ∈ c0 :: lwM := List.mem_cons_of_mem _ (List.mem_append_left _ (List.mem_of_getElem? (i := 98) rfl))
set_option maxRecDepth 100000 in
theorem im_99 {c0 : Cond} : Cond.selects RX12 yX12_readWord yX12_readWord ∈ c0 :: lwM := List.mem_cons_of_mem _ (List.mem_append_left _ (List.mem_of_getElem? (i := 99) rfl))
set_option maxRecDepth 100000 in
theorem im_100 {c0 : Cond} : Cond.fieldLink RX12 237 "SpellTurnerModel" "isMade" "Z" ∈ c0 :: lwM := List.mem_cons_of_mem _ (List.mem_append_left _ (List.mem_of_getElem? (i := 100) rfl))
set_option maxRecDepth 100000 in
theorem im_101 {c0 : Cond} : Cond.code yX12_onward cX12_onward 7 (some .int) ∈ c0 :: lwM := List.mem_cons_of_mem _ (List.mem_append_left _ (List.mem_of_getElem? (i := 101) rfl))
set_option maxRecDepth 100000 in
theorem im_102 {c0 : Cond} : Cond.constant RX12 379 (2147483647) ∈ c0 :: lwM := List.mem_cons_of_mem _ (List.mem_append_left _ (List.mem_of_getElem? (i := 102) rfl))
set_option maxRecDepth 100000 in
theorem im_103 {c0 : Cond} : Cond.fieldLink RX12 146 "SpellTurnerModel" "sum" "[I" ∈ c0 :: lwM := List.mem_cons_of_mem _ (List.mem_append_left _ (List.mem_of_getElem? (i := 103) rfl))
set_option maxRecDepth 100000 in
theorem im_104 {c0 : Cond} : Cond.code yX12_isKnown cX12_isKnown 5 (some .boolean) ∈ c0 :: lwM := List.mem_cons_of_mem _ (List.mem_append_left _ (List.mem_of_getElem? (i := 104) rfl))
set_option maxRecDepth 100000 in
theorem im_105 {c0 : Cond} : Cond.code yX12_copy cX12_copy 5 none ∈ c0 :: lwM := List.mem_cons_of_mem _ (List.mem_append_left _ (List.mem_of_getElem? (i := 105) rfl))
set_option maxRecDepth 100000 in
theorem im_106 {c0 : Cond} : Cond.code yX12_same cX12_same 5 (some .boolean) ∈ c0 :: lwM := List.mem_cons_of_mem _ (List.mem_append_left _ (List.mem_of_getElem? (i := 106) rfl))
set_option maxRecDepth 100000 in
theorem im_107 {c0 : Cond} : Cond.code yX12_part cX12_part 5 none ∈ c0 :: lwM := List.mem_cons_of_mem _ (List.mem_append_left _ (List.mem_of_getElem? (i := 107) rfl))
set_option maxRecDepth 100000 in
theorem im_108 {c0 : Cond} : Cond.fieldLink RX12 241 "SpellTurnerModel" "wayMany" "I" ∈ c0 :: lwM := List.mem_cons_of_mem _ (List.mem_append_left _ (List.mem_of_getElem? (i := 108) rfl))
set_option maxRecDepth 100000 in
theorem im_109 {c0 : Cond} : Cond.fieldLink RX12 67 "SpellTurnerModel" "canEnd" "[Z" ∈ c0 :: lwM := List.mem_cons_of_mem _ (List.mem_append_left _ (List.mem_of_getElem? (i := 109) rfl))
set_option maxRecDepth 100000 in
theorem im_110 {c0 : Cond} : Cond.methodLink RX12 247 yX12_isWordPart ∈ c0 :: lwM := List.mem_cons_of_mem _ (List.mem_append_left _ (List.mem_of_getElem? (i := 110) rfl))
set_option maxRecDepth 100000 in
theorem im_111 {c0 : Cond} : Cond.instanceMethod yX12_isWordPart ∈ c0 :: lwM := List.mem_cons_of_mem _ (List.mem_append_left _ (List.mem_of_getElem? (i := 111) rfl))
set_option maxRecDepth 100000 in
theorem im_112 {c0 : Cond} : Cond.selects RX12 yX12_isWordPart yX12_isWordPart ∈ c0 :: lwM := List.mem_cons_of_mem _ (List.mem_append_left _ (List.mem_of_getElem? (i := 112) rfl))
set_option maxRecDepth 100000 in
theorem im_113 {c0 : Cond} : Cond.fieldLink RX12 58 "SpellTurnerModel" "lengths" "[I" ∈ c0 :: lwM := List.mem_cons_of_mem _ (List.mem_append_left _ (List.mem_of_getElem? (i := 113) rfl))
set_option maxRecDepth 100000 in
theorem im_114 {c0 : Cond} : Cond.methodLink RX12 250 yX12_part ∈ c0 :: lwM := List.mem_cons_of_mem _ (List.mem_append_left _ (List.mem_of_getElem? (i := 114) rfl))
set_option maxRecDepth 100000 in
theorem im_115 {c0 : Cond} : Cond.instanceMethod yX12_part ∈ c0 :: lwM := List.mem_cons_of_mem _ (List.mem_append_left _ (List.mem_of_getElem? (i := 115) rfl))
set_option maxRecDepth 100000 in
theorem im_116 {c0 : Cond} : Cond.selects RX12 yX12_part yX12_part ∈ c0 :: lwM := List.mem_cons_of_mem _ (List.mem_append_left _ (List.mem_of_getElem? (i := 116) rfl))
set_option maxRecDepth 100000 in
theorem im_117 {c0 : Cond} : Cond.fieldLink RX12 64 "SpellTurnerModel" "wayParts" "[I" ∈ c0 :: lwM := List.mem_cons_of_mem _ (List.mem_append_left _ (List.mem_of_getElem? (i := 117) rfl))
set_option maxRecDepth 100000 in
theorem im_118 {c0 : Cond} : Cond.fieldLink RX12 61 "SpellTurnerModel" "ways" "[I" ∈ c0 :: lwM := List.mem_cons_of_mem _ (List.mem_append_left _ (List.mem_of_getElem? (i := 118) rfl))
set_option maxRecDepth 100000 in
theorem im_119 {c0 : Cond} : Cond.code yX12_makeWays cX12_makeWays 4 none ∈ c0 :: lwM := List.mem_cons_of_mem _ (List.mem_append_left _ (List.mem_of_getElem? (i := 119) rfl))
set_option maxRecDepth 100000 in
theorem im_120 {c0 : Cond} : Cond.code yX12_lawThrough cX12_lawThrough 8 none ∈ c0 :: lwM := List.mem_cons_of_mem _ (List.mem_append_left _ (List.mem_of_getElem? (i := 120) rfl))
set_option maxRecDepth 100000 in
theorem im_121 {c0 : Cond} : Cond.fieldLink RX12 253 "SpellTurnerModel" "partLetters" "I" ∈ c0 :: lwM := List.mem_cons_of_mem _ (List.mem_append_left _ (List.mem_of_getElem? (i := 121) rfl))
set_option maxRecDepth 100000 in
theorem im_122 {c0 : Cond} : Cond.fieldLink RX12 260 "SpellTurnerModel" "isUsed" "Z" ∈ c0 :: lwM := List.mem_cons_of_mem _ (List.mem_append_left _ (List.mem_of_getElem? (i := 122) rfl))
set_option maxRecDepth 100000 in
theorem im_123 {c0 : Cond} : Cond.fieldLink RX12 263 "SpellTurnerModel" "lawAsked" "I" ∈ c0 :: lwM := List.mem_cons_of_mem _ (List.mem_append_left _ (List.mem_of_getElem? (i := 123) rfl))
set_option maxRecDepth 100000 in
theorem im_124 {c0 : Cond} : Cond.fieldLink RX12 70 "SpellTurnerModel" "part" "[B" ∈ c0 :: lwM := List.mem_cons_of_mem _ (List.mem_append_left _ (List.mem_of_getElem? (i := 124) rfl))
set_option maxRecDepth 100000 in
theorem im_125 {c0 : Cond} : Cond.fieldLink RX12 73 "SpellTurnerModel" "written" "[B" ∈ c0 :: lwM := List.mem_cons_of_mem _ (List.mem_append_left _ (List.mem_of_getElem? (i := 125) rfl))
set_option maxRecDepth 100000 in
theorem im_126 {c0 : Cond} : Cond.methodLink RX12 256 yX12_stands ∈ c0 :: lwM := List.mem_cons_of_mem _ (List.mem_append_left _ (List.mem_of_getElem? (i := 126) rfl))
set_option maxRecDepth 100000 in
theorem im_127 {c0 : Cond} : Cond.instanceMethod yX12_stands ∈ c0 :: lwM := List.mem_cons_of_mem _ (List.mem_append_left _ (List.mem_of_getElem? (i := 127) rfl))
set_option maxRecDepth 100000 in
theorem im_128 {c0 : Cond} : Cond.selects RX12 yX12_stands yX12_stands ∈ c0 :: lwM := List.mem_cons_of_mem _ (List.mem_append_left _ (List.mem_of_getElem? (i := 128) rfl))
set_option maxRecDepth 100000 in
theorem im_129 {c0 : Cond} : Cond.fieldLink RX12 36 "SpellTurnerModel" "atStart" "[Z" ∈ c0 :: lwM := List.mem_cons_of_mem _ (List.mem_append_left _ (List.mem_of_getElem? (i := 129) rfl))
set_option maxRecDepth 100000 in
theorem im_130 {c0 : Cond} : Cond.fieldLink RX12 40 "SpellTurnerModel" "atEnd" "[Z" ∈ c0 :: lwM := List.mem_cons_of_mem _ (List.mem_append_left _ (List.mem_of_getElem? (i := 130) rfl))
set_option maxRecDepth 100000 in
theorem im_131 {c0 : Cond} : Cond.code yX12_makeForm cX12_makeForm 10 none ∈ c0 :: lwM := List.mem_cons_of_mem _ (List.mem_append_left _ (List.mem_of_getElem? (i := 131) rfl))
set_option maxRecDepth 100000 in
theorem im_132 {c0 : Cond} : Cond.fieldLink RX12 79 "SpellTurnerModel" "madeSize" "[I" ∈ c0 :: lwM := List.mem_cons_of_mem _ (List.mem_append_left _ (List.mem_of_getElem? (i := 132) rfl))
set_option maxRecDepth 100000 in
theorem im_133 {c0 : Cond} : Cond.fieldLink RX12 270 "SpellTurnerModel" "mades" "I" ∈ c0 :: lwM := List.mem_cons_of_mem _ (List.mem_append_left _ (List.mem_of_getElem? (i := 133) rfl))
set_option maxRecDepth 100000 in
theorem im_134 {c0 : Cond} : Cond.fieldLink RX12 76 "SpellTurnerModel" "made" "[B" ∈ c0 :: lwM := List.mem_cons_of_mem _ (List.mem_append_left _ (List.mem_of_getElem? (i := 134) rfl))
set_option maxRecDepth 100000 in
theorem im_135 {c0 : Cond} : Cond.methodLink RX12 266 yX12_lawThrough ∈ c0 :: lwM := List.mem_cons_of_mem _ (List.mem_append_left _ (List.mem_of_getElem? (i := 135) rfl))
set_option maxRecDepth 100000 in
theorem im_136 {c0 : Cond} : Cond.instanceMethod yX12_lawThrough ∈ c0 :: lwM := List.mem_cons_of_mem _ (List.mem_append_left _ (List.mem_of_getElem? (i := 136) rfl))
set_option maxRecDepth 100000 in
theorem im_137 {c0 : Cond} : Cond.selects RX12 yX12_lawThrough yX12_lawThrough ∈ c0 :: lwM := List.mem_cons_of_mem _ (List.mem_append_left _ (List.mem_of_getElem? (i := 137) rfl))
set_option maxRecDepth 100000 in
theorem im_138 {c0 : Cond} : Cond.code yX12_turnBy cX12_turnBy 6 none ∈ c0 :: lwM := List.mem_cons_of_mem _ (List.mem_append_left _ (List.mem_of_getElem? (i := 138) rfl))
set_option maxRecDepth 100000 in
theorem im_139 {c0 : Cond} : Cond.methodLink RX12 277 yX12_listedAs ∈ c0 :: lwM := List.mem_cons_of_mem _ (List.mem_append_left _ (List.mem_of_getElem? (i := 139) rfl))
set_option maxRecDepth 100000 in
theorem im_140 {c0 : Cond} : Cond.instanceMethod yX12_listedAs ∈ c0 :: lwM := List.mem_cons_of_mem _ (List.mem_append_left _ (List.mem_of_getElem? (i := 140) rfl))
set_option maxRecDepth 100000 in
theorem im_141 {c0 : Cond} : Cond.selects RX12 yX12_listedAs yX12_listedAs ∈ c0 :: lwM := List.mem_cons_of_mem _ (List.mem_append_left _ (List.mem_of_getElem? (i := 141) rfl))
set_option maxRecDepth 100000 in
theorem im_142 {c0 : Cond} : Cond.methodLink RX12 280 yX12_makeWays ∈ c0 :: lwM := List.mem_cons_of_mem _ (List.mem_append_left _ (List.mem_of_getElem? (i := 142) rfl))
set_option maxRecDepth 100000 in
theorem im_143 {c0 : Cond} : Cond.instanceMethod yX12_makeWays ∈ c0 :: lwM := List.mem_cons_of_mem _ (List.mem_append_left _ (List.mem_of_getElem? (i := 143) rfl))
set_option maxRecDepth 100000 in
theorem im_144 {c0 : Cond} : Cond.selects RX12 yX12_makeWays yX12_makeWays ∈ c0 :: lwM := List.mem_cons_of_mem _ (List.mem_append_left _ (List.mem_of_getElem? (i := 144) rfl))
set_option maxRecDepth 100000 in
theorem im_145 {c0 : Cond} : Cond.methodLink RX12 283 yX12_makeForm ∈ c0 :: lwM := List.mem_cons_of_mem _ (List.mem_append_left _ (List.mem_of_getElem? (i := 145) rfl))
set_option maxRecDepth 100000 in
theorem im_146 {c0 : Cond} : Cond.instanceMethod yX12_makeForm ∈ c0 :: lwM := List.mem_cons_of_mem _ (List.mem_append_left _ (List.mem_of_getElem? (i := 146) rfl))
set_option maxRecDepth 100000 in
theorem im_147 {c0 : Cond} : Cond.selects RX12 yX12_makeForm yX12_makeForm ∈ c0 :: lwM := List.mem_cons_of_mem _ (List.mem_append_left _ (List.mem_of_getElem? (i := 147) rfl))
set_option maxRecDepth 100000 in
theorem im_148 {c0 : Cond} : Cond.code yX12_through cX12_through 9 none ∈ c0 :: lwM := List.mem_cons_of_mem _ (List.mem_append_left _ (List.mem_of_getElem? (i := 148) rfl))
set_option maxRecDepth 100000 in
theorem im_149 {c0 : Cond} : Cond.fieldLink RX12 85 "SpellTurnerModel" "nowSize" "[I" ∈ c0 :: lwM := List.mem_cons_of_mem _ (List.mem_append_left _ (List.mem_of_getElem? (i := 149) rfl))
set_option maxRecDepth 100000 in
theorem im_150 {c0 : Cond} : Cond.fieldLink RX12 287 "SpellTurnerModel" "nows" "I" ∈ c0 :: lwM := List.mem_cons_of_mem _ (List.mem_append_left _ (List.mem_of_getElem? (i := 150) rfl))
set_option maxRecDepth 100000 in
theorem im_151 {c0 : Cond} : Cond.fieldLink RX12 91 "SpellTurnerModel" "nextSize" "[I" ∈ c0 :: lwM := List.mem_cons_of_mem _ (List.mem_append_left _ (List.mem_of_getElem? (i := 151) rfl))
set_option maxRecDepth 100000 in
theorem im_152 {c0 : Cond} : Cond.fieldLink RX12 82 "SpellTurnerModel" "now" "[B" ∈ c0 :: lwM := List.mem_cons_of_mem _ (List.mem_append_left _ (List.mem_of_getElem? (i := 152) rfl))
set_option maxRecDepth 100000 in
theorem im_153 {c0 : Cond} : Cond.fieldLink RX12 88 "SpellTurnerModel" "next" "[B" ∈ c0 :: lwM := List.mem_cons_of_mem _ (List.mem_append_left _ (List.mem_of_getElem? (i := 153) rfl))
set_option maxRecDepth 100000 in
theorem im_154 {c0 : Cond} : Cond.methodLink RX12 294 yX12_turnBy ∈ c0 :: lwM := List.mem_cons_of_mem _ (List.mem_append_left _ (List.mem_of_getElem? (i := 154) rfl))
set_option maxRecDepth 100000 in
theorem im_155 {c0 : Cond} : Cond.instanceMethod yX12_turnBy ∈ c0 :: lwM := List.mem_cons_of_mem _ (List.mem_append_left _ (List.mem_of_getElem? (i := 155) rfl))
set_option maxRecDepth 100000 in
theorem im_156 {c0 : Cond} : Cond.selects RX12 yX12_turnBy yX12_turnBy ∈ c0 :: lwM := List.mem_cons_of_mem _ (List.mem_append_left _ (List.mem_of_getElem? (i := 156) rfl))
set_option maxRecDepth 100000 in
theorem im_157 {c0 : Cond} : Cond.code yX12_turn cX12_turn 5 (some .int) ∈ c0 :: lwM := List.mem_cons_of_mem _ (List.mem_append_left _ (List.mem_of_getElem? (i := 157) rfl))
set_option maxRecDepth 100000 in
theorem im_158 {c0 : Cond} : Cond.methodLink RX12 300 yX12_isStage ∈ c0 :: lwM := List.mem_cons_of_mem _ (List.mem_append_left _ (List.mem_of_getElem? (i := 158) rfl))
set_option maxRecDepth 100000 in
theorem im_159 {c0 : Cond} : Cond.instanceMethod yX12_isStage ∈ c0 :: lwM := List.mem_cons_of_mem _ (List.mem_append_left _ (List.mem_of_getElem? (i := 159) rfl))
set_option maxRecDepth 100000 in
theorem im_160 {c0 : Cond} : Cond.selects RX12 yX12_isStage yX12_isStage ∈ c0 :: lwM := List.mem_cons_of_mem _ (List.mem_append_left _ (List.mem_of_getElem? (i := 160) rfl))
set_option maxRecDepth 100000 in
theorem im_161 {c0 : Cond} : Cond.methodLink RX12 303 yX12_through ∈ c0 :: lwM := List.mem_cons_of_mem _ (List.mem_append_left _ (List.mem_of_getElem? (i := 161) rfl))
set_option maxRecDepth 100000 in
theorem im_162 {c0 : Cond} : Cond.instanceMethod yX12_through ∈ c0 :: lwM := List.mem_cons_of_mem _ (List.mem_append_left _ (List.mem_of_getElem? (i := 162) rfl))
set_option maxRecDepth 100000 in
theorem im_163 {c0 : Cond} : Cond.selects RX12 yX12_through yX12_through ∈ c0 :: lwM := List.mem_cons_of_mem _ (List.mem_append_left _ (List.mem_of_getElem? (i := 163) rfl))
set_option maxRecDepth 100000 in
theorem im_164 {c0 : Cond} : Cond.code yX12_partings cX12_partings 5 (some .int) ∈ c0 :: lwM := List.mem_cons_of_mem _ (List.mem_append_left _ (List.mem_of_getElem? (i := 164) rfl))
set_option maxRecDepth 100000 in
theorem im_165 {c0 : Cond} : Cond.code yX12_make cX12_make 6 none ∈ c0 :: lwM := List.mem_cons_of_mem _ (List.mem_append_left _ (List.mem_of_getElem? (i := 165) rfl))
set_option maxRecDepth 100000 in
theorem im_166 {c0 : Cond} : Cond.code yX12_back cX12_back 4 (some .int) ∈ c0 :: lwM := List.mem_cons_of_mem _ (List.mem_append_left _ (List.mem_of_getElem? (i := 166) rfl))
set_option maxRecDepth 100000 in
theorem im_167 {c0 : Cond} : Cond.methodLink RX12 315 yX12_make ∈ c0 :: lwM := List.mem_cons_of_mem _ (List.mem_append_left _ (List.mem_of_getElem? (i := 167) rfl))
set_option maxRecDepth 100000 in
theorem im_168 {c0 : Cond} : Cond.instanceMethod yX12_make ∈ c0 :: lwM := List.mem_cons_of_mem _ (List.mem_append_left _ (List.mem_of_getElem? (i := 168) rfl))
set_option maxRecDepth 100000 in
theorem im_169 {c0 : Cond} : Cond.selects RX12 yX12_make yX12_make ∈ c0 :: lwM := List.mem_cons_of_mem _ (List.mem_append_left _ (List.mem_of_getElem? (i := 169) rfl))
set_option maxRecDepth 100000 in
theorem im_170 {c0 : Cond} : Cond.fieldLink RX12 125 "SpellTurnerModel" "asked" "[B" ∈ c0 :: lwM := List.mem_cons_of_mem _ (List.mem_append_left _ (List.mem_of_getElem? (i := 170) rfl))
set_option maxRecDepth 100000 in
theorem im_171 {c0 : Cond} : Cond.code yX12_collisions cX12_collisions 5 (some .int) ∈ c0 :: lwM := List.mem_cons_of_mem _ (List.mem_append_left _ (List.mem_of_getElem? (i := 171) rfl))
set_option maxRecDepth 100000 in
theorem im_172 {c0 : Cond} : Cond.methodLink RX12 328 yX12_collide ∈ c0 :: lwM := List.mem_cons_of_mem _ (List.mem_append_left _ (List.mem_of_getElem? (i := 172) rfl))
set_option maxRecDepth 100000 in
theorem im_173 {c0 : Cond} : Cond.instanceMethod yX12_collide ∈ c0 :: lwM := List.mem_cons_of_mem _ (List.mem_append_left _ (List.mem_of_getElem? (i := 173) rfl))
set_option maxRecDepth 100000 in
theorem im_174 {c0 : Cond} : Cond.selects RX12 yX12_collide yX12_collide ∈ c0 :: lwM := List.mem_cons_of_mem _ (List.mem_append_left _ (List.mem_of_getElem? (i := 174) rfl))
set_option maxRecDepth 100000 in
theorem im_175 {c0 : Cond} : Cond.code yX12_rhymes cX12_rhymes 5 (some .int) ∈ c0 :: lwM := List.mem_cons_of_mem _ (List.mem_append_left _ (List.mem_of_getElem? (i := 175) rfl))
set_option maxRecDepth 100000 in
theorem im_176 {c0 : Cond} : Cond.methodLink RX12 334 yX12_rhymeAt ∈ c0 :: lwM := List.mem_cons_of_mem _ (List.mem_append_left _ (List.mem_of_getElem? (i := 176) rfl))
set_option maxRecDepth 100000 in
theorem im_177 {c0 : Cond} : Cond.instanceMethod yX12_rhymeAt ∈ c0 :: lwM := List.mem_cons_of_mem _ (List.mem_append_left _ (List.mem_of_getElem? (i := 177) rfl))
set_option maxRecDepth 100000 in
theorem im_178 {c0 : Cond} : Cond.selects RX12 yX12_rhymeAt yX12_rhymeAt ∈ c0 :: lwM := List.mem_cons_of_mem _ (List.mem_append_left _ (List.mem_of_getElem? (i := 178) rfl))
set_option maxRecDepth 100000 in
theorem im_179 {c0 : Cond} : Cond.code yX12_tell cX12_tell 7 (some .int) ∈ c0 :: lwM := List.mem_cons_of_mem _ (List.mem_append_left _ (List.mem_of_getElem? (i := 179) rfl))
set_option maxRecDepth 100000 in
theorem im_180 {c0 : Cond} : Cond.code yX12_uses cX12_uses 6 (some .int) ∈ c0 :: lwM := List.mem_cons_of_mem _ (List.mem_append_left _ (List.mem_of_getElem? (i := 180) rfl))
set_option maxRecDepth 100000 in
theorem im_181 {c0 : Cond} : Cond.code yX12_write1 cX12_write1 5 (some .boolean) ∈ c0 :: lwM := List.mem_cons_of_mem _ (List.mem_append_left _ (List.mem_of_getElem? (i := 181) rfl))
set_option maxRecDepth 100000 in
theorem im_182 {c0 : Cond} : Cond.fieldLink RX12 337 "SpellTurnerModel" "drafted" "I" ∈ c0 :: lwM := List.mem_cons_of_mem _ (List.mem_append_left _ (List.mem_of_getElem? (i := 182) rfl))
set_option maxRecDepth 100000 in
theorem im_183 {c0 : Cond} : Cond.fieldLink RX12 134 "SpellTurnerModel" "draft" "[B" ∈ c0 :: lwM := List.mem_cons_of_mem _ (List.mem_append_left _ (List.mem_of_getElem? (i := 183) rfl))
set_option maxRecDepth 100000 in
theorem im_184 {c0 : Cond} : Cond.code yX12_writeWord cX12_writeWord 5 (some .boolean) ∈ c0 :: lwM := List.mem_cons_of_mem _ (List.mem_append_left _ (List.mem_of_getElem? (i := 184) rfl))
set_option maxRecDepth 100000 in
theorem im_185 {c0 : Cond} : Cond.methodLink RX12 340 yX12_isName ∈ c0 :: lwM := List.mem_cons_of_mem _ (List.mem_append_left _ (List.mem_of_getElem? (i := 185) rfl))
set_option maxRecDepth 100000 in
theorem im_186 {c0 : Cond} : Cond.instanceMethod yX12_isName ∈ c0 :: lwM := List.mem_cons_of_mem _ (List.mem_append_left _ (List.mem_of_getElem? (i := 186) rfl))
set_option maxRecDepth 100000 in
theorem im_187 {c0 : Cond} : Cond.selects RX12 yX12_isName yX12_isName ∈ c0 :: lwM := List.mem_cons_of_mem _ (List.mem_append_left _ (List.mem_of_getElem? (i := 187) rfl))
set_option maxRecDepth 100000 in
theorem im_188 {c0 : Cond} : Cond.fieldLink RX12 140 "SpellTurnerModel" "newCounts" "[I" ∈ c0 :: lwM := List.mem_cons_of_mem _ (List.mem_append_left _ (List.mem_of_getElem? (i := 188) rfl))
set_option maxRecDepth 100000 in
theorem im_189 {c0 : Cond} : Cond.methodLink RX12 344 yX12_write1 ∈ c0 :: lwM := List.mem_cons_of_mem _ (List.mem_append_left _ (List.mem_of_getElem? (i := 189) rfl))
set_option maxRecDepth 100000 in
theorem im_190 {c0 : Cond} : Cond.instanceMethod yX12_write1 ∈ c0 :: lwM := List.mem_cons_of_mem _ (List.mem_append_left _ (List.mem_of_getElem? (i := 190) rfl))
set_option maxRecDepth 100000 in
theorem im_191 {c0 : Cond} : Cond.selects RX12 yX12_write1 yX12_write1 ∈ c0 :: lwM := List.mem_cons_of_mem _ (List.mem_append_left _ (List.mem_of_getElem? (i := 191) rfl))
set_option maxRecDepth 100000 in
theorem im_192 {c0 : Cond} : Cond.code yX12_write cX12_write 7 (some .int) ∈ c0 :: lwM := List.mem_cons_of_mem _ (List.mem_append_left _ (List.mem_of_getElem? (i := 192) rfl))
set_option maxRecDepth 100000 in
theorem im_193 {c0 : Cond} : Cond.methodLink RX12 348 yX12_hasNought ∈ c0 :: lwM := List.mem_cons_of_mem _ (List.mem_append_left _ (List.mem_of_getElem? (i := 193) rfl))
set_option maxRecDepth 100000 in
theorem im_194 {c0 : Cond} : Cond.instanceMethod yX12_hasNought ∈ c0 :: lwM := List.mem_cons_of_mem _ (List.mem_append_left _ (List.mem_of_getElem? (i := 194) rfl))
set_option maxRecDepth 100000 in
theorem im_195 {c0 : Cond} : Cond.selects RX12 yX12_hasNought yX12_hasNought ∈ c0 :: lwM := List.mem_cons_of_mem _ (List.mem_append_left _ (List.mem_of_getElem? (i := 195) rfl))
set_option maxRecDepth 100000 in
theorem im_196 {c0 : Cond} : Cond.methodLink RX12 354 yX12_isLetter ∈ c0 :: lwM := List.mem_cons_of_mem _ (List.mem_append_left _ (List.mem_of_getElem? (i := 196) rfl))
set_option maxRecDepth 100000 in
theorem im_197 {c0 : Cond} : Cond.static yX12_isLetter ∈ c0 :: lwM := List.mem_cons_of_mem _ (List.mem_append_left _ (List.mem_of_getElem? (i := 197) rfl))
set_option maxRecDepth 100000 in
theorem im_198 {c0 : Cond} : Cond.methodLink RX12 357 yX12_writeWord ∈ c0 :: lwM := List.mem_cons_of_mem _ (List.mem_append_left _ (List.mem_of_getElem? (i := 198) rfl))
set_option maxRecDepth 100000 in
theorem im_199 {c0 : Cond} : Cond.instanceMethod yX12_writeWord ∈ c0 :: lwM := List.mem_cons_of_mem _ (List.mem_append_left _ (List.mem_of_getElem? (i := 199) rfl))
set_option maxRecDepth 100000 in
theorem im_200 {c0 : Cond} : Cond.selects RX12 yX12_writeWord yX12_writeWord ∈ c0 :: lwM := List.mem_cons_of_mem _ (List.mem_append_left _ (List.mem_of_getElem? (i := 200) rfl))
set_option maxRecDepth 100000 in
theorem im_201 {c0 : Cond} : Cond.methodLink RX12 351 yX12_quoted ∈ c0 :: lwM := List.mem_cons_of_mem _ (List.mem_append_left _ (List.mem_of_getElem? (i := 201) rfl))
set_option maxRecDepth 100000 in
theorem im_202 {c0 : Cond} : Cond.instanceMethod yX12_quoted ∈ c0 :: lwM := List.mem_cons_of_mem _ (List.mem_append_left _ (List.mem_of_getElem? (i := 202) rfl))
set_option maxRecDepth 100000 in
theorem im_203 {c0 : Cond} : Cond.selects RX12 yX12_quoted yX12_quoted ∈ c0 :: lwM := List.mem_cons_of_mem _ (List.mem_append_left _ (List.mem_of_getElem? (i := 203) rfl))
set_option maxRecDepth 100000 in
theorem im_204 {c0 : Cond} : Cond.code yX12_mixed cX12_mixed 11 (some .int) ∈ c0 :: lwM := List.mem_cons_of_mem _ (List.mem_append_left _ (List.mem_of_getElem? (i := 204) rfl))
set_option maxRecDepth 100000 in
theorem im_205 {c0 : Cond} : Cond.methodLink RX12 370 yX12_onward ∈ c0 :: lwM := List.mem_cons_of_mem _ (List.mem_append_left _ (List.mem_of_getElem? (i := 205) rfl))
set_option maxRecDepth 100000 in
theorem im_206 {c0 : Cond} : Cond.instanceMethod yX12_onward ∈ c0 :: lwM := List.mem_cons_of_mem _ (List.mem_append_left _ (List.mem_of_getElem? (i := 206) rfl))
set_option maxRecDepth 100000 in
theorem im_207 {c0 : Cond} : Cond.selects RX12 yX12_onward yX12_onward ∈ c0 :: lwM := List.mem_cons_of_mem _ (List.mem_append_left _ (List.mem_of_getElem? (i := 207) rfl))
set_option maxRecDepth 100000 in
theorem im_208 {c0 : Cond} : Cond.fieldLink RX12 143 "SpellTurnerModel" "cost" "[I" ∈ c0 :: lwM := List.mem_cons_of_mem _ (List.mem_append_left _ (List.mem_of_getElem? (i := 208) rfl))
set_option maxRecDepth 100000 in
theorem im_209 {c0 : Cond} : Cond.methodLink RX12 367 yX12_isKnown ∈ c0 :: lwM := List.mem_cons_of_mem _ (List.mem_append_left _ (List.mem_of_getElem? (i := 209) rfl))
set_option maxRecDepth 100000 in
theorem im_210 {c0 : Cond} : Cond.instanceMethod yX12_isKnown ∈ c0 :: lwM := List.mem_cons_of_mem _ (List.mem_append_left _ (List.mem_of_getElem? (i := 210) rfl))
set_option maxRecDepth 100000 in
theorem im_211 {c0 : Cond} : Cond.selects RX12 yX12_isKnown yX12_isKnown ∈ c0 :: lwM := List.mem_cons_of_mem _ (List.mem_append_left _ (List.mem_of_getElem? (i := 211) rfl))
def vmX12_in : List Cond := Cond.code yX12_in cX12_in 3 (some .boolean) :: lwM
def vmX12_isSmall : List Cond := Cond.code yX12_isSmall cX12_isSmall 1 (some .boolean) :: lwM
def vmX12_isLetter : List Cond := Cond.code yX12_isLetter cX12_isLetter 1 (some .boolean) :: lwM
def vmX12_see : List Cond := Cond.code yX12_see cX12_see 2 (some .int) :: lwM
def vmX12_wrong : List Cond := Cond.code yX12_wrong cX12_wrong 2 (some .boolean) :: lwM
def vmX12_isStage : List Cond := Cond.code yX12_isStage cX12_isStage 2 (some .boolean) :: lwM
def vmX12_hasNought : List Cond := Cond.code yX12_hasNought cX12_hasNought 3 (some .boolean) :: lwM
def vmX12_feed : List Cond := Cond.code yX12_feed cX12_feed 9 (some .int) :: lwM
def vmX12_end : List Cond := Cond.code yX12_end cX12_end 2 (some .int) :: lwM
def vmX12_sameBytes : List Cond := Cond.code yX12_sameBytes cX12_sameBytes 7 (some .boolean) :: lwM
def vmX12_takeWord : List Cond := Cond.code yX12_takeWord cX12_takeWord 5 none :: lwM
def vmX12_readWord : List Cond := Cond.code yX12_readWord cX12_readWord 3 (some .boolean) :: lwM
def vmX12_isWordPart : List Cond := Cond.code yX12_isWordPart cX12_isWordPart 7 (some .boolean) :: lwM
def vmX12_about : List Cond := Cond.code yX12_about cX12_about 5 (some .int) :: lwM
def vmX12_take : List Cond := Cond.code yX12_take cX12_take 7 (some .boolean) :: lwM
def vmX12_stands : List Cond := Cond.code yX12_stands cX12_stands 6 (some .boolean) :: lwM
def vmX12_fault : List Cond := Cond.code yX12_fault cX12_fault 2 (some .int) :: lwM
def vmX12_stage : List Cond := Cond.code yX12_stage cX12_stage 4 (some .int) :: lwM
def vmX12_form : List Cond := Cond.code yX12_form cX12_form 3 (some .int) :: lwM
def vmX12_parting : List Cond := Cond.code yX12_parting cX12_parting 3 (some .int) :: lwM
def vmX12_word : List Cond := Cond.code yX12_word cX12_word 3 (some .int) :: lwM
def vmX12_old : List Cond := Cond.code yX12_old cX12_old 2 (some .int) :: lwM
def vmX12_collision : List Cond := Cond.code yX12_collision cX12_collision 2 (some .int) :: lwM
def vmX12_written : List Cond := Cond.code yX12_written cX12_written 2 (some .int) :: lwM
def vmX12_counted : List Cond := Cond.code yX12_counted cX12_counted 2 (some .int) :: lwM
def vmX12_line : List Cond := Cond.code yX12_line cX12_line 2 (some .int) :: lwM
def vmX12_count : List Cond := Cond.code yX12_count cX12_count 2 (some .int) :: lwM
def vmX12_isName : List Cond := Cond.code yX12_isName cX12_isName 4 (some .boolean) :: lwM
def vmX12_quoted : List Cond := Cond.code yX12_quoted cX12_quoted 4 (some .int) :: lwM
def vmX12_hasForm : List Cond := Cond.code yX12_hasForm cX12_hasForm 7 (some .boolean) :: lwM
def vmX12_collide : List Cond := Cond.code yX12_collide cX12_collide 5 (some .boolean) :: lwM
def vmX12_rhyme : List Cond := Cond.code yX12_rhyme cX12_rhyme 6 (some .boolean) :: lwM
def vmX12_rhymeAt : List Cond := Cond.code yX12_rhymeAt cX12_rhymeAt 6 (some .boolean) :: lwM
def vmX12_listedAs : List Cond := Cond.code yX12_listedAs cX12_listedAs 3 (some .int) :: lwM
def vmX12_learn : List Cond := Cond.code yX12_learn cX12_learn 2 (some .int) :: lwM
def vmX12_onward : List Cond := Cond.code yX12_onward cX12_onward 7 (some .int) :: lwM
def vmX12_isKnown : List Cond := Cond.code yX12_isKnown cX12_isKnown 5 (some .boolean) :: lwM
def vmX12_copy : List Cond := Cond.code yX12_copy cX12_copy 5 none :: lwM
def vmX12_same : List Cond := Cond.code yX12_same cX12_same 5 (some .boolean) :: lwM
def vmX12_part : List Cond := Cond.code yX12_part cX12_part 5 none :: lwM
def vmX12_makeWays : List Cond := Cond.code yX12_makeWays cX12_makeWays 4 none :: lwM
def vmX12_lawThrough : List Cond := Cond.code yX12_lawThrough cX12_lawThrough 8 none :: lwM
def vmX12_makeForm : List Cond := Cond.code yX12_makeForm cX12_makeForm 10 none :: lwM
def vmX12_turnBy : List Cond := Cond.code yX12_turnBy cX12_turnBy 6 none :: lwM
def vmX12_through : List Cond := Cond.code yX12_through cX12_through 9 none :: lwM
def vmX12_turn : List Cond := Cond.code yX12_turn cX12_turn 5 (some .int) :: lwM
def vmX12_partings : List Cond := Cond.code yX12_partings cX12_partings 5 (some .int) :: lwM
def vmX12_make : List Cond := Cond.code yX12_make cX12_make 6 none :: lwM
def vmX12_back : List Cond := Cond.code yX12_back cX12_back 4 (some .int) :: lwM
def vmX12_collisions : List Cond := Cond.code yX12_collisions cX12_collisions 5 (some .int) :: lwM
def vmX12_rhymes : List Cond := Cond.code yX12_rhymes cX12_rhymes 5 (some .int) :: lwM
def vmX12_tell : List Cond := Cond.code yX12_tell cX12_tell 7 (some .int) :: lwM
def vmX12_uses : List Cond := Cond.code yX12_uses cX12_uses 6 (some .int) :: lwM
def vmX12_write1 : List Cond := Cond.code yX12_write1 cX12_write1 5 (some .boolean) :: lwM
def vmX12_writeWord : List Cond := Cond.code yX12_writeWord cX12_writeWord 5 (some .boolean) :: lwM
def vmX12_write : List Cond := Cond.code yX12_write cX12_write 7 (some .int) :: lwM
def vmX12_mixed : List Cond := Cond.code yX12_mixed cX12_mixed 11 (some .int) :: lwM
theorem gw_X12_isSmall_183 {c0 : Cond} : GoodIn (c0 :: lwM) (va_wsS RX12 183 yX12_isSmall vmX12_isSmall) := gdW im_3 (by decide +kernel) (gdW im_4 (by decide +kernel) (gdW im_5 (by decide +kernel) (gdW im_1 (by decide +kernel) lwM_in)))
theorem gw_X12_in_226 {c0 : Cond} : GoodIn (c0 :: lwM) (va_wsS RX12 226 yX12_in vmX12_in) := gdW im_15 (by decide +kernel) (gdW im_16 (by decide +kernel) (gdW im_5 (by decide +kernel) (gdW im_0 (by decide +kernel) lwM_in)))
theorem gw_X12_takeWord_290 {c0 : Cond} : GoodIn (c0 :: lwM) (wsV RX12 290 RX12 yX12_takeWord vmX12_takeWord) := gdW im_26 (by decide +kernel) (gdW im_27 (by decide +kernel) (gdW im_28 (by decide +kernel) (gdW im_5 (by decide +kernel) (gdW im_22 (by decide +kernel) lwM_in))))
theorem gw_X12_wrong_197 {c0 : Cond} : GoodIn (c0 :: lwM) (wsV RX12 197 RX12 yX12_wrong vmX12_wrong) := gdW im_41 (by decide +kernel) (gdW im_42 (by decide +kernel) (gdW im_43 (by decide +kernel) (gdW im_5 (by decide +kernel) (gdW im_9 (by decide +kernel) lwM_in))))
theorem gw_X12_sameBytes_273 {c0 : Cond} : GoodIn (c0 :: lwM) (va_wsS RX12 273 yX12_sameBytes vmX12_sameBytes) := gdW im_84 (by decide +kernel) (gdW im_85 (by decide +kernel) (gdW im_5 (by decide +kernel) (gdW im_21 (by decide +kernel) lwM_in)))
theorem gw_X12_hasForm_321 {c0 : Cond} : GoodIn (c0 :: lwM) (wsV RX12 321 RX12 yX12_hasForm vmX12_hasForm) := gdW im_87 (by decide +kernel) (gdW im_88 (by decide +kernel) (gdW im_89 (by decide +kernel) (gdW im_5 (by decide +kernel) (gdW im_80 (by decide +kernel) lwM_in))))
theorem gw_X12_rhyme_331 {c0 : Cond} : GoodIn (c0 :: lwM) (va_wsS RX12 331 yX12_rhyme vmX12_rhyme) := gdW im_92 (by decide +kernel) (gdW im_93 (by decide +kernel) (gdW im_5 (by decide +kernel) (gdW im_90 (by decide +kernel) lwM_in)))
theorem gw_X12_readWord_297 {c0 : Cond} : GoodIn (c0 :: lwM) (wsV RX12 297 RX12 yX12_readWord vmX12_readWord) := gdW im_97 (by decide +kernel) (gdW im_98 (by decide +kernel) (gdW im_99 (by decide +kernel) (gdW im_5 (by decide +kernel) (gdW im_25 (by decide +kernel) lwM_in))))
theorem gw_X12_isWordPart_247 {c0 : Cond} : GoodIn (c0 :: lwM) (wsV RX12 247 RX12 yX12_isWordPart vmX12_isWordPart) := gdW im_110 (by decide +kernel) (gdW im_111 (by decide +kernel) (gdW im_112 (by decide +kernel) (gdW im_5 (by decide +kernel) (gdW im_29 (by decide +kernel) lwM_in))))
theorem gw_X12_part_250 {c0 : Cond} : GoodIn (c0 :: lwM) (wsV RX12 250 RX12 yX12_part vmX12_part) := gdW im_114 (by decide +kernel) (gdW im_115 (by decide +kernel) (gdW im_116 (by decide +kernel) (gdW im_5 (by decide +kernel) (gdW im_107 (by decide +kernel) lwM_in))))
theorem gw_X12_stands_256 {c0 : Cond} : GoodIn (c0 :: lwM) (wsV RX12 256 RX12 yX12_stands vmX12_stands) := gdW im_126 (by decide +kernel) (gdW im_127 (by decide +kernel) (gdW im_128 (by decide +kernel) (gdW im_5 (by decide +kernel) (gdW im_44 (by decide +kernel) lwM_in))))
theorem gw_X12_lawThrough_266 {c0 : Cond} : GoodIn (c0 :: lwM) (wsV RX12 266 RX12 yX12_lawThrough vmX12_lawThrough) := gdW im_135 (by decide +kernel) (gdW im_136 (by decide +kernel) (gdW im_137 (by decide +kernel) (gdW im_5 (by decide +kernel) (gdW im_120 (by decide +kernel) lwM_in))))
theorem gw_X12_listedAs_277 {c0 : Cond} : GoodIn (c0 :: lwM) (wsV RX12 277 RX12 yX12_listedAs vmX12_listedAs) := gdW im_139 (by decide +kernel) (gdW im_140 (by decide +kernel) (gdW im_141 (by decide +kernel) (gdW im_5 (by decide +kernel) (gdW im_94 (by decide +kernel) lwM_in))))
theorem gw_X12_makeWays_280 {c0 : Cond} : GoodIn (c0 :: lwM) (wsV RX12 280 RX12 yX12_makeWays vmX12_makeWays) := gdW im_142 (by decide +kernel) (gdW im_143 (by decide +kernel) (gdW im_144 (by decide +kernel) (gdW im_5 (by decide +kernel) (gdW im_119 (by decide +kernel) lwM_in))))
theorem gw_X12_makeForm_283 {c0 : Cond} : GoodIn (c0 :: lwM) (wsV RX12 283 RX12 yX12_makeForm vmX12_makeForm) := gdW im_145 (by decide +kernel) (gdW im_146 (by decide +kernel) (gdW im_147 (by decide +kernel) (gdW im_5 (by decide +kernel) (gdW im_131 (by decide +kernel) lwM_in))))
theorem gw_X12_turnBy_294 {c0 : Cond} : GoodIn (c0 :: lwM) (wsV RX12 294 RX12 yX12_turnBy vmX12_turnBy) := gdW im_154 (by decide +kernel) (gdW im_155 (by decide +kernel) (gdW im_156 (by decide +kernel) (gdW im_5 (by decide +kernel) (gdW im_138 (by decide +kernel) lwM_in))))
theorem gw_X12_isStage_300 {c0 : Cond} : GoodIn (c0 :: lwM) (wsV RX12 300 RX12 yX12_isStage vmX12_isStage) := gdW im_158 (by decide +kernel) (gdW im_159 (by decide +kernel) (gdW im_160 (by decide +kernel) (gdW im_5 (by decide +kernel) (gdW im_13 (by decide +kernel) lwM_in))))
theorem gw_X12_through_303 {c0 : Cond} : GoodIn (c0 :: lwM) (wsV RX12 303 RX12 yX12_through vmX12_through) := gdW im_161 (by decide +kernel) (gdW im_162 (by decide +kernel) (gdW im_163 (by decide +kernel) (gdW im_5 (by decide +kernel) (gdW im_148 (by decide +kernel) lwM_in))))
theorem gw_X12_make_315 {c0 : Cond} : GoodIn (c0 :: lwM) (wsV RX12 315 RX12 yX12_make vmX12_make) := gdW im_167 (by decide +kernel) (gdW im_168 (by decide +kernel) (gdW im_169 (by decide +kernel) (gdW im_5 (by decide +kernel) (gdW im_165 (by decide +kernel) lwM_in))))
theorem gw_X12_collide_328 {c0 : Cond} : GoodIn (c0 :: lwM) (wsV RX12 328 RX12 yX12_collide vmX12_collide) := gdW im_172 (by decide +kernel) (gdW im_173 (by decide +kernel) (gdW im_174 (by decide +kernel) (gdW im_5 (by decide +kernel) (gdW im_86 (by decide +kernel) lwM_in))))
theorem gw_X12_rhymeAt_334 {c0 : Cond} : GoodIn (c0 :: lwM) (wsV RX12 334 RX12 yX12_rhymeAt vmX12_rhymeAt) := gdW im_176 (by decide +kernel) (gdW im_177 (by decide +kernel) (gdW im_178 (by decide +kernel) (gdW im_5 (by decide +kernel) (gdW im_91 (by decide +kernel) lwM_in))))
theorem gw_X12_isName_340 {c0 : Cond} : GoodIn (c0 :: lwM) (wsV RX12 340 RX12 yX12_isName vmX12_isName) := gdW im_185 (by decide +kernel) (gdW im_186 (by decide +kernel) (gdW im_187 (by decide +kernel) (gdW im_5 (by decide +kernel) (gdW im_78 (by decide +kernel) lwM_in))))
theorem gw_X12_write1_344 {c0 : Cond} : GoodIn (c0 :: lwM) (wsV RX12 344 RX12 yX12_write1 vmX12_write1) := gdW im_189 (by decide +kernel) (gdW im_190 (by decide +kernel) (gdW im_191 (by decide +kernel) (gdW im_5 (by decide +kernel) (gdW im_181 (by decide +kernel) lwM_in))))
theorem gw_X12_hasNought_348 {c0 : Cond} : GoodIn (c0 :: lwM) (wsV RX12 348 RX12 yX12_hasNought vmX12_hasNought) := gdW im_193 (by decide +kernel) (gdW im_194 (by decide +kernel) (gdW im_195 (by decide +kernel) (gdW im_5 (by decide +kernel) (gdW im_17 (by decide +kernel) lwM_in))))
theorem gw_X12_isLetter_354 {c0 : Cond} : GoodIn (c0 :: lwM) (va_wsS RX12 354 yX12_isLetter vmX12_isLetter) := gdW im_196 (by decide +kernel) (gdW im_197 (by decide +kernel) (gdW im_5 (by decide +kernel) (gdW im_2 (by decide +kernel) lwM_in)))
theorem gw_X12_writeWord_357 {c0 : Cond} : GoodIn (c0 :: lwM) (wsV RX12 357 RX12 yX12_writeWord vmX12_writeWord) := gdW im_198 (by decide +kernel) (gdW im_199 (by decide +kernel) (gdW im_200 (by decide +kernel) (gdW im_5 (by decide +kernel) (gdW im_184 (by decide +kernel) lwM_in))))
theorem gw_X12_quoted_351 {c0 : Cond} : GoodIn (c0 :: lwM) (wsV RX12 351 RX12 yX12_quoted vmX12_quoted) := gdW im_201 (by decide +kernel) (gdW im_202 (by decide +kernel) (gdW im_203 (by decide +kernel) (gdW im_5 (by decide +kernel) (gdW im_79 (by decide +kernel) lwM_in))))
theorem gw_X12_onward_370 {c0 : Cond} : GoodIn (c0 :: lwM) (wsV RX12 370 RX12 yX12_onward vmX12_onward) := gdW im_205 (by decide +kernel) (gdW im_206 (by decide +kernel) (gdW im_207 (by decide +kernel) (gdW im_5 (by decide +kernel) (gdW im_101 (by decide +kernel) lwM_in))))
theorem gw_X12_isKnown_367 {c0 : Cond} : GoodIn (c0 :: lwM) (wsV RX12 367 RX12 yX12_isKnown vmX12_isKnown) := gdW im_209 (by decide +kernel) (gdW im_210 (by decide +kernel) (gdW im_211 (by decide +kernel) (gdW im_5 (by decide +kernel) (gdW im_104 (by decide +kernel) lwM_in))))
