def lwM0 : List Cond := [Cond.code yJ0_coder_7d493 cJ0_coder_7d493 1 (some .byte), Cond.fieldLink RJ0 38 "java/lang/String" "COMPACT_STRINGS" "Z", Cond.fieldLink RJ0 15 "java/lang/String" "coder" "B", Cond.code yJ0_length_8abf5 cJ0_length_8abf5 1 (some .int), Cond.fieldLink RJ0 9 "java/lang/String" "value" "[B", Cond.methodLink RJ0 335 yJ0_coder_7d493, Cond.instanceMethod yJ0_coder_7d493, Cond.selects RJ0 yJ0_coder_7d493 yJ0_coder_7d493, Cond.initialized RJ0, Cond.code yJ0_isLatin1_aae02 cJ0_isLatin1_aae02 1 (some .boolean), Cond.code yJ3_checkIndex_8e157 cJ3_checkIndex_8e157 3 (some .int), Cond.code yJ0_checkIndex_df160 cJ0_checkIndex_df160 2 none, Cond.fieldLink RJ0 1053 "jdk/internal/util/Preconditions" "SIOOBE_FORMATTER" "Ljava/util/function/BiFunction;", Cond.methodLink RJ0 1059 yJ3_checkIndex_8e157, Cond.static yJ3_checkIndex_8e157, Cond.initialized RJ3, Cond.code yJ1_charAt_3b067 cJ1_charAt_3b067 2 (some .char), Cond.methodLink RJ1 9 yJ0_checkIndex_df160, Cond.static yJ0_checkIndex_df160, Cond.code yJ0_charAt_5068e cJ0_charAt_5068e 2 (some .char), Cond.methodLink RJ0 492 yJ0_isLatin1_aae02, Cond.instanceMethod yJ0_isLatin1_aae02, Cond.selects RJ0 yJ0_isLatin1_aae02 yJ0_isLatin1_aae02, Cond.methodLink RJ0 495 yJ1_charAt_3b067, Cond.static yJ1_charAt_3b067, Cond.initialized RJ1, Cond.code yX12_in cX12_in 3 (some .boolean), Cond.code yX12_isSmall cX12_isSmall 1 (some .boolean), Cond.code yX12_isLetter cX12_isLetter 1 (some .boolean), Cond.methodLink RX12 183 yX12_isSmall, Cond.static yX12_isSmall, Cond.initialized RX12, Cond.code yX12_see cX12_see 2 (some .int), Cond.fieldLink RX12 155 "SpellTurnerModel" "size" "I", Cond.fieldLink RX12 7 "SpellTurnerModel" "tape" "[B", Cond.code yX12_wrong cX12_wrong 2 (some .boolean), Cond.fieldLink RX12 194 "SpellTurnerModel" "faultKind" "I", Cond.fieldLink RX12 177 "SpellTurnerModel" "at" "I", Cond.fieldLink RX12 13 "SpellTurnerModel" "faultPlace" "I", Cond.code yX12_isStage cX12_isStage 2 (some .boolean), Cond.fieldLink RX12 222 "SpellTurnerModel" "reforms" "I", Cond.methodLink RX12 226 yX12_in, Cond.static yX12_in, Cond.code yX12_hasNought cX12_hasNought 3 (some .boolean), Cond.code yX12_feed cX12_feed 9 (some .int), Cond.fieldLink RX12 152 "SpellTurnerModel" "taped" "I", Cond.code yX12_end cX12_end 2 (some .int), Cond.code yX12_sameBytes cX12_sameBytes 7 (some .boolean), Cond.code yX12_takeWord cX12_takeWord 5 none, Cond.fieldLink RX12 244 "SpellTurnerModel" "letters" "I", Cond.fieldLink RX12 55 "SpellTurnerModel" "word" "[B", Cond.code yX12_readWord cX12_readWord 3 (some .boolean), Cond.methodLink RX12 290 yX12_takeWord, Cond.instanceMethod yX12_takeWord, Cond.selects RX12 yX12_takeWord yX12_takeWord, Cond.code yX12_isWordPart cX12_isWordPart 7 (some .boolean), Cond.fieldLink RX12 24 "SpellTurnerModel" "parts" "[I", Cond.fieldLink RX12 46 "SpellTurnerModel" "partSize" "[I", Cond.fieldLink RX12 43 "SpellTurnerModel" "partText" "[B", Cond.code yX12_about cX12_about 5 (some .int), Cond.fieldLink RX12 17 "SpellTurnerModel" "day" "[I", Cond.fieldLink RX12 21 "SpellTurnerModel" "laws" "[I", Cond.fieldLink RX12 27 "SpellTurnerModel" "listed" "[I", Cond.fieldLink RX12 52 "SpellTurnerModel" "listSize" "[I", Cond.code yX12_take cX12_take 7 (some .boolean), Cond.fieldLink RX12 180 "SpellTurnerModel" "sort" "I", Cond.fieldLink RX12 174 "SpellTurnerModel" "end" "I", Cond.methodLink RX12 197 yX12_wrong, Cond.instanceMethod yX12_wrong, Cond.selects RX12 yX12_wrong yX12_wrong, Cond.code yX12_stands cX12_stands 6 (some .boolean), Cond.fieldLink RX12 33 "SpellTurnerModel" "lawSize" "[I", Cond.fieldLink RX12 30 "SpellTurnerModel" "lawText" "[B", Cond.code yX12_fault cX12_fault 2 (some .int), Cond.code yX12_stage cX12_stage 4 (some .int), Cond.constant RX12 225 (100000), Cond.code yX12_form cX12_form 3 (some .int), Cond.fieldLink RX12 306 "SpellTurnerModel" "tolds" "I", Cond.fieldLink RX12 97 "SpellTurnerModel" "toldSize" "[I", Cond.fieldLink RX12 94 "SpellTurnerModel" "told" "[B", Cond.code yX12_parting cX12_parting 3 (some .int), Cond.fieldLink RX12 309 "SpellTurnerModel" "toldWayMany" "I", Cond.fieldLink RX12 103 "SpellTurnerModel" "toldParts" "[I", Cond.fieldLink RX12 100 "SpellTurnerModel" "toldWays" "[I", Cond.code yX12_word cX12_word 3 (some .int), Cond.fieldLink RX12 312 "SpellTurnerModel" "words" "I", Cond.fieldLink RX12 109 "SpellTurnerModel" "bookSize" "[I", Cond.fieldLink RX12 106 "SpellTurnerModel" "bookText" "[B", Cond.code yX12_old cX12_old 2 (some .int), Cond.fieldLink RX12 318 "SpellTurnerModel" "oldMany" "I", Cond.fieldLink RX12 122 "SpellTurnerModel" "olds" "[I", Cond.code yX12_collision cX12_collision 2 (some .int), Cond.fieldLink RX12 325 "SpellTurnerModel" "pairMany" "I", Cond.fieldLink RX12 128 "SpellTurnerModel" "pairs" "[I", Cond.code yX12_written cX12_written 2 (some .int), Cond.fieldLink RX12 361 "SpellTurnerModel" "texted" "I", Cond.fieldLink RX12 131 "SpellTurnerModel" "text" "[B", Cond.code yX12_counted cX12_counted 2 (some .int), Cond.fieldLink RX12 364 "SpellTurnerModel" "hasText" "Z", Cond.fieldLink RX12 137 "SpellTurnerModel" "counts" "[I", Cond.code yX12_line cX12_line 2 (some .int), Cond.fieldLink RX12 374 "SpellTurnerModel" "lines" "I", Cond.fieldLink RX12 149 "SpellTurnerModel" "stageOf" "[I", Cond.code yX12_count cX12_count 2 (some .int), Cond.code yX12_isName cX12_isName 4 (some .boolean), Cond.code yX12_quoted cX12_quoted 4 (some .int), Cond.code yX12_hasForm cX12_hasForm 7 (some .boolean), Cond.fieldLink RX12 119 "SpellTurnerModel" "formMany" "[I", Cond.fieldLink RX12 113 "SpellTurnerModel" "formText" "[B", Cond.fieldLink RX12 116 "SpellTurnerModel" "formSize" "[I", Cond.methodLink RX12 273 yX12_sameBytes, Cond.static yX12_sameBytes, Cond.code yX12_collide cX12_collide 5 (some .boolean), Cond.methodLink RX12 321 yX12_hasForm, Cond.instanceMethod yX12_hasForm, Cond.selects RX12 yX12_hasForm yX12_hasForm, Cond.code yX12_rhyme cX12_rhyme 6 (some .boolean), Cond.code yX12_rhymeAt cX12_rhymeAt 6 (some .boolean), Cond.methodLink RX12 331 yX12_rhyme, Cond.static yX12_rhyme, Cond.code yX12_listedAs cX12_listedAs 3 (some .int), Cond.fieldLink RX12 49 "SpellTurnerModel" "listText" "[B", Cond.code yX12_learn cX12_learn 2 (some .int), Cond.methodLink RX12 297 yX12_readWord, Cond.instanceMethod yX12_readWord, Cond.selects RX12 yX12_readWord yX12_readWord, Cond.fieldLink RX12 237 "SpellTurnerModel" "isMade" "Z", Cond.code yX12_onward cX12_onward 7 (some .int), Cond.constant RX12 379 (2147483647), Cond.fieldLink RX12 146 "SpellTurnerModel" "sum" "[I", Cond.code yX12_isKnown cX12_isKnown 5 (some .boolean), Cond.code yX12_copy cX12_copy 5 none, Cond.code yX12_same cX12_same 5 (some .boolean), Cond.code yX12_part cX12_part 5 none, Cond.fieldLink RX12 241 "SpellTurnerModel" "wayMany" "I", Cond.fieldLink RX12 67 "SpellTurnerModel" "canEnd" "[Z", Cond.methodLink RX12 247 yX12_isWordPart, Cond.instanceMethod yX12_isWordPart, Cond.selects RX12 yX12_isWordPart yX12_isWordPart, Cond.fieldLink RX12 58 "SpellTurnerModel" "lengths" "[I", Cond.methodLink RX12 250 yX12_part, Cond.instanceMethod yX12_part, Cond.selects RX12 yX12_part yX12_part, Cond.fieldLink RX12 64 "SpellTurnerModel" "wayParts" "[I", Cond.fieldLink RX12 61 "SpellTurnerModel" "ways" "[I", Cond.code yX12_makeWays cX12_makeWays 4 none, Cond.code yX12_lawThrough cX12_lawThrough 8 none, Cond.fieldLink RX12 253 "SpellTurnerModel" "partLetters" "I", Cond.fieldLink RX12 260 "SpellTurnerModel" "isUsed" "Z", Cond.fieldLink RX12 263 "SpellTurnerModel" "lawAsked" "I", Cond.fieldLink RX12 70 "SpellTurnerModel" "part" "[B", Cond.fieldLink RX12 73 "SpellTurnerModel" "written" "[B", Cond.methodLink RX12 256 yX12_stands, Cond.instanceMethod yX12_stands, Cond.selects RX12 yX12_stands yX12_stands, Cond.fieldLink RX12 36 "SpellTurnerModel" "atStart" "[Z", Cond.fieldLink RX12 40 "SpellTurnerModel" "atEnd" "[Z", Cond.code yX12_makeForm cX12_makeForm 10 none, Cond.fieldLink RX12 79 "SpellTurnerModel" "madeSize" "[I", Cond.fieldLink RX12 270 "SpellTurnerModel" "mades" "I", Cond.fieldLink RX12 76 "SpellTurnerModel" "made" "[B", Cond.methodLink RX12 266 yX12_lawThrough, Cond.instanceMethod yX12_lawThrough, Cond.selects RX12 yX12_lawThrough yX12_lawThrough, Cond.code yX12_turnBy cX12_turnBy 6 none, Cond.methodLink RX12 277 yX12_listedAs, Cond.instanceMethod yX12_listedAs, Cond.selects RX12 yX12_listedAs yX12_listedAs, Cond.methodLink RX12 280 yX12_makeWays, Cond.instanceMethod yX12_makeWays, Cond.selects RX12 yX12_makeWays yX12_makeWays, Cond.methodLink RX12 283 yX12_makeForm, Cond.instanceMethod yX12_makeForm, Cond.selects RX12 yX12_makeForm yX12_makeForm, Cond.code yX12_through cX12_through 9 none, Cond.fieldLink RX12 85 "SpellTurnerModel" "nowSize" "[I", Cond.fieldLink RX12 287 "SpellTurnerModel" "nows" "I", Cond.fieldLink RX12 91 "SpellTurnerModel" "nextSize" "[I", Cond.fieldLink RX12 82 "SpellTurnerModel" "now" "[B", Cond.fieldLink RX12 88 "SpellTurnerModel" "next" "[B", Cond.methodLink RX12 294 yX12_turnBy, Cond.instanceMethod yX12_turnBy, Cond.selects RX12 yX12_turnBy yX12_turnBy, Cond.code yX12_turn cX12_turn 5 (some .int), Cond.methodLink RX12 300 yX12_isStage, Cond.instanceMethod yX12_isStage, Cond.selects RX12 yX12_isStage yX12_isStage, Cond.methodLink RX12 303 yX12_through, Cond.instanceMethod yX12_through, Cond.selects RX12 yX12_through yX12_through, Cond.code yX12_partings cX12_partings 5 (some .int), Cond.code yX12_make cX12_make 6 none, Cond.code yX12_back cX12_back 4 (some .int), Cond.methodLink RX12 315 yX12_make, Cond.instanceMethod yX12_make, Cond.selects RX12 yX12_make yX12_make, Cond.fieldLink RX12 125 "SpellTurnerModel" "asked" "[B", Cond.code yX12_collisions cX12_collisions 5 (some .int), Cond.methodLink RX12 328 yX12_collide, Cond.instanceMethod yX12_collide, Cond.selects RX12 yX12_collide yX12_collide, Cond.code yX12_rhymes cX12_rhymes 5 (some .int), Cond.methodLink RX12 334 yX12_rhymeAt, Cond.instanceMethod yX12_rhymeAt, Cond.selects RX12 yX12_rhymeAt yX12_rhymeAt, Cond.code yX12_tell cX12_tell 7 (some .int), Cond.code yX12_uses cX12_uses 6 (some .int), Cond.code yX12_write1 cX12_write1 5 (some .boolean), Cond.fieldLink RX12 337 "SpellTurnerModel" "drafted" "I", Cond.fieldLink RX12 134 "SpellTurnerModel" "draft" "[B", Cond.code yX12_writeWord cX12_writeWord 5 (some .boolean), Cond.methodLink RX12 340 yX12_isName, Cond.instanceMethod yX12_isName, Cond.selects RX12 yX12_isName yX12_isName, Cond.fieldLink RX12 140 "SpellTurnerModel" "newCounts" "[I", Cond.methodLink RX12 344 yX12_write1, Cond.instanceMethod yX12_write1, Cond.selects RX12 yX12_write1 yX12_write1, Cond.code yX12_write cX12_write 7 (some .int), Cond.methodLink RX12 348 yX12_hasNought, Cond.instanceMethod yX12_hasNought, Cond.selects RX12 yX12_hasNought yX12_hasNought, Cond.methodLink RX12 354 yX12_isLetter, Cond.static yX12_isLetter, Cond.methodLink RX12 357 yX12_writeWord, Cond.instanceMethod yX12_writeWord, Cond.selects RX12 yX12_writeWord yX12_writeWord, Cond.methodLink RX12 351 yX12_quoted, Cond.instanceMethod yX12_quoted, Cond.selects RX12 yX12_quoted yX12_quoted, Cond.code yX12_mixed cX12_mixed 11 (some .int), Cond.methodLink RX12 370 yX12_onward, Cond.instanceMethod yX12_onward, Cond.selects RX12 yX12_onward yX12_onward, Cond.fieldLink RX12 143 "SpellTurnerModel" "cost" "[I", Cond.methodLink RX12 367 yX12_isKnown, Cond.instanceMethod yX12_isKnown, Cond.selects RX12 yX12_isKnown yX12_isKnown, Cond.code yX12_keyAt cX12_keyAt 8 (some .int), Cond.methodLink RX12 160 yJ0_length_8abf5, Cond.instanceMethod yJ0_length_8abf5, Cond.selects RJ0 yJ0_length_8abf5 yJ0_length_8abf5, Cond.methodLink RX12 166 yJ0_charAt_5068e, Cond.instanceMethod yJ0_charAt_5068e, Cond.selects RJ0 yJ0_charAt_5068e yJ0_charAt_5068e, Cond.methodLink RX12 170 yX12_see, Cond.instanceMethod yX12_see, Cond.selects RX12 yX12_see yX12_see, Cond.code yX12_scan cX12_scan 4 none, Cond.methodLink RX12 187 yX12_keyAt, Cond.instanceMethod yX12_keyAt, Cond.selects RX12 yX12_keyAt yX12_keyAt, Cond.fieldLink RX12 191 "SpellTurnerModel" "what" "I", Cond.code yX12_readListed cX12_readListed 4 (some .boolean), Cond.methodLink RX12 200 yX12_scan, Cond.instanceMethod yX12_scan, Cond.selects RX12 yX12_scan yX12_scan, Cond.methodLink RX12 203 yX12_take, Cond.instanceMethod yX12_take, Cond.selects RX12 yX12_take yX12_take, Cond.methodLink RX12 207 yX12_same, Cond.static yX12_same, Cond.code yX12_readPart cX12_readPart 3 (some .boolean), Cond.code yX12_readLaw cX12_readLaw 4 (some .boolean), Cond.code yX12_readItem cX12_readItem 2 (some .boolean), Cond.methodLink RX12 211 yX12_readListed, Cond.instanceMethod yX12_readListed, Cond.selects RX12 yX12_readListed yX12_readListed, Cond.methodLink RX12 219 yX12_readLaw, Cond.instanceMethod yX12_readLaw, Cond.selects RX12 yX12_readLaw yX12_readLaw, Cond.methodLink RX12 215 yX12_readPart, Cond.instanceMethod yX12_readPart, Cond.selects RX12 yX12_readPart yX12_readPart, Cond.code yX12_reform cX12_reform 4 (some .int), Cond.methodLink RX12 233 yX12_copy, Cond.static yX12_copy, Cond.methodLink RX12 230 yX12_readItem, Cond.instanceMethod yX12_readItem, Cond.selects RX12 yX12_readItem yX12_readItem]
def lwM : List Cond := lwM0 ++ wsX120
set_option maxRecDepth 100000 in
theorem lwM0_good : lwM0.all goodWord = true := by decide +kernel
theorem inX12 {c0 : Cond} : ∀ w ∈ u_ws RX12 TX12 71, w ∈ c0 :: lwM := fun _ h => List.mem_cons_of_mem _ (List.mem_append_right _ h)
theorem lwM_in {c0 : Cond} : GoodIn (c0 :: lwM) lwM := by
  intro w hw
  rcases List.mem_append.mp hw with h | h
  · exact ⟨List.mem_cons_of_mem _ hw, good_of_word (List.all_eq_true.mp lwM0_good w h)⟩
  · exact gb_X12 inX12 w h
theorem gdW {big ws : List Cond} {w : Cond} (h1 : w ∈ big) (h2 : goodWord w = true) (h : GoodIn big ws) : GoodIn big (w :: ws) := by
  intro v hv
  rcases List.mem_cons.mp hv with e | e
  · rw [e]; exact ⟨h1, good_of_word h2⟩
  · exact h v e
set_option maxRecDepth 100000 in
theorem im_0 {c0 : Cond} : Cond.code yJ0_coder_7d493 cJ0_coder_7d493 1 (some .byte) ∈ c0 :: lwM := List.mem_cons_of_mem _ (List.mem_append_left _ (List.mem_of_getElem? (i := 0) rfl))
set_option maxRecDepth 100000 in
theorem im_1 {c0 : Cond} : Cond.fieldLink RJ0 38 "java/lang/String" "COMPACT_STRINGS" "Z" ∈ c0 :: lwM := List.mem_cons_of_mem _ (List.mem_append_left _ (List.mem_of_getElem? (i := 1) rfl))
set_option maxRecDepth 100000 in
theorem im_2 {c0 : Cond} : Cond.fieldLink RJ0 15 "java/lang/String" "coder" "B" ∈ c0 :: lwM := List.mem_cons_of_mem _ (List.mem_append_left _ (List.mem_of_getElem? (i := 2) rfl))
set_option maxRecDepth 100000 in
theorem im_3 {c0 : Cond} : Cond.code yJ0_length_8abf5 cJ0_length_8abf5 1 (some .int) ∈ c0 :: lwM := List.mem_cons_of_mem _ (List.mem_append_left _ (List.mem_of_getElem? (i := 3) rfl))
set_option maxRecDepth 100000 in
theorem im_4 {c0 : Cond} : Cond.fieldLink RJ0 9 "java/lang/String" "value" "[B" ∈ c0 :: lwM := List.mem_cons_of_mem _ (List.mem_append_left _ (List.mem_of_getElem? (i := 4) rfl))
set_option maxRecDepth 100000 in
theorem im_5 {c0 : Cond} : Cond.methodLink RJ0 335 yJ0_coder_7d493 ∈ c0 :: lwM := List.mem_cons_of_mem _ (List.mem_append_left _ (List.mem_of_getElem? (i := 5) rfl))
set_option maxRecDepth 100000 in
theorem im_6 {c0 : Cond} : Cond.instanceMethod yJ0_coder_7d493 ∈ c0 :: lwM := List.mem_cons_of_mem _ (List.mem_append_left _ (List.mem_of_getElem? (i := 6) rfl))
set_option maxRecDepth 100000 in
theorem im_7 {c0 : Cond} : Cond.selects RJ0 yJ0_coder_7d493 yJ0_coder_7d493 ∈ c0 :: lwM := List.mem_cons_of_mem _ (List.mem_append_left _ (List.mem_of_getElem? (i := 7) rfl))
set_option maxRecDepth 100000 in
theorem im_8 {c0 : Cond} : Cond.initialized RJ0 ∈ c0 :: lwM := List.mem_cons_of_mem _ (List.mem_append_left _ (List.mem_of_getElem? (i := 8) rfl))
set_option maxRecDepth 100000 in
theorem im_9 {c0 : Cond} : Cond.code yJ0_isLatin1_aae02 cJ0_isLatin1_aae02 1 (some .boolean) ∈ c0 :: lwM := List.mem_cons_of_mem _ (List.mem_append_left _ (List.mem_of_getElem? (i := 9) rfl))
set_option maxRecDepth 100000 in
theorem im_10 {c0 : Cond} : Cond.code yJ3_checkIndex_8e157 cJ3_checkIndex_8e157 3 (some .int) ∈ c0 :: lwM := List.mem_cons_of_mem _ (List.mem_append_left _ (List.mem_of_getElem? (i := 10) rfl))
set_option maxRecDepth 100000 in
theorem im_11 {c0 : Cond} : Cond.code yJ0_checkIndex_df160 cJ0_checkIndex_df160 2 none ∈ c0 :: lwM := List.mem_cons_of_mem _ (List.mem_append_left _ (List.mem_of_getElem? (i := 11) rfl))
set_option maxRecDepth 100000 in
theorem im_12 {c0 : Cond} : Cond.fieldLink RJ0 1053 "jdk/internal/util/Preconditions" "SIOOBE_FORMATTER" "Ljava/util/function/BiFunction;" ∈ c0 :: lwM := List.mem_cons_of_mem _ (List.mem_append_left _ (List.mem_of_getElem? (i := 12) rfl))
set_option maxRecDepth 100000 in
theorem im_13 {c0 : Cond} : Cond.methodLink RJ0 1059 yJ3_checkIndex_8e157 ∈ c0 :: lwM := List.mem_cons_of_mem _ (List.mem_append_left _ (List.mem_of_getElem? (i := 13) rfl))
set_option maxRecDepth 100000 in
theorem im_14 {c0 : Cond} : Cond.static yJ3_checkIndex_8e157 ∈ c0 :: lwM := List.mem_cons_of_mem _ (List.mem_append_left _ (List.mem_of_getElem? (i := 14) rfl))
set_option maxRecDepth 100000 in
theorem im_15 {c0 : Cond} : Cond.initialized RJ3 ∈ c0 :: lwM := List.mem_cons_of_mem _ (List.mem_append_left _ (List.mem_of_getElem? (i := 15) rfl))
set_option maxRecDepth 100000 in
theorem im_16 {c0 : Cond} : Cond.code yJ1_charAt_3b067 cJ1_charAt_3b067 2 (some .char) ∈ c0 :: lwM := List.mem_cons_of_mem _ (List.mem_append_left _ (List.mem_of_getElem? (i := 16) rfl))
set_option maxRecDepth 100000 in
theorem im_17 {c0 : Cond} : Cond.methodLink RJ1 9 yJ0_checkIndex_df160 ∈ c0 :: lwM := List.mem_cons_of_mem _ (List.mem_append_left _ (List.mem_of_getElem? (i := 17) rfl))
set_option maxRecDepth 100000 in
theorem im_18 {c0 : Cond} : Cond.static yJ0_checkIndex_df160 ∈ c0 :: lwM := List.mem_cons_of_mem _ (List.mem_append_left _ (List.mem_of_getElem? (i := 18) rfl))
set_option maxRecDepth 100000 in
theorem im_19 {c0 : Cond} : Cond.code yJ0_charAt_5068e cJ0_charAt_5068e 2 (some .char) ∈ c0 :: lwM := List.mem_cons_of_mem _ (List.mem_append_left _ (List.mem_of_getElem? (i := 19) rfl))
set_option maxRecDepth 100000 in
theorem im_20 {c0 : Cond} : Cond.methodLink RJ0 492 yJ0_isLatin1_aae02 ∈ c0 :: lwM := List.mem_cons_of_mem _ (List.mem_append_left _ (List.mem_of_getElem? (i := 20) rfl))
set_option maxRecDepth 100000 in
theorem im_21 {c0 : Cond} : Cond.instanceMethod yJ0_isLatin1_aae02 ∈ c0 :: lwM := List.mem_cons_of_mem _ (List.mem_append_left _ (List.mem_of_getElem? (i := 21) rfl))
set_option maxRecDepth 100000 in
theorem im_22 {c0 : Cond} : Cond.selects RJ0 yJ0_isLatin1_aae02 yJ0_isLatin1_aae02 ∈ c0 :: lwM := List.mem_cons_of_mem _ (List.mem_append_left _ (List.mem_of_getElem? (i := 22) rfl))
set_option maxRecDepth 100000 in
theorem im_23 {c0 : Cond} : Cond.methodLink RJ0 495 yJ1_charAt_3b067 ∈ c0 :: lwM := List.mem_cons_of_mem _ (List.mem_append_left _ (List.mem_of_getElem? (i := 23) rfl))
set_option maxRecDepth 100000 in
theorem im_24 {c0 : Cond} : Cond.static yJ1_charAt_3b067 ∈ c0 :: lwM := List.mem_cons_of_mem _ (List.mem_append_left _ (List.mem_of_getElem? (i := 24) rfl))
set_option maxRecDepth 100000 in
theorem im_25 {c0 : Cond} : Cond.initialized RJ1 ∈ c0 :: lwM := List.mem_cons_of_mem _ (List.mem_append_left _ (List.mem_of_getElem? (i := 25) rfl))
set_option maxRecDepth 100000 in
theorem im_26 {c0 : Cond} : Cond.code yX12_in cX12_in 3 (some .boolean) ∈ c0 :: lwM := List.mem_cons_of_mem _ (List.mem_append_left _ (List.mem_of_getElem? (i := 26) rfl))
set_option maxRecDepth 100000 in
theorem im_27 {c0 : Cond} : Cond.code yX12_isSmall cX12_isSmall 1 (some .boolean) ∈ c0 :: lwM := List.mem_cons_of_mem _ (List.mem_append_left _ (List.mem_of_getElem? (i := 27) rfl))
set_option maxRecDepth 100000 in
theorem im_28 {c0 : Cond} : Cond.code yX12_isLetter cX12_isLetter 1 (some .boolean) ∈ c0 :: lwM := List.mem_cons_of_mem _ (List.mem_append_left _ (List.mem_of_getElem? (i := 28) rfl))
set_option maxRecDepth 100000 in
theorem im_29 {c0 : Cond} : Cond.methodLink RX12 183 yX12_isSmall ∈ c0 :: lwM := List.mem_cons_of_mem _ (List.mem_append_left _ (List.mem_of_getElem? (i := 29) rfl))
set_option maxRecDepth 100000 in
theorem im_30 {c0 : Cond} : Cond.static yX12_isSmall ∈ c0 :: lwM := List.mem_cons_of_mem _ (List.mem_append_left _ (List.mem_of_getElem? (i := 30) rfl))
set_option maxRecDepth 100000 in
theorem im_31 {c0 : Cond} : Cond.initialized RX12 ∈ c0 :: lwM := List.mem_cons_of_mem _ (List.mem_append_left _ (List.mem_of_getElem? (i := 31) rfl))
set_option maxRecDepth 100000 in
theorem im_32 {c0 : Cond} : Cond.code yX12_see cX12_see 2 (some .int) ∈ c0 :: lwM := List.mem_cons_of_mem _ (List.mem_append_left _ (List.mem_of_getElem? (i := 32) rfl))
set_option maxRecDepth 100000 in
theorem im_33 {c0 : Cond} : Cond.fieldLink RX12 155 "SpellTurnerModel" "size" "I" ∈ c0 :: lwM := List.mem_cons_of_mem _ (List.mem_append_left _ (List.mem_of_getElem? (i := 33) rfl))
set_option maxRecDepth 100000 in
theorem im_34 {c0 : Cond} : Cond.fieldLink RX12 7 "SpellTurnerModel" "tape" "[B" ∈ c0 :: lwM := List.mem_cons_of_mem _ (List.mem_append_left _ (List.mem_of_getElem? (i := 34) rfl))
set_option maxRecDepth 100000 in
theorem im_35 {c0 : Cond} : Cond.code yX12_wrong cX12_wrong 2 (some .boolean) ∈ c0 :: lwM := List.mem_cons_of_mem _ (List.mem_append_left _ (List.mem_of_getElem? (i := 35) rfl))
set_option maxRecDepth 100000 in
theorem im_36 {c0 : Cond} : Cond.fieldLink RX12 194 "SpellTurnerModel" "faultKind" "I" ∈ c0 :: lwM := List.mem_cons_of_mem _ (List.mem_append_left _ (List.mem_of_getElem? (i := 36) rfl))
set_option maxRecDepth 100000 in
theorem im_37 {c0 : Cond} : Cond.fieldLink RX12 177 "SpellTurnerModel" "at" "I" ∈ c0 :: lwM := List.mem_cons_of_mem _ (List.mem_append_left _ (List.mem_of_getElem? (i := 37) rfl))
set_option maxRecDepth 100000 in
theorem im_38 {c0 : Cond} : Cond.fieldLink RX12 13 "SpellTurnerModel" "faultPlace" "I" ∈ c0 :: lwM := List.mem_cons_of_mem _ (List.mem_append_left _ (List.mem_of_getElem? (i := 38) rfl))
set_option maxRecDepth 100000 in
theorem im_39 {c0 : Cond} : Cond.code yX12_isStage cX12_isStage 2 (some .boolean) ∈ c0 :: lwM := List.mem_cons_of_mem _ (List.mem_append_left _ (List.mem_of_getElem? (i := 39) rfl))
set_option maxRecDepth 100000 in
theorem im_40 {c0 : Cond} : Cond.fieldLink RX12 222 "SpellTurnerModel" "reforms" "I" ∈ c0 :: lwM := List.mem_cons_of_mem _ (List.mem_append_left _ (List.mem_of_getElem? (i := 40) rfl))
set_option maxRecDepth 100000 in
theorem im_41 {c0 : Cond} : Cond.methodLink RX12 226 yX12_in ∈ c0 :: lwM := List.mem_cons_of_mem _ (List.mem_append_left _ (List.mem_of_getElem? (i := 41) rfl))
set_option maxRecDepth 100000 in
theorem im_42 {c0 : Cond} : Cond.static yX12_in ∈ c0 :: lwM := List.mem_cons_of_mem _ (List.mem_append_left _ (List.mem_of_getElem? (i := 42) rfl))
set_option maxRecDepth 100000 in
theorem im_43 {c0 : Cond} : Cond.code yX12_hasNought cX12_hasNought 3 (some .boolean) ∈ c0 :: lwM := List.mem_cons_of_mem _ (List.mem_append_left _ (List.mem_of_getElem? (i := 43) rfl))
set_option maxRecDepth 100000 in
theorem im_45 {c0 : Cond} : Cond.fieldLink RX12 152 "SpellTurnerModel" "taped" "I" ∈ c0 :: lwM := List.mem_cons_of_mem _ (List.mem_append_left _ (List.mem_of_getElem? (i := 45) rfl))
set_option maxRecDepth 100000 in
theorem im_47 {c0 : Cond} : Cond.code yX12_sameBytes cX12_sameBytes 7 (some .boolean) ∈ c0 :: lwM := List.mem_cons_of_mem _ (List.mem_append_left _ (List.mem_of_getElem? (i := 47) rfl))
set_option maxRecDepth 100000 in
theorem im_48 {c0 : Cond} : Cond.code yX12_takeWord cX12_takeWord 5 none ∈ c0 :: lwM := List.mem_cons_of_mem _ (List.mem_append_left _ (List.mem_of_getElem? (i := 48) rfl))
set_option maxRecDepth 100000 in
theorem im_49 {c0 : Cond} : Cond.fieldLink RX12 244 "SpellTurnerModel" "letters" "I" ∈ c0 :: lwM := List.mem_cons_of_mem _ (List.mem_append_left _ (List.mem_of_getElem? (i := 49) rfl))
set_option maxRecDepth 100000 in
theorem im_50 {c0 : Cond} : Cond.fieldLink RX12 55 "SpellTurnerModel" "word" "[B" ∈ c0 :: lwM := List.mem_cons_of_mem _ (List.mem_append_left _ (List.mem_of_getElem? (i := 50) rfl))
set_option maxRecDepth 100000 in
theorem im_51 {c0 : Cond} : Cond.code yX12_readWord cX12_readWord 3 (some .boolean) ∈ c0 :: lwM := List.mem_cons_of_mem _ (List.mem_append_left _ (List.mem_of_getElem? (i := 51) rfl))
set_option maxRecDepth 100000 in
theorem im_52 {c0 : Cond} : Cond.methodLink RX12 290 yX12_takeWord ∈ c0 :: lwM := List.mem_cons_of_mem _ (List.mem_append_left _ (List.mem_of_getElem? (i := 52) rfl))
set_option maxRecDepth 100000 in
theorem im_53 {c0 : Cond} : Cond.instanceMethod yX12_takeWord ∈ c0 :: lwM := List.mem_cons_of_mem _ (List.mem_append_left _ (List.mem_of_getElem? (i := 53) rfl))
set_option maxRecDepth 100000 in
theorem im_54 {c0 : Cond} : Cond.selects RX12 yX12_takeWord yX12_takeWord ∈ c0 :: lwM := List.mem_cons_of_mem _ (List.mem_append_left _ (List.mem_of_getElem? (i := 54) rfl))
set_option maxRecDepth 100000 in
theorem im_55 {c0 : Cond} : Cond.code yX12_isWordPart cX12_isWordPart 7 (some .boolean) ∈ c0 :: lwM := List.mem_cons_of_mem _ (List.mem_append_left _ (List.mem_of_getElem? (i := 55) rfl))
set_option maxRecDepth 100000 in
theorem im_56 {c0 : Cond} : Cond.fieldLink RX12 24 "SpellTurnerModel" "parts" "[I" ∈ c0 :: lwM := List.mem_cons_of_mem _ (List.mem_append_left _ (List.mem_of_getElem? (i := 56) rfl))
set_option maxRecDepth 100000 in
theorem im_57 {c0 : Cond} : Cond.fieldLink RX12 46 "SpellTurnerModel" "partSize" "[I" ∈ c0 :: lwM := List.mem_cons_of_mem _ (List.mem_append_left _ (List.mem_of_getElem? (i := 57) rfl))
set_option maxRecDepth 100000 in
theorem im_58 {c0 : Cond} : Cond.fieldLink RX12 43 "SpellTurnerModel" "partText" "[B" ∈ c0 :: lwM := List.mem_cons_of_mem _ (List.mem_append_left _ (List.mem_of_getElem? (i := 58) rfl))
set_option maxRecDepth 100000 in
theorem im_60 {c0 : Cond} : Cond.fieldLink RX12 17 "SpellTurnerModel" "day" "[I" ∈ c0 :: lwM := List.mem_cons_of_mem _ (List.mem_append_left _ (List.mem_of_getElem? (i := 60) rfl))
set_option maxRecDepth 100000 in
theorem im_61 {c0 : Cond} : Cond.fieldLink RX12 21 "SpellTurnerModel" "laws" "[I" ∈ c0 :: lwM := List.mem_cons_of_mem _ (List.mem_append_left _ (List.mem_of_getElem? (i := 61) rfl))
set_option maxRecDepth 100000 in
theorem im_62 {c0 : Cond} : Cond.fieldLink RX12 27 "SpellTurnerModel" "listed" "[I" ∈ c0 :: lwM := List.mem_cons_of_mem _ (List.mem_append_left _ (List.mem_of_getElem? (i := 62) rfl))
set_option maxRecDepth 100000 in
theorem im_63 {c0 : Cond} : Cond.fieldLink RX12 52 "SpellTurnerModel" "listSize" "[I" ∈ c0 :: lwM := List.mem_cons_of_mem _ (List.mem_append_left _ (List.mem_of_getElem? (i := 63) rfl))
set_option maxRecDepth 100000 in
theorem im_64 {c0 : Cond} : Cond.code yX12_take cX12_take 7 (some .boolean) ∈ c0 :: lwM := List.mem_cons_of_mem _ (List.mem_append_left _ (List.mem_of_getElem? (i := 64) rfl))
set_option maxRecDepth 100000 in
theorem im_65 {c0 : Cond} : Cond.fieldLink RX12 180 "SpellTurnerModel" "sort" "I" ∈ c0 :: lwM := List.mem_cons_of_mem _ (List.mem_append_left _ (List.mem_of_getElem? (i := 65) rfl))
set_option maxRecDepth 100000 in
theorem im_66 {c0 : Cond} : Cond.fieldLink RX12 174 "SpellTurnerModel" "end" "I" ∈ c0 :: lwM := List.mem_cons_of_mem _ (List.mem_append_left _ (List.mem_of_getElem? (i := 66) rfl))
set_option maxRecDepth 100000 in
theorem im_67 {c0 : Cond} : Cond.methodLink RX12 197 yX12_wrong ∈ c0 :: lwM := List.mem_cons_of_mem _ (List.mem_append_left _ (List.mem_of_getElem? (i := 67) rfl))
set_option maxRecDepth 100000 in
theorem im_68 {c0 : Cond} : Cond.instanceMethod yX12_wrong ∈ c0 :: lwM := List.mem_cons_of_mem _ (List.mem_append_left _ (List.mem_of_getElem? (i := 68) rfl))
set_option maxRecDepth 100000 in
theorem im_69 {c0 : Cond} : Cond.selects RX12 yX12_wrong yX12_wrong ∈ c0 :: lwM := List.mem_cons_of_mem _ (List.mem_append_left _ (List.mem_of_getElem? (i := 69) rfl))
set_option maxRecDepth 100000 in
theorem im_70 {c0 : Cond} : Cond.code yX12_stands cX12_stands 6 (some .boolean) ∈ c0 :: lwM := List.mem_cons_of_mem _ (List.mem_append_left _ (List.mem_of_getElem? (i := 70) rfl))
set_option maxRecDepth 100000 in
theorem im_71 {c0 : Cond} : Cond.fieldLink RX12 33 "SpellTurnerModel" "lawSize" "[I" ∈ c0 :: lwM := List.mem_cons_of_mem _ (List.mem_append_left _ (List.mem_of_getElem? (i := 71) rfl))
set_option maxRecDepth 100000 in
theorem im_72 {c0 : Cond} : Cond.fieldLink RX12 30 "SpellTurnerModel" "lawText" "[B" ∈ c0 :: lwM := List.mem_cons_of_mem _ (List.mem_append_left _ (List.mem_of_getElem? (i := 72) rfl))
set_option maxRecDepth 100000 in
theorem im_75 {c0 : Cond} : Cond.constant RX12 225 (100000) ∈ c0 :: lwM := List.mem_cons_of_mem _ (List.mem_append_left _ (List.mem_of_getElem? (i := 75) rfl))
set_option maxRecDepth 100000 in
theorem im_77 {c0 : Cond} : Cond.fieldLink RX12 306 "SpellTurnerModel" "tolds" "I" ∈ c0 :: lwM := List.mem_cons_of_mem _ (List.mem_append_left _ (List.mem_of_getElem? (i := 77) rfl))
set_option maxRecDepth 100000 in
theorem im_78 {c0 : Cond} : Cond.fieldLink RX12 97 "SpellTurnerModel" "toldSize" "[I" ∈ c0 :: lwM := List.mem_cons_of_mem _ (List.mem_append_left _ (List.mem_of_getElem? (i := 78) rfl))
set_option maxRecDepth 100000 in
theorem im_79 {c0 : Cond} : Cond.fieldLink RX12 94 "SpellTurnerModel" "told" "[B" ∈ c0 :: lwM := List.mem_cons_of_mem _ (List.mem_append_left _ (List.mem_of_getElem? (i := 79) rfl))
set_option maxRecDepth 100000 in
theorem im_81 {c0 : Cond} : Cond.fieldLink RX12 309 "SpellTurnerModel" "toldWayMany" "I" ∈ c0 :: lwM := List.mem_cons_of_mem _ (List.mem_append_left _ (List.mem_of_getElem? (i := 81) rfl))
set_option maxRecDepth 100000 in
theorem im_82 {c0 : Cond} : Cond.fieldLink RX12 103 "SpellTurnerModel" "toldParts" "[I" ∈ c0 :: lwM := List.mem_cons_of_mem _ (List.mem_append_left _ (List.mem_of_getElem? (i := 82) rfl))
set_option maxRecDepth 100000 in
theorem im_83 {c0 : Cond} : Cond.fieldLink RX12 100 "SpellTurnerModel" "toldWays" "[I" ∈ c0 :: lwM := List.mem_cons_of_mem _ (List.mem_append_left _ (List.mem_of_getElem? (i := 83) rfl))
set_option maxRecDepth 100000 in
theorem im_85 {c0 : Cond} : Cond.fieldLink RX12 312 "SpellTurnerModel" "words" "I" ∈ c0 :: lwM := List.mem_cons_of_mem _ (List.mem_append_left _ (List.mem_of_getElem? (i := 85) rfl))
set_option maxRecDepth 100000 in
theorem im_86 {c0 : Cond} : Cond.fieldLink RX12 109 "SpellTurnerModel" "bookSize" "[I" ∈ c0 :: lwM := List.mem_cons_of_mem _ (List.mem_append_left _ (List.mem_of_getElem? (i := 86) rfl))
set_option maxRecDepth 100000 in
theorem im_87 {c0 : Cond} : Cond.fieldLink RX12 106 "SpellTurnerModel" "bookText" "[B" ∈ c0 :: lwM := List.mem_cons_of_mem _ (List.mem_append_left _ (List.mem_of_getElem? (i := 87) rfl))
set_option maxRecDepth 100000 in
theorem im_89 {c0 : Cond} : Cond.fieldLink RX12 318 "SpellTurnerModel" "oldMany" "I" ∈ c0 :: lwM := List.mem_cons_of_mem _ (List.mem_append_left _ (List.mem_of_getElem? (i := 89) rfl))
set_option maxRecDepth 100000 in
theorem im_90 {c0 : Cond} : Cond.fieldLink RX12 122 "SpellTurnerModel" "olds" "[I" ∈ c0 :: lwM := List.mem_cons_of_mem _ (List.mem_append_left _ (List.mem_of_getElem? (i := 90) rfl))
set_option maxRecDepth 100000 in
theorem im_92 {c0 : Cond} : Cond.fieldLink RX12 325 "SpellTurnerModel" "pairMany" "I" ∈ c0 :: lwM := List.mem_cons_of_mem _ (List.mem_append_left _ (List.mem_of_getElem? (i := 92) rfl))
set_option maxRecDepth 100000 in
theorem im_93 {c0 : Cond} : Cond.fieldLink RX12 128 "SpellTurnerModel" "pairs" "[I" ∈ c0 :: lwM := List.mem_cons_of_mem _ (List.mem_append_left _ (List.mem_of_getElem? (i := 93) rfl))
set_option maxRecDepth 100000 in
theorem im_95 {c0 : Cond} : Cond.fieldLink RX12 361 "SpellTurnerModel" "texted" "I" ∈ c0 :: lwM := List.mem_cons_of_mem _ (List.mem_append_left _ (List.mem_of_getElem? (i := 95) rfl))
set_option maxRecDepth 100000 in
theorem im_96 {c0 : Cond} : Cond.fieldLink RX12 131 "SpellTurnerModel" "text" "[B" ∈ c0 :: lwM := List.mem_cons_of_mem _ (List.mem_append_left _ (List.mem_of_getElem? (i := 96) rfl))
set_option maxRecDepth 100000 in
theorem im_98 {c0 : Cond} : Cond.fieldLink RX12 364 "SpellTurnerModel" "hasText" "Z" ∈ c0 :: lwM := List.mem_cons_of_mem _ (List.mem_append_left _ (List.mem_of_getElem? (i := 98) rfl))
set_option maxRecDepth 100000 in
theorem im_99 {c0 : Cond} : Cond.fieldLink RX12 137 "SpellTurnerModel" "counts" "[I" ∈ c0 :: lwM := List.mem_cons_of_mem _ (List.mem_append_left _ (List.mem_of_getElem? (i := 99) rfl))
set_option maxRecDepth 100000 in
theorem im_101 {c0 : Cond} : Cond.fieldLink RX12 374 "SpellTurnerModel" "lines" "I" ∈ c0 :: lwM := List.mem_cons_of_mem _ (List.mem_append_left _ (List.mem_of_getElem? (i := 101) rfl))
set_option maxRecDepth 100000 in
theorem im_102 {c0 : Cond} : Cond.fieldLink RX12 149 "SpellTurnerModel" "stageOf" "[I" ∈ c0 :: lwM := List.mem_cons_of_mem _ (List.mem_append_left _ (List.mem_of_getElem? (i := 102) rfl))
set_option maxRecDepth 100000 in
theorem im_104 {c0 : Cond} : Cond.code yX12_isName cX12_isName 4 (some .boolean) ∈ c0 :: lwM := List.mem_cons_of_mem _ (List.mem_append_left _ (List.mem_of_getElem? (i := 104) rfl))
set_option maxRecDepth 100000 in
theorem im_105 {c0 : Cond} : Cond.code yX12_quoted cX12_quoted 4 (some .int) ∈ c0 :: lwM := List.mem_cons_of_mem _ (List.mem_append_left _ (List.mem_of_getElem? (i := 105) rfl))
set_option maxRecDepth 100000 in
theorem im_106 {c0 : Cond} : Cond.code yX12_hasForm cX12_hasForm 7 (some .boolean) ∈ c0 :: lwM := List.mem_cons_of_mem _ (List.mem_append_left _ (List.mem_of_getElem? (i := 106) rfl))
set_option maxRecDepth 100000 in
theorem im_107 {c0 : Cond} : Cond.fieldLink RX12 119 "SpellTurnerModel" "formMany" "[I" ∈ c0 :: lwM := List.mem_cons_of_mem _ (List.mem_append_left _ (List.mem_of_getElem? (i := 107) rfl))
set_option maxRecDepth 100000 in
theorem im_108 {c0 : Cond} : Cond.fieldLink RX12 113 "SpellTurnerModel" "formText" "[B" ∈ c0 :: lwM := List.mem_cons_of_mem _ (List.mem_append_left _ (List.mem_of_getElem? (i := 108) rfl))
set_option maxRecDepth 100000 in
theorem im_109 {c0 : Cond} : Cond.fieldLink RX12 116 "SpellTurnerModel" "formSize" "[I" ∈ c0 :: lwM := List.mem_cons_of_mem _ (List.mem_append_left _ (List.mem_of_getElem? (i := 109) rfl))
set_option maxRecDepth 100000 in
theorem im_110 {c0 : Cond} : Cond.methodLink RX12 273 yX12_sameBytes ∈ c0 :: lwM := List.mem_cons_of_mem _ (List.mem_append_left _ (List.mem_of_getElem? (i := 110) rfl))
set_option maxRecDepth 100000 in
theorem im_111 {c0 : Cond} : Cond.static yX12_sameBytes ∈ c0 :: lwM := List.mem_cons_of_mem _ (List.mem_append_left _ (List.mem_of_getElem? (i := 111) rfl))
set_option maxRecDepth 100000 in
theorem im_112 {c0 : Cond} : Cond.code yX12_collide cX12_collide 5 (some .boolean) ∈ c0 :: lwM := List.mem_cons_of_mem _ (List.mem_append_left _ (List.mem_of_getElem? (i := 112) rfl))
set_option maxRecDepth 100000 in
theorem im_113 {c0 : Cond} : Cond.methodLink RX12 321 yX12_hasForm ∈ c0 :: lwM := List.mem_cons_of_mem _ (List.mem_append_left _ (List.mem_of_getElem? (i := 113) rfl))
set_option maxRecDepth 100000 in
theorem im_114 {c0 : Cond} : Cond.instanceMethod yX12_hasForm ∈ c0 :: lwM := List.mem_cons_of_mem _ (List.mem_append_left _ (List.mem_of_getElem? (i := 114) rfl))
set_option maxRecDepth 100000 in
theorem im_115 {c0 : Cond} : Cond.selects RX12 yX12_hasForm yX12_hasForm ∈ c0 :: lwM := List.mem_cons_of_mem _ (List.mem_append_left _ (List.mem_of_getElem? (i := 115) rfl))
set_option maxRecDepth 100000 in
theorem im_116 {c0 : Cond} : Cond.code yX12_rhyme cX12_rhyme 6 (some .boolean) ∈ c0 :: lwM := List.mem_cons_of_mem _ (List.mem_append_left _ (List.mem_of_getElem? (i := 116) rfl))
set_option maxRecDepth 100000 in
theorem im_117 {c0 : Cond} : Cond.code yX12_rhymeAt cX12_rhymeAt 6 (some .boolean) ∈ c0 :: lwM := List.mem_cons_of_mem _ (List.mem_append_left _ (List.mem_of_getElem? (i := 117) rfl))
set_option maxRecDepth 100000 in
theorem im_118 {c0 : Cond} : Cond.methodLink RX12 331 yX12_rhyme ∈ c0 :: lwM := List.mem_cons_of_mem _ (List.mem_append_left _ (List.mem_of_getElem? (i := 118) rfl))
set_option maxRecDepth 100000 in
theorem im_119 {c0 : Cond} : Cond.static yX12_rhyme ∈ c0 :: lwM := List.mem_cons_of_mem _ (List.mem_append_left _ (List.mem_of_getElem? (i := 119) rfl))
set_option maxRecDepth 100000 in
theorem im_120 {c0 : Cond} : Cond.code yX12_listedAs cX12_listedAs 3 (some .int) ∈ c0 :: lwM := List.mem_cons_of_mem _ (List.mem_append_left _ (List.mem_of_getElem? (i := 120) rfl))
set_option maxRecDepth 100000 in
theorem im_121 {c0 : Cond} : Cond.fieldLink RX12 49 "SpellTurnerModel" "listText" "[B" ∈ c0 :: lwM := List.mem_cons_of_mem _ (List.mem_append_left _ (List.mem_of_getElem? (i := 121) rfl))
set_option maxRecDepth 100000 in
theorem im_123 {c0 : Cond} : Cond.methodLink RX12 297 yX12_readWord ∈ c0 :: lwM := List.mem_cons_of_mem _ (List.mem_append_left _ (List.mem_of_getElem? (i := 123) rfl))
set_option maxRecDepth 100000 in
theorem im_124 {c0 : Cond} : Cond.instanceMethod yX12_readWord ∈ c0 :: lwM := List.mem_cons_of_mem _ (List.mem_append_left _ (List.mem_of_getElem? (i := 124) rfl))
set_option maxRecDepth 100000 in
theorem im_125 {c0 : Cond} : Cond.selects RX12 yX12_readWord yX12_readWord ∈ c0 :: lwM := List.mem_cons_of_mem _ (List.mem_append_left _ (List.mem_of_getElem? (i := 125) rfl))
set_option maxRecDepth 100000 in
theorem im_126 {c0 : Cond} : Cond.fieldLink RX12 237 "SpellTurnerModel" "isMade" "Z" ∈ c0 :: lwM := List.mem_cons_of_mem _ (List.mem_append_left _ (List.mem_of_getElem? (i := 126) rfl))
set_option maxRecDepth 100000 in
theorem im_127 {c0 : Cond} : Cond.code yX12_onward cX12_onward 7 (some .int) ∈ c0 :: lwM := List.mem_cons_of_mem _ (List.mem_append_left _ (List.mem_of_getElem? (i := 127) rfl))
set_option maxRecDepth 100000 in
theorem im_128 {c0 : Cond} : Cond.constant RX12 379 (2147483647) ∈ c0 :: lwM := List.mem_cons_of_mem _ (List.mem_append_left _ (List.mem_of_getElem? (i := 128) rfl))
set_option maxRecDepth 100000 in
theorem im_129 {c0 : Cond} : Cond.fieldLink RX12 146 "SpellTurnerModel" "sum" "[I" ∈ c0 :: lwM := List.mem_cons_of_mem _ (List.mem_append_left _ (List.mem_of_getElem? (i := 129) rfl))
set_option maxRecDepth 100000 in
theorem im_130 {c0 : Cond} : Cond.code yX12_isKnown cX12_isKnown 5 (some .boolean) ∈ c0 :: lwM := List.mem_cons_of_mem _ (List.mem_append_left _ (List.mem_of_getElem? (i := 130) rfl))
set_option maxRecDepth 100000 in
theorem im_131 {c0 : Cond} : Cond.code yX12_copy cX12_copy 5 none ∈ c0 :: lwM := List.mem_cons_of_mem _ (List.mem_append_left _ (List.mem_of_getElem? (i := 131) rfl))
set_option maxRecDepth 100000 in
theorem im_132 {c0 : Cond} : Cond.code yX12_same cX12_same 5 (some .boolean) ∈ c0 :: lwM := List.mem_cons_of_mem _ (List.mem_append_left _ (List.mem_of_getElem? (i := 132) rfl))
set_option maxRecDepth 100000 in
theorem im_133 {c0 : Cond} : Cond.code yX12_part cX12_part 5 none ∈ c0 :: lwM := List.mem_cons_of_mem _ (List.mem_append_left _ (List.mem_of_getElem? (i := 133) rfl))
set_option maxRecDepth 100000 in
theorem im_134 {c0 : Cond} : Cond.fieldLink RX12 241 "SpellTurnerModel" "wayMany" "I" ∈ c0 :: lwM := List.mem_cons_of_mem _ (List.mem_append_left _ (List.mem_of_getElem? (i := 134) rfl))
set_option maxRecDepth 100000 in
theorem im_135 {c0 : Cond} : Cond.fieldLink RX12 67 "SpellTurnerModel" "canEnd" "[Z" ∈ c0 :: lwM := List.mem_cons_of_mem _ (List.mem_append_left _ (List.mem_of_getElem? (i := 135) rfl))
set_option maxRecDepth 100000 in
theorem im_136 {c0 : Cond} : Cond.methodLink RX12 247 yX12_isWordPart ∈ c0 :: lwM := List.mem_cons_of_mem _ (List.mem_append_left _ (List.mem_of_getElem? (i := 136) rfl))
set_option maxRecDepth 100000 in
theorem im_137 {c0 : Cond} : Cond.instanceMethod yX12_isWordPart ∈ c0 :: lwM := List.mem_cons_of_mem _ (List.mem_append_left _ (List.mem_of_getElem? (i := 137) rfl))
set_option maxRecDepth 100000 in
theorem im_138 {c0 : Cond} : Cond.selects RX12 yX12_isWordPart yX12_isWordPart ∈ c0 :: lwM := List.mem_cons_of_mem _ (List.mem_append_left _ (List.mem_of_getElem? (i := 138) rfl))
set_option maxRecDepth 100000 in
theorem im_139 {c0 : Cond} : Cond.fieldLink RX12 58 "SpellTurnerModel" "lengths" "[I" ∈ c0 :: lwM := List.mem_cons_of_mem _ (List.mem_append_left _ (List.mem_of_getElem? (i := 139) rfl))
set_option maxRecDepth 100000 in
theorem im_140 {c0 : Cond} : Cond.methodLink RX12 250 yX12_part ∈ c0 :: lwM := List.mem_cons_of_mem _ (List.mem_append_left _ (List.mem_of_getElem? (i := 140) rfl))
set_option maxRecDepth 100000 in
theorem im_141 {c0 : Cond} : Cond.instanceMethod yX12_part ∈ c0 :: lwM := List.mem_cons_of_mem _ (List.mem_append_left _ (List.mem_of_getElem? (i := 141) rfl))
set_option maxRecDepth 100000 in
theorem im_142 {c0 : Cond} : Cond.selects RX12 yX12_part yX12_part ∈ c0 :: lwM := List.mem_cons_of_mem _ (List.mem_append_left _ (List.mem_of_getElem? (i := 142) rfl))
set_option maxRecDepth 100000 in
theorem im_143 {c0 : Cond} : Cond.fieldLink RX12 64 "SpellTurnerModel" "wayParts" "[I" ∈ c0 :: lwM := List.mem_cons_of_mem _ (List.mem_append_left _ (List.mem_of_getElem? (i := 143) rfl))
set_option maxRecDepth 100000 in
theorem im_144 {c0 : Cond} : Cond.fieldLink RX12 61 "SpellTurnerModel" "ways" "[I" ∈ c0 :: lwM := List.mem_cons_of_mem _ (List.mem_append_left _ (List.mem_of_getElem? (i := 144) rfl))
set_option maxRecDepth 100000 in
theorem im_145 {c0 : Cond} : Cond.code yX12_makeWays cX12_makeWays 4 none ∈ c0 :: lwM := List.mem_cons_of_mem _ (List.mem_append_left _ (List.mem_of_getElem? (i := 145) rfl))
set_option maxRecDepth 100000 in
theorem im_146 {c0 : Cond} : Cond.code yX12_lawThrough cX12_lawThrough 8 none ∈ c0 :: lwM := List.mem_cons_of_mem _ (List.mem_append_left _ (List.mem_of_getElem? (i := 146) rfl))
set_option maxRecDepth 100000 in
theorem im_147 {c0 : Cond} : Cond.fieldLink RX12 253 "SpellTurnerModel" "partLetters" "I" ∈ c0 :: lwM := List.mem_cons_of_mem _ (List.mem_append_left _ (List.mem_of_getElem? (i := 147) rfl))
set_option maxRecDepth 100000 in
theorem im_148 {c0 : Cond} : Cond.fieldLink RX12 260 "SpellTurnerModel" "isUsed" "Z" ∈ c0 :: lwM := List.mem_cons_of_mem _ (List.mem_append_left _ (List.mem_of_getElem? (i := 148) rfl))
set_option maxRecDepth 100000 in
theorem im_149 {c0 : Cond} : Cond.fieldLink RX12 263 "SpellTurnerModel" "lawAsked" "I" ∈ c0 :: lwM := List.mem_cons_of_mem _ (List.mem_append_left _ (List.mem_of_getElem? (i := 149) rfl))
set_option maxRecDepth 100000 in
theorem im_150 {c0 : Cond} : Cond.fieldLink RX12 70 "SpellTurnerModel" "part" "[B" ∈ c0 :: lwM := List.mem_cons_of_mem _ (List.mem_append_left _ (List.mem_of_getElem? (i := 150) rfl))
set_option maxRecDepth 100000 in
theorem im_151 {c0 : Cond} : Cond.fieldLink RX12 73 "SpellTurnerModel" "written" "[B" ∈ c0 :: lwM := List.mem_cons_of_mem _ (List.mem_append_left _ (List.mem_of_getElem? (i := 151) rfl))
set_option maxRecDepth 100000 in
theorem im_152 {c0 : Cond} : Cond.methodLink RX12 256 yX12_stands ∈ c0 :: lwM := List.mem_cons_of_mem _ (List.mem_append_left _ (List.mem_of_getElem? (i := 152) rfl))
set_option maxRecDepth 100000 in
theorem im_153 {c0 : Cond} : Cond.instanceMethod yX12_stands ∈ c0 :: lwM := List.mem_cons_of_mem _ (List.mem_append_left _ (List.mem_of_getElem? (i := 153) rfl))
set_option maxRecDepth 100000 in
theorem im_154 {c0 : Cond} : Cond.selects RX12 yX12_stands yX12_stands ∈ c0 :: lwM := List.mem_cons_of_mem _ (List.mem_append_left _ (List.mem_of_getElem? (i := 154) rfl))
set_option maxRecDepth 100000 in
theorem im_155 {c0 : Cond} : Cond.fieldLink RX12 36 "SpellTurnerModel" "atStart" "[Z" ∈ c0 :: lwM := List.mem_cons_of_mem _ (List.mem_append_left _ (List.mem_of_getElem? (i := 155) rfl))
set_option maxRecDepth 100000 in
theorem im_156 {c0 : Cond} : Cond.fieldLink RX12 40 "SpellTurnerModel" "atEnd" "[Z" ∈ c0 :: lwM := List.mem_cons_of_mem _ (List.mem_append_left _ (List.mem_of_getElem? (i := 156) rfl))
set_option maxRecDepth 100000 in
theorem im_157 {c0 : Cond} : Cond.code yX12_makeForm cX12_makeForm 10 none ∈ c0 :: lwM := List.mem_cons_of_mem _ (List.mem_append_left _ (List.mem_of_getElem? (i := 157) rfl))
set_option maxRecDepth 100000 in
theorem im_158 {c0 : Cond} : Cond.fieldLink RX12 79 "SpellTurnerModel" "madeSize" "[I" ∈ c0 :: lwM := List.mem_cons_of_mem _ (List.mem_append_left _ (List.mem_of_getElem? (i := 158) rfl))
set_option maxRecDepth 100000 in
theorem im_159 {c0 : Cond} : Cond.fieldLink RX12 270 "SpellTurnerModel" "mades" "I" ∈ c0 :: lwM := List.mem_cons_of_mem _ (List.mem_append_left _ (List.mem_of_getElem? (i := 159) rfl))
set_option maxRecDepth 100000 in
theorem im_160 {c0 : Cond} : Cond.fieldLink RX12 76 "SpellTurnerModel" "made" "[B" ∈ c0 :: lwM := List.mem_cons_of_mem _ (List.mem_append_left _ (List.mem_of_getElem? (i := 160) rfl))
set_option maxRecDepth 100000 in
theorem im_161 {c0 : Cond} : Cond.methodLink RX12 266 yX12_lawThrough ∈ c0 :: lwM := List.mem_cons_of_mem _ (List.mem_append_left _ (List.mem_of_getElem? (i := 161) rfl))
set_option maxRecDepth 100000 in
theorem im_162 {c0 : Cond} : Cond.instanceMethod yX12_lawThrough ∈ c0 :: lwM := List.mem_cons_of_mem _ (List.mem_append_left _ (List.mem_of_getElem? (i := 162) rfl))
set_option maxRecDepth 100000 in
theorem im_163 {c0 : Cond} : Cond.selects RX12 yX12_lawThrough yX12_lawThrough ∈ c0 :: lwM := List.mem_cons_of_mem _ (List.mem_append_left _ (List.mem_of_getElem? (i := 163) rfl))
set_option maxRecDepth 100000 in
theorem im_164 {c0 : Cond} : Cond.code yX12_turnBy cX12_turnBy 6 none ∈ c0 :: lwM := List.mem_cons_of_mem _ (List.mem_append_left _ (List.mem_of_getElem? (i := 164) rfl))
set_option maxRecDepth 100000 in
theorem im_165 {c0 : Cond} : Cond.methodLink RX12 277 yX12_listedAs ∈ c0 :: lwM := List.mem_cons_of_mem _ (List.mem_append_left _ (List.mem_of_getElem? (i := 165) rfl))
set_option maxRecDepth 100000 in
theorem im_166 {c0 : Cond} : Cond.instanceMethod yX12_listedAs ∈ c0 :: lwM := List.mem_cons_of_mem _ (List.mem_append_left _ (List.mem_of_getElem? (i := 166) rfl))
set_option maxRecDepth 100000 in
theorem im_167 {c0 : Cond} : Cond.selects RX12 yX12_listedAs yX12_listedAs ∈ c0 :: lwM := List.mem_cons_of_mem _ (List.mem_append_left _ (List.mem_of_getElem? (i := 167) rfl))
set_option maxRecDepth 100000 in
theorem im_168 {c0 : Cond} : Cond.methodLink RX12 280 yX12_makeWays ∈ c0 :: lwM := List.mem_cons_of_mem _ (List.mem_append_left _ (List.mem_of_getElem? (i := 168) rfl))
set_option maxRecDepth 100000 in
theorem im_169 {c0 : Cond} : Cond.instanceMethod yX12_makeWays ∈ c0 :: lwM := List.mem_cons_of_mem _ (List.mem_append_left _ (List.mem_of_getElem? (i := 169) rfl))
set_option maxRecDepth 100000 in
theorem im_170 {c0 : Cond} : Cond.selects RX12 yX12_makeWays yX12_makeWays ∈ c0 :: lwM := List.mem_cons_of_mem _ (List.mem_append_left _ (List.mem_of_getElem? (i := 170) rfl))
set_option maxRecDepth 100000 in
theorem im_171 {c0 : Cond} : Cond.methodLink RX12 283 yX12_makeForm ∈ c0 :: lwM := List.mem_cons_of_mem _ (List.mem_append_left _ (List.mem_of_getElem? (i := 171) rfl))
set_option maxRecDepth 100000 in
theorem im_172 {c0 : Cond} : Cond.instanceMethod yX12_makeForm ∈ c0 :: lwM := List.mem_cons_of_mem _ (List.mem_append_left _ (List.mem_of_getElem? (i := 172) rfl))
set_option maxRecDepth 100000 in
theorem im_173 {c0 : Cond} : Cond.selects RX12 yX12_makeForm yX12_makeForm ∈ c0 :: lwM := List.mem_cons_of_mem _ (List.mem_append_left _ (List.mem_of_getElem? (i := 173) rfl))
set_option maxRecDepth 100000 in
theorem im_174 {c0 : Cond} : Cond.code yX12_through cX12_through 9 none ∈ c0 :: lwM := List.mem_cons_of_mem _ (List.mem_append_left _ (List.mem_of_getElem? (i := 174) rfl))
set_option maxRecDepth 100000 in
theorem im_175 {c0 : Cond} : Cond.fieldLink RX12 85 "SpellTurnerModel" "nowSize" "[I" ∈ c0 :: lwM := List.mem_cons_of_mem _ (List.mem_append_left _ (List.mem_of_getElem? (i := 175) rfl))
set_option maxRecDepth 100000 in
theorem im_176 {c0 : Cond} : Cond.fieldLink RX12 287 "SpellTurnerModel" "nows" "I" ∈ c0 :: lwM := List.mem_cons_of_mem _ (List.mem_append_left _ (List.mem_of_getElem? (i := 176) rfl))
set_option maxRecDepth 100000 in
theorem im_177 {c0 : Cond} : Cond.fieldLink RX12 91 "SpellTurnerModel" "nextSize" "[I" ∈ c0 :: lwM := List.mem_cons_of_mem _ (List.mem_append_left _ (List.mem_of_getElem? (i := 177) rfl))
set_option maxRecDepth 100000 in
theorem im_178 {c0 : Cond} : Cond.fieldLink RX12 82 "SpellTurnerModel" "now" "[B" ∈ c0 :: lwM := List.mem_cons_of_mem _ (List.mem_append_left _ (List.mem_of_getElem? (i := 178) rfl))
set_option maxRecDepth 100000 in
theorem im_179 {c0 : Cond} : Cond.fieldLink RX12 88 "SpellTurnerModel" "next" "[B" ∈ c0 :: lwM := List.mem_cons_of_mem _ (List.mem_append_left _ (List.mem_of_getElem? (i := 179) rfl))
set_option maxRecDepth 100000 in
theorem im_180 {c0 : Cond} : Cond.methodLink RX12 294 yX12_turnBy ∈ c0 :: lwM := List.mem_cons_of_mem _ (List.mem_append_left _ (List.mem_of_getElem? (i := 180) rfl))
set_option maxRecDepth 100000 in
theorem im_181 {c0 : Cond} : Cond.instanceMethod yX12_turnBy ∈ c0 :: lwM := List.mem_cons_of_mem _ (List.mem_append_left _ (List.mem_of_getElem? (i := 181) rfl))
set_option maxRecDepth 100000 in
theorem im_182 {c0 : Cond} : Cond.selects RX12 yX12_turnBy yX12_turnBy ∈ c0 :: lwM := List.mem_cons_of_mem _ (List.mem_append_left _ (List.mem_of_getElem? (i := 182) rfl))
set_option maxRecDepth 100000 in
theorem im_184 {c0 : Cond} : Cond.methodLink RX12 300 yX12_isStage ∈ c0 :: lwM := List.mem_cons_of_mem _ (List.mem_append_left _ (List.mem_of_getElem? (i := 184) rfl))
set_option maxRecDepth 100000 in
theorem im_185 {c0 : Cond} : Cond.instanceMethod yX12_isStage ∈ c0 :: lwM := List.mem_cons_of_mem _ (List.mem_append_left _ (List.mem_of_getElem? (i := 185) rfl))
set_option maxRecDepth 100000 in
theorem im_186 {c0 : Cond} : Cond.selects RX12 yX12_isStage yX12_isStage ∈ c0 :: lwM := List.mem_cons_of_mem _ (List.mem_append_left _ (List.mem_of_getElem? (i := 186) rfl))
set_option maxRecDepth 100000 in
theorem im_187 {c0 : Cond} : Cond.methodLink RX12 303 yX12_through ∈ c0 :: lwM := List.mem_cons_of_mem _ (List.mem_append_left _ (List.mem_of_getElem? (i := 187) rfl))
set_option maxRecDepth 100000 in
theorem im_188 {c0 : Cond} : Cond.instanceMethod yX12_through ∈ c0 :: lwM := List.mem_cons_of_mem _ (List.mem_append_left _ (List.mem_of_getElem? (i := 188) rfl))
set_option maxRecDepth 100000 in
theorem im_189 {c0 : Cond} : Cond.selects RX12 yX12_through yX12_through ∈ c0 :: lwM := List.mem_cons_of_mem _ (List.mem_append_left _ (List.mem_of_getElem? (i := 189) rfl))
set_option maxRecDepth 100000 in
theorem im_191 {c0 : Cond} : Cond.code yX12_make cX12_make 6 none ∈ c0 :: lwM := List.mem_cons_of_mem _ (List.mem_append_left _ (List.mem_of_getElem? (i := 191) rfl))
set_option maxRecDepth 100000 in
theorem im_193 {c0 : Cond} : Cond.methodLink RX12 315 yX12_make ∈ c0 :: lwM := List.mem_cons_of_mem _ (List.mem_append_left _ (List.mem_of_getElem? (i := 193) rfl))
set_option maxRecDepth 100000 in
theorem im_194 {c0 : Cond} : Cond.instanceMethod yX12_make ∈ c0 :: lwM := List.mem_cons_of_mem _ (List.mem_append_left _ (List.mem_of_getElem? (i := 194) rfl))
set_option maxRecDepth 100000 in
theorem im_195 {c0 : Cond} : Cond.selects RX12 yX12_make yX12_make ∈ c0 :: lwM := List.mem_cons_of_mem _ (List.mem_append_left _ (List.mem_of_getElem? (i := 195) rfl))
set_option maxRecDepth 100000 in
theorem im_196 {c0 : Cond} : Cond.fieldLink RX12 125 "SpellTurnerModel" "asked" "[B" ∈ c0 :: lwM := List.mem_cons_of_mem _ (List.mem_append_left _ (List.mem_of_getElem? (i := 196) rfl))
set_option maxRecDepth 100000 in
theorem im_198 {c0 : Cond} : Cond.methodLink RX12 328 yX12_collide ∈ c0 :: lwM := List.mem_cons_of_mem _ (List.mem_append_left _ (List.mem_of_getElem? (i := 198) rfl))
set_option maxRecDepth 100000 in
theorem im_199 {c0 : Cond} : Cond.instanceMethod yX12_collide ∈ c0 :: lwM := List.mem_cons_of_mem _ (List.mem_append_left _ (List.mem_of_getElem? (i := 199) rfl))
set_option maxRecDepth 100000 in
theorem im_200 {c0 : Cond} : Cond.selects RX12 yX12_collide yX12_collide ∈ c0 :: lwM := List.mem_cons_of_mem _ (List.mem_append_left _ (List.mem_of_getElem? (i := 200) rfl))
set_option maxRecDepth 100000 in
theorem im_202 {c0 : Cond} : Cond.methodLink RX12 334 yX12_rhymeAt ∈ c0 :: lwM := List.mem_cons_of_mem _ (List.mem_append_left _ (List.mem_of_getElem? (i := 202) rfl))
set_option maxRecDepth 100000 in
theorem im_203 {c0 : Cond} : Cond.instanceMethod yX12_rhymeAt ∈ c0 :: lwM := List.mem_cons_of_mem _ (List.mem_append_left _ (List.mem_of_getElem? (i := 203) rfl))
set_option maxRecDepth 100000 in
theorem im_204 {c0 : Cond} : Cond.selects RX12 yX12_rhymeAt yX12_rhymeAt ∈ c0 :: lwM := List.mem_cons_of_mem _ (List.mem_append_left _ (List.mem_of_getElem? (i := 204) rfl))
set_option maxRecDepth 100000 in
theorem im_207 {c0 : Cond} : Cond.code yX12_write1 cX12_write1 5 (some .boolean) ∈ c0 :: lwM := List.mem_cons_of_mem _ (List.mem_append_left _ (List.mem_of_getElem? (i := 207) rfl))
set_option maxRecDepth 100000 in
theorem im_208 {c0 : Cond} : Cond.fieldLink RX12 337 "SpellTurnerModel" "drafted" "I" ∈ c0 :: lwM := List.mem_cons_of_mem _ (List.mem_append_left _ (List.mem_of_getElem? (i := 208) rfl))
set_option maxRecDepth 100000 in
theorem im_209 {c0 : Cond} : Cond.fieldLink RX12 134 "SpellTurnerModel" "draft" "[B" ∈ c0 :: lwM := List.mem_cons_of_mem _ (List.mem_append_left _ (List.mem_of_getElem? (i := 209) rfl))
set_option maxRecDepth 100000 in
theorem im_210 {c0 : Cond} : Cond.code yX12_writeWord cX12_writeWord 5 (some .boolean) ∈ c0 :: lwM := List.mem_cons_of_mem _ (List.mem_append_left _ (List.mem_of_getElem? (i := 210) rfl))
set_option maxRecDepth 100000 in
theorem im_211 {c0 : Cond} : Cond.methodLink RX12 340 yX12_isName ∈ c0 :: lwM := List.mem_cons_of_mem _ (List.mem_append_left _ (List.mem_of_getElem? (i := 211) rfl))
set_option maxRecDepth 100000 in
theorem im_212 {c0 : Cond} : Cond.instanceMethod yX12_isName ∈ c0 :: lwM := List.mem_cons_of_mem _ (List.mem_append_left _ (List.mem_of_getElem? (i := 212) rfl))
set_option maxRecDepth 100000 in
theorem im_213 {c0 : Cond} : Cond.selects RX12 yX12_isName yX12_isName ∈ c0 :: lwM := List.mem_cons_of_mem _ (List.mem_append_left _ (List.mem_of_getElem? (i := 213) rfl))
set_option maxRecDepth 100000 in
theorem im_214 {c0 : Cond} : Cond.fieldLink RX12 140 "SpellTurnerModel" "newCounts" "[I" ∈ c0 :: lwM := List.mem_cons_of_mem _ (List.mem_append_left _ (List.mem_of_getElem? (i := 214) rfl))
set_option maxRecDepth 100000 in
theorem im_215 {c0 : Cond} : Cond.methodLink RX12 344 yX12_write1 ∈ c0 :: lwM := List.mem_cons_of_mem _ (List.mem_append_left _ (List.mem_of_getElem? (i := 215) rfl))
set_option maxRecDepth 100000 in
theorem im_216 {c0 : Cond} : Cond.instanceMethod yX12_write1 ∈ c0 :: lwM := List.mem_cons_of_mem _ (List.mem_append_left _ (List.mem_of_getElem? (i := 216) rfl))
set_option maxRecDepth 100000 in
theorem im_217 {c0 : Cond} : Cond.selects RX12 yX12_write1 yX12_write1 ∈ c0 :: lwM := List.mem_cons_of_mem _ (List.mem_append_left _ (List.mem_of_getElem? (i := 217) rfl))
set_option maxRecDepth 100000 in
theorem im_219 {c0 : Cond} : Cond.methodLink RX12 348 yX12_hasNought ∈ c0 :: lwM := List.mem_cons_of_mem _ (List.mem_append_left _ (List.mem_of_getElem? (i := 219) rfl))
set_option maxRecDepth 100000 in
theorem im_220 {c0 : Cond} : Cond.instanceMethod yX12_hasNought ∈ c0 :: lwM := List.mem_cons_of_mem _ (List.mem_append_left _ (List.mem_of_getElem? (i := 220) rfl))
set_option maxRecDepth 100000 in
theorem im_221 {c0 : Cond} : Cond.selects RX12 yX12_hasNought yX12_hasNought ∈ c0 :: lwM := List.mem_cons_of_mem _ (List.mem_append_left _ (List.mem_of_getElem? (i := 221) rfl))
set_option maxRecDepth 100000 in
theorem im_222 {c0 : Cond} : Cond.methodLink RX12 354 yX12_isLetter ∈ c0 :: lwM := List.mem_cons_of_mem _ (List.mem_append_left _ (List.mem_of_getElem? (i := 222) rfl))
set_option maxRecDepth 100000 in
theorem im_223 {c0 : Cond} : Cond.static yX12_isLetter ∈ c0 :: lwM := List.mem_cons_of_mem _ (List.mem_append_left _ (List.mem_of_getElem? (i := 223) rfl))
set_option maxRecDepth 100000 in
theorem im_224 {c0 : Cond} : Cond.methodLink RX12 357 yX12_writeWord ∈ c0 :: lwM := List.mem_cons_of_mem _ (List.mem_append_left _ (List.mem_of_getElem? (i := 224) rfl))
set_option maxRecDepth 100000 in
theorem im_225 {c0 : Cond} : Cond.instanceMethod yX12_writeWord ∈ c0 :: lwM := List.mem_cons_of_mem _ (List.mem_append_left _ (List.mem_of_getElem? (i := 225) rfl))
set_option maxRecDepth 100000 in
theorem im_226 {c0 : Cond} : Cond.selects RX12 yX12_writeWord yX12_writeWord ∈ c0 :: lwM := List.mem_cons_of_mem _ (List.mem_append_left _ (List.mem_of_getElem? (i := 226) rfl))
set_option maxRecDepth 100000 in
theorem im_227 {c0 : Cond} : Cond.methodLink RX12 351 yX12_quoted ∈ c0 :: lwM := List.mem_cons_of_mem _ (List.mem_append_left _ (List.mem_of_getElem? (i := 227) rfl))
set_option maxRecDepth 100000 in
theorem im_228 {c0 : Cond} : Cond.instanceMethod yX12_quoted ∈ c0 :: lwM := List.mem_cons_of_mem _ (List.mem_append_left _ (List.mem_of_getElem? (i := 228) rfl))
set_option maxRecDepth 100000 in
theorem im_229 {c0 : Cond} : Cond.selects RX12 yX12_quoted yX12_quoted ∈ c0 :: lwM := List.mem_cons_of_mem _ (List.mem_append_left _ (List.mem_of_getElem? (i := 229) rfl))
set_option maxRecDepth 100000 in
theorem im_231 {c0 : Cond} : Cond.methodLink RX12 370 yX12_onward ∈ c0 :: lwM := List.mem_cons_of_mem _ (List.mem_append_left _ (List.mem_of_getElem? (i := 231) rfl))
set_option maxRecDepth 100000 in
theorem im_232 {c0 : Cond} : Cond.instanceMethod yX12_onward ∈ c0 :: lwM := List.mem_cons_of_mem _ (List.mem_append_left _ (List.mem_of_getElem? (i := 232) rfl))
set_option maxRecDepth 100000 in
theorem im_233 {c0 : Cond} : Cond.selects RX12 yX12_onward yX12_onward ∈ c0 :: lwM := List.mem_cons_of_mem _ (List.mem_append_left _ (List.mem_of_getElem? (i := 233) rfl))
set_option maxRecDepth 100000 in
theorem im_234 {c0 : Cond} : Cond.fieldLink RX12 143 "SpellTurnerModel" "cost" "[I" ∈ c0 :: lwM := List.mem_cons_of_mem _ (List.mem_append_left _ (List.mem_of_getElem? (i := 234) rfl))
set_option maxRecDepth 100000 in
theorem im_235 {c0 : Cond} : Cond.methodLink RX12 367 yX12_isKnown ∈ c0 :: lwM := List.mem_cons_of_mem _ (List.mem_append_left _ (List.mem_of_getElem? (i := 235) rfl))
set_option maxRecDepth 100000 in
theorem im_236 {c0 : Cond} : Cond.instanceMethod yX12_isKnown ∈ c0 :: lwM := List.mem_cons_of_mem _ (List.mem_append_left _ (List.mem_of_getElem? (i := 236) rfl))
set_option maxRecDepth 100000 in
theorem im_237 {c0 : Cond} : Cond.selects RX12 yX12_isKnown yX12_isKnown ∈ c0 :: lwM := List.mem_cons_of_mem _ (List.mem_append_left _ (List.mem_of_getElem? (i := 237) rfl))
set_option maxRecDepth 100000 in
theorem im_238 {c0 : Cond} : Cond.code yX12_keyAt cX12_keyAt 8 (some .int) ∈ c0 :: lwM := List.mem_cons_of_mem _ (List.mem_append_left _ (List.mem_of_getElem? (i := 238) rfl))
set_option maxRecDepth 100000 in
theorem im_239 {c0 : Cond} : Cond.methodLink RX12 160 yJ0_length_8abf5 ∈ c0 :: lwM := List.mem_cons_of_mem _ (List.mem_append_left _ (List.mem_of_getElem? (i := 239) rfl))
set_option maxRecDepth 100000 in
theorem im_240 {c0 : Cond} : Cond.instanceMethod yJ0_length_8abf5 ∈ c0 :: lwM := List.mem_cons_of_mem _ (List.mem_append_left _ (List.mem_of_getElem? (i := 240) rfl))
set_option maxRecDepth 100000 in
theorem im_241 {c0 : Cond} : Cond.selects RJ0 yJ0_length_8abf5 yJ0_length_8abf5 ∈ c0 :: lwM := List.mem_cons_of_mem _ (List.mem_append_left _ (List.mem_of_getElem? (i := 241) rfl))
set_option maxRecDepth 100000 in
theorem im_242 {c0 : Cond} : Cond.methodLink RX12 166 yJ0_charAt_5068e ∈ c0 :: lwM := List.mem_cons_of_mem _ (List.mem_append_left _ (List.mem_of_getElem? (i := 242) rfl))
set_option maxRecDepth 100000 in
theorem im_243 {c0 : Cond} : Cond.instanceMethod yJ0_charAt_5068e ∈ c0 :: lwM := List.mem_cons_of_mem _ (List.mem_append_left _ (List.mem_of_getElem? (i := 243) rfl))
set_option maxRecDepth 100000 in
theorem im_244 {c0 : Cond} : Cond.selects RJ0 yJ0_charAt_5068e yJ0_charAt_5068e ∈ c0 :: lwM := List.mem_cons_of_mem _ (List.mem_append_left _ (List.mem_of_getElem? (i := 244) rfl))
set_option maxRecDepth 100000 in
theorem im_245 {c0 : Cond} : Cond.methodLink RX12 170 yX12_see ∈ c0 :: lwM := List.mem_cons_of_mem _ (List.mem_append_left _ (List.mem_of_getElem? (i := 245) rfl))
set_option maxRecDepth 100000 in
theorem im_246 {c0 : Cond} : Cond.instanceMethod yX12_see ∈ c0 :: lwM := List.mem_cons_of_mem _ (List.mem_append_left _ (List.mem_of_getElem? (i := 246) rfl))
set_option maxRecDepth 100000 in
theorem im_247 {c0 : Cond} : Cond.selects RX12 yX12_see yX12_see ∈ c0 :: lwM := List.mem_cons_of_mem _ (List.mem_append_left _ (List.mem_of_getElem? (i := 247) rfl))
set_option maxRecDepth 100000 in
theorem im_248 {c0 : Cond} : Cond.code yX12_scan cX12_scan 4 none ∈ c0 :: lwM := List.mem_cons_of_mem _ (List.mem_append_left _ (List.mem_of_getElem? (i := 248) rfl))
set_option maxRecDepth 100000 in
theorem im_249 {c0 : Cond} : Cond.methodLink RX12 187 yX12_keyAt ∈ c0 :: lwM := List.mem_cons_of_mem _ (List.mem_append_left _ (List.mem_of_getElem? (i := 249) rfl))
set_option maxRecDepth 100000 in
theorem im_250 {c0 : Cond} : Cond.instanceMethod yX12_keyAt ∈ c0 :: lwM := List.mem_cons_of_mem _ (List.mem_append_left _ (List.mem_of_getElem? (i := 250) rfl))
set_option maxRecDepth 100000 in
theorem im_251 {c0 : Cond} : Cond.selects RX12 yX12_keyAt yX12_keyAt ∈ c0 :: lwM := List.mem_cons_of_mem _ (List.mem_append_left _ (List.mem_of_getElem? (i := 251) rfl))
set_option maxRecDepth 100000 in
theorem im_252 {c0 : Cond} : Cond.fieldLink RX12 191 "SpellTurnerModel" "what" "I" ∈ c0 :: lwM := List.mem_cons_of_mem _ (List.mem_append_left _ (List.mem_of_getElem? (i := 252) rfl))
set_option maxRecDepth 100000 in
theorem im_253 {c0 : Cond} : Cond.code yX12_readListed cX12_readListed 4 (some .boolean) ∈ c0 :: lwM := List.mem_cons_of_mem _ (List.mem_append_left _ (List.mem_of_getElem? (i := 253) rfl))
set_option maxRecDepth 100000 in
theorem im_254 {c0 : Cond} : Cond.methodLink RX12 200 yX12_scan ∈ c0 :: lwM := List.mem_cons_of_mem _ (List.mem_append_left _ (List.mem_of_getElem? (i := 254) rfl))
set_option maxRecDepth 100000 in
theorem im_255 {c0 : Cond} : Cond.instanceMethod yX12_scan ∈ c0 :: lwM := List.mem_cons_of_mem _ (List.mem_append_left _ (List.mem_of_getElem? (i := 255) rfl))
set_option maxRecDepth 100000 in
theorem im_256 {c0 : Cond} : Cond.selects RX12 yX12_scan yX12_scan ∈ c0 :: lwM := List.mem_cons_of_mem _ (List.mem_append_left _ (List.mem_of_getElem? (i := 256) rfl))
set_option maxRecDepth 100000 in
theorem im_257 {c0 : Cond} : Cond.methodLink RX12 203 yX12_take ∈ c0 :: lwM := List.mem_cons_of_mem _ (List.mem_append_left _ (List.mem_of_getElem? (i := 257) rfl))
set_option maxRecDepth 100000 in
theorem im_258 {c0 : Cond} : Cond.instanceMethod yX12_take ∈ c0 :: lwM := List.mem_cons_of_mem _ (List.mem_append_left _ (List.mem_of_getElem? (i := 258) rfl))
set_option maxRecDepth 100000 in
theorem im_259 {c0 : Cond} : Cond.selects RX12 yX12_take yX12_take ∈ c0 :: lwM := List.mem_cons_of_mem _ (List.mem_append_left _ (List.mem_of_getElem? (i := 259) rfl))
set_option maxRecDepth 100000 in
theorem im_260 {c0 : Cond} : Cond.methodLink RX12 207 yX12_same ∈ c0 :: lwM := List.mem_cons_of_mem _ (List.mem_append_left _ (List.mem_of_getElem? (i := 260) rfl))
set_option maxRecDepth 100000 in
theorem im_261 {c0 : Cond} : Cond.static yX12_same ∈ c0 :: lwM := List.mem_cons_of_mem _ (List.mem_append_left _ (List.mem_of_getElem? (i := 261) rfl))
set_option maxRecDepth 100000 in
theorem im_262 {c0 : Cond} : Cond.code yX12_readPart cX12_readPart 3 (some .boolean) ∈ c0 :: lwM := List.mem_cons_of_mem _ (List.mem_append_left _ (List.mem_of_getElem? (i := 262) rfl))
set_option maxRecDepth 100000 in
theorem im_263 {c0 : Cond} : Cond.code yX12_readLaw cX12_readLaw 4 (some .boolean) ∈ c0 :: lwM := List.mem_cons_of_mem _ (List.mem_append_left _ (List.mem_of_getElem? (i := 263) rfl))
set_option maxRecDepth 100000 in
theorem im_264 {c0 : Cond} : Cond.code yX12_readItem cX12_readItem 2 (some .boolean) ∈ c0 :: lwM := List.mem_cons_of_mem _ (List.mem_append_left _ (List.mem_of_getElem? (i := 264) rfl))
set_option maxRecDepth 100000 in
theorem im_265 {c0 : Cond} : Cond.methodLink RX12 211 yX12_readListed ∈ c0 :: lwM := List.mem_cons_of_mem _ (List.mem_append_left _ (List.mem_of_getElem? (i := 265) rfl))
set_option maxRecDepth 100000 in
theorem im_266 {c0 : Cond} : Cond.instanceMethod yX12_readListed ∈ c0 :: lwM := List.mem_cons_of_mem _ (List.mem_append_left _ (List.mem_of_getElem? (i := 266) rfl))
set_option maxRecDepth 100000 in
theorem im_267 {c0 : Cond} : Cond.selects RX12 yX12_readListed yX12_readListed ∈ c0 :: lwM := List.mem_cons_of_mem _ (List.mem_append_left _ (List.mem_of_getElem? (i := 267) rfl))
set_option maxRecDepth 100000 in
theorem im_268 {c0 : Cond} : Cond.methodLink RX12 219 yX12_readLaw ∈ c0 :: lwM := List.mem_cons_of_mem _ (List.mem_append_left _ (List.mem_of_getElem? (i := 268) rfl))
set_option maxRecDepth 100000 in
theorem im_269 {c0 : Cond} : Cond.instanceMethod yX12_readLaw ∈ c0 :: lwM := List.mem_cons_of_mem _ (List.mem_append_left _ (List.mem_of_getElem? (i := 269) rfl))
set_option maxRecDepth 100000 in
theorem im_270 {c0 : Cond} : Cond.selects RX12 yX12_readLaw yX12_readLaw ∈ c0 :: lwM := List.mem_cons_of_mem _ (List.mem_append_left _ (List.mem_of_getElem? (i := 270) rfl))
set_option maxRecDepth 100000 in
theorem im_271 {c0 : Cond} : Cond.methodLink RX12 215 yX12_readPart ∈ c0 :: lwM := List.mem_cons_of_mem _ (List.mem_append_left _ (List.mem_of_getElem? (i := 271) rfl))
set_option maxRecDepth 100000 in
theorem im_272 {c0 : Cond} : Cond.instanceMethod yX12_readPart ∈ c0 :: lwM := List.mem_cons_of_mem _ (List.mem_append_left _ (List.mem_of_getElem? (i := 272) rfl))
set_option maxRecDepth 100000 in
theorem im_273 {c0 : Cond} : Cond.selects RX12 yX12_readPart yX12_readPart ∈ c0 :: lwM := List.mem_cons_of_mem _ (List.mem_append_left _ (List.mem_of_getElem? (i := 273) rfl))
set_option maxRecDepth 100000 in
theorem im_275 {c0 : Cond} : Cond.methodLink RX12 233 yX12_copy ∈ c0 :: lwM := List.mem_cons_of_mem _ (List.mem_append_left _ (List.mem_of_getElem? (i := 275) rfl))
set_option maxRecDepth 100000 in
theorem im_276 {c0 : Cond} : Cond.static yX12_copy ∈ c0 :: lwM := List.mem_cons_of_mem _ (List.mem_append_left _ (List.mem_of_getElem? (i := 276) rfl))
set_option maxRecDepth 100000 in
theorem im_277 {c0 : Cond} : Cond.methodLink RX12 230 yX12_readItem ∈ c0 :: lwM := List.mem_cons_of_mem _ (List.mem_append_left _ (List.mem_of_getElem? (i := 277) rfl))
set_option maxRecDepth 100000 in
theorem im_278 {c0 : Cond} : Cond.instanceMethod yX12_readItem ∈ c0 :: lwM := List.mem_cons_of_mem _ (List.mem_append_left _ (List.mem_of_getElem? (i := 278) rfl))
set_option maxRecDepth 100000 in
theorem im_279 {c0 : Cond} : Cond.selects RX12 yX12_readItem yX12_readItem ∈ c0 :: lwM := List.mem_cons_of_mem _ (List.mem_append_left _ (List.mem_of_getElem? (i := 279) rfl))
def vmJ0_coder_7d493 : List Cond := Cond.code yJ0_coder_7d493 cJ0_coder_7d493 1 (some .byte) :: lwM
def vmJ0_length_8abf5 : List Cond := Cond.code yJ0_length_8abf5 cJ0_length_8abf5 1 (some .int) :: lwM
def vmJ0_isLatin1_aae02 : List Cond := Cond.code yJ0_isLatin1_aae02 cJ0_isLatin1_aae02 1 (some .boolean) :: lwM
def vmJ3_checkIndex_8e157 : List Cond := Cond.code yJ3_checkIndex_8e157 cJ3_checkIndex_8e157 3 (some .int) :: lwM
def vmJ0_checkIndex_df160 : List Cond := Cond.code yJ0_checkIndex_df160 cJ0_checkIndex_df160 2 none :: lwM
def vmJ1_charAt_3b067 : List Cond := Cond.code yJ1_charAt_3b067 cJ1_charAt_3b067 2 (some .char) :: lwM
def vmJ0_charAt_5068e : List Cond := Cond.code yJ0_charAt_5068e cJ0_charAt_5068e 2 (some .char) :: lwM
def vmX12_in : List Cond := Cond.code yX12_in cX12_in 3 (some .boolean) :: lwM
def vmX12_isSmall : List Cond := Cond.code yX12_isSmall cX12_isSmall 1 (some .boolean) :: lwM
def vmX12_isLetter : List Cond := Cond.code yX12_isLetter cX12_isLetter 1 (some .boolean) :: lwM
def vmX12_see : List Cond := Cond.code yX12_see cX12_see 2 (some .int) :: lwM
def vmX12_wrong : List Cond := Cond.code yX12_wrong cX12_wrong 2 (some .boolean) :: lwM
def vmX12_isStage : List Cond := Cond.code yX12_isStage cX12_isStage 2 (some .boolean) :: lwM
def vmX12_hasNought : List Cond := Cond.code yX12_hasNought cX12_hasNought 3 (some .boolean) :: lwM
def vmX12_feed : List Cond := Cond.code yX12_feed cX12_feed 9 (some .int) :: lwM
def vmX12_end : List Cond := Cond.code yX12_end cX12_end 2 (some .int) :: lwM
def vmX12_sameBytes : List Cond := Cond.code yX12_sameBytes cX12_sameBytes 7 (some .boolean) :: lwM
def vmX12_takeWord : List Cond := Cond.code yX12_takeWord cX12_takeWord 5 none :: lwM
def vmX12_readWord : List Cond := Cond.code yX12_readWord cX12_readWord 3 (some .boolean) :: lwM
def vmX12_isWordPart : List Cond := Cond.code yX12_isWordPart cX12_isWordPart 7 (some .boolean) :: lwM
def vmX12_about : List Cond := Cond.code yX12_about cX12_about 5 (some .int) :: lwM
def vmX12_take : List Cond := Cond.code yX12_take cX12_take 7 (some .boolean) :: lwM
def vmX12_stands : List Cond := Cond.code yX12_stands cX12_stands 6 (some .boolean) :: lwM
def vmX12_fault : List Cond := Cond.code yX12_fault cX12_fault 2 (some .int) :: lwM
def vmX12_stage : List Cond := Cond.code yX12_stage cX12_stage 4 (some .int) :: lwM
def vmX12_form : List Cond := Cond.code yX12_form cX12_form 3 (some .int) :: lwM
def vmX12_parting : List Cond := Cond.code yX12_parting cX12_parting 3 (some .int) :: lwM
def vmX12_word : List Cond := Cond.code yX12_word cX12_word 3 (some .int) :: lwM
def vmX12_old : List Cond := Cond.code yX12_old cX12_old 2 (some .int) :: lwM
def vmX12_collision : List Cond := Cond.code yX12_collision cX12_collision 2 (some .int) :: lwM
def vmX12_written : List Cond := Cond.code yX12_written cX12_written 2 (some .int) :: lwM
def vmX12_counted : List Cond := Cond.code yX12_counted cX12_counted 2 (some .int) :: lwM
def vmX12_line : List Cond := Cond.code yX12_line cX12_line 2 (some .int) :: lwM
def vmX12_count : List Cond := Cond.code yX12_count cX12_count 2 (some .int) :: lwM
def vmX12_isName : List Cond := Cond.code yX12_isName cX12_isName 4 (some .boolean) :: lwM
def vmX12_quoted : List Cond := Cond.code yX12_quoted cX12_quoted 4 (some .int) :: lwM
def vmX12_hasForm : List Cond := Cond.code yX12_hasForm cX12_hasForm 7 (some .boolean) :: lwM
def vmX12_collide : List Cond := Cond.code yX12_collide cX12_collide 5 (some .boolean) :: lwM
def vmX12_rhyme : List Cond := Cond.code yX12_rhyme cX12_rhyme 6 (some .boolean) :: lwM
def vmX12_rhymeAt : List Cond := Cond.code yX12_rhymeAt cX12_rhymeAt 6 (some .boolean) :: lwM
def vmX12_listedAs : List Cond := Cond.code yX12_listedAs cX12_listedAs 3 (some .int) :: lwM
def vmX12_learn : List Cond := Cond.code yX12_learn cX12_learn 2 (some .int) :: lwM
def vmX12_onward : List Cond := Cond.code yX12_onward cX12_onward 7 (some .int) :: lwM
def vmX12_isKnown : List Cond := Cond.code yX12_isKnown cX12_isKnown 5 (some .boolean) :: lwM
def vmX12_copy : List Cond := Cond.code yX12_copy cX12_copy 5 none :: lwM
def vmX12_same : List Cond := Cond.code yX12_same cX12_same 5 (some .boolean) :: lwM
def vmX12_part : List Cond := Cond.code yX12_part cX12_part 5 none :: lwM
def vmX12_makeWays : List Cond := Cond.code yX12_makeWays cX12_makeWays 4 none :: lwM
def vmX12_lawThrough : List Cond := Cond.code yX12_lawThrough cX12_lawThrough 8 none :: lwM
def vmX12_makeForm : List Cond := Cond.code yX12_makeForm cX12_makeForm 10 none :: lwM
def vmX12_turnBy : List Cond := Cond.code yX12_turnBy cX12_turnBy 6 none :: lwM
def vmX12_through : List Cond := Cond.code yX12_through cX12_through 9 none :: lwM
def vmX12_turn : List Cond := Cond.code yX12_turn cX12_turn 5 (some .int) :: lwM
def vmX12_partings : List Cond := Cond.code yX12_partings cX12_partings 5 (some .int) :: lwM
def vmX12_make : List Cond := Cond.code yX12_make cX12_make 6 none :: lwM
def vmX12_back : List Cond := Cond.code yX12_back cX12_back 4 (some .int) :: lwM
def vmX12_collisions : List Cond := Cond.code yX12_collisions cX12_collisions 5 (some .int) :: lwM
def vmX12_rhymes : List Cond := Cond.code yX12_rhymes cX12_rhymes 5 (some .int) :: lwM
def vmX12_tell : List Cond := Cond.code yX12_tell cX12_tell 7 (some .int) :: lwM
def vmX12_uses : List Cond := Cond.code yX12_uses cX12_uses 6 (some .int) :: lwM
def vmX12_write1 : List Cond := Cond.code yX12_write1 cX12_write1 5 (some .boolean) :: lwM
def vmX12_writeWord : List Cond := Cond.code yX12_writeWord cX12_writeWord 5 (some .boolean) :: lwM
def vmX12_write : List Cond := Cond.code yX12_write cX12_write 7 (some .int) :: lwM
def vmX12_mixed : List Cond := Cond.code yX12_mixed cX12_mixed 11 (some .int) :: lwM
def vmX12_keyAt : List Cond := Cond.code yX12_keyAt cX12_keyAt 8 (some .int) :: lwM
def vmX12_scan : List Cond := Cond.code yX12_scan cX12_scan 4 none :: lwM
def vmX12_readListed : List Cond := Cond.code yX12_readListed cX12_readListed 4 (some .boolean) :: lwM
def vmX12_readPart : List Cond := Cond.code yX12_readPart cX12_readPart 3 (some .boolean) :: lwM
def vmX12_readLaw : List Cond := Cond.code yX12_readLaw cX12_readLaw 4 (some .boolean) :: lwM
def vmX12_readItem : List Cond := Cond.code yX12_readItem cX12_readItem 2 (some .boolean) :: lwM
def vmX12_reform : List Cond := Cond.code yX12_reform cX12_reform 4 (some .int) :: lwM
theorem gw_X12_isSmall_183 {c0 : Cond} : GoodIn (c0 :: lwM) (va_wsS RX12 183 yX12_isSmall vmX12_isSmall) := gdW im_29 (by decide +kernel) (gdW im_30 (by decide +kernel) (gdW im_31 (by decide +kernel) (gdW im_27 (by decide +kernel) lwM_in)))
theorem gw_X12_in_226 {c0 : Cond} : GoodIn (c0 :: lwM) (va_wsS RX12 226 yX12_in vmX12_in) := gdW im_41 (by decide +kernel) (gdW im_42 (by decide +kernel) (gdW im_31 (by decide +kernel) (gdW im_26 (by decide +kernel) lwM_in)))
theorem gw_X12_takeWord_290 {c0 : Cond} : GoodIn (c0 :: lwM) (wsV RX12 290 RX12 yX12_takeWord vmX12_takeWord) := gdW im_52 (by decide +kernel) (gdW im_53 (by decide +kernel) (gdW im_54 (by decide +kernel) (gdW im_31 (by decide +kernel) (gdW im_48 (by decide +kernel) lwM_in))))
theorem gw_X12_wrong_197 {c0 : Cond} : GoodIn (c0 :: lwM) (wsV RX12 197 RX12 yX12_wrong vmX12_wrong) := gdW im_67 (by decide +kernel) (gdW im_68 (by decide +kernel) (gdW im_69 (by decide +kernel) (gdW im_31 (by decide +kernel) (gdW im_35 (by decide +kernel) lwM_in))))
theorem gw_X12_sameBytes_273 {c0 : Cond} : GoodIn (c0 :: lwM) (va_wsS RX12 273 yX12_sameBytes vmX12_sameBytes) := gdW im_110 (by decide +kernel) (gdW im_111 (by decide +kernel) (gdW im_31 (by decide +kernel) (gdW im_47 (by decide +kernel) lwM_in)))
theorem gw_X12_hasForm_321 {c0 : Cond} : GoodIn (c0 :: lwM) (wsV RX12 321 RX12 yX12_hasForm vmX12_hasForm) := gdW im_113 (by decide +kernel) (gdW im_114 (by decide +kernel) (gdW im_115 (by decide +kernel) (gdW im_31 (by decide +kernel) (gdW im_106 (by decide +kernel) lwM_in))))
theorem gw_X12_rhyme_331 {c0 : Cond} : GoodIn (c0 :: lwM) (va_wsS RX12 331 yX12_rhyme vmX12_rhyme) := gdW im_118 (by decide +kernel) (gdW im_119 (by decide +kernel) (gdW im_31 (by decide +kernel) (gdW im_116 (by decide +kernel) lwM_in)))
theorem gw_X12_readWord_297 {c0 : Cond} : GoodIn (c0 :: lwM) (wsV RX12 297 RX12 yX12_readWord vmX12_readWord) := gdW im_123 (by decide +kernel) (gdW im_124 (by decide +kernel) (gdW im_125 (by decide +kernel) (gdW im_31 (by decide +kernel) (gdW im_51 (by decide +kernel) lwM_in))))
theorem gw_X12_isWordPart_247 {c0 : Cond} : GoodIn (c0 :: lwM) (wsV RX12 247 RX12 yX12_isWordPart vmX12_isWordPart) := gdW im_136 (by decide +kernel) (gdW im_137 (by decide +kernel) (gdW im_138 (by decide +kernel) (gdW im_31 (by decide +kernel) (gdW im_55 (by decide +kernel) lwM_in))))
theorem gw_X12_part_250 {c0 : Cond} : GoodIn (c0 :: lwM) (wsV RX12 250 RX12 yX12_part vmX12_part) := gdW im_140 (by decide +kernel) (gdW im_141 (by decide +kernel) (gdW im_142 (by decide +kernel) (gdW im_31 (by decide +kernel) (gdW im_133 (by decide +kernel) lwM_in))))
theorem gw_X12_stands_256 {c0 : Cond} : GoodIn (c0 :: lwM) (wsV RX12 256 RX12 yX12_stands vmX12_stands) := gdW im_152 (by decide +kernel) (gdW im_153 (by decide +kernel) (gdW im_154 (by decide +kernel) (gdW im_31 (by decide +kernel) (gdW im_70 (by decide +kernel) lwM_in))))
theorem gw_X12_lawThrough_266 {c0 : Cond} : GoodIn (c0 :: lwM) (wsV RX12 266 RX12 yX12_lawThrough vmX12_lawThrough) := gdW im_161 (by decide +kernel) (gdW im_162 (by decide +kernel) (gdW im_163 (by decide +kernel) (gdW im_31 (by decide +kernel) (gdW im_146 (by decide +kernel) lwM_in))))
theorem gw_X12_listedAs_277 {c0 : Cond} : GoodIn (c0 :: lwM) (wsV RX12 277 RX12 yX12_listedAs vmX12_listedAs) := gdW im_165 (by decide +kernel) (gdW im_166 (by decide +kernel) (gdW im_167 (by decide +kernel) (gdW im_31 (by decide +kernel) (gdW im_120 (by decide +kernel) lwM_in))))
theorem gw_X12_makeWays_280 {c0 : Cond} : GoodIn (c0 :: lwM) (wsV RX12 280 RX12 yX12_makeWays vmX12_makeWays) := gdW im_168 (by decide +kernel) (gdW im_169 (by decide +kernel) (gdW im_170 (by decide +kernel) (gdW im_31 (by decide +kernel) (gdW im_145 (by decide +kernel) lwM_in))))
theorem gw_X12_makeForm_283 {c0 : Cond} : GoodIn (c0 :: lwM) (wsV RX12 283 RX12 yX12_makeForm vmX12_makeForm) := gdW im_171 (by decide +kernel) (gdW im_172 (by decide +kernel) (gdW im_173 (by decide +kernel) (gdW im_31 (by decide +kernel) (gdW im_157 (by decide +kernel) lwM_in))))
theorem gw_X12_turnBy_294 {c0 : Cond} : GoodIn (c0 :: lwM) (wsV RX12 294 RX12 yX12_turnBy vmX12_turnBy) := gdW im_180 (by decide +kernel) (gdW im_181 (by decide +kernel) (gdW im_182 (by decide +kernel) (gdW im_31 (by decide +kernel) (gdW im_164 (by decide +kernel) lwM_in))))
theorem gw_X12_isStage_300 {c0 : Cond} : GoodIn (c0 :: lwM) (wsV RX12 300 RX12 yX12_isStage vmX12_isStage) := gdW im_184 (by decide +kernel) (gdW im_185 (by decide +kernel) (gdW im_186 (by decide +kernel) (gdW im_31 (by decide +kernel) (gdW im_39 (by decide +kernel) lwM_in))))
theorem gw_X12_through_303 {c0 : Cond} : GoodIn (c0 :: lwM) (wsV RX12 303 RX12 yX12_through vmX12_through) := gdW im_187 (by decide +kernel) (gdW im_188 (by decide +kernel) (gdW im_189 (by decide +kernel) (gdW im_31 (by decide +kernel) (gdW im_174 (by decide +kernel) lwM_in))))
theorem gw_X12_make_315 {c0 : Cond} : GoodIn (c0 :: lwM) (wsV RX12 315 RX12 yX12_make vmX12_make) := gdW im_193 (by decide +kernel) (gdW im_194 (by decide +kernel) (gdW im_195 (by decide +kernel) (gdW im_31 (by decide +kernel) (gdW im_191 (by decide +kernel) lwM_in))))
theorem gw_X12_collide_328 {c0 : Cond} : GoodIn (c0 :: lwM) (wsV RX12 328 RX12 yX12_collide vmX12_collide) := gdW im_198 (by decide +kernel) (gdW im_199 (by decide +kernel) (gdW im_200 (by decide +kernel) (gdW im_31 (by decide +kernel) (gdW im_112 (by decide +kernel) lwM_in))))
theorem gw_X12_rhymeAt_334 {c0 : Cond} : GoodIn (c0 :: lwM) (wsV RX12 334 RX12 yX12_rhymeAt vmX12_rhymeAt) := gdW im_202 (by decide +kernel) (gdW im_203 (by decide +kernel) (gdW im_204 (by decide +kernel) (gdW im_31 (by decide +kernel) (gdW im_117 (by decide +kernel) lwM_in))))
theorem gw_X12_isName_340 {c0 : Cond} : GoodIn (c0 :: lwM) (wsV RX12 340 RX12 yX12_isName vmX12_isName) := gdW im_211 (by decide +kernel) (gdW im_212 (by decide +kernel) (gdW im_213 (by decide +kernel) (gdW im_31 (by decide +kernel) (gdW im_104 (by decide +kernel) lwM_in))))
theorem gw_X12_write1_344 {c0 : Cond} : GoodIn (c0 :: lwM) (wsV RX12 344 RX12 yX12_write1 vmX12_write1) := gdW im_215 (by decide +kernel) (gdW im_216 (by decide +kernel) (gdW im_217 (by decide +kernel) (gdW im_31 (by decide +kernel) (gdW im_207 (by decide +kernel) lwM_in))))
theorem gw_X12_hasNought_348 {c0 : Cond} : GoodIn (c0 :: lwM) (wsV RX12 348 RX12 yX12_hasNought vmX12_hasNought) := gdW im_219 (by decide +kernel) (gdW im_220 (by decide +kernel) (gdW im_221 (by decide +kernel) (gdW im_31 (by decide +kernel) (gdW im_43 (by decide +kernel) lwM_in))))
theorem gw_X12_isLetter_354 {c0 : Cond} : GoodIn (c0 :: lwM) (va_wsS RX12 354 yX12_isLetter vmX12_isLetter) := gdW im_222 (by decide +kernel) (gdW im_223 (by decide +kernel) (gdW im_31 (by decide +kernel) (gdW im_28 (by decide +kernel) lwM_in)))
theorem gw_X12_writeWord_357 {c0 : Cond} : GoodIn (c0 :: lwM) (wsV RX12 357 RX12 yX12_writeWord vmX12_writeWord) := gdW im_224 (by decide +kernel) (gdW im_225 (by decide +kernel) (gdW im_226 (by decide +kernel) (gdW im_31 (by decide +kernel) (gdW im_210 (by decide +kernel) lwM_in))))
theorem gw_X12_quoted_351 {c0 : Cond} : GoodIn (c0 :: lwM) (wsV RX12 351 RX12 yX12_quoted vmX12_quoted) := gdW im_227 (by decide +kernel) (gdW im_228 (by decide +kernel) (gdW im_229 (by decide +kernel) (gdW im_31 (by decide +kernel) (gdW im_105 (by decide +kernel) lwM_in))))
theorem gw_X12_onward_370 {c0 : Cond} : GoodIn (c0 :: lwM) (wsV RX12 370 RX12 yX12_onward vmX12_onward) := gdW im_231 (by decide +kernel) (gdW im_232 (by decide +kernel) (gdW im_233 (by decide +kernel) (gdW im_31 (by decide +kernel) (gdW im_127 (by decide +kernel) lwM_in))))
theorem gw_X12_isKnown_367 {c0 : Cond} : GoodIn (c0 :: lwM) (wsV RX12 367 RX12 yX12_isKnown vmX12_isKnown) := gdW im_235 (by decide +kernel) (gdW im_236 (by decide +kernel) (gdW im_237 (by decide +kernel) (gdW im_31 (by decide +kernel) (gdW im_130 (by decide +kernel) lwM_in))))
theorem gw_X12_see_170 {c0 : Cond} : GoodIn (c0 :: lwM) (wsV RX12 170 RX12 yX12_see vmX12_see) := gdW im_245 (by decide +kernel) (gdW im_246 (by decide +kernel) (gdW im_247 (by decide +kernel) (gdW im_31 (by decide +kernel) (gdW im_32 (by decide +kernel) lwM_in))))
theorem gw_X12_keyAt_187 {c0 : Cond} : GoodIn (c0 :: lwM) (wsV RX12 187 RX12 yX12_keyAt vmX12_keyAt) := gdW im_249 (by decide +kernel) (gdW im_250 (by decide +kernel) (gdW im_251 (by decide +kernel) (gdW im_31 (by decide +kernel) (gdW im_238 (by decide +kernel) lwM_in))))
theorem gw_X12_scan_200 {c0 : Cond} : GoodIn (c0 :: lwM) (wsV RX12 200 RX12 yX12_scan vmX12_scan) := gdW im_254 (by decide +kernel) (gdW im_255 (by decide +kernel) (gdW im_256 (by decide +kernel) (gdW im_31 (by decide +kernel) (gdW im_248 (by decide +kernel) lwM_in))))
theorem gw_X12_take_203 {c0 : Cond} : GoodIn (c0 :: lwM) (wsV RX12 203 RX12 yX12_take vmX12_take) := gdW im_257 (by decide +kernel) (gdW im_258 (by decide +kernel) (gdW im_259 (by decide +kernel) (gdW im_31 (by decide +kernel) (gdW im_64 (by decide +kernel) lwM_in))))
theorem gw_X12_same_207 {c0 : Cond} : GoodIn (c0 :: lwM) (va_wsS RX12 207 yX12_same vmX12_same) := gdW im_260 (by decide +kernel) (gdW im_261 (by decide +kernel) (gdW im_31 (by decide +kernel) (gdW im_132 (by decide +kernel) lwM_in)))
theorem gw_X12_readListed_211 {c0 : Cond} : GoodIn (c0 :: lwM) (wsV RX12 211 RX12 yX12_readListed vmX12_readListed) := gdW im_265 (by decide +kernel) (gdW im_266 (by decide +kernel) (gdW im_267 (by decide +kernel) (gdW im_31 (by decide +kernel) (gdW im_253 (by decide +kernel) lwM_in))))
theorem gw_X12_readLaw_219 {c0 : Cond} : GoodIn (c0 :: lwM) (wsV RX12 219 RX12 yX12_readLaw vmX12_readLaw) := gdW im_268 (by decide +kernel) (gdW im_269 (by decide +kernel) (gdW im_270 (by decide +kernel) (gdW im_31 (by decide +kernel) (gdW im_263 (by decide +kernel) lwM_in))))
theorem gw_X12_readPart_215 {c0 : Cond} : GoodIn (c0 :: lwM) (wsV RX12 215 RX12 yX12_readPart vmX12_readPart) := gdW im_271 (by decide +kernel) (gdW im_272 (by decide +kernel) (gdW im_273 (by decide +kernel) (gdW im_31 (by decide +kernel) (gdW im_262 (by decide +kernel) lwM_in))))
theorem gw_X12_copy_233 {c0 : Cond} : GoodIn (c0 :: lwM) (va_wsS RX12 233 yX12_copy vmX12_copy) := gdW im_275 (by decide +kernel) (gdW im_276 (by decide +kernel) (gdW im_31 (by decide +kernel) (gdW im_131 (by decide +kernel) lwM_in)))
theorem gw_X12_readItem_230 {c0 : Cond} : GoodIn (c0 :: lwM) (wsV RX12 230 RX12 yX12_readItem vmX12_readItem) := gdW im_277 (by decide +kernel) (gdW im_278 (by decide +kernel) (gdW im_279 (by decide +kernel) (gdW im_31 (by decide +kernel) (gdW im_264 (by decide +kernel) lwM_in))))
theorem gj_J0_length_8abf5_160 {c0 : Cond} : GoodIn (c0 :: lwM) (wsV RX12 160 RJ0 yJ0_length_8abf5 vmJ0_length_8abf5) := gdW im_239 (by decide +kernel) (gdW im_240 (by decide +kernel) (gdW im_241 (by decide +kernel) (gdW im_8 (by decide +kernel) (gdW im_3 (by decide +kernel) lwM_in))))
theorem gj_J0_charAt_5068e_166 {c0 : Cond} : GoodIn (c0 :: lwM) (wsV RX12 166 RJ0 yJ0_charAt_5068e vmJ0_charAt_5068e) := gdW im_242 (by decide +kernel) (gdW im_243 (by decide +kernel) (gdW im_244 (by decide +kernel) (gdW im_8 (by decide +kernel) (gdW im_19 (by decide +kernel) lwM_in))))
theorem gj_J0_coder_7d493_335 {c0 : Cond} : GoodIn (c0 :: lwM) (wsV RJ0 335 RJ0 yJ0_coder_7d493 vmJ0_coder_7d493) := gdW im_5 (by decide +kernel) (gdW im_6 (by decide +kernel) (gdW im_7 (by decide +kernel) (gdW im_8 (by decide +kernel) (gdW im_0 (by decide +kernel) lwM_in))))
theorem gj_J3_checkIndex_8e157_1059 {c0 : Cond} : GoodIn (c0 :: lwM) (va_wsS RJ0 1059 yJ3_checkIndex_8e157 vmJ3_checkIndex_8e157) := gdW im_13 (by decide +kernel) (gdW im_14 (by decide +kernel) (gdW im_15 (by decide +kernel) (gdW im_10 (by decide +kernel) lwM_in)))
theorem gj_J0_checkIndex_df160_9 {c0 : Cond} : GoodIn (c0 :: lwM) (va_wsS RJ1 9 yJ0_checkIndex_df160 vmJ0_checkIndex_df160) := gdW im_17 (by decide +kernel) (gdW im_18 (by decide +kernel) (gdW im_8 (by decide +kernel) (gdW im_11 (by decide +kernel) lwM_in)))
theorem gj_J0_isLatin1_aae02_492 {c0 : Cond} : GoodIn (c0 :: lwM) (wsV RJ0 492 RJ0 yJ0_isLatin1_aae02 vmJ0_isLatin1_aae02) := gdW im_20 (by decide +kernel) (gdW im_21 (by decide +kernel) (gdW im_22 (by decide +kernel) (gdW im_8 (by decide +kernel) (gdW im_9 (by decide +kernel) lwM_in))))
theorem gj_J1_charAt_3b067_495 {c0 : Cond} : GoodIn (c0 :: lwM) (va_wsS RJ0 495 yJ1_charAt_3b067 vmJ1_charAt_3b067) := gdW im_23 (by decide +kernel) (gdW im_24 (by decide +kernel) (gdW im_25 (by decide +kernel) (gdW im_16 (by decide +kernel) lwM_in)))
