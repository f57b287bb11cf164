def veX12_isSmall : List Cond := [Cond.code yX12_isSmall cX12_isSmall 1 (some .boolean)]
def vmX12_isSmall : List Cond := veX12_isSmall ++ wsX120
def veX12_isLetter : List Cond := [Cond.code yX12_isLetter cX12_isLetter 1 (some .boolean), Cond.methodLink RX12 183 yX12_isSmall, Cond.static yX12_isSmall, Cond.initialized RX12, Cond.code yX12_isSmall cX12_isSmall 1 (some .boolean)]
def vmX12_isLetter : List Cond := veX12_isLetter ++ wsX120
def veX12_see : List Cond := [Cond.code yX12_see cX12_see 2 (some .int), Cond.fieldLink RX12 155 "SpellTurnerModel" "size" "I", Cond.fieldLink RX12 7 "SpellTurnerModel" "tape" "[B"]
def vmX12_see : List Cond := veX12_see ++ wsX120
def veX12_wrong : List Cond := [Cond.code yX12_wrong cX12_wrong 2 (some .boolean), Cond.fieldLink RX12 194 "SpellTurnerModel" "faultKind" "I", Cond.fieldLink RX12 177 "SpellTurnerModel" "at" "I", Cond.fieldLink RX12 13 "SpellTurnerModel" "faultPlace" "I"]
def vmX12_wrong : List Cond := veX12_wrong ++ wsX120
def veX12_in : List Cond := [Cond.code yX12_in cX12_in 3 (some .boolean)]
def vmX12_in : List Cond := veX12_in ++ wsX120
def veX12_isStage : List Cond := [Cond.code yX12_isStage cX12_isStage 2 (some .boolean), Cond.fieldLink RX12 222 "SpellTurnerModel" "reforms" "I", Cond.methodLink RX12 226 yX12_in, Cond.static yX12_in, Cond.initialized RX12, Cond.code yX12_in cX12_in 3 (some .boolean)]
def vmX12_isStage : List Cond := veX12_isStage ++ wsX120
def veX12_hasNought : List Cond := [Cond.code yX12_hasNought cX12_hasNought 3 (some .boolean), Cond.fieldLink RX12 7 "SpellTurnerModel" "tape" "[B"]
def vmX12_hasNought : List Cond := veX12_hasNought ++ wsX120
def veX12_end : List Cond := [Cond.code yX12_end cX12_end 2 (some .int), Cond.fieldLink RX12 152 "SpellTurnerModel" "taped" "I"]
def vmX12_end : List Cond := veX12_end ++ wsX120
def veX12_feed : List Cond := [Cond.code yX12_feed cX12_feed 9 (some .int), Cond.fieldLink RX12 152 "SpellTurnerModel" "taped" "I", Cond.fieldLink RX12 7 "SpellTurnerModel" "tape" "[B"]
def vmX12_feed : List Cond := veX12_feed ++ wsX120
def veX12_fault : List Cond := [Cond.code yX12_fault cX12_fault 2 (some .int), Cond.fieldLink RX12 13 "SpellTurnerModel" "faultPlace" "I", Cond.fieldLink RX12 194 "SpellTurnerModel" "faultKind" "I"]
def vmX12_fault : List Cond := veX12_fault ++ wsX120
def veX12_stage : List Cond := [Cond.code yX12_stage cX12_stage 4 (some .int), Cond.constant RX12 225 (100000), Cond.methodLink RX12 226 yX12_in, Cond.static yX12_in, Cond.initialized RX12, Cond.fieldLink RX12 222 "SpellTurnerModel" "reforms" "I", Cond.fieldLink RX12 17 "SpellTurnerModel" "day" "[I", Cond.code yX12_in cX12_in 3 (some .boolean)]
def vmX12_stage : List Cond := veX12_stage ++ wsX120
def veX12_about : List Cond := [Cond.code yX12_about cX12_about 5 (some .int), Cond.fieldLink RX12 222 "SpellTurnerModel" "reforms" "I", Cond.methodLink RX12 226 yX12_in, Cond.static yX12_in, Cond.initialized RX12, Cond.fieldLink RX12 27 "SpellTurnerModel" "listed" "[I", Cond.fieldLink RX12 17 "SpellTurnerModel" "day" "[I", Cond.fieldLink RX12 21 "SpellTurnerModel" "laws" "[I", Cond.fieldLink RX12 24 "SpellTurnerModel" "parts" "[I", Cond.fieldLink RX12 52 "SpellTurnerModel" "listSize" "[I", Cond.code yX12_in cX12_in 3 (some .boolean)]
def vmX12_about : List Cond := veX12_about ++ wsX120
def veX12_form : List Cond := [Cond.code yX12_form cX12_form 3 (some .int), Cond.fieldLink RX12 306 "SpellTurnerModel" "tolds" "I", Cond.methodLink RX12 226 yX12_in, Cond.static yX12_in, Cond.initialized RX12, Cond.fieldLink RX12 97 "SpellTurnerModel" "toldSize" "[I", Cond.fieldLink RX12 94 "SpellTurnerModel" "told" "[B", Cond.code yX12_in cX12_in 3 (some .boolean)]
def vmX12_form : List Cond := veX12_form ++ wsX120
def veX12_parting : List Cond := [Cond.code yX12_parting cX12_parting 3 (some .int), Cond.fieldLink RX12 309 "SpellTurnerModel" "toldWayMany" "I", Cond.methodLink RX12 226 yX12_in, Cond.static yX12_in, Cond.initialized RX12, Cond.fieldLink RX12 103 "SpellTurnerModel" "toldParts" "[I", Cond.fieldLink RX12 100 "SpellTurnerModel" "toldWays" "[I", Cond.code yX12_in cX12_in 3 (some .boolean)]
def vmX12_parting : List Cond := veX12_parting ++ wsX120
def veX12_word : List Cond := [Cond.code yX12_word cX12_word 3 (some .int), Cond.fieldLink RX12 312 "SpellTurnerModel" "words" "I", Cond.methodLink RX12 226 yX12_in, Cond.static yX12_in, Cond.initialized RX12, Cond.fieldLink RX12 109 "SpellTurnerModel" "bookSize" "[I", Cond.fieldLink RX12 106 "SpellTurnerModel" "bookText" "[B", Cond.code yX12_in cX12_in 3 (some .boolean)]
def vmX12_word : List Cond := veX12_word ++ wsX120
def veX12_old : List Cond := [Cond.code yX12_old cX12_old 2 (some .int), Cond.fieldLink RX12 318 "SpellTurnerModel" "oldMany" "I", Cond.methodLink RX12 226 yX12_in, Cond.static yX12_in, Cond.initialized RX12, Cond.fieldLink RX12 122 "SpellTurnerModel" "olds" "[I", Cond.code yX12_in cX12_in 3 (some .boolean)]
def vmX12_old : List Cond := veX12_old ++ wsX120
def veX12_collision : List Cond := [Cond.code yX12_collision cX12_collision 2 (some .int), Cond.fieldLink RX12 325 "SpellTurnerModel" "pairMany" "I", Cond.methodLink RX12 226 yX12_in, Cond.static yX12_in, Cond.initialized RX12, Cond.fieldLink RX12 128 "SpellTurnerModel" "pairs" "[I", Cond.code yX12_in cX12_in 3 (some .boolean)]
def vmX12_collision : List Cond := veX12_collision ++ wsX120
def veX12_written : List Cond := [Cond.code yX12_written cX12_written 2 (some .int), Cond.fieldLink RX12 361 "SpellTurnerModel" "texted" "I", Cond.methodLink RX12 226 yX12_in, Cond.static yX12_in, Cond.initialized RX12, Cond.fieldLink RX12 131 "SpellTurnerModel" "text" "[B", Cond.code yX12_in cX12_in 3 (some .boolean)]
def vmX12_written : List Cond := veX12_written ++ wsX120
def veX12_counted : List Cond := [Cond.code yX12_counted cX12_counted 2 (some .int), Cond.fieldLink RX12 364 "SpellTurnerModel" "hasText" "Z", Cond.methodLink RX12 226 yX12_in, Cond.static yX12_in, Cond.initialized RX12, Cond.fieldLink RX12 137 "SpellTurnerModel" "counts" "[I", Cond.code yX12_in cX12_in 3 (some .boolean)]
def vmX12_counted : List Cond := veX12_counted ++ wsX120
def veX12_line : List Cond := [Cond.code yX12_line cX12_line 2 (some .int), Cond.fieldLink RX12 374 "SpellTurnerModel" "lines" "I", Cond.methodLink RX12 226 yX12_in, Cond.static yX12_in, Cond.initialized RX12, Cond.fieldLink RX12 149 "SpellTurnerModel" "stageOf" "[I", Cond.code yX12_in cX12_in 3 (some .boolean)]
def vmX12_line : List Cond := veX12_line ++ wsX120
def veX12_count : List Cond := [Cond.code yX12_count cX12_count 2 (some .int), Cond.fieldLink RX12 152 "SpellTurnerModel" "taped" "I", Cond.fieldLink RX12 312 "SpellTurnerModel" "words" "I", Cond.fieldLink RX12 222 "SpellTurnerModel" "reforms" "I"]
def vmX12_count : List Cond := veX12_count ++ wsX120
def veX12_isName : List Cond := [Cond.code yX12_isName cX12_isName 4 (some .boolean), Cond.fieldLink RX12 7 "SpellTurnerModel" "tape" "[B", Cond.methodLink RX12 183 yX12_isSmall, Cond.static yX12_isSmall, Cond.initialized RX12, Cond.code yX12_isSmall cX12_isSmall 1 (some .boolean)]
def vmX12_isName : List Cond := veX12_isName ++ wsX120
def veX12_quoted : List Cond := [Cond.code yX12_quoted cX12_quoted 4 (some .int), Cond.fieldLink RX12 7 "SpellTurnerModel" "tape" "[B"]
def vmX12_quoted : List Cond := veX12_quoted ++ wsX120
def veX12_isWordPart : List Cond := [Cond.code yX12_isWordPart cX12_isWordPart 7 (some .boolean), Cond.fieldLink RX12 24 "SpellTurnerModel" "parts" "[I", Cond.fieldLink RX12 46 "SpellTurnerModel" "partSize" "[I", Cond.fieldLink RX12 43 "SpellTurnerModel" "partText" "[B", Cond.fieldLink RX12 55 "SpellTurnerModel" "word" "[B"]
def vmX12_isWordPart : List Cond := veX12_isWordPart ++ wsX120
def veX12_takeWord : List Cond := [Cond.code yX12_takeWord cX12_takeWord 5 none, Cond.fieldLink RX12 244 "SpellTurnerModel" "letters" "I", Cond.fieldLink RX12 55 "SpellTurnerModel" "word" "[B"]
def vmX12_takeWord : List Cond := veX12_takeWord ++ wsX120
def veX12_readWord : List Cond := [Cond.code yX12_readWord cX12_readWord 3 (some .boolean), Cond.fieldLink RX12 152 "SpellTurnerModel" "taped" "I", Cond.methodLink RX12 226 yX12_in, Cond.static yX12_in, Cond.initialized RX12, Cond.fieldLink RX12 7 "SpellTurnerModel" "tape" "[B", Cond.methodLink RX12 290 yX12_takeWord, Cond.instanceMethod yX12_takeWord, Cond.selects RX12 yX12_takeWord yX12_takeWord, Cond.methodLink RX12 183 yX12_isSmall, Cond.static yX12_isSmall, Cond.code yX12_in cX12_in 3 (some .boolean), Cond.code yX12_takeWord cX12_takeWord 5 none, Cond.fieldLink RX12 244 "SpellTurnerModel" "letters" "I", Cond.fieldLink RX12 55 "SpellTurnerModel" "word" "[B", Cond.code yX12_isSmall cX12_isSmall 1 (some .boolean)]
def vmX12_readWord : List Cond := veX12_readWord ++ wsX120
def veX12_write1 : List Cond := [Cond.code yX12_write1 cX12_write1 5 (some .boolean), Cond.fieldLink RX12 337 "SpellTurnerModel" "drafted" "I", Cond.fieldLink RX12 134 "SpellTurnerModel" "draft" "[B"]
def vmX12_write1 : List Cond := veX12_write1 ++ wsX120
def veX12_sameBytes : List Cond := [Cond.code yX12_sameBytes cX12_sameBytes 7 (some .boolean)]
def vmX12_sameBytes : List Cond := veX12_sameBytes ++ wsX120
def veX12_hasForm : List Cond := [Cond.code yX12_hasForm cX12_hasForm 7 (some .boolean), Cond.fieldLink RX12 119 "SpellTurnerModel" "formMany" "[I", Cond.fieldLink RX12 113 "SpellTurnerModel" "formText" "[B", Cond.fieldLink RX12 116 "SpellTurnerModel" "formSize" "[I", Cond.methodLink RX12 273 yX12_sameBytes, Cond.static yX12_sameBytes, Cond.initialized RX12, Cond.code yX12_sameBytes cX12_sameBytes 7 (some .boolean)]
def vmX12_hasForm : List Cond := veX12_hasForm ++ wsX120
def veX12_isKnown : List Cond := [Cond.code yX12_isKnown cX12_isKnown 5 (some .boolean), Cond.fieldLink RX12 312 "SpellTurnerModel" "words" "I", Cond.fieldLink RX12 7 "SpellTurnerModel" "tape" "[B", Cond.methodLink RX12 321 yX12_hasForm, Cond.instanceMethod yX12_hasForm, Cond.selects RX12 yX12_hasForm yX12_hasForm, Cond.initialized RX12, Cond.code yX12_hasForm cX12_hasForm 7 (some .boolean), Cond.fieldLink RX12 119 "SpellTurnerModel" "formMany" "[I", Cond.fieldLink RX12 113 "SpellTurnerModel" "formText" "[B", Cond.fieldLink RX12 116 "SpellTurnerModel" "formSize" "[I", Cond.methodLink RX12 273 yX12_sameBytes, Cond.static yX12_sameBytes, Cond.code yX12_sameBytes cX12_sameBytes 7 (some .boolean)]
def vmX12_isKnown : List Cond := veX12_isKnown ++ wsX120
def veX12_stands : List Cond := [Cond.code yX12_stands cX12_stands 6 (some .boolean), Cond.fieldLink RX12 33 "SpellTurnerModel" "lawSize" "[I", Cond.fieldLink RX12 30 "SpellTurnerModel" "lawText" "[B"]
def vmX12_stands : List Cond := veX12_stands ++ wsX120
def veX12_same : List Cond := [Cond.code yX12_same cX12_same 5 (some .boolean)]
def vmX12_same : List Cond := veX12_same ++ wsX120
set_option maxRecDepth 100000 in
theorem vm_X12_isLetter_X12_isSmall : GoodIn vmX12_isLetter vmX12_isSmall := goodIn_app (goodIn_r (big := vmX12_isLetter) veX12_isSmall [4] (by decide +kernel) (by decide +kernel)) (gb_X12 (fun _ h => List.mem_append_right _ h))
theorem gw_X12_isLetter_X12_isSmall_183 : GoodIn vmX12_isLetter (va_wsS RX12 183 yX12_isSmall vmX12_isSmall) := goodIn_app (goodIn_r (big := vmX12_isLetter) _ [1, 2, 3] (by decide +kernel) (by decide +kernel)) vm_X12_isLetter_X12_isSmall
set_option maxRecDepth 100000 in
theorem vm_X12_isStage_X12_in : GoodIn vmX12_isStage vmX12_in := goodIn_app (goodIn_r (big := vmX12_isStage) veX12_in [5] (by decide +kernel) (by decide +kernel)) (gb_X12 (fun _ h => List.mem_append_right _ h))
theorem gw_X12_isStage_X12_in_226 : GoodIn vmX12_isStage (va_wsS RX12 226 yX12_in vmX12_in) := goodIn_app (goodIn_r (big := vmX12_isStage) _ [2, 3, 4] (by decide +kernel) (by decide +kernel)) vm_X12_isStage_X12_in
set_option maxRecDepth 100000 in
theorem vm_X12_stage_X12_in : GoodIn vmX12_stage vmX12_in := goodIn_app (goodIn_r (big := vmX12_stage) veX12_in [7] (by decide +kernel) (by decide +kernel)) (gb_X12 (fun _ h => List.mem_append_right _ h))
theorem gw_X12_stage_X12_in_226 : GoodIn vmX12_stage (va_wsS RX12 226 yX12_in vmX12_in) := goodIn_app (goodIn_r (big := vmX12_stage) _ [2, 3, 4] (by decide +kernel) (by decide +kernel)) vm_X12_stage_X12_in
set_option maxRecDepth 100000 in
theorem vm_X12_about_X12_in : GoodIn vmX12_about vmX12_in := goodIn_app (goodIn_r (big := vmX12_about) veX12_in [10] (by decide +kernel) (by decide +kernel)) (gb_X12 (fun _ h => List.mem_append_right _ h))
theorem gw_X12_about_X12_in_226 : GoodIn vmX12_about (va_wsS RX12 226 yX12_in vmX12_in) := goodIn_app (goodIn_r (big := vmX12_about) _ [2, 3, 4] (by decide +kernel) (by decide +kernel)) vm_X12_about_X12_in
set_option maxRecDepth 100000 in
theorem vm_X12_form_X12_in : GoodIn vmX12_form vmX12_in := goodIn_app (goodIn_r (big := vmX12_form) veX12_in [7] (by decide +kernel) (by decide +kernel)) (gb_X12 (fun _ h => List.mem_append_right _ h))
theorem gw_X12_form_X12_in_226 : GoodIn vmX12_form (va_wsS RX12 226 yX12_in vmX12_in) := goodIn_app (goodIn_r (big := vmX12_form) _ [2, 3, 4] (by decide +kernel) (by decide +kernel)) vm_X12_form_X12_in
set_option maxRecDepth 100000 in
theorem vm_X12_parting_X12_in : GoodIn vmX12_parting vmX12_in := goodIn_app (goodIn_r (big := vmX12_parting) veX12_in [7] (by decide +kernel) (by decide +kernel)) (gb_X12 (fun _ h => List.mem_append_right _ h))
theorem gw_X12_parting_X12_in_226 : GoodIn vmX12_parting (va_wsS RX12 226 yX12_in vmX12_in) := goodIn_app (goodIn_r (big := vmX12_parting) _ [2, 3, 4] (by decide +kernel) (by decide +kernel)) vm_X12_parting_X12_in
set_option maxRecDepth 100000 in
theorem vm_X12_word_X12_in : GoodIn vmX12_word vmX12_in := goodIn_app (goodIn_r (big := vmX12_word) veX12_in [7] (by decide +kernel) (by decide +kernel)) (gb_X12 (fun _ h => List.mem_append_right _ h))
theorem gw_X12_word_X12_in_226 : GoodIn vmX12_word (va_wsS RX12 226 yX12_in vmX12_in) := goodIn_app (goodIn_r (big := vmX12_word) _ [2, 3, 4] (by decide +kernel) (by decide +kernel)) vm_X12_word_X12_in
set_option maxRecDepth 100000 in
theorem vm_X12_old_X12_in : GoodIn vmX12_old vmX12_in := goodIn_app (goodIn_r (big := vmX12_old) veX12_in [6] (by decide +kernel) (by decide +kernel)) (gb_X12 (fun _ h => List.mem_append_right _ h))
theorem gw_X12_old_X12_in_226 : GoodIn vmX12_old (va_wsS RX12 226 yX12_in vmX12_in) := goodIn_app (goodIn_r (big := vmX12_old) _ [2, 3, 4] (by decide +kernel) (by decide +kernel)) vm_X12_old_X12_in
set_option maxRecDepth 100000 in
theorem vm_X12_collision_X12_in : GoodIn vmX12_collision vmX12_in := goodIn_app (goodIn_r (big := vmX12_collision) veX12_in [6] (by decide +kernel) (by decide +kernel)) (gb_X12 (fun _ h => List.mem_append_right _ h))
theorem gw_X12_collision_X12_in_226 : GoodIn vmX12_collision (va_wsS RX12 226 yX12_in vmX12_in) := goodIn_app (goodIn_r (big := vmX12_collision) _ [2, 3, 4] (by decide +kernel) (by decide +kernel)) vm_X12_collision_X12_in
set_option maxRecDepth 100000 in
theorem vm_X12_written_X12_in : GoodIn vmX12_written vmX12_in := goodIn_app (goodIn_r (big := vmX12_written) veX12_in [6] (by decide +kernel) (by decide +kernel)) (gb_X12 (fun _ h => List.mem_append_right _ h))
theorem gw_X12_written_X12_in_226 : GoodIn vmX12_written (va_wsS RX12 226 yX12_in vmX12_in) := goodIn_app (goodIn_r (big := vmX12_written) _ [2, 3, 4] (by decide +kernel) (by decide +kernel)) vm_X12_written_X12_in
set_option maxRecDepth 100000 in
theorem vm_X12_counted_X12_in : GoodIn vmX12_counted vmX12_in := goodIn_app (goodIn_r (big := vmX12_counted) veX12_in [6] (by decide +kernel) (by decide +kernel)) (gb_X12 (fun _ h => List.mem_append_right _ h))
theorem gw_X12_counted_X12_in_226 : GoodIn vmX12_counted (va_wsS RX12 226 yX12_in vmX12_in) := goodIn_app (goodIn_r (big := vmX12_counted) _ [2, 3, 4] (by decide +kernel) (by decide +kernel)) vm_X12_counted_X12_in
set_option maxRecDepth 100000 in
theorem vm_X12_line_X12_in : GoodIn vmX12_line vmX12_in := goodIn_app (goodIn_r (big := vmX12_line) veX12_in [6] (by decide +kernel) (by decide +kernel)) (gb_X12 (fun _ h => List.mem_append_right _ h))
theorem gw_X12_line_X12_in_226 : GoodIn vmX12_line (va_wsS RX12 226 yX12_in vmX12_in) := goodIn_app (goodIn_r (big := vmX12_line) _ [2, 3, 4] (by decide +kernel) (by decide +kernel)) vm_X12_line_X12_in
set_option maxRecDepth 100000 in
theorem vm_X12_isName_X12_isSmall : GoodIn vmX12_isName vmX12_isSmall := goodIn_app (goodIn_r (big := vmX12_isName) veX12_isSmall [5] (by decide +kernel) (by decide +kernel)) (gb_X12 (fun _ h => List.mem_append_right _ h))
theorem gw_X12_isName_X12_isSmall_183 : GoodIn vmX12_isName (va_wsS RX12 183 yX12_isSmall vmX12_isSmall) := goodIn_app (goodIn_r (big := vmX12_isName) _ [2, 3, 4] (by decide +kernel) (by decide +kernel)) vm_X12_isName_X12_isSmall
set_option maxRecDepth 100000 in
theorem vm_X12_readWord_X12_in : GoodIn vmX12_readWord vmX12_in := goodIn_app (goodIn_r (big := vmX12_readWord) veX12_in [11] (by decide +kernel) (by decide +kernel)) (gb_X12 (fun _ h => List.mem_append_right _ h))
theorem gw_X12_readWord_X12_in_226 : GoodIn vmX12_readWord (va_wsS RX12 226 yX12_in vmX12_in) := goodIn_app (goodIn_r (big := vmX12_readWord) _ [2, 3, 4] (by decide +kernel) (by decide +kernel)) vm_X12_readWord_X12_in
set_option maxRecDepth 100000 in
theorem vm_X12_readWord_X12_takeWord : GoodIn vmX12_readWord vmX12_takeWord := goodIn_app (goodIn_r (big := vmX12_readWord) veX12_takeWord [12, 13, 14] (by decide +kernel) (by decide +kernel)) (gb_X12 (fun _ h => List.mem_append_right _ h))
theorem gw_X12_readWord_X12_takeWord_290 : GoodIn vmX12_readWord (wsV RX12 290 RX12 yX12_takeWord vmX12_takeWord) := goodIn_app (goodIn_r (big := vmX12_readWord) _ [6, 7, 8, 4] (by decide +kernel) (by decide +kernel)) vm_X12_readWord_X12_takeWord
set_option maxRecDepth 100000 in
theorem vm_X12_readWord_X12_isSmall : GoodIn vmX12_readWord vmX12_isSmall := goodIn_app (goodIn_r (big := vmX12_readWord) veX12_isSmall [15] (by decide +kernel) (by decide +kernel)) (gb_X12 (fun _ h => List.mem_append_right _ h))
theorem gw_X12_readWord_X12_isSmall_183 : GoodIn vmX12_readWord (va_wsS RX12 183 yX12_isSmall vmX12_isSmall) := goodIn_app (goodIn_r (big := vmX12_readWord) _ [9, 10, 4] (by decide +kernel) (by decide +kernel)) vm_X12_readWord_X12_isSmall
set_option maxRecDepth 100000 in
theorem vm_X12_hasForm_X12_sameBytes : GoodIn vmX12_hasForm vmX12_sameBytes := goodIn_app (goodIn_r (big := vmX12_hasForm) veX12_sameBytes [7] (by decide +kernel) (by decide +kernel)) (gb_X12 (fun _ h => List.mem_append_right _ h))
theorem gw_X12_hasForm_X12_sameBytes_273 : GoodIn vmX12_hasForm (va_wsS RX12 273 yX12_sameBytes vmX12_sameBytes) := goodIn_app (goodIn_r (big := vmX12_hasForm) _ [4, 5, 6] (by decide +kernel) (by decide +kernel)) vm_X12_hasForm_X12_sameBytes
set_option maxRecDepth 100000 in
theorem vm_X12_isKnown_X12_hasForm : GoodIn vmX12_isKnown vmX12_hasForm := goodIn_app (goodIn_r (big := vmX12_isKnown) veX12_hasForm [7, 8, 9, 10, 11, 12, 6, 13] (by decide +kernel) (by decide +kernel)) (gb_X12 (fun _ h => List.mem_append_right _ h))
theorem gw_X12_isKnown_X12_hasForm_321 : GoodIn vmX12_isKnown (wsV RX12 321 RX12 yX12_hasForm vmX12_hasForm) := goodIn_app (goodIn_r (big := vmX12_isKnown) _ [3, 4, 5, 6] (by decide +kernel) (by decide +kernel)) vm_X12_isKnown_X12_hasForm
theorem dX12_isSmall_0 : decode cX12_isSmall 0 = .ok (.iload_n 0, 1) := by decide +kernel
theorem dX12_isSmall_1 : decode cX12_isSmall 1 = .ok (.bipush 97, 2) := by decide +kernel
theorem dX12_isSmall_3 : decode cX12_isSmall 3 = .ok (.if_icmp .lt 13, 3) := by decide +kernel
theorem dX12_isSmall_6 : decode cX12_isSmall 6 = .ok (.iload_n 0, 1) := by decide +kernel
theorem dX12_isSmall_7 : decode cX12_isSmall 7 = .ok (.bipush 122, 2) := by decide +kernel
theorem dX12_isSmall_9 : decode cX12_isSmall 9 = .ok (.if_icmp .gt 7, 3) := by decide +kernel
theorem dX12_isSmall_12 : decode cX12_isSmall 12 = .ok (.iconst 1, 1) := by decide +kernel
theorem dX12_isSmall_13 : decode cX12_isSmall 13 = .ok (.goto 4, 3) := by decide +kernel
theorem dX12_isSmall_16 : decode cX12_isSmall 16 = .ok (.iconst 0, 1) := by decide +kernel
theorem dX12_isSmall_17 : decode cX12_isSmall 17 = .ok (.ireturn, 1) := by decide +kernel
theorem dX12_feed_13 : decode cX12_feed 13 = .ok (.bipush (-3), 2) := by decide +kernel
theorem dX12_feed_15 : decode cX12_feed 15 = .ok (.ireturn, 1) := by decide +kernel
theorem dX12_see_8 : decode cX12_see 8 = .ok (.aload_n 0, 1) := by decide +kernel
theorem dX12_see_9 : decode cX12_see 9 = .ok (.getfield 7, 3) := by decide +kernel
theorem dX12_see_12 : decode cX12_see 12 = .ok (.iload_n 1, 1) := by decide +kernel
theorem dX12_see_13 : decode cX12_see 13 = .ok (.baload, 1) := by decide +kernel
theorem dX12_see_14 : decode cX12_see 14 = .ok (.sipush 255, 3) := by decide +kernel
theorem dX12_see_17 : decode cX12_see 17 = .ok (.iand, 1) := by decide +kernel
theorem dX12_see_18 : decode cX12_see 18 = .ok (.goto 4, 3) := by decide +kernel
theorem dX12_wrong_0 : decode cX12_wrong 0 = .ok (.aload_n 0, 1) := by decide +kernel
theorem dX12_wrong_1 : decode cX12_wrong 1 = .ok (.iload_n 1, 1) := by decide +kernel
theorem dX12_wrong_2 : decode cX12_wrong 2 = .ok (.putfield 194, 3) := by decide +kernel
theorem dX12_wrong_5 : decode cX12_wrong 5 = .ok (.aload_n 0, 1) := by decide +kernel
theorem dX12_wrong_6 : decode cX12_wrong 6 = .ok (.aload_n 0, 1) := by decide +kernel
theorem dX12_wrong_7 : decode cX12_wrong 7 = .ok (.getfield 177, 3) := by decide +kernel
theorem dX12_wrong_10 : decode cX12_wrong 10 = .ok (.putfield 13, 3) := by decide +kernel
theorem dX12_wrong_13 : decode cX12_wrong 13 = .ok (.iconst 0, 1) := by decide +kernel
theorem dX12_wrong_14 : decode cX12_wrong 14 = .ok (.ireturn, 1) := by decide +kernel
theorem dX12_same_0 : decode cX12_same 0 = .ok (.aload_n 1, 1) := by decide +kernel
theorem dX12_same_1 : decode cX12_same 1 = .ok (.iload_n 2, 1) := by decide +kernel
theorem dX12_same_2 : decode cX12_same 2 = .ok (.iaload, 1) := by decide +kernel
theorem dX12_same_3 : decode cX12_same 3 = .ok (.aload_n 1, 1) := by decide +kernel
theorem dX12_same_4 : decode cX12_same 4 = .ok (.iload_n 3, 1) := by decide +kernel
theorem dX12_same_5 : decode cX12_same 5 = .ok (.iaload, 1) := by decide +kernel
theorem dX12_same_6 : decode cX12_same 6 = .ok (.if_icmp .eq 5, 3) := by decide +kernel
theorem dX12_same_9 : decode cX12_same 9 = .ok (.iconst 0, 1) := by decide +kernel
theorem dX12_same_10 : decode cX12_same 10 = .ok (.ireturn, 1) := by decide +kernel
theorem dX12_same_11 : decode cX12_same 11 = .ok (.iconst 0, 1) := by decide +kernel
theorem dX12_same_12 : decode cX12_same 12 = .ok (.istore 4, 2) := by decide +kernel
theorem dX12_same_14 : decode cX12_same 14 = .ok (.iload 4, 2) := by decide +kernel
theorem dX12_same_16 : decode cX12_same 16 = .ok (.aload_n 1, 1) := by decide +kernel
theorem dX12_same_17 : decode cX12_same 17 = .ok (.iload_n 2, 1) := by decide +kernel
theorem dX12_same_18 : decode cX12_same 18 = .ok (.iaload, 1) := by decide +kernel
theorem dX12_same_19 : decode cX12_same 19 = .ok (.if_icmp .ge 32, 3) := by decide +kernel
theorem dX12_same_22 : decode cX12_same 22 = .ok (.aload_n 0, 1) := by decide +kernel
theorem dX12_same_23 : decode cX12_same 23 = .ok (.bipush 16, 2) := by decide +kernel
theorem dX12_same_25 : decode cX12_same 25 = .ok (.iload_n 2, 1) := by decide +kernel
theorem dX12_same_26 : decode cX12_same 26 = .ok (.imul, 1) := by decide +kernel
theorem dX12_same_27 : decode cX12_same 27 = .ok (.iload 4, 2) := by decide +kernel
theorem dX12_same_29 : decode cX12_same 29 = .ok (.iadd, 1) := by decide +kernel
theorem dX12_same_30 : decode cX12_same 30 = .ok (.baload, 1) := by decide +kernel
theorem dX12_same_31 : decode cX12_same 31 = .ok (.aload_n 0, 1) := by decide +kernel
theorem dX12_same_32 : decode cX12_same 32 = .ok (.bipush 16, 2) := by decide +kernel
theorem dX12_same_34 : decode cX12_same 34 = .ok (.iload_n 3, 1) := by decide +kernel
theorem dX12_same_35 : decode cX12_same 35 = .ok (.imul, 1) := by decide +kernel
theorem dX12_same_36 : decode cX12_same 36 = .ok (.iload 4, 2) := by decide +kernel
theorem dX12_same_38 : decode cX12_same 38 = .ok (.iadd, 1) := by decide +kernel
theorem dX12_same_39 : decode cX12_same 39 = .ok (.baload, 1) := by decide +kernel
theorem dX12_same_40 : decode cX12_same 40 = .ok (.if_icmp .eq 5, 3) := by decide +kernel
theorem dX12_same_43 : decode cX12_same 43 = .ok (.iconst 0, 1) := by decide +kernel
theorem dX12_same_44 : decode cX12_same 44 = .ok (.ireturn, 1) := by decide +kernel
theorem dX12_same_45 : decode cX12_same 45 = .ok (.iinc 4 1, 3) := by decide +kernel
theorem dX12_same_48 : decode cX12_same 48 = .ok (.goto (-34), 3) := by decide +kernel
theorem dX12_same_51 : decode cX12_same 51 = .ok (.iconst 1, 1) := by decide +kernel
theorem dX12_same_52 : decode cX12_same 52 = .ok (.ireturn, 1) := by decide +kernel
theorem dX12_about_16 : decode cX12_about 16 = .ok (.iconst 0, 1) := by decide +kernel
theorem dX12_about_17 : decode cX12_about 17 = .ok (.istore_n 3, 1) := by decide +kernel
theorem dX12_about_18 : decode cX12_about 18 = .ok (.iconst 0, 1) := by decide +kernel
theorem dX12_about_19 : decode cX12_about 19 = .ok (.istore 4, 2) := by decide +kernel
theorem dX12_about_21 : decode cX12_about 21 = .ok (.iload 4, 2) := by decide +kernel
theorem dX12_about_23 : decode cX12_about 23 = .ok (.aload_n 0, 1) := by decide +kernel
theorem dX12_about_24 : decode cX12_about 24 = .ok (.getfield 27, 3) := by decide +kernel
theorem dX12_about_27 : decode cX12_about 27 = .ok (.iload_n 1, 1) := by decide +kernel
theorem dX12_about_28 : decode cX12_about 28 = .ok (.iaload, 1) := by decide +kernel
theorem dX12_about_29 : decode cX12_about 29 = .ok (.if_icmp .ge 37, 3) := by decide +kernel
theorem dX12_about_32 : decode cX12_about 32 = .ok (.iload_n 3, 1) := by decide +kernel
theorem dX12_about_33 : decode cX12_about 33 = .ok (.aload_n 0, 1) := by decide +kernel
theorem dX12_about_34 : decode cX12_about 34 = .ok (.getfield 52, 3) := by decide +kernel
theorem dX12_about_37 : decode cX12_about 37 = .ok (.iconst 2, 1) := by decide +kernel
theorem dX12_about_38 : decode cX12_about 38 = .ok (.bipush 40, 2) := by decide +kernel
theorem dX12_about_40 : decode cX12_about 40 = .ok (.iload_n 1, 1) := by decide +kernel
theorem dX12_about_41 : decode cX12_about 41 = .ok (.imul, 1) := by decide +kernel
theorem dX12_about_42 : decode cX12_about 42 = .ok (.iload 4, 2) := by decide +kernel
theorem dX12_about_44 : decode cX12_about 44 = .ok (.iadd, 1) := by decide +kernel
theorem dX12_about_45 : decode cX12_about 45 = .ok (.imul, 1) := by decide +kernel
theorem dX12_about_46 : decode cX12_about 46 = .ok (.iconst 1, 1) := by decide +kernel
theorem dX12_about_47 : decode cX12_about 47 = .ok (.iadd, 1) := by decide +kernel
theorem dX12_about_48 : decode cX12_about 48 = .ok (.iaload, 1) := by decide +kernel
theorem dX12_about_49 : decode cX12_about 49 = .ok (.iconst (-1), 1) := by decide +kernel
theorem dX12_about_50 : decode cX12_about 50 = .ok (.if_icmp .ne 7, 3) := by decide +kernel
theorem dX12_about_53 : decode cX12_about 53 = .ok (.iconst 1, 1) := by decide +kernel
theorem dX12_about_54 : decode cX12_about 54 = .ok (.goto 4, 3) := by decide +kernel
theorem dX12_about_57 : decode cX12_about 57 = .ok (.iconst 0, 1) := by decide +kernel
theorem dX12_about_58 : decode cX12_about 58 = .ok (.iadd, 1) := by decide +kernel
theorem dX12_about_59 : decode cX12_about 59 = .ok (.istore_n 3, 1) := by decide +kernel
theorem dX12_about_60 : decode cX12_about 60 = .ok (.iinc 4 1, 3) := by decide +kernel
theorem dX12_about_63 : decode cX12_about 63 = .ok (.goto (-42), 3) := by decide +kernel
theorem dX12_about_66 : decode cX12_about 66 = .ok (.iload_n 2, 1) := by decide +kernel
theorem dX12_about_67 : decode cX12_about 67 = .ok (.tableswitch 65 0 4 #[33, 40, 47, 54, 56], 33) := by decide +kernel
theorem dX12_about_100 : decode cX12_about 100 = .ok (.aload_n 0, 1) := by decide +kernel
theorem dX12_about_101 : decode cX12_about 101 = .ok (.getfield 17, 3) := by decide +kernel
theorem dX12_about_104 : decode cX12_about 104 = .ok (.iload_n 1, 1) := by decide +kernel
theorem dX12_about_105 : decode cX12_about 105 = .ok (.iaload, 1) := by decide +kernel
theorem dX12_about_106 : decode cX12_about 106 = .ok (.ireturn, 1) := by decide +kernel
theorem dX12_about_107 : decode cX12_about 107 = .ok (.aload_n 0, 1) := by decide +kernel
theorem dX12_about_108 : decode cX12_about 108 = .ok (.getfield 21, 3) := by decide +kernel
theorem dX12_about_111 : decode cX12_about 111 = .ok (.iload_n 1, 1) := by decide +kernel
theorem dX12_about_112 : decode cX12_about 112 = .ok (.iaload, 1) := by decide +kernel
theorem dX12_about_113 : decode cX12_about 113 = .ok (.ireturn, 1) := by decide +kernel
theorem dX12_about_114 : decode cX12_about 114 = .ok (.aload_n 0, 1) := by decide +kernel
theorem dX12_about_115 : decode cX12_about 115 = .ok (.getfield 24, 3) := by decide +kernel
theorem dX12_about_118 : decode cX12_about 118 = .ok (.iload_n 1, 1) := by decide +kernel
theorem dX12_about_119 : decode cX12_about 119 = .ok (.iaload, 1) := by decide +kernel
theorem dX12_about_120 : decode cX12_about 120 = .ok (.ireturn, 1) := by decide +kernel
theorem dX12_about_121 : decode cX12_about 121 = .ok (.iload_n 3, 1) := by decide +kernel
theorem dX12_about_122 : decode cX12_about 122 = .ok (.ireturn, 1) := by decide +kernel
theorem dX12_about_123 : decode cX12_about 123 = .ok (.aload_n 0, 1) := by decide +kernel
theorem dX12_about_124 : decode cX12_about 124 = .ok (.getfield 27, 3) := by decide +kernel
theorem dX12_about_127 : decode cX12_about 127 = .ok (.iload_n 1, 1) := by decide +kernel
theorem dX12_about_128 : decode cX12_about 128 = .ok (.iaload, 1) := by decide +kernel
theorem dX12_about_129 : decode cX12_about 129 = .ok (.iload_n 3, 1) := by decide +kernel
theorem dX12_about_130 : decode cX12_about 130 = .ok (.isub, 1) := by decide +kernel
theorem dX12_about_131 : decode cX12_about 131 = .ok (.ireturn, 1) := by decide +kernel
theorem dX12_about_132 : decode cX12_about 132 = .ok (.iconst (-1), 1) := by decide +kernel
theorem dX12_about_133 : decode cX12_about 133 = .ok (.ireturn, 1) := by decide +kernel
theorem dX12_stage_25 : decode cX12_stage 25 = .ok (.iload_n 2, 1) := by decide +kernel
theorem dX12_stage_26 : decode cX12_stage 26 = .ok (.aload_n 0, 1) := by decide +kernel
theorem dX12_stage_27 : decode cX12_stage 27 = .ok (.getfield 17, 3) := by decide +kernel
theorem dX12_stage_30 : decode cX12_stage 30 = .ok (.iload_n 3, 1) := by decide +kernel
theorem dX12_stage_31 : decode cX12_stage 31 = .ok (.iaload, 1) := by decide +kernel
theorem dX12_stage_32 : decode cX12_stage 32 = .ok (.iload_n 1, 1) := by decide +kernel
theorem dX12_stage_33 : decode cX12_stage 33 = .ok (.if_icmp .gt 7, 3) := by decide +kernel
theorem dX12_stage_36 : decode cX12_stage 36 = .ok (.iconst 1, 1) := by decide +kernel
theorem dX12_stage_37 : decode cX12_stage 37 = .ok (.goto 4, 3) := by decide +kernel
theorem dX12_stage_40 : decode cX12_stage 40 = .ok (.iconst 0, 1) := by decide +kernel
theorem dX12_stage_41 : decode cX12_stage 41 = .ok (.iadd, 1) := by decide +kernel
theorem dX12_stage_42 : decode cX12_stage 42 = .ok (.istore_n 2, 1) := by decide +kernel
theorem dX12_stage_43 : decode cX12_stage 43 = .ok (.iinc 3 1, 3) := by decide +kernel
theorem dX12_stage_46 : decode cX12_stage 46 = .ok (.goto (-29), 3) := by decide +kernel
theorem dX12_isWordPart_0 : decode cX12_isWordPart 0 = .ok (.bipush 40, 2) := by decide +kernel
theorem dX12_isWordPart_2 : decode cX12_isWordPart 2 = .ok (.iload_n 1, 1) := by decide +kernel
theorem dX12_isWordPart_3 : decode cX12_isWordPart 3 = .ok (.imul, 1) := by decide +kernel
theorem dX12_isWordPart_4 : decode cX12_isWordPart 4 = .ok (.istore 4, 2) := by decide +kernel
theorem dX12_isWordPart_6 : decode cX12_isWordPart 6 = .ok (.iload 4, 2) := by decide +kernel
theorem dX12_isWordPart_8 : decode cX12_isWordPart 8 = .ok (.bipush 40, 2) := by decide +kernel
theorem dX12_isWordPart_10 : decode cX12_isWordPart 10 = .ok (.iload_n 1, 1) := by decide +kernel
theorem dX12_isWordPart_11 : decode cX12_isWordPart 11 = .ok (.imul, 1) := by decide +kernel
theorem dX12_isWordPart_12 : decode cX12_isWordPart 12 = .ok (.aload_n 0, 1) := by decide +kernel
theorem dX12_isWordPart_13 : decode cX12_isWordPart 13 = .ok (.getfield 24, 3) := by decide +kernel
theorem dX12_isWordPart_16 : decode cX12_isWordPart 16 = .ok (.iload_n 1, 1) := by decide +kernel
theorem dX12_isWordPart_17 : decode cX12_isWordPart 17 = .ok (.iaload, 1) := by decide +kernel
theorem dX12_isWordPart_18 : decode cX12_isWordPart 18 = .ok (.iadd, 1) := by decide +kernel
theorem dX12_isWordPart_19 : decode cX12_isWordPart 19 = .ok (.if_icmp .ge 85, 3) := by decide +kernel
theorem dX12_isWordPart_22 : decode cX12_isWordPart 22 = .ok (.aload_n 0, 1) := by decide +kernel
theorem dX12_isWordPart_23 : decode cX12_isWordPart 23 = .ok (.getfield 46, 3) := by decide +kernel
theorem dX12_isWordPart_26 : decode cX12_isWordPart 26 = .ok (.iload 4, 2) := by decide +kernel
theorem dX12_isWordPart_28 : decode cX12_isWordPart 28 = .ok (.iaload, 1) := by decide +kernel
theorem dX12_isWordPart_29 : decode cX12_isWordPart 29 = .ok (.iload_n 3, 1) := by decide +kernel
theorem dX12_isWordPart_30 : decode cX12_isWordPart 30 = .ok (.if_icmp .eq 6, 3) := by decide +kernel
theorem dX12_isWordPart_33 : decode cX12_isWordPart 33 = .ok (.goto 65, 3) := by decide +kernel
theorem dX12_isWordPart_36 : decode cX12_isWordPart 36 = .ok (.iconst 1, 1) := by decide +kernel
theorem dX12_isWordPart_37 : decode cX12_isWordPart 37 = .ok (.istore 5, 2) := by decide +kernel
theorem dX12_isWordPart_39 : decode cX12_isWordPart 39 = .ok (.iconst 0, 1) := by decide +kernel
theorem dX12_isWordPart_40 : decode cX12_isWordPart 40 = .ok (.istore 6, 2) := by decide +kernel
theorem dX12_isWordPart_42 : decode cX12_isWordPart 42 = .ok (.iload 6, 2) := by decide +kernel
theorem dX12_isWordPart_44 : decode cX12_isWordPart 44 = .ok (.iload_n 3, 1) := by decide +kernel
theorem dX12_isWordPart_45 : decode cX12_isWordPart 45 = .ok (.if_icmp .ge 46, 3) := by decide +kernel
theorem dX12_isWordPart_48 : decode cX12_isWordPart 48 = .ok (.iload 5, 2) := by decide +kernel
theorem dX12_isWordPart_50 : decode cX12_isWordPart 50 = .ok (.ifCond .eq 41, 3) := by decide +kernel
theorem dX12_isWordPart_53 : decode cX12_isWordPart 53 = .ok (.aload_n 0, 1) := by decide +kernel
theorem dX12_isWordPart_54 : decode cX12_isWordPart 54 = .ok (.getfield 43, 3) := by decide +kernel
theorem dX12_isWordPart_57 : decode cX12_isWordPart 57 = .ok (.bipush 16, 2) := by decide +kernel
theorem dX12_isWordPart_59 : decode cX12_isWordPart 59 = .ok (.iload 4, 2) := by decide +kernel
theorem dX12_isWordPart_61 : decode cX12_isWordPart 61 = .ok (.imul, 1) := by decide +kernel
theorem dX12_isWordPart_62 : decode cX12_isWordPart 62 = .ok (.iload 6, 2) := by decide +kernel
theorem dX12_isWordPart_64 : decode cX12_isWordPart 64 = .ok (.iadd, 1) := by decide +kernel
theorem dX12_isWordPart_65 : decode cX12_isWordPart 65 = .ok (.baload, 1) := by decide +kernel
theorem dX12_isWordPart_66 : decode cX12_isWordPart 66 = .ok (.aload_n 0, 1) := by decide +kernel
theorem dX12_isWordPart_67 : decode cX12_isWordPart 67 = .ok (.getfield 55, 3) := by decide +kernel
theorem dX12_isWordPart_70 : decode cX12_isWordPart 70 = .ok (.iload_n 2, 1) := by decide +kernel
theorem dX12_isWordPart_71 : decode cX12_isWordPart 71 = .ok (.iload 6, 2) := by decide +kernel
theorem dX12_isWordPart_73 : decode cX12_isWordPart 73 = .ok (.iadd, 1) := by decide +kernel
theorem dX12_isWordPart_74 : decode cX12_isWordPart 74 = .ok (.baload, 1) := by decide +kernel
theorem dX12_isWordPart_75 : decode cX12_isWordPart 75 = .ok (.if_icmp .ne 7, 3) := by decide +kernel
theorem dX12_isWordPart_78 : decode cX12_isWordPart 78 = .ok (.iconst 1, 1) := by decide +kernel
theorem dX12_isWordPart_79 : decode cX12_isWordPart 79 = .ok (.goto 4, 3) := by decide +kernel
theorem dX12_isWordPart_82 : decode cX12_isWordPart 82 = .ok (.iconst 0, 1) := by decide +kernel
theorem dX12_isWordPart_83 : decode cX12_isWordPart 83 = .ok (.istore 5, 2) := by decide +kernel
theorem dX12_isWordPart_85 : decode cX12_isWordPart 85 = .ok (.iinc 6 1, 3) := by decide +kernel
theorem dX12_isWordPart_88 : decode cX12_isWordPart 88 = .ok (.goto (-46), 3) := by decide +kernel
theorem dX12_isWordPart_91 : decode cX12_isWordPart 91 = .ok (.iload 5, 2) := by decide +kernel
theorem dX12_isWordPart_93 : decode cX12_isWordPart 93 = .ok (.ifCond .eq 5, 3) := by decide +kernel
theorem dX12_isWordPart_96 : decode cX12_isWordPart 96 = .ok (.iconst 1, 1) := by decide +kernel
theorem dX12_isWordPart_97 : decode cX12_isWordPart 97 = .ok (.ireturn, 1) := by decide +kernel
theorem dX12_isWordPart_98 : decode cX12_isWordPart 98 = .ok (.iinc 4 1, 3) := by decide +kernel
theorem dX12_isWordPart_101 : decode cX12_isWordPart 101 = .ok (.goto (-95), 3) := by decide +kernel
theorem dX12_isWordPart_104 : decode cX12_isWordPart 104 = .ok (.iconst 0, 1) := by decide +kernel
theorem dX12_isWordPart_105 : decode cX12_isWordPart 105 = .ok (.ireturn, 1) := by decide +kernel
theorem dX12_stands_0 : decode cX12_stands 0 = .ok (.iload_n 3, 1) := by decide +kernel
theorem dX12_stands_1 : decode cX12_stands 1 = .ok (.ifCond .lt 16, 3) := by decide +kernel
theorem dX12_stands_4 : decode cX12_stands 4 = .ok (.iload_n 3, 1) := by decide +kernel
theorem dX12_stands_5 : decode cX12_stands 5 = .ok (.aload_n 0, 1) := by decide +kernel
theorem dX12_stands_6 : decode cX12_stands 6 = .ok (.getfield 33, 3) := by decide +kernel
theorem dX12_stands_9 : decode cX12_stands 9 = .ok (.iload_n 1, 1) := by decide +kernel
theorem dX12_stands_10 : decode cX12_stands 10 = .ok (.iaload, 1) := by decide +kernel
theorem dX12_stands_11 : decode cX12_stands 11 = .ok (.iadd, 1) := by decide +kernel
theorem dX12_stands_12 : decode cX12_stands 12 = .ok (.iload 4, 2) := by decide +kernel
theorem dX12_stands_14 : decode cX12_stands 14 = .ok (.if_icmp .le 5, 3) := by decide +kernel
theorem dX12_stands_17 : decode cX12_stands 17 = .ok (.iconst 0, 1) := by decide +kernel
theorem dX12_stands_18 : decode cX12_stands 18 = .ok (.ireturn, 1) := by decide +kernel
theorem dX12_stands_19 : decode cX12_stands 19 = .ok (.iconst 0, 1) := by decide +kernel
theorem dX12_stands_20 : decode cX12_stands 20 = .ok (.istore 5, 2) := by decide +kernel
theorem dX12_stands_22 : decode cX12_stands 22 = .ok (.iload 5, 2) := by decide +kernel
theorem dX12_stands_24 : decode cX12_stands 24 = .ok (.aload_n 0, 1) := by decide +kernel
theorem dX12_stands_25 : decode cX12_stands 25 = .ok (.getfield 33, 3) := by decide +kernel
theorem dX12_stands_28 : decode cX12_stands 28 = .ok (.iload_n 1, 1) := by decide +kernel
theorem dX12_stands_29 : decode cX12_stands 29 = .ok (.iaload, 1) := by decide +kernel
theorem dX12_stands_30 : decode cX12_stands 30 = .ok (.if_icmp .ge 32, 3) := by decide +kernel
theorem dX12_stands_33 : decode cX12_stands 33 = .ok (.aload_n 2, 1) := by decide +kernel
theorem dX12_stands_34 : decode cX12_stands 34 = .ok (.iload_n 3, 1) := by decide +kernel
theorem dX12_stands_35 : decode cX12_stands 35 = .ok (.iload 5, 2) := by decide +kernel
theorem dX12_stands_37 : decode cX12_stands 37 = .ok (.iadd, 1) := by decide +kernel
theorem dX12_stands_38 : decode cX12_stands 38 = .ok (.baload, 1) := by decide +kernel
theorem dX12_stands_39 : decode cX12_stands 39 = .ok (.aload_n 0, 1) := by decide +kernel
theorem dX12_stands_40 : decode cX12_stands 40 = .ok (.getfield 30, 3) := by decide +kernel
theorem dX12_stands_43 : decode cX12_stands 43 = .ok (.bipush 16, 2) := by decide +kernel
theorem dX12_stands_45 : decode cX12_stands 45 = .ok (.iload_n 1, 1) := by decide +kernel
theorem dX12_stands_46 : decode cX12_stands 46 = .ok (.imul, 1) := by decide +kernel
theorem dX12_stands_47 : decode cX12_stands 47 = .ok (.iload 5, 2) := by decide +kernel
theorem dX12_stands_49 : decode cX12_stands 49 = .ok (.iadd, 1) := by decide +kernel
theorem dX12_stands_50 : decode cX12_stands 50 = .ok (.baload, 1) := by decide +kernel
theorem dX12_stands_51 : decode cX12_stands 51 = .ok (.if_icmp .eq 5, 3) := by decide +kernel
theorem dX12_stands_54 : decode cX12_stands 54 = .ok (.iconst 0, 1) := by decide +kernel
theorem dX12_stands_55 : decode cX12_stands 55 = .ok (.ireturn, 1) := by decide +kernel
theorem dX12_stands_56 : decode cX12_stands 56 = .ok (.iinc 5 1, 3) := by decide +kernel
theorem dX12_stands_59 : decode cX12_stands 59 = .ok (.goto (-37), 3) := by decide +kernel
theorem dX12_stands_62 : decode cX12_stands 62 = .ok (.iconst 1, 1) := by decide +kernel
theorem dX12_stands_63 : decode cX12_stands 63 = .ok (.ireturn, 1) := by decide +kernel
theorem dX12_sameBytes_0 : decode cX12_sameBytes 0 = .ok (.iload_n 2, 1) := by decide +kernel
theorem dX12_sameBytes_1 : decode cX12_sameBytes 1 = .ok (.iload 5, 2) := by decide +kernel
theorem dX12_sameBytes_3 : decode cX12_sameBytes 3 = .ok (.if_icmp .eq 5, 3) := by decide +kernel
theorem dX12_sameBytes_6 : decode cX12_sameBytes 6 = .ok (.iconst 0, 1) := by decide +kernel
theorem dX12_sameBytes_7 : decode cX12_sameBytes 7 = .ok (.ireturn, 1) := by decide +kernel
theorem dX12_sameBytes_8 : decode cX12_sameBytes 8 = .ok (.iconst 0, 1) := by decide +kernel
theorem dX12_sameBytes_9 : decode cX12_sameBytes 9 = .ok (.istore 6, 2) := by decide +kernel
theorem dX12_sameBytes_11 : decode cX12_sameBytes 11 = .ok (.iload 6, 2) := by decide +kernel
theorem dX12_sameBytes_13 : decode cX12_sameBytes 13 = .ok (.iload_n 2, 1) := by decide +kernel
theorem dX12_sameBytes_14 : decode cX12_sameBytes 14 = .ok (.if_icmp .ge 27, 3) := by decide +kernel
theorem dX12_sameBytes_17 : decode cX12_sameBytes 17 = .ok (.aload_n 0, 1) := by decide +kernel
theorem dX12_sameBytes_18 : decode cX12_sameBytes 18 = .ok (.iload_n 1, 1) := by decide +kernel
theorem dX12_sameBytes_19 : decode cX12_sameBytes 19 = .ok (.iload 6, 2) := by decide +kernel
theorem dX12_sameBytes_21 : decode cX12_sameBytes 21 = .ok (.iadd, 1) := by decide +kernel
theorem dX12_sameBytes_22 : decode cX12_sameBytes 22 = .ok (.baload, 1) := by decide +kernel
theorem dX12_sameBytes_23 : decode cX12_sameBytes 23 = .ok (.aload_n 3, 1) := by decide +kernel
theorem dX12_sameBytes_24 : decode cX12_sameBytes 24 = .ok (.iload 4, 2) := by decide +kernel
theorem dX12_sameBytes_26 : decode cX12_sameBytes 26 = .ok (.iload 6, 2) := by decide +kernel
theorem dX12_sameBytes_28 : decode cX12_sameBytes 28 = .ok (.iadd, 1) := by decide +kernel
theorem dX12_sameBytes_29 : decode cX12_sameBytes 29 = .ok (.baload, 1) := by decide +kernel
theorem dX12_sameBytes_30 : decode cX12_sameBytes 30 = .ok (.if_icmp .eq 5, 3) := by decide +kernel
theorem dX12_sameBytes_33 : decode cX12_sameBytes 33 = .ok (.iconst 0, 1) := by decide +kernel
theorem dX12_sameBytes_34 : decode cX12_sameBytes 34 = .ok (.ireturn, 1) := by decide +kernel
theorem dX12_sameBytes_35 : decode cX12_sameBytes 35 = .ok (.iinc 6 1, 3) := by decide +kernel
theorem dX12_sameBytes_38 : decode cX12_sameBytes 38 = .ok (.goto (-27), 3) := by decide +kernel
theorem dX12_sameBytes_41 : decode cX12_sameBytes 41 = .ok (.iconst 1, 1) := by decide +kernel
theorem dX12_sameBytes_42 : decode cX12_sameBytes 42 = .ok (.ireturn, 1) := by decide +kernel
theorem dX12_takeWord_0 : decode cX12_takeWord 0 = .ok (.iconst 0, 1) := by decide +kernel
theorem dX12_takeWord_1 : decode cX12_takeWord 1 = .ok (.istore 4, 2) := by decide +kernel
theorem dX12_takeWord_3 : decode cX12_takeWord 3 = .ok (.iload 4, 2) := by decide +kernel
theorem dX12_takeWord_5 : decode cX12_takeWord 5 = .ok (.iload_n 3, 1) := by decide +kernel
theorem dX12_takeWord_6 : decode cX12_takeWord 6 = .ok (.if_icmp .ge 22, 3) := by decide +kernel
theorem dX12_takeWord_9 : decode cX12_takeWord 9 = .ok (.aload_n 0, 1) := by decide +kernel
theorem dX12_takeWord_10 : decode cX12_takeWord 10 = .ok (.getfield 55, 3) := by decide +kernel
theorem dX12_takeWord_13 : decode cX12_takeWord 13 = .ok (.iload 4, 2) := by decide +kernel
theorem dX12_takeWord_15 : decode cX12_takeWord 15 = .ok (.aload_n 1, 1) := by decide +kernel
theorem dX12_takeWord_16 : decode cX12_takeWord 16 = .ok (.iload_n 2, 1) := by decide +kernel
theorem dX12_takeWord_17 : decode cX12_takeWord 17 = .ok (.iload 4, 2) := by decide +kernel
theorem dX12_takeWord_19 : decode cX12_takeWord 19 = .ok (.iadd, 1) := by decide +kernel
theorem dX12_takeWord_20 : decode cX12_takeWord 20 = .ok (.baload, 1) := by decide +kernel
theorem dX12_takeWord_21 : decode cX12_takeWord 21 = .ok (.bastore, 1) := by decide +kernel
theorem dX12_takeWord_22 : decode cX12_takeWord 22 = .ok (.iinc 4 1, 3) := by decide +kernel
theorem dX12_takeWord_25 : decode cX12_takeWord 25 = .ok (.goto (-22), 3) := by decide +kernel
theorem dX12_takeWord_28 : decode cX12_takeWord 28 = .ok (.aload_n 0, 1) := by decide +kernel
theorem dX12_takeWord_29 : decode cX12_takeWord 29 = .ok (.iload_n 3, 1) := by decide +kernel
theorem dX12_takeWord_30 : decode cX12_takeWord 30 = .ok (.putfield 244, 3) := by decide +kernel
theorem dX12_takeWord_33 : decode cX12_takeWord 33 = .ok (.return_, 1) := by decide +kernel
theorem dX12_readWord_22 : decode cX12_readWord 22 = .ok (.iconst 0, 1) := by decide +kernel
theorem dX12_readWord_23 : decode cX12_readWord 23 = .ok (.istore_n 2, 1) := by decide +kernel
theorem dX12_readWord_24 : decode cX12_readWord 24 = .ok (.iload_n 2, 1) := by decide +kernel
theorem dX12_readWord_25 : decode cX12_readWord 25 = .ok (.iload_n 1, 1) := by decide +kernel
theorem dX12_readWord_26 : decode cX12_readWord 26 = .ok (.if_icmp .ge 23, 3) := by decide +kernel
theorem dX12_readWord_29 : decode cX12_readWord 29 = .ok (.aload_n 0, 1) := by decide +kernel
theorem dX12_readWord_30 : decode cX12_readWord 30 = .ok (.getfield 7, 3) := by decide +kernel
theorem dX12_readWord_33 : decode cX12_readWord 33 = .ok (.iload_n 2, 1) := by decide +kernel
theorem dX12_readWord_34 : decode cX12_readWord 34 = .ok (.baload, 1) := by decide +kernel
theorem dX12_readWord_35 : decode cX12_readWord 35 = .ok (.invokestatic 183, 3) := by decide +kernel
theorem dX12_readWord_38 : decode cX12_readWord 38 = .ok (.ifCond .ne 5, 3) := by decide +kernel
theorem dX12_readWord_41 : decode cX12_readWord 41 = .ok (.iconst 0, 1) := by decide +kernel
theorem dX12_readWord_42 : decode cX12_readWord 42 = .ok (.ireturn, 1) := by decide +kernel
theorem dX12_readWord_43 : decode cX12_readWord 43 = .ok (.iinc 2 1, 3) := by decide +kernel
theorem dX12_readWord_46 : decode cX12_readWord 46 = .ok (.goto (-22), 3) := by decide +kernel
theorem dX12_readWord_49 : decode cX12_readWord 49 = .ok (.aload_n 0, 1) := by decide +kernel
theorem dX12_readWord_50 : decode cX12_readWord 50 = .ok (.aload_n 0, 1) := by decide +kernel
theorem dX12_readWord_51 : decode cX12_readWord 51 = .ok (.getfield 7, 3) := by decide +kernel
theorem dX12_readWord_54 : decode cX12_readWord 54 = .ok (.iconst 0, 1) := by decide +kernel
theorem dX12_readWord_55 : decode cX12_readWord 55 = .ok (.iload_n 1, 1) := by decide +kernel
theorem dX12_readWord_56 : decode cX12_readWord 56 = .ok (.invokevirtual 290, 3) := by decide +kernel
theorem dX12_readWord_59 : decode cX12_readWord 59 = .ok (.iconst 1, 1) := by decide +kernel
theorem dX12_readWord_60 : decode cX12_readWord 60 = .ok (.ireturn, 1) := by decide +kernel
theorem dX12_form_14 : decode cX12_form 14 = .ok (.iload_n 2, 1) := by decide +kernel
theorem dX12_form_15 : decode cX12_form 15 = .ok (.iconst 0, 1) := by decide +kernel
theorem dX12_form_16 : decode cX12_form 16 = .ok (.aload_n 0, 1) := by decide +kernel
theorem dX12_form_17 : decode cX12_form 17 = .ok (.getfield 97, 3) := by decide +kernel
theorem dX12_form_20 : decode cX12_form 20 = .ok (.iload_n 1, 1) := by decide +kernel
theorem dX12_form_21 : decode cX12_form 21 = .ok (.iaload, 1) := by decide +kernel
theorem dX12_form_22 : decode cX12_form 22 = .ok (.iconst 1, 1) := by decide +kernel
theorem dX12_form_23 : decode cX12_form 23 = .ok (.isub, 1) := by decide +kernel
theorem dX12_form_24 : decode cX12_form 24 = .ok (.invokestatic 226, 3) := by decide +kernel
theorem dX12_form_27 : decode cX12_form 27 = .ok (.ifCond .eq 17, 3) := by decide +kernel
theorem dX12_form_30 : decode cX12_form 30 = .ok (.aload_n 0, 1) := by decide +kernel
theorem dX12_form_31 : decode cX12_form 31 = .ok (.getfield 94, 3) := by decide +kernel
theorem dX12_form_34 : decode cX12_form 34 = .ok (.bipush 24, 2) := by decide +kernel
theorem dX12_form_36 : decode cX12_form 36 = .ok (.iload_n 1, 1) := by decide +kernel
theorem dX12_form_37 : decode cX12_form 37 = .ok (.imul, 1) := by decide +kernel
theorem dX12_form_38 : decode cX12_form 38 = .ok (.iload_n 2, 1) := by decide +kernel
theorem dX12_form_39 : decode cX12_form 39 = .ok (.iadd, 1) := by decide +kernel
theorem dX12_form_40 : decode cX12_form 40 = .ok (.baload, 1) := by decide +kernel
theorem dX12_form_41 : decode cX12_form 41 = .ok (.goto 4, 3) := by decide +kernel
theorem dX12_parting_16 : decode cX12_parting 16 = .ok (.iload_n 2, 1) := by decide +kernel
theorem dX12_parting_17 : decode cX12_parting 17 = .ok (.ifCond .ne 10, 3) := by decide +kernel
theorem dX12_parting_20 : decode cX12_parting 20 = .ok (.aload_n 0, 1) := by decide +kernel
theorem dX12_parting_21 : decode cX12_parting 21 = .ok (.getfield 103, 3) := by decide +kernel
theorem dX12_parting_24 : decode cX12_parting 24 = .ok (.iload_n 1, 1) := by decide +kernel
theorem dX12_parting_25 : decode cX12_parting 25 = .ok (.iaload, 1) := by decide +kernel
theorem dX12_parting_26 : decode cX12_parting 26 = .ok (.ireturn, 1) := by decide +kernel
theorem dX12_parting_27 : decode cX12_parting 27 = .ok (.iload_n 2, 1) := by decide +kernel
theorem dX12_parting_28 : decode cX12_parting 28 = .ok (.iconst 1, 1) := by decide +kernel
theorem dX12_parting_29 : decode cX12_parting 29 = .ok (.aload_n 0, 1) := by decide +kernel
theorem dX12_parting_30 : decode cX12_parting 30 = .ok (.getfield 103, 3) := by decide +kernel
theorem dX12_parting_33 : decode cX12_parting 33 = .ok (.iload_n 1, 1) := by decide +kernel
theorem dX12_parting_34 : decode cX12_parting 34 = .ok (.iaload, 1) := by decide +kernel
theorem dX12_parting_35 : decode cX12_parting 35 = .ok (.invokestatic 226, 3) := by decide +kernel
theorem dX12_parting_38 : decode cX12_parting 38 = .ok (.ifCond .eq 19, 3) := by decide +kernel
theorem dX12_parting_41 : decode cX12_parting 41 = .ok (.aload_n 0, 1) := by decide +kernel
theorem dX12_parting_42 : decode cX12_parting 42 = .ok (.getfield 100, 3) := by decide +kernel
theorem dX12_parting_45 : decode cX12_parting 45 = .ok (.bipush 24, 2) := by decide +kernel
theorem dX12_parting_47 : decode cX12_parting 47 = .ok (.iload_n 1, 1) := by decide +kernel
theorem dX12_parting_48 : decode cX12_parting 48 = .ok (.imul, 1) := by decide +kernel
theorem dX12_parting_49 : decode cX12_parting 49 = .ok (.iload_n 2, 1) := by decide +kernel
theorem dX12_parting_50 : decode cX12_parting 50 = .ok (.iadd, 1) := by decide +kernel
theorem dX12_parting_51 : decode cX12_parting 51 = .ok (.iconst 1, 1) := by decide +kernel
theorem dX12_parting_52 : decode cX12_parting 52 = .ok (.isub, 1) := by decide +kernel
theorem dX12_parting_53 : decode cX12_parting 53 = .ok (.iaload, 1) := by decide +kernel
theorem dX12_parting_54 : decode cX12_parting 54 = .ok (.goto 4, 3) := by decide +kernel
theorem dX12_parting_57 : decode cX12_parting 57 = .ok (.iconst (-1), 1) := by decide +kernel
theorem dX12_parting_58 : decode cX12_parting 58 = .ok (.ireturn, 1) := by decide +kernel
theorem dX12_word_14 : decode cX12_word 14 = .ok (.iload_n 2, 1) := by decide +kernel
theorem dX12_word_15 : decode cX12_word 15 = .ok (.iconst 0, 1) := by decide +kernel
theorem dX12_word_16 : decode cX12_word 16 = .ok (.aload_n 0, 1) := by decide +kernel
theorem dX12_word_17 : decode cX12_word 17 = .ok (.getfield 109, 3) := by decide +kernel
theorem dX12_word_20 : decode cX12_word 20 = .ok (.iload_n 1, 1) := by decide +kernel
theorem dX12_word_21 : decode cX12_word 21 = .ok (.iaload, 1) := by decide +kernel
theorem dX12_word_22 : decode cX12_word 22 = .ok (.iconst 1, 1) := by decide +kernel
theorem dX12_word_23 : decode cX12_word 23 = .ok (.isub, 1) := by decide +kernel
theorem dX12_word_24 : decode cX12_word 24 = .ok (.invokestatic 226, 3) := by decide +kernel
theorem dX12_word_27 : decode cX12_word 27 = .ok (.ifCond .eq 17, 3) := by decide +kernel
theorem dX12_word_30 : decode cX12_word 30 = .ok (.aload_n 0, 1) := by decide +kernel
theorem dX12_word_31 : decode cX12_word 31 = .ok (.getfield 106, 3) := by decide +kernel
theorem dX12_word_34 : decode cX12_word 34 = .ok (.bipush 24, 2) := by decide +kernel
theorem dX12_word_36 : decode cX12_word 36 = .ok (.iload_n 1, 1) := by decide +kernel
theorem dX12_word_37 : decode cX12_word 37 = .ok (.imul, 1) := by decide +kernel
theorem dX12_word_38 : decode cX12_word 38 = .ok (.iload_n 2, 1) := by decide +kernel
theorem dX12_word_39 : decode cX12_word 39 = .ok (.iadd, 1) := by decide +kernel
theorem dX12_word_40 : decode cX12_word 40 = .ok (.baload, 1) := by decide +kernel
theorem dX12_word_41 : decode cX12_word 41 = .ok (.goto 4, 3) := by decide +kernel
theorem dX12_hasForm_0 : decode cX12_hasForm 0 = .ok (.bipush 12, 2) := by decide +kernel
theorem dX12_hasForm_2 : decode cX12_hasForm 2 = .ok (.bipush 7, 2) := by decide +kernel
theorem dX12_hasForm_4 : decode cX12_hasForm 4 = .ok (.iload_n 1, 1) := by decide +kernel
theorem dX12_hasForm_5 : decode cX12_hasForm 5 = .ok (.imul, 1) := by decide +kernel
theorem dX12_hasForm_6 : decode cX12_hasForm 6 = .ok (.iload_n 2, 1) := by decide +kernel
theorem dX12_hasForm_7 : decode cX12_hasForm 7 = .ok (.iadd, 1) := by decide +kernel
theorem dX12_hasForm_8 : decode cX12_hasForm 8 = .ok (.imul, 1) := by decide +kernel
theorem dX12_hasForm_9 : decode cX12_hasForm 9 = .ok (.istore 6, 2) := by decide +kernel
theorem dX12_hasForm_11 : decode cX12_hasForm 11 = .ok (.iload 6, 2) := by decide +kernel
theorem dX12_hasForm_13 : decode cX12_hasForm 13 = .ok (.bipush 12, 2) := by decide +kernel
theorem dX12_hasForm_15 : decode cX12_hasForm 15 = .ok (.bipush 7, 2) := by decide +kernel
theorem dX12_hasForm_17 : decode cX12_hasForm 17 = .ok (.iload_n 1, 1) := by decide +kernel
theorem dX12_hasForm_18 : decode cX12_hasForm 18 = .ok (.imul, 1) := by decide +kernel
theorem dX12_hasForm_19 : decode cX12_hasForm 19 = .ok (.iload_n 2, 1) := by decide +kernel
theorem dX12_hasForm_20 : decode cX12_hasForm 20 = .ok (.iadd, 1) := by decide +kernel
theorem dX12_hasForm_21 : decode cX12_hasForm 21 = .ok (.imul, 1) := by decide +kernel
theorem dX12_hasForm_22 : decode cX12_hasForm 22 = .ok (.aload_n 0, 1) := by decide +kernel
theorem dX12_hasForm_23 : decode cX12_hasForm 23 = .ok (.getfield 119, 3) := by decide +kernel
theorem dX12_hasForm_26 : decode cX12_hasForm 26 = .ok (.bipush 7, 2) := by decide +kernel
theorem dX12_hasForm_28 : decode cX12_hasForm 28 = .ok (.iload_n 1, 1) := by decide +kernel
theorem dX12_hasForm_29 : decode cX12_hasForm 29 = .ok (.imul, 1) := by decide +kernel
theorem dX12_hasForm_30 : decode cX12_hasForm 30 = .ok (.iload_n 2, 1) := by decide +kernel
theorem dX12_hasForm_31 : decode cX12_hasForm 31 = .ok (.iadd, 1) := by decide +kernel
theorem dX12_hasForm_32 : decode cX12_hasForm 32 = .ok (.iaload, 1) := by decide +kernel
theorem dX12_hasForm_33 : decode cX12_hasForm 33 = .ok (.iadd, 1) := by decide +kernel
theorem dX12_hasForm_34 : decode cX12_hasForm 34 = .ok (.if_icmp .ge 38, 3) := by decide +kernel
theorem dX12_hasForm_37 : decode cX12_hasForm 37 = .ok (.aload_n 0, 1) := by decide +kernel
theorem dX12_hasForm_38 : decode cX12_hasForm 38 = .ok (.getfield 113, 3) := by decide +kernel
theorem dX12_hasForm_41 : decode cX12_hasForm 41 = .ok (.bipush 24, 2) := by decide +kernel
theorem dX12_hasForm_43 : decode cX12_hasForm 43 = .ok (.iload 6, 2) := by decide +kernel
theorem dX12_hasForm_45 : decode cX12_hasForm 45 = .ok (.imul, 1) := by decide +kernel
theorem dX12_hasForm_46 : decode cX12_hasForm 46 = .ok (.aload_n 0, 1) := by decide +kernel
theorem dX12_hasForm_47 : decode cX12_hasForm 47 = .ok (.getfield 116, 3) := by decide +kernel
theorem dX12_hasForm_50 : decode cX12_hasForm 50 = .ok (.iload 6, 2) := by decide +kernel
theorem dX12_hasForm_52 : decode cX12_hasForm 52 = .ok (.iaload, 1) := by decide +kernel
theorem dX12_hasForm_53 : decode cX12_hasForm 53 = .ok (.aload_n 3, 1) := by decide +kernel
theorem dX12_hasForm_54 : decode cX12_hasForm 54 = .ok (.iload 4, 2) := by decide +kernel
theorem dX12_hasForm_56 : decode cX12_hasForm 56 = .ok (.iload 5, 2) := by decide +kernel
theorem dX12_hasForm_58 : decode cX12_hasForm 58 = .ok (.invokestatic 273, 3) := by decide +kernel
theorem dX12_hasForm_61 : decode cX12_hasForm 61 = .ok (.ifCond .eq 5, 3) := by decide +kernel
theorem dX12_hasForm_64 : decode cX12_hasForm 64 = .ok (.iconst 1, 1) := by decide +kernel
theorem dX12_hasForm_65 : decode cX12_hasForm 65 = .ok (.ireturn, 1) := by decide +kernel
theorem dX12_hasForm_66 : decode cX12_hasForm 66 = .ok (.iinc 6 1, 3) := by decide +kernel
theorem dX12_hasForm_69 : decode cX12_hasForm 69 = .ok (.goto (-58), 3) := by decide +kernel
theorem dX12_hasForm_72 : decode cX12_hasForm 72 = .ok (.iconst 0, 1) := by decide +kernel
theorem dX12_hasForm_73 : decode cX12_hasForm 73 = .ok (.ireturn, 1) := by decide +kernel
theorem dX12_old_14 : decode cX12_old 14 = .ok (.aload_n 0, 1) := by decide +kernel
theorem dX12_old_15 : decode cX12_old 15 = .ok (.getfield 122, 3) := by decide +kernel
theorem dX12_old_18 : decode cX12_old 18 = .ok (.iload_n 1, 1) := by decide +kernel
theorem dX12_old_19 : decode cX12_old 19 = .ok (.iaload, 1) := by decide +kernel
theorem dX12_old_20 : decode cX12_old 20 = .ok (.goto 4, 3) := by decide +kernel
theorem dX12_collision_14 : decode cX12_collision 14 = .ok (.aload_n 0, 1) := by decide +kernel
theorem dX12_collision_15 : decode cX12_collision 15 = .ok (.getfield 128, 3) := by decide +kernel
theorem dX12_collision_18 : decode cX12_collision 18 = .ok (.iload_n 1, 1) := by decide +kernel
theorem dX12_collision_19 : decode cX12_collision 19 = .ok (.iaload, 1) := by decide +kernel
theorem dX12_collision_20 : decode cX12_collision 20 = .ok (.goto 4, 3) := by decide +kernel
theorem dX12_isLetter_0 : decode cX12_isLetter 0 = .ok (.iload_n 0, 1) := by decide +kernel
theorem dX12_isLetter_1 : decode cX12_isLetter 1 = .ok (.invokestatic 183, 3) := by decide +kernel
theorem dX12_isLetter_4 : decode cX12_isLetter 4 = .ok (.ifCond .ne 15, 3) := by decide +kernel
theorem dX12_isLetter_7 : decode cX12_isLetter 7 = .ok (.iload_n 0, 1) := by decide +kernel
theorem dX12_isLetter_8 : decode cX12_isLetter 8 = .ok (.bipush 65, 2) := by decide +kernel
theorem dX12_isLetter_10 : decode cX12_isLetter 10 = .ok (.if_icmp .lt 13, 3) := by decide +kernel
theorem dX12_isLetter_13 : decode cX12_isLetter 13 = .ok (.iload_n 0, 1) := by decide +kernel
theorem dX12_isLetter_14 : decode cX12_isLetter 14 = .ok (.bipush 90, 2) := by decide +kernel
theorem dX12_isLetter_16 : decode cX12_isLetter 16 = .ok (.if_icmp .gt 7, 3) := by decide +kernel
theorem dX12_isLetter_19 : decode cX12_isLetter 19 = .ok (.iconst 1, 1) := by decide +kernel
theorem dX12_isLetter_20 : decode cX12_isLetter 20 = .ok (.goto 4, 3) := by decide +kernel
theorem dX12_isLetter_23 : decode cX12_isLetter 23 = .ok (.iconst 0, 1) := by decide +kernel
theorem dX12_isLetter_24 : decode cX12_isLetter 24 = .ok (.ireturn, 1) := by decide +kernel
theorem dX12_hasNought_7 : decode cX12_hasNought 7 = .ok (.aload_n 0, 1) := by decide +kernel
theorem dX12_hasNought_8 : decode cX12_hasNought 8 = .ok (.getfield 7, 3) := by decide +kernel
theorem dX12_hasNought_11 : decode cX12_hasNought 11 = .ok (.iload_n 2, 1) := by decide +kernel
theorem dX12_hasNought_12 : decode cX12_hasNought 12 = .ok (.baload, 1) := by decide +kernel
theorem dX12_hasNought_13 : decode cX12_hasNought 13 = .ok (.ifCond .ne 5, 3) := by decide +kernel
theorem dX12_hasNought_16 : decode cX12_hasNought 16 = .ok (.iconst 1, 1) := by decide +kernel
theorem dX12_hasNought_17 : decode cX12_hasNought 17 = .ok (.ireturn, 1) := by decide +kernel
theorem dX12_hasNought_18 : decode cX12_hasNought 18 = .ok (.iinc 2 1, 3) := by decide +kernel
theorem dX12_hasNought_21 : decode cX12_hasNought 21 = .ok (.goto (-19), 3) := by decide +kernel
theorem dX12_write1_0 : decode cX12_write1 0 = .ok (.aload_n 0, 1) := by decide +kernel
theorem dX12_write1_1 : decode cX12_write1 1 = .ok (.getfield 337, 3) := by decide +kernel
theorem dX12_write1_4 : decode cX12_write1 4 = .ok (.iload_n 3, 1) := by decide +kernel
theorem dX12_write1_5 : decode cX12_write1 5 = .ok (.iadd, 1) := by decide +kernel
theorem dX12_write1_6 : decode cX12_write1 6 = .ok (.sipush 2500, 3) := by decide +kernel
theorem dX12_write1_9 : decode cX12_write1 9 = .ok (.if_icmp .le 5, 3) := by decide +kernel
theorem dX12_write1_12 : decode cX12_write1 12 = .ok (.iconst 0, 1) := by decide +kernel
theorem dX12_write1_13 : decode cX12_write1 13 = .ok (.ireturn, 1) := by decide +kernel
theorem dX12_write1_14 : decode cX12_write1 14 = .ok (.iconst 0, 1) := by decide +kernel
theorem dX12_write1_15 : decode cX12_write1 15 = .ok (.istore 4, 2) := by decide +kernel
theorem dX12_write1_17 : decode cX12_write1 17 = .ok (.iload 4, 2) := by decide +kernel
theorem dX12_write1_19 : decode cX12_write1 19 = .ok (.iload_n 3, 1) := by decide +kernel
theorem dX12_write1_20 : decode cX12_write1 20 = .ok (.if_icmp .ge 27, 3) := by decide +kernel
theorem dX12_write1_23 : decode cX12_write1 23 = .ok (.aload_n 0, 1) := by decide +kernel
theorem dX12_write1_24 : decode cX12_write1 24 = .ok (.getfield 134, 3) := by decide +kernel
theorem dX12_write1_27 : decode cX12_write1 27 = .ok (.aload_n 0, 1) := by decide +kernel
theorem dX12_write1_28 : decode cX12_write1 28 = .ok (.getfield 337, 3) := by decide +kernel
theorem dX12_write1_31 : decode cX12_write1 31 = .ok (.iload 4, 2) := by decide +kernel
theorem dX12_write1_33 : decode cX12_write1 33 = .ok (.iadd, 1) := by decide +kernel
theorem dX12_write1_34 : decode cX12_write1 34 = .ok (.aload_n 1, 1) := by decide +kernel
theorem dX12_write1_35 : decode cX12_write1 35 = .ok (.iload_n 2, 1) := by decide +kernel
theorem dX12_write1_36 : decode cX12_write1 36 = .ok (.iload 4, 2) := by decide +kernel
theorem dX12_write1_38 : decode cX12_write1 38 = .ok (.iadd, 1) := by decide +kernel
theorem dX12_write1_39 : decode cX12_write1 39 = .ok (.baload, 1) := by decide +kernel
theorem dX12_write1_40 : decode cX12_write1 40 = .ok (.bastore, 1) := by decide +kernel
theorem dX12_write1_41 : decode cX12_write1 41 = .ok (.iinc 4 1, 3) := by decide +kernel
theorem dX12_write1_44 : decode cX12_write1 44 = .ok (.goto (-27), 3) := by decide +kernel
theorem dX12_write1_47 : decode cX12_write1 47 = .ok (.aload_n 0, 1) := by decide +kernel
theorem dX12_write1_48 : decode cX12_write1 48 = .ok (.dup, 1) := by decide +kernel
theorem dX12_write1_49 : decode cX12_write1 49 = .ok (.getfield 337, 3) := by decide +kernel
theorem dX12_write1_52 : decode cX12_write1 52 = .ok (.iload_n 3, 1) := by decide +kernel
theorem dX12_write1_53 : decode cX12_write1 53 = .ok (.iadd, 1) := by decide +kernel
theorem dX12_write1_54 : decode cX12_write1 54 = .ok (.putfield 337, 3) := by decide +kernel
theorem dX12_write1_57 : decode cX12_write1 57 = .ok (.iconst 1, 1) := by decide +kernel
theorem dX12_write1_58 : decode cX12_write1 58 = .ok (.ireturn, 1) := by decide +kernel
theorem dX12_isName_0 : decode cX12_isName 0 = .ok (.iload_n 1, 1) := by decide +kernel
theorem dX12_isName_1 : decode cX12_isName 1 = .ok (.istore_n 3, 1) := by decide +kernel
theorem dX12_isName_2 : decode cX12_isName 2 = .ok (.iload_n 3, 1) := by decide +kernel
theorem dX12_isName_3 : decode cX12_isName 3 = .ok (.iload_n 2, 1) := by decide +kernel
theorem dX12_isName_4 : decode cX12_isName 4 = .ok (.if_icmp .ge 23, 3) := by decide +kernel
theorem dX12_isName_7 : decode cX12_isName 7 = .ok (.aload_n 0, 1) := by decide +kernel
theorem dX12_isName_8 : decode cX12_isName 8 = .ok (.getfield 7, 3) := by decide +kernel
theorem dX12_isName_11 : decode cX12_isName 11 = .ok (.iload_n 3, 1) := by decide +kernel
theorem dX12_isName_12 : decode cX12_isName 12 = .ok (.baload, 1) := by decide +kernel
theorem dX12_isName_13 : decode cX12_isName 13 = .ok (.invokestatic 183, 3) := by decide +kernel
theorem dX12_isName_16 : decode cX12_isName 16 = .ok (.ifCond .ne 5, 3) := by decide +kernel
theorem dX12_isName_19 : decode cX12_isName 19 = .ok (.iconst 1, 1) := by decide +kernel
theorem dX12_isName_20 : decode cX12_isName 20 = .ok (.ireturn, 1) := by decide +kernel
theorem dX12_isName_21 : decode cX12_isName 21 = .ok (.iinc 3 1, 3) := by decide +kernel
theorem dX12_isName_24 : decode cX12_isName 24 = .ok (.goto (-22), 3) := by decide +kernel
theorem dX12_isName_27 : decode cX12_isName 27 = .ok (.iconst 0, 1) := by decide +kernel
theorem dX12_isName_28 : decode cX12_isName 28 = .ok (.ireturn, 1) := by decide +kernel
theorem dX12_quoted_0 : decode cX12_quoted 0 = .ok (.iload_n 1, 1) := by decide +kernel
theorem dX12_quoted_1 : decode cX12_quoted 1 = .ok (.iconst 1, 1) := by decide +kernel
theorem dX12_quoted_2 : decode cX12_quoted 2 = .ok (.iadd, 1) := by decide +kernel
theorem dX12_quoted_3 : decode cX12_quoted 3 = .ok (.istore_n 3, 1) := by decide +kernel
theorem dX12_quoted_4 : decode cX12_quoted 4 = .ok (.iload_n 3, 1) := by decide +kernel
theorem dX12_quoted_5 : decode cX12_quoted 5 = .ok (.iload_n 2, 1) := by decide +kernel
theorem dX12_quoted_6 : decode cX12_quoted 6 = .ok (.if_icmp .ge 20, 3) := by decide +kernel
theorem dX12_quoted_9 : decode cX12_quoted 9 = .ok (.aload_n 0, 1) := by decide +kernel
theorem dX12_quoted_10 : decode cX12_quoted 10 = .ok (.getfield 7, 3) := by decide +kernel
theorem dX12_quoted_13 : decode cX12_quoted 13 = .ok (.iload_n 3, 1) := by decide +kernel
theorem dX12_quoted_14 : decode cX12_quoted 14 = .ok (.baload, 1) := by decide +kernel
theorem dX12_quoted_15 : decode cX12_quoted 15 = .ok (.bipush 34, 2) := by decide +kernel
theorem dX12_quoted_17 : decode cX12_quoted 17 = .ok (.if_icmp .eq 9, 3) := by decide +kernel
theorem dX12_quoted_20 : decode cX12_quoted 20 = .ok (.iinc 3 1, 3) := by decide +kernel
theorem dX12_quoted_23 : decode cX12_quoted 23 = .ok (.goto (-19), 3) := by decide +kernel
theorem dX12_quoted_26 : decode cX12_quoted 26 = .ok (.iload_n 3, 1) := by decide +kernel
theorem dX12_quoted_27 : decode cX12_quoted 27 = .ok (.iload_n 2, 1) := by decide +kernel
theorem dX12_quoted_28 : decode cX12_quoted 28 = .ok (.if_icmp .ge 9, 3) := by decide +kernel
theorem dX12_quoted_31 : decode cX12_quoted 31 = .ok (.iload_n 3, 1) := by decide +kernel
theorem dX12_quoted_32 : decode cX12_quoted 32 = .ok (.iconst 1, 1) := by decide +kernel
theorem dX12_quoted_33 : decode cX12_quoted 33 = .ok (.iadd, 1) := by decide +kernel
theorem dX12_quoted_34 : decode cX12_quoted 34 = .ok (.goto 4, 3) := by decide +kernel
theorem dX12_quoted_37 : decode cX12_quoted 37 = .ok (.iload_n 2, 1) := by decide +kernel
theorem dX12_quoted_38 : decode cX12_quoted 38 = .ok (.ireturn, 1) := by decide +kernel
theorem dX12_written_14 : decode cX12_written 14 = .ok (.aload_n 0, 1) := by decide +kernel
theorem dX12_written_15 : decode cX12_written 15 = .ok (.getfield 131, 3) := by decide +kernel
theorem dX12_written_18 : decode cX12_written 18 = .ok (.iload_n 1, 1) := by decide +kernel
theorem dX12_written_19 : decode cX12_written 19 = .ok (.baload, 1) := by decide +kernel
theorem dX12_written_20 : decode cX12_written 20 = .ok (.sipush 255, 3) := by decide +kernel
theorem dX12_written_23 : decode cX12_written 23 = .ok (.iand, 1) := by decide +kernel
theorem dX12_written_24 : decode cX12_written 24 = .ok (.goto 4, 3) := by decide +kernel
theorem dX12_counted_7 : decode cX12_counted 7 = .ok (.iload_n 1, 1) := by decide +kernel
theorem dX12_counted_8 : decode cX12_counted 8 = .ok (.iconst 0, 1) := by decide +kernel
theorem dX12_counted_9 : decode cX12_counted 9 = .ok (.iconst 4, 1) := by decide +kernel
theorem dX12_counted_10 : decode cX12_counted 10 = .ok (.invokestatic 226, 3) := by decide +kernel
theorem dX12_counted_13 : decode cX12_counted 13 = .ok (.ifCond .eq 12, 3) := by decide +kernel
theorem dX12_counted_16 : decode cX12_counted 16 = .ok (.aload_n 0, 1) := by decide +kernel
theorem dX12_counted_17 : decode cX12_counted 17 = .ok (.getfield 137, 3) := by decide +kernel
theorem dX12_counted_20 : decode cX12_counted 20 = .ok (.iload_n 1, 1) := by decide +kernel
theorem dX12_counted_21 : decode cX12_counted 21 = .ok (.iaload, 1) := by decide +kernel
theorem dX12_counted_22 : decode cX12_counted 22 = .ok (.goto 4, 3) := by decide +kernel
theorem dX12_isKnown_0 : decode cX12_isKnown 0 = .ok (.iconst 0, 1) := by decide +kernel
theorem dX12_isKnown_1 : decode cX12_isKnown 1 = .ok (.istore 4, 2) := by decide +kernel
theorem dX12_isKnown_3 : decode cX12_isKnown 3 = .ok (.iload 4, 2) := by decide +kernel
theorem dX12_isKnown_5 : decode cX12_isKnown 5 = .ok (.aload_n 0, 1) := by decide +kernel
theorem dX12_isKnown_6 : decode cX12_isKnown 6 = .ok (.getfield 312, 3) := by decide +kernel
theorem dX12_isKnown_9 : decode cX12_isKnown 9 = .ok (.if_icmp .ge 29, 3) := by decide +kernel
theorem dX12_isKnown_12 : decode cX12_isKnown 12 = .ok (.aload_n 0, 1) := by decide +kernel
theorem dX12_isKnown_13 : decode cX12_isKnown 13 = .ok (.iload 4, 2) := by decide +kernel
theorem dX12_isKnown_15 : decode cX12_isKnown 15 = .ok (.iload_n 1, 1) := by decide +kernel
theorem dX12_isKnown_16 : decode cX12_isKnown 16 = .ok (.aload_n 0, 1) := by decide +kernel
theorem dX12_isKnown_17 : decode cX12_isKnown 17 = .ok (.getfield 7, 3) := by decide +kernel
theorem dX12_isKnown_20 : decode cX12_isKnown 20 = .ok (.iload_n 2, 1) := by decide +kernel
theorem dX12_isKnown_21 : decode cX12_isKnown 21 = .ok (.iload_n 3, 1) := by decide +kernel
theorem dX12_isKnown_22 : decode cX12_isKnown 22 = .ok (.iload_n 2, 1) := by decide +kernel
theorem dX12_isKnown_23 : decode cX12_isKnown 23 = .ok (.isub, 1) := by decide +kernel
theorem dX12_isKnown_24 : decode cX12_isKnown 24 = .ok (.invokevirtual 321, 3) := by decide +kernel
theorem dX12_isKnown_27 : decode cX12_isKnown 27 = .ok (.ifCond .eq 5, 3) := by decide +kernel
theorem dX12_isKnown_30 : decode cX12_isKnown 30 = .ok (.iconst 1, 1) := by decide +kernel
theorem dX12_isKnown_31 : decode cX12_isKnown 31 = .ok (.ireturn, 1) := by decide +kernel
theorem dX12_isKnown_32 : decode cX12_isKnown 32 = .ok (.iinc 4 1, 3) := by decide +kernel
theorem dX12_isKnown_35 : decode cX12_isKnown 35 = .ok (.goto (-32), 3) := by decide +kernel
theorem dX12_isKnown_38 : decode cX12_isKnown 38 = .ok (.iconst 0, 1) := by decide +kernel
theorem dX12_isKnown_39 : decode cX12_isKnown 39 = .ok (.ireturn, 1) := by decide +kernel
theorem dX12_line_14 : decode cX12_line 14 = .ok (.aload_n 0, 1) := by decide +kernel
theorem dX12_line_15 : decode cX12_line 15 = .ok (.getfield 149, 3) := by decide +kernel
theorem dX12_line_18 : decode cX12_line 18 = .ok (.iload_n 1, 1) := by decide +kernel
theorem dX12_line_19 : decode cX12_line 19 = .ok (.iaload, 1) := by decide +kernel
theorem dX12_line_20 : decode cX12_line 20 = .ok (.goto 4, 3) := by decide +kernel
set_option maxHeartbeats 4000000 in
set_option maxRecDepth 100000 in
theorem bm_in {p : Program} {l : Launch} {e : Env} {s : State} {m : MethodId} {args : Array Value} {below : List Frame} {meth : Method} {c : Code} {Q : State → Prop} {A : Nat → Prop} {dC : Nat → ClassId} {dI : Nat → Nat → Nat} {h0 : Nat} {kB kI kZ : ClassId} {q : Nat → Nat} {g : Nat → Int32} {F : Nat → Nat → Int32} {H : Heap} {locs : List Loc} {ls : Array Slot} (p0 : Int32) (p1 : Int32) (p2 : Int32) (hx : p.tables.exec = Jvm.exec) (hb : c.code = cX12_in) (hml : c.maxLocals = 3) (hown : s.vm.findClass RX12 = some m.cls) (hts : ∀ w ∈ vmX12_in, w.before args s = true) (hA : ∀ q : Nat, s.heap.size ≤ q → A q) (hK : va_K (dC, dI) vwCl (mT kB kI kZ) s) (hI : MInv g F) (hP : va_P (dC, dI) vwCl (mW h0 kB kI kZ q g F) H) (hD : va_D A (mW h0 kB kI kZ q g F)) (hS : va_S A s.heap H locs) (hl : lv_has ls 3 [(0, .int p0), (1, .int p1), (2, .int p2)])
    (K : ∀ (pc : Nat) (ls : Array Slot) (r : Int32) (u : ((Nat → Int32) × (Nat → Nat → Int32))) (H : Heap) (locs : List Loc), decode cX12_in pc = .ok (.ireturn, 1) → (((r.toInt = 1 → p1.toInt ≤ p0.toInt ∧ p0.toInt ≤ p2.toInt)) ∧ ((0 ≤ r.toInt ∧ r.toInt ≤ 1))) → va_P (dC, dI) vwCl (mW h0 kB kI kZ q g F) H → va_D A (mW h0 kB kI kZ q g F) → va_S A s.heap H locs → W p l e ({ frames := 2, cells := 0, slots := 0, locals := 60 } : Room) s m args below meth c H locs 0 0 Q (F0 m pc ls [.int r])) : W p l e ({ frames := 2, cells := 0, slots := 0, locals := 60 } : Room) s m args below meth c H locs 0 0 Q (F0 m 0 ls []) := by
  obtain ⟨hg1z, hg2z, hg3z, hg4z, hg5z, hg6z, hg7z, hg8z, hg9z, hg23z, hg27z, hg30z, hg34z, hg36z, hg39z, hg44z, hg47z, hg48z, hg51z, hg56z, hg59z, hg62z, hg65z, hg66z, hg70z, hF11z, hF12z, hF13z, hF15z, hF19z, hF21z, hF24z, hF25z, hF26z, hF33z, hF38z, hF41z, hF43z, hF45z, hF46z, hF50z, hF53z, hF54z⟩ := hI
  have zk0 : (0 : Int32).toInt = 0 := by decide +kernel
  have zk1 : (1 : Int32).toInt = 1 := by decide +kernel
  refine lv_iload_n hx hb dX12_in_0 rfl (lv_at hl 0 rfl) ?_
  refine lv_iload_n hx hb dX12_in_1 rfl (lv_at hl 1 rfl) ?_
  refine lv_icmp_lt (tgt := 14) hx hb dX12_in_2 (by decide) (fun c1 => ?_) (fun c1 => ?_)
  · have c1 := (z_lt _ _).mp c1
    refine lv_iconst (v := 0) hx hb dX12_in_14 (by decide +kernel) ?_
    exact K 15 ls 0 (g, F) H _ dX12_in_15 ⟨(show ((0 : Int32).toInt = 1 → p1.toInt ≤ p0.toInt ∧ p0.toInt ≤ p2.toInt) from by omega), (show (0 ≤ (0 : Int32).toInt ∧ (0 : Int32).toInt ≤ 1) from by omega)⟩ hP hD hS
  · have c1 := z_nlt c1
    refine lv_iload_n hx hb dX12_in_5 rfl (lv_at hl 0 rfl) ?_
    refine lv_iload_n hx hb dX12_in_6 rfl (lv_at hl 2 rfl) ?_
    refine lv_icmp_gt (tgt := 14) hx hb dX12_in_7 (by decide) (fun c2 => ?_) (fun c2 => ?_)
    · have c2 := (z_lt _ _).mp c2
      refine lv_iconst (v := 0) hx hb dX12_in_14 (by decide +kernel) ?_
      exact K 15 ls 0 (g, F) H _ dX12_in_15 ⟨(show ((0 : Int32).toInt = 1 → p1.toInt ≤ p0.toInt ∧ p0.toInt ≤ p2.toInt) from by omega), (show (0 ≤ (0 : Int32).toInt ∧ (0 : Int32).toInt ≤ 1) from by omega)⟩ hP hD hS
    · have c2 := z_nlt c2
      refine lv_iconst (v := 1) hx hb dX12_in_10 (by decide +kernel) ?_
      refine lv_goto (tgt := 15) hx hb dX12_in_11 (by decide) ?_
      exact K 15 ls 1 (g, F) H _ dX12_in_15 ⟨(show ((1 : Int32).toInt = 1 → p1.toInt ≤ p0.toInt ∧ p0.toInt ≤ p2.toInt) from by omega), (show (0 ≤ (1 : Int32).toInt ∧ (1 : Int32).toInt ≤ 1) from by omega)⟩ hP hD hS
set_option maxHeartbeats 4000000 in
set_option maxRecDepth 100000 in
theorem m_in (l : Launch) (dC : Nat → ClassId) (dI : Nat → Nat → Nat) (sz : Nat) (h0 : Nat) (kB kI kZ : ClassId) (q : Nat → Nat) (g : Nat → Int32) (F : Nat → Nat → Int32) (p0 : Int32) (p1 : Int32) (p2 : Int32) (hI : MInv g F) : Met l yX12_in vmX12_in ({ frames := 2, cells := 0, slots := 0, locals := 60 } : Room) (va_Pc [.int p0, .int p1, .int p2] (fun U => U.heap.size = sz ∧ va_P (dC, dI) vwCl (mW h0 kB kI kZ q g F) U.heap ∧ va_K (dC, dI) vwCl (mT kB kI kZ) U ∧ va_D (fun _ => True) (mW h0 kB kI kZ q g F))) (va_Qi (fun (r : Int32) (u : ((Nat → Int32) × (Nat → Nat → Int32))) => ((r.toInt = 1 → p1.toInt ≤ p0.toInt ∧ p0.toInt ≤ p2.toInt)) ∧ ((0 ≤ r.toInt ∧ r.toInt ≤ 1))) (fun u t => va_P (dC, dI) vwCl (mW h0 kB kI kZ q g F) t.heap ∧ va_K (dC, dI) vwCl (mT kB kI kZ) t ∧ va_D (va_A (mW h0 kB kI kZ q g F) sz) (mW h0 kB kI kZ q g F)) (va_A (mW h0 kB kI kZ q g F) sz)) 0 0 (va_A (mW h0 kB kI kZ q g F) sz) := by
  refine Met.ofW (cc := cX12_in) (maxL := 3) (ret := (some .boolean)) (by decide) rfl ?_
  intro p e s m args below meth c s₁ B hml hv
  obtain ⟨rfl, hsz, hP, hK, hD0⟩ := hv
  have hx := B.exec
  have hb := B.bytes
  have hr := B.returns
  have hts := atoms_spec (ws := vmX12_in) B.pre
  have hown : s.vm.findClass RX12 = some m.cls := findClass_of_methodNamed B.named
  subst hsz
  have hD := hD0.self (sz := s.heap.size)
  generalize hAe : va_A (mW h0 kB kI kZ q g F) s.heap.size = A at hD ⊢
  have hA : ∀ q : Nat, s.heap.size ≤ q → A q := fun q h => by rw [← hAe]; exact Or.inr h
  have hS : va_S A s.heap s.heap [] := va_S.rf
  have hl := lv_entry ([.int p0, .int p1, .int p2]) (n := 3) (Nat.le_of_ble_eq_true rfl)
  rw [lg_entry_eq]
  generalize (lg_sl ([.int p0, .int p1, .int p2]) ++ List.replicate (3 - (lg_sl ([.int p0, .int p1, .int p2])).length) Slot.unset).toArray = ls at hl ⊢
  exact bm_in p0 p1 p2 hx hb hml hown hts hA hK hI hP hD hS hl (fun pc ls r u H locs hd hw hP hD hS => W.zret (v := r) hx hb hr (z_nb (by have := hw.2; omega)) (fun t ht hW => ⟨⟨r, u, rfl, hw, by rw [ht]; exact hP, va_K.moved hW.alike hK, hD⟩, hS.F ht⟩) hS.2.2 hd)
set_option maxHeartbeats 4000000 in
set_option maxRecDepth 100000 in
theorem bm_isSmall {p : Program} {l : Launch} {e : Env} {s : State} {m : MethodId} {args : Array Value} {below : List Frame} {meth : Method} {c : Code} {Q : State → Prop} {A : Nat → Prop} {dC : Nat → ClassId} {dI : Nat → Nat → Nat} {h0 : Nat} {kB kI kZ : ClassId} {q : Nat → Nat} {g : Nat → Int32} {F : Nat → Nat → Int32} {H : Heap} {locs : List Loc} {ls : Array Slot} (p0 : Int32) (hx : p.tables.exec = Jvm.exec) (hb : c.code = cX12_isSmall) (hml : c.maxLocals = 1) (hown : s.vm.findClass RX12 = some m.cls) (hts : ∀ w ∈ vmX12_isSmall, w.before args s = true) (hA : ∀ q : Nat, s.heap.size ≤ q → A q) (hK : va_K (dC, dI) vwCl (mT kB kI kZ) s) (hI : MInv g F) (hP : va_P (dC, dI) vwCl (mW h0 kB kI kZ q g F) H) (hD : va_D A (mW h0 kB kI kZ q g F)) (hS : va_S A s.heap H locs) (hl : lv_has ls 1 [(0, .int p0)])
    (K : ∀ (pc : Nat) (ls : Array Slot) (r : Int32) (u : ((Nat → Int32) × (Nat → Nat → Int32))) (H : Heap) (locs : List Loc), decode cX12_isSmall pc = .ok (.ireturn, 1) → (((0 ≤ r.toInt ∧ r.toInt ≤ 1))) → va_P (dC, dI) vwCl (mW h0 kB kI kZ q g F) H → va_D A (mW h0 kB kI kZ q g F) → va_S A s.heap H locs → W p l e ({ frames := 2, cells := 0, slots := 0, locals := 60 } : Room) s m args below meth c H locs 0 0 Q (F0 m pc ls [.int r])) : W p l e ({ frames := 2, cells := 0, slots := 0, locals := 60 } : Room) s m args below meth c H locs 0 0 Q (F0 m 0 ls []) := by
  obtain ⟨hg1z, hg2z, hg3z, hg4z, hg5z, hg6z, hg7z, hg8z, hg9z, hg23z, hg27z, hg30z, hg34z, hg36z, hg39z, hg44z, hg47z, hg48z, hg51z, hg56z, hg59z, hg62z, hg65z, hg66z, hg70z, hF11z, hF12z, hF13z, hF15z, hF19z, hF21z, hF24z, hF25z, hF26z, hF33z, hF38z, hF41z, hF43z, hF45z, hF46z, hF50z, hF53z, hF54z⟩ := hI
  have zk0 : (0 : Int32).toInt = 0 := by decide +kernel
  have zk1 : (1 : Int32).toInt = 1 := by decide +kernel
  have zk97 : (97 : Int32).toInt = 97 := by decide +kernel
  have zk122 : (122 : Int32).toInt = 122 := by decide +kernel
  refine lv_iload_n hx hb dX12_isSmall_0 rfl (lv_at hl 0 rfl) ?_
  refine lv_bipush (v := 97) hx hb dX12_isSmall_1 (by decide +kernel) ?_
  refine lv_icmp_lt (tgt := 16) hx hb dX12_isSmall_3 (by decide) (fun c3 => ?_) (fun c3 => ?_)
  · have c3 := (z_lt _ _).mp c3
    refine lv_iconst (v := 0) hx hb dX12_isSmall_16 (by decide +kernel) ?_
    exact K 17 ls 0 (g, F) H _ dX12_isSmall_17 (show (0 ≤ (0 : Int32).toInt ∧ (0 : Int32).toInt ≤ 1) from by omega) hP hD hS
  · have c3 := z_nlt c3
    refine lv_iload_n hx hb dX12_isSmall_6 rfl (lv_at hl 0 rfl) ?_
    refine lv_bipush (v := 122) hx hb dX12_isSmall_7 (by decide +kernel) ?_
    refine lv_icmp_gt (tgt := 16) hx hb dX12_isSmall_9 (by decide) (fun c4 => ?_) (fun c4 => ?_)
    · have c4 := (z_lt _ _).mp c4
      refine lv_iconst (v := 0) hx hb dX12_isSmall_16 (by decide +kernel) ?_
      exact K 17 ls 0 (g, F) H _ dX12_isSmall_17 (show (0 ≤ (0 : Int32).toInt ∧ (0 : Int32).toInt ≤ 1) from by omega) hP hD hS
    · have c4 := z_nlt c4
      refine lv_iconst (v := 1) hx hb dX12_isSmall_12 (by decide +kernel) ?_
      refine lv_goto (tgt := 17) hx hb dX12_isSmall_13 (by decide) ?_
      exact K 17 ls 1 (g, F) H _ dX12_isSmall_17 (show (0 ≤ (1 : Int32).toInt ∧ (1 : Int32).toInt ≤ 1) from by omega) hP hD hS
set_option maxHeartbeats 4000000 in
set_option maxRecDepth 100000 in
theorem m_isSmall (l : Launch) (dC : Nat → ClassId) (dI : Nat → Nat → Nat) (sz : Nat) (h0 : Nat) (kB kI kZ : ClassId) (q : Nat → Nat) (g : Nat → Int32) (F : Nat → Nat → Int32) (p0 : Int32) (hI : MInv g F) : Met l yX12_isSmall vmX12_isSmall ({ frames := 2, cells := 0, slots := 0, locals := 60 } : Room) (va_Pc [.int p0] (fun U => U.heap.size = sz ∧ va_P (dC, dI) vwCl (mW h0 kB kI kZ q g F) U.heap ∧ va_K (dC, dI) vwCl (mT kB kI kZ) U ∧ va_D (fun _ => True) (mW h0 kB kI kZ q g F))) (va_Qi (fun (r : Int32) (u : ((Nat → Int32) × (Nat → Nat → Int32))) => ((0 ≤ r.toInt ∧ r.toInt ≤ 1))) (fun u t => va_P (dC, dI) vwCl (mW h0 kB kI kZ q g F) t.heap ∧ va_K (dC, dI) vwCl (mT kB kI kZ) t ∧ va_D (va_A (mW h0 kB kI kZ q g F) sz) (mW h0 kB kI kZ q g F)) (va_A (mW h0 kB kI kZ q g F) sz)) 0 0 (va_A (mW h0 kB kI kZ q g F) sz) := by
  refine Met.ofW (cc := cX12_isSmall) (maxL := 1) (ret := (some .boolean)) (by decide) rfl ?_
  intro p e s m args below meth c s₁ B hml hv
  obtain ⟨rfl, hsz, hP, hK, hD0⟩ := hv
  have hx := B.exec
  have hb := B.bytes
  have hr := B.returns
  have hts := atoms_spec (ws := vmX12_isSmall) B.pre
  have hown : s.vm.findClass RX12 = some m.cls := findClass_of_methodNamed B.named
  subst hsz
  have hD := hD0.self (sz := s.heap.size)
  generalize hAe : va_A (mW h0 kB kI kZ q g F) s.heap.size = A at hD ⊢
  have hA : ∀ q : Nat, s.heap.size ≤ q → A q := fun q h => by rw [← hAe]; exact Or.inr h
  have hS : va_S A s.heap s.heap [] := va_S.rf
  have hl := lv_entry ([.int p0]) (n := 1) (Nat.le_of_ble_eq_true rfl)
  rw [lg_entry_eq]
  generalize (lg_sl ([.int p0]) ++ List.replicate (1 - (lg_sl ([.int p0])).length) Slot.unset).toArray = ls at hl ⊢
  exact bm_isSmall p0 hx hb hml hown hts hA hK hI hP hD hS hl (fun pc ls r u H locs hd hw hP hD hS => W.zret (v := r) hx hb hr (z_nb (by have := hw; omega)) (fun t ht hW => ⟨⟨r, u, rfl, hw, by rw [ht]; exact hP, va_K.moved hW.alike hK, hD⟩, hS.F ht⟩) hS.2.2 hd)
set_option maxHeartbeats 4000000 in
set_option maxRecDepth 100000 in
theorem bm_isLetter {p : Program} {l : Launch} {e : Env} {s : State} {m : MethodId} {args : Array Value} {below : List Frame} {meth : Method} {c : Code} {Q : State → Prop} {A : Nat → Prop} {dC : Nat → ClassId} {dI : Nat → Nat → Nat} {h0 : Nat} {kB kI kZ : ClassId} {q : Nat → Nat} {g : Nat → Int32} {F : Nat → Nat → Int32} {H : Heap} {locs : List Loc} {ls : Array Slot} (p0 : Int32) (hx : p.tables.exec = Jvm.exec) (hb : c.code = cX12_isLetter) (hml : c.maxLocals = 1) (hown : s.vm.findClass RX12 = some m.cls) (hts : ∀ w ∈ vmX12_isLetter, w.before args s = true) (hA : ∀ q : Nat, s.heap.size ≤ q → A q) (hK : va_K (dC, dI) vwCl (mT kB kI kZ) s) (hI : MInv g F) (hP : va_P (dC, dI) vwCl (mW h0 kB kI kZ q g F) H) (hD : va_D A (mW h0 kB kI kZ q g F)) (hS : va_S A s.heap H locs) (hl : lv_has ls 1 [(0, .int p0)])
    (K : ∀ (pc : Nat) (ls : Array Slot) (r : Int32) (u : ((Nat → Int32) × (Nat → Nat → Int32))) (H : Heap) (locs : List Loc), decode cX12_isLetter pc = .ok (.ireturn, 1) → (((0 ≤ r.toInt ∧ r.toInt ≤ 1))) → va_P (dC, dI) vwCl (mW h0 kB kI kZ q g F) H → va_D A (mW h0 kB kI kZ q g F) → va_S A s.heap H locs → W p l e ({ frames := 3, cells := 0, slots := 0, locals := 80 } : Room) s m args below meth c H locs 0 0 Q (F0 m pc ls [.int r])) : W p l e ({ frames := 3, cells := 0, slots := 0, locals := 80 } : Room) s m args below meth c H locs 0 0 Q (F0 m 0 ls []) := by
  obtain ⟨hg1z, hg2z, hg3z, hg4z, hg5z, hg6z, hg7z, hg8z, hg9z, hg23z, hg27z, hg30z, hg34z, hg36z, hg39z, hg44z, hg47z, hg48z, hg51z, hg56z, hg59z, hg62z, hg65z, hg66z, hg70z, hF11z, hF12z, hF13z, hF15z, hF19z, hF21z, hF24z, hF25z, hF26z, hF33z, hF38z, hF41z, hF43z, hF45z, hF46z, hF50z, hF53z, hF54z⟩ := hI
  have zk0 : (0 : Int32).toInt = 0 := by decide +kernel
  have zk1 : (1 : Int32).toInt = 1 := by decide +kernel
  have zk65 : (65 : Int32).toInt = 65 := by decide +kernel
  have zk90 : (90 : Int32).toInt = 90 := by decide +kernel
  refine lv_iload_n hx hb dX12_isLetter_0 rfl (lv_at hl 0 rfl) ?_
  have hFc := va_free (wc := (mW h0 kB kI kZ q g F)) hD hS hA [0, 1, 2, 3, 4, 5, 6, 7, 8, 9, 10, 11, 12, 13, 14, 15, 16, 17, 18, 19, 20, 21, 22, 23, 24, 25, 26, 27, 28, 29, 30, 31, 32, 33, 34, 35, 36, 37, 38, 39, 40, 41, 42, 43, 44, 45] rfl
  refine va_calli (va_runS (As := [.int p0]) (rest := []) ⟨hx, hb, hml, hown, hts⟩ (m_isSmall l dC dI H.size h0 kB kI kZ q g F p0 ⟨hg1z, hg2z, hg3z, hg4z, hg5z, hg6z, hg7z, hg8z, hg9z, hg23z, hg27z, hg30z, hg34z, hg36z, hg39z, hg44z, hg47z, hg48z, hg51z, hg56z, hg59z, hg62z, hg65z, hg66z, hg70z, hF11z, hF12z, hF13z, hF15z, hF19z, hF21z, hF24z, hF25z, hF26z, hF33z, hF38z, hF41z, hF43z, hF45z, hF46z, hF50z, hF53z, hF54z⟩) (va_cwS 1 hts gw_X12_isLetter_X12_isSmall_183 rfl rfl rfl (by decide +kernel) ⟨Nat.le_of_ble_eq_true rfl, Nat.le_of_ble_eq_true rfl⟩) ⟨fun a U g mk q => by obtain ⟨q0, q1, qP, qK, qD⟩ := q; exact ⟨q0, q1, qP, va_K.moved (u := U) (U := U.calling g mk a) (Vm.Alike.refl U.vm) qK, qD⟩, fun U hU hW => ⟨rfl, by rw [hU], by rw [hU]; exact hP, va_K.moved hW.alike hK, hD.weaken (fun _ _ _ _ => trivial)⟩⟩ rfl rfl hl.1 rfl (lv_room (Nat.le_of_ble_eq_true rfl)) dX12_isLetter_1 ⟨Nat.le_of_ble_eq_true rfl, Nat.le_of_ble_eq_true rfl⟩) hS (fun q _ h => hFc q h) hFc (fun r5 u t H1 locs ht hvm hw hB hz1 hk1 hS => ?_)
  obtain ⟨ga6, fa7⟩ := u
  obtain ⟨hP1, hK1, hD1⟩ := hB
  rw [ht] at hP1
  obtain ⟨hP, hD⟩ := va_join (wr := []) (w1 := (mW h0 kB kI kZ q g F)) hP hD [0, 1, 2, 3, 4, 5, 6, 7, 8, 9, 10, 11, 12, 13, 14, 15, 16, 17, 18, 19, 20, 21, 22, 23, 24, 25, 26, 27, 28, 29, 30, 31, 32, 33, 34, 35, 36, 37, 38, 39, 40, 41, 42, 43, 44, 45] [] rfl rfl (by decide) (by decide) hk1 hFc hP1 hD1
  generalize H1 = H at hP hS ⊢
  have hP : va_P (dC, dI) vwCl (mW h0 kB kI kZ q g F) H := hP
  have hD : va_D A (mW h0 kB kI kZ q g F) := hD
  have f8 : (0 ≤ r5.toInt ∧ r5.toInt ≤ 1) := hw
  refine lv_if_ne (tgt := 19) hx hb dX12_isLetter_4 (by decide) (fun c9 => ?_) (fun c9 => ?_)
  · have c9 := z_ne c9
    refine lv_iconst (v := 1) hx hb dX12_isLetter_19 (by decide +kernel) ?_
    refine lv_goto (tgt := 24) hx hb dX12_isLetter_20 (by decide) ?_
    exact K 24 ls 1 (g, F) H _ dX12_isLetter_24 (show (0 ≤ (1 : Int32).toInt ∧ (1 : Int32).toInt ≤ 1) from by omega) hP hD hS
  · have c9 := congrArg Int32.toInt c9
    refine lv_iload_n hx hb dX12_isLetter_7 rfl (lv_at hl 0 rfl) ?_
    refine lv_bipush (v := 65) hx hb dX12_isLetter_8 (by decide +kernel) ?_
    refine lv_icmp_lt (tgt := 23) hx hb dX12_isLetter_10 (by decide) (fun c10 => ?_) (fun c10 => ?_)
    · have c10 := (z_lt _ _).mp c10
      refine lv_iconst (v := 0) hx hb dX12_isLetter_23 (by decide +kernel) ?_
      exact K 24 ls 0 (g, F) H _ dX12_isLetter_24 (show (0 ≤ (0 : Int32).toInt ∧ (0 : Int32).toInt ≤ 1) from by omega) hP hD hS
    · have c10 := z_nlt c10
      refine lv_iload_n hx hb dX12_isLetter_13 rfl (lv_at hl 0 rfl) ?_
      refine lv_bipush (v := 90) hx hb dX12_isLetter_14 (by decide +kernel) ?_
      refine lv_icmp_gt (tgt := 23) hx hb dX12_isLetter_16 (by decide) (fun c11 => ?_) (fun c11 => ?_)
      · have c11 := (z_lt _ _).mp c11
        refine lv_iconst (v := 0) hx hb dX12_isLetter_23 (by decide +kernel) ?_
        exact K 24 ls 0 (g, F) H _ dX12_isLetter_24 (show (0 ≤ (0 : Int32).toInt ∧ (0 : Int32).toInt ≤ 1) from by omega) hP hD hS
      · have c11 := z_nlt c11
        refine lv_iconst (v := 1) hx hb dX12_isLetter_19 (by decide +kernel) ?_
        refine lv_goto (tgt := 24) hx hb dX12_isLetter_20 (by decide) ?_
        exact K 24 ls 1 (g, F) H _ dX12_isLetter_24 (show (0 ≤ (1 : Int32).toInt ∧ (1 : Int32).toInt ≤ 1) from by omega) hP hD hS
set_option maxHeartbeats 4000000 in
set_option maxRecDepth 100000 in
theorem m_isLetter (l : Launch) (dC : Nat → ClassId) (dI : Nat → Nat → Nat) (sz : Nat) (h0 : Nat) (kB kI kZ : ClassId) (q : Nat → Nat) (g : Nat → Int32) (F : Nat → Nat → Int32) (p0 : Int32) (hI : MInv g F) : Met l yX12_isLetter vmX12_isLetter ({ frames := 3, cells := 0, slots := 0, locals := 80 } : Room) (va_Pc [.int p0] (fun U => U.heap.size = sz ∧ va_P (dC, dI) vwCl (mW h0 kB kI kZ q g F) U.heap ∧ va_K (dC, dI) vwCl (mT kB kI kZ) U ∧ va_D (fun _ => True) (mW h0 kB kI kZ q g F))) (va_Qi (fun (r : Int32) (u : ((Nat → Int32) × (Nat → Nat → Int32))) => ((0 ≤ r.toInt ∧ r.toInt ≤ 1))) (fun u t => va_P (dC, dI) vwCl (mW h0 kB kI kZ q g F) t.heap ∧ va_K (dC, dI) vwCl (mT kB kI kZ) t ∧ va_D (va_A (mW h0 kB kI kZ q g F) sz) (mW h0 kB kI kZ q g F)) (va_A (mW h0 kB kI kZ q g F) sz)) 0 0 (va_A (mW h0 kB kI kZ q g F) sz) := by
  refine Met.ofW (cc := cX12_isLetter) (maxL := 1) (ret := (some .boolean)) (by decide) rfl ?_
  intro p e s m args below meth c s₁ B hml hv
  obtain ⟨rfl, hsz, hP, hK, hD0⟩ := hv
  have hx := B.exec
  have hb := B.bytes
  have hr := B.returns
  have hts := atoms_spec (ws := vmX12_isLetter) B.pre
  have hown : s.vm.findClass RX12 = some m.cls := findClass_of_methodNamed B.named
  subst hsz
  have hD := hD0.self (sz := s.heap.size)
  generalize hAe : va_A (mW h0 kB kI kZ q g F) s.heap.size = A at hD ⊢
  have hA : ∀ q : Nat, s.heap.size ≤ q → A q := fun q h => by rw [← hAe]; exact Or.inr h
  have hS : va_S A s.heap s.heap [] := va_S.rf
  have hl := lv_entry ([.int p0]) (n := 1) (Nat.le_of_ble_eq_true rfl)
  rw [lg_entry_eq]
  generalize (lg_sl ([.int p0]) ++ List.replicate (1 - (lg_sl ([.int p0])).length) Slot.unset).toArray = ls at hl ⊢
  exact bm_isLetter p0 hx hb hml hown hts hA hK hI hP hD hS hl (fun pc ls r u H locs hd hw hP hD hS => W.zret (v := r) hx hb hr (z_nb (by have := hw; omega)) (fun t ht hW => ⟨⟨r, u, rfl, hw, by rw [ht]; exact hP, va_K.moved hW.alike hK, hD⟩, hS.F ht⟩) hS.2.2 hd)
set_option maxHeartbeats 4000000 in
set_option maxRecDepth 100000 in
theorem bm_see {p : Program} {l : Launch} {e : Env} {s : State} {m : MethodId} {args : Array Value} {below : List Frame} {meth : Method} {c : Code} {Q : State → Prop} {A : Nat → Prop} {dC : Nat → ClassId} {dI : Nat → Nat → Nat} {h0 : Nat} {kB kI kZ : ClassId} {q : Nat → Nat} {g : Nat → Int32} {F : Nat → Nat → Int32} {H : Heap} {locs : List Loc} {ls : Array Slot} (p0 : Int32) (hx : p.tables.exec = Jvm.exec) (hb : c.code = cX12_see) (hml : c.maxLocals = 2) (hown : s.vm.findClass RX12 = some m.cls) (hts : ∀ w ∈ vmX12_see, w.before args s = true) (hA : ∀ q : Nat, s.heap.size ≤ q → A q) (hK : va_K (dC, dI) vwCl (mT kB kI kZ) s) (hI : MInv g F) (hq0 : 0 ≤ p0.toInt) (hP : va_P (dC, dI) vwCl (mW h0 kB kI kZ q g F) H) (hD : va_D A (mW h0 kB kI kZ q g F)) (hS : va_S A s.heap H locs) (hl : lv_has ls 2 [(0, .ref h0), (1, .int p0)])
    (K : ∀ (pc : Nat) (ls : Array Slot) (r : Int32) (u : ((Nat → Int32) × (Nat → Nat → Int32))) (H : Heap) (locs : List Loc), decode cX12_see pc = .ok (.ireturn, 1) → ((((-1) ≤ r.toInt ∧ r.toInt ≤ 255)) ∧ (((g 2).toInt ≤ p0.toInt → r.toInt = -1)) ∧ ((p0.toInt < (g 2).toInt → 0 ≤ r.toInt))) → va_P (dC, dI) vwCl (mW h0 kB kI kZ q g F) H → va_D A (mW h0 kB kI kZ q g F) → va_S A s.heap H locs → W p l e ({ frames := 2, cells := 0, slots := 0, locals := 60 } : Room) s m args below meth c H locs 0 0 Q (F0 m pc ls [.int r])) : W p l e ({ frames := 2, cells := 0, slots := 0, locals := 60 } : Room) s m args below meth c H locs 0 0 Q (F0 m 0 ls []) := by
  obtain ⟨hg1z, hg2z, hg3z, hg4z, hg5z, hg6z, hg7z, hg8z, hg9z, hg23z, hg27z, hg30z, hg34z, hg36z, hg39z, hg44z, hg47z, hg48z, hg51z, hg56z, hg59z, hg62z, hg65z, hg66z, hg70z, hF11z, hF12z, hF13z, hF15z, hF19z, hF21z, hF24z, hF25z, hF26z, hF33z, hF38z, hF41z, hF43z, hF45z, hF46z, hF50z, hF53z, hF54z⟩ := hI
  have zkm1 : (-1 : Int32).toInt = -1 := by decide +kernel
  have zk255 : (255 : Int32).toInt = 255 := by decide +kernel
  refine lv_iload_n hx hb dX12_see_0 rfl (lv_at hl 1 rfl) ?_
  refine lv_aload_n hx hb dX12_see_1 rfl (lv_at hl 0 rfl) ?_
  refine va_get (D := (dC, dI)) (ci := 12) (v := .int (g 2)) (C := RX12) (T := TX12) (N := 71) hx hb hts (fun _ h => List.mem_append_right _ h) hown hK hP 0 rfl rfl 2 (by decide) (hts (.fieldLink RX12 155 "SpellTurnerModel" "size" "I") (List.mem_of_getElem? (i := 1) rfl)) (fun _ h9 => h9) rfl dX12_see_2 ?_
  refine lv_icmp_ge (tgt := 21) hx hb dX12_see_5 (by decide) (fun c12 => ?_) (fun c12 => ?_)
  · have c12 := (z_le _ _).mp c12
    refine lv_iconst (v := (-1)) hx hb dX12_see_21 (by decide +kernel) ?_
    exact K 22 ls (-1) (g, F) H _ dX12_see_22 ⟨(show ((-1) ≤ (-1 : Int32).toInt ∧ (-1 : Int32).toInt ≤ 255) from by omega), (show ((g 2).toInt ≤ p0.toInt → (-1 : Int32).toInt = -1) from by omega), (show (p0.toInt < (g 2).toInt → 0 ≤ (-1 : Int32).toInt) from by omega)⟩ hP hD hS
  · have c12 := z_nle c12
    refine lv_aload_n hx hb dX12_see_8 rfl (lv_at hl 0 rfl) ?_
    refine va_get (D := (dC, dI)) (ci := 12) (v := .ref (q 0)) (C := RX12) (T := TX12) (N := 71) hx hb hts (fun _ h => List.mem_append_right _ h) hown hK hP 0 rfl rfl 0 (by decide) (hts (.fieldLink RX12 7 "SpellTurnerModel" "tape" "[B") (List.mem_of_getElem? (i := 2) rfl)) (fun _ h9 => h9) rfl dX12_see_9 ?_
    refine lv_iload_n hx hb dX12_see_12 rfl (lv_at hl 1 rfl) ?_
    refine va_bald hx hb hK hP 1 0 rfl rfl (z_in (i := p0) (by omega) (by omega)) dX12_see_13 ?_
    refine lv_topi (fun x13 ex13 => ?_)
    clear ex13
    refine lv_sipush (v := 255) hx hb dX12_see_14 (by decide +kernel) ?_
    refine lv_iand hx hb dX12_see_17 ?_
    refine lv_topi (fun x14 ex14 => ?_)
    have fx14 : 0 ≤ x14.toInt ∧ x14.toInt ≤ 255 := by rw [ex14]; exact z_and255 _
    clear ex14
    refine lv_goto (tgt := 22) hx hb dX12_see_18 (by decide) ?_
    exact K 22 ls x14 (g, F) H _ dX12_see_22 ⟨(show ((-1) ≤ x14.toInt ∧ x14.toInt ≤ 255) from by omega), (show ((g 2).toInt ≤ p0.toInt → x14.toInt = -1) from by omega), (show (p0.toInt < (g 2).toInt → 0 ≤ x14.toInt) from by omega)⟩ hP hD hS
set_option maxHeartbeats 4000000 in
set_option maxRecDepth 100000 in
theorem m_see (l : Launch) (dC : Nat → ClassId) (dI : Nat → Nat → Nat) (sz : Nat) (h0 : Nat) (kB kI kZ : ClassId) (q : Nat → Nat) (g : Nat → Int32) (F : Nat → Nat → Int32) (p0 : Int32) (hI : MInv g F) (hq0 : 0 ≤ p0.toInt) : Met l yX12_see vmX12_see ({ frames := 2, cells := 0, slots := 0, locals := 60 } : Room) (va_Pc [.ref h0, .int p0] (fun U => U.heap.size = sz ∧ va_P (dC, dI) vwCl (mW h0 kB kI kZ q g F) U.heap ∧ va_K (dC, dI) vwCl (mT kB kI kZ) U ∧ va_D (fun _ => True) (mW h0 kB kI kZ q g F))) (va_Qi (fun (r : Int32) (u : ((Nat → Int32) × (Nat → Nat → Int32))) => (((-1) ≤ r.toInt ∧ r.toInt ≤ 255)) ∧ (((g 2).toInt ≤ p0.toInt → r.toInt = -1)) ∧ ((p0.toInt < (g 2).toInt → 0 ≤ r.toInt))) (fun u t => va_P (dC, dI) vwCl (mW h0 kB kI kZ q g F) t.heap ∧ va_K (dC, dI) vwCl (mT kB kI kZ) t ∧ va_D (va_A (mW h0 kB kI kZ q g F) sz) (mW h0 kB kI kZ q g F)) (va_A (mW h0 kB kI kZ q g F) sz)) 0 0 (va_A (mW h0 kB kI kZ q g F) sz) := by
  refine Met.ofW (cc := cX12_see) (maxL := 2) (ret := (some .int)) (by decide) rfl ?_
  intro p e s m args below meth c s₁ B hml hv
  obtain ⟨rfl, hsz, hP, hK, hD0⟩ := hv
  have hx := B.exec
  have hb := B.bytes
  have hr := B.returns
  have hts := atoms_spec (ws := vmX12_see) B.pre
  have hown : s.vm.findClass RX12 = some m.cls := findClass_of_methodNamed B.named
  subst hsz
  have hD := hD0.self (sz := s.heap.size)
  generalize hAe : va_A (mW h0 kB kI kZ q g F) s.heap.size = A at hD ⊢
  have hA : ∀ q : Nat, s.heap.size ≤ q → A q := fun q h => by rw [← hAe]; exact Or.inr h
  have hS : va_S A s.heap s.heap [] := va_S.rf
  have hl := lv_entry ([.ref h0, .int p0]) (n := 2) (Nat.le_of_ble_eq_true rfl)
  rw [lg_entry_eq]
  generalize (lg_sl ([.ref h0, .int p0]) ++ List.replicate (2 - (lg_sl ([.ref h0, .int p0])).length) Slot.unset).toArray = ls at hl ⊢
  exact bm_see p0 hx hb hml hown hts hA hK hI hq0 hP hD hS hl (fun pc ls r u H locs hd hw hP hD hS => W.iret (v := r) hx hb hr (fun t ht hW => ⟨⟨r, u, rfl, hw, by rw [ht]; exact hP, va_K.moved hW.alike hK, hD⟩, hS.F ht⟩) hS.2.2 hd)
set_option maxHeartbeats 4000000 in
set_option maxRecDepth 100000 in
theorem bm_wrong {p : Program} {l : Launch} {e : Env} {s : State} {m : MethodId} {args : Array Value} {below : List Frame} {meth : Method} {c : Code} {Q : State → Prop} {A : Nat → Prop} {dC : Nat → ClassId} {dI : Nat → Nat → Nat} {h0 : Nat} {kB kI kZ : ClassId} {q : Nat → Nat} {g : Nat → Int32} {F : Nat → Nat → Int32} {H : Heap} {locs : List Loc} {ls : Array Slot} (p0 : Int32) (hx : p.tables.exec = Jvm.exec) (hb : c.code = cX12_wrong) (hml : c.maxLocals = 2) (hown : s.vm.findClass RX12 = some m.cls) (hts : ∀ w ∈ vmX12_wrong, w.before args s = true) (hA : ∀ q : Nat, s.heap.size ≤ q → A q) (hK : va_K (dC, dI) vwCl (mT kB kI kZ) s) (hI : MInv g F) (hq0 : 0 ≤ p0.toInt ∧ p0.toInt ≤ 4) (hP : va_P (dC, dI) vwCl (mW h0 kB kI kZ q g F) H) (hD : va_D A (mW h0 kB kI kZ q g F)) (hS : va_S A s.heap H locs) (hl : lv_has ls 2 [(0, .ref h0), (1, .int p0)])
    (K : ∀ (pc : Nat) (ls : Array Slot) (r : Int32) (u : ((Nat → Int32) × (Nat → Nat → Int32))) (H : Heap) (locs : List Loc), decode cX12_wrong pc = .ok (.ireturn, 1) → ((((0) ≤ (u.1 7).toInt ∧ (u.1 7).toInt ≤ 4)) ∧ (((-1) ≤ (u.1 8).toInt ∧ (u.1 8).toInt ≤ 2000)) ∧ (r.toInt = 0) ∧ ((0 ≤ r.toInt ∧ r.toInt ≤ 1))) → va_P (dC, dI) vwCl (mW h0 kB kI kZ q (upd (upd g 7 (u.1 7)) 8 (u.1 8)) F) H → va_D A (mW h0 kB kI kZ q (upd (upd g 7 (u.1 7)) 8 (u.1 8)) F) → va_S A s.heap H locs → W p l e ({ frames := 2, cells := 0, slots := 0, locals := 60 } : Room) s m args below meth c H locs 0 0 Q (F0 m pc ls [.int r])) : W p l e ({ frames := 2, cells := 0, slots := 0, locals := 60 } : Room) s m args below meth c H locs 0 0 Q (F0 m 0 ls []) := by
  obtain ⟨hg1z, hg2z, hg3z, hg4z, hg5z, hg6z, hg7z, hg8z, hg9z, hg23z, hg27z, hg30z, hg34z, hg36z, hg39z, hg44z, hg47z, hg48z, hg51z, hg56z, hg59z, hg62z, hg65z, hg66z, hg70z, hF11z, hF12z, hF13z, hF15z, hF19z, hF21z, hF24z, hF25z, hF26z, hF33z, hF38z, hF41z, hF43z, hF45z, hF46z, hF50z, hF53z, hF54z⟩ := hI
  have zk0 : (0 : Int32).toInt = 0 := by decide +kernel
  refine lv_aload_n hx hb dX12_wrong_0 rfl (lv_at hl 0 rfl) ?_
  refine lv_iload_n hx hb dX12_wrong_1 rfl (lv_at hl 1 rfl) ?_
  refine va_put (D := (dC, dI)) (ci := 12) (v := .int p0) (ty := .int) (C := RX12) (T := TX12) (N := 71) hx hb hts (fun _ h => List.mem_append_right _ h) tyX12 tyX12_ok nmX12 hown hK hP hD hS 0 rfl rfl 7 (by decide) (hts (.fieldLink RX12 194 "SpellTurnerModel" "faultKind" "I") (List.mem_of_getElem? (i := 1) rfl)) (fun _ h9 => h9) rfl (by decide +kernel) rfl rfl (Nat.le_of_ble_eq_true rfl) dX12_wrong_2 (fun H locs hP hD hS => ?_)
  have hP : va_P (dC, dI) vwCl (mW h0 kB kI kZ q (upd g 7 p0) F) H := hP
  have hD : va_D A (mW h0 kB kI kZ q (upd g 7 p0) F) := hD
  have hg15 : (0) ≤ p0.toInt ∧ p0.toInt ≤ 4 := ⟨by omega, by omega⟩
  refine lv_aload_n hx hb dX12_wrong_5 rfl (lv_at hl 0 rfl) ?_
  refine lv_aload_n hx hb dX12_wrong_6 rfl (lv_at hl 0 rfl) ?_
  refine va_get (D := (dC, dI)) (ci := 12) (v := .int (g 5)) (C := RX12) (T := TX12) (N := 71) hx hb hts (fun _ h => List.mem_append_right _ h) hown hK hP 0 rfl rfl 5 (by decide) (hts (.fieldLink RX12 177 "SpellTurnerModel" "at" "I") (List.mem_of_getElem? (i := 2) rfl)) (fun _ h9 => h9) rfl dX12_wrong_7 ?_
  refine va_put (D := (dC, dI)) (ci := 12) (v := .int (g 5)) (ty := .int) (C := RX12) (T := TX12) (N := 71) hx hb hts (fun _ h => List.mem_append_right _ h) tyX12 tyX12_ok nmX12 hown hK hP hD hS 0 rfl rfl 8 (by decide) (hts (.fieldLink RX12 13 "SpellTurnerModel" "faultPlace" "I") (List.mem_of_getElem? (i := 3) rfl)) (fun _ h9 => h9) rfl (by decide +kernel) rfl rfl (Nat.le_of_ble_eq_true rfl) dX12_wrong_10 (fun H locs hP hD hS => ?_)
  have hP : va_P (dC, dI) vwCl (mW h0 kB kI kZ q (upd (upd g 7 p0) 8 (g 5)) F) H := hP
  have hD : va_D A (mW h0 kB kI kZ q (upd (upd g 7 p0) 8 (g 5)) F) := hD
  have hg16 : (-1) ≤ (g 5).toInt ∧ (g 5).toInt ≤ 2000 := ⟨by omega, by omega⟩
  refine lv_iconst (v := 0) hx hb dX12_wrong_13 (by decide +kernel) ?_
  exact K 14 ls 0 ((upd (upd g 7 p0) 8 (g 5)), F) H _ dX12_wrong_14 ⟨hg15, hg16, (show (0 : Int32).toInt = 0 from by omega), (show (0 ≤ (0 : Int32).toInt ∧ (0 : Int32).toInt ≤ 1) from by omega)⟩ hP hD hS
set_option maxHeartbeats 4000000 in
set_option maxRecDepth 100000 in
theorem m_wrong (l : Launch) (dC : Nat → ClassId) (dI : Nat → Nat → Nat) (sz : Nat) (h0 : Nat) (kB kI kZ : ClassId) (q : Nat → Nat) (g : Nat → Int32) (F : Nat → Nat → Int32) (p0 : Int32) (hI : MInv g F) (hq0 : 0 ≤ p0.toInt ∧ p0.toInt ≤ 4) : Met l yX12_wrong vmX12_wrong ({ frames := 2, cells := 0, slots := 0, locals := 60 } : Room) (va_Pc [.ref h0, .int p0] (fun U => U.heap.size = sz ∧ va_P (dC, dI) vwCl (mW h0 kB kI kZ q g F) U.heap ∧ va_K (dC, dI) vwCl (mT kB kI kZ) U ∧ va_D (fun _ => True) (mW h0 kB kI kZ q g F))) (va_Qi (fun (r : Int32) (u : ((Nat → Int32) × (Nat → Nat → Int32))) => (((0) ≤ (u.1 7).toInt ∧ (u.1 7).toInt ≤ 4)) ∧ (((-1) ≤ (u.1 8).toInt ∧ (u.1 8).toInt ≤ 2000)) ∧ (r.toInt = 0) ∧ ((0 ≤ r.toInt ∧ r.toInt ≤ 1))) (fun u t => va_P (dC, dI) vwCl (mW h0 kB kI kZ q (upd (upd g 7 (u.1 7)) 8 (u.1 8)) F) t.heap ∧ va_K (dC, dI) vwCl (mT kB kI kZ) t ∧ va_D (va_A (mW h0 kB kI kZ q g F) sz) (mW h0 kB kI kZ q (upd (upd g 7 (u.1 7)) 8 (u.1 8)) F)) (va_A (mW h0 kB kI kZ q g F) sz)) 0 0 (va_A (mW h0 kB kI kZ q g F) sz) := by
  refine Met.ofW (cc := cX12_wrong) (maxL := 2) (ret := (some .boolean)) (by decide) rfl ?_
  intro p e s m args below meth c s₁ B hml hv
  obtain ⟨rfl, hsz, hP, hK, hD0⟩ := hv
  have hx := B.exec
  have hb := B.bytes
  have hr := B.returns
  have hts := atoms_spec (ws := vmX12_wrong) B.pre
  have hown : s.vm.findClass RX12 = some m.cls := findClass_of_methodNamed B.named
  subst hsz
  have hD := hD0.self (sz := s.heap.size)
  generalize hAe : va_A (mW h0 kB kI kZ q g F) s.heap.size = A at hD ⊢
  have hA : ∀ q : Nat, s.heap.size ≤ q → A q := fun q h => by rw [← hAe]; exact Or.inr h
  have hS : va_S A s.heap s.heap [] := va_S.rf
  have hl := lv_entry ([.ref h0, .int p0]) (n := 2) (Nat.le_of_ble_eq_true rfl)
  rw [lg_entry_eq]
  generalize (lg_sl ([.ref h0, .int p0]) ++ List.replicate (2 - (lg_sl ([.ref h0, .int p0])).length) Slot.unset).toArray = ls at hl ⊢
  exact bm_wrong p0 hx hb hml hown hts hA hK hI hq0 hP hD hS hl (fun pc ls r u H locs hd hw hP hD hS => W.zret (v := r) hx hb hr (z_nb (by have := hw.2.2.2; omega)) (fun t ht hW => ⟨⟨r, u, rfl, hw, by rw [ht]; exact hP, va_K.moved hW.alike hK, hD⟩, hS.F ht⟩) hS.2.2 hd)
set_option maxHeartbeats 4000000 in
set_option maxRecDepth 100000 in
theorem bm_isStage {p : Program} {l : Launch} {e : Env} {s : State} {m : MethodId} {args : Array Value} {below : List Frame} {meth : Method} {c : Code} {Q : State → Prop} {A : Nat → Prop} {dC : Nat → ClassId} {dI : Nat → Nat → Nat} {h0 : Nat} {kB kI kZ : ClassId} {q : Nat → Nat} {g : Nat → Int32} {F : Nat → Nat → Int32} {H : Heap} {locs : List Loc} {ls : Array Slot} (p0 : Int32) (hx : p.tables.exec = Jvm.exec) (hb : c.code = cX12_isStage) (hml : c.maxLocals = 2) (hown : s.vm.findClass RX12 = some m.cls) (hts : ∀ w ∈ vmX12_isStage, w.before args s = true) (hA : ∀ q : Nat, s.heap.size ≤ q → A q) (hK : va_K (dC, dI) vwCl (mT kB kI kZ) s) (hI : MInv g F) (hP : va_P (dC, dI) vwCl (mW h0 kB kI kZ q g F) H) (hD : va_D A (mW h0 kB kI kZ q g F)) (hS : va_S A s.heap H locs) (hl : lv_has ls 2 [(0, .ref h0), (1, .int p0)])
    (K : ∀ (pc : Nat) (ls : Array Slot) (r : Int32) (u : ((Nat → Int32) × (Nat → Nat → Int32))) (H : Heap) (locs : List Loc), decode cX12_isStage pc = .ok (.ireturn, 1) → (((0 ≤ r.toInt ∧ r.toInt ≤ 1))) → va_P (dC, dI) vwCl (mW h0 kB kI kZ q g F) H → va_D A (mW h0 kB kI kZ q g F) → va_S A s.heap H locs → W p l e ({ frames := 3, cells := 0, slots := 0, locals := 82 } : Room) s m args below meth c H locs 0 0 Q (F0 m pc ls [.int r])) : W p l e ({ frames := 3, cells := 0, slots := 0, locals := 82 } : Room) s m args below meth c H locs 0 0 Q (F0 m 0 ls []) := by
  obtain ⟨hg1z, hg2z, hg3z, hg4z, hg5z, hg6z, hg7z, hg8z, hg9z, hg23z, hg27z, hg30z, hg34z, hg36z, hg39z, hg44z, hg47z, hg48z, hg51z, hg56z, hg59z, hg62z, hg65z, hg66z, hg70z, hF11z, hF12z, hF13z, hF15z, hF19z, hF21z, hF24z, hF25z, hF26z, hF33z, hF38z, hF41z, hF43z, hF45z, hF46z, hF50z, hF53z, hF54z⟩ := hI
  have zk0 : (0 : Int32).toInt = 0 := by decide +kernel
  refine lv_iload_n hx hb dX12_isStage_0 rfl (lv_at hl 1 rfl) ?_
  refine lv_iconst (v := 0) hx hb dX12_isStage_1 (by decide +kernel) ?_
  refine lv_aload_n hx hb dX12_isStage_2 rfl (lv_at hl 0 rfl) ?_
  refine va_get (D := (dC, dI)) (ci := 12) (v := .int (g 9)) (C := RX12) (T := TX12) (N := 71) hx hb hts (fun _ h => List.mem_append_right _ h) hown hK hP 0 rfl rfl 9 (by decide) (hts (.fieldLink RX12 222 "SpellTurnerModel" "reforms" "I") (List.mem_of_getElem? (i := 1) rfl)) (fun _ h9 => h9) rfl dX12_isStage_3 ?_
  have hFc := va_free (wc := (mW h0 kB kI kZ q g F)) hD hS hA [0, 1, 2, 3, 4, 5, 6, 7, 8, 9, 10, 11, 12, 13, 14, 15, 16, 17, 18, 19, 20, 21, 22, 23, 24, 25, 26, 27, 28, 29, 30, 31, 32, 33, 34, 35, 36, 37, 38, 39, 40, 41, 42, 43, 44, 45] rfl
  refine va_calli (va_runS (As := [.int p0, .int 0, .int (g 9)]) (rest := []) ⟨hx, hb, hml, hown, hts⟩ (m_in l dC dI H.size h0 kB kI kZ q g F p0 0 (g 9) ⟨hg1z, hg2z, hg3z, hg4z, hg5z, hg6z, hg7z, hg8z, hg9z, hg23z, hg27z, hg30z, hg34z, hg36z, hg39z, hg44z, hg47z, hg48z, hg51z, hg56z, hg59z, hg62z, hg65z, hg66z, hg70z, hF11z, hF12z, hF13z, hF15z, hF19z, hF21z, hF24z, hF25z, hF26z, hF33z, hF38z, hF41z, hF43z, hF45z, hF46z, hF50z, hF53z, hF54z⟩) (va_cwS 3 hts gw_X12_isStage_X12_in_226 rfl rfl rfl (by decide +kernel) ⟨Nat.le_of_ble_eq_true rfl, Nat.le_of_ble_eq_true rfl⟩) ⟨fun a U g mk q => by obtain ⟨q0, q1, qP, qK, qD⟩ := q; exact ⟨q0, q1, qP, va_K.moved (u := U) (U := U.calling g mk a) (Vm.Alike.refl U.vm) qK, qD⟩, fun U hU hW => ⟨rfl, by rw [hU], by rw [hU]; exact hP, va_K.moved hW.alike hK, hD.weaken (fun _ _ _ _ => trivial)⟩⟩ rfl rfl hl.1 rfl (lv_room (Nat.le_of_ble_eq_true rfl)) dX12_isStage_6 ⟨Nat.le_of_ble_eq_true rfl, Nat.le_of_ble_eq_true rfl⟩) hS (fun q _ h => hFc q h) hFc (fun r17 u t H1 locs ht hvm hw hB hz1 hk1 hS => ?_)
  obtain ⟨ga18, fa19⟩ := u
  obtain ⟨hP1, hK1, hD1⟩ := hB
  rw [ht] at hP1
  obtain ⟨hP, hD⟩ := va_join (wr := []) (w1 := (mW h0 kB kI kZ q g F)) hP hD [0, 1, 2, 3, 4, 5, 6, 7, 8, 9, 10, 11, 12, 13, 14, 15, 16, 17, 18, 19, 20, 21, 22, 23, 24, 25, 26, 27, 28, 29, 30, 31, 32, 33, 34, 35, 36, 37, 38, 39, 40, 41, 42, 43, 44, 45] [] rfl rfl (by decide) (by decide) hk1 hFc hP1 hD1
  generalize H1 = H at hP hS ⊢
  have hP : va_P (dC, dI) vwCl (mW h0 kB kI kZ q g F) H := hP
  have hD : va_D A (mW h0 kB kI kZ q g F) := hD
  obtain ⟨f20, f21⟩ : ((r17.toInt = 1 → (0 : Int32).toInt ≤ p0.toInt ∧ p0.toInt ≤ (g 9).toInt)) ∧ ((0 ≤ r17.toInt ∧ r17.toInt ≤ 1)) := hw
  exact K 9 ls r17 (g, F) H _ dX12_isStage_9 (show (0 ≤ r17.toInt ∧ r17.toInt ≤ 1) from by omega) hP hD hS
set_option maxHeartbeats 4000000 in
set_option maxRecDepth 100000 in
theorem m_isStage (l : Launch) (dC : Nat → ClassId) (dI : Nat → Nat → Nat) (sz : Nat) (h0 : Nat) (kB kI kZ : ClassId) (q : Nat → Nat) (g : Nat → Int32) (F : Nat → Nat → Int32) (p0 : Int32) (hI : MInv g F) : Met l yX12_isStage vmX12_isStage ({ frames := 3, cells := 0, slots := 0, locals := 82 } : Room) (va_Pc [.ref h0, .int p0] (fun U => U.heap.size = sz ∧ va_P (dC, dI) vwCl (mW h0 kB kI kZ q g F) U.heap ∧ va_K (dC, dI) vwCl (mT kB kI kZ) U ∧ va_D (fun _ => True) (mW h0 kB kI kZ q g F))) (va_Qi (fun (r : Int32) (u : ((Nat → Int32) × (Nat → Nat → Int32))) => ((0 ≤ r.toInt ∧ r.toInt ≤ 1))) (fun u t => va_P (dC, dI) vwCl (mW h0 kB kI kZ q g F) t.heap ∧ va_K (dC, dI) vwCl (mT kB kI kZ) t ∧ va_D (va_A (mW h0 kB kI kZ q g F) sz) (mW h0 kB kI kZ q g F)) (va_A (mW h0 kB kI kZ q g F) sz)) 0 0 (va_A (mW h0 kB kI kZ q g F) sz) := by
  refine Met.ofW (cc := cX12_isStage) (maxL := 2) (ret := (some .boolean)) (by decide) rfl ?_
  intro p e s m args below meth c s₁ B hml hv
  obtain ⟨rfl, hsz, hP, hK, hD0⟩ := hv
  have hx := B.exec
  have hb := B.bytes
  have hr := B.returns
  have hts := atoms_spec (ws := vmX12_isStage) B.pre
  have hown : s.vm.findClass RX12 = some m.cls := findClass_of_methodNamed B.named
  subst hsz
  have hD := hD0.self (sz := s.heap.size)
  generalize hAe : va_A (mW h0 kB kI kZ q g F) s.heap.size = A at hD ⊢
  have hA : ∀ q : Nat, s.heap.size ≤ q → A q := fun q h => by rw [← hAe]; exact Or.inr h
  have hS : va_S A s.heap s.heap [] := va_S.rf
  have hl := lv_entry ([.ref h0, .int p0]) (n := 2) (Nat.le_of_ble_eq_true rfl)
  rw [lg_entry_eq]
  generalize (lg_sl ([.ref h0, .int p0]) ++ List.replicate (2 - (lg_sl ([.ref h0, .int p0])).length) Slot.unset).toArray = ls at hl ⊢
  exact bm_isStage p0 hx hb hml hown hts hA hK hI hP hD hS hl (fun pc ls r u H locs hd hw hP hD hS => W.zret (v := r) hx hb hr (z_nb (by have := hw; omega)) (fun t ht hW => ⟨⟨r, u, rfl, hw, by rw [ht]; exact hP, va_K.moved hW.alike hK, hD⟩, hS.F ht⟩) hS.2.2 hd)
set_option maxHeartbeats 4000000 in
set_option maxRecDepth 100000 in
theorem bm_hasNought {p : Program} {l : Launch} {e : Env} {s : State} {m : MethodId} {args : Array Value} {below : List Frame} {meth : Method} {c : Code} {Q : State → Prop} {A : Nat → Prop} {dC : Nat → ClassId} {dI : Nat → Nat → Nat} {h0 : Nat} {kB kI kZ : ClassId} {q : Nat → Nat} {g : Nat → Int32} {F : Nat → Nat → Int32} {H : Heap} {locs : List Loc} {ls : Array Slot} (p0 : Int32) (hx : p.tables.exec = Jvm.exec) (hb : c.code = cX12_hasNought) (hml : c.maxLocals = 3) (hown : s.vm.findClass RX12 = some m.cls) (hts : ∀ w ∈ vmX12_hasNought, w.before args s = true) (hA : ∀ q : Nat, s.heap.size ≤ q → A q) (hK : va_K (dC, dI) vwCl (mT kB kI kZ) s) (hI : MInv g F) (hq0 : p0.toInt ≤ 2000) (hP : va_P (dC, dI) vwCl (mW h0 kB kI kZ q g F) H) (hD : va_D A (mW h0 kB kI kZ q g F)) (hS : va_S A s.heap H locs) (hl : lv_has ls 3 [(0, .ref h0), (1, .int p0)])
    (K : ∀ (pc : Nat) (ls : Array Slot) (r : Int32) (u : ((Nat → Int32) × (Nat → Nat → Int32))) (H : Heap) (locs : List Loc), decode cX12_hasNought pc = .ok (.ireturn, 1) → (((0 ≤ r.toInt ∧ r.toInt ≤ 1))) → va_P (dC, dI) vwCl (mW h0 kB kI kZ q g F) H → va_D A (mW h0 kB kI kZ q g F) → va_S A s.heap H locs → W p l e ({ frames := 2, cells := 0, slots := 0, locals := 60 } : Room) s m args below meth c H locs 0 0 Q (F0 m pc ls [.int r])) : W p l e ({ frames := 2, cells := 0, slots := 0, locals := 60 } : Room) s m args below meth c H locs 0 0 Q (F0 m 0 ls []) := by
  obtain ⟨hg1z, hg2z, hg3z, hg4z, hg5z, hg6z, hg7z, hg8z, hg9z, hg23z, hg27z, hg30z, hg34z, hg36z, hg39z, hg44z, hg47z, hg48z, hg51z, hg56z, hg59z, hg62z, hg65z, hg66z, hg70z, hF11z, hF12z, hF13z, hF15z, hF19z, hF21z, hF24z, hF25z, hF26z, hF33z, hF38z, hF41z, hF43z, hF45z, hF46z, hF50z, hF53z, hF54z⟩ := hI
  have zk0 : (0 : Int32).toInt = 0 := by decide +kernel
  have zk1 : (1 : Int32).toInt = 1 := by decide +kernel
  refine lv_iconst (v := 0) hx hb dX12_hasNought_0 (by decide +kernel) ?_
  refine lv_istore_n (lv' := [(2, .int 0), (0, .ref h0), (1, .int p0)]) hx hb dX12_hasNought_1 rfl hl (by decide) rfl (fun ls hl => ?_)
  have lp2 : ∀ (n2 : Nat) (x22 : Int32) (gl23 : Nat → Int32) (fl24 : Nat → Nat → Int32) (H : Heap) (locs : List Loc) (ls : Array Slot), (2000 - x22.toInt).toNat < n2 → 0 ≤ x22.toInt → va_P (dC, dI) vwCl (mW h0 kB kI kZ q g F) H → va_D A (mW h0 kB kI kZ q g F) → va_S A s.heap H locs → lv_has ls 3 [(2, .int x22), (0, .ref h0), (1, .int p0)] → W p l e ({ frames := 2, cells := 0, slots := 0, locals := 60 } : Room) s m args below meth c H locs 0 0 Q (F0 m 2 ls []) := by
    intro n2
    induction n2 with
    | zero => intro x22 gl23 fl24 H locs ls hm; exact absurd hm (Nat.not_lt_zero _)
    | succ n2 ih2 =>
      intro x22 gl23 fl24 H locs ls hm2 f25 hP hD hS hl
      refine lv_iload_n hx hb dX12_hasNought_2 rfl (lv_at hl 0 rfl) ?_
      refine lv_iload_n hx hb dX12_hasNought_3 rfl (lv_at hl 2 rfl) ?_
      refine lv_icmp_ge (tgt := 24) hx hb dX12_hasNought_4 (by decide) (fun c26 => ?_) (fun c26 => ?_)
      · have c26 := (z_le _ _).mp c26
        refine lv_iconst (v := 0) hx hb dX12_hasNought_24 (by decide +kernel) ?_
        exact K 25 ls 0 (g, F) H _ dX12_hasNought_25 (show (0 ≤ (0 : Int32).toInt ∧ (0 : Int32).toInt ≤ 1) from by omega) hP hD hS
      · have c26 := z_nle c26
        refine lv_aload_n hx hb dX12_hasNought_7 rfl (lv_at hl 1 rfl) ?_
        refine va_get (D := (dC, dI)) (ci := 12) (v := .ref (q 0)) (C := RX12) (T := TX12) (N := 71) hx hb hts (fun _ h => List.mem_append_right _ h) hown hK hP 0 rfl rfl 0 (by decide) (hts (.fieldLink RX12 7 "SpellTurnerModel" "tape" "[B") (List.mem_of_getElem? (i := 1) rfl)) (fun _ h9 => h9) rfl dX12_hasNought_8 ?_
        refine lv_iload_n hx hb dX12_hasNought_11 rfl (lv_at hl 0 rfl) ?_
        refine va_bald hx hb hK hP 1 0 rfl rfl (z_in (i := x22) (by omega) (by omega)) dX12_hasNought_12 ?_
        refine lv_topi (fun x27 ex27 => ?_)
        clear ex27
        refine lv_if_ne (tgt := 18) hx hb dX12_hasNought_13 (by decide) (fun c28 => ?_) (fun c28 => ?_)
        · have c28 := z_ne c28
          obtain ⟨x29, ex29⟩ : ∃ y : Int32, y = x22 + 1 := ⟨_, rfl⟩
          have fx29 : x29.toInt = x22.toInt + (1) := by rw [ex29, z_add (by omega) (by omega)]; omega
          refine lv_iinc (v := x29) (lv' := [(2, .int x29), (0, .ref h0), (1, .int p0)]) hx hb dX12_hasNought_18 hl (k := 0) rfl (by rw [ex29]; rfl) (by decide) rfl (fun ls hl => ?_)
          clear ex29
          refine lv_goto (tgt := 2) hx hb dX12_hasNought_21 (by decide) ?_
          exact ih2 x29 g F H _ ls (show (2000 - x29.toInt).toNat < n2 from by omega) (show 0 ≤ x29.toInt from by omega) hP hD hS (lv_sub hl [0, 1, 2] rfl)
        · have c28 := congrArg Int32.toInt c28
          refine lv_iconst (v := 1) hx hb dX12_hasNought_16 (by decide +kernel) ?_
          exact K 17 ls 1 (g, F) H _ dX12_hasNought_17 (show (0 ≤ (1 : Int32).toInt ∧ (1 : Int32).toInt ≤ 1) from by omega) hP hD hS
  exact lp2 ((2000 - (0 : Int32).toInt).toNat + 1) 0 g F H _ ls (Nat.lt_succ_self _) (show 0 ≤ (0 : Int32).toInt from by omega) hP hD hS (lv_sub hl [0, 1, 2] rfl)
set_option maxHeartbeats 4000000 in
set_option maxRecDepth 100000 in
theorem m_hasNought (l : Launch) (dC : Nat → ClassId) (dI : Nat → Nat → Nat) (sz : Nat) (h0 : Nat) (kB kI kZ : ClassId) (q : Nat → Nat) (g : Nat → Int32) (F : Nat → Nat → Int32) (p0 : Int32) (hI : MInv g F) (hq0 : p0.toInt ≤ 2000) : Met l yX12_hasNought vmX12_hasNought ({ frames := 2, cells := 0, slots := 0, locals := 60 } : Room) (va_Pc [.ref h0, .int p0] (fun U => U.heap.size = sz ∧ va_P (dC, dI) vwCl (mW h0 kB kI kZ q g F) U.heap ∧ va_K (dC, dI) vwCl (mT kB kI kZ) U ∧ va_D (fun _ => True) (mW h0 kB kI kZ q g F))) (va_Qi (fun (r : Int32) (u : ((Nat → Int32) × (Nat → Nat → Int32))) => ((0 ≤ r.toInt ∧ r.toInt ≤ 1))) (fun u t => va_P (dC, dI) vwCl (mW h0 kB kI kZ q g F) t.heap ∧ va_K (dC, dI) vwCl (mT kB kI kZ) t ∧ va_D (va_A (mW h0 kB kI kZ q g F) sz) (mW h0 kB kI kZ q g F)) (va_A (mW h0 kB kI kZ q g F) sz)) 0 0 (va_A (mW h0 kB kI kZ q g F) sz) := by
  refine Met.ofW (cc := cX12_hasNought) (maxL := 3) (ret := (some .boolean)) (by decide) rfl ?_
  intro p e s m args below meth c s₁ B hml hv
  obtain ⟨rfl, hsz, hP, hK, hD0⟩ := hv
  have hx := B.exec
  have hb := B.bytes
  have hr := B.returns
  have hts := atoms_spec (ws := vmX12_hasNought) B.pre
  have hown : s.vm.findClass RX12 = some m.cls := findClass_of_methodNamed B.named
  subst hsz
  have hD := hD0.self (sz := s.heap.size)
  generalize hAe : va_A (mW h0 kB kI kZ q g F) s.heap.size = A at hD ⊢
  have hA : ∀ q : Nat, s.heap.size ≤ q → A q := fun q h => by rw [← hAe]; exact Or.inr h
  have hS : va_S A s.heap s.heap [] := va_S.rf
  have hl := lv_entry ([.ref h0, .int p0]) (n := 3) (Nat.le_of_ble_eq_true rfl)
  rw [lg_entry_eq]
  generalize (lg_sl ([.ref h0, .int p0]) ++ List.replicate (3 - (lg_sl ([.ref h0, .int p0])).length) Slot.unset).toArray = ls at hl ⊢
  exact bm_hasNought p0 hx hb hml hown hts hA hK hI hq0 hP hD hS hl (fun pc ls r u H locs hd hw hP hD hS => W.zret (v := r) hx hb hr (z_nb (by have := hw; omega)) (fun t ht hW => ⟨⟨r, u, rfl, hw, by rw [ht]; exact hP, va_K.moved hW.alike hK, hD⟩, hS.F ht⟩) hS.2.2 hd)
set_option maxHeartbeats 4000000 in
set_option maxRecDepth 100000 in
theorem bm_end {p : Program} {l : Launch} {e : Env} {s : State} {m : MethodId} {args : Array Value} {below : List Frame} {meth : Method} {c : Code} {Q : State → Prop} {A : Nat → Prop} {dC : Nat → ClassId} {dI : Nat → Nat → Nat} {h0 : Nat} {kB kI kZ : ClassId} {q : Nat → Nat} {g : Nat → Int32} {F : Nat → Nat → Int32} {H : Heap} {locs : List Loc} {ls : Array Slot} (p0 : Int32) (hx : p.tables.exec = Jvm.exec) (hb : c.code = cX12_end) (hml : c.maxLocals = 2) (hown : s.vm.findClass RX12 = some m.cls) (hts : ∀ w ∈ vmX12_end, w.before args s = true) (hA : ∀ q : Nat, s.heap.size ≤ q → A q) (hK : va_K (dC, dI) vwCl (mT kB kI kZ) s) (hI : MInv g F) (hP : va_P (dC, dI) vwCl (mW h0 kB kI kZ q g F) H) (hD : va_D A (mW h0 kB kI kZ q g F)) (hS : va_S A s.heap H locs) (hl : lv_has ls 2 [(0, .ref h0), (1, .int p0)])
    (K : ∀ (pc : Nat) (ls : Array Slot) (r : Int32) (u : ((Nat → Int32) × (Nat → Nat → Int32))) (H : Heap) (locs : List Loc), decode cX12_end pc = .ok (.ireturn, 1) → ((((0) ≤ (u.1 1).toInt ∧ (u.1 1).toInt ≤ 2000)) ∧ ((0 ≤ p0.toInt ∧ p0.toInt ≤ (g 1).toInt → (u.1 1).toInt = p0.toInt ∧ r.toInt = p0.toInt)) ∧ ((p0.toInt < 0 ∨ (g 1).toInt < p0.toInt → (u.1 1).toInt = (g 1).toInt ∧ r.toInt = -1))) → va_P (dC, dI) vwCl (mW h0 kB kI kZ q (upd g 1 (u.1 1)) F) H → va_D A (mW h0 kB kI kZ q (upd g 1 (u.1 1)) F) → va_S A s.heap H locs → W p l e ({ frames := 2, cells := 0, slots := 0, locals := 60 } : Room) s m args below meth c H locs 0 0 Q (F0 m pc ls [.int r])) : W p l e ({ frames := 2, cells := 0, slots := 0, locals := 60 } : Room) s m args below meth c H locs 0 0 Q (F0 m 0 ls []) := by
  obtain ⟨hg1z, hg2z, hg3z, hg4z, hg5z, hg6z, hg7z, hg8z, hg9z, hg23z, hg27z, hg30z, hg34z, hg36z, hg39z, hg44z, hg47z, hg48z, hg51z, hg56z, hg59z, hg62z, hg65z, hg66z, hg70z, hF11z, hF12z, hF13z, hF15z, hF19z, hF21z, hF24z, hF25z, hF26z, hF33z, hF38z, hF41z, hF43z, hF45z, hF46z, hF50z, hF53z, hF54z⟩ := hI
  have zkm1 : (-1 : Int32).toInt = -1 := by decide +kernel
  have zk0 : (0 : Int32).toInt = 0 := by decide +kernel
  refine lv_iload_n hx hb dX12_end_0 rfl (lv_at hl 1 rfl) ?_
  refine lv_if_lt (tgt := 12) hx hb dX12_end_1 (by decide) (fun c30 => ?_) (fun c30 => ?_)
  · have c30 := (z_lt _ _).mp c30
    refine lv_iconst (v := (-1)) hx hb dX12_end_12 (by decide +kernel) ?_
    exact K 13 ls (-1) (g, F) H _ dX12_end_13 ⟨hg1z, (show (0 ≤ p0.toInt ∧ p0.toInt ≤ (g 1).toInt → (g 1).toInt = p0.toInt ∧ (-1 : Int32).toInt = p0.toInt) from by omega), (show (p0.toInt < 0 ∨ (g 1).toInt < p0.toInt → (g 1).toInt = (g 1).toInt ∧ (-1 : Int32).toInt = -1) from by omega)⟩ hP hD hS
  · have c30 := z_nlt c30
    refine lv_iload_n hx hb dX12_end_4 rfl (lv_at hl 1 rfl) ?_
    refine lv_aload_n hx hb dX12_end_5 rfl (lv_at hl 0 rfl) ?_
    refine va_get (D := (dC, dI)) (ci := 12) (v := .int (g 1)) (C := RX12) (T := TX12) (N := 71) hx hb hts (fun _ h => List.mem_append_right _ h) hown hK hP 0 rfl rfl 1 (by decide) (hts (.fieldLink RX12 152 "SpellTurnerModel" "taped" "I") (List.mem_of_getElem? (i := 1) rfl)) (fun _ h9 => h9) rfl dX12_end_6 ?_
    refine lv_icmp_le (tgt := 14) hx hb dX12_end_9 (by decide) (fun c31 => ?_) (fun c31 => ?_)
    · have c31 := (z_le _ _).mp c31
      refine lv_aload_n hx hb dX12_end_14 rfl (lv_at hl 0 rfl) ?_
      refine lv_iload_n hx hb dX12_end_15 rfl (lv_at hl 1 rfl) ?_
      refine va_put (D := (dC, dI)) (ci := 12) (v := .int p0) (ty := .int) (C := RX12) (T := TX12) (N := 71) hx hb hts (fun _ h => List.mem_append_right _ h) tyX12 tyX12_ok nmX12 hown hK hP hD hS 0 rfl rfl 1 (by decide) (hts (.fieldLink RX12 152 "SpellTurnerModel" "taped" "I") (List.mem_of_getElem? (i := 1) rfl)) (fun _ h9 => h9) rfl (by decide +kernel) rfl rfl (Nat.le_of_ble_eq_true rfl) dX12_end_16 (fun H locs hP hD hS => ?_)
      have hP : va_P (dC, dI) vwCl (mW h0 kB kI kZ q (upd g 1 p0) F) H := hP
      have hD : va_D A (mW h0 kB kI kZ q (upd g 1 p0) F) := hD
      have hg32 : (0) ≤ p0.toInt ∧ p0.toInt ≤ 2000 := ⟨by omega, by omega⟩
      refine lv_iload_n hx hb dX12_end_19 rfl (lv_at hl 1 rfl) ?_
      exact K 20 ls p0 ((upd g 1 p0), F) H _ dX12_end_20 ⟨hg32, (show (0 ≤ p0.toInt ∧ p0.toInt ≤ (g 1).toInt → p0.toInt = p0.toInt ∧ p0.toInt = p0.toInt) from by omega), (show (p0.toInt < 0 ∨ (g 1).toInt < p0.toInt → p0.toInt = (g 1).toInt ∧ p0.toInt = -1) from by omega)⟩ hP hD hS
    · have c31 := z_nle c31
      refine lv_iconst (v := (-1)) hx hb dX12_end_12 (by decide +kernel) ?_
      exact K 13 ls (-1) (g, F) H _ dX12_end_13 ⟨hg1z, (show (0 ≤ p0.toInt ∧ p0.toInt ≤ (g 1).toInt → (g 1).toInt = p0.toInt ∧ (-1 : Int32).toInt = p0.toInt) from by omega), (show (p0.toInt < 0 ∨ (g 1).toInt < p0.toInt → (g 1).toInt = (g 1).toInt ∧ (-1 : Int32).toInt = -1) from by omega)⟩ hP hD hS
set_option maxHeartbeats 4000000 in
set_option maxRecDepth 100000 in
theorem m_end (l : Launch) (dC : Nat → ClassId) (dI : Nat → Nat → Nat) (sz : Nat) (h0 : Nat) (kB kI kZ : ClassId) (q : Nat → Nat) (g : Nat → Int32) (F : Nat → Nat → Int32) (p0 : Int32) (hI : MInv g F) : Met l yX12_end vmX12_end ({ frames := 2, cells := 0, slots := 0, locals := 60 } : Room) (va_Pc [.ref h0, .int p0] (fun U => U.heap.size = sz ∧ va_P (dC, dI) vwCl (mW h0 kB kI kZ q g F) U.heap ∧ va_K (dC, dI) vwCl (mT kB kI kZ) U ∧ va_D (fun _ => True) (mW h0 kB kI kZ q g F))) (va_Qi (fun (r : Int32) (u : ((Nat → Int32) × (Nat → Nat → Int32))) => (((0) ≤ (u.1 1).toInt ∧ (u.1 1).toInt ≤ 2000)) ∧ ((0 ≤ p0.toInt ∧ p0.toInt ≤ (g 1).toInt → (u.1 1).toInt = p0.toInt ∧ r.toInt = p0.toInt)) ∧ ((p0.toInt < 0 ∨ (g 1).toInt < p0.toInt → (u.1 1).toInt = (g 1).toInt ∧ r.toInt = -1))) (fun u t => va_P (dC, dI) vwCl (mW h0 kB kI kZ q (upd g 1 (u.1 1)) F) t.heap ∧ va_K (dC, dI) vwCl (mT kB kI kZ) t ∧ va_D (va_A (mW h0 kB kI kZ q g F) sz) (mW h0 kB kI kZ q (upd g 1 (u.1 1)) F)) (va_A (mW h0 kB kI kZ q g F) sz)) 0 0 (va_A (mW h0 kB kI kZ q g F) sz) := by
  refine Met.ofW (cc := cX12_end) (maxL := 2) (ret := (some .int)) (by decide) rfl ?_
  intro p e s m args below meth c s₁ B hml hv
  obtain ⟨rfl, hsz, hP, hK, hD0⟩ := hv
  have hx := B.exec
  have hb := B.bytes
  have hr := B.returns
  have hts := atoms_spec (ws := vmX12_end) B.pre
  have hown : s.vm.findClass RX12 = some m.cls := findClass_of_methodNamed B.named
  subst hsz
  have hD := hD0.self (sz := s.heap.size)
  generalize hAe : va_A (mW h0 kB kI kZ q g F) s.heap.size = A at hD ⊢
  have hA : ∀ q : Nat, s.heap.size ≤ q → A q := fun q h => by rw [← hAe]; exact Or.inr h
  have hS : va_S A s.heap s.heap [] := va_S.rf
  have hl := lv_entry ([.ref h0, .int p0]) (n := 2) (Nat.le_of_ble_eq_true rfl)
  rw [lg_entry_eq]
  generalize (lg_sl ([.ref h0, .int p0]) ++ List.replicate (2 - (lg_sl ([.ref h0, .int p0])).length) Slot.unset).toArray = ls at hl ⊢
  exact bm_end p0 hx hb hml hown hts hA hK hI hP hD hS hl (fun pc ls r u H locs hd hw hP hD hS => W.iret (v := r) hx hb hr (fun t ht hW => ⟨⟨r, u, rfl, hw, by rw [ht]; exact hP, va_K.moved hW.alike hK, hD⟩, hS.F ht⟩) hS.2.2 hd)
set_option maxHeartbeats 4000000 in
set_option maxRecDepth 100000 in
theorem bm_feed {p : Program} {l : Launch} {e : Env} {s : State} {m : MethodId} {args : Array Value} {below : List Frame} {meth : Method} {c : Code} {Q : State → Prop} {A : Nat → Prop} {dC : Nat → ClassId} {dI : Nat → Nat → Nat} {h0 : Nat} {kB kI kZ : ClassId} {q : Nat → Nat} {g : Nat → Int32} {F : Nat → Nat → Int32} {H : Heap} {locs : List Loc} {ls : Array Slot} (p0 : Int32) (p1 : Int32) (p2 : Int32) (p3 : Int32) (p4 : Int32) (hx : p.tables.exec = Jvm.exec) (hb : c.code = cX12_feed) (hml : c.maxLocals = 9) (hown : s.vm.findClass RX12 = some m.cls) (hts : ∀ w ∈ vmX12_feed, w.before args s = true) (hA : ∀ q : Nat, s.heap.size ≤ q → A q) (hK : va_K (dC, dI) vwCl (mT kB kI kZ) s) (hI : MInv g F) (hP : va_P (dC, dI) vwCl (mW h0 kB kI kZ q g F) H) (hD : va_D A (mW h0 kB kI kZ q g F)) (hS : va_S A s.heap H locs) (hl : lv_has ls 9 [(0, .ref h0), (1, .int p0), (2, .int p1), (3, .int p2), (4, .int p3), (5, .int p4)])
    (K : ∀ (pc : Nat) (ls : Array Slot) (r : Int32) (u : ((Nat → Int32) × (Nat → Nat → Int32))) (H : Heap) (locs : List Loc), decode cX12_feed pc = .ok (.ireturn, 1) → ((((0) ≤ (u.1 1).toInt ∧ (u.1 1).toInt ≤ 2000)) ∧ (((g 1).toInt + 20 ≤ 2000 → (u.1 1).toInt = (g 1).toInt + 20 ∧ r.toInt = (g 1).toInt + 20)) ∧ ((2000 < (g 1).toInt + 20 → (u.1 1).toInt = (g 1).toInt ∧ r.toInt = -3))) → va_P (dC, dI) vwCl (mW h0 kB kI kZ q (upd g 1 (u.1 1)) (upF F 0 (u.2 0))) H → va_D A (mW h0 kB kI kZ q (upd g 1 (u.1 1)) (upF F 0 (u.2 0))) → va_S A s.heap H locs → W p l e ({ frames := 2, cells := 0, slots := 0, locals := 60 } : Room) s m args below meth c H locs 0 0 Q (F0 m pc ls [.int r])) : W p l e ({ frames := 2, cells := 0, slots := 0, locals := 60 } : Room) s m args below meth c H locs 0 0 Q (F0 m 0 ls []) := by
  obtain ⟨hg1z, hg2z, hg3z, hg4z, hg5z, hg6z, hg7z, hg8z, hg9z, hg23z, hg27z, hg30z, hg34z, hg36z, hg39z, hg44z, hg47z, hg48z, hg51z, hg56z, hg59z, hg62z, hg65z, hg66z, hg70z, hF11z, hF12z, hF13z, hF15z, hF19z, hF21z, hF24z, hF25z, hF26z, hF33z, hF38z, hF41z, hF43z, hF45z, hF46z, hF50z, hF53z, hF54z⟩ := hI
  have zkm8 : (-8 : Int32).toInt = -8 := by decide +kernel
  have zkm3 : (-3 : Int32).toInt = -3 := by decide +kernel
  have zk0 : (0 : Int32).toInt = 0 := by decide +kernel
  have zk1 : (1 : Int32).toInt = 1 := by decide +kernel
  have zk2 : (2 : Int32).toInt = 2 := by decide +kernel
  have zk3 : (3 : Int32).toInt = 3 := by decide +kernel
  have zk5 : (5 : Int32).toInt = 5 := by decide +kernel
  have zk20 : (20 : Int32).toInt = 20 := by decide +kernel
  have zk24 : (24 : Int32).toInt = 24 := by decide +kernel
  have zk2000 : (2000 : Int32).toInt = 2000 := by decide +kernel
  refine lv_aload_n hx hb dX12_feed_0 rfl (lv_at hl 0 rfl) ?_
  refine va_get (D := (dC, dI)) (ci := 12) (v := .int (g 1)) (C := RX12) (T := TX12) (N := 71) hx hb hts (fun _ h => List.mem_append_right _ h) hown hK hP 0 rfl rfl 1 (by decide) (hts (.fieldLink RX12 152 "SpellTurnerModel" "taped" "I") (List.mem_of_getElem? (i := 1) rfl)) (fun _ h9 => h9) rfl dX12_feed_1 ?_
  refine lv_bipush (v := 20) hx hb dX12_feed_4 (by decide +kernel) ?_
  refine lv_iadd hx hb dX12_feed_6 ?_
  refine lv_topi (fun x33 ex33 => ?_)
  have fx33 : x33.toInt = (g 1).toInt + 20 := by have h := @z_add (g 1) (20 : Int32) (by omega) (by omega); rw [← ex33] at h; omega
  clear ex33
  refine lv_sipush (v := 2000) hx hb dX12_feed_7 (by decide +kernel) ?_
  refine lv_icmp_le (tgt := 16) hx hb dX12_feed_10 (by decide) (fun c34 => ?_) (fun c34 => ?_)
  · have c34 := (z_le _ _).mp c34
    refine lv_iconst (v := 0) hx hb dX12_feed_16 (by decide +kernel) ?_
    refine lv_istore (lv' := [(6, .int 0), (0, .ref h0), (1, .int p0), (2, .int p1), (3, .int p2), (4, .int p3), (5, .int p4)]) hx hb dX12_feed_17 hl (by decide) rfl (fun ls hl => ?_)
    have lp19 : ∀ (n19 : Nat) (x35 : Int32) (gl36 : Nat → Int32) (fl37 : Nat → Nat → Int32) (H : Heap) (locs : List Loc) (ls : Array Slot), (5 - x35.toInt).toNat < n19 → (0 ≤ x35.toInt ∧ x35.toInt ≤ 5) → (gl36 1).toInt = (g 1).toInt + 4 * x35.toInt → ((0) ≤ (gl36 1).toInt ∧ (gl36 1).toInt ≤ 2000) → va_P (dC, dI) vwCl (mW h0 kB kI kZ q (upd g 1 (gl36 1)) (upF F 0 (fl37 0))) H → va_D A (mW h0 kB kI kZ q (upd g 1 (gl36 1)) (upF F 0 (fl37 0))) → va_S A s.heap H locs → lv_has ls 9 [(6, .int x35), (0, .ref h0), (1, .int p0), (2, .int p1), (3, .int p2), (4, .int p3), (5, .int p4)] → W p l e ({ frames := 2, cells := 0, slots := 0, locals := 60 } : Room) s m args below meth c H locs 0 0 Q (F0 m 19 ls []) := by
      intro n19
      induction n19 with
      | zero => intro x35 gl36 fl37 H locs ls hm; exact absurd hm (Nat.not_lt_zero _)
      | succ n19 ih19 =>
        intro x35 gl36 fl37 H locs ls hm19 f38 f39 hg40 hP hD hS hl
        refine lv_iload hx hb dX12_feed_19 (lv_at hl 0 rfl) ?_
        refine lv_iconst (v := 5) hx hb dX12_feed_21 (by decide +kernel) ?_
        refine lv_icmp_ge (tgt := 115) hx hb dX12_feed_22 (by decide) (fun c41 => ?_) (fun c41 => ?_)
        · have c41 := (z_le _ _).mp c41
          refine lv_aload_n hx hb dX12_feed_115 rfl (lv_at hl 1 rfl) ?_
          refine va_get (D := (dC, dI)) (ci := 12) (v := .int (gl36 1)) (C := RX12) (T := TX12) (N := 71) hx hb hts (fun _ h => List.mem_append_right _ h) hown hK hP 0 rfl rfl 1 (by decide) (hts (.fieldLink RX12 152 "SpellTurnerModel" "taped" "I") (List.mem_of_getElem? (i := 1) rfl)) (fun _ h9 => h9) rfl dX12_feed_116 ?_
          exact K 119 ls (gl36 1) ((upd g 1 (gl36 1)), (upF F 0 (fl37 0))) H _ dX12_feed_119 ⟨hg40, (show ((g 1).toInt + 20 ≤ 2000 → (gl36 1).toInt = (g 1).toInt + 20 ∧ (gl36 1).toInt = (g 1).toInt + 20) from by omega), (show (2000 < (g 1).toInt + 20 → (gl36 1).toInt = (g 1).toInt ∧ (gl36 1).toInt = -3) from by omega)⟩ hP hD hS
        · have c41 := z_nle c41
          refine lv_iload hx hb dX12_feed_25 (lv_at hl 0 rfl) ?_
          refine lv_if_ne (tgt := 34) hx hb dX12_feed_27 (by decide) (fun c42 => ?_) (fun c42 => ?_)
          · have c42 := z_ne c42
            refine lv_iload hx hb dX12_feed_34 (lv_at hl 0 rfl) ?_
            refine lv_iconst (v := 1) hx hb dX12_feed_36 (by decide +kernel) ?_
            refine lv_icmp_ne (tgt := 44) hx hb dX12_feed_37 (by decide) (fun c43 => ?_) (fun c43 => ?_)
            · have c43 := z_ne c43
              refine lv_iload hx hb dX12_feed_44 (lv_at hl 0 rfl) ?_
              refine lv_iconst (v := 2) hx hb dX12_feed_46 (by decide +kernel) ?_
              refine lv_icmp_ne (tgt := 54) hx hb dX12_feed_47 (by decide) (fun c44 => ?_) (fun c44 => ?_)
              · have c44 := z_ne c44
                refine lv_iload hx hb dX12_feed_54 (lv_at hl 0 rfl) ?_
                refine lv_iconst (v := 3) hx hb dX12_feed_56 (by decide +kernel) ?_
                refine lv_icmp_ne (tgt := 65) hx hb dX12_feed_57 (by decide) (fun c45 => ?_) (fun c45 => ?_)
                · have c45 := z_ne c45
                  refine lv_iload hx hb dX12_feed_65 (lv_at hl 6 rfl) ?_
                  refine lv_istore (lv' := [(7, .int p4), (6, .int x35), (0, .ref h0), (1, .int p0), (2, .int p1), (3, .int p2), (4, .int p3), (5, .int p4)]) hx hb dX12_feed_67 hl (by decide) rfl (fun ls hl => ?_)
                  refine lv_bipush (v := 24) hx hb dX12_feed_69 (by decide +kernel) ?_
                  refine lv_istore (lv' := [(8, .int 24), (7, .int p4), (6, .int x35), (0, .ref h0), (1, .int p0), (2, .int p1), (3, .int p2), (4, .int p3), (5, .int p4)]) hx hb dX12_feed_71 hl (by decide) rfl (fun ls hl => ?_)
                  have lp73 : ∀ (n73 : Nat) (x46 : Int32) (gl47 : Nat → Int32) (fl48 : Nat → Nat → Int32) (H : Heap) (locs : List Loc) (ls : Array Slot), (x46.toInt + 8).toNat < n73 → ((-8) ≤ x46.toInt ∧ x46.toInt ≤ 24) → 8 * ((gl47 1).toInt - (g 1).toInt - 4 * x35.toInt) = 24 - x46.toInt → ((0) ≤ (gl47 1).toInt ∧ (gl47 1).toInt ≤ 2000) → va_P (dC, dI) vwCl (mW h0 kB kI kZ q (upd g 1 (gl47 1)) (upF F 0 (fl48 0))) H → va_D A (mW h0 kB kI kZ q (upd g 1 (gl47 1)) (upF F 0 (fl48 0))) → va_S A s.heap H locs → lv_has ls 9 [(8, .int x46), (7, .int p4), (6, .int x35), (0, .ref h0), (1, .int p0), (2, .int p1), (3, .int p2), (4, .int p3), (5, .int p4)] → W p l e ({ frames := 2, cells := 0, slots := 0, locals := 60 } : Room) s m args below meth c H locs 0 0 Q (F0 m 73 ls []) := by
                    intro n73
                    induction n73 with
                    | zero => intro x46 gl47 fl48 H locs ls hm; exact absurd hm (Nat.not_lt_zero _)
                    | succ n73 ih73 =>
                      intro x46 gl47 fl48 H locs ls hm73 f49 f50 hg51 hP hD hS hl
                      refine lv_iload hx hb dX12_feed_73 (lv_at hl 0 rfl) ?_
                      refine lv_if_lt (tgt := 109) hx hb dX12_feed_75 (by decide) (fun c52 => ?_) (fun c52 => ?_)
                      · have c52 := (z_lt _ _).mp c52
                        obtain ⟨x53, ex53⟩ : ∃ y : Int32, y = x35 + 1 := ⟨_, rfl⟩
                        have fx53 : x53.toInt = x35.toInt + (1) := by rw [ex53, z_add (by omega) (by omega)]; omega
                        refine lv_iinc (v := x53) (lv' := [(6, .int x53), (8, .int x46), (7, .int p4), (0, .ref h0), (1, .int p0), (2, .int p1), (3, .int p2), (4, .int p3), (5, .int p4)]) hx hb dX12_feed_109 hl (k := 2) rfl (by rw [ex53]; rfl) (by decide) rfl (fun ls hl => ?_)
                        clear ex53
                        refine lv_goto (tgt := 19) hx hb dX12_feed_112 (by decide) ?_
                        exact ih19 x53 (upd g 1 (gl47 1)) (upF F 0 (fl48 0)) H _ ls (show (5 - x53.toInt).toNat < n19 from by omega) (show (0 ≤ x53.toInt ∧ x53.toInt ≤ 5) from by omega) (show (gl47 1).toInt = (g 1).toInt + 4 * x53.toInt from by omega) hg51 hP hD hS (lv_sub hl [0, 3, 4, 5, 6, 7, 8] rfl)
                      · have c52 := z_nlt c52
                        refine lv_aload_n hx hb dX12_feed_78 rfl (lv_at hl 3 rfl) ?_
                        refine va_get (D := (dC, dI)) (ci := 12) (v := .ref (q 0)) (C := RX12) (T := TX12) (N := 71) hx hb hts (fun _ h => List.mem_append_right _ h) hown hK hP 0 rfl rfl 0 (by decide) (hts (.fieldLink RX12 7 "SpellTurnerModel" "tape" "[B") (List.mem_of_getElem? (i := 2) rfl)) (fun _ h9 => h9) rfl dX12_feed_79 ?_
                        refine lv_aload_n hx hb dX12_feed_82 rfl (lv_at hl 3 rfl) ?_
                        refine va_get (D := (dC, dI)) (ci := 12) (v := .int (gl47 1)) (C := RX12) (T := TX12) (N := 71) hx hb hts (fun _ h => List.mem_append_right _ h) hown hK hP 0 rfl rfl 1 (by decide) (hts (.fieldLink RX12 152 "SpellTurnerModel" "taped" "I") (List.mem_of_getElem? (i := 1) rfl)) (fun _ h9 => h9) rfl dX12_feed_83 ?_
                        refine lv_iload hx hb dX12_feed_86 (lv_at hl 1 rfl) ?_
                        refine lv_iload hx hb dX12_feed_88 (lv_at hl 0 rfl) ?_
                        refine lv_ishr hx hb dX12_feed_90 ?_
                        refine lv_topi (fun x54 ex54 => ?_)
                        clear ex54
                        refine lv_i2b hx hb dX12_feed_91 rfl ?_
                        refine lv_topi (fun x55 ex55 => ?_)
                        clear ex55
                        refine va_bast hx hb hK hP hD hS 1 0 rfl rfl (z_in (i := (gl47 1)) (by omega) (by omega)) dX12_feed_92 (fun H locs hP hD hS => ?_)
                        obtain ⟨f56, hP, hD⟩ : ∃ f56 : Nat → Int32, va_P (dC, dI) vwCl (mW h0 kB kI kZ q (upd g 1 (gl47 1)) (upF F 0 f56)) H ∧ va_D A (mW h0 kB kI kZ q (upd g 1 (gl47 1)) (upF F 0 f56)) := ⟨(upd (fl48 0) (Int32.toNatClampNeg (gl47 1)) (vp_nar .byte x55)), hP, hD⟩
                        refine lv_aload_n hx hb dX12_feed_93 rfl (lv_at hl 3 rfl) ?_
                        refine lv_dup hx hb dX12_feed_94 rfl ?_
                        refine va_get (D := (dC, dI)) (ci := 12) (v := .int (gl47 1)) (C := RX12) (T := TX12) (N := 71) hx hb hts (fun _ h => List.mem_append_right _ h) hown hK hP 0 rfl rfl 1 (by decide) (hts (.fieldLink RX12 152 "SpellTurnerModel" "taped" "I") (List.mem_of_getElem? (i := 1) rfl)) (fun _ h9 => h9) rfl dX12_feed_95 ?_
                        refine lv_iconst (v := 1) hx hb dX12_feed_98 (by decide +kernel) ?_
                        refine lv_iadd hx hb dX12_feed_99 ?_
                        refine lv_topi (fun x57 ex57 => ?_)
                        have fx57 : x57.toInt = (gl47 1).toInt + 1 := by have h := @z_add (gl47 1) (1 : Int32) (by omega) (by omega); rw [← ex57] at h; omega
                        clear ex57
                        refine va_put (D := (dC, dI)) (ci := 12) (v := .int x57) (ty := .int) (C := RX12) (T := TX12) (N := 71) hx hb hts (fun _ h => List.mem_append_right _ h) tyX12 tyX12_ok nmX12 hown hK hP hD hS 0 rfl rfl 1 (by decide) (hts (.fieldLink RX12 152 "SpellTurnerModel" "taped" "I") (List.mem_of_getElem? (i := 1) rfl)) (fun _ h9 => h9) rfl (by decide +kernel) rfl rfl (Nat.le_of_ble_eq_true rfl) dX12_feed_100 (fun H locs hP hD hS => ?_)
                        have hP : va_P (dC, dI) vwCl (mW h0 kB kI kZ q (upd g 1 x57) (upF F 0 f56)) H := hP
                        have hD : va_D A (mW h0 kB kI kZ q (upd g 1 x57) (upF F 0 f56)) := hD
                        have hg58 : (0) ≤ x57.toInt ∧ x57.toInt ≤ 2000 := ⟨by omega, by omega⟩
                        obtain ⟨x59, ex59⟩ : ∃ y : Int32, y = x46 + (-8) := ⟨_, rfl⟩
                        have fx59 : x59.toInt = x46.toInt + (-8) := by rw [ex59, z_add (by omega) (by omega)]; omega
                        refine lv_iinc (v := x59) (lv' := [(8, .int x59), (7, .int p4), (6, .int x35), (0, .ref h0), (1, .int p0), (2, .int p1), (3, .int p2), (4, .int p3), (5, .int p4)]) hx hb dX12_feed_103 hl (k := 0) rfl (by rw [ex59]; rfl) (by decide) rfl (fun ls hl => ?_)
                        clear ex59
                        refine lv_goto (tgt := 73) hx hb dX12_feed_106 (by decide) ?_
                        exact ih73 x59 (upd g 1 x57) (upF F 0 f56) H _ ls (show (x59.toInt + 8).toNat < n73 from by omega) (show ((-8) ≤ x59.toInt ∧ x59.toInt ≤ 24) from by omega) (show 8 * (x57.toInt - (g 1).toInt - 4 * x35.toInt) = 24 - x59.toInt from by omega) hg58 hP hD hS (lv_sub hl [0, 1, 2, 3, 4, 5, 6, 7, 8] rfl)
                  exact lp73 (((24 : Int32).toInt + 8).toNat + 1) 24 (upd g 1 (gl36 1)) (upF F 0 (fl37 0)) H _ ls (Nat.lt_succ_self _) (show ((-8) ≤ (24 : Int32).toInt ∧ (24 : Int32).toInt ≤ 24) from by omega) (show 8 * ((gl36 1).toInt - (g 1).toInt - 4 * x35.toInt) = 24 - (24 : Int32).toInt from by omega) hg40 hP hD hS (lv_sub hl [0, 1, 2, 3, 4, 5, 6, 7, 8] rfl)
                · have c45 := congrArg Int32.toInt c45
                  refine lv_iload hx hb dX12_feed_60 (lv_at hl 5 rfl) ?_
                  refine lv_goto (tgt := 67) hx hb dX12_feed_62 (by decide) ?_
                  refine lv_istore (lv' := [(7, .int p3), (6, .int x35), (0, .ref h0), (1, .int p0), (2, .int p1), (3, .int p2), (4, .int p3), (5, .int p4)]) hx hb dX12_feed_67 hl (by decide) rfl (fun ls hl => ?_)
                  refine lv_bipush (v := 24) hx hb dX12_feed_69 (by decide +kernel) ?_
                  refine lv_istore (lv' := [(8, .int 24), (7, .int p3), (6, .int x35), (0, .ref h0), (1, .int p0), (2, .int p1), (3, .int p2), (4, .int p3), (5, .int p4)]) hx hb dX12_feed_71 hl (by decide) rfl (fun ls hl => ?_)
                  have lp73 : ∀ (n73 : Nat) (x60 : Int32) (gl61 : Nat → Int32) (fl62 : Nat → Nat → Int32) (H : Heap) (locs : List Loc) (ls : Array Slot), (x60.toInt + 8).toNat < n73 → ((-8) ≤ x60.toInt ∧ x60.toInt ≤ 24) → 8 * ((gl61 1).toInt - (g 1).toInt - 4 * x35.toInt) = 24 - x60.toInt → ((0) ≤ (gl61 1).toInt ∧ (gl61 1).toInt ≤ 2000) → va_P (dC, dI) vwCl (mW h0 kB kI kZ q (upd g 1 (gl61 1)) (upF F 0 (fl62 0))) H → va_D A (mW h0 kB kI kZ q (upd g 1 (gl61 1)) (upF F 0 (fl62 0))) → va_S A s.heap H locs → lv_has ls 9 [(8, .int x60), (7, .int p3), (6, .int x35), (0, .ref h0), (1, .int p0), (2, .int p1), (3, .int p2), (4, .int p3), (5, .int p4)] → W p l e ({ frames := 2, cells := 0, slots := 0, locals := 60 } : Room) s m args below meth c H locs 0 0 Q (F0 m 73 ls []) := by
                    intro n73
                    induction n73 with
                    | zero => intro x60 gl61 fl62 H locs ls hm; exact absurd hm (Nat.not_lt_zero _)
                    | succ n73 ih73 =>
                      intro x60 gl61 fl62 H locs ls hm73 f63 f64 hg65 hP hD hS hl
                      refine lv_iload hx hb dX12_feed_73 (lv_at hl 0 rfl) ?_
                      refine lv_if_lt (tgt := 109) hx hb dX12_feed_75 (by decide) (fun c66 => ?_) (fun c66 => ?_)
                      · have c66 := (z_lt _ _).mp c66
                        obtain ⟨x67, ex67⟩ : ∃ y : Int32, y = x35 + 1 := ⟨_, rfl⟩
                        have fx67 : x67.toInt = x35.toInt + (1) := by rw [ex67, z_add (by omega) (by omega)]; omega
                        refine lv_iinc (v := x67) (lv' := [(6, .int x67), (8, .int x60), (7, .int p3), (0, .ref h0), (1, .int p0), (2, .int p1), (3, .int p2), (4, .int p3), (5, .int p4)]) hx hb dX12_feed_109 hl (k := 2) rfl (by rw [ex67]; rfl) (by decide) rfl (fun ls hl => ?_)
                        clear ex67
                        refine lv_goto (tgt := 19) hx hb dX12_feed_112 (by decide) ?_
                        exact ih19 x67 (upd g 1 (gl61 1)) (upF F 0 (fl62 0)) H _ ls (show (5 - x67.toInt).toNat < n19 from by omega) (show (0 ≤ x67.toInt ∧ x67.toInt ≤ 5) from by omega) (show (gl61 1).toInt = (g 1).toInt + 4 * x67.toInt from by omega) hg65 hP hD hS (lv_sub hl [0, 3, 4, 5, 6, 7, 8] rfl)
                      · have c66 := z_nlt c66
                        refine lv_aload_n hx hb dX12_feed_78 rfl (lv_at hl 3 rfl) ?_
                        refine va_get (D := (dC, dI)) (ci := 12) (v := .ref (q 0)) (C := RX12) (T := TX12) (N := 71) hx hb hts (fun _ h => List.mem_append_right _ h) hown hK hP 0 rfl rfl 0 (by decide) (hts (.fieldLink RX12 7 "SpellTurnerModel" "tape" "[B") (List.mem_of_getElem? (i := 2) rfl)) (fun _ h9 => h9) rfl dX12_feed_79 ?_
                        refine lv_aload_n hx hb dX12_feed_82 rfl (lv_at hl 3 rfl) ?_
                        refine va_get (D := (dC, dI)) (ci := 12) (v := .int (gl61 1)) (C := RX12) (T := TX12) (N := 71) hx hb hts (fun _ h => List.mem_append_right _ h) hown hK hP 0 rfl rfl 1 (by decide) (hts (.fieldLink RX12 152 "SpellTurnerModel" "taped" "I") (List.mem_of_getElem? (i := 1) rfl)) (fun _ h9 => h9) rfl dX12_feed_83 ?_
                        refine lv_iload hx hb dX12_feed_86 (lv_at hl 1 rfl) ?_
                        refine lv_iload hx hb dX12_feed_88 (lv_at hl 0 rfl) ?_
                        refine lv_ishr hx hb dX12_feed_90 ?_
                        refine lv_topi (fun x68 ex68 => ?_)
                        clear ex68
                        refine lv_i2b hx hb dX12_feed_91 rfl ?_
                        refine lv_topi (fun x69 ex69 => ?_)
                        clear ex69
                        refine va_bast hx hb hK hP hD hS 1 0 rfl rfl (z_in (i := (gl61 1)) (by omega) (by omega)) dX12_feed_92 (fun H locs hP hD hS => ?_)
                        obtain ⟨f70, hP, hD⟩ : ∃ f70 : Nat → Int32, va_P (dC, dI) vwCl (mW h0 kB kI kZ q (upd g 1 (gl61 1)) (upF F 0 f70)) H ∧ va_D A (mW h0 kB kI kZ q (upd g 1 (gl61 1)) (upF F 0 f70)) := ⟨(upd (fl62 0) (Int32.toNatClampNeg (gl61 1)) (vp_nar .byte x69)), hP, hD⟩
                        refine lv_aload_n hx hb dX12_feed_93 rfl (lv_at hl 3 rfl) ?_
                        refine lv_dup hx hb dX12_feed_94 rfl ?_
                        refine va_get (D := (dC, dI)) (ci := 12) (v := .int (gl61 1)) (C := RX12) (T := TX12) (N := 71) hx hb hts (fun _ h => List.mem_append_right _ h) hown hK hP 0 rfl rfl 1 (by decide) (hts (.fieldLink RX12 152 "SpellTurnerModel" "taped" "I") (List.mem_of_getElem? (i := 1) rfl)) (fun _ h9 => h9) rfl dX12_feed_95 ?_
                        refine lv_iconst (v := 1) hx hb dX12_feed_98 (by decide +kernel) ?_
                        refine lv_iadd hx hb dX12_feed_99 ?_
                        refine lv_topi (fun x71 ex71 => ?_)
                        have fx71 : x71.toInt = (gl61 1).toInt + 1 := by have h := @z_add (gl61 1) (1 : Int32) (by omega) (by omega); rw [← ex71] at h; omega
                        clear ex71
                        refine va_put (D := (dC, dI)) (ci := 12) (v := .int x71) (ty := .int) (C := RX12) (T := TX12) (N := 71) hx hb hts (fun _ h => List.mem_append_right _ h) tyX12 tyX12_ok nmX12 hown hK hP hD hS 0 rfl rfl 1 (by decide) (hts (.fieldLink RX12 152 "SpellTurnerModel" "taped" "I") (List.mem_of_getElem? (i := 1) rfl)) (fun _ h9 => h9) rfl (by decide +kernel) rfl rfl (Nat.le_of_ble_eq_true rfl) dX12_feed_100 (fun H locs hP hD hS => ?_)
                        have hP : va_P (dC, dI) vwCl (mW h0 kB kI kZ q (upd g 1 x71) (upF F 0 f70)) H := hP
                        have hD : va_D A (mW h0 kB kI kZ q (upd g 1 x71) (upF F 0 f70)) := hD
                        have hg72 : (0) ≤ x71.toInt ∧ x71.toInt ≤ 2000 := ⟨by omega, by omega⟩
                        obtain ⟨x73, ex73⟩ : ∃ y : Int32, y = x60 + (-8) := ⟨_, rfl⟩
                        have fx73 : x73.toInt = x60.toInt + (-8) := by rw [ex73, z_add (by omega) (by omega)]; omega
                        refine lv_iinc (v := x73) (lv' := [(8, .int x73), (7, .int p3), (6, .int x35), (0, .ref h0), (1, .int p0), (2, .int p1), (3, .int p2), (4, .int p3), (5, .int p4)]) hx hb dX12_feed_103 hl (k := 0) rfl (by rw [ex73]; rfl) (by decide) rfl (fun ls hl => ?_)
                        clear ex73
                        refine lv_goto (tgt := 73) hx hb dX12_feed_106 (by decide) ?_
                        exact ih73 x73 (upd g 1 x71) (upF F 0 f70) H _ ls (show (x73.toInt + 8).toNat < n73 from by omega) (show ((-8) ≤ x73.toInt ∧ x73.toInt ≤ 24) from by omega) (show 8 * (x71.toInt - (g 1).toInt - 4 * x35.toInt) = 24 - x73.toInt from by omega) hg72 hP hD hS (lv_sub hl [0, 1, 2, 3, 4, 5, 6, 7, 8] rfl)
                  exact lp73 (((24 : Int32).toInt + 8).toNat + 1) 24 (upd g 1 (gl36 1)) (upF F 0 (fl37 0)) H _ ls (Nat.lt_succ_self _) (show ((-8) ≤ (24 : Int32).toInt ∧ (24 : Int32).toInt ≤ 24) from by omega) (show 8 * ((gl36 1).toInt - (g 1).toInt - 4 * x35.toInt) = 24 - (24 : Int32).toInt from by omega) hg40 hP hD hS (lv_sub hl [0, 1, 2, 3, 4, 5, 6, 7, 8] rfl)
              · have c44 := congrArg Int32.toInt c44
                refine lv_iload_n hx hb dX12_feed_50 rfl (lv_at hl 4 rfl) ?_
                refine lv_goto (tgt := 67) hx hb dX12_feed_51 (by decide) ?_
                refine lv_istore (lv' := [(7, .int p2), (6, .int x35), (0, .ref h0), (1, .int p0), (2, .int p1), (3, .int p2), (4, .int p3), (5, .int p4)]) hx hb dX12_feed_67 hl (by decide) rfl (fun ls hl => ?_)
                refine lv_bipush (v := 24) hx hb dX12_feed_69 (by decide +kernel) ?_
                refine lv_istore (lv' := [(8, .int 24), (7, .int p2), (6, .int x35), (0, .ref h0), (1, .int p0), (2, .int p1), (3, .int p2), (4, .int p3), (5, .int p4)]) hx hb dX12_feed_71 hl (by decide) rfl (fun ls hl => ?_)
                have lp73 : ∀ (n73 : Nat) (x74 : Int32) (gl75 : Nat → Int32) (fl76 : Nat → Nat → Int32) (H : Heap) (locs : List Loc) (ls : Array Slot), (x74.toInt + 8).toNat < n73 → ((-8) ≤ x74.toInt ∧ x74.toInt ≤ 24) → 8 * ((gl75 1).toInt - (g 1).toInt - 4 * x35.toInt) = 24 - x74.toInt → ((0) ≤ (gl75 1).toInt ∧ (gl75 1).toInt ≤ 2000) → va_P (dC, dI) vwCl (mW h0 kB kI kZ q (upd g 1 (gl75 1)) (upF F 0 (fl76 0))) H → va_D A (mW h0 kB kI kZ q (upd g 1 (gl75 1)) (upF F 0 (fl76 0))) → va_S A s.heap H locs → lv_has ls 9 [(8, .int x74), (7, .int p2), (6, .int x35), (0, .ref h0), (1, .int p0), (2, .int p1), (3, .int p2), (4, .int p3), (5, .int p4)] → W p l e ({ frames := 2, cells := 0, slots := 0, locals := 60 } : Room) s m args below meth c H locs 0 0 Q (F0 m 73 ls []) := by
                  intro n73
                  induction n73 with
                  | zero => intro x74 gl75 fl76 H locs ls hm; exact absurd hm (Nat.not_lt_zero _)
                  | succ n73 ih73 =>
                    intro x74 gl75 fl76 H locs ls hm73 f77 f78 hg79 hP hD hS hl
                    refine lv_iload hx hb dX12_feed_73 (lv_at hl 0 rfl) ?_
                    refine lv_if_lt (tgt := 109) hx hb dX12_feed_75 (by decide) (fun c80 => ?_) (fun c80 => ?_)
                    · have c80 := (z_lt _ _).mp c80
                      obtain ⟨x81, ex81⟩ : ∃ y : Int32, y = x35 + 1 := ⟨_, rfl⟩
                      have fx81 : x81.toInt = x35.toInt + (1) := by rw [ex81, z_add (by omega) (by omega)]; omega
                      refine lv_iinc (v := x81) (lv' := [(6, .int x81), (8, .int x74), (7, .int p2), (0, .ref h0), (1, .int p0), (2, .int p1), (3, .int p2), (4, .int p3), (5, .int p4)]) hx hb dX12_feed_109 hl (k := 2) rfl (by rw [ex81]; rfl) (by decide) rfl (fun ls hl => ?_)
                      clear ex81
                      refine lv_goto (tgt := 19) hx hb dX12_feed_112 (by decide) ?_
                      exact ih19 x81 (upd g 1 (gl75 1)) (upF F 0 (fl76 0)) H _ ls (show (5 - x81.toInt).toNat < n19 from by omega) (show (0 ≤ x81.toInt ∧ x81.toInt ≤ 5) from by omega) (show (gl75 1).toInt = (g 1).toInt + 4 * x81.toInt from by omega) hg79 hP hD hS (lv_sub hl [0, 3, 4, 5, 6, 7, 8] rfl)
                    · have c80 := z_nlt c80
                      refine lv_aload_n hx hb dX12_feed_78 rfl (lv_at hl 3 rfl) ?_
                      refine va_get (D := (dC, dI)) (ci := 12) (v := .ref (q 0)) (C := RX12) (T := TX12) (N := 71) hx hb hts (fun _ h => List.mem_append_right _ h) hown hK hP 0 rfl rfl 0 (by decide) (hts (.fieldLink RX12 7 "SpellTurnerModel" "tape" "[B") (List.mem_of_getElem? (i := 2) rfl)) (fun _ h9 => h9) rfl dX12_feed_79 ?_
                      refine lv_aload_n hx hb dX12_feed_82 rfl (lv_at hl 3 rfl) ?_
                      refine va_get (D := (dC, dI)) (ci := 12) (v := .int (gl75 1)) (C := RX12) (T := TX12) (N := 71) hx hb hts (fun _ h => List.mem_append_right _ h) hown hK hP 0 rfl rfl 1 (by decide) (hts (.fieldLink RX12 152 "SpellTurnerModel" "taped" "I") (List.mem_of_getElem? (i := 1) rfl)) (fun _ h9 => h9) rfl dX12_feed_83 ?_
                      refine lv_iload hx hb dX12_feed_86 (lv_at hl 1 rfl) ?_
                      refine lv_iload hx hb dX12_feed_88 (lv_at hl 0 rfl) ?_
                      refine lv_ishr hx hb dX12_feed_90 ?_
                      refine lv_topi (fun x82 ex82 => ?_)
                      clear ex82
                      refine lv_i2b hx hb dX12_feed_91 rfl ?_
                      refine lv_topi (fun x83 ex83 => ?_)
                      clear ex83
                      refine va_bast hx hb hK hP hD hS 1 0 rfl rfl (z_in (i := (gl75 1)) (by omega) (by omega)) dX12_feed_92 (fun H locs hP hD hS => ?_)
                      obtain ⟨f84, hP, hD⟩ : ∃ f84 : Nat → Int32, va_P (dC, dI) vwCl (mW h0 kB kI kZ q (upd g 1 (gl75 1)) (upF F 0 f84)) H ∧ va_D A (mW h0 kB kI kZ q (upd g 1 (gl75 1)) (upF F 0 f84)) := ⟨(upd (fl76 0) (Int32.toNatClampNeg (gl75 1)) (vp_nar .byte x83)), hP, hD⟩
                      refine lv_aload_n hx hb dX12_feed_93 rfl (lv_at hl 3 rfl) ?_
                      refine lv_dup hx hb dX12_feed_94 rfl ?_
                      refine va_get (D := (dC, dI)) (ci := 12) (v := .int (gl75 1)) (C := RX12) (T := TX12) (N := 71) hx hb hts (fun _ h => List.mem_append_right _ h) hown hK hP 0 rfl rfl 1 (by decide) (hts (.fieldLink RX12 152 "SpellTurnerModel" "taped" "I") (List.mem_of_getElem? (i := 1) rfl)) (fun _ h9 => h9) rfl dX12_feed_95 ?_
                      refine lv_iconst (v := 1) hx hb dX12_feed_98 (by decide +kernel) ?_
                      refine lv_iadd hx hb dX12_feed_99 ?_
                      refine lv_topi (fun x85 ex85 => ?_)
                      have fx85 : x85.toInt = (gl75 1).toInt + 1 := by have h := @z_add (gl75 1) (1 : Int32) (by omega) (by omega); rw [← ex85] at h; omega
                      clear ex85
                      refine va_put (D := (dC, dI)) (ci := 12) (v := .int x85) (ty := .int) (C := RX12) (T := TX12) (N := 71) hx hb hts (fun _ h => List.mem_append_right _ h) tyX12 tyX12_ok nmX12 hown hK hP hD hS 0 rfl rfl 1 (by decide) (hts (.fieldLink RX12 152 "SpellTurnerModel" "taped" "I") (List.mem_of_getElem? (i := 1) rfl)) (fun _ h9 => h9) rfl (by decide +kernel) rfl rfl (Nat.le_of_ble_eq_true rfl) dX12_feed_100 (fun H locs hP hD hS => ?_)
                      have hP : va_P (dC, dI) vwCl (mW h0 kB kI kZ q (upd g 1 x85) (upF F 0 f84)) H := hP
                      have hD : va_D A (mW h0 kB kI kZ q (upd g 1 x85) (upF F 0 f84)) := hD
                      have hg86 : (0) ≤ x85.toInt ∧ x85.toInt ≤ 2000 := ⟨by omega, by omega⟩
                      obtain ⟨x87, ex87⟩ : ∃ y : Int32, y = x74 + (-8) := ⟨_, rfl⟩
                      have fx87 : x87.toInt = x74.toInt + (-8) := by rw [ex87, z_add (by omega) (by omega)]; omega
                      refine lv_iinc (v := x87) (lv' := [(8, .int x87), (7, .int p2), (6, .int x35), (0, .ref h0), (1, .int p0), (2, .int p1), (3, .int p2), (4, .int p3), (5, .int p4)]) hx hb dX12_feed_103 hl (k := 0) rfl (by rw [ex87]; rfl) (by decide) rfl (fun ls hl => ?_)
                      clear ex87
                      refine lv_goto (tgt := 73) hx hb dX12_feed_106 (by decide) ?_
                      exact ih73 x87 (upd g 1 x85) (upF F 0 f84) H _ ls (show (x87.toInt + 8).toNat < n73 from by omega) (show ((-8) ≤ x87.toInt ∧ x87.toInt ≤ 24) from by omega) (show 8 * (x85.toInt - (g 1).toInt - 4 * x35.toInt) = 24 - x87.toInt from by omega) hg86 hP hD hS (lv_sub hl [0, 1, 2, 3, 4, 5, 6, 7, 8] rfl)
                exact lp73 (((24 : Int32).toInt + 8).toNat + 1) 24 (upd g 1 (gl36 1)) (upF F 0 (fl37 0)) H _ ls (Nat.lt_succ_self _) (show ((-8) ≤ (24 : Int32).toInt ∧ (24 : Int32).toInt ≤ 24) from by omega) (show 8 * ((gl36 1).toInt - (g 1).toInt - 4 * x35.toInt) = 24 - (24 : Int32).toInt from by omega) hg40 hP hD hS (lv_sub hl [0, 1, 2, 3, 4, 5, 6, 7, 8] rfl)
            · have c43 := congrArg Int32.toInt c43
              refine lv_iload_n hx hb dX12_feed_40 rfl (lv_at hl 3 rfl) ?_
              refine lv_goto (tgt := 67) hx hb dX12_feed_41 (by decide) ?_
              refine lv_istore (lv' := [(7, .int p1), (6, .int x35), (0, .ref h0), (1, .int p0), (2, .int p1), (3, .int p2), (4, .int p3), (5, .int p4)]) hx hb dX12_feed_67 hl (by decide) rfl (fun ls hl => ?_)
              refine lv_bipush (v := 24) hx hb dX12_feed_69 (by decide +kernel) ?_
              refine lv_istore (lv' := [(8, .int 24), (7, .int p1), (6, .int x35), (0, .ref h0), (1, .int p0), (2, .int p1), (3, .int p2), (4, .int p3), (5, .int p4)]) hx hb dX12_feed_71 hl (by decide) rfl (fun ls hl => ?_)
              have lp73 : ∀ (n73 : Nat) (x88 : Int32) (gl89 : Nat → Int32) (fl90 : Nat → Nat → Int32) (H : Heap) (locs : List Loc) (ls : Array Slot), (x88.toInt + 8).toNat < n73 → ((-8) ≤ x88.toInt ∧ x88.toInt ≤ 24) → 8 * ((gl89 1).toInt - (g 1).toInt - 4 * x35.toInt) = 24 - x88.toInt → ((0) ≤ (gl89 1).toInt ∧ (gl89 1).toInt ≤ 2000) → va_P (dC, dI) vwCl (mW h0 kB kI kZ q (upd g 1 (gl89 1)) (upF F 0 (fl90 0))) H → va_D A (mW h0 kB kI kZ q (upd g 1 (gl89 1)) (upF F 0 (fl90 0))) → va_S A s.heap H locs → lv_has ls 9 [(8, .int x88), (7, .int p1), (6, .int x35), (0, .ref h0), (1, .int p0), (2, .int p1), (3, .int p2), (4, .int p3), (5, .int p4)] → W p l e ({ frames := 2, cells := 0, slots := 0, locals := 60 } : Room) s m args below meth c H locs 0 0 Q (F0 m 73 ls []) := by
                intro n73
                induction n73 with
                | zero => intro x88 gl89 fl90 H locs ls hm; exact absurd hm (Nat.not_lt_zero _)
                | succ n73 ih73 =>
                  intro x88 gl89 fl90 H locs ls hm73 f91 f92 hg93 hP hD hS hl
                  refine lv_iload hx hb dX12_feed_73 (lv_at hl 0 rfl) ?_
                  refine lv_if_lt (tgt := 109) hx hb dX12_feed_75 (by decide) (fun c94 => ?_) (fun c94 => ?_)
                  · have c94 := (z_lt _ _).mp c94
                    obtain ⟨x95, ex95⟩ : ∃ y : Int32, y = x35 + 1 := ⟨_, rfl⟩
                    have fx95 : x95.toInt = x35.toInt + (1) := by rw [ex95, z_add (by omega) (by omega)]; omega
                    refine lv_iinc (v := x95) (lv' := [(6, .int x95), (8, .int x88), (7, .int p1), (0, .ref h0), (1, .int p0), (2, .int p1), (3, .int p2), (4, .int p3), (5, .int p4)]) hx hb dX12_feed_109 hl (k := 2) rfl (by rw [ex95]; rfl) (by decide) rfl (fun ls hl => ?_)
                    clear ex95
                    refine lv_goto (tgt := 19) hx hb dX12_feed_112 (by decide) ?_
                    exact ih19 x95 (upd g 1 (gl89 1)) (upF F 0 (fl90 0)) H _ ls (show (5 - x95.toInt).toNat < n19 from by omega) (show (0 ≤ x95.toInt ∧ x95.toInt ≤ 5) from by omega) (show (gl89 1).toInt = (g 1).toInt + 4 * x95.toInt from by omega) hg93 hP hD hS (lv_sub hl [0, 3, 4, 5, 6, 7, 8] rfl)
                  · have c94 := z_nlt c94
                    refine lv_aload_n hx hb dX12_feed_78 rfl (lv_at hl 3 rfl) ?_
                    refine va_get (D := (dC, dI)) (ci := 12) (v := .ref (q 0)) (C := RX12) (T := TX12) (N := 71) hx hb hts (fun _ h => List.mem_append_right _ h) hown hK hP 0 rfl rfl 0 (by decide) (hts (.fieldLink RX12 7 "SpellTurnerModel" "tape" "[B") (List.mem_of_getElem? (i := 2) rfl)) (fun _ h9 => h9) rfl dX12_feed_79 ?_
                    refine lv_aload_n hx hb dX12_feed_82 rfl (lv_at hl 3 rfl) ?_
                    refine va_get (D := (dC, dI)) (ci := 12) (v := .int (gl89 1)) (C := RX12) (T := TX12) (N := 71) hx hb hts (fun _ h => List.mem_append_right _ h) hown hK hP 0 rfl rfl 1 (by decide) (hts (.fieldLink RX12 152 "SpellTurnerModel" "taped" "I") (List.mem_of_getElem? (i := 1) rfl)) (fun _ h9 => h9) rfl dX12_feed_83 ?_
                    refine lv_iload hx hb dX12_feed_86 (lv_at hl 1 rfl) ?_
                    refine lv_iload hx hb dX12_feed_88 (lv_at hl 0 rfl) ?_
                    refine lv_ishr hx hb dX12_feed_90 ?_
                    refine lv_topi (fun x96 ex96 => ?_)
                    clear ex96
                    refine lv_i2b hx hb dX12_feed_91 rfl ?_
                    refine lv_topi (fun x97 ex97 => ?_)
                    clear ex97
                    refine va_bast hx hb hK hP hD hS 1 0 rfl rfl (z_in (i := (gl89 1)) (by omega) (by omega)) dX12_feed_92 (fun H locs hP hD hS => ?_)
                    obtain ⟨f98, hP, hD⟩ : ∃ f98 : Nat → Int32, va_P (dC, dI) vwCl (mW h0 kB kI kZ q (upd g 1 (gl89 1)) (upF F 0 f98)) H ∧ va_D A (mW h0 kB kI kZ q (upd g 1 (gl89 1)) (upF F 0 f98)) := ⟨(upd (fl90 0) (Int32.toNatClampNeg (gl89 1)) (vp_nar .byte x97)), hP, hD⟩
                    refine lv_aload_n hx hb dX12_feed_93 rfl (lv_at hl 3 rfl) ?_
                    refine lv_dup hx hb dX12_feed_94 rfl ?_
                    refine va_get (D := (dC, dI)) (ci := 12) (v := .int (gl89 1)) (C := RX12) (T := TX12) (N := 71) hx hb hts (fun _ h => List.mem_append_right _ h) hown hK hP 0 rfl rfl 1 (by decide) (hts (.fieldLink RX12 152 "SpellTurnerModel" "taped" "I") (List.mem_of_getElem? (i := 1) rfl)) (fun _ h9 => h9) rfl dX12_feed_95 ?_
                    refine lv_iconst (v := 1) hx hb dX12_feed_98 (by decide +kernel) ?_
                    refine lv_iadd hx hb dX12_feed_99 ?_
                    refine lv_topi (fun x99 ex99 => ?_)
                    have fx99 : x99.toInt = (gl89 1).toInt + 1 := by have h := @z_add (gl89 1) (1 : Int32) (by omega) (by omega); rw [← ex99] at h; omega
                    clear ex99
                    refine va_put (D := (dC, dI)) (ci := 12) (v := .int x99) (ty := .int) (C := RX12) (T := TX12) (N := 71) hx hb hts (fun _ h => List.mem_append_right _ h) tyX12 tyX12_ok nmX12 hown hK hP hD hS 0 rfl rfl 1 (by decide) (hts (.fieldLink RX12 152 "SpellTurnerModel" "taped" "I") (List.mem_of_getElem? (i := 1) rfl)) (fun _ h9 => h9) rfl (by decide +kernel) rfl rfl (Nat.le_of_ble_eq_true rfl) dX12_feed_100 (fun H locs hP hD hS => ?_)
                    have hP : va_P (dC, dI) vwCl (mW h0 kB kI kZ q (upd g 1 x99) (upF F 0 f98)) H := hP
                    have hD : va_D A (mW h0 kB kI kZ q (upd g 1 x99) (upF F 0 f98)) := hD
                    have hg100 : (0) ≤ x99.toInt ∧ x99.toInt ≤ 2000 := ⟨by omega, by omega⟩
                    obtain ⟨x101, ex101⟩ : ∃ y : Int32, y = x88 + (-8) := ⟨_, rfl⟩
                    have fx101 : x101.toInt = x88.toInt + (-8) := by rw [ex101, z_add (by omega) (by omega)]; omega
                    refine lv_iinc (v := x101) (lv' := [(8, .int x101), (7, .int p1), (6, .int x35), (0, .ref h0), (1, .int p0), (2, .int p1), (3, .int p2), (4, .int p3), (5, .int p4)]) hx hb dX12_feed_103 hl (k := 0) rfl (by rw [ex101]; rfl) (by decide) rfl (fun ls hl => ?_)
                    clear ex101
                    refine lv_goto (tgt := 73) hx hb dX12_feed_106 (by decide) ?_
                    exact ih73 x101 (upd g 1 x99) (upF F 0 f98) H _ ls (show (x101.toInt + 8).toNat < n73 from by omega) (show ((-8) ≤ x101.toInt ∧ x101.toInt ≤ 24) from by omega) (show 8 * (x99.toInt - (g 1).toInt - 4 * x35.toInt) = 24 - x101.toInt from by omega) hg100 hP hD hS (lv_sub hl [0, 1, 2, 3, 4, 5, 6, 7, 8] rfl)
              exact lp73 (((24 : Int32).toInt + 8).toNat + 1) 24 (upd g 1 (gl36 1)) (upF F 0 (fl37 0)) H _ ls (Nat.lt_succ_self _) (show ((-8) ≤ (24 : Int32).toInt ∧ (24 : Int32).toInt ≤ 24) from by omega) (show 8 * ((gl36 1).toInt - (g 1).toInt - 4 * x35.toInt) = 24 - (24 : Int32).toInt from by omega) hg40 hP hD hS (lv_sub hl [0, 1, 2, 3, 4, 5, 6, 7, 8] rfl)
          · have c42 := congrArg Int32.toInt c42
            refine lv_iload_n hx hb dX12_feed_30 rfl (lv_at hl 2 rfl) ?_
            refine lv_goto (tgt := 67) hx hb dX12_feed_31 (by decide) ?_
            refine lv_istore (lv' := [(7, .int p0), (6, .int x35), (0, .ref h0), (1, .int p0), (2, .int p1), (3, .int p2), (4, .int p3), (5, .int p4)]) hx hb dX12_feed_67 hl (by decide) rfl (fun ls hl => ?_)
            refine lv_bipush (v := 24) hx hb dX12_feed_69 (by decide +kernel) ?_
            refine lv_istore (lv' := [(8, .int 24), (7, .int p0), (6, .int x35), (0, .ref h0), (1, .int p0), (2, .int p1), (3, .int p2), (4, .int p3), (5, .int p4)]) hx hb dX12_feed_71 hl (by decide) rfl (fun ls hl => ?_)
            have lp73 : ∀ (n73 : Nat) (x102 : Int32) (gl103 : Nat → Int32) (fl104 : Nat → Nat → Int32) (H : Heap) (locs : List Loc) (ls : Array Slot), (x102.toInt + 8).toNat < n73 → ((-8) ≤ x102.toInt ∧ x102.toInt ≤ 24) → 8 * ((gl103 1).toInt - (g 1).toInt - 4 * x35.toInt) = 24 - x102.toInt → ((0) ≤ (gl103 1).toInt ∧ (gl103 1).toInt ≤ 2000) → va_P (dC, dI) vwCl (mW h0 kB kI kZ q (upd g 1 (gl103 1)) (upF F 0 (fl104 0))) H → va_D A (mW h0 kB kI kZ q (upd g 1 (gl103 1)) (upF F 0 (fl104 0))) → va_S A s.heap H locs → lv_has ls 9 [(8, .int x102), (7, .int p0), (6, .int x35), (0, .ref h0), (1, .int p0), (2, .int p1), (3, .int p2), (4, .int p3), (5, .int p4)] → W p l e ({ frames := 2, cells := 0, slots := 0, locals := 60 } : Room) s m args below meth c H locs 0 0 Q (F0 m 73 ls []) := by
              intro n73
              induction n73 with
              | zero => intro x102 gl103 fl104 H locs ls hm; exact absurd hm (Nat.not_lt_zero _)
              | succ n73 ih73 =>
                intro x102 gl103 fl104 H locs ls hm73 f105 f106 hg107 hP hD hS hl
                refine lv_iload hx hb dX12_feed_73 (lv_at hl 0 rfl) ?_
                refine lv_if_lt (tgt := 109) hx hb dX12_feed_75 (by decide) (fun c108 => ?_) (fun c108 => ?_)
                · have c108 := (z_lt _ _).mp c108
                  obtain ⟨x109, ex109⟩ : ∃ y : Int32, y = x35 + 1 := ⟨_, rfl⟩
                  have fx109 : x109.toInt = x35.toInt + (1) := by rw [ex109, z_add (by omega) (by omega)]; omega
                  refine lv_iinc (v := x109) (lv' := [(6, .int x109), (8, .int x102), (7, .int p0), (0, .ref h0), (1, .int p0), (2, .int p1), (3, .int p2), (4, .int p3), (5, .int p4)]) hx hb dX12_feed_109 hl (k := 2) rfl (by rw [ex109]; rfl) (by decide) rfl (fun ls hl => ?_)
                  clear ex109
                  refine lv_goto (tgt := 19) hx hb dX12_feed_112 (by decide) ?_
                  exact ih19 x109 (upd g 1 (gl103 1)) (upF F 0 (fl104 0)) H _ ls (show (5 - x109.toInt).toNat < n19 from by omega) (show (0 ≤ x109.toInt ∧ x109.toInt ≤ 5) from by omega) (show (gl103 1).toInt = (g 1).toInt + 4 * x109.toInt from by omega) hg107 hP hD hS (lv_sub hl [0, 3, 4, 5, 6, 7, 8] rfl)
                · have c108 := z_nlt c108
                  refine lv_aload_n hx hb dX12_feed_78 rfl (lv_at hl 3 rfl) ?_
                  refine va_get (D := (dC, dI)) (ci := 12) (v := .ref (q 0)) (C := RX12) (T := TX12) (N := 71) hx hb hts (fun _ h => List.mem_append_right _ h) hown hK hP 0 rfl rfl 0 (by decide) (hts (.fieldLink RX12 7 "SpellTurnerModel" "tape" "[B") (List.mem_of_getElem? (i := 2) rfl)) (fun _ h9 => h9) rfl dX12_feed_79 ?_
                  refine lv_aload_n hx hb dX12_feed_82 rfl (lv_at hl 3 rfl) ?_
                  refine va_get (D := (dC, dI)) (ci := 12) (v := .int (gl103 1)) (C := RX12) (T := TX12) (N := 71) hx hb hts (fun _ h => List.mem_append_right _ h) hown hK hP 0 rfl rfl 1 (by decide) (hts (.fieldLink RX12 152 "SpellTurnerModel" "taped" "I") (List.mem_of_getElem? (i := 1) rfl)) (fun _ h9 => h9) rfl dX12_feed_83 ?_
                  refine lv_iload hx hb dX12_feed_86 (lv_at hl 1 rfl) ?_
                  refine lv_iload hx hb dX12_feed_88 (lv_at hl 0 rfl) ?_
                  refine lv_ishr hx hb dX12_feed_90 ?_
                  refine lv_topi (fun x110 ex110 => ?_)
                  clear ex110
                  refine lv_i2b hx hb dX12_feed_91 rfl ?_
                  refine lv_topi (fun x111 ex111 => ?_)
                  clear ex111
                  refine va_bast hx hb hK hP hD hS 1 0 rfl rfl (z_in (i := (gl103 1)) (by omega) (by omega)) dX12_feed_92 (fun H locs hP hD hS => ?_)
                  obtain ⟨f112, hP, hD⟩ : ∃ f112 : Nat → Int32, va_P (dC, dI) vwCl (mW h0 kB kI kZ q (upd g 1 (gl103 1)) (upF F 0 f112)) H ∧ va_D A (mW h0 kB kI kZ q (upd g 1 (gl103 1)) (upF F 0 f112)) := ⟨(upd (fl104 0) (Int32.toNatClampNeg (gl103 1)) (vp_nar .byte x111)), hP, hD⟩
                  refine lv_aload_n hx hb dX12_feed_93 rfl (lv_at hl 3 rfl) ?_
                  refine lv_dup hx hb dX12_feed_94 rfl ?_
                  refine va_get (D := (dC, dI)) (ci := 12) (v := .int (gl103 1)) (C := RX12) (T := TX12) (N := 71) hx hb hts (fun _ h => List.mem_append_right _ h) hown hK hP 0 rfl rfl 1 (by decide) (hts (.fieldLink RX12 152 "SpellTurnerModel" "taped" "I") (List.mem_of_getElem? (i := 1) rfl)) (fun _ h9 => h9) rfl dX12_feed_95 ?_
                  refine lv_iconst (v := 1) hx hb dX12_feed_98 (by decide +kernel) ?_
                  refine lv_iadd hx hb dX12_feed_99 ?_
                  refine lv_topi (fun x113 ex113 => ?_)
                  have fx113 : x113.toInt = (gl103 1).toInt + 1 := by have h := @z_add (gl103 1) (1 : Int32) (by omega) (by omega); rw [← ex113] at h; omega
                  clear ex113
                  refine va_put (D := (dC, dI)) (ci := 12) (v := .int x113) (ty := .int) (C := RX12) (T := TX12) (N := 71) hx hb hts (fun _ h => List.mem_append_right _ h) tyX12 tyX12_ok nmX12 hown hK hP hD hS 0 rfl rfl 1 (by decide) (hts (.fieldLink RX12 152 "SpellTurnerModel" "taped" "I") (List.mem_of_getElem? (i := 1) rfl)) (fun _ h9 => h9) rfl (by decide +kernel) rfl rfl (Nat.le_of_ble_eq_true rfl) dX12_feed_100 (fun H locs hP hD hS => ?_)
                  have hP : va_P (dC, dI) vwCl (mW h0 kB kI kZ q (upd g 1 x113) (upF F 0 f112)) H := hP
                  have hD : va_D A (mW h0 kB kI kZ q (upd g 1 x113) (upF F 0 f112)) := hD
                  have hg114 : (0) ≤ x113.toInt ∧ x113.toInt ≤ 2000 := ⟨by omega, by omega⟩
                  obtain ⟨x115, ex115⟩ : ∃ y : Int32, y = x102 + (-8) := ⟨_, rfl⟩
                  have fx115 : x115.toInt = x102.toInt + (-8) := by rw [ex115, z_add (by omega) (by omega)]; omega
                  refine lv_iinc (v := x115) (lv' := [(8, .int x115), (7, .int p0), (6, .int x35), (0, .ref h0), (1, .int p0), (2, .int p1), (3, .int p2), (4, .int p3), (5, .int p4)]) hx hb dX12_feed_103 hl (k := 0) rfl (by rw [ex115]; rfl) (by decide) rfl (fun ls hl => ?_)
                  clear ex115
                  refine lv_goto (tgt := 73) hx hb dX12_feed_106 (by decide) ?_
                  exact ih73 x115 (upd g 1 x113) (upF F 0 f112) H _ ls (show (x115.toInt + 8).toNat < n73 from by omega) (show ((-8) ≤ x115.toInt ∧ x115.toInt ≤ 24) from by omega) (show 8 * (x113.toInt - (g 1).toInt - 4 * x35.toInt) = 24 - x115.toInt from by omega) hg114 hP hD hS (lv_sub hl [0, 1, 2, 3, 4, 5, 6, 7, 8] rfl)
            exact lp73 (((24 : Int32).toInt + 8).toNat + 1) 24 (upd g 1 (gl36 1)) (upF F 0 (fl37 0)) H _ ls (Nat.lt_succ_self _) (show ((-8) ≤ (24 : Int32).toInt ∧ (24 : Int32).toInt ≤ 24) from by omega) (show 8 * ((gl36 1).toInt - (g 1).toInt - 4 * x35.toInt) = 24 - (24 : Int32).toInt from by omega) hg40 hP hD hS (lv_sub hl [0, 1, 2, 3, 4, 5, 6, 7, 8] rfl)
    exact lp19 ((5 - (0 : Int32).toInt).toNat + 1) 0 g F H _ ls (Nat.lt_succ_self _) (show (0 ≤ (0 : Int32).toInt ∧ (0 : Int32).toInt ≤ 5) from by omega) (show (g 1).toInt = (g 1).toInt + 4 * (0 : Int32).toInt from by omega) hg1z hP hD hS (lv_sub hl [0, 1, 2, 3, 4, 5, 6] rfl)
  · have c34 := z_nle c34
    refine lv_bipush (v := (-3)) hx hb dX12_feed_13 (by decide +kernel) ?_
    exact K 15 ls (-3) (g, F) H _ dX12_feed_15 ⟨hg1z, (show ((g 1).toInt + 20 ≤ 2000 → (g 1).toInt = (g 1).toInt + 20 ∧ (-3 : Int32).toInt = (g 1).toInt + 20) from by omega), (show (2000 < (g 1).toInt + 20 → (g 1).toInt = (g 1).toInt ∧ (-3 : Int32).toInt = -3) from by omega)⟩ hP hD hS
set_option maxHeartbeats 4000000 in
set_option maxRecDepth 100000 in
theorem m_feed (l : Launch) (dC : Nat → ClassId) (dI : Nat → Nat → Nat) (sz : Nat) (h0 : Nat) (kB kI kZ : ClassId) (q : Nat → Nat) (g : Nat → Int32) (F : Nat → Nat → Int32) (p0 : Int32) (p1 : Int32) (p2 : Int32) (p3 : Int32) (p4 : Int32) (hI : MInv g F) : Met l yX12_feed vmX12_feed ({ frames := 2, cells := 0, slots := 0, locals := 60 } : Room) (va_Pc [.ref h0, .int p0, .int p1, .int p2, .int p3, .int p4] (fun U => U.heap.size = sz ∧ va_P (dC, dI) vwCl (mW h0 kB kI kZ q g F) U.heap ∧ va_K (dC, dI) vwCl (mT kB kI kZ) U ∧ va_D (fun _ => True) (mW h0 kB kI kZ q g F))) (va_Qi (fun (r : Int32) (u : ((Nat → Int32) × (Nat → Nat → Int32))) => (((0) ≤ (u.1 1).toInt ∧ (u.1 1).toInt ≤ 2000)) ∧ (((g 1).toInt + 20 ≤ 2000 → (u.1 1).toInt = (g 1).toInt + 20 ∧ r.toInt = (g 1).toInt + 20)) ∧ ((2000 < (g 1).toInt + 20 → (u.1 1).toInt = (g 1).toInt ∧ r.toInt = -3))) (fun u t => va_P (dC, dI) vwCl (mW h0 kB kI kZ q (upd g 1 (u.1 1)) (upF F 0 (u.2 0))) t.heap ∧ va_K (dC, dI) vwCl (mT kB kI kZ) t ∧ va_D (va_A (mW h0 kB kI kZ q g F) sz) (mW h0 kB kI kZ q (upd g 1 (u.1 1)) (upF F 0 (u.2 0)))) (va_A (mW h0 kB kI kZ q g F) sz)) 0 0 (va_A (mW h0 kB kI kZ q g F) sz) := by
  refine Met.ofW (cc := cX12_feed) (maxL := 9) (ret := (some .int)) (by decide) rfl ?_
  intro p e s m args below meth c s₁ B hml hv
  obtain ⟨rfl, hsz, hP, hK, hD0⟩ := hv
  have hx := B.exec
  have hb := B.bytes
  have hr := B.returns
  have hts := atoms_spec (ws := vmX12_feed) B.pre
  have hown : s.vm.findClass RX12 = some m.cls := findClass_of_methodNamed B.named
  subst hsz
  have hD := hD0.self (sz := s.heap.size)
  generalize hAe : va_A (mW h0 kB kI kZ q g F) s.heap.size = A at hD ⊢
  have hA : ∀ q : Nat, s.heap.size ≤ q → A q := fun q h => by rw [← hAe]; exact Or.inr h
  have hS : va_S A s.heap s.heap [] := va_S.rf
  have hl := lv_entry ([.ref h0, .int p0, .int p1, .int p2, .int p3, .int p4]) (n := 9) (Nat.le_of_ble_eq_true rfl)
  rw [lg_entry_eq]
  generalize (lg_sl ([.ref h0, .int p0, .int p1, .int p2, .int p3, .int p4]) ++ List.replicate (9 - (lg_sl ([.ref h0, .int p0, .int p1, .int p2, .int p3, .int p4])).length) Slot.unset).toArray = ls at hl ⊢
  exact bm_feed p0 p1 p2 p3 p4 hx hb hml hown hts hA hK hI hP hD hS hl (fun pc ls r u H locs hd hw hP hD hS => W.iret (v := r) hx hb hr (fun t ht hW => ⟨⟨r, u, rfl, hw, by rw [ht]; exact hP, va_K.moved hW.alike hK, hD⟩, hS.F ht⟩) hS.2.2 hd)
set_option maxHeartbeats 4000000 in
set_option maxRecDepth 100000 in
theorem bm_fault {p : Program} {l : Launch} {e : Env} {s : State} {m : MethodId} {args : Array Value} {below : List Frame} {meth : Method} {c : Code} {Q : State → Prop} {A : Nat → Prop} {dC : Nat → ClassId} {dI : Nat → Nat → Nat} {h0 : Nat} {kB kI kZ : ClassId} {q : Nat → Nat} {g : Nat → Int32} {F : Nat → Nat → Int32} {H : Heap} {locs : List Loc} {ls : Array Slot} (p0 : Int32) (hx : p.tables.exec = Jvm.exec) (hb : c.code = cX12_fault) (hml : c.maxLocals = 2) (hown : s.vm.findClass RX12 = some m.cls) (hts : ∀ w ∈ vmX12_fault, w.before args s = true) (hA : ∀ q : Nat, s.heap.size ≤ q → A q) (hK : va_K (dC, dI) vwCl (mT kB kI kZ) s) (hI : MInv g F) (hP : va_P (dC, dI) vwCl (mW h0 kB kI kZ q g F) H) (hD : va_D A (mW h0 kB kI kZ q g F)) (hS : va_S A s.heap H locs) (hl : lv_has ls 2 [(0, .ref h0), (1, .int p0)])
    (K : ∀ (pc : Nat) (ls : Array Slot) (r : Int32) (u : ((Nat → Int32) × (Nat → Nat → Int32))) (H : Heap) (locs : List Loc), decode cX12_fault pc = .ok (.ireturn, 1) → (True) → va_P (dC, dI) vwCl (mW h0 kB kI kZ q g F) H → va_D A (mW h0 kB kI kZ q g F) → va_S A s.heap H locs → W p l e ({ frames := 2, cells := 0, slots := 0, locals := 60 } : Room) s m args below meth c H locs 0 0 Q (F0 m pc ls [.int r])) : W p l e ({ frames := 2, cells := 0, slots := 0, locals := 60 } : Room) s m args below meth c H locs 0 0 Q (F0 m 0 ls []) := by
  obtain ⟨hg1z, hg2z, hg3z, hg4z, hg5z, hg6z, hg7z, hg8z, hg9z, hg23z, hg27z, hg30z, hg34z, hg36z, hg39z, hg44z, hg47z, hg48z, hg51z, hg56z, hg59z, hg62z, hg65z, hg66z, hg70z, hF11z, hF12z, hF13z, hF15z, hF19z, hF21z, hF24z, hF25z, hF26z, hF33z, hF38z, hF41z, hF43z, hF45z, hF46z, hF50z, hF53z, hF54z⟩ := hI
  have zkm1 : (-1 : Int32).toInt = -1 := by decide +kernel
  have zk0 : (0 : Int32).toInt = 0 := by decide +kernel
  have zk1 : (1 : Int32).toInt = 1 := by decide +kernel
  refine lv_iload_n hx hb dX12_fault_0 rfl (lv_at hl 1 rfl) ?_
  refine lv_if_ne (tgt := 11) hx hb dX12_fault_1 (by decide) (fun c116 => ?_) (fun c116 => ?_)
  · have c116 := z_ne c116
    refine lv_iload_n hx hb dX12_fault_11 rfl (lv_at hl 1 rfl) ?_
    refine lv_iconst (v := 1) hx hb dX12_fault_12 (by decide +kernel) ?_
    refine lv_icmp_ne (tgt := 23) hx hb dX12_fault_13 (by decide) (fun c117 => ?_) (fun c117 => ?_)
    · have c117 := z_ne c117
      refine lv_iconst (v := (-1)) hx hb dX12_fault_23 (by decide +kernel) ?_
      exact K 24 ls (-1) (g, F) H _ dX12_fault_24 trivial hP hD hS
    · have c117 := congrArg Int32.toInt c117
      refine lv_aload_n hx hb dX12_fault_16 rfl (lv_at hl 0 rfl) ?_
      refine va_get (D := (dC, dI)) (ci := 12) (v := .int (g 8)) (C := RX12) (T := TX12) (N := 71) hx hb hts (fun _ h => List.mem_append_right _ h) hown hK hP 0 rfl rfl 8 (by decide) (hts (.fieldLink RX12 13 "SpellTurnerModel" "faultPlace" "I") (List.mem_of_getElem? (i := 1) rfl)) (fun _ h9 => h9) rfl dX12_fault_17 ?_
      refine lv_goto (tgt := 24) hx hb dX12_fault_20 (by decide) ?_
      exact K 24 ls (g 8) (g, F) H _ dX12_fault_24 trivial hP hD hS
  · have c116 := congrArg Int32.toInt c116
    refine lv_aload_n hx hb dX12_fault_4 rfl (lv_at hl 0 rfl) ?_
    refine va_get (D := (dC, dI)) (ci := 12) (v := .int (g 7)) (C := RX12) (T := TX12) (N := 71) hx hb hts (fun _ h => List.mem_append_right _ h) hown hK hP 0 rfl rfl 7 (by decide) (hts (.fieldLink RX12 194 "SpellTurnerModel" "faultKind" "I") (List.mem_of_getElem? (i := 2) rfl)) (fun _ h9 => h9) rfl dX12_fault_5 ?_
    refine lv_goto (tgt := 24) hx hb dX12_fault_8 (by decide) ?_
    exact K 24 ls (g 7) (g, F) H _ dX12_fault_24 trivial hP hD hS
set_option maxHeartbeats 4000000 in
set_option maxRecDepth 100000 in
theorem m_fault (l : Launch) (dC : Nat → ClassId) (dI : Nat → Nat → Nat) (sz : Nat) (h0 : Nat) (kB kI kZ : ClassId) (q : Nat → Nat) (g : Nat → Int32) (F : Nat → Nat → Int32) (p0 : Int32) (hI : MInv g F) : Met l yX12_fault vmX12_fault ({ frames := 2, cells := 0, slots := 0, locals := 60 } : Room) (va_Pc [.ref h0, .int p0] (fun U => U.heap.size = sz ∧ va_P (dC, dI) vwCl (mW h0 kB kI kZ q g F) U.heap ∧ va_K (dC, dI) vwCl (mT kB kI kZ) U ∧ va_D (fun _ => True) (mW h0 kB kI kZ q g F))) (va_Qi (fun (r : Int32) (u : ((Nat → Int32) × (Nat → Nat → Int32))) => True) (fun u t => va_P (dC, dI) vwCl (mW h0 kB kI kZ q g F) t.heap ∧ va_K (dC, dI) vwCl (mT kB kI kZ) t ∧ va_D (va_A (mW h0 kB kI kZ q g F) sz) (mW h0 kB kI kZ q g F)) (va_A (mW h0 kB kI kZ q g F) sz)) 0 0 (va_A (mW h0 kB kI kZ q g F) sz) := by
  refine Met.ofW (cc := cX12_fault) (maxL := 2) (ret := (some .int)) (by decide) rfl ?_
  intro p e s m args below meth c s₁ B hml hv
  obtain ⟨rfl, hsz, hP, hK, hD0⟩ := hv
  have hx := B.exec
  have hb := B.bytes
  have hr := B.returns
  have hts := atoms_spec (ws := vmX12_fault) B.pre
  have hown : s.vm.findClass RX12 = some m.cls := findClass_of_methodNamed B.named
  subst hsz
  have hD := hD0.self (sz := s.heap.size)
  generalize hAe : va_A (mW h0 kB kI kZ q g F) s.heap.size = A at hD ⊢
  have hA : ∀ q : Nat, s.heap.size ≤ q → A q := fun q h => by rw [← hAe]; exact Or.inr h
  have hS : va_S A s.heap s.heap [] := va_S.rf
  have hl := lv_entry ([.ref h0, .int p0]) (n := 2) (Nat.le_of_ble_eq_true rfl)
  rw [lg_entry_eq]
  generalize (lg_sl ([.ref h0, .int p0]) ++ List.replicate (2 - (lg_sl ([.ref h0, .int p0])).length) Slot.unset).toArray = ls at hl ⊢
  exact bm_fault p0 hx hb hml hown hts hA hK hI hP hD hS hl (fun pc ls r u H locs hd hw hP hD hS => W.iret (v := r) hx hb hr (fun t ht hW => ⟨⟨r, u, rfl, hw, by rw [ht]; exact hP, va_K.moved hW.alike hK, hD⟩, hS.F ht⟩) hS.2.2 hd)
set_option maxHeartbeats 4000000 in
set_option maxRecDepth 100000 in
theorem bm_stage {p : Program} {l : Launch} {e : Env} {s : State} {m : MethodId} {args : Array Value} {below : List Frame} {meth : Method} {c : Code} {Q : State → Prop} {A : Nat → Prop} {dC : Nat → ClassId} {dI : Nat → Nat → Nat} {h0 : Nat} {kB kI kZ : ClassId} {q : Nat → Nat} {g : Nat → Int32} {F : Nat → Nat → Int32} {H : Heap} {locs : List Loc} {ls : Array Slot} (p0 : Int32) (hx : p.tables.exec = Jvm.exec) (hb : c.code = cX12_stage) (hml : c.maxLocals = 4) (hown : s.vm.findClass RX12 = some m.cls) (hts : ∀ w ∈ vmX12_stage, w.before args s = true) (hA : ∀ q : Nat, s.heap.size ≤ q → A q) (hK : va_K (dC, dI) vwCl (mT kB kI kZ) s) (hI : MInv g F) (hP : va_P (dC, dI) vwCl (mW h0 kB kI kZ q g F) H) (hD : va_D A (mW h0 kB kI kZ q g F)) (hS : va_S A s.heap H locs) (hl : lv_has ls 4 [(0, .ref h0), (1, .int p0)])
    (K : ∀ (pc : Nat) (ls : Array Slot) (r : Int32) (u : ((Nat → Int32) × (Nat → Nat → Int32))) (H : Heap) (locs : List Loc), decode cX12_stage pc = .ok (.ireturn, 1) → (True) → va_P (dC, dI) vwCl (mW h0 kB kI kZ q g F) H → va_D A (mW h0 kB kI kZ q g F) → va_S A s.heap H locs → W p l e ({ frames := 3, cells := 0, slots := 0, locals := 82 } : Room) s m args below meth c H locs 0 0 Q (F0 m pc ls [.int r])) : W p l e ({ frames := 3, cells := 0, slots := 0, locals := 82 } : Room) s m args below meth c H locs 0 0 Q (F0 m 0 ls []) := by
  obtain ⟨hg1z, hg2z, hg3z, hg4z, hg5z, hg6z, hg7z, hg8z, hg9z, hg23z, hg27z, hg30z, hg34z, hg36z, hg39z, hg44z, hg47z, hg48z, hg51z, hg56z, hg59z, hg62z, hg65z, hg66z, hg70z, hF11z, hF12z, hF13z, hF15z, hF19z, hF21z, hF24z, hF25z, hF26z, hF33z, hF38z, hF41z, hF43z, hF45z, hF46z, hF50z, hF53z, hF54z⟩ := hI
  have zkm2 : (-2 : Int32).toInt = -2 := by decide +kernel
  have zk0 : (0 : Int32).toInt = 0 := by decide +kernel
  have zk1 : (1 : Int32).toInt = 1 := by decide +kernel
  have zk100000 : (100000 : Int32).toInt = 100000 := by decide +kernel
  refine lv_iload_n hx hb dX12_stage_0 rfl (lv_at hl 1 rfl) ?_
  refine lv_iconst (v := 0) hx hb dX12_stage_1 (by decide +kernel) ?_
  refine lv_ldc (own := RX12) (v := 100000) hx hb hown (hts (.constant RX12 225 (100000)) (List.mem_of_getElem? (i := 1) rfl)) dX12_stage_2 ?_
  have hFc := va_free (wc := (mW h0 kB kI kZ q g F)) hD hS hA [0, 1, 2, 3, 4, 5, 6, 7, 8, 9, 10, 11, 12, 13, 14, 15, 16, 17, 18, 19, 20, 21, 22, 23, 24, 25, 26, 27, 28, 29, 30, 31, 32, 33, 34, 35, 36, 37, 38, 39, 40, 41, 42, 43, 44, 45] rfl
  refine va_calli (va_runS (As := [.int p0, .int 0, .int 100000]) (rest := []) ⟨hx, hb, hml, hown, hts⟩ (m_in l dC dI H.size h0 kB kI kZ q g F p0 0 100000 ⟨hg1z, hg2z, hg3z, hg4z, hg5z, hg6z, hg7z, hg8z, hg9z, hg23z, hg27z, hg30z, hg34z, hg36z, hg39z, hg44z, hg47z, hg48z, hg51z, hg56z, hg59z, hg62z, hg65z, hg66z, hg70z, hF11z, hF12z, hF13z, hF15z, hF19z, hF21z, hF24z, hF25z, hF26z, hF33z, hF38z, hF41z, hF43z, hF45z, hF46z, hF50z, hF53z, hF54z⟩) (va_cwS 3 hts gw_X12_stage_X12_in_226 rfl rfl rfl (by decide +kernel) ⟨Nat.le_of_ble_eq_true rfl, Nat.le_of_ble_eq_true rfl⟩) ⟨fun a U g mk q => by obtain ⟨q0, q1, qP, qK, qD⟩ := q; exact ⟨q0, q1, qP, va_K.moved (u := U) (U := U.calling g mk a) (Vm.Alike.refl U.vm) qK, qD⟩, fun U hU hW => ⟨rfl, by rw [hU], by rw [hU]; exact hP, va_K.moved hW.alike hK, hD.weaken (fun _ _ _ _ => trivial)⟩⟩ rfl rfl hl.1 rfl (lv_room (Nat.le_of_ble_eq_true rfl)) dX12_stage_4 ⟨Nat.le_of_ble_eq_true rfl, Nat.le_of_ble_eq_true rfl⟩) hS (fun q _ h => hFc q h) hFc (fun r118 u t H1 locs ht hvm hw hB hz1 hk1 hS => ?_)
  obtain ⟨ga119, fa120⟩ := u
  obtain ⟨hP1, hK1, hD1⟩ := hB
  rw [ht] at hP1
  obtain ⟨hP, hD⟩ := va_join (wr := []) (w1 := (mW h0 kB kI kZ q g F)) hP hD [0, 1, 2, 3, 4, 5, 6, 7, 8, 9, 10, 11, 12, 13, 14, 15, 16, 17, 18, 19, 20, 21, 22, 23, 24, 25, 26, 27, 28, 29, 30, 31, 32, 33, 34, 35, 36, 37, 38, 39, 40, 41, 42, 43, 44, 45] [] rfl rfl (by decide) (by decide) hk1 hFc hP1 hD1
  generalize H1 = H at hP hS ⊢
  have hP : va_P (dC, dI) vwCl (mW h0 kB kI kZ q g F) H := hP
  have hD : va_D A (mW h0 kB kI kZ q g F) := hD
  obtain ⟨f121, f122⟩ : ((r118.toInt = 1 → (0 : Int32).toInt ≤ p0.toInt ∧ p0.toInt ≤ (100000 : Int32).toInt)) ∧ ((0 ≤ r118.toInt ∧ r118.toInt ≤ 1)) := hw
  refine lv_if_ne (tgt := 13) hx hb dX12_stage_7 (by decide) (fun c123 => ?_) (fun c123 => ?_)
  · have c123 := z_ne c123
    refine lv_iconst (v := 0) hx hb dX12_stage_13 (by decide +kernel) ?_
    refine lv_istore_n (lv' := [(2, .int 0), (0, .ref h0), (1, .int p0)]) hx hb dX12_stage_14 rfl hl (by decide) rfl (fun ls hl => ?_)
    refine lv_iconst (v := 0) hx hb dX12_stage_15 (by decide +kernel) ?_
    refine lv_istore_n (lv' := [(3, .int 0), (2, .int 0), (0, .ref h0), (1, .int p0)]) hx hb dX12_stage_16 rfl hl (by decide) rfl (fun ls hl => ?_)
    have lp17 : ∀ (n17 : Nat) (x124 : Int32) (x125 : Int32) (gl126 : Nat → Int32) (fl127 : Nat → Nat → Int32) (H : Heap) (locs : List Loc) (ls : Array Slot), (6 - x124.toInt).toNat < n17 → (0 ≤ x124.toInt ∧ x124.toInt ≤ 6) → (0 ≤ x125.toInt ∧ x125.toInt ≤ x124.toInt) → va_P (dC, dI) vwCl (mW h0 kB kI kZ q g F) H → va_D A (mW h0 kB kI kZ q g F) → va_S A s.heap H locs → lv_has ls 4 [(3, .int x124), (2, .int x125), (0, .ref h0), (1, .int p0)] → W p l e ({ frames := 3, cells := 0, slots := 0, locals := 82 } : Room) s m args below meth c H locs 0 0 Q (F0 m 17 ls []) := by
      intro n17
      induction n17 with
      | zero => intro x124 x125 gl126 fl127 H locs ls hm; exact absurd hm (Nat.not_lt_zero _)
      | succ n17 ih17 =>
        intro x124 x125 gl126 fl127 H locs ls hm17 f128 f129 hP hD hS hl
        refine lv_iload_n hx hb dX12_stage_17 rfl (lv_at hl 0 rfl) ?_
        refine lv_aload_n hx hb dX12_stage_18 rfl (lv_at hl 2 rfl) ?_
        refine va_get (D := (dC, dI)) (ci := 12) (v := .int (g 9)) (C := RX12) (T := TX12) (N := 71) hx hb hts (fun _ h => List.mem_append_right _ h) hown hK hP 0 rfl rfl 9 (by decide) (hts (.fieldLink RX12 222 "SpellTurnerModel" "reforms" "I") (List.mem_of_getElem? (i := 5) rfl)) (fun _ h9 => h9) rfl dX12_stage_19 ?_
        refine lv_icmp_ge (tgt := 49) hx hb dX12_stage_22 (by decide) (fun c130 => ?_) (fun c130 => ?_)
        · have c130 := (z_le _ _).mp c130
          refine lv_iload_n hx hb dX12_stage_49 rfl (lv_at hl 1 rfl) ?_
          exact K 50 ls x125 (g, F) H _ dX12_stage_50 trivial hP hD hS
        · have c130 := z_nle c130
          refine lv_iload_n hx hb dX12_stage_25 rfl (lv_at hl 1 rfl) ?_
          refine lv_aload_n hx hb dX12_stage_26 rfl (lv_at hl 2 rfl) ?_
          refine va_get (D := (dC, dI)) (ci := 12) (v := .ref (q 10)) (C := RX12) (T := TX12) (N := 71) hx hb hts (fun _ h => List.mem_append_right _ h) hown hK hP 0 rfl rfl 10 (by decide) (hts (.fieldLink RX12 17 "SpellTurnerModel" "day" "[I") (List.mem_of_getElem? (i := 6) rfl)) (fun _ h9 => h9) rfl dX12_stage_27 ?_
          refine lv_iload_n hx hb dX12_stage_30 rfl (lv_at hl 0 rfl) ?_
          refine va_iald hx hb hK hP 2 1 rfl rfl (z_in (i := x124) (by omega) (by omega)) dX12_stage_31 ?_
          refine lv_topi (fun x131 ex131 => ?_)
          clear ex131
          refine lv_iload_n hx hb dX12_stage_32 rfl (lv_at hl 3 rfl) ?_
          refine lv_icmp_gt (tgt := 40) hx hb dX12_stage_33 (by decide) (fun c132 => ?_) (fun c132 => ?_)
          · have c132 := (z_lt _ _).mp c132
            refine lv_iconst (v := 0) hx hb dX12_stage_40 (by decide +kernel) ?_
            refine lv_iadd hx hb dX12_stage_41 ?_
            refine lv_topi (fun x133 ex133 => ?_)
            have fx133 : x133.toInt = x125.toInt + 0 := by have h := @z_add x125 (0 : Int32) (by omega) (by omega); rw [← ex133] at h; omega
            clear ex133
            refine lv_istore_n (lv' := [(2, .int x133), (3, .int x124), (0, .ref h0), (1, .int p0)]) hx hb dX12_stage_42 rfl hl (by decide) rfl (fun ls hl => ?_)
            obtain ⟨x134, ex134⟩ : ∃ y : Int32, y = x124 + 1 := ⟨_, rfl⟩
            have fx134 : x134.toInt = x124.toInt + (1) := by rw [ex134, z_add (by omega) (by omega)]; omega
            refine lv_iinc (v := x134) (lv' := [(3, .int x134), (2, .int x133), (0, .ref h0), (1, .int p0)]) hx hb dX12_stage_43 hl (k := 1) rfl (by rw [ex134]; rfl) (by decide) rfl (fun ls hl => ?_)
            clear ex134
            refine lv_goto (tgt := 17) hx hb dX12_stage_46 (by decide) ?_
            exact ih17 x134 x133 g F H _ ls (show (6 - x134.toInt).toNat < n17 from by omega) (show (0 ≤ x134.toInt ∧ x134.toInt ≤ 6) from by omega) (show (0 ≤ x133.toInt ∧ x133.toInt ≤ x134.toInt) from by omega) hP hD hS (lv_sub hl [0, 1, 2, 3] rfl)
          · have c132 := z_nlt c132
            refine lv_iconst (v := 1) hx hb dX12_stage_36 (by decide +kernel) ?_
            refine lv_goto (tgt := 41) hx hb dX12_stage_37 (by decide) ?_
            refine lv_iadd hx hb dX12_stage_41 ?_
            refine lv_topi (fun x135 ex135 => ?_)
            have fx135 : x135.toInt = x125.toInt + 1 := by have h := @z_add x125 (1 : Int32) (by omega) (by omega); rw [← ex135] at h; omega
            clear ex135
            refine lv_istore_n (lv' := [(2, .int x135), (3, .int x124), (0, .ref h0), (1, .int p0)]) hx hb dX12_stage_42 rfl hl (by decide) rfl (fun ls hl => ?_)
            obtain ⟨x136, ex136⟩ : ∃ y : Int32, y = x124 + 1 := ⟨_, rfl⟩
            have fx136 : x136.toInt = x124.toInt + (1) := by rw [ex136, z_add (by omega) (by omega)]; omega
            refine lv_iinc (v := x136) (lv' := [(3, .int x136), (2, .int x135), (0, .ref h0), (1, .int p0)]) hx hb dX12_stage_43 hl (k := 1) rfl (by rw [ex136]; rfl) (by decide) rfl (fun ls hl => ?_)
            clear ex136
            refine lv_goto (tgt := 17) hx hb dX12_stage_46 (by decide) ?_
            exact ih17 x136 x135 g F H _ ls (show (6 - x136.toInt).toNat < n17 from by omega) (show (0 ≤ x136.toInt ∧ x136.toInt ≤ 6) from by omega) (show (0 ≤ x135.toInt ∧ x135.toInt ≤ x136.toInt) from by omega) hP hD hS (lv_sub hl [0, 1, 2, 3] rfl)
    exact lp17 ((6 - (0 : Int32).toInt).toNat + 1) 0 0 g F H _ ls (Nat.lt_succ_self _) (show (0 ≤ (0 : Int32).toInt ∧ (0 : Int32).toInt ≤ 6) from by omega) (show (0 ≤ (0 : Int32).toInt ∧ (0 : Int32).toInt ≤ (0 : Int32).toInt) from by omega) hP hD hS (lv_sub hl [0, 1, 2, 3] rfl)
  · have c123 := congrArg Int32.toInt c123
    refine lv_bipush (v := (-2)) hx hb dX12_stage_10 (by decide +kernel) ?_
    exact K 12 ls (-2) (g, F) H _ dX12_stage_12 trivial hP hD hS
set_option maxHeartbeats 4000000 in
set_option maxRecDepth 100000 in
theorem m_stage (l : Launch) (dC : Nat → ClassId) (dI : Nat → Nat → Nat) (sz : Nat) (h0 : Nat) (kB kI kZ : ClassId) (q : Nat → Nat) (g : Nat → Int32) (F : Nat → Nat → Int32) (p0 : Int32) (hI : MInv g F) : Met l yX12_stage vmX12_stage ({ frames := 3, cells := 0, slots := 0, locals := 82 } : Room) (va_Pc [.ref h0, .int p0] (fun U => U.heap.size = sz ∧ va_P (dC, dI) vwCl (mW h0 kB kI kZ q g F) U.heap ∧ va_K (dC, dI) vwCl (mT kB kI kZ) U ∧ va_D (fun _ => True) (mW h0 kB kI kZ q g F))) (va_Qi (fun (r : Int32) (u : ((Nat → Int32) × (Nat → Nat → Int32))) => True) (fun u t => va_P (dC, dI) vwCl (mW h0 kB kI kZ q g F) t.heap ∧ va_K (dC, dI) vwCl (mT kB kI kZ) t ∧ va_D (va_A (mW h0 kB kI kZ q g F) sz) (mW h0 kB kI kZ q g F)) (va_A (mW h0 kB kI kZ q g F) sz)) 0 0 (va_A (mW h0 kB kI kZ q g F) sz) := by
  refine Met.ofW (cc := cX12_stage) (maxL := 4) (ret := (some .int)) (by decide) rfl ?_
  intro p e s m args below meth c s₁ B hml hv
  obtain ⟨rfl, hsz, hP, hK, hD0⟩ := hv
  have hx := B.exec
  have hb := B.bytes
  have hr := B.returns
  have hts := atoms_spec (ws := vmX12_stage) B.pre
  have hown : s.vm.findClass RX12 = some m.cls := findClass_of_methodNamed B.named
  subst hsz
  have hD := hD0.self (sz := s.heap.size)
  generalize hAe : va_A (mW h0 kB kI kZ q g F) s.heap.size = A at hD ⊢
  have hA : ∀ q : Nat, s.heap.size ≤ q → A q := fun q h => by rw [← hAe]; exact Or.inr h
  have hS : va_S A s.heap s.heap [] := va_S.rf
  have hl := lv_entry ([.ref h0, .int p0]) (n := 4) (Nat.le_of_ble_eq_true rfl)
  rw [lg_entry_eq]
  generalize (lg_sl ([.ref h0, .int p0]) ++ List.replicate (4 - (lg_sl ([.ref h0, .int p0])).length) Slot.unset).toArray = ls at hl ⊢
  exact bm_stage p0 hx hb hml hown hts hA hK hI hP hD hS hl (fun pc ls r u H locs hd hw hP hD hS => W.iret (v := r) hx hb hr (fun t ht hW => ⟨⟨r, u, rfl, hw, by rw [ht]; exact hP, va_K.moved hW.alike hK, hD⟩, hS.F ht⟩) hS.2.2 hd)
set_option maxHeartbeats 4000000 in
set_option maxRecDepth 100000 in
theorem bm_about {p : Program} {l : Launch} {e : Env} {s : State} {m : MethodId} {args : Array Value} {below : List Frame} {meth : Method} {c : Code} {Q : State → Prop} {A : Nat → Prop} {dC : Nat → ClassId} {dI : Nat → Nat → Nat} {h0 : Nat} {kB kI kZ : ClassId} {q : Nat → Nat} {g : Nat → Int32} {F : Nat → Nat → Int32} {H : Heap} {locs : List Loc} {ls : Array Slot} (p0 : Int32) (p1 : Int32) (hx : p.tables.exec = Jvm.exec) (hb : c.code = cX12_about) (hml : c.maxLocals = 5) (hown : s.vm.findClass RX12 = some m.cls) (hts : ∀ w ∈ vmX12_about, w.before args s = true) (hA : ∀ q : Nat, s.heap.size ≤ q → A q) (hK : va_K (dC, dI) vwCl (mT kB kI kZ) s) (hI : MInv g F) (hP : va_P (dC, dI) vwCl (mW h0 kB kI kZ q g F) H) (hD : va_D A (mW h0 kB kI kZ q g F)) (hS : va_S A s.heap H locs) (hl : lv_has ls 5 [(0, .ref h0), (1, .int p0), (2, .int p1)])
    (K : ∀ (pc : Nat) (ls : Array Slot) (r : Int32) (u : ((Nat → Int32) × (Nat → Nat → Int32))) (H : Heap) (locs : List Loc), decode cX12_about pc = .ok (.ireturn, 1) → (True) → va_P (dC, dI) vwCl (mW h0 kB kI kZ q g F) H → va_D A (mW h0 kB kI kZ q g F) → va_S A s.heap H locs → W p l e ({ frames := 3, cells := 0, slots := 0, locals := 82 } : Room) s m args below meth c H locs 0 0 Q (F0 m pc ls [.int r])) : W p l e ({ frames := 3, cells := 0, slots := 0, locals := 82 } : Room) s m args below meth c H locs 0 0 Q (F0 m 0 ls []) := by
  obtain ⟨hg1z, hg2z, hg3z, hg4z, hg5z, hg6z, hg7z, hg8z, hg9z, hg23z, hg27z, hg30z, hg34z, hg36z, hg39z, hg44z, hg47z, hg48z, hg51z, hg56z, hg59z, hg62z, hg65z, hg66z, hg70z, hF11z, hF12z, hF13z, hF15z, hF19z, hF21z, hF24z, hF25z, hF26z, hF33z, hF38z, hF41z, hF43z, hF45z, hF46z, hF50z, hF53z, hF54z⟩ := hI
  have zkm1 : (-1 : Int32).toInt = -1 := by decide +kernel
  have zk0 : (0 : Int32).toInt = 0 := by decide +kernel
  have zk1 : (1 : Int32).toInt = 1 := by decide +kernel
  have zk2 : (2 : Int32).toInt = 2 := by decide +kernel
  have zk3 : (3 : Int32).toInt = 3 := by decide +kernel
  have zk4 : (4 : Int32).toInt = 4 := by decide +kernel
  have zk40 : (40 : Int32).toInt = 40 := by decide +kernel
  refine lv_iload_n hx hb dX12_about_0 rfl (lv_at hl 1 rfl) ?_
  refine lv_iconst (v := 0) hx hb dX12_about_1 (by decide +kernel) ?_
  refine lv_aload_n hx hb dX12_about_2 rfl (lv_at hl 0 rfl) ?_
  refine va_get (D := (dC, dI)) (ci := 12) (v := .int (g 9)) (C := RX12) (T := TX12) (N := 71) hx hb hts (fun _ h => List.mem_append_right _ h) hown hK hP 0 rfl rfl 9 (by decide) (hts (.fieldLink RX12 222 "SpellTurnerModel" "reforms" "I") (List.mem_of_getElem? (i := 1) rfl)) (fun _ h9 => h9) rfl dX12_about_3 ?_
  refine lv_iconst (v := 1) hx hb dX12_about_6 (by decide +kernel) ?_
  refine lv_isub hx hb dX12_about_7 ?_
  refine lv_topi (fun x137 ex137 => ?_)
  have fx137 : x137.toInt = (g 9).toInt - 1 := by have h := @z_sub (g 9) (1 : Int32) (by omega) (by omega); rw [← ex137] at h; omega
  clear ex137
  have hFc := va_free (wc := (mW h0 kB kI kZ q g F)) hD hS hA [0, 1, 2, 3, 4, 5, 6, 7, 8, 9, 10, 11, 12, 13, 14, 15, 16, 17, 18, 19, 20, 21, 22, 23, 24, 25, 26, 27, 28, 29, 30, 31, 32, 33, 34, 35, 36, 37, 38, 39, 40, 41, 42, 43, 44, 45] rfl
  refine va_calli (va_runS (As := [.int p0, .int 0, .int x137]) (rest := []) ⟨hx, hb, hml, hown, hts⟩ (m_in l dC dI H.size h0 kB kI kZ q g F p0 0 x137 ⟨hg1z, hg2z, hg3z, hg4z, hg5z, hg6z, hg7z, hg8z, hg9z, hg23z, hg27z, hg30z, hg34z, hg36z, hg39z, hg44z, hg47z, hg48z, hg51z, hg56z, hg59z, hg62z, hg65z, hg66z, hg70z, hF11z, hF12z, hF13z, hF15z, hF19z, hF21z, hF24z, hF25z, hF26z, hF33z, hF38z, hF41z, hF43z, hF45z, hF46z, hF50z, hF53z, hF54z⟩) (va_cwS 3 hts gw_X12_about_X12_in_226 rfl rfl rfl (by decide +kernel) ⟨Nat.le_of_ble_eq_true rfl, Nat.le_of_ble_eq_true rfl⟩) ⟨fun a U g mk q => by obtain ⟨q0, q1, qP, qK, qD⟩ := q; exact ⟨q0, q1, qP, va_K.moved (u := U) (U := U.calling g mk a) (Vm.Alike.refl U.vm) qK, qD⟩, fun U hU hW => ⟨rfl, by rw [hU], by rw [hU]; exact hP, va_K.moved hW.alike hK, hD.weaken (fun _ _ _ _ => trivial)⟩⟩ rfl rfl hl.1 rfl (lv_room (Nat.le_of_ble_eq_true rfl)) dX12_about_8 ⟨Nat.le_of_ble_eq_true rfl, Nat.le_of_ble_eq_true rfl⟩) hS (fun q _ h => hFc q h) hFc (fun r138 u t H1 locs ht hvm hw hB hz1 hk1 hS => ?_)
  obtain ⟨ga139, fa140⟩ := u
  obtain ⟨hP1, hK1, hD1⟩ := hB
  rw [ht] at hP1
  obtain ⟨hP, hD⟩ := va_join (wr := []) (w1 := (mW h0 kB kI kZ q g F)) hP hD [0, 1, 2, 3, 4, 5, 6, 7, 8, 9, 10, 11, 12, 13, 14, 15, 16, 17, 18, 19, 20, 21, 22, 23, 24, 25, 26, 27, 28, 29, 30, 31, 32, 33, 34, 35, 36, 37, 38, 39, 40, 41, 42, 43, 44, 45] [] rfl rfl (by decide) (by decide) hk1 hFc hP1 hD1
  generalize H1 = H at hP hS ⊢
  have hP : va_P (dC, dI) vwCl (mW h0 kB kI kZ q g F) H := hP
  have hD : va_D A (mW h0 kB kI kZ q g F) := hD
  obtain ⟨f141, f142⟩ : ((r138.toInt = 1 → (0 : Int32).toInt ≤ p0.toInt ∧ p0.toInt ≤ x137.toInt)) ∧ ((0 ≤ r138.toInt ∧ r138.toInt ≤ 1)) := hw
  refine lv_if_ne (tgt := 16) hx hb dX12_about_11 (by decide) (fun c143 => ?_) (fun c143 => ?_)
  · have c143 := z_ne c143
    refine lv_iconst (v := 0) hx hb dX12_about_16 (by decide +kernel) ?_
    refine lv_istore_n (lv' := [(3, .int 0), (0, .ref h0), (1, .int p0), (2, .int p1)]) hx hb dX12_about_17 rfl hl (by decide) rfl (fun ls hl => ?_)
    refine lv_iconst (v := 0) hx hb dX12_about_18 (by decide +kernel) ?_
    refine lv_istore (lv' := [(4, .int 0), (3, .int 0), (0, .ref h0), (1, .int p0), (2, .int p1)]) hx hb dX12_about_19 hl (by decide) rfl (fun ls hl => ?_)
    have lp21 : ∀ (n21 : Nat) (x144 : Int32) (x145 : Int32) (gl146 : Nat → Int32) (fl147 : Nat → Nat → Int32) (H : Heap) (locs : List Loc) (ls : Array Slot), (40 - x144.toInt).toNat < n21 → (0 ≤ x144.toInt ∧ x144.toInt ≤ 40) → (0 ≤ x145.toInt ∧ x145.toInt ≤ x144.toInt) → va_P (dC, dI) vwCl (mW h0 kB kI kZ q g F) H → va_D A (mW h0 kB kI kZ q g F) → va_S A s.heap H locs → lv_has ls 5 [(4, .int x144), (3, .int x145), (0, .ref h0), (1, .int p0), (2, .int p1)] → W p l e ({ frames := 3, cells := 0, slots := 0, locals := 82 } : Room) s m args below meth c H locs 0 0 Q (F0 m 21 ls []) := by
      intro n21
      induction n21 with
      | zero => intro x144 x145 gl146 fl147 H locs ls hm; exact absurd hm (Nat.not_lt_zero _)
      | succ n21 ih21 =>
        intro x144 x145 gl146 fl147 H locs ls hm21 f148 f149 hP hD hS hl
        refine lv_iload hx hb dX12_about_21 (lv_at hl 0 rfl) ?_
        refine lv_aload_n hx hb dX12_about_23 rfl (lv_at hl 2 rfl) ?_
        refine va_get (D := (dC, dI)) (ci := 12) (v := .ref (q 13)) (C := RX12) (T := TX12) (N := 71) hx hb hts (fun _ h => List.mem_append_right _ h) hown hK hP 0 rfl rfl 13 (by decide) (hts (.fieldLink RX12 27 "SpellTurnerModel" "listed" "[I") (List.mem_of_getElem? (i := 5) rfl)) (fun _ h9 => h9) rfl dX12_about_24 ?_
        refine lv_iload_n hx hb dX12_about_27 rfl (lv_at hl 3 rfl) ?_
        refine va_iald hx hb hK hP 5 1 rfl rfl (z_in (i := p0) (by omega) (by omega)) dX12_about_28 ?_
        refine lv_topi (fun x150 ex150 => ?_)
        have kx150 : x150.toInt = ((F 13) (Int32.toNatClampNeg p0)).toInt := congrArg Int32.toInt ex150
        have fx150 := hF13z (Int32.toNatClampNeg p0)
        clear ex150
        refine lv_icmp_ge (tgt := 66) hx hb dX12_about_29 (by decide) (fun c151 => ?_) (fun c151 => ?_)
        · have c151 := (z_le _ _).mp c151
          refine lv_iload_n hx hb dX12_about_66 rfl (lv_at hl 4 rfl) ?_
          rcases Classical.em (p1 = 0) with c152 | c152
          · subst c152
            refine lv_tableIn (off := 33) (tgt := 100) hx hb dX12_about_67 (by decide +kernel) (by decide +kernel) (by decide +kernel) (by decide) ?_
            refine lv_aload_n hx hb dX12_about_100 rfl (lv_at hl 2 rfl) ?_
            refine va_get (D := (dC, dI)) (ci := 12) (v := .ref (q 10)) (C := RX12) (T := TX12) (N := 71) hx hb hts (fun _ h => List.mem_append_right _ h) hown hK hP 0 rfl rfl 10 (by decide) (hts (.fieldLink RX12 17 "SpellTurnerModel" "day" "[I") (List.mem_of_getElem? (i := 6) rfl)) (fun _ h9 => h9) rfl dX12_about_101 ?_
            refine lv_iload_n hx hb dX12_about_104 rfl (lv_at hl 3 rfl) ?_
            refine va_iald hx hb hK hP 2 1 rfl rfl (z_in (i := p0) (by omega) (by omega)) dX12_about_105 ?_
            refine lv_topi (fun x153 ex153 => ?_)
            clear ex153
            exact K 106 ls x153 (g, F) H _ dX12_about_106 trivial hP hD hS
          · have c152 := z_ne c152
            rcases Classical.em (p1 = 1) with c154 | c154
            · subst c154
              refine lv_tableIn (off := 40) (tgt := 107) hx hb dX12_about_67 (by decide +kernel) (by decide +kernel) (by decide +kernel) (by decide) ?_
              refine lv_aload_n hx hb dX12_about_107 rfl (lv_at hl 2 rfl) ?_
              refine va_get (D := (dC, dI)) (ci := 12) (v := .ref (q 11)) (C := RX12) (T := TX12) (N := 71) hx hb hts (fun _ h => List.mem_append_right _ h) hown hK hP 0 rfl rfl 11 (by decide) (hts (.fieldLink RX12 21 "SpellTurnerModel" "laws" "[I") (List.mem_of_getElem? (i := 7) rfl)) (fun _ h9 => h9) rfl dX12_about_108 ?_
              refine lv_iload_n hx hb dX12_about_111 rfl (lv_at hl 3 rfl) ?_
              refine va_iald hx hb hK hP 3 1 rfl rfl (z_in (i := p0) (by omega) (by omega)) dX12_about_112 ?_
              refine lv_topi (fun x155 ex155 => ?_)
              have kx155 : x155.toInt = ((F 11) (Int32.toNatClampNeg p0)).toInt := congrArg Int32.toInt ex155
              have fx155 := hF11z (Int32.toNatClampNeg p0)
              clear ex155
              exact K 113 ls x155 (g, F) H _ dX12_about_113 trivial hP hD hS
            · have c154 := z_ne c154
              rcases Classical.em (p1 = 2) with c156 | c156
              · subst c156
                refine lv_tableIn (off := 47) (tgt := 114) hx hb dX12_about_67 (by decide +kernel) (by decide +kernel) (by decide +kernel) (by decide) ?_
                refine lv_aload_n hx hb dX12_about_114 rfl (lv_at hl 2 rfl) ?_
                refine va_get (D := (dC, dI)) (ci := 12) (v := .ref (q 12)) (C := RX12) (T := TX12) (N := 71) hx hb hts (fun _ h => List.mem_append_right _ h) hown hK hP 0 rfl rfl 12 (by decide) (hts (.fieldLink RX12 24 "SpellTurnerModel" "parts" "[I") (List.mem_of_getElem? (i := 8) rfl)) (fun _ h9 => h9) rfl dX12_about_115 ?_
                refine lv_iload_n hx hb dX12_about_118 rfl (lv_at hl 3 rfl) ?_
                refine va_iald hx hb hK hP 4 1 rfl rfl (z_in (i := p0) (by omega) (by omega)) dX12_about_119 ?_
                refine lv_topi (fun x157 ex157 => ?_)
                have kx157 : x157.toInt = ((F 12) (Int32.toNatClampNeg p0)).toInt := congrArg Int32.toInt ex157
                have fx157 := hF12z (Int32.toNatClampNeg p0)
                clear ex157
                exact K 120 ls x157 (g, F) H _ dX12_about_120 trivial hP hD hS
              · have c156 := z_ne c156
                rcases Classical.em (p1 = 3) with c158 | c158
                · subst c158
                  refine lv_tableIn (off := 54) (tgt := 121) hx hb dX12_about_67 (by decide +kernel) (by decide +kernel) (by decide +kernel) (by decide) ?_
                  refine lv_iload_n hx hb dX12_about_121 rfl (lv_at hl 1 rfl) ?_
                  exact K 122 ls x145 (g, F) H _ dX12_about_122 trivial hP hD hS
                · have c158 := z_ne c158
                  rcases Classical.em (p1 = 4) with c159 | c159
                  · subst c159
                    refine lv_tableIn (off := 56) (tgt := 123) hx hb dX12_about_67 (by decide +kernel) (by decide +kernel) (by decide +kernel) (by decide) ?_
                    refine lv_aload_n hx hb dX12_about_123 rfl (lv_at hl 2 rfl) ?_
                    refine va_get (D := (dC, dI)) (ci := 12) (v := .ref (q 13)) (C := RX12) (T := TX12) (N := 71) hx hb hts (fun _ h => List.mem_append_right _ h) hown hK hP 0 rfl rfl 13 (by decide) (hts (.fieldLink RX12 27 "SpellTurnerModel" "listed" "[I") (List.mem_of_getElem? (i := 5) rfl)) (fun _ h9 => h9) rfl dX12_about_124 ?_
                    refine lv_iload_n hx hb dX12_about_127 rfl (lv_at hl 3 rfl) ?_
                    refine va_iald hx hb hK hP 5 1 rfl rfl (z_in (i := p0) (by omega) (by omega)) dX12_about_128 ?_
                    refine lv_topi (fun x160 ex160 => ?_)
                    have kx160 : x160.toInt = ((F 13) (Int32.toNatClampNeg p0)).toInt := congrArg Int32.toInt ex160
                    have fx160 := hF13z (Int32.toNatClampNeg p0)
                    clear ex160
                    refine lv_iload_n hx hb dX12_about_129 rfl (lv_at hl 1 rfl) ?_
                    refine lv_isub hx hb dX12_about_130 ?_
                    refine lv_topi (fun x161 ex161 => ?_)
                    have fx161 : x161.toInt = x160.toInt - x145.toInt := by have h := @z_sub x160 x145 (by omega) (by omega); rw [← ex161] at h; omega
                    clear ex161
                    exact K 131 ls x161 (g, F) H _ dX12_about_131 trivial hP hD hS
                  · have c159 := z_ne c159
                    refine lv_tableOut (tgt := 132) hx hb dX12_about_67 (by omega) (by decide) ?_
                    refine lv_iconst (v := (-1)) hx hb dX12_about_132 (by decide +kernel) ?_
                    exact K 133 ls (-1) (g, F) H _ dX12_about_133 trivial hP hD hS
        · have c151 := z_nle c151
          refine lv_iload_n hx hb dX12_about_32 rfl (lv_at hl 1 rfl) ?_
          refine lv_aload_n hx hb dX12_about_33 rfl (lv_at hl 2 rfl) ?_
          refine va_get (D := (dC, dI)) (ci := 12) (v := .ref (q 21)) (C := RX12) (T := TX12) (N := 71) hx hb hts (fun _ h => List.mem_append_right _ h) hown hK hP 0 rfl rfl 21 (by decide) (hts (.fieldLink RX12 52 "SpellTurnerModel" "listSize" "[I") (List.mem_of_getElem? (i := 9) rfl)) (fun _ h9 => h9) rfl dX12_about_34 ?_
          refine lv_iconst (v := 2) hx hb dX12_about_37 (by decide +kernel) ?_
          refine lv_bipush (v := 40) hx hb dX12_about_38 (by decide +kernel) ?_
          refine lv_iload_n hx hb dX12_about_40 rfl (lv_at hl 3 rfl) ?_
          refine lv_imul hx hb dX12_about_41 ?_
          refine lv_topi (fun x162 ex162 => ?_)
          have fx162 : x162.toInt = 40 * p0.toInt := by rw [ex162, z_mul (by simp only [zk40]; omega) (by simp only [zk40]; omega)]; simp only [zk40]
          clear ex162
          refine lv_iload hx hb dX12_about_42 (lv_at hl 0 rfl) ?_
          refine lv_iadd hx hb dX12_about_44 ?_
          refine lv_topi (fun x163 ex163 => ?_)
          have fx163 : x163.toInt = x162.toInt + x144.toInt := by have h := @z_add x162 x144 (by omega) (by omega); rw [← ex163] at h; omega
          clear ex163
          refine lv_imul hx hb dX12_about_45 ?_
          refine lv_topi (fun x164 ex164 => ?_)
          have fx164 : x164.toInt = 2 * x163.toInt := by rw [ex164, z_mul (by simp only [zk2]; omega) (by simp only [zk2]; omega)]; simp only [zk2]
          clear ex164
          refine lv_iconst (v := 1) hx hb dX12_about_46 (by decide +kernel) ?_
          refine lv_iadd hx hb dX12_about_47 ?_
          refine lv_topi (fun x165 ex165 => ?_)
          have fx165 : x165.toInt = x164.toInt + 1 := by have h := @z_add x164 (1 : Int32) (by omega) (by omega); rw [← ex165] at h; omega
          clear ex165
          refine va_iald hx hb hK hP 13 1 rfl rfl (z_in (i := x165) (by omega) (by omega)) dX12_about_48 ?_
          refine lv_topi (fun x166 ex166 => ?_)
          have kx166 : x166.toInt = ((F 21) (Int32.toNatClampNeg x165)).toInt := congrArg Int32.toInt ex166
          have fx166 := hF21z (Int32.toNatClampNeg x165)
          clear ex166
          refine lv_iconst (v := (-1)) hx hb dX12_about_49 (by decide +kernel) ?_
          refine lv_icmp_ne (tgt := 57) hx hb dX12_about_50 (by decide) (fun c167 => ?_) (fun c167 => ?_)
          · have c167 := z_ne c167
            refine lv_iconst (v := 0) hx hb dX12_about_57 (by decide +kernel) ?_
            refine lv_iadd hx hb dX12_about_58 ?_
            refine lv_topi (fun x168 ex168 => ?_)
            have fx168 : x168.toInt = x145.toInt + 0 := by have h := @z_add x145 (0 : Int32) (by omega) (by omega); rw [← ex168] at h; omega
            clear ex168
            refine lv_istore_n (lv' := [(3, .int x168), (4, .int x144), (0, .ref h0), (1, .int p0), (2, .int p1)]) hx hb dX12_about_59 rfl hl (by decide) rfl (fun ls hl => ?_)
            obtain ⟨x169, ex169⟩ : ∃ y : Int32, y = x144 + 1 := ⟨_, rfl⟩
            have fx169 : x169.toInt = x144.toInt + (1) := by rw [ex169, z_add (by omega) (by omega)]; omega
            refine lv_iinc (v := x169) (lv' := [(4, .int x169), (3, .int x168), (0, .ref h0), (1, .int p0), (2, .int p1)]) hx hb dX12_about_60 hl (k := 1) rfl (by rw [ex169]; rfl) (by decide) rfl (fun ls hl => ?_)
            clear ex169
            refine lv_goto (tgt := 21) hx hb dX12_about_63 (by decide) ?_
            exact ih21 x169 x168 g F H _ ls (show (40 - x169.toInt).toNat < n21 from by omega) (show (0 ≤ x169.toInt ∧ x169.toInt ≤ 40) from by omega) (show (0 ≤ x168.toInt ∧ x168.toInt ≤ x169.toInt) from by omega) hP hD hS (lv_sub hl [0, 1, 2, 3, 4] rfl)
          · have c167 := congrArg Int32.toInt c167
            refine lv_iconst (v := 1) hx hb dX12_about_53 (by decide +kernel) ?_
            refine lv_goto (tgt := 58) hx hb dX12_about_54 (by decide) ?_
            refine lv_iadd hx hb dX12_about_58 ?_
            refine lv_topi (fun x170 ex170 => ?_)
            have fx170 : x170.toInt = x145.toInt + 1 := by have h := @z_add x145 (1 : Int32) (by omega) (by omega); rw [← ex170] at h; omega
            clear ex170
            refine lv_istore_n (lv' := [(3, .int x170), (4, .int x144), (0, .ref h0), (1, .int p0), (2, .int p1)]) hx hb dX12_about_59 rfl hl (by decide) rfl (fun ls hl => ?_)
            obtain ⟨x171, ex171⟩ : ∃ y : Int32, y = x144 + 1 := ⟨_, rfl⟩
            have fx171 : x171.toInt = x144.toInt + (1) := by rw [ex171, z_add (by omega) (by omega)]; omega
            refine lv_iinc (v := x171) (lv' := [(4, .int x171), (3, .int x170), (0, .ref h0), (1, .int p0), (2, .int p1)]) hx hb dX12_about_60 hl (k := 1) rfl (by rw [ex171]; rfl) (by decide) rfl (fun ls hl => ?_)
            clear ex171
            refine lv_goto (tgt := 21) hx hb dX12_about_63 (by decide) ?_
            exact ih21 x171 x170 g F H _ ls (show (40 - x171.toInt).toNat < n21 from by omega) (show (0 ≤ x171.toInt ∧ x171.toInt ≤ 40) from by omega) (show (0 ≤ x170.toInt ∧ x170.toInt ≤ x171.toInt) from by omega) hP hD hS (lv_sub hl [0, 1, 2, 3, 4] rfl)
    exact lp21 ((40 - (0 : Int32).toInt).toNat + 1) 0 0 g F H _ ls (Nat.lt_succ_self _) (show (0 ≤ (0 : Int32).toInt ∧ (0 : Int32).toInt ≤ 40) from by omega) (show (0 ≤ (0 : Int32).toInt ∧ (0 : Int32).toInt ≤ (0 : Int32).toInt) from by omega) hP hD hS (lv_sub hl [0, 1, 2, 3, 4] rfl)
  · have c143 := congrArg Int32.toInt c143
    refine lv_iconst (v := (-1)) hx hb dX12_about_14 (by decide +kernel) ?_
    exact K 15 ls (-1) (g, F) H _ dX12_about_15 trivial hP hD hS
set_option maxHeartbeats 4000000 in
set_option maxRecDepth 100000 in
theorem m_about (l : Launch) (dC : Nat → ClassId) (dI : Nat → Nat → Nat) (sz : Nat) (h0 : Nat) (kB kI kZ : ClassId) (q : Nat → Nat) (g : Nat → Int32) (F : Nat → Nat → Int32) (p0 : Int32) (p1 : Int32) (hI : MInv g F) : Met l yX12_about vmX12_about ({ frames := 3, cells := 0, slots := 0, locals := 82 } : Room) (va_Pc [.ref h0, .int p0, .int p1] (fun U => U.heap.size = sz ∧ va_P (dC, dI) vwCl (mW h0 kB kI kZ q g F) U.heap ∧ va_K (dC, dI) vwCl (mT kB kI kZ) U ∧ va_D (fun _ => True) (mW h0 kB kI kZ q g F))) (va_Qi (fun (r : Int32) (u : ((Nat → Int32) × (Nat → Nat → Int32))) => True) (fun u t => va_P (dC, dI) vwCl (mW h0 kB kI kZ q g F) t.heap ∧ va_K (dC, dI) vwCl (mT kB kI kZ) t ∧ va_D (va_A (mW h0 kB kI kZ q g F) sz) (mW h0 kB kI kZ q g F)) (va_A (mW h0 kB kI kZ q g F) sz)) 0 0 (va_A (mW h0 kB kI kZ q g F) sz) := by
  refine Met.ofW (cc := cX12_about) (maxL := 5) (ret := (some .int)) (by decide) rfl ?_
  intro p e s m args below meth c s₁ B hml hv
  obtain ⟨rfl, hsz, hP, hK, hD0⟩ := hv
  have hx := B.exec
  have hb := B.bytes
  have hr := B.returns
  have hts := atoms_spec (ws := vmX12_about) B.pre
  have hown : s.vm.findClass RX12 = some m.cls := findClass_of_methodNamed B.named
  subst hsz
  have hD := hD0.self (sz := s.heap.size)
  generalize hAe : va_A (mW h0 kB kI kZ q g F) s.heap.size = A at hD ⊢
  have hA : ∀ q : Nat, s.heap.size ≤ q → A q := fun q h => by rw [← hAe]; exact Or.inr h
  have hS : va_S A s.heap s.heap [] := va_S.rf
  have hl := lv_entry ([.ref h0, .int p0, .int p1]) (n := 5) (Nat.le_of_ble_eq_true rfl)
  rw [lg_entry_eq]
  generalize (lg_sl ([.ref h0, .int p0, .int p1]) ++ List.replicate (5 - (lg_sl ([.ref h0, .int p0, .int p1])).length) Slot.unset).toArray = ls at hl ⊢
  exact bm_about p0 p1 hx hb hml hown hts hA hK hI hP hD hS hl (fun pc ls r u H locs hd hw hP hD hS => W.iret (v := r) hx hb hr (fun t ht hW => ⟨⟨r, u, rfl, hw, by rw [ht]; exact hP, va_K.moved hW.alike hK, hD⟩, hS.F ht⟩) hS.2.2 hd)
set_option maxHeartbeats 4000000 in
set_option maxRecDepth 100000 in
theorem bm_form {p : Program} {l : Launch} {e : Env} {s : State} {m : MethodId} {args : Array Value} {below : List Frame} {meth : Method} {c : Code} {Q : State → Prop} {A : Nat → Prop} {dC : Nat → ClassId} {dI : Nat → Nat → Nat} {h0 : Nat} {kB kI kZ : ClassId} {q : Nat → Nat} {g : Nat → Int32} {F : Nat → Nat → Int32} {H : Heap} {locs : List Loc} {ls : Array Slot} (p0 : Int32) (p1 : Int32) (hx : p.tables.exec = Jvm.exec) (hb : c.code = cX12_form) (hml : c.maxLocals = 3) (hown : s.vm.findClass RX12 = some m.cls) (hts : ∀ w ∈ vmX12_form, w.before args s = true) (hA : ∀ q : Nat, s.heap.size ≤ q → A q) (hK : va_K (dC, dI) vwCl (mT kB kI kZ) s) (hI : MInv g F) (hP : va_P (dC, dI) vwCl (mW h0 kB kI kZ q g F) H) (hD : va_D A (mW h0 kB kI kZ q g F)) (hS : va_S A s.heap H locs) (hl : lv_has ls 3 [(0, .ref h0), (1, .int p0), (2, .int p1)])
    (K : ∀ (pc : Nat) (ls : Array Slot) (r : Int32) (u : ((Nat → Int32) × (Nat → Nat → Int32))) (H : Heap) (locs : List Loc), decode cX12_form pc = .ok (.ireturn, 1) → (True) → va_P (dC, dI) vwCl (mW h0 kB kI kZ q g F) H → va_D A (mW h0 kB kI kZ q g F) → va_S A s.heap H locs → W p l e ({ frames := 3, cells := 0, slots := 0, locals := 82 } : Room) s m args below meth c H locs 0 0 Q (F0 m pc ls [.int r])) : W p l e ({ frames := 3, cells := 0, slots := 0, locals := 82 } : Room) s m args below meth c H locs 0 0 Q (F0 m 0 ls []) := by
  obtain ⟨hg1z, hg2z, hg3z, hg4z, hg5z, hg6z, hg7z, hg8z, hg9z, hg23z, hg27z, hg30z, hg34z, hg36z, hg39z, hg44z, hg47z, hg48z, hg51z, hg56z, hg59z, hg62z, hg65z, hg66z, hg70z, hF11z, hF12z, hF13z, hF15z, hF19z, hF21z, hF24z, hF25z, hF26z, hF33z, hF38z, hF41z, hF43z, hF45z, hF46z, hF50z, hF53z, hF54z⟩ := hI
  have zkm1 : (-1 : Int32).toInt = -1 := by decide +kernel
  have zk0 : (0 : Int32).toInt = 0 := by decide +kernel
  have zk1 : (1 : Int32).toInt = 1 := by decide +kernel
  have zk24 : (24 : Int32).toInt = 24 := by decide +kernel
  refine lv_iload_n hx hb dX12_form_0 rfl (lv_at hl 1 rfl) ?_
  refine lv_iconst (v := 0) hx hb dX12_form_1 (by decide +kernel) ?_
  refine lv_aload_n hx hb dX12_form_2 rfl (lv_at hl 0 rfl) ?_
  refine va_get (D := (dC, dI)) (ci := 12) (v := .int (g 44)) (C := RX12) (T := TX12) (N := 71) hx hb hts (fun _ h => List.mem_append_right _ h) hown hK hP 0 rfl rfl 44 (by decide) (hts (.fieldLink RX12 306 "SpellTurnerModel" "tolds" "I") (List.mem_of_getElem? (i := 1) rfl)) (fun _ h9 => h9) rfl dX12_form_3 ?_
  refine lv_iconst (v := 1) hx hb dX12_form_6 (by decide +kernel) ?_
  refine lv_isub hx hb dX12_form_7 ?_
  refine lv_topi (fun x172 ex172 => ?_)
  have fx172 : x172.toInt = (g 44).toInt - 1 := by have h := @z_sub (g 44) (1 : Int32) (by omega) (by omega); rw [← ex172] at h; omega
  clear ex172
  have hFc := va_free (wc := (mW h0 kB kI kZ q g F)) hD hS hA [0, 1, 2, 3, 4, 5, 6, 7, 8, 9, 10, 11, 12, 13, 14, 15, 16, 17, 18, 19, 20, 21, 22, 23, 24, 25, 26, 27, 28, 29, 30, 31, 32, 33, 34, 35, 36, 37, 38, 39, 40, 41, 42, 43, 44, 45] rfl
  refine va_calli (va_runS (As := [.int p0, .int 0, .int x172]) (rest := []) ⟨hx, hb, hml, hown, hts⟩ (m_in l dC dI H.size h0 kB kI kZ q g F p0 0 x172 ⟨hg1z, hg2z, hg3z, hg4z, hg5z, hg6z, hg7z, hg8z, hg9z, hg23z, hg27z, hg30z, hg34z, hg36z, hg39z, hg44z, hg47z, hg48z, hg51z, hg56z, hg59z, hg62z, hg65z, hg66z, hg70z, hF11z, hF12z, hF13z, hF15z, hF19z, hF21z, hF24z, hF25z, hF26z, hF33z, hF38z, hF41z, hF43z, hF45z, hF46z, hF50z, hF53z, hF54z⟩) (va_cwS 3 hts gw_X12_form_X12_in_226 rfl rfl rfl (by decide +kernel) ⟨Nat.le_of_ble_eq_true rfl, Nat.le_of_ble_eq_true rfl⟩) ⟨fun a U g mk q => by obtain ⟨q0, q1, qP, qK, qD⟩ := q; exact ⟨q0, q1, qP, va_K.moved (u := U) (U := U.calling g mk a) (Vm.Alike.refl U.vm) qK, qD⟩, fun U hU hW => ⟨rfl, by rw [hU], by rw [hU]; exact hP, va_K.moved hW.alike hK, hD.weaken (fun _ _ _ _ => trivial)⟩⟩ rfl rfl hl.1 rfl (lv_room (Nat.le_of_ble_eq_true rfl)) dX12_form_8 ⟨Nat.le_of_ble_eq_true rfl, Nat.le_of_ble_eq_true rfl⟩) hS (fun q _ h => hFc q h) hFc (fun r173 u t H1 locs ht hvm hw hB hz1 hk1 hS => ?_)
  obtain ⟨ga174, fa175⟩ := u
  obtain ⟨hP1, hK1, hD1⟩ := hB
  rw [ht] at hP1
  obtain ⟨hP, hD⟩ := va_join (wr := []) (w1 := (mW h0 kB kI kZ q g F)) hP hD [0, 1, 2, 3, 4, 5, 6, 7, 8, 9, 10, 11, 12, 13, 14, 15, 16, 17, 18, 19, 20, 21, 22, 23, 24, 25, 26, 27, 28, 29, 30, 31, 32, 33, 34, 35, 36, 37, 38, 39, 40, 41, 42, 43, 44, 45] [] rfl rfl (by decide) (by decide) hk1 hFc hP1 hD1
  generalize H1 = H at hP hS ⊢
  have hP : va_P (dC, dI) vwCl (mW h0 kB kI kZ q g F) H := hP
  have hD : va_D A (mW h0 kB kI kZ q g F) := hD
  obtain ⟨f176, f177⟩ : ((r173.toInt = 1 → (0 : Int32).toInt ≤ p0.toInt ∧ p0.toInt ≤ x172.toInt)) ∧ ((0 ≤ r173.toInt ∧ r173.toInt ≤ 1)) := hw
  refine lv_if_eq (tgt := 44) hx hb dX12_form_11 (by decide) (fun c178 => ?_) (fun c178 => ?_)
  · have c178 := congrArg Int32.toInt c178
    refine lv_iconst (v := (-1)) hx hb dX12_form_44 (by decide +kernel) ?_
    exact K 45 ls (-1) (g, F) H _ dX12_form_45 trivial hP hD hS
  · have c178 := z_ne c178
    refine lv_iload_n hx hb dX12_form_14 rfl (lv_at hl 2 rfl) ?_
    refine lv_iconst (v := 0) hx hb dX12_form_15 (by decide +kernel) ?_
    refine lv_aload_n hx hb dX12_form_16 rfl (lv_at hl 0 rfl) ?_
    refine va_get (D := (dC, dI)) (ci := 12) (v := .ref (q 43)) (C := RX12) (T := TX12) (N := 71) hx hb hts (fun _ h => List.mem_append_right _ h) hown hK hP 0 rfl rfl 43 (by decide) (hts (.fieldLink RX12 97 "SpellTurnerModel" "toldSize" "[I") (List.mem_of_getElem? (i := 5) rfl)) (fun _ h9 => h9) rfl dX12_form_17 ?_
    refine lv_iload_n hx hb dX12_form_20 rfl (lv_at hl 1 rfl) ?_
    refine va_iald hx hb hK hP 28 1 rfl rfl (z_in (i := p0) (by omega) (by omega)) dX12_form_21 ?_
    refine lv_topi (fun x179 ex179 => ?_)
    have kx179 : x179.toInt = ((F 43) (Int32.toNatClampNeg p0)).toInt := congrArg Int32.toInt ex179
    have fx179 := hF43z (Int32.toNatClampNeg p0)
    clear ex179
    refine lv_iconst (v := 1) hx hb dX12_form_22 (by decide +kernel) ?_
    refine lv_isub hx hb dX12_form_23 ?_
    refine lv_topi (fun x180 ex180 => ?_)
    have fx180 : x180.toInt = x179.toInt - 1 := by have h := @z_sub x179 (1 : Int32) (by omega) (by omega); rw [← ex180] at h; omega
    clear ex180
    have hFc := va_free (wc := (mW h0 kB kI kZ q g F)) hD hS hA [0, 1, 2, 3, 4, 5, 6, 7, 8, 9, 10, 11, 12, 13, 14, 15, 16, 17, 18, 19, 20, 21, 22, 23, 24, 25, 26, 27, 28, 29, 30, 31, 32, 33, 34, 35, 36, 37, 38, 39, 40, 41, 42, 43, 44, 45] rfl
    refine va_calli (va_runS (As := [.int p1, .int 0, .int x180]) (rest := []) ⟨hx, hb, hml, hown, hts⟩ (m_in l dC dI H.size h0 kB kI kZ q g F p1 0 x180 ⟨hg1z, hg2z, hg3z, hg4z, hg5z, hg6z, hg7z, hg8z, hg9z, hg23z, hg27z, hg30z, hg34z, hg36z, hg39z, hg44z, hg47z, hg48z, hg51z, hg56z, hg59z, hg62z, hg65z, hg66z, hg70z, hF11z, hF12z, hF13z, hF15z, hF19z, hF21z, hF24z, hF25z, hF26z, hF33z, hF38z, hF41z, hF43z, hF45z, hF46z, hF50z, hF53z, hF54z⟩) (va_cwS 3 hts gw_X12_form_X12_in_226 rfl rfl rfl (by decide +kernel) ⟨Nat.le_of_ble_eq_true rfl, Nat.le_of_ble_eq_true rfl⟩) ⟨fun a U g mk q => by obtain ⟨q0, q1, qP, qK, qD⟩ := q; exact ⟨q0, q1, qP, va_K.moved (u := U) (U := U.calling g mk a) (Vm.Alike.refl U.vm) qK, qD⟩, fun U hU hW => ⟨rfl, by rw [hU], by rw [hU]; exact hP, va_K.moved hW.alike hK, hD.weaken (fun _ _ _ _ => trivial)⟩⟩ rfl rfl hl.1 rfl (lv_room (Nat.le_of_ble_eq_true rfl)) dX12_form_24 ⟨Nat.le_of_ble_eq_true rfl, Nat.le_of_ble_eq_true rfl⟩) hS (fun q _ h => hFc q h) hFc (fun r181 u t H1 locs ht hvm hw hB hz1 hk1 hS => ?_)
    obtain ⟨ga182, fa183⟩ := u
    obtain ⟨hP1, hK1, hD1⟩ := hB
    rw [ht] at hP1
    obtain ⟨hP, hD⟩ := va_join (wr := []) (w1 := (mW h0 kB kI kZ q g F)) hP hD [0, 1, 2, 3, 4, 5, 6, 7, 8, 9, 10, 11, 12, 13, 14, 15, 16, 17, 18, 19, 20, 21, 22, 23, 24, 25, 26, 27, 28, 29, 30, 31, 32, 33, 34, 35, 36, 37, 38, 39, 40, 41, 42, 43, 44, 45] [] rfl rfl (by decide) (by decide) hk1 hFc hP1 hD1
    generalize H1 = H at hP hS ⊢
    have hP : va_P (dC, dI) vwCl (mW h0 kB kI kZ q g F) H := hP
    have hD : va_D A (mW h0 kB kI kZ q g F) := hD
    obtain ⟨f184, f185⟩ : ((r181.toInt = 1 → (0 : Int32).toInt ≤ p1.toInt ∧ p1.toInt ≤ x180.toInt)) ∧ ((0 ≤ r181.toInt ∧ r181.toInt ≤ 1)) := hw
    refine lv_if_eq (tgt := 44) hx hb dX12_form_27 (by decide) (fun c186 => ?_) (fun c186 => ?_)
    · have c186 := congrArg Int32.toInt c186
      refine lv_iconst (v := (-1)) hx hb dX12_form_44 (by decide +kernel) ?_
      exact K 45 ls (-1) (g, F) H _ dX12_form_45 trivial hP hD hS
    · have c186 := z_ne c186
      refine lv_aload_n hx hb dX12_form_30 rfl (lv_at hl 0 rfl) ?_
      refine va_get (D := (dC, dI)) (ci := 12) (v := .ref (q 42)) (C := RX12) (T := TX12) (N := 71) hx hb hts (fun _ h => List.mem_append_right _ h) hown hK hP 0 rfl rfl 42 (by decide) (hts (.fieldLink RX12 94 "SpellTurnerModel" "told" "[B") (List.mem_of_getElem? (i := 6) rfl)) (fun _ h9 => h9) rfl dX12_form_31 ?_
      refine lv_bipush (v := 24) hx hb dX12_form_34 (by decide +kernel) ?_
      refine lv_iload_n hx hb dX12_form_36 rfl (lv_at hl 1 rfl) ?_
      refine lv_imul hx hb dX12_form_37 ?_
      refine lv_topi (fun x187 ex187 => ?_)
      have fx187 : x187.toInt = 24 * p0.toInt := by rw [ex187, z_mul (by simp only [zk24]; omega) (by simp only [zk24]; omega)]; simp only [zk24]
      clear ex187
      refine lv_iload_n hx hb dX12_form_38 rfl (lv_at hl 2 rfl) ?_
      refine lv_iadd hx hb dX12_form_39 ?_
      refine lv_topi (fun x188 ex188 => ?_)
      have fx188 : x188.toInt = x187.toInt + p1.toInt := by have h := @z_add x187 p1 (by omega) (by omega); rw [← ex188] at h; omega
      clear ex188
      refine va_bald hx hb hK hP 27 0 rfl rfl (z_in (i := x188) (by omega) (by omega)) dX12_form_40 ?_
      refine lv_topi (fun x189 ex189 => ?_)
      clear ex189
      refine lv_goto (tgt := 45) hx hb dX12_form_41 (by decide) ?_
      exact K 45 ls x189 (g, F) H _ dX12_form_45 trivial hP hD hS
set_option maxHeartbeats 4000000 in
set_option maxRecDepth 100000 in
theorem m_form (l : Launch) (dC : Nat → ClassId) (dI : Nat → Nat → Nat) (sz : Nat) (h0 : Nat) (kB kI kZ : ClassId) (q : Nat → Nat) (g : Nat → Int32) (F : Nat → Nat → Int32) (p0 : Int32) (p1 : Int32) (hI : MInv g F) : Met l yX12_form vmX12_form ({ frames := 3, cells := 0, slots := 0, locals := 82 } : Room) (va_Pc [.ref h0, .int p0, .int p1] (fun U => U.heap.size = sz ∧ va_P (dC, dI) vwCl (mW h0 kB kI kZ q g F) U.heap ∧ va_K (dC, dI) vwCl (mT kB kI kZ) U ∧ va_D (fun _ => True) (mW h0 kB kI kZ q g F))) (va_Qi (fun (r : Int32) (u : ((Nat → Int32) × (Nat → Nat → Int32))) => True) (fun u t => va_P (dC, dI) vwCl (mW h0 kB kI kZ q g F) t.heap ∧ va_K (dC, dI) vwCl (mT kB kI kZ) t ∧ va_D (va_A (mW h0 kB kI kZ q g F) sz) (mW h0 kB kI kZ q g F)) (va_A (mW h0 kB kI kZ q g F) sz)) 0 0 (va_A (mW h0 kB kI kZ q g F) sz) := by
  refine Met.ofW (cc := cX12_form) (maxL := 3) (ret := (some .int)) (by decide) rfl ?_
  intro p e s m args below meth c s₁ B hml hv
  obtain ⟨rfl, hsz, hP, hK, hD0⟩ := hv
  have hx := B.exec
  have hb := B.bytes
  have hr := B.returns
  have hts := atoms_spec (ws := vmX12_form) B.pre
  have hown : s.vm.findClass RX12 = some m.cls := findClass_of_methodNamed B.named
  subst hsz
  have hD := hD0.self (sz := s.heap.size)
  generalize hAe : va_A (mW h0 kB kI kZ q g F) s.heap.size = A at hD ⊢
  have hA : ∀ q : Nat, s.heap.size ≤ q → A q := fun q h => by rw [← hAe]; exact Or.inr h
  have hS : va_S A s.heap s.heap [] := va_S.rf
  have hl := lv_entry ([.ref h0, .int p0, .int p1]) (n := 3) (Nat.le_of_ble_eq_true rfl)
  rw [lg_entry_eq]
  generalize (lg_sl ([.ref h0, .int p0, .int p1]) ++ List.replicate (3 - (lg_sl ([.ref h0, .int p0, .int p1])).length) Slot.unset).toArray = ls at hl ⊢
  exact bm_form p0 p1 hx hb hml hown hts hA hK hI hP hD hS hl (fun pc ls r u H locs hd hw hP hD hS => W.iret (v := r) hx hb hr (fun t ht hW => ⟨⟨r, u, rfl, hw, by rw [ht]; exact hP, va_K.moved hW.alike hK, hD⟩, hS.F ht⟩) hS.2.2 hd)
set_option maxHeartbeats 4000000 in
set_option maxRecDepth 100000 in
theorem bm_parting {p : Program} {l : Launch} {e : Env} {s : State} {m : MethodId} {args : Array Value} {below : List Frame} {meth : Method} {c : Code} {Q : State → Prop} {A : Nat → Prop} {dC : Nat → ClassId} {dI : Nat → Nat → Nat} {h0 : Nat} {kB kI kZ : ClassId} {q : Nat → Nat} {g : Nat → Int32} {F : Nat → Nat → Int32} {H : Heap} {locs : List Loc} {ls : Array Slot} (p0 : Int32) (p1 : Int32) (hx : p.tables.exec = Jvm.exec) (hb : c.code = cX12_parting) (hml : c.maxLocals = 3) (hown : s.vm.findClass RX12 = some m.cls) (hts : ∀ w ∈ vmX12_parting, w.before args s = true) (hA : ∀ q : Nat, s.heap.size ≤ q → A q) (hK : va_K (dC, dI) vwCl (mT kB kI kZ) s) (hI : MInv g F) (hP : va_P (dC, dI) vwCl (mW h0 kB kI kZ q g F) H) (hD : va_D A (mW h0 kB kI kZ q g F)) (hS : va_S A s.heap H locs) (hl : lv_has ls 3 [(0, .ref h0), (1, .int p0), (2, .int p1)])
    (K : ∀ (pc : Nat) (ls : Array Slot) (r : Int32) (u : ((Nat → Int32) × (Nat → Nat → Int32))) (H : Heap) (locs : List Loc), decode cX12_parting pc = .ok (.ireturn, 1) → (True) → va_P (dC, dI) vwCl (mW h0 kB kI kZ q g F) H → va_D A (mW h0 kB kI kZ q g F) → va_S A s.heap H locs → W p l e ({ frames := 3, cells := 0, slots := 0, locals := 82 } : Room) s m args below meth c H locs 0 0 Q (F0 m pc ls [.int r])) : W p l e ({ frames := 3, cells := 0, slots := 0, locals := 82 } : Room) s m args below meth c H locs 0 0 Q (F0 m 0 ls []) := by
  obtain ⟨hg1z, hg2z, hg3z, hg4z, hg5z, hg6z, hg7z, hg8z, hg9z, hg23z, hg27z, hg30z, hg34z, hg36z, hg39z, hg44z, hg47z, hg48z, hg51z, hg56z, hg59z, hg62z, hg65z, hg66z, hg70z, hF11z, hF12z, hF13z, hF15z, hF19z, hF21z, hF24z, hF25z, hF26z, hF33z, hF38z, hF41z, hF43z, hF45z, hF46z, hF50z, hF53z, hF54z⟩ := hI
  have zkm1 : (-1 : Int32).toInt = -1 := by decide +kernel
  have zk0 : (0 : Int32).toInt = 0 := by decide +kernel
  have zk1 : (1 : Int32).toInt = 1 := by decide +kernel
  have zk24 : (24 : Int32).toInt = 24 := by decide +kernel
  refine lv_iload_n hx hb dX12_parting_0 rfl (lv_at hl 1 rfl) ?_
  refine lv_iconst (v := 0) hx hb dX12_parting_1 (by decide +kernel) ?_
  refine lv_aload_n hx hb dX12_parting_2 rfl (lv_at hl 0 rfl) ?_
  refine va_get (D := (dC, dI)) (ci := 12) (v := .int (g 47)) (C := RX12) (T := TX12) (N := 71) hx hb hts (fun _ h => List.mem_append_right _ h) hown hK hP 0 rfl rfl 47 (by decide) (hts (.fieldLink RX12 309 "SpellTurnerModel" "toldWayMany" "I") (List.mem_of_getElem? (i := 1) rfl)) (fun _ h9 => h9) rfl dX12_parting_3 ?_
  refine lv_iconst (v := 1) hx hb dX12_parting_6 (by decide +kernel) ?_
  refine lv_isub hx hb dX12_parting_7 ?_
  refine lv_topi (fun x190 ex190 => ?_)
  have fx190 : x190.toInt = (g 47).toInt - 1 := by have h := @z_sub (g 47) (1 : Int32) (by omega) (by omega); rw [← ex190] at h; omega
  clear ex190
  have hFc := va_free (wc := (mW h0 kB kI kZ q g F)) hD hS hA [0, 1, 2, 3, 4, 5, 6, 7, 8, 9, 10, 11, 12, 13, 14, 15, 16, 17, 18, 19, 20, 21, 22, 23, 24, 25, 26, 27, 28, 29, 30, 31, 32, 33, 34, 35, 36, 37, 38, 39, 40, 41, 42, 43, 44, 45] rfl
  refine va_calli (va_runS (As := [.int p0, .int 0, .int x190]) (rest := []) ⟨hx, hb, hml, hown, hts⟩ (m_in l dC dI H.size h0 kB kI kZ q g F p0 0 x190 ⟨hg1z, hg2z, hg3z, hg4z, hg5z, hg6z, hg7z, hg8z, hg9z, hg23z, hg27z, hg30z, hg34z, hg36z, hg39z, hg44z, hg47z, hg48z, hg51z, hg56z, hg59z, hg62z, hg65z, hg66z, hg70z, hF11z, hF12z, hF13z, hF15z, hF19z, hF21z, hF24z, hF25z, hF26z, hF33z, hF38z, hF41z, hF43z, hF45z, hF46z, hF50z, hF53z, hF54z⟩) (va_cwS 3 hts gw_X12_parting_X12_in_226 rfl rfl rfl (by decide +kernel) ⟨Nat.le_of_ble_eq_true rfl, Nat.le_of_ble_eq_true rfl⟩) ⟨fun a U g mk q => by obtain ⟨q0, q1, qP, qK, qD⟩ := q; exact ⟨q0, q1, qP, va_K.moved (u := U) (U := U.calling g mk a) (Vm.Alike.refl U.vm) qK, qD⟩, fun U hU hW => ⟨rfl, by rw [hU], by rw [hU]; exact hP, va_K.moved hW.alike hK, hD.weaken (fun _ _ _ _ => trivial)⟩⟩ rfl rfl hl.1 rfl (lv_room (Nat.le_of_ble_eq_true rfl)) dX12_parting_8 ⟨Nat.le_of_ble_eq_true rfl, Nat.le_of_ble_eq_true rfl⟩) hS (fun q _ h => hFc q h) hFc (fun r191 u t H1 locs ht hvm hw hB hz1 hk1 hS => ?_)
  obtain ⟨ga192, fa193⟩ := u
  obtain ⟨hP1, hK1, hD1⟩ := hB
  rw [ht] at hP1
  obtain ⟨hP, hD⟩ := va_join (wr := []) (w1 := (mW h0 kB kI kZ q g F)) hP hD [0, 1, 2, 3, 4, 5, 6, 7, 8, 9, 10, 11, 12, 13, 14, 15, 16, 17, 18, 19, 20, 21, 22, 23, 24, 25, 26, 27, 28, 29, 30, 31, 32, 33, 34, 35, 36, 37, 38, 39, 40, 41, 42, 43, 44, 45] [] rfl rfl (by decide) (by decide) hk1 hFc hP1 hD1
  generalize H1 = H at hP hS ⊢
  have hP : va_P (dC, dI) vwCl (mW h0 kB kI kZ q g F) H := hP
  have hD : va_D A (mW h0 kB kI kZ q g F) := hD
  obtain ⟨f194, f195⟩ : ((r191.toInt = 1 → (0 : Int32).toInt ≤ p0.toInt ∧ p0.toInt ≤ x190.toInt)) ∧ ((0 ≤ r191.toInt ∧ r191.toInt ≤ 1)) := hw
  refine lv_if_ne (tgt := 16) hx hb dX12_parting_11 (by decide) (fun c196 => ?_) (fun c196 => ?_)
  · have c196 := z_ne c196
    refine lv_iload_n hx hb dX12_parting_16 rfl (lv_at hl 2 rfl) ?_
    refine lv_if_ne (tgt := 27) hx hb dX12_parting_17 (by decide) (fun c197 => ?_) (fun c197 => ?_)
    · have c197 := z_ne c197
      refine lv_iload_n hx hb dX12_parting_27 rfl (lv_at hl 2 rfl) ?_
      refine lv_iconst (v := 1) hx hb dX12_parting_28 (by decide +kernel) ?_
      refine lv_aload_n hx hb dX12_parting_29 rfl (lv_at hl 0 rfl) ?_
      refine va_get (D := (dC, dI)) (ci := 12) (v := .ref (q 46)) (C := RX12) (T := TX12) (N := 71) hx hb hts (fun _ h => List.mem_append_right _ h) hown hK hP 0 rfl rfl 46 (by decide) (hts (.fieldLink RX12 103 "SpellTurnerModel" "toldParts" "[I") (List.mem_of_getElem? (i := 5) rfl)) (fun _ h9 => h9) rfl dX12_parting_30 ?_
      refine lv_iload_n hx hb dX12_parting_33 rfl (lv_at hl 1 rfl) ?_
      refine va_iald hx hb hK hP 30 1 rfl rfl (z_in (i := p0) (by omega) (by omega)) dX12_parting_34 ?_
      refine lv_topi (fun x198 ex198 => ?_)
      have kx198 : x198.toInt = ((F 46) (Int32.toNatClampNeg p0)).toInt := congrArg Int32.toInt ex198
      have fx198 := hF46z (Int32.toNatClampNeg p0)
      clear ex198
      have hFc := va_free (wc := (mW h0 kB kI kZ q g F)) hD hS hA [0, 1, 2, 3, 4, 5, 6, 7, 8, 9, 10, 11, 12, 13, 14, 15, 16, 17, 18, 19, 20, 21, 22, 23, 24, 25, 26, 27, 28, 29, 30, 31, 32, 33, 34, 35, 36, 37, 38, 39, 40, 41, 42, 43, 44, 45] rfl
      refine va_calli (va_runS (As := [.int p1, .int 1, .int x198]) (rest := []) ⟨hx, hb, hml, hown, hts⟩ (m_in l dC dI H.size h0 kB kI kZ q g F p1 1 x198 ⟨hg1z, hg2z, hg3z, hg4z, hg5z, hg6z, hg7z, hg8z, hg9z, hg23z, hg27z, hg30z, hg34z, hg36z, hg39z, hg44z, hg47z, hg48z, hg51z, hg56z, hg59z, hg62z, hg65z, hg66z, hg70z, hF11z, hF12z, hF13z, hF15z, hF19z, hF21z, hF24z, hF25z, hF26z, hF33z, hF38z, hF41z, hF43z, hF45z, hF46z, hF50z, hF53z, hF54z⟩) (va_cwS 3 hts gw_X12_parting_X12_in_226 rfl rfl rfl (by decide +kernel) ⟨Nat.le_of_ble_eq_true rfl, Nat.le_of_ble_eq_true rfl⟩) ⟨fun a U g mk q => by obtain ⟨q0, q1, qP, qK, qD⟩ := q; exact ⟨q0, q1, qP, va_K.moved (u := U) (U := U.calling g mk a) (Vm.Alike.refl U.vm) qK, qD⟩, fun U hU hW => ⟨rfl, by rw [hU], by rw [hU]; exact hP, va_K.moved hW.alike hK, hD.weaken (fun _ _ _ _ => trivial)⟩⟩ rfl rfl hl.1 rfl (lv_room (Nat.le_of_ble_eq_true rfl)) dX12_parting_35 ⟨Nat.le_of_ble_eq_true rfl, Nat.le_of_ble_eq_true rfl⟩) hS (fun q _ h => hFc q h) hFc (fun r199 u t H1 locs ht hvm hw hB hz1 hk1 hS => ?_)
      obtain ⟨ga200, fa201⟩ := u
      obtain ⟨hP1, hK1, hD1⟩ := hB
      rw [ht] at hP1
      obtain ⟨hP, hD⟩ := va_join (wr := []) (w1 := (mW h0 kB kI kZ q g F)) hP hD [0, 1, 2, 3, 4, 5, 6, 7, 8, 9, 10, 11, 12, 13, 14, 15, 16, 17, 18, 19, 20, 21, 22, 23, 24, 25, 26, 27, 28, 29, 30, 31, 32, 33, 34, 35, 36, 37, 38, 39, 40, 41, 42, 43, 44, 45] [] rfl rfl (by decide) (by decide) hk1 hFc hP1 hD1
      generalize H1 = H at hP hS ⊢
      have hP : va_P (dC, dI) vwCl (mW h0 kB kI kZ q g F) H := hP
      have hD : va_D A (mW h0 kB kI kZ q g F) := hD
      obtain ⟨f202, f203⟩ : ((r199.toInt = 1 → (1 : Int32).toInt ≤ p1.toInt ∧ p1.toInt ≤ x198.toInt)) ∧ ((0 ≤ r199.toInt ∧ r199.toInt ≤ 1)) := hw
      refine lv_if_eq (tgt := 57) hx hb dX12_parting_38 (by decide) (fun c204 => ?_) (fun c204 => ?_)
      · have c204 := congrArg Int32.toInt c204
        refine lv_iconst (v := (-1)) hx hb dX12_parting_57 (by decide +kernel) ?_
        exact K 58 ls (-1) (g, F) H _ dX12_parting_58 trivial hP hD hS
      · have c204 := z_ne c204
        refine lv_aload_n hx hb dX12_parting_41 rfl (lv_at hl 0 rfl) ?_
        refine va_get (D := (dC, dI)) (ci := 12) (v := .ref (q 45)) (C := RX12) (T := TX12) (N := 71) hx hb hts (fun _ h => List.mem_append_right _ h) hown hK hP 0 rfl rfl 45 (by decide) (hts (.fieldLink RX12 100 "SpellTurnerModel" "toldWays" "[I") (List.mem_of_getElem? (i := 6) rfl)) (fun _ h9 => h9) rfl dX12_parting_42 ?_
        refine lv_bipush (v := 24) hx hb dX12_parting_45 (by decide +kernel) ?_
        refine lv_iload_n hx hb dX12_parting_47 rfl (lv_at hl 1 rfl) ?_
        refine lv_imul hx hb dX12_parting_48 ?_
        refine lv_topi (fun x205 ex205 => ?_)
        have fx205 : x205.toInt = 24 * p0.toInt := by rw [ex205, z_mul (by simp only [zk24]; omega) (by simp only [zk24]; omega)]; simp only [zk24]
        clear ex205
        refine lv_iload_n hx hb dX12_parting_49 rfl (lv_at hl 2 rfl) ?_
        refine lv_iadd hx hb dX12_parting_50 ?_
        refine lv_topi (fun x206 ex206 => ?_)
        have fx206 : x206.toInt = x205.toInt + p1.toInt := by have h := @z_add x205 p1 (by omega) (by omega); rw [← ex206] at h; omega
        clear ex206
        refine lv_iconst (v := 1) hx hb dX12_parting_51 (by decide +kernel) ?_
        refine lv_isub hx hb dX12_parting_52 ?_
        refine lv_topi (fun x207 ex207 => ?_)
        have fx207 : x207.toInt = x206.toInt - 1 := by have h := @z_sub x206 (1 : Int32) (by omega) (by omega); rw [← ex207] at h; omega
        clear ex207
        refine va_iald hx hb hK hP 29 1 rfl rfl (z_in (i := x207) (by omega) (by omega)) dX12_parting_53 ?_
        refine lv_topi (fun x208 ex208 => ?_)
        have kx208 : x208.toInt = ((F 45) (Int32.toNatClampNeg x207)).toInt := congrArg Int32.toInt ex208
        have fx208 := hF45z (Int32.toNatClampNeg x207)
        clear ex208
        refine lv_goto (tgt := 58) hx hb dX12_parting_54 (by decide) ?_
        exact K 58 ls x208 (g, F) H _ dX12_parting_58 trivial hP hD hS
    · have c197 := congrArg Int32.toInt c197
      refine lv_aload_n hx hb dX12_parting_20 rfl (lv_at hl 0 rfl) ?_
      refine va_get (D := (dC, dI)) (ci := 12) (v := .ref (q 46)) (C := RX12) (T := TX12) (N := 71) hx hb hts (fun _ h => List.mem_append_right _ h) hown hK hP 0 rfl rfl 46 (by decide) (hts (.fieldLink RX12 103 "SpellTurnerModel" "toldParts" "[I") (List.mem_of_getElem? (i := 5) rfl)) (fun _ h9 => h9) rfl dX12_parting_21 ?_
      refine lv_iload_n hx hb dX12_parting_24 rfl (lv_at hl 1 rfl) ?_
      refine va_iald hx hb hK hP 30 1 rfl rfl (z_in (i := p0) (by omega) (by omega)) dX12_parting_25 ?_
      refine lv_topi (fun x209 ex209 => ?_)
      have kx209 : x209.toInt = ((F 46) (Int32.toNatClampNeg p0)).toInt := congrArg Int32.toInt ex209
      have fx209 := hF46z (Int32.toNatClampNeg p0)
      clear ex209
      exact K 26 ls x209 (g, F) H _ dX12_parting_26 trivial hP hD hS
  · have c196 := congrArg Int32.toInt c196
    refine lv_iconst (v := (-1)) hx hb dX12_parting_14 (by decide +kernel) ?_
    exact K 15 ls (-1) (g, F) H _ dX12_parting_15 trivial hP hD hS
set_option maxHeartbeats 4000000 in
set_option maxRecDepth 100000 in
theorem m_parting (l : Launch) (dC : Nat → ClassId) (dI : Nat → Nat → Nat) (sz : Nat) (h0 : Nat) (kB kI kZ : ClassId) (q : Nat → Nat) (g : Nat → Int32) (F : Nat → Nat → Int32) (p0 : Int32) (p1 : Int32) (hI : MInv g F) : Met l yX12_parting vmX12_parting ({ frames := 3, cells := 0, slots := 0, locals := 82 } : Room) (va_Pc [.ref h0, .int p0, .int p1] (fun U => U.heap.size = sz ∧ va_P (dC, dI) vwCl (mW h0 kB kI kZ q g F) U.heap ∧ va_K (dC, dI) vwCl (mT kB kI kZ) U ∧ va_D (fun _ => True) (mW h0 kB kI kZ q g F))) (va_Qi (fun (r : Int32) (u : ((Nat → Int32) × (Nat → Nat → Int32))) => True) (fun u t => va_P (dC, dI) vwCl (mW h0 kB kI kZ q g F) t.heap ∧ va_K (dC, dI) vwCl (mT kB kI kZ) t ∧ va_D (va_A (mW h0 kB kI kZ q g F) sz) (mW h0 kB kI kZ q g F)) (va_A (mW h0 kB kI kZ q g F) sz)) 0 0 (va_A (mW h0 kB kI kZ q g F) sz) := by
  refine Met.ofW (cc := cX12_parting) (maxL := 3) (ret := (some .int)) (by decide) rfl ?_
  intro p e s m args below meth c s₁ B hml hv
  obtain ⟨rfl, hsz, hP, hK, hD0⟩ := hv
  have hx := B.exec
  have hb := B.bytes
  have hr := B.returns
  have hts := atoms_spec (ws := vmX12_parting) B.pre
  have hown : s.vm.findClass RX12 = some m.cls := findClass_of_methodNamed B.named
  subst hsz
  have hD := hD0.self (sz := s.heap.size)
  generalize hAe : va_A (mW h0 kB kI kZ q g F) s.heap.size = A at hD ⊢
  have hA : ∀ q : Nat, s.heap.size ≤ q → A q := fun q h => by rw [← hAe]; exact Or.inr h
  have hS : va_S A s.heap s.heap [] := va_S.rf
  have hl := lv_entry ([.ref h0, .int p0, .int p1]) (n := 3) (Nat.le_of_ble_eq_true rfl)
  rw [lg_entry_eq]
  generalize (lg_sl ([.ref h0, .int p0, .int p1]) ++ List.replicate (3 - (lg_sl ([.ref h0, .int p0, .int p1])).length) Slot.unset).toArray = ls at hl ⊢
  exact bm_parting p0 p1 hx hb hml hown hts hA hK hI hP hD hS hl (fun pc ls r u H locs hd hw hP hD hS => W.iret (v := r) hx hb hr (fun t ht hW => ⟨⟨r, u, rfl, hw, by rw [ht]; exact hP, va_K.moved hW.alike hK, hD⟩, hS.F ht⟩) hS.2.2 hd)
set_option maxHeartbeats 4000000 in
set_option maxRecDepth 100000 in
theorem bm_word {p : Program} {l : Launch} {e : Env} {s : State} {m : MethodId} {args : Array Value} {below : List Frame} {meth : Method} {c : Code} {Q : State → Prop} {A : Nat → Prop} {dC : Nat → ClassId} {dI : Nat → Nat → Nat} {h0 : Nat} {kB kI kZ : ClassId} {q : Nat → Nat} {g : Nat → Int32} {F : Nat → Nat → Int32} {H : Heap} {locs : List Loc} {ls : Array Slot} (p0 : Int32) (p1 : Int32) (hx : p.tables.exec = Jvm.exec) (hb : c.code = cX12_word) (hml : c.maxLocals = 3) (hown : s.vm.findClass RX12 = some m.cls) (hts : ∀ w ∈ vmX12_word, w.before args s = true) (hA : ∀ q : Nat, s.heap.size ≤ q → A q) (hK : va_K (dC, dI) vwCl (mT kB kI kZ) s) (hI : MInv g F) (hP : va_P (dC, dI) vwCl (mW h0 kB kI kZ q g F) H) (hD : va_D A (mW h0 kB kI kZ q g F)) (hS : va_S A s.heap H locs) (hl : lv_has ls 3 [(0, .ref h0), (1, .int p0), (2, .int p1)])
    (K : ∀ (pc : Nat) (ls : Array Slot) (r : Int32) (u : ((Nat → Int32) × (Nat → Nat → Int32))) (H : Heap) (locs : List Loc), decode cX12_word pc = .ok (.ireturn, 1) → (True) → va_P (dC, dI) vwCl (mW h0 kB kI kZ q g F) H → va_D A (mW h0 kB kI kZ q g F) → va_S A s.heap H locs → W p l e ({ frames := 3, cells := 0, slots := 0, locals := 82 } : Room) s m args below meth c H locs 0 0 Q (F0 m pc ls [.int r])) : W p l e ({ frames := 3, cells := 0, slots := 0, locals := 82 } : Room) s m args below meth c H locs 0 0 Q (F0 m 0 ls []) := by
  obtain ⟨hg1z, hg2z, hg3z, hg4z, hg5z, hg6z, hg7z, hg8z, hg9z, hg23z, hg27z, hg30z, hg34z, hg36z, hg39z, hg44z, hg47z, hg48z, hg51z, hg56z, hg59z, hg62z, hg65z, hg66z, hg70z, hF11z, hF12z, hF13z, hF15z, hF19z, hF21z, hF24z, hF25z, hF26z, hF33z, hF38z, hF41z, hF43z, hF45z, hF46z, hF50z, hF53z, hF54z⟩ := hI
  have zkm1 : (-1 : Int32).toInt = -1 := by decide +kernel
  have zk0 : (0 : Int32).toInt = 0 := by decide +kernel
  have zk1 : (1 : Int32).toInt = 1 := by decide +kernel
  have zk24 : (24 : Int32).toInt = 24 := by decide +kernel
  refine lv_iload_n hx hb dX12_word_0 rfl (lv_at hl 1 rfl) ?_
  refine lv_iconst (v := 0) hx hb dX12_word_1 (by decide +kernel) ?_
  refine lv_aload_n hx hb dX12_word_2 rfl (lv_at hl 0 rfl) ?_
  refine va_get (D := (dC, dI)) (ci := 12) (v := .int (g 48)) (C := RX12) (T := TX12) (N := 71) hx hb hts (fun _ h => List.mem_append_right _ h) hown hK hP 0 rfl rfl 48 (by decide) (hts (.fieldLink RX12 312 "SpellTurnerModel" "words" "I") (List.mem_of_getElem? (i := 1) rfl)) (fun _ h9 => h9) rfl dX12_word_3 ?_
  refine lv_iconst (v := 1) hx hb dX12_word_6 (by decide +kernel) ?_
  refine lv_isub hx hb dX12_word_7 ?_
  refine lv_topi (fun x210 ex210 => ?_)
  have fx210 : x210.toInt = (g 48).toInt - 1 := by have h := @z_sub (g 48) (1 : Int32) (by omega) (by omega); rw [← ex210] at h; omega
  clear ex210
  have hFc := va_free (wc := (mW h0 kB kI kZ q g F)) hD hS hA [0, 1, 2, 3, 4, 5, 6, 7, 8, 9, 10, 11, 12, 13, 14, 15, 16, 17, 18, 19, 20, 21, 22, 23, 24, 25, 26, 27, 28, 29, 30, 31, 32, 33, 34, 35, 36, 37, 38, 39, 40, 41, 42, 43, 44, 45] rfl
  refine va_calli (va_runS (As := [.int p0, .int 0, .int x210]) (rest := []) ⟨hx, hb, hml, hown, hts⟩ (m_in l dC dI H.size h0 kB kI kZ q g F p0 0 x210 ⟨hg1z, hg2z, hg3z, hg4z, hg5z, hg6z, hg7z, hg8z, hg9z, hg23z, hg27z, hg30z, hg34z, hg36z, hg39z, hg44z, hg47z, hg48z, hg51z, hg56z, hg59z, hg62z, hg65z, hg66z, hg70z, hF11z, hF12z, hF13z, hF15z, hF19z, hF21z, hF24z, hF25z, hF26z, hF33z, hF38z, hF41z, hF43z, hF45z, hF46z, hF50z, hF53z, hF54z⟩) (va_cwS 3 hts gw_X12_word_X12_in_226 rfl rfl rfl (by decide +kernel) ⟨Nat.le_of_ble_eq_true rfl, Nat.le_of_ble_eq_true rfl⟩) ⟨fun a U g mk q => by obtain ⟨q0, q1, qP, qK, qD⟩ := q; exact ⟨q0, q1, qP, va_K.moved (u := U) (U := U.calling g mk a) (Vm.Alike.refl U.vm) qK, qD⟩, fun U hU hW => ⟨rfl, by rw [hU], by rw [hU]; exact hP, va_K.moved hW.alike hK, hD.weaken (fun _ _ _ _ => trivial)⟩⟩ rfl rfl hl.1 rfl (lv_room (Nat.le_of_ble_eq_true rfl)) dX12_word_8 ⟨Nat.le_of_ble_eq_true rfl, Nat.le_of_ble_eq_true rfl⟩) hS (fun q _ h => hFc q h) hFc (fun r211 u t H1 locs ht hvm hw hB hz1 hk1 hS => ?_)
  obtain ⟨ga212, fa213⟩ := u
  obtain ⟨hP1, hK1, hD1⟩ := hB
  rw [ht] at hP1
  obtain ⟨hP, hD⟩ := va_join (wr := []) (w1 := (mW h0 kB kI kZ q g F)) hP hD [0, 1, 2, 3, 4, 5, 6, 7, 8, 9, 10, 11, 12, 13, 14, 15, 16, 17, 18, 19, 20, 21, 22, 23, 24, 25, 26, 27, 28, 29, 30, 31, 32, 33, 34, 35, 36, 37, 38, 39, 40, 41, 42, 43, 44, 45] [] rfl rfl (by decide) (by decide) hk1 hFc hP1 hD1
  generalize H1 = H at hP hS ⊢
  have hP : va_P (dC, dI) vwCl (mW h0 kB kI kZ q g F) H := hP
  have hD : va_D A (mW h0 kB kI kZ q g F) := hD
  obtain ⟨f214, f215⟩ : ((r211.toInt = 1 → (0 : Int32).toInt ≤ p0.toInt ∧ p0.toInt ≤ x210.toInt)) ∧ ((0 ≤ r211.toInt ∧ r211.toInt ≤ 1)) := hw
  refine lv_if_eq (tgt := 44) hx hb dX12_word_11 (by decide) (fun c216 => ?_) (fun c216 => ?_)
  · have c216 := congrArg Int32.toInt c216
    refine lv_iconst (v := (-1)) hx hb dX12_word_44 (by decide +kernel) ?_
    exact K 45 ls (-1) (g, F) H _ dX12_word_45 trivial hP hD hS
  · have c216 := z_ne c216
    refine lv_iload_n hx hb dX12_word_14 rfl (lv_at hl 2 rfl) ?_
    refine lv_iconst (v := 0) hx hb dX12_word_15 (by decide +kernel) ?_
    refine lv_aload_n hx hb dX12_word_16 rfl (lv_at hl 0 rfl) ?_
    refine va_get (D := (dC, dI)) (ci := 12) (v := .ref (q 50)) (C := RX12) (T := TX12) (N := 71) hx hb hts (fun _ h => List.mem_append_right _ h) hown hK hP 0 rfl rfl 50 (by decide) (hts (.fieldLink RX12 109 "SpellTurnerModel" "bookSize" "[I") (List.mem_of_getElem? (i := 5) rfl)) (fun _ h9 => h9) rfl dX12_word_17 ?_
    refine lv_iload_n hx hb dX12_word_20 rfl (lv_at hl 1 rfl) ?_
    refine va_iald hx hb hK hP 32 1 rfl rfl (z_in (i := p0) (by omega) (by omega)) dX12_word_21 ?_
    refine lv_topi (fun x217 ex217 => ?_)
    have kx217 : x217.toInt = ((F 50) (Int32.toNatClampNeg p0)).toInt := congrArg Int32.toInt ex217
    have fx217 := hF50z (Int32.toNatClampNeg p0)
    clear ex217
    refine lv_iconst (v := 1) hx hb dX12_word_22 (by decide +kernel) ?_
    refine lv_isub hx hb dX12_word_23 ?_
    refine lv_topi (fun x218 ex218 => ?_)
    have fx218 : x218.toInt = x217.toInt - 1 := by have h := @z_sub x217 (1 : Int32) (by omega) (by omega); rw [← ex218] at h; omega
    clear ex218
    have hFc := va_free (wc := (mW h0 kB kI kZ q g F)) hD hS hA [0, 1, 2, 3, 4, 5, 6, 7, 8, 9, 10, 11, 12, 13, 14, 15, 16, 17, 18, 19, 20, 21, 22, 23, 24, 25, 26, 27, 28, 29, 30, 31, 32, 33, 34, 35, 36, 37, 38, 39, 40, 41, 42, 43, 44, 45] rfl
    refine va_calli (va_runS (As := [.int p1, .int 0, .int x218]) (rest := []) ⟨hx, hb, hml, hown, hts⟩ (m_in l dC dI H.size h0 kB kI kZ q g F p1 0 x218 ⟨hg1z, hg2z, hg3z, hg4z, hg5z, hg6z, hg7z, hg8z, hg9z, hg23z, hg27z, hg30z, hg34z, hg36z, hg39z, hg44z, hg47z, hg48z, hg51z, hg56z, hg59z, hg62z, hg65z, hg66z, hg70z, hF11z, hF12z, hF13z, hF15z, hF19z, hF21z, hF24z, hF25z, hF26z, hF33z, hF38z, hF41z, hF43z, hF45z, hF46z, hF50z, hF53z, hF54z⟩) (va_cwS 3 hts gw_X12_word_X12_in_226 rfl rfl rfl (by decide +kernel) ⟨Nat.le_of_ble_eq_true rfl, Nat.le_of_ble_eq_true rfl⟩) ⟨fun a U g mk q => by obtain ⟨q0, q1, qP, qK, qD⟩ := q; exact ⟨q0, q1, qP, va_K.moved (u := U) (U := U.calling g mk a) (Vm.Alike.refl U.vm) qK, qD⟩, fun U hU hW => ⟨rfl, by rw [hU], by rw [hU]; exact hP, va_K.moved hW.alike hK, hD.weaken (fun _ _ _ _ => trivial)⟩⟩ rfl rfl hl.1 rfl (lv_room (Nat.le_of_ble_eq_true rfl)) dX12_word_24 ⟨Nat.le_of_ble_eq_true rfl, Nat.le_of_ble_eq_true rfl⟩) hS (fun q _ h => hFc q h) hFc (fun r219 u t H1 locs ht hvm hw hB hz1 hk1 hS => ?_)
    obtain ⟨ga220, fa221⟩ := u
    obtain ⟨hP1, hK1, hD1⟩ := hB
    rw [ht] at hP1
    obtain ⟨hP, hD⟩ := va_join (wr := []) (w1 := (mW h0 kB kI kZ q g F)) hP hD [0, 1, 2, 3, 4, 5, 6, 7, 8, 9, 10, 11, 12, 13, 14, 15, 16, 17, 18, 19, 20, 21, 22, 23, 24, 25, 26, 27, 28, 29, 30, 31, 32, 33, 34, 35, 36, 37, 38, 39, 40, 41, 42, 43, 44, 45] [] rfl rfl (by decide) (by decide) hk1 hFc hP1 hD1
    generalize H1 = H at hP hS ⊢
    have hP : va_P (dC, dI) vwCl (mW h0 kB kI kZ q g F) H := hP
    have hD : va_D A (mW h0 kB kI kZ q g F) := hD
    obtain ⟨f222, f223⟩ : ((r219.toInt = 1 → (0 : Int32).toInt ≤ p1.toInt ∧ p1.toInt ≤ x218.toInt)) ∧ ((0 ≤ r219.toInt ∧ r219.toInt ≤ 1)) := hw
    refine lv_if_eq (tgt := 44) hx hb dX12_word_27 (by decide) (fun c224 => ?_) (fun c224 => ?_)
    · have c224 := congrArg Int32.toInt c224
      refine lv_iconst (v := (-1)) hx hb dX12_word_44 (by decide +kernel) ?_
      exact K 45 ls (-1) (g, F) H _ dX12_word_45 trivial hP hD hS
    · have c224 := z_ne c224
      refine lv_aload_n hx hb dX12_word_30 rfl (lv_at hl 0 rfl) ?_
      refine va_get (D := (dC, dI)) (ci := 12) (v := .ref (q 49)) (C := RX12) (T := TX12) (N := 71) hx hb hts (fun _ h => List.mem_append_right _ h) hown hK hP 0 rfl rfl 49 (by decide) (hts (.fieldLink RX12 106 "SpellTurnerModel" "bookText" "[B") (List.mem_of_getElem? (i := 6) rfl)) (fun _ h9 => h9) rfl dX12_word_31 ?_
      refine lv_bipush (v := 24) hx hb dX12_word_34 (by decide +kernel) ?_
      refine lv_iload_n hx hb dX12_word_36 rfl (lv_at hl 1 rfl) ?_
      refine lv_imul hx hb dX12_word_37 ?_
      refine lv_topi (fun x225 ex225 => ?_)
      have fx225 : x225.toInt = 24 * p0.toInt := by rw [ex225, z_mul (by simp only [zk24]; omega) (by simp only [zk24]; omega)]; simp only [zk24]
      clear ex225
      refine lv_iload_n hx hb dX12_word_38 rfl (lv_at hl 2 rfl) ?_
      refine lv_iadd hx hb dX12_word_39 ?_
      refine lv_topi (fun x226 ex226 => ?_)
      have fx226 : x226.toInt = x225.toInt + p1.toInt := by have h := @z_add x225 p1 (by omega) (by omega); rw [← ex226] at h; omega
      clear ex226
      refine va_bald hx hb hK hP 31 0 rfl rfl (z_in (i := x226) (by omega) (by omega)) dX12_word_40 ?_
      refine lv_topi (fun x227 ex227 => ?_)
      clear ex227
      refine lv_goto (tgt := 45) hx hb dX12_word_41 (by decide) ?_
      exact K 45 ls x227 (g, F) H _ dX12_word_45 trivial hP hD hS
set_option maxHeartbeats 4000000 in
set_option maxRecDepth 100000 in
theorem m_word (l : Launch) (dC : Nat → ClassId) (dI : Nat → Nat → Nat) (sz : Nat) (h0 : Nat) (kB kI kZ : ClassId) (q : Nat → Nat) (g : Nat → Int32) (F : Nat → Nat → Int32) (p0 : Int32) (p1 : Int32) (hI : MInv g F) : Met l yX12_word vmX12_word ({ frames := 3, cells := 0, slots := 0, locals := 82 } : Room) (va_Pc [.ref h0, .int p0, .int p1] (fun U => U.heap.size = sz ∧ va_P (dC, dI) vwCl (mW h0 kB kI kZ q g F) U.heap ∧ va_K (dC, dI) vwCl (mT kB kI kZ) U ∧ va_D (fun _ => True) (mW h0 kB kI kZ q g F))) (va_Qi (fun (r : Int32) (u : ((Nat → Int32) × (Nat → Nat → Int32))) => True) (fun u t => va_P (dC, dI) vwCl (mW h0 kB kI kZ q g F) t.heap ∧ va_K (dC, dI) vwCl (mT kB kI kZ) t ∧ va_D (va_A (mW h0 kB kI kZ q g F) sz) (mW h0 kB kI kZ q g F)) (va_A (mW h0 kB kI kZ q g F) sz)) 0 0 (va_A (mW h0 kB kI kZ q g F) sz) := by
  refine Met.ofW (cc := cX12_word) (maxL := 3) (ret := (some .int)) (by decide) rfl ?_
  intro p e s m args below meth c s₁ B hml hv
  obtain ⟨rfl, hsz, hP, hK, hD0⟩ := hv
  have hx := B.exec
  have hb := B.bytes
  have hr := B.returns
  have hts := atoms_spec (ws := vmX12_word) B.pre
  have hown : s.vm.findClass RX12 = some m.cls := findClass_of_methodNamed B.named
  subst hsz
  have hD := hD0.self (sz := s.heap.size)
  generalize hAe : va_A (mW h0 kB kI kZ q g F) s.heap.size = A at hD ⊢
  have hA : ∀ q : Nat, s.heap.size ≤ q → A q := fun q h => by rw [← hAe]; exact Or.inr h
  have hS : va_S A s.heap s.heap [] := va_S.rf
  have hl := lv_entry ([.ref h0, .int p0, .int p1]) (n := 3) (Nat.le_of_ble_eq_true rfl)
  rw [lg_entry_eq]
  generalize (lg_sl ([.ref h0, .int p0, .int p1]) ++ List.replicate (3 - (lg_sl ([.ref h0, .int p0, .int p1])).length) Slot.unset).toArray = ls at hl ⊢
  exact bm_word p0 p1 hx hb hml hown hts hA hK hI hP hD hS hl (fun pc ls r u H locs hd hw hP hD hS => W.iret (v := r) hx hb hr (fun t ht hW => ⟨⟨r, u, rfl, hw, by rw [ht]; exact hP, va_K.moved hW.alike hK, hD⟩, hS.F ht⟩) hS.2.2 hd)
set_option maxHeartbeats 4000000 in
set_option maxRecDepth 100000 in
theorem bm_old {p : Program} {l : Launch} {e : Env} {s : State} {m : MethodId} {args : Array Value} {below : List Frame} {meth : Method} {c : Code} {Q : State → Prop} {A : Nat → Prop} {dC : Nat → ClassId} {dI : Nat → Nat → Nat} {h0 : Nat} {kB kI kZ : ClassId} {q : Nat → Nat} {g : Nat → Int32} {F : Nat → Nat → Int32} {H : Heap} {locs : List Loc} {ls : Array Slot} (p0 : Int32) (hx : p.tables.exec = Jvm.exec) (hb : c.code = cX12_old) (hml : c.maxLocals = 2) (hown : s.vm.findClass RX12 = some m.cls) (hts : ∀ w ∈ vmX12_old, w.before args s = true) (hA : ∀ q : Nat, s.heap.size ≤ q → A q) (hK : va_K (dC, dI) vwCl (mT kB kI kZ) s) (hI : MInv g F) (hP : va_P (dC, dI) vwCl (mW h0 kB kI kZ q g F) H) (hD : va_D A (mW h0 kB kI kZ q g F)) (hS : va_S A s.heap H locs) (hl : lv_has ls 2 [(0, .ref h0), (1, .int p0)])
    (K : ∀ (pc : Nat) (ls : Array Slot) (r : Int32) (u : ((Nat → Int32) × (Nat → Nat → Int32))) (H : Heap) (locs : List Loc), decode cX12_old pc = .ok (.ireturn, 1) → (True) → va_P (dC, dI) vwCl (mW h0 kB kI kZ q g F) H → va_D A (mW h0 kB kI kZ q g F) → va_S A s.heap H locs → W p l e ({ frames := 3, cells := 0, slots := 0, locals := 82 } : Room) s m args below meth c H locs 0 0 Q (F0 m pc ls [.int r])) : W p l e ({ frames := 3, cells := 0, slots := 0, locals := 82 } : Room) s m args below meth c H locs 0 0 Q (F0 m 0 ls []) := by
  obtain ⟨hg1z, hg2z, hg3z, hg4z, hg5z, hg6z, hg7z, hg8z, hg9z, hg23z, hg27z, hg30z, hg34z, hg36z, hg39z, hg44z, hg47z, hg48z, hg51z, hg56z, hg59z, hg62z, hg65z, hg66z, hg70z, hF11z, hF12z, hF13z, hF15z, hF19z, hF21z, hF24z, hF25z, hF26z, hF33z, hF38z, hF41z, hF43z, hF45z, hF46z, hF50z, hF53z, hF54z⟩ := hI
  have zkm1 : (-1 : Int32).toInt = -1 := by decide +kernel
  have zk0 : (0 : Int32).toInt = 0 := by decide +kernel
  have zk1 : (1 : Int32).toInt = 1 := by decide +kernel
  refine lv_iload_n hx hb dX12_old_0 rfl (lv_at hl 1 rfl) ?_
  refine lv_iconst (v := 0) hx hb dX12_old_1 (by decide +kernel) ?_
  refine lv_aload_n hx hb dX12_old_2 rfl (lv_at hl 0 rfl) ?_
  refine va_get (D := (dC, dI)) (ci := 12) (v := .int (g 56)) (C := RX12) (T := TX12) (N := 71) hx hb hts (fun _ h => List.mem_append_right _ h) hown hK hP 0 rfl rfl 56 (by decide) (hts (.fieldLink RX12 318 "SpellTurnerModel" "oldMany" "I") (List.mem_of_getElem? (i := 1) rfl)) (fun _ h9 => h9) rfl dX12_old_3 ?_
  refine lv_iconst (v := 1) hx hb dX12_old_6 (by decide +kernel) ?_
  refine lv_isub hx hb dX12_old_7 ?_
  refine lv_topi (fun x228 ex228 => ?_)
  have fx228 : x228.toInt = (g 56).toInt - 1 := by have h := @z_sub (g 56) (1 : Int32) (by omega) (by omega); rw [← ex228] at h; omega
  clear ex228
  have hFc := va_free (wc := (mW h0 kB kI kZ q g F)) hD hS hA [0, 1, 2, 3, 4, 5, 6, 7, 8, 9, 10, 11, 12, 13, 14, 15, 16, 17, 18, 19, 20, 21, 22, 23, 24, 25, 26, 27, 28, 29, 30, 31, 32, 33, 34, 35, 36, 37, 38, 39, 40, 41, 42, 43, 44, 45] rfl
  refine va_calli (va_runS (As := [.int p0, .int 0, .int x228]) (rest := []) ⟨hx, hb, hml, hown, hts⟩ (m_in l dC dI H.size h0 kB kI kZ q g F p0 0 x228 ⟨hg1z, hg2z, hg3z, hg4z, hg5z, hg6z, hg7z, hg8z, hg9z, hg23z, hg27z, hg30z, hg34z, hg36z, hg39z, hg44z, hg47z, hg48z, hg51z, hg56z, hg59z, hg62z, hg65z, hg66z, hg70z, hF11z, hF12z, hF13z, hF15z, hF19z, hF21z, hF24z, hF25z, hF26z, hF33z, hF38z, hF41z, hF43z, hF45z, hF46z, hF50z, hF53z, hF54z⟩) (va_cwS 3 hts gw_X12_old_X12_in_226 rfl rfl rfl (by decide +kernel) ⟨Nat.le_of_ble_eq_true rfl, Nat.le_of_ble_eq_true rfl⟩) ⟨fun a U g mk q => by obtain ⟨q0, q1, qP, qK, qD⟩ := q; exact ⟨q0, q1, qP, va_K.moved (u := U) (U := U.calling g mk a) (Vm.Alike.refl U.vm) qK, qD⟩, fun U hU hW => ⟨rfl, by rw [hU], by rw [hU]; exact hP, va_K.moved hW.alike hK, hD.weaken (fun _ _ _ _ => trivial)⟩⟩ rfl rfl hl.1 rfl (lv_room (Nat.le_of_ble_eq_true rfl)) dX12_old_8 ⟨Nat.le_of_ble_eq_true rfl, Nat.le_of_ble_eq_true rfl⟩) hS (fun q _ h => hFc q h) hFc (fun r229 u t H1 locs ht hvm hw hB hz1 hk1 hS => ?_)
  obtain ⟨ga230, fa231⟩ := u
  obtain ⟨hP1, hK1, hD1⟩ := hB
  rw [ht] at hP1
  obtain ⟨hP, hD⟩ := va_join (wr := []) (w1 := (mW h0 kB kI kZ q g F)) hP hD [0, 1, 2, 3, 4, 5, 6, 7, 8, 9, 10, 11, 12, 13, 14, 15, 16, 17, 18, 19, 20, 21, 22, 23, 24, 25, 26, 27, 28, 29, 30, 31, 32, 33, 34, 35, 36, 37, 38, 39, 40, 41, 42, 43, 44, 45] [] rfl rfl (by decide) (by decide) hk1 hFc hP1 hD1
  generalize H1 = H at hP hS ⊢
  have hP : va_P (dC, dI) vwCl (mW h0 kB kI kZ q g F) H := hP
  have hD : va_D A (mW h0 kB kI kZ q g F) := hD
  obtain ⟨f232, f233⟩ : ((r229.toInt = 1 → (0 : Int32).toInt ≤ p0.toInt ∧ p0.toInt ≤ x228.toInt)) ∧ ((0 ≤ r229.toInt ∧ r229.toInt ≤ 1)) := hw
  refine lv_if_eq (tgt := 23) hx hb dX12_old_11 (by decide) (fun c234 => ?_) (fun c234 => ?_)
  · have c234 := congrArg Int32.toInt c234
    refine lv_iconst (v := (-1)) hx hb dX12_old_23 (by decide +kernel) ?_
    exact K 24 ls (-1) (g, F) H _ dX12_old_24 trivial hP hD hS
  · have c234 := z_ne c234
    refine lv_aload_n hx hb dX12_old_14 rfl (lv_at hl 0 rfl) ?_
    refine va_get (D := (dC, dI)) (ci := 12) (v := .ref (q 55)) (C := RX12) (T := TX12) (N := 71) hx hb hts (fun _ h => List.mem_append_right _ h) hown hK hP 0 rfl rfl 55 (by decide) (hts (.fieldLink RX12 122 "SpellTurnerModel" "olds" "[I") (List.mem_of_getElem? (i := 5) rfl)) (fun _ h9 => h9) rfl dX12_old_15 ?_
    refine lv_iload_n hx hb dX12_old_18 rfl (lv_at hl 1 rfl) ?_
    refine va_iald hx hb hK hP 36 1 rfl rfl (z_in (i := p0) (by omega) (by omega)) dX12_old_19 ?_
    refine lv_topi (fun x235 ex235 => ?_)
    clear ex235
    refine lv_goto (tgt := 24) hx hb dX12_old_20 (by decide) ?_
    exact K 24 ls x235 (g, F) H _ dX12_old_24 trivial hP hD hS
set_option maxHeartbeats 4000000 in
set_option maxRecDepth 100000 in
theorem m_old (l : Launch) (dC : Nat → ClassId) (dI : Nat → Nat → Nat) (sz : Nat) (h0 : Nat) (kB kI kZ : ClassId) (q : Nat → Nat) (g : Nat → Int32) (F : Nat → Nat → Int32) (p0 : Int32) (hI : MInv g F) : Met l yX12_old vmX12_old ({ frames := 3, cells := 0, slots := 0, locals := 82 } : Room) (va_Pc [.ref h0, .int p0] (fun U => U.heap.size = sz ∧ va_P (dC, dI) vwCl (mW h0 kB kI kZ q g F) U.heap ∧ va_K (dC, dI) vwCl (mT kB kI kZ) U ∧ va_D (fun _ => True) (mW h0 kB kI kZ q g F))) (va_Qi (fun (r : Int32) (u : ((Nat → Int32) × (Nat → Nat → Int32))) => True) (fun u t => va_P (dC, dI) vwCl (mW h0 kB kI kZ q g F) t.heap ∧ va_K (dC, dI) vwCl (mT kB kI kZ) t ∧ va_D (va_A (mW h0 kB kI kZ q g F) sz) (mW h0 kB kI kZ q g F)) (va_A (mW h0 kB kI kZ q g F) sz)) 0 0 (va_A (mW h0 kB kI kZ q g F) sz) := by
  refine Met.ofW (cc := cX12_old) (maxL := 2) (ret := (some .int)) (by decide) rfl ?_
  intro p e s m args below meth c s₁ B hml hv
  obtain ⟨rfl, hsz, hP, hK, hD0⟩ := hv
  have hx := B.exec
  have hb := B.bytes
  have hr := B.returns
  have hts := atoms_spec (ws := vmX12_old) B.pre
  have hown : s.vm.findClass RX12 = some m.cls := findClass_of_methodNamed B.named
  subst hsz
  have hD := hD0.self (sz := s.heap.size)
  generalize hAe : va_A (mW h0 kB kI kZ q g F) s.heap.size = A at hD ⊢
  have hA : ∀ q : Nat, s.heap.size ≤ q → A q := fun q h => by rw [← hAe]; exact Or.inr h
  have hS : va_S A s.heap s.heap [] := va_S.rf
  have hl := lv_entry ([.ref h0, .int p0]) (n := 2) (Nat.le_of_ble_eq_true rfl)
  rw [lg_entry_eq]
  generalize (lg_sl ([.ref h0, .int p0]) ++ List.replicate (2 - (lg_sl ([.ref h0, .int p0])).length) Slot.unset).toArray = ls at hl ⊢
  exact bm_old p0 hx hb hml hown hts hA hK hI hP hD hS hl (fun pc ls r u H locs hd hw hP hD hS => W.iret (v := r) hx hb hr (fun t ht hW => ⟨⟨r, u, rfl, hw, by rw [ht]; exact hP, va_K.moved hW.alike hK, hD⟩, hS.F ht⟩) hS.2.2 hd)
set_option maxHeartbeats 4000000 in
set_option maxRecDepth 100000 in
theorem bm_collision {p : Program} {l : Launch} {e : Env} {s : State} {m : MethodId} {args : Array Value} {below : List Frame} {meth : Method} {c : Code} {Q : State → Prop} {A : Nat → Prop} {dC : Nat → ClassId} {dI : Nat → Nat → Nat} {h0 : Nat} {kB kI kZ : ClassId} {q : Nat → Nat} {g : Nat → Int32} {F : Nat → Nat → Int32} {H : Heap} {locs : List Loc} {ls : Array Slot} (p0 : Int32) (hx : p.tables.exec = Jvm.exec) (hb : c.code = cX12_collision) (hml : c.maxLocals = 2) (hown : s.vm.findClass RX12 = some m.cls) (hts : ∀ w ∈ vmX12_collision, w.before args s = true) (hA : ∀ q : Nat, s.heap.size ≤ q → A q) (hK : va_K (dC, dI) vwCl (mT kB kI kZ) s) (hI : MInv g F) (hP : va_P (dC, dI) vwCl (mW h0 kB kI kZ q g F) H) (hD : va_D A (mW h0 kB kI kZ q g F)) (hS : va_S A s.heap H locs) (hl : lv_has ls 2 [(0, .ref h0), (1, .int p0)])
    (K : ∀ (pc : Nat) (ls : Array Slot) (r : Int32) (u : ((Nat → Int32) × (Nat → Nat → Int32))) (H : Heap) (locs : List Loc), decode cX12_collision pc = .ok (.ireturn, 1) → (True) → va_P (dC, dI) vwCl (mW h0 kB kI kZ q g F) H → va_D A (mW h0 kB kI kZ q g F) → va_S A s.heap H locs → W p l e ({ frames := 3, cells := 0, slots := 0, locals := 82 } : Room) s m args below meth c H locs 0 0 Q (F0 m pc ls [.int r])) : W p l e ({ frames := 3, cells := 0, slots := 0, locals := 82 } : Room) s m args below meth c H locs 0 0 Q (F0 m 0 ls []) := by
  obtain ⟨hg1z, hg2z, hg3z, hg4z, hg5z, hg6z, hg7z, hg8z, hg9z, hg23z, hg27z, hg30z, hg34z, hg36z, hg39z, hg44z, hg47z, hg48z, hg51z, hg56z, hg59z, hg62z, hg65z, hg66z, hg70z, hF11z, hF12z, hF13z, hF15z, hF19z, hF21z, hF24z, hF25z, hF26z, hF33z, hF38z, hF41z, hF43z, hF45z, hF46z, hF50z, hF53z, hF54z⟩ := hI
  have zkm1 : (-1 : Int32).toInt = -1 := by decide +kernel
  have zk0 : (0 : Int32).toInt = 0 := by decide +kernel
  have zk1 : (1 : Int32).toInt = 1 := by decide +kernel
  refine lv_iload_n hx hb dX12_collision_0 rfl (lv_at hl 1 rfl) ?_
  refine lv_iconst (v := 0) hx hb dX12_collision_1 (by decide +kernel) ?_
  refine lv_aload_n hx hb dX12_collision_2 rfl (lv_at hl 0 rfl) ?_
  refine va_get (D := (dC, dI)) (ci := 12) (v := .int (g 59)) (C := RX12) (T := TX12) (N := 71) hx hb hts (fun _ h => List.mem_append_right _ h) hown hK hP 0 rfl rfl 59 (by decide) (hts (.fieldLink RX12 325 "SpellTurnerModel" "pairMany" "I") (List.mem_of_getElem? (i := 1) rfl)) (fun _ h9 => h9) rfl dX12_collision_3 ?_
  refine lv_iconst (v := 1) hx hb dX12_collision_6 (by decide +kernel) ?_
  refine lv_isub hx hb dX12_collision_7 ?_
  refine lv_topi (fun x236 ex236 => ?_)
  have fx236 : x236.toInt = (g 59).toInt - 1 := by have h := @z_sub (g 59) (1 : Int32) (by omega) (by omega); rw [← ex236] at h; omega
  clear ex236
  have hFc := va_free (wc := (mW h0 kB kI kZ q g F)) hD hS hA [0, 1, 2, 3, 4, 5, 6, 7, 8, 9, 10, 11, 12, 13, 14, 15, 16, 17, 18, 19, 20, 21, 22, 23, 24, 25, 26, 27, 28, 29, 30, 31, 32, 33, 34, 35, 36, 37, 38, 39, 40, 41, 42, 43, 44, 45] rfl
  refine va_calli (va_runS (As := [.int p0, .int 0, .int x236]) (rest := []) ⟨hx, hb, hml, hown, hts⟩ (m_in l dC dI H.size h0 kB kI kZ q g F p0 0 x236 ⟨hg1z, hg2z, hg3z, hg4z, hg5z, hg6z, hg7z, hg8z, hg9z, hg23z, hg27z, hg30z, hg34z, hg36z, hg39z, hg44z, hg47z, hg48z, hg51z, hg56z, hg59z, hg62z, hg65z, hg66z, hg70z, hF11z, hF12z, hF13z, hF15z, hF19z, hF21z, hF24z, hF25z, hF26z, hF33z, hF38z, hF41z, hF43z, hF45z, hF46z, hF50z, hF53z, hF54z⟩) (va_cwS 3 hts gw_X12_collision_X12_in_226 rfl rfl rfl (by decide +kernel) ⟨Nat.le_of_ble_eq_true rfl, Nat.le_of_ble_eq_true rfl⟩) ⟨fun a U g mk q => by obtain ⟨q0, q1, qP, qK, qD⟩ := q; exact ⟨q0, q1, qP, va_K.moved (u := U) (U := U.calling g mk a) (Vm.Alike.refl U.vm) qK, qD⟩, fun U hU hW => ⟨rfl, by rw [hU], by rw [hU]; exact hP, va_K.moved hW.alike hK, hD.weaken (fun _ _ _ _ => trivial)⟩⟩ rfl rfl hl.1 rfl (lv_room (Nat.le_of_ble_eq_true rfl)) dX12_collision_8 ⟨Nat.le_of_ble_eq_true rfl, Nat.le_of_ble_eq_true rfl⟩) hS (fun q _ h => hFc q h) hFc (fun r237 u t H1 locs ht hvm hw hB hz1 hk1 hS => ?_)
  obtain ⟨ga238, fa239⟩ := u
  obtain ⟨hP1, hK1, hD1⟩ := hB
  rw [ht] at hP1
  obtain ⟨hP, hD⟩ := va_join (wr := []) (w1 := (mW h0 kB kI kZ q g F)) hP hD [0, 1, 2, 3, 4, 5, 6, 7, 8, 9, 10, 11, 12, 13, 14, 15, 16, 17, 18, 19, 20, 21, 22, 23, 24, 25, 26, 27, 28, 29, 30, 31, 32, 33, 34, 35, 36, 37, 38, 39, 40, 41, 42, 43, 44, 45] [] rfl rfl (by decide) (by decide) hk1 hFc hP1 hD1
  generalize H1 = H at hP hS ⊢
  have hP : va_P (dC, dI) vwCl (mW h0 kB kI kZ q g F) H := hP
  have hD : va_D A (mW h0 kB kI kZ q g F) := hD
  obtain ⟨f240, f241⟩ : ((r237.toInt = 1 → (0 : Int32).toInt ≤ p0.toInt ∧ p0.toInt ≤ x236.toInt)) ∧ ((0 ≤ r237.toInt ∧ r237.toInt ≤ 1)) := hw
  refine lv_if_eq (tgt := 23) hx hb dX12_collision_11 (by decide) (fun c242 => ?_) (fun c242 => ?_)
  · have c242 := congrArg Int32.toInt c242
    refine lv_iconst (v := (-1)) hx hb dX12_collision_23 (by decide +kernel) ?_
    exact K 24 ls (-1) (g, F) H _ dX12_collision_24 trivial hP hD hS
  · have c242 := z_ne c242
    refine lv_aload_n hx hb dX12_collision_14 rfl (lv_at hl 0 rfl) ?_
    refine va_get (D := (dC, dI)) (ci := 12) (v := .ref (q 58)) (C := RX12) (T := TX12) (N := 71) hx hb hts (fun _ h => List.mem_append_right _ h) hown hK hP 0 rfl rfl 58 (by decide) (hts (.fieldLink RX12 128 "SpellTurnerModel" "pairs" "[I") (List.mem_of_getElem? (i := 5) rfl)) (fun _ h9 => h9) rfl dX12_collision_15 ?_
    refine lv_iload_n hx hb dX12_collision_18 rfl (lv_at hl 1 rfl) ?_
    refine va_iald hx hb hK hP 38 1 rfl rfl (z_in (i := p0) (by omega) (by omega)) dX12_collision_19 ?_
    refine lv_topi (fun x243 ex243 => ?_)
    clear ex243
    refine lv_goto (tgt := 24) hx hb dX12_collision_20 (by decide) ?_
    exact K 24 ls x243 (g, F) H _ dX12_collision_24 trivial hP hD hS
set_option maxHeartbeats 4000000 in
set_option maxRecDepth 100000 in
theorem m_collision (l : Launch) (dC : Nat → ClassId) (dI : Nat → Nat → Nat) (sz : Nat) (h0 : Nat) (kB kI kZ : ClassId) (q : Nat → Nat) (g : Nat → Int32) (F : Nat → Nat → Int32) (p0 : Int32) (hI : MInv g F) : Met l yX12_collision vmX12_collision ({ frames := 3, cells := 0, slots := 0, locals := 82 } : Room) (va_Pc [.ref h0, .int p0] (fun U => U.heap.size = sz ∧ va_P (dC, dI) vwCl (mW h0 kB kI kZ q g F) U.heap ∧ va_K (dC, dI) vwCl (mT kB kI kZ) U ∧ va_D (fun _ => True) (mW h0 kB kI kZ q g F))) (va_Qi (fun (r : Int32) (u : ((Nat → Int32) × (Nat → Nat → Int32))) => True) (fun u t => va_P (dC, dI) vwCl (mW h0 kB kI kZ q g F) t.heap ∧ va_K (dC, dI) vwCl (mT kB kI kZ) t ∧ va_D (va_A (mW h0 kB kI kZ q g F) sz) (mW h0 kB kI kZ q g F)) (va_A (mW h0 kB kI kZ q g F) sz)) 0 0 (va_A (mW h0 kB kI kZ q g F) sz) := by
  refine Met.ofW (cc := cX12_collision) (maxL := 2) (ret := (some .int)) (by decide) rfl ?_
  intro p e s m args below meth c s₁ B hml hv
  obtain ⟨rfl, hsz, hP, hK, hD0⟩ := hv
  have hx := B.exec
  have hb := B.bytes
  have hr := B.returns
  have hts := atoms_spec (ws := vmX12_collision) B.pre
  have hown : s.vm.findClass RX12 = some m.cls := findClass_of_methodNamed B.named
  subst hsz
  have hD := hD0.self (sz := s.heap.size)
  generalize hAe : va_A (mW h0 kB kI kZ q g F) s.heap.size = A at hD ⊢
  have hA : ∀ q : Nat, s.heap.size ≤ q → A q := fun q h => by rw [← hAe]; exact Or.inr h
  have hS : va_S A s.heap s.heap [] := va_S.rf
  have hl := lv_entry ([.ref h0, .int p0]) (n := 2) (Nat.le_of_ble_eq_true rfl)
  rw [lg_entry_eq]
  generalize (lg_sl ([.ref h0, .int p0]) ++ List.replicate (2 - (lg_sl ([.ref h0, .int p0])).length) Slot.unset).toArray = ls at hl ⊢
  exact bm_collision p0 hx hb hml hown hts hA hK hI hP hD hS hl (fun pc ls r u H locs hd hw hP hD hS => W.iret (v := r) hx hb hr (fun t ht hW => ⟨⟨r, u, rfl, hw, by rw [ht]; exact hP, va_K.moved hW.alike hK, hD⟩, hS.F ht⟩) hS.2.2 hd)
set_option maxHeartbeats 4000000 in
set_option maxRecDepth 100000 in
theorem bm_written {p : Program} {l : Launch} {e : Env} {s : State} {m : MethodId} {args : Array Value} {below : List Frame} {meth : Method} {c : Code} {Q : State → Prop} {A : Nat → Prop} {dC : Nat → ClassId} {dI : Nat → Nat → Nat} {h0 : Nat} {kB kI kZ : ClassId} {q : Nat → Nat} {g : Nat → Int32} {F : Nat → Nat → Int32} {H : Heap} {locs : List Loc} {ls : Array Slot} (p0 : Int32) (hx : p.tables.exec = Jvm.exec) (hb : c.code = cX12_written) (hml : c.maxLocals = 2) (hown : s.vm.findClass RX12 = some m.cls) (hts : ∀ w ∈ vmX12_written, w.before args s = true) (hA : ∀ q : Nat, s.heap.size ≤ q → A q) (hK : va_K (dC, dI) vwCl (mT kB kI kZ) s) (hI : MInv g F) (hP : va_P (dC, dI) vwCl (mW h0 kB kI kZ q g F) H) (hD : va_D A (mW h0 kB kI kZ q g F)) (hS : va_S A s.heap H locs) (hl : lv_has ls 2 [(0, .ref h0), (1, .int p0)])
    (K : ∀ (pc : Nat) (ls : Array Slot) (r : Int32) (u : ((Nat → Int32) × (Nat → Nat → Int32))) (H : Heap) (locs : List Loc), decode cX12_written pc = .ok (.ireturn, 1) → (True) → va_P (dC, dI) vwCl (mW h0 kB kI kZ q g F) H → va_D A (mW h0 kB kI kZ q g F) → va_S A s.heap H locs → W p l e ({ frames := 3, cells := 0, slots := 0, locals := 82 } : Room) s m args below meth c H locs 0 0 Q (F0 m pc ls [.int r])) : W p l e ({ frames := 3, cells := 0, slots := 0, locals := 82 } : Room) s m args below meth c H locs 0 0 Q (F0 m 0 ls []) := by
  obtain ⟨hg1z, hg2z, hg3z, hg4z, hg5z, hg6z, hg7z, hg8z, hg9z, hg23z, hg27z, hg30z, hg34z, hg36z, hg39z, hg44z, hg47z, hg48z, hg51z, hg56z, hg59z, hg62z, hg65z, hg66z, hg70z, hF11z, hF12z, hF13z, hF15z, hF19z, hF21z, hF24z, hF25z, hF26z, hF33z, hF38z, hF41z, hF43z, hF45z, hF46z, hF50z, hF53z, hF54z⟩ := hI
  have zkm1 : (-1 : Int32).toInt = -1 := by decide +kernel
  have zk0 : (0 : Int32).toInt = 0 := by decide +kernel
  have zk1 : (1 : Int32).toInt = 1 := by decide +kernel
  have zk255 : (255 : Int32).toInt = 255 := by decide +kernel
  refine lv_iload_n hx hb dX12_written_0 rfl (lv_at hl 1 rfl) ?_
  refine lv_iconst (v := 0) hx hb dX12_written_1 (by decide +kernel) ?_
  refine lv_aload_n hx hb dX12_written_2 rfl (lv_at hl 0 rfl) ?_
  refine va_get (D := (dC, dI)) (ci := 12) (v := .int (g 62)) (C := RX12) (T := TX12) (N := 71) hx hb hts (fun _ h => List.mem_append_right _ h) hown hK hP 0 rfl rfl 62 (by decide) (hts (.fieldLink RX12 361 "SpellTurnerModel" "texted" "I") (List.mem_of_getElem? (i := 1) rfl)) (fun _ h9 => h9) rfl dX12_written_3 ?_
  refine lv_iconst (v := 1) hx hb dX12_written_6 (by decide +kernel) ?_
  refine lv_isub hx hb dX12_written_7 ?_
  refine lv_topi (fun x244 ex244 => ?_)
  have fx244 : x244.toInt = (g 62).toInt - 1 := by have h := @z_sub (g 62) (1 : Int32) (by omega) (by omega); rw [← ex244] at h; omega
  clear ex244
  have hFc := va_free (wc := (mW h0 kB kI kZ q g F)) hD hS hA [0, 1, 2, 3, 4, 5, 6, 7, 8, 9, 10, 11, 12, 13, 14, 15, 16, 17, 18, 19, 20, 21, 22, 23, 24, 25, 26, 27, 28, 29, 30, 31, 32, 33, 34, 35, 36, 37, 38, 39, 40, 41, 42, 43, 44, 45] rfl
  refine va_calli (va_runS (As := [.int p0, .int 0, .int x244]) (rest := []) ⟨hx, hb, hml, hown, hts⟩ (m_in l dC dI H.size h0 kB kI kZ q g F p0 0 x244 ⟨hg1z, hg2z, hg3z, hg4z, hg5z, hg6z, hg7z, hg8z, hg9z, hg23z, hg27z, hg30z, hg34z, hg36z, hg39z, hg44z, hg47z, hg48z, hg51z, hg56z, hg59z, hg62z, hg65z, hg66z, hg70z, hF11z, hF12z, hF13z, hF15z, hF19z, hF21z, hF24z, hF25z, hF26z, hF33z, hF38z, hF41z, hF43z, hF45z, hF46z, hF50z, hF53z, hF54z⟩) (va_cwS 3 hts gw_X12_written_X12_in_226 rfl rfl rfl (by decide +kernel) ⟨Nat.le_of_ble_eq_true rfl, Nat.le_of_ble_eq_true rfl⟩) ⟨fun a U g mk q => by obtain ⟨q0, q1, qP, qK, qD⟩ := q; exact ⟨q0, q1, qP, va_K.moved (u := U) (U := U.calling g mk a) (Vm.Alike.refl U.vm) qK, qD⟩, fun U hU hW => ⟨rfl, by rw [hU], by rw [hU]; exact hP, va_K.moved hW.alike hK, hD.weaken (fun _ _ _ _ => trivial)⟩⟩ rfl rfl hl.1 rfl (lv_room (Nat.le_of_ble_eq_true rfl)) dX12_written_8 ⟨Nat.le_of_ble_eq_true rfl, Nat.le_of_ble_eq_true rfl⟩) hS (fun q _ h => hFc q h) hFc (fun r245 u t H1 locs ht hvm hw hB hz1 hk1 hS => ?_)
  obtain ⟨ga246, fa247⟩ := u
  obtain ⟨hP1, hK1, hD1⟩ := hB
  rw [ht] at hP1
  obtain ⟨hP, hD⟩ := va_join (wr := []) (w1 := (mW h0 kB kI kZ q g F)) hP hD [0, 1, 2, 3, 4, 5, 6, 7, 8, 9, 10, 11, 12, 13, 14, 15, 16, 17, 18, 19, 20, 21, 22, 23, 24, 25, 26, 27, 28, 29, 30, 31, 32, 33, 34, 35, 36, 37, 38, 39, 40, 41, 42, 43, 44, 45] [] rfl rfl (by decide) (by decide) hk1 hFc hP1 hD1
  generalize H1 = H at hP hS ⊢
  have hP : va_P (dC, dI) vwCl (mW h0 kB kI kZ q g F) H := hP
  have hD : va_D A (mW h0 kB kI kZ q g F) := hD
  obtain ⟨f248, f249⟩ : ((r245.toInt = 1 → (0 : Int32).toInt ≤ p0.toInt ∧ p0.toInt ≤ x244.toInt)) ∧ ((0 ≤ r245.toInt ∧ r245.toInt ≤ 1)) := hw
  refine lv_if_eq (tgt := 27) hx hb dX12_written_11 (by decide) (fun c250 => ?_) (fun c250 => ?_)
  · have c250 := congrArg Int32.toInt c250
    refine lv_iconst (v := (-1)) hx hb dX12_written_27 (by decide +kernel) ?_
    exact K 28 ls (-1) (g, F) H _ dX12_written_28 trivial hP hD hS
  · have c250 := z_ne c250
    refine lv_aload_n hx hb dX12_written_14 rfl (lv_at hl 0 rfl) ?_
    refine va_get (D := (dC, dI)) (ci := 12) (v := .ref (q 60)) (C := RX12) (T := TX12) (N := 71) hx hb hts (fun _ h => List.mem_append_right _ h) hown hK hP 0 rfl rfl 60 (by decide) (hts (.fieldLink RX12 131 "SpellTurnerModel" "text" "[B") (List.mem_of_getElem? (i := 5) rfl)) (fun _ h9 => h9) rfl dX12_written_15 ?_
    refine lv_iload_n hx hb dX12_written_18 rfl (lv_at hl 1 rfl) ?_
    refine va_bald hx hb hK hP 39 0 rfl rfl (z_in (i := p0) (by omega) (by omega)) dX12_written_19 ?_
    refine lv_topi (fun x251 ex251 => ?_)
    clear ex251
    refine lv_sipush (v := 255) hx hb dX12_written_20 (by decide +kernel) ?_
    refine lv_iand hx hb dX12_written_23 ?_
    refine lv_topi (fun x252 ex252 => ?_)
    have fx252 : 0 ≤ x252.toInt ∧ x252.toInt ≤ 255 := by rw [ex252]; exact z_and255 _
    clear ex252
    refine lv_goto (tgt := 28) hx hb dX12_written_24 (by decide) ?_
    exact K 28 ls x252 (g, F) H _ dX12_written_28 trivial hP hD hS
set_option maxHeartbeats 4000000 in
set_option maxRecDepth 100000 in
theorem m_written (l : Launch) (dC : Nat → ClassId) (dI : Nat → Nat → Nat) (sz : Nat) (h0 : Nat) (kB kI kZ : ClassId) (q : Nat → Nat) (g : Nat → Int32) (F : Nat → Nat → Int32) (p0 : Int32) (hI : MInv g F) : Met l yX12_written vmX12_written ({ frames := 3, cells := 0, slots := 0, locals := 82 } : Room) (va_Pc [.ref h0, .int p0] (fun U => U.heap.size = sz ∧ va_P (dC, dI) vwCl (mW h0 kB kI kZ q g F) U.heap ∧ va_K (dC, dI) vwCl (mT kB kI kZ) U ∧ va_D (fun _ => True) (mW h0 kB kI kZ q g F))) (va_Qi (fun (r : Int32) (u : ((Nat → Int32) × (Nat → Nat → Int32))) => True) (fun u t => va_P (dC, dI) vwCl (mW h0 kB kI kZ q g F) t.heap ∧ va_K (dC, dI) vwCl (mT kB kI kZ) t ∧ va_D (va_A (mW h0 kB kI kZ q g F) sz) (mW h0 kB kI kZ q g F)) (va_A (mW h0 kB kI kZ q g F) sz)) 0 0 (va_A (mW h0 kB kI kZ q g F) sz) := by
  refine Met.ofW (cc := cX12_written) (maxL := 2) (ret := (some .int)) (by decide) rfl ?_
  intro p e s m args below meth c s₁ B hml hv
  obtain ⟨rfl, hsz, hP, hK, hD0⟩ := hv
  have hx := B.exec
  have hb := B.bytes
  have hr := B.returns
  have hts := atoms_spec (ws := vmX12_written) B.pre
  have hown : s.vm.findClass RX12 = some m.cls := findClass_of_methodNamed B.named
  subst hsz
  have hD := hD0.self (sz := s.heap.size)
  generalize hAe : va_A (mW h0 kB kI kZ q g F) s.heap.size = A at hD ⊢
  have hA : ∀ q : Nat, s.heap.size ≤ q → A q := fun q h => by rw [← hAe]; exact Or.inr h
  have hS : va_S A s.heap s.heap [] := va_S.rf
  have hl := lv_entry ([.ref h0, .int p0]) (n := 2) (Nat.le_of_ble_eq_true rfl)
  rw [lg_entry_eq]
  generalize (lg_sl ([.ref h0, .int p0]) ++ List.replicate (2 - (lg_sl ([.ref h0, .int p0])).length) Slot.unset).toArray = ls at hl ⊢
  exact bm_written p0 hx hb hml hown hts hA hK hI hP hD hS hl (fun pc ls r u H locs hd hw hP hD hS => W.iret (v := r) hx hb hr (fun t ht hW => ⟨⟨r, u, rfl, hw, by rw [ht]; exact hP, va_K.moved hW.alike hK, hD⟩, hS.F ht⟩) hS.2.2 hd)
set_option maxHeartbeats 4000000 in
set_option maxRecDepth 100000 in
theorem bm_counted {p : Program} {l : Launch} {e : Env} {s : State} {m : MethodId} {args : Array Value} {below : List Frame} {meth : Method} {c : Code} {Q : State → Prop} {A : Nat → Prop} {dC : Nat → ClassId} {dI : Nat → Nat → Nat} {h0 : Nat} {kB kI kZ : ClassId} {q : Nat → Nat} {g : Nat → Int32} {F : Nat → Nat → Int32} {H : Heap} {locs : List Loc} {ls : Array Slot} (p0 : Int32) (hx : p.tables.exec = Jvm.exec) (hb : c.code = cX12_counted) (hml : c.maxLocals = 2) (hown : s.vm.findClass RX12 = some m.cls) (hts : ∀ w ∈ vmX12_counted, w.before args s = true) (hA : ∀ q : Nat, s.heap.size ≤ q → A q) (hK : va_K (dC, dI) vwCl (mT kB kI kZ) s) (hI : MInv g F) (hP : va_P (dC, dI) vwCl (mW h0 kB kI kZ q g F) H) (hD : va_D A (mW h0 kB kI kZ q g F)) (hS : va_S A s.heap H locs) (hl : lv_has ls 2 [(0, .ref h0), (1, .int p0)])
    (K : ∀ (pc : Nat) (ls : Array Slot) (r : Int32) (u : ((Nat → Int32) × (Nat → Nat → Int32))) (H : Heap) (locs : List Loc), decode cX12_counted pc = .ok (.ireturn, 1) → (True) → va_P (dC, dI) vwCl (mW h0 kB kI kZ q g F) H → va_D A (mW h0 kB kI kZ q g F) → va_S A s.heap H locs → W p l e ({ frames := 3, cells := 0, slots := 0, locals := 82 } : Room) s m args below meth c H locs 0 0 Q (F0 m pc ls [.int r])) : W p l e ({ frames := 3, cells := 0, slots := 0, locals := 82 } : Room) s m args below meth c H locs 0 0 Q (F0 m 0 ls []) := by
  obtain ⟨hg1z, hg2z, hg3z, hg4z, hg5z, hg6z, hg7z, hg8z, hg9z, hg23z, hg27z, hg30z, hg34z, hg36z, hg39z, hg44z, hg47z, hg48z, hg51z, hg56z, hg59z, hg62z, hg65z, hg66z, hg70z, hF11z, hF12z, hF13z, hF15z, hF19z, hF21z, hF24z, hF25z, hF26z, hF33z, hF38z, hF41z, hF43z, hF45z, hF46z, hF50z, hF53z, hF54z⟩ := hI
  have zkm1 : (-1 : Int32).toInt = -1 := by decide +kernel
  have zk0 : (0 : Int32).toInt = 0 := by decide +kernel
  have zk4 : (4 : Int32).toInt = 4 := by decide +kernel
  refine lv_aload_n hx hb dX12_counted_0 rfl (lv_at hl 0 rfl) ?_
  refine va_get (D := (dC, dI)) (ci := 12) (v := .int (g 65)) (C := RX12) (T := TX12) (N := 71) hx hb hts (fun _ h => List.mem_append_right _ h) hown hK hP 0 rfl rfl 65 (by decide) (hts (.fieldLink RX12 364 "SpellTurnerModel" "hasText" "Z") (List.mem_of_getElem? (i := 1) rfl)) (fun _ h9 => h9) rfl dX12_counted_1 ?_
  refine lv_if_eq (tgt := 25) hx hb dX12_counted_4 (by decide) (fun c253 => ?_) (fun c253 => ?_)
  · have c253 := congrArg Int32.toInt c253
    refine lv_iconst (v := (-1)) hx hb dX12_counted_25 (by decide +kernel) ?_
    exact K 26 ls (-1) (g, F) H _ dX12_counted_26 trivial hP hD hS
  · have c253 := z_ne c253
    refine lv_iload_n hx hb dX12_counted_7 rfl (lv_at hl 1 rfl) ?_
    refine lv_iconst (v := 0) hx hb dX12_counted_8 (by decide +kernel) ?_
    refine lv_iconst (v := 4) hx hb dX12_counted_9 (by decide +kernel) ?_
    have hFc := va_free (wc := (mW h0 kB kI kZ q g F)) hD hS hA [0, 1, 2, 3, 4, 5, 6, 7, 8, 9, 10, 11, 12, 13, 14, 15, 16, 17, 18, 19, 20, 21, 22, 23, 24, 25, 26, 27, 28, 29, 30, 31, 32, 33, 34, 35, 36, 37, 38, 39, 40, 41, 42, 43, 44, 45] rfl
    refine va_calli (va_runS (As := [.int p0, .int 0, .int 4]) (rest := []) ⟨hx, hb, hml, hown, hts⟩ (m_in l dC dI H.size h0 kB kI kZ q g F p0 0 4 ⟨hg1z, hg2z, hg3z, hg4z, hg5z, hg6z, hg7z, hg8z, hg9z, hg23z, hg27z, hg30z, hg34z, hg36z, hg39z, hg44z, hg47z, hg48z, hg51z, hg56z, hg59z, hg62z, hg65z, hg66z, hg70z, hF11z, hF12z, hF13z, hF15z, hF19z, hF21z, hF24z, hF25z, hF26z, hF33z, hF38z, hF41z, hF43z, hF45z, hF46z, hF50z, hF53z, hF54z⟩) (va_cwS 3 hts gw_X12_counted_X12_in_226 rfl rfl rfl (by decide +kernel) ⟨Nat.le_of_ble_eq_true rfl, Nat.le_of_ble_eq_true rfl⟩) ⟨fun a U g mk q => by obtain ⟨q0, q1, qP, qK, qD⟩ := q; exact ⟨q0, q1, qP, va_K.moved (u := U) (U := U.calling g mk a) (Vm.Alike.refl U.vm) qK, qD⟩, fun U hU hW => ⟨rfl, by rw [hU], by rw [hU]; exact hP, va_K.moved hW.alike hK, hD.weaken (fun _ _ _ _ => trivial)⟩⟩ rfl rfl hl.1 rfl (lv_room (Nat.le_of_ble_eq_true rfl)) dX12_counted_10 ⟨Nat.le_of_ble_eq_true rfl, Nat.le_of_ble_eq_true rfl⟩) hS (fun q _ h => hFc q h) hFc (fun r254 u t H1 locs ht hvm hw hB hz1 hk1 hS => ?_)
    obtain ⟨ga255, fa256⟩ := u
    obtain ⟨hP1, hK1, hD1⟩ := hB
    rw [ht] at hP1
    obtain ⟨hP, hD⟩ := va_join (wr := []) (w1 := (mW h0 kB kI kZ q g F)) hP hD [0, 1, 2, 3, 4, 5, 6, 7, 8, 9, 10, 11, 12, 13, 14, 15, 16, 17, 18, 19, 20, 21, 22, 23, 24, 25, 26, 27, 28, 29, 30, 31, 32, 33, 34, 35, 36, 37, 38, 39, 40, 41, 42, 43, 44, 45] [] rfl rfl (by decide) (by decide) hk1 hFc hP1 hD1
    generalize H1 = H at hP hS ⊢
    have hP : va_P (dC, dI) vwCl (mW h0 kB kI kZ q g F) H := hP
    have hD : va_D A (mW h0 kB kI kZ q g F) := hD
    obtain ⟨f257, f258⟩ : ((r254.toInt = 1 → (0 : Int32).toInt ≤ p0.toInt ∧ p0.toInt ≤ (4 : Int32).toInt)) ∧ ((0 ≤ r254.toInt ∧ r254.toInt ≤ 1)) := hw
    refine lv_if_eq (tgt := 25) hx hb dX12_counted_13 (by decide) (fun c259 => ?_) (fun c259 => ?_)
    · have c259 := congrArg Int32.toInt c259
      refine lv_iconst (v := (-1)) hx hb dX12_counted_25 (by decide +kernel) ?_
      exact K 26 ls (-1) (g, F) H _ dX12_counted_26 trivial hP hD hS
    · have c259 := z_ne c259
      refine lv_aload_n hx hb dX12_counted_16 rfl (lv_at hl 0 rfl) ?_
      refine va_get (D := (dC, dI)) (ci := 12) (v := .ref (q 63)) (C := RX12) (T := TX12) (N := 71) hx hb hts (fun _ h => List.mem_append_right _ h) hown hK hP 0 rfl rfl 63 (by decide) (hts (.fieldLink RX12 137 "SpellTurnerModel" "counts" "[I") (List.mem_of_getElem? (i := 5) rfl)) (fun _ h9 => h9) rfl dX12_counted_17 ?_
      refine lv_iload_n hx hb dX12_counted_20 rfl (lv_at hl 1 rfl) ?_
      refine va_iald hx hb hK hP 41 1 rfl rfl (z_in (i := p0) (by omega) (by omega)) dX12_counted_21 ?_
      refine lv_topi (fun x260 ex260 => ?_)
      clear ex260
      refine lv_goto (tgt := 26) hx hb dX12_counted_22 (by decide) ?_
      exact K 26 ls x260 (g, F) H _ dX12_counted_26 trivial hP hD hS
set_option maxHeartbeats 4000000 in
set_option maxRecDepth 100000 in
theorem m_counted (l : Launch) (dC : Nat → ClassId) (dI : Nat → Nat → Nat) (sz : Nat) (h0 : Nat) (kB kI kZ : ClassId) (q : Nat → Nat) (g : Nat → Int32) (F : Nat → Nat → Int32) (p0 : Int32) (hI : MInv g F) : Met l yX12_counted vmX12_counted ({ frames := 3, cells := 0, slots := 0, locals := 82 } : Room) (va_Pc [.ref h0, .int p0] (fun U => U.heap.size = sz ∧ va_P (dC, dI) vwCl (mW h0 kB kI kZ q g F) U.heap ∧ va_K (dC, dI) vwCl (mT kB kI kZ) U ∧ va_D (fun _ => True) (mW h0 kB kI kZ q g F))) (va_Qi (fun (r : Int32) (u : ((Nat → Int32) × (Nat → Nat → Int32))) => True) (fun u t => va_P (dC, dI) vwCl (mW h0 kB kI kZ q g F) t.heap ∧ va_K (dC, dI) vwCl (mT kB kI kZ) t ∧ va_D (va_A (mW h0 kB kI kZ q g F) sz) (mW h0 kB kI kZ q g F)) (va_A (mW h0 kB kI kZ q g F) sz)) 0 0 (va_A (mW h0 kB kI kZ q g F) sz) := by
  refine Met.ofW (cc := cX12_counted) (maxL := 2) (ret := (some .int)) (by decide) rfl ?_
  intro p e s m args below meth c s₁ B hml hv
  obtain ⟨rfl, hsz, hP, hK, hD0⟩ := hv
  have hx := B.exec
  have hb := B.bytes
  have hr := B.returns
  have hts := atoms_spec (ws := vmX12_counted) B.pre
  have hown : s.vm.findClass RX12 = some m.cls := findClass_of_methodNamed B.named
  subst hsz
  have hD := hD0.self (sz := s.heap.size)
  generalize hAe : va_A (mW h0 kB kI kZ q g F) s.heap.size = A at hD ⊢
  have hA : ∀ q : Nat, s.heap.size ≤ q → A q := fun q h => by rw [← hAe]; exact Or.inr h
  have hS : va_S A s.heap s.heap [] := va_S.rf
  have hl := lv_entry ([.ref h0, .int p0]) (n := 2) (Nat.le_of_ble_eq_true rfl)
  rw [lg_entry_eq]
  generalize (lg_sl ([.ref h0, .int p0]) ++ List.replicate (2 - (lg_sl ([.ref h0, .int p0])).length) Slot.unset).toArray = ls at hl ⊢
  exact bm_counted p0 hx hb hml hown hts hA hK hI hP hD hS hl (fun pc ls r u H locs hd hw hP hD hS => W.iret (v := r) hx hb hr (fun t ht hW => ⟨⟨r, u, rfl, hw, by rw [ht]; exact hP, va_K.moved hW.alike hK, hD⟩, hS.F ht⟩) hS.2.2 hd)
set_option maxHeartbeats 4000000 in
set_option maxRecDepth 100000 in
theorem bm_line {p : Program} {l : Launch} {e : Env} {s : State} {m : MethodId} {args : Array Value} {below : List Frame} {meth : Method} {c : Code} {Q : State → Prop} {A : Nat → Prop} {dC : Nat → ClassId} {dI : Nat → Nat → Nat} {h0 : Nat} {kB kI kZ : ClassId} {q : Nat → Nat} {g : Nat → Int32} {F : Nat → Nat → Int32} {H : Heap} {locs : List Loc} {ls : Array Slot} (p0 : Int32) (hx : p.tables.exec = Jvm.exec) (hb : c.code = cX12_line) (hml : c.maxLocals = 2) (hown : s.vm.findClass RX12 = some m.cls) (hts : ∀ w ∈ vmX12_line, w.before args s = true) (hA : ∀ q : Nat, s.heap.size ≤ q → A q) (hK : va_K (dC, dI) vwCl (mT kB kI kZ) s) (hI : MInv g F) (hP : va_P (dC, dI) vwCl (mW h0 kB kI kZ q g F) H) (hD : va_D A (mW h0 kB kI kZ q g F)) (hS : va_S A s.heap H locs) (hl : lv_has ls 2 [(0, .ref h0), (1, .int p0)])
    (K : ∀ (pc : Nat) (ls : Array Slot) (r : Int32) (u : ((Nat → Int32) × (Nat → Nat → Int32))) (H : Heap) (locs : List Loc), decode cX12_line pc = .ok (.ireturn, 1) → (True) → va_P (dC, dI) vwCl (mW h0 kB kI kZ q g F) H → va_D A (mW h0 kB kI kZ q g F) → va_S A s.heap H locs → W p l e ({ frames := 3, cells := 0, slots := 0, locals := 82 } : Room) s m args below meth c H locs 0 0 Q (F0 m pc ls [.int r])) : W p l e ({ frames := 3, cells := 0, slots := 0, locals := 82 } : Room) s m args below meth c H locs 0 0 Q (F0 m 0 ls []) := by
  obtain ⟨hg1z, hg2z, hg3z, hg4z, hg5z, hg6z, hg7z, hg8z, hg9z, hg23z, hg27z, hg30z, hg34z, hg36z, hg39z, hg44z, hg47z, hg48z, hg51z, hg56z, hg59z, hg62z, hg65z, hg66z, hg70z, hF11z, hF12z, hF13z, hF15z, hF19z, hF21z, hF24z, hF25z, hF26z, hF33z, hF38z, hF41z, hF43z, hF45z, hF46z, hF50z, hF53z, hF54z⟩ := hI
  have zkm1 : (-1 : Int32).toInt = -1 := by decide +kernel
  have zk0 : (0 : Int32).toInt = 0 := by decide +kernel
  have zk1 : (1 : Int32).toInt = 1 := by decide +kernel
  refine lv_iload_n hx hb dX12_line_0 rfl (lv_at hl 1 rfl) ?_
  refine lv_iconst (v := 0) hx hb dX12_line_1 (by decide +kernel) ?_
  refine lv_aload_n hx hb dX12_line_2 rfl (lv_at hl 0 rfl) ?_
  refine va_get (D := (dC, dI)) (ci := 12) (v := .int (g 70)) (C := RX12) (T := TX12) (N := 71) hx hb hts (fun _ h => List.mem_append_right _ h) hown hK hP 0 rfl rfl 70 (by decide) (hts (.fieldLink RX12 374 "SpellTurnerModel" "lines" "I") (List.mem_of_getElem? (i := 1) rfl)) (fun _ h9 => h9) rfl dX12_line_3 ?_
  refine lv_iconst (v := 1) hx hb dX12_line_6 (by decide +kernel) ?_
  refine lv_isub hx hb dX12_line_7 ?_
  refine lv_topi (fun x261 ex261 => ?_)
  have fx261 : x261.toInt = (g 70).toInt - 1 := by have h := @z_sub (g 70) (1 : Int32) (by omega) (by omega); rw [← ex261] at h; omega
  clear ex261
  have hFc := va_free (wc := (mW h0 kB kI kZ q g F)) hD hS hA [0, 1, 2, 3, 4, 5, 6, 7, 8, 9, 10, 11, 12, 13, 14, 15, 16, 17, 18, 19, 20, 21, 22, 23, 24, 25, 26, 27, 28, 29, 30, 31, 32, 33, 34, 35, 36, 37, 38, 39, 40, 41, 42, 43, 44, 45] rfl
  refine va_calli (va_runS (As := [.int p0, .int 0, .int x261]) (rest := []) ⟨hx, hb, hml, hown, hts⟩ (m_in l dC dI H.size h0 kB kI kZ q g F p0 0 x261 ⟨hg1z, hg2z, hg3z, hg4z, hg5z, hg6z, hg7z, hg8z, hg9z, hg23z, hg27z, hg30z, hg34z, hg36z, hg39z, hg44z, hg47z, hg48z, hg51z, hg56z, hg59z, hg62z, hg65z, hg66z, hg70z, hF11z, hF12z, hF13z, hF15z, hF19z, hF21z, hF24z, hF25z, hF26z, hF33z, hF38z, hF41z, hF43z, hF45z, hF46z, hF50z, hF53z, hF54z⟩) (va_cwS 3 hts gw_X12_line_X12_in_226 rfl rfl rfl (by decide +kernel) ⟨Nat.le_of_ble_eq_true rfl, Nat.le_of_ble_eq_true rfl⟩) ⟨fun a U g mk q => by obtain ⟨q0, q1, qP, qK, qD⟩ := q; exact ⟨q0, q1, qP, va_K.moved (u := U) (U := U.calling g mk a) (Vm.Alike.refl U.vm) qK, qD⟩, fun U hU hW => ⟨rfl, by rw [hU], by rw [hU]; exact hP, va_K.moved hW.alike hK, hD.weaken (fun _ _ _ _ => trivial)⟩⟩ rfl rfl hl.1 rfl (lv_room (Nat.le_of_ble_eq_true rfl)) dX12_line_8 ⟨Nat.le_of_ble_eq_true rfl, Nat.le_of_ble_eq_true rfl⟩) hS (fun q _ h => hFc q h) hFc (fun r262 u t H1 locs ht hvm hw hB hz1 hk1 hS => ?_)
  obtain ⟨ga263, fa264⟩ := u
  obtain ⟨hP1, hK1, hD1⟩ := hB
  rw [ht] at hP1
  obtain ⟨hP, hD⟩ := va_join (wr := []) (w1 := (mW h0 kB kI kZ q g F)) hP hD [0, 1, 2, 3, 4, 5, 6, 7, 8, 9, 10, 11, 12, 13, 14, 15, 16, 17, 18, 19, 20, 21, 22, 23, 24, 25, 26, 27, 28, 29, 30, 31, 32, 33, 34, 35, 36, 37, 38, 39, 40, 41, 42, 43, 44, 45] [] rfl rfl (by decide) (by decide) hk1 hFc hP1 hD1
  generalize H1 = H at hP hS ⊢
  have hP : va_P (dC, dI) vwCl (mW h0 kB kI kZ q g F) H := hP
  have hD : va_D A (mW h0 kB kI kZ q g F) := hD
  obtain ⟨f265, f266⟩ : ((r262.toInt = 1 → (0 : Int32).toInt ≤ p0.toInt ∧ p0.toInt ≤ x261.toInt)) ∧ ((0 ≤ r262.toInt ∧ r262.toInt ≤ 1)) := hw
  refine lv_if_eq (tgt := 23) hx hb dX12_line_11 (by decide) (fun c267 => ?_) (fun c267 => ?_)
  · have c267 := congrArg Int32.toInt c267
    refine lv_iconst (v := (-1)) hx hb dX12_line_23 (by decide +kernel) ?_
    exact K 24 ls (-1) (g, F) H _ dX12_line_24 trivial hP hD hS
  · have c267 := z_ne c267
    refine lv_aload_n hx hb dX12_line_14 rfl (lv_at hl 0 rfl) ?_
    refine va_get (D := (dC, dI)) (ci := 12) (v := .ref (q 69)) (C := RX12) (T := TX12) (N := 71) hx hb hts (fun _ h => List.mem_append_right _ h) hown hK hP 0 rfl rfl 69 (by decide) (hts (.fieldLink RX12 149 "SpellTurnerModel" "stageOf" "[I") (List.mem_of_getElem? (i := 5) rfl)) (fun _ h9 => h9) rfl dX12_line_15 ?_
    refine lv_iload_n hx hb dX12_line_18 rfl (lv_at hl 1 rfl) ?_
    refine va_iald hx hb hK hP 45 1 rfl rfl (z_in (i := p0) (by omega) (by omega)) dX12_line_19 ?_
    refine lv_topi (fun x268 ex268 => ?_)
    clear ex268
    refine lv_goto (tgt := 24) hx hb dX12_line_20 (by decide) ?_
    exact K 24 ls x268 (g, F) H _ dX12_line_24 trivial hP hD hS
set_option maxHeartbeats 4000000 in
set_option maxRecDepth 100000 in
theorem m_line (l : Launch) (dC : Nat → ClassId) (dI : Nat → Nat → Nat) (sz : Nat) (h0 : Nat) (kB kI kZ : ClassId) (q : Nat → Nat) (g : Nat → Int32) (F : Nat → Nat → Int32) (p0 : Int32) (hI : MInv g F) : Met l yX12_line vmX12_line ({ frames := 3, cells := 0, slots := 0, locals := 82 } : Room) (va_Pc [.ref h0, .int p0] (fun U => U.heap.size = sz ∧ va_P (dC, dI) vwCl (mW h0 kB kI kZ q g F) U.heap ∧ va_K (dC, dI) vwCl (mT kB kI kZ) U ∧ va_D (fun _ => True) (mW h0 kB kI kZ q g F))) (va_Qi (fun (r : Int32) (u : ((Nat → Int32) × (Nat → Nat → Int32))) => True) (fun u t => va_P (dC, dI) vwCl (mW h0 kB kI kZ q g F) t.heap ∧ va_K (dC, dI) vwCl (mT kB kI kZ) t ∧ va_D (va_A (mW h0 kB kI kZ q g F) sz) (mW h0 kB kI kZ q g F)) (va_A (mW h0 kB kI kZ q g F) sz)) 0 0 (va_A (mW h0 kB kI kZ q g F) sz) := by
  refine Met.ofW (cc := cX12_line) (maxL := 2) (ret := (some .int)) (by decide) rfl ?_
  intro p e s m args below meth c s₁ B hml hv
  obtain ⟨rfl, hsz, hP, hK, hD0⟩ := hv
  have hx := B.exec
  have hb := B.bytes
  have hr := B.returns
  have hts := atoms_spec (ws := vmX12_line) B.pre
  have hown : s.vm.findClass RX12 = some m.cls := findClass_of_methodNamed B.named
  subst hsz
  have hD := hD0.self (sz := s.heap.size)
  generalize hAe : va_A (mW h0 kB kI kZ q g F) s.heap.size = A at hD ⊢
  have hA : ∀ q : Nat, s.heap.size ≤ q → A q := fun q h => by rw [← hAe]; exact Or.inr h
  have hS : va_S A s.heap s.heap [] := va_S.rf
  have hl := lv_entry ([.ref h0, .int p0]) (n := 2) (Nat.le_of_ble_eq_true rfl)
  rw [lg_entry_eq]
  generalize (lg_sl ([.ref h0, .int p0]) ++ List.replicate (2 - (lg_sl ([.ref h0, .int p0])).length) Slot.unset).toArray = ls at hl ⊢
  exact bm_line p0 hx hb hml hown hts hA hK hI hP hD hS hl (fun pc ls r u H locs hd hw hP hD hS => W.iret (v := r) hx hb hr (fun t ht hW => ⟨⟨r, u, rfl, hw, by rw [ht]; exact hP, va_K.moved hW.alike hK, hD⟩, hS.F ht⟩) hS.2.2 hd)
set_option maxHeartbeats 4000000 in
set_option maxRecDepth 100000 in
theorem bm_count {p : Program} {l : Launch} {e : Env} {s : State} {m : MethodId} {args : Array Value} {below : List Frame} {meth : Method} {c : Code} {Q : State → Prop} {A : Nat → Prop} {dC : Nat → ClassId} {dI : Nat → Nat → Nat} {h0 : Nat} {kB kI kZ : ClassId} {q : Nat → Nat} {g : Nat → Int32} {F : Nat → Nat → Int32} {H : Heap} {locs : List Loc} {ls : Array Slot} (p0 : Int32) (hx : p.tables.exec = Jvm.exec) (hb : c.code = cX12_count) (hml : c.maxLocals = 2) (hown : s.vm.findClass RX12 = some m.cls) (hts : ∀ w ∈ vmX12_count, w.before args s = true) (hA : ∀ q : Nat, s.heap.size ≤ q → A q) (hK : va_K (dC, dI) vwCl (mT kB kI kZ) s) (hI : MInv g F) (hP : va_P (dC, dI) vwCl (mW h0 kB kI kZ q g F) H) (hD : va_D A (mW h0 kB kI kZ q g F)) (hS : va_S A s.heap H locs) (hl : lv_has ls 2 [(0, .ref h0), (1, .int p0)])
    (K : ∀ (pc : Nat) (ls : Array Slot) (r : Int32) (u : ((Nat → Int32) × (Nat → Nat → Int32))) (H : Heap) (locs : List Loc), decode cX12_count pc = .ok (.ireturn, 1) → (True) → va_P (dC, dI) vwCl (mW h0 kB kI kZ q g F) H → va_D A (mW h0 kB kI kZ q g F) → va_S A s.heap H locs → W p l e ({ frames := 2, cells := 0, slots := 0, locals := 60 } : Room) s m args below meth c H locs 0 0 Q (F0 m pc ls [.int r])) : W p l e ({ frames := 2, cells := 0, slots := 0, locals := 60 } : Room) s m args below meth c H locs 0 0 Q (F0 m 0 ls []) := by
  obtain ⟨hg1z, hg2z, hg3z, hg4z, hg5z, hg6z, hg7z, hg8z, hg9z, hg23z, hg27z, hg30z, hg34z, hg36z, hg39z, hg44z, hg47z, hg48z, hg51z, hg56z, hg59z, hg62z, hg65z, hg66z, hg70z, hF11z, hF12z, hF13z, hF15z, hF19z, hF21z, hF24z, hF25z, hF26z, hF33z, hF38z, hF41z, hF43z, hF45z, hF46z, hF50z, hF53z, hF54z⟩ := hI
  have zkm1 : (-1 : Int32).toInt = -1 := by decide +kernel
  have zk0 : (0 : Int32).toInt = 0 := by decide +kernel
  have zk1 : (1 : Int32).toInt = 1 := by decide +kernel
  have zk2 : (2 : Int32).toInt = 2 := by decide +kernel
  refine lv_iload_n hx hb dX12_count_0 rfl (lv_at hl 1 rfl) ?_
  refine lv_if_ne (tgt := 11) hx hb dX12_count_1 (by decide) (fun c269 => ?_) (fun c269 => ?_)
  · have c269 := z_ne c269
    refine lv_iload_n hx hb dX12_count_11 rfl (lv_at hl 1 rfl) ?_
    refine lv_iconst (v := 1) hx hb dX12_count_12 (by decide +kernel) ?_
    refine lv_icmp_ne (tgt := 23) hx hb dX12_count_13 (by decide) (fun c270 => ?_) (fun c270 => ?_)
    · have c270 := z_ne c270
      refine lv_iload_n hx hb dX12_count_23 rfl (lv_at hl 1 rfl) ?_
      refine lv_iconst (v := 2) hx hb dX12_count_24 (by decide +kernel) ?_
      refine lv_icmp_ne (tgt := 35) hx hb dX12_count_25 (by decide) (fun c271 => ?_) (fun c271 => ?_)
      · have c271 := z_ne c271
        refine lv_iconst (v := (-1)) hx hb dX12_count_35 (by decide +kernel) ?_
        exact K 36 ls (-1) (g, F) H _ dX12_count_36 trivial hP hD hS
      · have c271 := congrArg Int32.toInt c271
        refine lv_aload_n hx hb dX12_count_28 rfl (lv_at hl 0 rfl) ?_
        refine va_get (D := (dC, dI)) (ci := 12) (v := .int (g 1)) (C := RX12) (T := TX12) (N := 71) hx hb hts (fun _ h => List.mem_append_right _ h) hown hK hP 0 rfl rfl 1 (by decide) (hts (.fieldLink RX12 152 "SpellTurnerModel" "taped" "I") (List.mem_of_getElem? (i := 1) rfl)) (fun _ h9 => h9) rfl dX12_count_29 ?_
        refine lv_goto (tgt := 36) hx hb dX12_count_32 (by decide) ?_
        exact K 36 ls (g 1) (g, F) H _ dX12_count_36 trivial hP hD hS
    · have c270 := congrArg Int32.toInt c270
      refine lv_aload_n hx hb dX12_count_16 rfl (lv_at hl 0 rfl) ?_
      refine va_get (D := (dC, dI)) (ci := 12) (v := .int (g 48)) (C := RX12) (T := TX12) (N := 71) hx hb hts (fun _ h => List.mem_append_right _ h) hown hK hP 0 rfl rfl 48 (by decide) (hts (.fieldLink RX12 312 "SpellTurnerModel" "words" "I") (List.mem_of_getElem? (i := 2) rfl)) (fun _ h9 => h9) rfl dX12_count_17 ?_
      refine lv_goto (tgt := 36) hx hb dX12_count_20 (by decide) ?_
      exact K 36 ls (g 48) (g, F) H _ dX12_count_36 trivial hP hD hS
  · have c269 := congrArg Int32.toInt c269
    refine lv_aload_n hx hb dX12_count_4 rfl (lv_at hl 0 rfl) ?_
    refine va_get (D := (dC, dI)) (ci := 12) (v := .int (g 9)) (C := RX12) (T := TX12) (N := 71) hx hb hts (fun _ h => List.mem_append_right _ h) hown hK hP 0 rfl rfl 9 (by decide) (hts (.fieldLink RX12 222 "SpellTurnerModel" "reforms" "I") (List.mem_of_getElem? (i := 3) rfl)) (fun _ h9 => h9) rfl dX12_count_5 ?_
    refine lv_goto (tgt := 36) hx hb dX12_count_8 (by decide) ?_
    exact K 36 ls (g 9) (g, F) H _ dX12_count_36 trivial hP hD hS
set_option maxHeartbeats 4000000 in
set_option maxRecDepth 100000 in
theorem m_count (l : Launch) (dC : Nat → ClassId) (dI : Nat → Nat → Nat) (sz : Nat) (h0 : Nat) (kB kI kZ : ClassId) (q : Nat → Nat) (g : Nat → Int32) (F : Nat → Nat → Int32) (p0 : Int32) (hI : MInv g F) : Met l yX12_count vmX12_count ({ frames := 2, cells := 0, slots := 0, locals := 60 } : Room) (va_Pc [.ref h0, .int p0] (fun U => U.heap.size = sz ∧ va_P (dC, dI) vwCl (mW h0 kB kI kZ q g F) U.heap ∧ va_K (dC, dI) vwCl (mT kB kI kZ) U ∧ va_D (fun _ => True) (mW h0 kB kI kZ q g F))) (va_Qi (fun (r : Int32) (u : ((Nat → Int32) × (Nat → Nat → Int32))) => True) (fun u t => va_P (dC, dI) vwCl (mW h0 kB kI kZ q g F) t.heap ∧ va_K (dC, dI) vwCl (mT kB kI kZ) t ∧ va_D (va_A (mW h0 kB kI kZ q g F) sz) (mW h0 kB kI kZ q g F)) (va_A (mW h0 kB kI kZ q g F) sz)) 0 0 (va_A (mW h0 kB kI kZ q g F) sz) := by
  refine Met.ofW (cc := cX12_count) (maxL := 2) (ret := (some .int)) (by decide) rfl ?_
  intro p e s m args below meth c s₁ B hml hv
  obtain ⟨rfl, hsz, hP, hK, hD0⟩ := hv
  have hx := B.exec
  have hb := B.bytes
  have hr := B.returns
  have hts := atoms_spec (ws := vmX12_count) B.pre
  have hown : s.vm.findClass RX12 = some m.cls := findClass_of_methodNamed B.named
  subst hsz
  have hD := hD0.self (sz := s.heap.size)
  generalize hAe : va_A (mW h0 kB kI kZ q g F) s.heap.size = A at hD ⊢
  have hA : ∀ q : Nat, s.heap.size ≤ q → A q := fun q h => by rw [← hAe]; exact Or.inr h
  have hS : va_S A s.heap s.heap [] := va_S.rf
  have hl := lv_entry ([.ref h0, .int p0]) (n := 2) (Nat.le_of_ble_eq_true rfl)
  rw [lg_entry_eq]
  generalize (lg_sl ([.ref h0, .int p0]) ++ List.replicate (2 - (lg_sl ([.ref h0, .int p0])).length) Slot.unset).toArray = ls at hl ⊢
  exact bm_count p0 hx hb hml hown hts hA hK hI hP hD hS hl (fun pc ls r u H locs hd hw hP hD hS => W.iret (v := r) hx hb hr (fun t ht hW => ⟨⟨r, u, rfl, hw, by rw [ht]; exact hP, va_K.moved hW.alike hK, hD⟩, hS.F ht⟩) hS.2.2 hd)
set_option maxHeartbeats 4000000 in
set_option maxRecDepth 100000 in
theorem bm_isName {p : Program} {l : Launch} {e : Env} {s : State} {m : MethodId} {args : Array Value} {below : List Frame} {meth : Method} {c : Code} {Q : State → Prop} {A : Nat → Prop} {dC : Nat → ClassId} {dI : Nat → Nat → Nat} {h0 : Nat} {kB kI kZ : ClassId} {q : Nat → Nat} {g : Nat → Int32} {F : Nat → Nat → Int32} {H : Heap} {locs : List Loc} {ls : Array Slot} (p0 : Int32) (p1 : Int32) (hx : p.tables.exec = Jvm.exec) (hb : c.code = cX12_isName) (hml : c.maxLocals = 4) (hown : s.vm.findClass RX12 = some m.cls) (hts : ∀ w ∈ vmX12_isName, w.before args s = true) (hA : ∀ q : Nat, s.heap.size ≤ q → A q) (hK : va_K (dC, dI) vwCl (mT kB kI kZ) s) (hI : MInv g F) (hq0 : 0 ≤ p0.toInt) (hq1 : p1.toInt ≤ 2000) (hP : va_P (dC, dI) vwCl (mW h0 kB kI kZ q g F) H) (hD : va_D A (mW h0 kB kI kZ q g F)) (hS : va_S A s.heap H locs) (hl : lv_has ls 4 [(0, .ref h0), (1, .int p0), (2, .int p1)])
    (K : ∀ (pc : Nat) (ls : Array Slot) (r : Int32) (u : ((Nat → Int32) × (Nat → Nat → Int32))) (H : Heap) (locs : List Loc), decode cX12_isName pc = .ok (.ireturn, 1) → (((0 ≤ r.toInt ∧ r.toInt ≤ 1))) → va_P (dC, dI) vwCl (mW h0 kB kI kZ q g F) H → va_D A (mW h0 kB kI kZ q g F) → va_S A s.heap H locs → W p l e ({ frames := 3, cells := 0, slots := 0, locals := 80 } : Room) s m args below meth c H locs 0 0 Q (F0 m pc ls [.int r])) : W p l e ({ frames := 3, cells := 0, slots := 0, locals := 80 } : Room) s m args below meth c H locs 0 0 Q (F0 m 0 ls []) := by
  obtain ⟨hg1z, hg2z, hg3z, hg4z, hg5z, hg6z, hg7z, hg8z, hg9z, hg23z, hg27z, hg30z, hg34z, hg36z, hg39z, hg44z, hg47z, hg48z, hg51z, hg56z, hg59z, hg62z, hg65z, hg66z, hg70z, hF11z, hF12z, hF13z, hF15z, hF19z, hF21z, hF24z, hF25z, hF26z, hF33z, hF38z, hF41z, hF43z, hF45z, hF46z, hF50z, hF53z, hF54z⟩ := hI
  have zk0 : (0 : Int32).toInt = 0 := by decide +kernel
  have zk1 : (1 : Int32).toInt = 1 := by decide +kernel
  refine lv_iload_n hx hb dX12_isName_0 rfl (lv_at hl 1 rfl) ?_
  refine lv_istore_n (lv' := [(3, .int p0), (0, .ref h0), (1, .int p0), (2, .int p1)]) hx hb dX12_isName_1 rfl hl (by decide) rfl (fun ls hl => ?_)
  have lp2 : ∀ (n2 : Nat) (x272 : Int32) (gl273 : Nat → Int32) (fl274 : Nat → Nat → Int32) (H : Heap) (locs : List Loc) (ls : Array Slot), (2000 - x272.toInt).toNat < n2 → 0 ≤ x272.toInt → va_P (dC, dI) vwCl (mW h0 kB kI kZ q g F) H → va_D A (mW h0 kB kI kZ q g F) → va_S A s.heap H locs → lv_has ls 4 [(3, .int x272), (0, .ref h0), (1, .int p0), (2, .int p1)] → W p l e ({ frames := 3, cells := 0, slots := 0, locals := 80 } : Room) s m args below meth c H locs 0 0 Q (F0 m 2 ls []) := by
    intro n2
    induction n2 with
    | zero => intro x272 gl273 fl274 H locs ls hm; exact absurd hm (Nat.not_lt_zero _)
    | succ n2 ih2 =>
      intro x272 gl273 fl274 H locs ls hm2 f275 hP hD hS hl
      refine lv_iload_n hx hb dX12_isName_2 rfl (lv_at hl 0 rfl) ?_
      refine lv_iload_n hx hb dX12_isName_3 rfl (lv_at hl 3 rfl) ?_
      refine lv_icmp_ge (tgt := 27) hx hb dX12_isName_4 (by decide) (fun c276 => ?_) (fun c276 => ?_)
      · have c276 := (z_le _ _).mp c276
        refine lv_iconst (v := 0) hx hb dX12_isName_27 (by decide +kernel) ?_
        exact K 28 ls 0 (g, F) H _ dX12_isName_28 (show (0 ≤ (0 : Int32).toInt ∧ (0 : Int32).toInt ≤ 1) from by omega) hP hD hS
      · have c276 := z_nle c276
        refine lv_aload_n hx hb dX12_isName_7 rfl (lv_at hl 1 rfl) ?_
        refine va_get (D := (dC, dI)) (ci := 12) (v := .ref (q 0)) (C := RX12) (T := TX12) (N := 71) hx hb hts (fun _ h => List.mem_append_right _ h) hown hK hP 0 rfl rfl 0 (by decide) (hts (.fieldLink RX12 7 "SpellTurnerModel" "tape" "[B") (List.mem_of_getElem? (i := 1) rfl)) (fun _ h9 => h9) rfl dX12_isName_8 ?_
        refine lv_iload_n hx hb dX12_isName_11 rfl (lv_at hl 0 rfl) ?_
        refine va_bald hx hb hK hP 1 0 rfl rfl (z_in (i := x272) (by omega) (by omega)) dX12_isName_12 ?_
        refine lv_topi (fun x277 ex277 => ?_)
        clear ex277
        have hFc := va_free (wc := (mW h0 kB kI kZ q g F)) hD hS hA [0, 1, 2, 3, 4, 5, 6, 7, 8, 9, 10, 11, 12, 13, 14, 15, 16, 17, 18, 19, 20, 21, 22, 23, 24, 25, 26, 27, 28, 29, 30, 31, 32, 33, 34, 35, 36, 37, 38, 39, 40, 41, 42, 43, 44, 45] rfl
        refine va_calli (va_runS (As := [.int x277]) (rest := []) ⟨hx, hb, hml, hown, hts⟩ (m_isSmall l dC dI H.size h0 kB kI kZ q g F x277 ⟨hg1z, hg2z, hg3z, hg4z, hg5z, hg6z, hg7z, hg8z, hg9z, hg23z, hg27z, hg30z, hg34z, hg36z, hg39z, hg44z, hg47z, hg48z, hg51z, hg56z, hg59z, hg62z, hg65z, hg66z, hg70z, hF11z, hF12z, hF13z, hF15z, hF19z, hF21z, hF24z, hF25z, hF26z, hF33z, hF38z, hF41z, hF43z, hF45z, hF46z, hF50z, hF53z, hF54z⟩) (va_cwS 1 hts gw_X12_isName_X12_isSmall_183 rfl rfl rfl (by decide +kernel) ⟨Nat.le_of_ble_eq_true rfl, Nat.le_of_ble_eq_true rfl⟩) ⟨fun a U g mk q => by obtain ⟨q0, q1, qP, qK, qD⟩ := q; exact ⟨q0, q1, qP, va_K.moved (u := U) (U := U.calling g mk a) (Vm.Alike.refl U.vm) qK, qD⟩, fun U hU hW => ⟨rfl, by rw [hU], by rw [hU]; exact hP, va_K.moved hW.alike hK, hD.weaken (fun _ _ _ _ => trivial)⟩⟩ rfl rfl hl.1 rfl (lv_room (Nat.le_of_ble_eq_true rfl)) dX12_isName_13 ⟨Nat.le_of_ble_eq_true rfl, Nat.le_of_ble_eq_true rfl⟩) hS (fun q _ h => hFc q h) hFc (fun r278 u t H1 locs ht hvm hw hB hz1 hk1 hS => ?_)
        obtain ⟨ga279, fa280⟩ := u
        obtain ⟨hP1, hK1, hD1⟩ := hB
        rw [ht] at hP1
        obtain ⟨hP, hD⟩ := va_join (wr := []) (w1 := (mW h0 kB kI kZ q g F)) hP hD [0, 1, 2, 3, 4, 5, 6, 7, 8, 9, 10, 11, 12, 13, 14, 15, 16, 17, 18, 19, 20, 21, 22, 23, 24, 25, 26, 27, 28, 29, 30, 31, 32, 33, 34, 35, 36, 37, 38, 39, 40, 41, 42, 43, 44, 45] [] rfl rfl (by decide) (by decide) hk1 hFc hP1 hD1
        generalize H1 = H at hP hS ⊢
        have hP : va_P (dC, dI) vwCl (mW h0 kB kI kZ q g F) H := hP
        have hD : va_D A (mW h0 kB kI kZ q g F) := hD
        have f281 : (0 ≤ r278.toInt ∧ r278.toInt ≤ 1) := hw
        refine lv_if_ne (tgt := 21) hx hb dX12_isName_16 (by decide) (fun c282 => ?_) (fun c282 => ?_)
        · have c282 := z_ne c282
          obtain ⟨x283, ex283⟩ : ∃ y : Int32, y = x272 + 1 := ⟨_, rfl⟩
          have fx283 : x283.toInt = x272.toInt + (1) := by rw [ex283, z_add (by omega) (by omega)]; omega
          refine lv_iinc (v := x283) (lv' := [(3, .int x283), (0, .ref h0), (1, .int p0), (2, .int p1)]) hx hb dX12_isName_21 hl (k := 0) rfl (by rw [ex283]; rfl) (by decide) rfl (fun ls hl => ?_)
          clear ex283
          refine lv_goto (tgt := 2) hx hb dX12_isName_24 (by decide) ?_
          exact ih2 x283 g F H _ ls (show (2000 - x283.toInt).toNat < n2 from by omega) (show 0 ≤ x283.toInt from by omega) hP hD hS (lv_sub hl [0, 1, 2, 3] rfl)
        · have c282 := congrArg Int32.toInt c282
          refine lv_iconst (v := 1) hx hb dX12_isName_19 (by decide +kernel) ?_
          exact K 20 ls 1 (g, F) H _ dX12_isName_20 (show (0 ≤ (1 : Int32).toInt ∧ (1 : Int32).toInt ≤ 1) from by omega) hP hD hS
  exact lp2 ((2000 - p0.toInt).toNat + 1) p0 g F H _ ls (Nat.lt_succ_self _) (show 0 ≤ p0.toInt from by omega) hP hD hS (lv_sub hl [0, 1, 2, 3] rfl)
set_option maxHeartbeats 4000000 in
set_option maxRecDepth 100000 in
theorem m_isName (l : Launch) (dC : Nat → ClassId) (dI : Nat → Nat → Nat) (sz : Nat) (h0 : Nat) (kB kI kZ : ClassId) (q : Nat → Nat) (g : Nat → Int32) (F : Nat → Nat → Int32) (p0 : Int32) (p1 : Int32) (hI : MInv g F) (hq0 : 0 ≤ p0.toInt) (hq1 : p1.toInt ≤ 2000) : Met l yX12_isName vmX12_isName ({ frames := 3, cells := 0, slots := 0, locals := 80 } : Room) (va_Pc [.ref h0, .int p0, .int p1] (fun U => U.heap.size = sz ∧ va_P (dC, dI) vwCl (mW h0 kB kI kZ q g F) U.heap ∧ va_K (dC, dI) vwCl (mT kB kI kZ) U ∧ va_D (fun _ => True) (mW h0 kB kI kZ q g F))) (va_Qi (fun (r : Int32) (u : ((Nat → Int32) × (Nat → Nat → Int32))) => ((0 ≤ r.toInt ∧ r.toInt ≤ 1))) (fun u t => va_P (dC, dI) vwCl (mW h0 kB kI kZ q g F) t.heap ∧ va_K (dC, dI) vwCl (mT kB kI kZ) t ∧ va_D (va_A (mW h0 kB kI kZ q g F) sz) (mW h0 kB kI kZ q g F)) (va_A (mW h0 kB kI kZ q g F) sz)) 0 0 (va_A (mW h0 kB kI kZ q g F) sz) := by
  refine Met.ofW (cc := cX12_isName) (maxL := 4) (ret := (some .boolean)) (by decide) rfl ?_
  intro p e s m args below meth c s₁ B hml hv
  obtain ⟨rfl, hsz, hP, hK, hD0⟩ := hv
  have hx := B.exec
  have hb := B.bytes
  have hr := B.returns
  have hts := atoms_spec (ws := vmX12_isName) B.pre
  have hown : s.vm.findClass RX12 = some m.cls := findClass_of_methodNamed B.named
  subst hsz
  have hD := hD0.self (sz := s.heap.size)
  generalize hAe : va_A (mW h0 kB kI kZ q g F) s.heap.size = A at hD ⊢
  have hA : ∀ q : Nat, s.heap.size ≤ q → A q := fun q h => by rw [← hAe]; exact Or.inr h
  have hS : va_S A s.heap s.heap [] := va_S.rf
  have hl := lv_entry ([.ref h0, .int p0, .int p1]) (n := 4) (Nat.le_of_ble_eq_true rfl)
  rw [lg_entry_eq]
  generalize (lg_sl ([.ref h0, .int p0, .int p1]) ++ List.replicate (4 - (lg_sl ([.ref h0, .int p0, .int p1])).length) Slot.unset).toArray = ls at hl ⊢
  exact bm_isName p0 p1 hx hb hml hown hts hA hK hI hq0 hq1 hP hD hS hl (fun pc ls r u H locs hd hw hP hD hS => W.zret (v := r) hx hb hr (z_nb (by have := hw; omega)) (fun t ht hW => ⟨⟨r, u, rfl, hw, by rw [ht]; exact hP, va_K.moved hW.alike hK, hD⟩, hS.F ht⟩) hS.2.2 hd)
set_option maxHeartbeats 4000000 in
set_option maxRecDepth 100000 in
theorem bm_quoted {p : Program} {l : Launch} {e : Env} {s : State} {m : MethodId} {args : Array Value} {below : List Frame} {meth : Method} {c : Code} {Q : State → Prop} {A : Nat → Prop} {dC : Nat → ClassId} {dI : Nat → Nat → Nat} {h0 : Nat} {kB kI kZ : ClassId} {q : Nat → Nat} {g : Nat → Int32} {F : Nat → Nat → Int32} {H : Heap} {locs : List Loc} {ls : Array Slot} (p0 : Int32) (p1 : Int32) (hx : p.tables.exec = Jvm.exec) (hb : c.code = cX12_quoted) (hml : c.maxLocals = 4) (hown : s.vm.findClass RX12 = some m.cls) (hts : ∀ w ∈ vmX12_quoted, w.before args s = true) (hA : ∀ q : Nat, s.heap.size ≤ q → A q) (hK : va_K (dC, dI) vwCl (mT kB kI kZ) s) (hI : MInv g F) (hq0 : 0 ≤ p0.toInt) (hq1 : p0.toInt < p1.toInt) (hq2 : p1.toInt ≤ 2000) (hP : va_P (dC, dI) vwCl (mW h0 kB kI kZ q g F) H) (hD : va_D A (mW h0 kB kI kZ q g F)) (hS : va_S A s.heap H locs) (hl : lv_has ls 4 [(0, .ref h0), (1, .int p0), (2, .int p1)])
    (K : ∀ (pc : Nat) (ls : Array Slot) (r : Int32) (u : ((Nat → Int32) × (Nat → Nat → Int32))) (H : Heap) (locs : List Loc), decode cX12_quoted pc = .ok (.ireturn, 1) → (((p0.toInt < r.toInt ∧ r.toInt ≤ p1.toInt))) → va_P (dC, dI) vwCl (mW h0 kB kI kZ q g F) H → va_D A (mW h0 kB kI kZ q g F) → va_S A s.heap H locs → W p l e ({ frames := 2, cells := 0, slots := 0, locals := 60 } : Room) s m args below meth c H locs 0 0 Q (F0 m pc ls [.int r])) : W p l e ({ frames := 2, cells := 0, slots := 0, locals := 60 } : Room) s m args below meth c H locs 0 0 Q (F0 m 0 ls []) := by
  obtain ⟨hg1z, hg2z, hg3z, hg4z, hg5z, hg6z, hg7z, hg8z, hg9z, hg23z, hg27z, hg30z, hg34z, hg36z, hg39z, hg44z, hg47z, hg48z, hg51z, hg56z, hg59z, hg62z, hg65z, hg66z, hg70z, hF11z, hF12z, hF13z, hF15z, hF19z, hF21z, hF24z, hF25z, hF26z, hF33z, hF38z, hF41z, hF43z, hF45z, hF46z, hF50z, hF53z, hF54z⟩ := hI
  have zk1 : (1 : Int32).toInt = 1 := by decide +kernel
  have zk34 : (34 : Int32).toInt = 34 := by decide +kernel
  refine lv_iload_n hx hb dX12_quoted_0 rfl (lv_at hl 1 rfl) ?_
  refine lv_iconst (v := 1) hx hb dX12_quoted_1 (by decide +kernel) ?_
  refine lv_iadd hx hb dX12_quoted_2 ?_
  refine lv_topi (fun x284 ex284 => ?_)
  have fx284 : x284.toInt = p0.toInt + 1 := by have h := @z_add p0 (1 : Int32) (by omega) (by omega); rw [← ex284] at h; omega
  clear ex284
  refine lv_istore_n (lv' := [(3, .int x284), (0, .ref h0), (1, .int p0), (2, .int p1)]) hx hb dX12_quoted_3 rfl hl (by decide) rfl (fun ls hl => ?_)
  have lp4 : ∀ (n4 : Nat) (x285 : Int32) (gl286 : Nat → Int32) (fl287 : Nat → Nat → Int32) (H : Heap) (locs : List Loc) (ls : Array Slot), (2000 - x285.toInt).toNat < n4 → (p0.toInt + 1 ≤ x285.toInt ∧ x285.toInt ≤ p1.toInt) → va_P (dC, dI) vwCl (mW h0 kB kI kZ q g F) H → va_D A (mW h0 kB kI kZ q g F) → va_S A s.heap H locs → lv_has ls 4 [(3, .int x285), (0, .ref h0), (1, .int p0), (2, .int p1)] → W p l e ({ frames := 2, cells := 0, slots := 0, locals := 60 } : Room) s m args below meth c H locs 0 0 Q (F0 m 4 ls []) := by
    intro n4
    induction n4 with
    | zero => intro x285 gl286 fl287 H locs ls hm; exact absurd hm (Nat.not_lt_zero _)
    | succ n4 ih4 =>
      intro x285 gl286 fl287 H locs ls hm4 f288 hP hD hS hl
      refine lv_iload_n hx hb dX12_quoted_4 rfl (lv_at hl 0 rfl) ?_
      refine lv_iload_n hx hb dX12_quoted_5 rfl (lv_at hl 3 rfl) ?_
      refine lv_icmp_ge (tgt := 26) hx hb dX12_quoted_6 (by decide) (fun c289 => ?_) (fun c289 => ?_)
      · have c289 := (z_le _ _).mp c289
        refine lv_iload_n hx hb dX12_quoted_26 rfl (lv_at hl 0 rfl) ?_
        refine lv_iload_n hx hb dX12_quoted_27 rfl (lv_at hl 3 rfl) ?_
        refine lv_icmp_ge (tgt := 37) hx hb dX12_quoted_28 (by decide) (fun c290 => ?_) (fun c290 => ?_)
        · have c290 := (z_le _ _).mp c290
          refine lv_iload_n hx hb dX12_quoted_37 rfl (lv_at hl 3 rfl) ?_
          exact K 38 ls p1 (g, F) H _ dX12_quoted_38 (show (p0.toInt < p1.toInt ∧ p1.toInt ≤ p1.toInt) from by omega) hP hD hS
        · have c290 := z_nle c290
          refine lv_iload_n hx hb dX12_quoted_31 rfl (lv_at hl 0 rfl) ?_
          refine lv_iconst (v := 1) hx hb dX12_quoted_32 (by decide +kernel) ?_
          refine lv_iadd hx hb dX12_quoted_33 ?_
          refine lv_topi (fun x291 ex291 => ?_)
          have fx291 : x291.toInt = x285.toInt + 1 := by have h := @z_add x285 (1 : Int32) (by omega) (by omega); rw [← ex291] at h; omega
          clear ex291
          refine lv_goto (tgt := 38) hx hb dX12_quoted_34 (by decide) ?_
          exact K 38 ls x291 (g, F) H _ dX12_quoted_38 (show (p0.toInt < x291.toInt ∧ x291.toInt ≤ p1.toInt) from by omega) hP hD hS
      · have c289 := z_nle c289
        refine lv_aload_n hx hb dX12_quoted_9 rfl (lv_at hl 1 rfl) ?_
        refine va_get (D := (dC, dI)) (ci := 12) (v := .ref (q 0)) (C := RX12) (T := TX12) (N := 71) hx hb hts (fun _ h => List.mem_append_right _ h) hown hK hP 0 rfl rfl 0 (by decide) (hts (.fieldLink RX12 7 "SpellTurnerModel" "tape" "[B") (List.mem_of_getElem? (i := 1) rfl)) (fun _ h9 => h9) rfl dX12_quoted_10 ?_
        refine lv_iload_n hx hb dX12_quoted_13 rfl (lv_at hl 0 rfl) ?_
        refine va_bald hx hb hK hP 1 0 rfl rfl (z_in (i := x285) (by omega) (by omega)) dX12_quoted_14 ?_
        refine lv_topi (fun x292 ex292 => ?_)
        clear ex292
        refine lv_bipush (v := 34) hx hb dX12_quoted_15 (by decide +kernel) ?_
        refine lv_icmp_eq (tgt := 26) hx hb dX12_quoted_17 (by decide) (fun c293 => ?_) (fun c293 => ?_)
        · have c293 := congrArg Int32.toInt c293
          refine lv_iload_n hx hb dX12_quoted_26 rfl (lv_at hl 0 rfl) ?_
          refine lv_iload_n hx hb dX12_quoted_27 rfl (lv_at hl 3 rfl) ?_
          refine lv_icmp_ge (tgt := 37) hx hb dX12_quoted_28 (by decide) (fun c294 => ?_) (fun c294 => ?_)
          · have c294 := (z_le _ _).mp c294
            refine lv_iload_n hx hb dX12_quoted_37 rfl (lv_at hl 3 rfl) ?_
            exact K 38 ls p1 (g, F) H _ dX12_quoted_38 (show (p0.toInt < p1.toInt ∧ p1.toInt ≤ p1.toInt) from by omega) hP hD hS
          · have c294 := z_nle c294
            refine lv_iload_n hx hb dX12_quoted_31 rfl (lv_at hl 0 rfl) ?_
            refine lv_iconst (v := 1) hx hb dX12_quoted_32 (by decide +kernel) ?_
            refine lv_iadd hx hb dX12_quoted_33 ?_
            refine lv_topi (fun x295 ex295 => ?_)
            have fx295 : x295.toInt = x285.toInt + 1 := by have h := @z_add x285 (1 : Int32) (by omega) (by omega); rw [← ex295] at h; omega
            clear ex295
            refine lv_goto (tgt := 38) hx hb dX12_quoted_34 (by decide) ?_
            exact K 38 ls x295 (g, F) H _ dX12_quoted_38 (show (p0.toInt < x295.toInt ∧ x295.toInt ≤ p1.toInt) from by omega) hP hD hS
        · have c293 := z_ne c293
          obtain ⟨x296, ex296⟩ : ∃ y : Int32, y = x285 + 1 := ⟨_, rfl⟩
          have fx296 : x296.toInt = x285.toInt + (1) := by rw [ex296, z_add (by omega) (by omega)]; omega
          refine lv_iinc (v := x296) (lv' := [(3, .int x296), (0, .ref h0), (1, .int p0), (2, .int p1)]) hx hb dX12_quoted_20 hl (k := 0) rfl (by rw [ex296]; rfl) (by decide) rfl (fun ls hl => ?_)
          clear ex296
          refine lv_goto (tgt := 4) hx hb dX12_quoted_23 (by decide) ?_
          exact ih4 x296 g F H _ ls (show (2000 - x296.toInt).toNat < n4 from by omega) (show (p0.toInt + 1 ≤ x296.toInt ∧ x296.toInt ≤ p1.toInt) from by omega) hP hD hS (lv_sub hl [0, 1, 2, 3] rfl)
  exact lp4 ((2000 - x284.toInt).toNat + 1) x284 g F H _ ls (Nat.lt_succ_self _) (show (p0.toInt + 1 ≤ x284.toInt ∧ x284.toInt ≤ p1.toInt) from by omega) hP hD hS (lv_sub hl [0, 1, 2, 3] rfl)
set_option maxHeartbeats 4000000 in
set_option maxRecDepth 100000 in
theorem m_quoted (l : Launch) (dC : Nat → ClassId) (dI : Nat → Nat → Nat) (sz : Nat) (h0 : Nat) (kB kI kZ : ClassId) (q : Nat → Nat) (g : Nat → Int32) (F : Nat → Nat → Int32) (p0 : Int32) (p1 : Int32) (hI : MInv g F) (hq0 : 0 ≤ p0.toInt) (hq1 : p0.toInt < p1.toInt) (hq2 : p1.toInt ≤ 2000) : Met l yX12_quoted vmX12_quoted ({ frames := 2, cells := 0, slots := 0, locals := 60 } : Room) (va_Pc [.ref h0, .int p0, .int p1] (fun U => U.heap.size = sz ∧ va_P (dC, dI) vwCl (mW h0 kB kI kZ q g F) U.heap ∧ va_K (dC, dI) vwCl (mT kB kI kZ) U ∧ va_D (fun _ => True) (mW h0 kB kI kZ q g F))) (va_Qi (fun (r : Int32) (u : ((Nat → Int32) × (Nat → Nat → Int32))) => ((p0.toInt < r.toInt ∧ r.toInt ≤ p1.toInt))) (fun u t => va_P (dC, dI) vwCl (mW h0 kB kI kZ q g F) t.heap ∧ va_K (dC, dI) vwCl (mT kB kI kZ) t ∧ va_D (va_A (mW h0 kB kI kZ q g F) sz) (mW h0 kB kI kZ q g F)) (va_A (mW h0 kB kI kZ q g F) sz)) 0 0 (va_A (mW h0 kB kI kZ q g F) sz) := by
  refine Met.ofW (cc := cX12_quoted) (maxL := 4) (ret := (some .int)) (by decide) rfl ?_
  intro p e s m args below meth c s₁ B hml hv
  obtain ⟨rfl, hsz, hP, hK, hD0⟩ := hv
  have hx := B.exec
  have hb := B.bytes
  have hr := B.returns
  have hts := atoms_spec (ws := vmX12_quoted) B.pre
  have hown : s.vm.findClass RX12 = some m.cls := findClass_of_methodNamed B.named
  subst hsz
  have hD := hD0.self (sz := s.heap.size)
  generalize hAe : va_A (mW h0 kB kI kZ q g F) s.heap.size = A at hD ⊢
  have hA : ∀ q : Nat, s.heap.size ≤ q → A q := fun q h => by rw [← hAe]; exact Or.inr h
  have hS : va_S A s.heap s.heap [] := va_S.rf
  have hl := lv_entry ([.ref h0, .int p0, .int p1]) (n := 4) (Nat.le_of_ble_eq_true rfl)
  rw [lg_entry_eq]
  generalize (lg_sl ([.ref h0, .int p0, .int p1]) ++ List.replicate (4 - (lg_sl ([.ref h0, .int p0, .int p1])).length) Slot.unset).toArray = ls at hl ⊢
  exact bm_quoted p0 p1 hx hb hml hown hts hA hK hI hq0 hq1 hq2 hP hD hS hl (fun pc ls r u H locs hd hw hP hD hS => W.iret (v := r) hx hb hr (fun t ht hW => ⟨⟨r, u, rfl, hw, by rw [ht]; exact hP, va_K.moved hW.alike hK, hD⟩, hS.F ht⟩) hS.2.2 hd)
set_option maxHeartbeats 4000000 in
set_option maxRecDepth 100000 in
theorem bm_isWordPart {p : Program} {l : Launch} {e : Env} {s : State} {m : MethodId} {args : Array Value} {below : List Frame} {meth : Method} {c : Code} {Q : State → Prop} {A : Nat → Prop} {dC : Nat → ClassId} {dI : Nat → Nat → Nat} {h0 : Nat} {kB kI kZ : ClassId} {q : Nat → Nat} {g : Nat → Int32} {F : Nat → Nat → Int32} {H : Heap} {locs : List Loc} {ls : Array Slot} (p0 : Int32) (p1 : Int32) (p2 : Int32) (hx : p.tables.exec = Jvm.exec) (hb : c.code = cX12_isWordPart) (hml : c.maxLocals = 7) (hown : s.vm.findClass RX12 = some m.cls) (hts : ∀ w ∈ vmX12_isWordPart, w.before args s = true) (hA : ∀ q : Nat, s.heap.size ≤ q → A q) (hK : va_K (dC, dI) vwCl (mT kB kI kZ) s) (hI : MInv g F) (hq0 : (0 ≤ p0.toInt ∧ p0.toInt ≤ 6)) (hq1 : (0 ≤ p1.toInt ∧ p1.toInt + p2.toInt ≤ 24 ∧ p2.toInt ≤ 16)) (hP : va_P (dC, dI) vwCl (mW h0 kB kI kZ q g F) H) (hD : va_D A (mW h0 kB kI kZ q g F)) (hS : va_S A s.heap H locs) (hl : lv_has ls 7 [(0, .ref h0), (1, .int p0), (2, .int p1), (3, .int p2)])
    (K : ∀ (pc : Nat) (ls : Array Slot) (r : Int32) (u : ((Nat → Int32) × (Nat → Nat → Int32))) (H : Heap) (locs : List Loc), decode cX12_isWordPart pc = .ok (.ireturn, 1) → (((0 ≤ r.toInt ∧ r.toInt ≤ 1))) → va_P (dC, dI) vwCl (mW h0 kB kI kZ q g F) H → va_D A (mW h0 kB kI kZ q g F) → va_S A s.heap H locs → W p l e ({ frames := 2, cells := 0, slots := 0, locals := 60 } : Room) s m args below meth c H locs 0 0 Q (F0 m pc ls [.int r])) : W p l e ({ frames := 2, cells := 0, slots := 0, locals := 60 } : Room) s m args below meth c H locs 0 0 Q (F0 m 0 ls []) := by
  obtain ⟨hg1z, hg2z, hg3z, hg4z, hg5z, hg6z, hg7z, hg8z, hg9z, hg23z, hg27z, hg30z, hg34z, hg36z, hg39z, hg44z, hg47z, hg48z, hg51z, hg56z, hg59z, hg62z, hg65z, hg66z, hg70z, hF11z, hF12z, hF13z, hF15z, hF19z, hF21z, hF24z, hF25z, hF26z, hF33z, hF38z, hF41z, hF43z, hF45z, hF46z, hF50z, hF53z, hF54z⟩ := hI
  have zk0 : (0 : Int32).toInt = 0 := by decide +kernel
  have zk1 : (1 : Int32).toInt = 1 := by decide +kernel
  have zk16 : (16 : Int32).toInt = 16 := by decide +kernel
  have zk40 : (40 : Int32).toInt = 40 := by decide +kernel
  refine lv_bipush (v := 40) hx hb dX12_isWordPart_0 (by decide +kernel) ?_
  refine lv_iload_n hx hb dX12_isWordPart_2 rfl (lv_at hl 1 rfl) ?_
  refine lv_imul hx hb dX12_isWordPart_3 ?_
  refine lv_topi (fun x297 ex297 => ?_)
  have fx297 : x297.toInt = 40 * p0.toInt := by rw [ex297, z_mul (by simp only [zk40]; omega) (by simp only [zk40]; omega)]; simp only [zk40]
  clear ex297
  refine lv_istore (lv' := [(4, .int x297), (0, .ref h0), (1, .int p0), (2, .int p1), (3, .int p2)]) hx hb dX12_isWordPart_4 hl (by decide) rfl (fun ls hl => ?_)
  have lp6 : ∀ (n6 : Nat) (x298 : Int32) (gl299 : Nat → Int32) (fl300 : Nat → Nat → Int32) (H : Heap) (locs : List Loc) (ls : Array Slot), (40 * p0.toInt + 40 - x298.toInt).toNat < n6 → (40 * p0.toInt ≤ x298.toInt ∧ x298.toInt ≤ 40 * p0.toInt + 40) → va_P (dC, dI) vwCl (mW h0 kB kI kZ q g F) H → va_D A (mW h0 kB kI kZ q g F) → va_S A s.heap H locs → lv_has ls 7 [(4, .int x298), (0, .ref h0), (1, .int p0), (2, .int p1), (3, .int p2)] → W p l e ({ frames := 2, cells := 0, slots := 0, locals := 60 } : Room) s m args below meth c H locs 0 0 Q (F0 m 6 ls []) := by
    intro n6
    induction n6 with
    | zero => intro x298 gl299 fl300 H locs ls hm; exact absurd hm (Nat.not_lt_zero _)
    | succ n6 ih6 =>
      intro x298 gl299 fl300 H locs ls hm6 f301 hP hD hS hl
      refine lv_iload hx hb dX12_isWordPart_6 (lv_at hl 0 rfl) ?_
      refine lv_bipush (v := 40) hx hb dX12_isWordPart_8 (by decide +kernel) ?_
      refine lv_iload_n hx hb dX12_isWordPart_10 rfl (lv_at hl 2 rfl) ?_
      refine lv_imul hx hb dX12_isWordPart_11 ?_
      refine lv_topi (fun x302 ex302 => ?_)
      have fx302 : x302.toInt = 40 * p0.toInt := by rw [ex302, z_mul (by simp only [zk40]; omega) (by simp only [zk40]; omega)]; simp only [zk40]
      clear ex302
      refine lv_aload_n hx hb dX12_isWordPart_12 rfl (lv_at hl 1 rfl) ?_
      refine va_get (D := (dC, dI)) (ci := 12) (v := .ref (q 12)) (C := RX12) (T := TX12) (N := 71) hx hb hts (fun _ h => List.mem_append_right _ h) hown hK hP 0 rfl rfl 12 (by decide) (hts (.fieldLink RX12 24 "SpellTurnerModel" "parts" "[I") (List.mem_of_getElem? (i := 1) rfl)) (fun _ h9 => h9) rfl dX12_isWordPart_13 ?_
      refine lv_iload_n hx hb dX12_isWordPart_16 rfl (lv_at hl 2 rfl) ?_
      refine va_iald hx hb hK hP 4 1 rfl rfl (z_in (i := p0) (by omega) (by omega)) dX12_isWordPart_17 ?_
      refine lv_topi (fun x303 ex303 => ?_)
      have kx303 : x303.toInt = ((F 12) (Int32.toNatClampNeg p0)).toInt := congrArg Int32.toInt ex303
      have fx303 := hF12z (Int32.toNatClampNeg p0)
      clear ex303
      refine lv_iadd hx hb dX12_isWordPart_18 ?_
      refine lv_topi (fun x304 ex304 => ?_)
      have fx304 : x304.toInt = x302.toInt + x303.toInt := by have h := @z_add x302 x303 (by omega) (by omega); rw [← ex304] at h; omega
      clear ex304
      refine lv_icmp_ge (tgt := 104) hx hb dX12_isWordPart_19 (by decide) (fun c305 => ?_) (fun c305 => ?_)
      · have c305 := (z_le _ _).mp c305
        refine lv_iconst (v := 0) hx hb dX12_isWordPart_104 (by decide +kernel) ?_
        exact K 105 ls 0 (g, F) H _ dX12_isWordPart_105 (show (0 ≤ (0 : Int32).toInt ∧ (0 : Int32).toInt ≤ 1) from by omega) hP hD hS
      · have c305 := z_nle c305
        refine lv_aload_n hx hb dX12_isWordPart_22 rfl (lv_at hl 1 rfl) ?_
        refine va_get (D := (dC, dI)) (ci := 12) (v := .ref (q 19)) (C := RX12) (T := TX12) (N := 71) hx hb hts (fun _ h => List.mem_append_right _ h) hown hK hP 0 rfl rfl 19 (by decide) (hts (.fieldLink RX12 46 "SpellTurnerModel" "partSize" "[I") (List.mem_of_getElem? (i := 2) rfl)) (fun _ h9 => h9) rfl dX12_isWordPart_23 ?_
        refine lv_iload hx hb dX12_isWordPart_26 (lv_at hl 0 rfl) ?_
        refine va_iald hx hb hK hP 11 1 rfl rfl (z_in (i := x298) (by omega) (by omega)) dX12_isWordPart_28 ?_
        refine lv_topi (fun x306 ex306 => ?_)
        have kx306 : x306.toInt = ((F 19) (Int32.toNatClampNeg x298)).toInt := congrArg Int32.toInt ex306
        have fx306 := hF19z (Int32.toNatClampNeg x298)
        clear ex306
        refine lv_iload_n hx hb dX12_isWordPart_29 rfl (lv_at hl 4 rfl) ?_
        refine lv_icmp_eq (tgt := 36) hx hb dX12_isWordPart_30 (by decide) (fun c307 => ?_) (fun c307 => ?_)
        · have c307 := congrArg Int32.toInt c307
          refine lv_iconst (v := 1) hx hb dX12_isWordPart_36 (by decide +kernel) ?_
          refine lv_istore (lv' := [(5, .int 1), (4, .int x298), (0, .ref h0), (1, .int p0), (2, .int p1), (3, .int p2)]) hx hb dX12_isWordPart_37 hl (by decide) rfl (fun ls hl => ?_)
          refine lv_iconst (v := 0) hx hb dX12_isWordPart_39 (by decide +kernel) ?_
          refine lv_istore (lv' := [(6, .int 0), (5, .int 1), (4, .int x298), (0, .ref h0), (1, .int p0), (2, .int p1), (3, .int p2)]) hx hb dX12_isWordPart_40 hl (by decide) rfl (fun ls hl => ?_)
          have lp42 : ∀ (n42 : Nat) (x308 : Int32) (x309 : Int32) (gl310 : Nat → Int32) (fl311 : Nat → Nat → Int32) (H : Heap) (locs : List Loc) (ls : Array Slot), (16 - x308.toInt).toNat < n42 → 0 ≤ x308.toInt → va_P (dC, dI) vwCl (mW h0 kB kI kZ q g F) H → va_D A (mW h0 kB kI kZ q g F) → va_S A s.heap H locs → lv_has ls 7 [(6, .int x308), (5, .int x309), (4, .int x298), (0, .ref h0), (1, .int p0), (2, .int p1), (3, .int p2)] → W p l e ({ frames := 2, cells := 0, slots := 0, locals := 60 } : Room) s m args below meth c H locs 0 0 Q (F0 m 42 ls []) := by
            intro n42
            induction n42 with
            | zero => intro x308 x309 gl310 fl311 H locs ls hm; exact absurd hm (Nat.not_lt_zero _)
            | succ n42 ih42 =>
              intro x308 x309 gl310 fl311 H locs ls hm42 f312 hP hD hS hl
              refine lv_iload hx hb dX12_isWordPart_42 (lv_at hl 0 rfl) ?_
              refine lv_iload_n hx hb dX12_isWordPart_44 rfl (lv_at hl 6 rfl) ?_
              refine lv_icmp_ge (tgt := 91) hx hb dX12_isWordPart_45 (by decide) (fun c313 => ?_) (fun c313 => ?_)
              · have c313 := (z_le _ _).mp c313
                refine lv_iload hx hb dX12_isWordPart_91 (lv_at hl 1 rfl) ?_
                refine lv_if_eq (tgt := 98) hx hb dX12_isWordPart_93 (by decide) (fun c314 => ?_) (fun c314 => ?_)
                · have c314 := congrArg Int32.toInt c314
                  obtain ⟨x315, ex315⟩ : ∃ y : Int32, y = x298 + 1 := ⟨_, rfl⟩
                  have fx315 : x315.toInt = x298.toInt + (1) := by rw [ex315, z_add (by omega) (by omega)]; omega
                  refine lv_iinc (v := x315) (lv' := [(4, .int x315), (6, .int x308), (5, .int x309), (0, .ref h0), (1, .int p0), (2, .int p1), (3, .int p2)]) hx hb dX12_isWordPart_98 hl (k := 2) rfl (by rw [ex315]; rfl) (by decide) rfl (fun ls hl => ?_)
                  clear ex315
                  refine lv_goto (tgt := 6) hx hb dX12_isWordPart_101 (by decide) ?_
                  exact ih6 x315 g F H _ ls (show (40 * p0.toInt + 40 - x315.toInt).toNat < n6 from by omega) (show (40 * p0.toInt ≤ x315.toInt ∧ x315.toInt ≤ 40 * p0.toInt + 40) from by omega) hP hD hS (lv_sub hl [0, 3, 4, 5, 6] rfl)
                · have c314 := z_ne c314
                  refine lv_iconst (v := 1) hx hb dX12_isWordPart_96 (by decide +kernel) ?_
                  exact K 97 ls 1 (g, F) H _ dX12_isWordPart_97 (show (0 ≤ (1 : Int32).toInt ∧ (1 : Int32).toInt ≤ 1) from by omega) hP hD hS
              · have c313 := z_nle c313
                refine lv_iload hx hb dX12_isWordPart_48 (lv_at hl 1 rfl) ?_
                refine lv_if_eq (tgt := 91) hx hb dX12_isWordPart_50 (by decide) (fun c316 => ?_) (fun c316 => ?_)
                · have c316 := congrArg Int32.toInt c316
                  refine lv_iload hx hb dX12_isWordPart_91 (lv_at hl 1 rfl) ?_
                  refine lv_if_eq (tgt := 98) hx hb dX12_isWordPart_93 (by decide) (fun c317 => ?_) (fun c317 => ?_)
                  · have c317 := congrArg Int32.toInt c317
                    obtain ⟨x318, ex318⟩ : ∃ y : Int32, y = x298 + 1 := ⟨_, rfl⟩
                    have fx318 : x318.toInt = x298.toInt + (1) := by rw [ex318, z_add (by omega) (by omega)]; omega
                    refine lv_iinc (v := x318) (lv' := [(4, .int x318), (6, .int x308), (5, .int x309), (0, .ref h0), (1, .int p0), (2, .int p1), (3, .int p2)]) hx hb dX12_isWordPart_98 hl (k := 2) rfl (by rw [ex318]; rfl) (by decide) rfl (fun ls hl => ?_)
                    clear ex318
                    refine lv_goto (tgt := 6) hx hb dX12_isWordPart_101 (by decide) ?_
                    exact ih6 x318 g F H _ ls (show (40 * p0.toInt + 40 - x318.toInt).toNat < n6 from by omega) (show (40 * p0.toInt ≤ x318.toInt ∧ x318.toInt ≤ 40 * p0.toInt + 40) from by omega) hP hD hS (lv_sub hl [0, 3, 4, 5, 6] rfl)
                  · have c317 := z_ne c317
                    refine lv_iconst (v := 1) hx hb dX12_isWordPart_96 (by decide +kernel) ?_
                    exact K 97 ls 1 (g, F) H _ dX12_isWordPart_97 (show (0 ≤ (1 : Int32).toInt ∧ (1 : Int32).toInt ≤ 1) from by omega) hP hD hS
                · have c316 := z_ne c316
                  refine lv_aload_n hx hb dX12_isWordPart_53 rfl (lv_at hl 3 rfl) ?_
                  refine va_get (D := (dC, dI)) (ci := 12) (v := .ref (q 18)) (C := RX12) (T := TX12) (N := 71) hx hb hts (fun _ h => List.mem_append_right _ h) hown hK hP 0 rfl rfl 18 (by decide) (hts (.fieldLink RX12 43 "SpellTurnerModel" "partText" "[B") (List.mem_of_getElem? (i := 3) rfl)) (fun _ h9 => h9) rfl dX12_isWordPart_54 ?_
                  refine lv_bipush (v := 16) hx hb dX12_isWordPart_57 (by decide +kernel) ?_
                  refine lv_iload hx hb dX12_isWordPart_59 (lv_at hl 2 rfl) ?_
                  refine lv_imul hx hb dX12_isWordPart_61 ?_
                  refine lv_topi (fun x319 ex319 => ?_)
                  have fx319 : x319.toInt = 16 * x298.toInt := by rw [ex319, z_mul (by simp only [zk16]; omega) (by simp only [zk16]; omega)]; simp only [zk16]
                  clear ex319
                  refine lv_iload hx hb dX12_isWordPart_62 (lv_at hl 0 rfl) ?_
                  refine lv_iadd hx hb dX12_isWordPart_64 ?_
                  refine lv_topi (fun x320 ex320 => ?_)
                  have fx320 : x320.toInt = x319.toInt + x308.toInt := by have h := @z_add x319 x308 (by omega) (by omega); rw [← ex320] at h; omega
                  clear ex320
                  refine va_bald hx hb hK hP 10 0 rfl rfl (z_in (i := x320) (by omega) (by omega)) dX12_isWordPart_65 ?_
                  refine lv_topi (fun x321 ex321 => ?_)
                  clear ex321
                  refine lv_aload_n hx hb dX12_isWordPart_66 rfl (lv_at hl 3 rfl) ?_
                  refine va_get (D := (dC, dI)) (ci := 12) (v := .ref (q 22)) (C := RX12) (T := TX12) (N := 71) hx hb hts (fun _ h => List.mem_append_right _ h) hown hK hP 0 rfl rfl 22 (by decide) (hts (.fieldLink RX12 55 "SpellTurnerModel" "word" "[B") (List.mem_of_getElem? (i := 4) rfl)) (fun _ h9 => h9) rfl dX12_isWordPart_67 ?_
                  refine lv_iload_n hx hb dX12_isWordPart_70 rfl (lv_at hl 5 rfl) ?_
                  refine lv_iload hx hb dX12_isWordPart_71 (lv_at hl 0 rfl) ?_
                  refine lv_iadd hx hb dX12_isWordPart_73 ?_
                  refine lv_topi (fun x322 ex322 => ?_)
                  have fx322 : x322.toInt = p1.toInt + x308.toInt := by have h := @z_add p1 x308 (by omega) (by omega); rw [← ex322] at h; omega
                  clear ex322
                  refine va_bald hx hb hK hP 14 0 rfl rfl (z_in (i := x322) (by omega) (by omega)) dX12_isWordPart_74 ?_
                  refine lv_topi (fun x323 ex323 => ?_)
                  clear ex323
                  refine lv_icmp_ne (tgt := 82) hx hb dX12_isWordPart_75 (by decide) (fun c324 => ?_) (fun c324 => ?_)
                  · have c324 := z_ne c324
                    refine lv_iconst (v := 0) hx hb dX12_isWordPart_82 (by decide +kernel) ?_
                    refine lv_istore (lv' := [(5, .int 0), (6, .int x308), (4, .int x298), (0, .ref h0), (1, .int p0), (2, .int p1), (3, .int p2)]) hx hb dX12_isWordPart_83 hl (by decide) rfl (fun ls hl => ?_)
                    obtain ⟨x325, ex325⟩ : ∃ y : Int32, y = x308 + 1 := ⟨_, rfl⟩
                    have fx325 : x325.toInt = x308.toInt + (1) := by rw [ex325, z_add (by omega) (by omega)]; omega
                    refine lv_iinc (v := x325) (lv' := [(6, .int x325), (5, .int 0), (4, .int x298), (0, .ref h0), (1, .int p0), (2, .int p1), (3, .int p2)]) hx hb dX12_isWordPart_85 hl (k := 1) rfl (by rw [ex325]; rfl) (by decide) rfl (fun ls hl => ?_)
                    clear ex325
                    refine lv_goto (tgt := 42) hx hb dX12_isWordPart_88 (by decide) ?_
                    exact ih42 x325 0 g F H _ ls (show (16 - x325.toInt).toNat < n42 from by omega) (show 0 ≤ x325.toInt from by omega) hP hD hS (lv_sub hl [0, 1, 2, 3, 4, 5, 6] rfl)
                  · have c324 := congrArg Int32.toInt c324
                    refine lv_iconst (v := 1) hx hb dX12_isWordPart_78 (by decide +kernel) ?_
                    refine lv_goto (tgt := 83) hx hb dX12_isWordPart_79 (by decide) ?_
                    refine lv_istore (lv' := [(5, .int 1), (6, .int x308), (4, .int x298), (0, .ref h0), (1, .int p0), (2, .int p1), (3, .int p2)]) hx hb dX12_isWordPart_83 hl (by decide) rfl (fun ls hl => ?_)
                    obtain ⟨x326, ex326⟩ : ∃ y : Int32, y = x308 + 1 := ⟨_, rfl⟩
                    have fx326 : x326.toInt = x308.toInt + (1) := by rw [ex326, z_add (by omega) (by omega)]; omega
                    refine lv_iinc (v := x326) (lv' := [(6, .int x326), (5, .int 1), (4, .int x298), (0, .ref h0), (1, .int p0), (2, .int p1), (3, .int p2)]) hx hb dX12_isWordPart_85 hl (k := 1) rfl (by rw [ex326]; rfl) (by decide) rfl (fun ls hl => ?_)
                    clear ex326
                    refine lv_goto (tgt := 42) hx hb dX12_isWordPart_88 (by decide) ?_
                    exact ih42 x326 1 g F H _ ls (show (16 - x326.toInt).toNat < n42 from by omega) (show 0 ≤ x326.toInt from by omega) hP hD hS (lv_sub hl [0, 1, 2, 3, 4, 5, 6] rfl)
          exact lp42 ((16 - (0 : Int32).toInt).toNat + 1) 0 1 g F H _ ls (Nat.lt_succ_self _) (show 0 ≤ (0 : Int32).toInt from by omega) hP hD hS (lv_sub hl [0, 1, 2, 3, 4, 5, 6] rfl)
        · have c307 := z_ne c307
          refine lv_goto (tgt := 98) hx hb dX12_isWordPart_33 (by decide) ?_
          obtain ⟨x327, ex327⟩ : ∃ y : Int32, y = x298 + 1 := ⟨_, rfl⟩
          have fx327 : x327.toInt = x298.toInt + (1) := by rw [ex327, z_add (by omega) (by omega)]; omega
          refine lv_iinc (v := x327) (lv' := [(4, .int x327), (0, .ref h0), (1, .int p0), (2, .int p1), (3, .int p2)]) hx hb dX12_isWordPart_98 hl (k := 0) rfl (by rw [ex327]; rfl) (by decide) rfl (fun ls hl => ?_)
          clear ex327
          refine lv_goto (tgt := 6) hx hb dX12_isWordPart_101 (by decide) ?_
          exact ih6 x327 g F H _ ls (show (40 * p0.toInt + 40 - x327.toInt).toNat < n6 from by omega) (show (40 * p0.toInt ≤ x327.toInt ∧ x327.toInt ≤ 40 * p0.toInt + 40) from by omega) hP hD hS (lv_sub hl [0, 1, 2, 3, 4] rfl)
  exact lp6 ((40 * p0.toInt + 40 - x297.toInt).toNat + 1) x297 g F H _ ls (Nat.lt_succ_self _) (show (40 * p0.toInt ≤ x297.toInt ∧ x297.toInt ≤ 40 * p0.toInt + 40) from by omega) hP hD hS (lv_sub hl [0, 1, 2, 3, 4] rfl)
set_option maxHeartbeats 4000000 in
set_option maxRecDepth 100000 in
theorem m_isWordPart (l : Launch) (dC : Nat → ClassId) (dI : Nat → Nat → Nat) (sz : Nat) (h0 : Nat) (kB kI kZ : ClassId) (q : Nat → Nat) (g : Nat → Int32) (F : Nat → Nat → Int32) (p0 : Int32) (p1 : Int32) (p2 : Int32) (hI : MInv g F) (hq0 : (0 ≤ p0.toInt ∧ p0.toInt ≤ 6)) (hq1 : (0 ≤ p1.toInt ∧ p1.toInt + p2.toInt ≤ 24 ∧ p2.toInt ≤ 16)) : Met l yX12_isWordPart vmX12_isWordPart ({ frames := 2, cells := 0, slots := 0, locals := 60 } : Room) (va_Pc [.ref h0, .int p0, .int p1, .int p2] (fun U => U.heap.size = sz ∧ va_P (dC, dI) vwCl (mW h0 kB kI kZ q g F) U.heap ∧ va_K (dC, dI) vwCl (mT kB kI kZ) U ∧ va_D (fun _ => True) (mW h0 kB kI kZ q g F))) (va_Qi (fun (r : Int32) (u : ((Nat → Int32) × (Nat → Nat → Int32))) => ((0 ≤ r.toInt ∧ r.toInt ≤ 1))) (fun u t => va_P (dC, dI) vwCl (mW h0 kB kI kZ q g F) t.heap ∧ va_K (dC, dI) vwCl (mT kB kI kZ) t ∧ va_D (va_A (mW h0 kB kI kZ q g F) sz) (mW h0 kB kI kZ q g F)) (va_A (mW h0 kB kI kZ q g F) sz)) 0 0 (va_A (mW h0 kB kI kZ q g F) sz) := by
  refine Met.ofW (cc := cX12_isWordPart) (maxL := 7) (ret := (some .boolean)) (by decide) rfl ?_
  intro p e s m args below meth c s₁ B hml hv
  obtain ⟨rfl, hsz, hP, hK, hD0⟩ := hv
  have hx := B.exec
  have hb := B.bytes
  have hr := B.returns
  have hts := atoms_spec (ws := vmX12_isWordPart) B.pre
  have hown : s.vm.findClass RX12 = some m.cls := findClass_of_methodNamed B.named
  subst hsz
  have hD := hD0.self (sz := s.heap.size)
  generalize hAe : va_A (mW h0 kB kI kZ q g F) s.heap.size = A at hD ⊢
  have hA : ∀ q : Nat, s.heap.size ≤ q → A q := fun q h => by rw [← hAe]; exact Or.inr h
  have hS : va_S A s.heap s.heap [] := va_S.rf
  have hl := lv_entry ([.ref h0, .int p0, .int p1, .int p2]) (n := 7) (Nat.le_of_ble_eq_true rfl)
  rw [lg_entry_eq]
  generalize (lg_sl ([.ref h0, .int p0, .int p1, .int p2]) ++ List.replicate (7 - (lg_sl ([.ref h0, .int p0, .int p1, .int p2])).length) Slot.unset).toArray = ls at hl ⊢
  exact bm_isWordPart p0 p1 p2 hx hb hml hown hts hA hK hI hq0 hq1 hP hD hS hl (fun pc ls r u H locs hd hw hP hD hS => W.zret (v := r) hx hb hr (z_nb (by have := hw; omega)) (fun t ht hW => ⟨⟨r, u, rfl, hw, by rw [ht]; exact hP, va_K.moved hW.alike hK, hD⟩, hS.F ht⟩) hS.2.2 hd)
set_option maxHeartbeats 4000000 in
set_option maxRecDepth 100000 in
theorem bm_sameBytes_32_32 {p : Program} {l : Launch} {e : Env} {s : State} {m : MethodId} {args : Array Value} {below : List Frame} {meth : Method} {c : Code} {Q : State → Prop} {A : Nat → Prop} {dC : Nat → ClassId} {dI : Nat → Nat → Nat} {h0 : Nat} {kB kI kZ : ClassId} {q : Nat → Nat} {g : Nat → Int32} {F : Nat → Nat → Int32} {H : Heap} {locs : List Loc} {ls : Array Slot} (p1 : Int32) (p2 : Int32) (p4 : Int32) (p5 : Int32) (hx : p.tables.exec = Jvm.exec) (hb : c.code = cX12_sameBytes) (hml : c.maxLocals = 7) (hown : s.vm.findClass RX12 = some m.cls) (hts : ∀ w ∈ vmX12_sameBytes, w.before args s = true) (hA : ∀ q : Nat, s.heap.size ≤ q → A q) (hK : va_K (dC, dI) vwCl (mT kB kI kZ) s) (hI : MInv g F) (hq0 : (0 ≤ p1.toInt ∧ p1.toInt + p2.toInt ≤ 720)) (hq1 : (0 ≤ p4.toInt ∧ p4.toInt + p5.toInt ≤ 720)) (hP : va_P (dC, dI) vwCl (mW h0 kB kI kZ q g F) H) (hD : va_D A (mW h0 kB kI kZ q g F)) (hS : va_S A s.heap H locs) (hl : lv_has ls 7 [(0, .ref (q 32)), (1, .int p1), (2, .int p2), (3, .ref (q 32)), (4, .int p4), (5, .int p5)])
    (K : ∀ (pc : Nat) (ls : Array Slot) (r : Int32) (u : ((Nat → Int32) × (Nat → Nat → Int32))) (H : Heap) (locs : List Loc), decode cX12_sameBytes pc = .ok (.ireturn, 1) → (((0 ≤ r.toInt ∧ r.toInt ≤ 1))) → va_P (dC, dI) vwCl (mW h0 kB kI kZ q g F) H → va_D A (mW h0 kB kI kZ q g F) → va_S A s.heap H locs → W p l e ({ frames := 2, cells := 0, slots := 0, locals := 60 } : Room) s m args below meth c H locs 0 0 Q (F0 m pc ls [.int r])) : W p l e ({ frames := 2, cells := 0, slots := 0, locals := 60 } : Room) s m args below meth c H locs 0 0 Q (F0 m 0 ls []) := by
  obtain ⟨hg1z, hg2z, hg3z, hg4z, hg5z, hg6z, hg7z, hg8z, hg9z, hg23z, hg27z, hg30z, hg34z, hg36z, hg39z, hg44z, hg47z, hg48z, hg51z, hg56z, hg59z, hg62z, hg65z, hg66z, hg70z, hF11z, hF12z, hF13z, hF15z, hF19z, hF21z, hF24z, hF25z, hF26z, hF33z, hF38z, hF41z, hF43z, hF45z, hF46z, hF50z, hF53z, hF54z⟩ := hI
  have zk0 : (0 : Int32).toInt = 0 := by decide +kernel
  have zk1 : (1 : Int32).toInt = 1 := by decide +kernel
  refine lv_iload_n hx hb dX12_sameBytes_0 rfl (lv_at hl 2 rfl) ?_
  refine lv_iload hx hb dX12_sameBytes_1 (lv_at hl 5 rfl) ?_
  refine lv_icmp_eq (tgt := 8) hx hb dX12_sameBytes_3 (by decide) (fun c328 => ?_) (fun c328 => ?_)
  · have c328 := congrArg Int32.toInt c328
    refine lv_iconst (v := 0) hx hb dX12_sameBytes_8 (by decide +kernel) ?_
    refine lv_istore (lv' := [(6, .int 0), (0, .ref (q 32)), (1, .int p1), (2, .int p2), (3, .ref (q 32)), (4, .int p4), (5, .int p5)]) hx hb dX12_sameBytes_9 hl (by decide) rfl (fun ls hl => ?_)
    have lp11 : ∀ (n11 : Nat) (x329 : Int32) (gl330 : Nat → Int32) (fl331 : Nat → Nat → Int32) (H : Heap) (locs : List Loc) (ls : Array Slot), (p2.toInt - x329.toInt).toNat < n11 → 0 ≤ x329.toInt → va_P (dC, dI) vwCl (mW h0 kB kI kZ q g F) H → va_D A (mW h0 kB kI kZ q g F) → va_S A s.heap H locs → lv_has ls 7 [(6, .int x329), (0, .ref (q 32)), (1, .int p1), (2, .int p2), (3, .ref (q 32)), (4, .int p4), (5, .int p5)] → W p l e ({ frames := 2, cells := 0, slots := 0, locals := 60 } : Room) s m args below meth c H locs 0 0 Q (F0 m 11 ls []) := by
      intro n11
      induction n11 with
      | zero => intro x329 gl330 fl331 H locs ls hm; exact absurd hm (Nat.not_lt_zero _)
      | succ n11 ih11 =>
        intro x329 gl330 fl331 H locs ls hm11 f332 hP hD hS hl
        refine lv_iload hx hb dX12_sameBytes_11 (lv_at hl 0 rfl) ?_
        refine lv_iload_n hx hb dX12_sameBytes_13 rfl (lv_at hl 3 rfl) ?_
        refine lv_icmp_ge (tgt := 41) hx hb dX12_sameBytes_14 (by decide) (fun c333 => ?_) (fun c333 => ?_)
        · have c333 := (z_le _ _).mp c333
          refine lv_iconst (v := 1) hx hb dX12_sameBytes_41 (by decide +kernel) ?_
          exact K 42 ls 1 (g, F) H _ dX12_sameBytes_42 (show (0 ≤ (1 : Int32).toInt ∧ (1 : Int32).toInt ≤ 1) from by omega) hP hD hS
        · have c333 := z_nle c333
          refine lv_aload_n hx hb dX12_sameBytes_17 rfl (lv_at hl 1 rfl) ?_
          refine lv_iload_n hx hb dX12_sameBytes_18 rfl (lv_at hl 2 rfl) ?_
          refine lv_iload hx hb dX12_sameBytes_19 (lv_at hl 0 rfl) ?_
          refine lv_iadd hx hb dX12_sameBytes_21 ?_
          refine lv_topi (fun x334 ex334 => ?_)
          have fx334 : x334.toInt = p1.toInt + x329.toInt := by have h := @z_add p1 x329 (by omega) (by omega); rw [← ex334] at h; omega
          clear ex334
          refine va_bald hx hb hK hP 21 0 rfl rfl (z_in (i := x334) (by omega) (by omega)) dX12_sameBytes_22 ?_
          refine lv_topi (fun x335 ex335 => ?_)
          clear ex335
          refine lv_aload_n hx hb dX12_sameBytes_23 rfl (lv_at hl 4 rfl) ?_
          refine lv_iload hx hb dX12_sameBytes_24 (lv_at hl 5 rfl) ?_
          refine lv_iload hx hb dX12_sameBytes_26 (lv_at hl 0 rfl) ?_
          refine lv_iadd hx hb dX12_sameBytes_28 ?_
          refine lv_topi (fun x336 ex336 => ?_)
          have fx336 : x336.toInt = p4.toInt + x329.toInt := by have h := @z_add p4 x329 (by omega) (by omega); rw [← ex336] at h; omega
          clear ex336
          refine va_bald hx hb hK hP 21 0 rfl rfl (z_in (i := x336) (by omega) (by omega)) dX12_sameBytes_29 ?_
          refine lv_topi (fun x337 ex337 => ?_)
          clear ex337
          refine lv_icmp_eq (tgt := 35) hx hb dX12_sameBytes_30 (by decide) (fun c338 => ?_) (fun c338 => ?_)
          · have c338 := congrArg Int32.toInt c338
            obtain ⟨x339, ex339⟩ : ∃ y : Int32, y = x329 + 1 := ⟨_, rfl⟩
            have fx339 : x339.toInt = x329.toInt + (1) := by rw [ex339, z_add (by omega) (by omega)]; omega
            refine lv_iinc (v := x339) (lv' := [(6, .int x339), (0, .ref (q 32)), (1, .int p1), (2, .int p2), (3, .ref (q 32)), (4, .int p4), (5, .int p5)]) hx hb dX12_sameBytes_35 hl (k := 0) rfl (by rw [ex339]; rfl) (by decide) rfl (fun ls hl => ?_)
            clear ex339
            refine lv_goto (tgt := 11) hx hb dX12_sameBytes_38 (by decide) ?_
            exact ih11 x339 g F H _ ls (show (p2.toInt - x339.toInt).toNat < n11 from by omega) (show 0 ≤ x339.toInt from by omega) hP hD hS (lv_sub hl [0, 1, 2, 3, 4, 5, 6] rfl)
          · have c338 := z_ne c338
            refine lv_iconst (v := 0) hx hb dX12_sameBytes_33 (by decide +kernel) ?_
            exact K 34 ls 0 (g, F) H _ dX12_sameBytes_34 (show (0 ≤ (0 : Int32).toInt ∧ (0 : Int32).toInt ≤ 1) from by omega) hP hD hS
    exact lp11 ((p2.toInt - (0 : Int32).toInt).toNat + 1) 0 g F H _ ls (Nat.lt_succ_self _) (show 0 ≤ (0 : Int32).toInt from by omega) hP hD hS (lv_sub hl [0, 1, 2, 3, 4, 5, 6] rfl)
  · have c328 := z_ne c328
    refine lv_iconst (v := 0) hx hb dX12_sameBytes_6 (by decide +kernel) ?_
    exact K 7 ls 0 (g, F) H _ dX12_sameBytes_7 (show (0 ≤ (0 : Int32).toInt ∧ (0 : Int32).toInt ≤ 1) from by omega) hP hD hS
set_option maxHeartbeats 4000000 in
set_option maxRecDepth 100000 in
theorem m_sameBytes_32_32 (l : Launch) (dC : Nat → ClassId) (dI : Nat → Nat → Nat) (sz : Nat) (h0 : Nat) (kB kI kZ : ClassId) (q : Nat → Nat) (g : Nat → Int32) (F : Nat → Nat → Int32) (p1 : Int32) (p2 : Int32) (p4 : Int32) (p5 : Int32) (hI : MInv g F) (hq0 : (0 ≤ p1.toInt ∧ p1.toInt + p2.toInt ≤ 720)) (hq1 : (0 ≤ p4.toInt ∧ p4.toInt + p5.toInt ≤ 720)) : Met l yX12_sameBytes vmX12_sameBytes ({ frames := 2, cells := 0, slots := 0, locals := 60 } : Room) (va_Pc [.ref (q 32), .int p1, .int p2, .ref (q 32), .int p4, .int p5] (fun U => U.heap.size = sz ∧ va_P (dC, dI) vwCl (mW h0 kB kI kZ q g F) U.heap ∧ va_K (dC, dI) vwCl (mT kB kI kZ) U ∧ va_D (fun _ => True) (mW h0 kB kI kZ q g F))) (va_Qi (fun (r : Int32) (u : ((Nat → Int32) × (Nat → Nat → Int32))) => ((0 ≤ r.toInt ∧ r.toInt ≤ 1))) (fun u t => va_P (dC, dI) vwCl (mW h0 kB kI kZ q g F) t.heap ∧ va_K (dC, dI) vwCl (mT kB kI kZ) t ∧ va_D (va_A (mW h0 kB kI kZ q g F) sz) (mW h0 kB kI kZ q g F)) (va_A (mW h0 kB kI kZ q g F) sz)) 0 0 (va_A (mW h0 kB kI kZ q g F) sz) := by
  refine Met.ofW (cc := cX12_sameBytes) (maxL := 7) (ret := (some .boolean)) (by decide) rfl ?_
  intro p e s m args below meth c s₁ B hml hv
  obtain ⟨rfl, hsz, hP, hK, hD0⟩ := hv
  have hx := B.exec
  have hb := B.bytes
  have hr := B.returns
  have hts := atoms_spec (ws := vmX12_sameBytes) B.pre
  have hown : s.vm.findClass RX12 = some m.cls := findClass_of_methodNamed B.named
  subst hsz
  have hD := hD0.self (sz := s.heap.size)
  generalize hAe : va_A (mW h0 kB kI kZ q g F) s.heap.size = A at hD ⊢
  have hA : ∀ q : Nat, s.heap.size ≤ q → A q := fun q h => by rw [← hAe]; exact Or.inr h
  have hS : va_S A s.heap s.heap [] := va_S.rf
  have hl := lv_entry ([.ref (q 32), .int p1, .int p2, .ref (q 32), .int p4, .int p5]) (n := 7) (Nat.le_of_ble_eq_true rfl)
  rw [lg_entry_eq]
  generalize (lg_sl ([.ref (q 32), .int p1, .int p2, .ref (q 32), .int p4, .int p5]) ++ List.replicate (7 - (lg_sl ([.ref (q 32), .int p1, .int p2, .ref (q 32), .int p4, .int p5])).length) Slot.unset).toArray = ls at hl ⊢
  exact bm_sameBytes_32_32 p1 p2 p4 p5 hx hb hml hown hts hA hK hI hq0 hq1 hP hD hS hl (fun pc ls r u H locs hd hw hP hD hS => W.zret (v := r) hx hb hr (z_nb (by have := hw; omega)) (fun t ht hW => ⟨⟨r, u, rfl, hw, by rw [ht]; exact hP, va_K.moved hW.alike hK, hD⟩, hS.F ht⟩) hS.2.2 hd)
set_option maxHeartbeats 4000000 in
set_option maxRecDepth 100000 in
theorem bm_sameBytes_49_22 {p : Program} {l : Launch} {e : Env} {s : State} {m : MethodId} {args : Array Value} {below : List Frame} {meth : Method} {c : Code} {Q : State → Prop} {A : Nat → Prop} {dC : Nat → ClassId} {dI : Nat → Nat → Nat} {h0 : Nat} {kB kI kZ : ClassId} {q : Nat → Nat} {g : Nat → Int32} {F : Nat → Nat → Int32} {H : Heap} {locs : List Loc} {ls : Array Slot} (p1 : Int32) (p2 : Int32) (p4 : Int32) (p5 : Int32) (hx : p.tables.exec = Jvm.exec) (hb : c.code = cX12_sameBytes) (hml : c.maxLocals = 7) (hown : s.vm.findClass RX12 = some m.cls) (hts : ∀ w ∈ vmX12_sameBytes, w.before args s = true) (hA : ∀ q : Nat, s.heap.size ≤ q → A q) (hK : va_K (dC, dI) vwCl (mT kB kI kZ) s) (hI : MInv g F) (hq0 : (0 ≤ p1.toInt ∧ p1.toInt + p2.toInt ≤ 2400)) (hq1 : (0 ≤ p4.toInt ∧ p4.toInt + p5.toInt ≤ 24)) (hP : va_P (dC, dI) vwCl (mW h0 kB kI kZ q g F) H) (hD : va_D A (mW h0 kB kI kZ q g F)) (hS : va_S A s.heap H locs) (hl : lv_has ls 7 [(0, .ref (q 49)), (1, .int p1), (2, .int p2), (3, .ref (q 22)), (4, .int p4), (5, .int p5)])
    (K : ∀ (pc : Nat) (ls : Array Slot) (r : Int32) (u : ((Nat → Int32) × (Nat → Nat → Int32))) (H : Heap) (locs : List Loc), decode cX12_sameBytes pc = .ok (.ireturn, 1) → (((0 ≤ r.toInt ∧ r.toInt ≤ 1))) → va_P (dC, dI) vwCl (mW h0 kB kI kZ q g F) H → va_D A (mW h0 kB kI kZ q g F) → va_S A s.heap H locs → W p l e ({ frames := 2, cells := 0, slots := 0, locals := 60 } : Room) s m args below meth c H locs 0 0 Q (F0 m pc ls [.int r])) : W p l e ({ frames := 2, cells := 0, slots := 0, locals := 60 } : Room) s m args below meth c H locs 0 0 Q (F0 m 0 ls []) := by
  obtain ⟨hg1z, hg2z, hg3z, hg4z, hg5z, hg6z, hg7z, hg8z, hg9z, hg23z, hg27z, hg30z, hg34z, hg36z, hg39z, hg44z, hg47z, hg48z, hg51z, hg56z, hg59z, hg62z, hg65z, hg66z, hg70z, hF11z, hF12z, hF13z, hF15z, hF19z, hF21z, hF24z, hF25z, hF26z, hF33z, hF38z, hF41z, hF43z, hF45z, hF46z, hF50z, hF53z, hF54z⟩ := hI
  have zk0 : (0 : Int32).toInt = 0 := by decide +kernel
  have zk1 : (1 : Int32).toInt = 1 := by decide +kernel
  refine lv_iload_n hx hb dX12_sameBytes_0 rfl (lv_at hl 2 rfl) ?_
  refine lv_iload hx hb dX12_sameBytes_1 (lv_at hl 5 rfl) ?_
  refine lv_icmp_eq (tgt := 8) hx hb dX12_sameBytes_3 (by decide) (fun c340 => ?_) (fun c340 => ?_)
  · have c340 := congrArg Int32.toInt c340
    refine lv_iconst (v := 0) hx hb dX12_sameBytes_8 (by decide +kernel) ?_
    refine lv_istore (lv' := [(6, .int 0), (0, .ref (q 49)), (1, .int p1), (2, .int p2), (3, .ref (q 22)), (4, .int p4), (5, .int p5)]) hx hb dX12_sameBytes_9 hl (by decide) rfl (fun ls hl => ?_)
    have lp11 : ∀ (n11 : Nat) (x341 : Int32) (gl342 : Nat → Int32) (fl343 : Nat → Nat → Int32) (H : Heap) (locs : List Loc) (ls : Array Slot), (p2.toInt - x341.toInt).toNat < n11 → 0 ≤ x341.toInt → va_P (dC, dI) vwCl (mW h0 kB kI kZ q g F) H → va_D A (mW h0 kB kI kZ q g F) → va_S A s.heap H locs → lv_has ls 7 [(6, .int x341), (0, .ref (q 49)), (1, .int p1), (2, .int p2), (3, .ref (q 22)), (4, .int p4), (5, .int p5)] → W p l e ({ frames := 2, cells := 0, slots := 0, locals := 60 } : Room) s m args below meth c H locs 0 0 Q (F0 m 11 ls []) := by
      intro n11
      induction n11 with
      | zero => intro x341 gl342 fl343 H locs ls hm; exact absurd hm (Nat.not_lt_zero _)
      | succ n11 ih11 =>
        intro x341 gl342 fl343 H locs ls hm11 f344 hP hD hS hl
        refine lv_iload hx hb dX12_sameBytes_11 (lv_at hl 0 rfl) ?_
        refine lv_iload_n hx hb dX12_sameBytes_13 rfl (lv_at hl 3 rfl) ?_
        refine lv_icmp_ge (tgt := 41) hx hb dX12_sameBytes_14 (by decide) (fun c345 => ?_) (fun c345 => ?_)
        · have c345 := (z_le _ _).mp c345
          refine lv_iconst (v := 1) hx hb dX12_sameBytes_41 (by decide +kernel) ?_
          exact K 42 ls 1 (g, F) H _ dX12_sameBytes_42 (show (0 ≤ (1 : Int32).toInt ∧ (1 : Int32).toInt ≤ 1) from by omega) hP hD hS
        · have c345 := z_nle c345
          refine lv_aload_n hx hb dX12_sameBytes_17 rfl (lv_at hl 1 rfl) ?_
          refine lv_iload_n hx hb dX12_sameBytes_18 rfl (lv_at hl 2 rfl) ?_
          refine lv_iload hx hb dX12_sameBytes_19 (lv_at hl 0 rfl) ?_
          refine lv_iadd hx hb dX12_sameBytes_21 ?_
          refine lv_topi (fun x346 ex346 => ?_)
          have fx346 : x346.toInt = p1.toInt + x341.toInt := by have h := @z_add p1 x341 (by omega) (by omega); rw [← ex346] at h; omega
          clear ex346
          refine va_bald hx hb hK hP 31 0 rfl rfl (z_in (i := x346) (by omega) (by omega)) dX12_sameBytes_22 ?_
          refine lv_topi (fun x347 ex347 => ?_)
          clear ex347
          refine lv_aload_n hx hb dX12_sameBytes_23 rfl (lv_at hl 4 rfl) ?_
          refine lv_iload hx hb dX12_sameBytes_24 (lv_at hl 5 rfl) ?_
          refine lv_iload hx hb dX12_sameBytes_26 (lv_at hl 0 rfl) ?_
          refine lv_iadd hx hb dX12_sameBytes_28 ?_
          refine lv_topi (fun x348 ex348 => ?_)
          have fx348 : x348.toInt = p4.toInt + x341.toInt := by have h := @z_add p4 x341 (by omega) (by omega); rw [← ex348] at h; omega
          clear ex348
          refine va_bald hx hb hK hP 14 0 rfl rfl (z_in (i := x348) (by omega) (by omega)) dX12_sameBytes_29 ?_
          refine lv_topi (fun x349 ex349 => ?_)
          clear ex349
          refine lv_icmp_eq (tgt := 35) hx hb dX12_sameBytes_30 (by decide) (fun c350 => ?_) (fun c350 => ?_)
          · have c350 := congrArg Int32.toInt c350
            obtain ⟨x351, ex351⟩ : ∃ y : Int32, y = x341 + 1 := ⟨_, rfl⟩
            have fx351 : x351.toInt = x341.toInt + (1) := by rw [ex351, z_add (by omega) (by omega)]; omega
            refine lv_iinc (v := x351) (lv' := [(6, .int x351), (0, .ref (q 49)), (1, .int p1), (2, .int p2), (3, .ref (q 22)), (4, .int p4), (5, .int p5)]) hx hb dX12_sameBytes_35 hl (k := 0) rfl (by rw [ex351]; rfl) (by decide) rfl (fun ls hl => ?_)
            clear ex351
            refine lv_goto (tgt := 11) hx hb dX12_sameBytes_38 (by decide) ?_
            exact ih11 x351 g F H _ ls (show (p2.toInt - x351.toInt).toNat < n11 from by omega) (show 0 ≤ x351.toInt from by omega) hP hD hS (lv_sub hl [0, 1, 2, 3, 4, 5, 6] rfl)
          · have c350 := z_ne c350
            refine lv_iconst (v := 0) hx hb dX12_sameBytes_33 (by decide +kernel) ?_
            exact K 34 ls 0 (g, F) H _ dX12_sameBytes_34 (show (0 ≤ (0 : Int32).toInt ∧ (0 : Int32).toInt ≤ 1) from by omega) hP hD hS
    exact lp11 ((p2.toInt - (0 : Int32).toInt).toNat + 1) 0 g F H _ ls (Nat.lt_succ_self _) (show 0 ≤ (0 : Int32).toInt from by omega) hP hD hS (lv_sub hl [0, 1, 2, 3, 4, 5, 6] rfl)
  · have c340 := z_ne c340
    refine lv_iconst (v := 0) hx hb dX12_sameBytes_6 (by decide +kernel) ?_
    exact K 7 ls 0 (g, F) H _ dX12_sameBytes_7 (show (0 ≤ (0 : Int32).toInt ∧ (0 : Int32).toInt ≤ 1) from by omega) hP hD hS
set_option maxHeartbeats 4000000 in
set_option maxRecDepth 100000 in
theorem m_sameBytes_49_22 (l : Launch) (dC : Nat → ClassId) (dI : Nat → Nat → Nat) (sz : Nat) (h0 : Nat) (kB kI kZ : ClassId) (q : Nat → Nat) (g : Nat → Int32) (F : Nat → Nat → Int32) (p1 : Int32) (p2 : Int32) (p4 : Int32) (p5 : Int32) (hI : MInv g F) (hq0 : (0 ≤ p1.toInt ∧ p1.toInt + p2.toInt ≤ 2400)) (hq1 : (0 ≤ p4.toInt ∧ p4.toInt + p5.toInt ≤ 24)) : Met l yX12_sameBytes vmX12_sameBytes ({ frames := 2, cells := 0, slots := 0, locals := 60 } : Room) (va_Pc [.ref (q 49), .int p1, .int p2, .ref (q 22), .int p4, .int p5] (fun U => U.heap.size = sz ∧ va_P (dC, dI) vwCl (mW h0 kB kI kZ q g F) U.heap ∧ va_K (dC, dI) vwCl (mT kB kI kZ) U ∧ va_D (fun _ => True) (mW h0 kB kI kZ q g F))) (va_Qi (fun (r : Int32) (u : ((Nat → Int32) × (Nat → Nat → Int32))) => ((0 ≤ r.toInt ∧ r.toInt ≤ 1))) (fun u t => va_P (dC, dI) vwCl (mW h0 kB kI kZ q g F) t.heap ∧ va_K (dC, dI) vwCl (mT kB kI kZ) t ∧ va_D (va_A (mW h0 kB kI kZ q g F) sz) (mW h0 kB kI kZ q g F)) (va_A (mW h0 kB kI kZ q g F) sz)) 0 0 (va_A (mW h0 kB kI kZ q g F) sz) := by
  refine Met.ofW (cc := cX12_sameBytes) (maxL := 7) (ret := (some .boolean)) (by decide) rfl ?_
  intro p e s m args below meth c s₁ B hml hv
  obtain ⟨rfl, hsz, hP, hK, hD0⟩ := hv
  have hx := B.exec
  have hb := B.bytes
  have hr := B.returns
  have hts := atoms_spec (ws := vmX12_sameBytes) B.pre
  have hown : s.vm.findClass RX12 = some m.cls := findClass_of_methodNamed B.named
  subst hsz
  have hD := hD0.self (sz := s.heap.size)
  generalize hAe : va_A (mW h0 kB kI kZ q g F) s.heap.size = A at hD ⊢
  have hA : ∀ q : Nat, s.heap.size ≤ q → A q := fun q h => by rw [← hAe]; exact Or.inr h
  have hS : va_S A s.heap s.heap [] := va_S.rf
  have hl := lv_entry ([.ref (q 49), .int p1, .int p2, .ref (q 22), .int p4, .int p5]) (n := 7) (Nat.le_of_ble_eq_true rfl)
  rw [lg_entry_eq]
  generalize (lg_sl ([.ref (q 49), .int p1, .int p2, .ref (q 22), .int p4, .int p5]) ++ List.replicate (7 - (lg_sl ([.ref (q 49), .int p1, .int p2, .ref (q 22), .int p4, .int p5])).length) Slot.unset).toArray = ls at hl ⊢
  exact bm_sameBytes_49_22 p1 p2 p4 p5 hx hb hml hown hts hA hK hI hq0 hq1 hP hD hS hl (fun pc ls r u H locs hd hw hP hD hS => W.zret (v := r) hx hb hr (z_nb (by have := hw; omega)) (fun t ht hW => ⟨⟨r, u, rfl, hw, by rw [ht]; exact hP, va_K.moved hW.alike hK, hD⟩, hS.F ht⟩) hS.2.2 hd)
set_option maxHeartbeats 4000000 in
set_option maxRecDepth 100000 in
theorem bm_takeWord_0 {p : Program} {l : Launch} {e : Env} {s : State} {m : MethodId} {args : Array Value} {below : List Frame} {meth : Method} {c : Code} {Q : State → Prop} {A : Nat → Prop} {dC : Nat → ClassId} {dI : Nat → Nat → Nat} {h0 : Nat} {kB kI kZ : ClassId} {q : Nat → Nat} {g : Nat → Int32} {F : Nat → Nat → Int32} {H : Heap} {locs : List Loc} {ls : Array Slot} (p1 : Int32) (p2 : Int32) (hx : p.tables.exec = Jvm.exec) (hb : c.code = cX12_takeWord) (hml : c.maxLocals = 5) (hown : s.vm.findClass RX12 = some m.cls) (hts : ∀ w ∈ vmX12_takeWord, w.before args s = true) (hA : ∀ q : Nat, s.heap.size ≤ q → A q) (hK : va_K (dC, dI) vwCl (mT kB kI kZ) s) (hI : MInv g F) (hq0 : (0 ≤ p1.toInt ∧ p1.toInt + p2.toInt ≤ 2000)) (hq1 : (0 ≤ p2.toInt ∧ p2.toInt ≤ 24)) (hP : va_P (dC, dI) vwCl (mW h0 kB kI kZ q g F) H) (hD : va_D A (mW h0 kB kI kZ q g F)) (hS : va_S A s.heap H locs) (hl : lv_has ls 5 [(0, .ref h0), (1, .ref (q 0)), (2, .int p1), (3, .int p2)])
    (K : ∀ (pc : Nat) (ls : Array Slot) (u : ((Nat → Int32) × (Nat → Nat → Int32))) (H : Heap) (locs : List Loc), decode cX12_takeWord pc = .ok (.return_, 1) → ((((0) ≤ (u.1 23).toInt ∧ (u.1 23).toInt ≤ 24)) ∧ ((u.1 23).toInt = p2.toInt)) → va_P (dC, dI) vwCl (mW h0 kB kI kZ q (upd g 23 (u.1 23)) (upF F 22 (u.2 22))) H → va_D A (mW h0 kB kI kZ q (upd g 23 (u.1 23)) (upF F 22 (u.2 22))) → va_S A s.heap H locs → W p l e ({ frames := 2, cells := 0, slots := 0, locals := 60 } : Room) s m args below meth c H locs 0 0 Q (F0 m pc ls [])) : W p l e ({ frames := 2, cells := 0, slots := 0, locals := 60 } : Room) s m args below meth c H locs 0 0 Q (F0 m 0 ls []) := by
  obtain ⟨hg1z, hg2z, hg3z, hg4z, hg5z, hg6z, hg7z, hg8z, hg9z, hg23z, hg27z, hg30z, hg34z, hg36z, hg39z, hg44z, hg47z, hg48z, hg51z, hg56z, hg59z, hg62z, hg65z, hg66z, hg70z, hF11z, hF12z, hF13z, hF15z, hF19z, hF21z, hF24z, hF25z, hF26z, hF33z, hF38z, hF41z, hF43z, hF45z, hF46z, hF50z, hF53z, hF54z⟩ := hI
  have zk0 : (0 : Int32).toInt = 0 := by decide +kernel
  have zk1 : (1 : Int32).toInt = 1 := by decide +kernel
  refine lv_iconst (v := 0) hx hb dX12_takeWord_0 (by decide +kernel) ?_
  refine lv_istore (lv' := [(4, .int 0), (0, .ref h0), (1, .ref (q 0)), (2, .int p1), (3, .int p2)]) hx hb dX12_takeWord_1 hl (by decide) rfl (fun ls hl => ?_)
  have lp3 : ∀ (n3 : Nat) (x352 : Int32) (gl353 : Nat → Int32) (fl354 : Nat → Nat → Int32) (H : Heap) (locs : List Loc) (ls : Array Slot), (p2.toInt - x352.toInt).toNat < n3 → 0 ≤ x352.toInt → va_P (dC, dI) vwCl (mW h0 kB kI kZ q g (upF F 22 (fl354 22))) H → va_D A (mW h0 kB kI kZ q g (upF F 22 (fl354 22))) → va_S A s.heap H locs → lv_has ls 5 [(4, .int x352), (0, .ref h0), (1, .ref (q 0)), (2, .int p1), (3, .int p2)] → W p l e ({ frames := 2, cells := 0, slots := 0, locals := 60 } : Room) s m args below meth c H locs 0 0 Q (F0 m 3 ls []) := by
    intro n3
    induction n3 with
    | zero => intro x352 gl353 fl354 H locs ls hm; exact absurd hm (Nat.not_lt_zero _)
    | succ n3 ih3 =>
      intro x352 gl353 fl354 H locs ls hm3 f355 hP hD hS hl
      refine lv_iload hx hb dX12_takeWord_3 (lv_at hl 0 rfl) ?_
      refine lv_iload_n hx hb dX12_takeWord_5 rfl (lv_at hl 4 rfl) ?_
      refine lv_icmp_ge (tgt := 28) hx hb dX12_takeWord_6 (by decide) (fun c356 => ?_) (fun c356 => ?_)
      · have c356 := (z_le _ _).mp c356
        refine lv_aload_n hx hb dX12_takeWord_28 rfl (lv_at hl 1 rfl) ?_
        refine lv_iload_n hx hb dX12_takeWord_29 rfl (lv_at hl 4 rfl) ?_
        refine va_put (D := (dC, dI)) (ci := 12) (v := .int p2) (ty := .int) (C := RX12) (T := TX12) (N := 71) hx hb hts (fun _ h => List.mem_append_right _ h) tyX12 tyX12_ok nmX12 hown hK hP hD hS 0 rfl rfl 23 (by decide) (hts (.fieldLink RX12 244 "SpellTurnerModel" "letters" "I") (List.mem_of_getElem? (i := 1) rfl)) (fun _ h9 => h9) rfl (by decide +kernel) rfl rfl (Nat.le_of_ble_eq_true rfl) dX12_takeWord_30 (fun H locs hP hD hS => ?_)
        have hP : va_P (dC, dI) vwCl (mW h0 kB kI kZ q (upd g 23 p2) (upF F 22 (fl354 22))) H := hP
        have hD : va_D A (mW h0 kB kI kZ q (upd g 23 p2) (upF F 22 (fl354 22))) := hD
        have hg357 : (0) ≤ p2.toInt ∧ p2.toInt ≤ 24 := ⟨by omega, by omega⟩
        exact K 33 ls ((upd g 23 p2), (upF F 22 (fl354 22))) H _ dX12_takeWord_33 ⟨hg357, (show p2.toInt = p2.toInt from by omega)⟩ hP hD hS
      · have c356 := z_nle c356
        refine lv_aload_n hx hb dX12_takeWord_9 rfl (lv_at hl 1 rfl) ?_
        refine va_get (D := (dC, dI)) (ci := 12) (v := .ref (q 22)) (C := RX12) (T := TX12) (N := 71) hx hb hts (fun _ h => List.mem_append_right _ h) hown hK hP 0 rfl rfl 22 (by decide) (hts (.fieldLink RX12 55 "SpellTurnerModel" "word" "[B") (List.mem_of_getElem? (i := 2) rfl)) (fun _ h9 => h9) rfl dX12_takeWord_10 ?_
        refine lv_iload hx hb dX12_takeWord_13 (lv_at hl 0 rfl) ?_
        refine lv_aload_n hx hb dX12_takeWord_15 rfl (lv_at hl 2 rfl) ?_
        refine lv_iload_n hx hb dX12_takeWord_16 rfl (lv_at hl 3 rfl) ?_
        refine lv_iload hx hb dX12_takeWord_17 (lv_at hl 0 rfl) ?_
        refine lv_iadd hx hb dX12_takeWord_19 ?_
        refine lv_topi (fun x358 ex358 => ?_)
        have fx358 : x358.toInt = p1.toInt + x352.toInt := by have h := @z_add p1 x352 (by omega) (by omega); rw [← ex358] at h; omega
        clear ex358
        refine va_bald hx hb hK hP 1 0 rfl rfl (z_in (i := x358) (by omega) (by omega)) dX12_takeWord_20 ?_
        refine lv_topi (fun x359 ex359 => ?_)
        clear ex359
        refine va_bast hx hb hK hP hD hS 14 0 rfl rfl (z_in (i := x352) (by omega) (by omega)) dX12_takeWord_21 (fun H locs hP hD hS => ?_)
        obtain ⟨f360, hP, hD⟩ : ∃ f360 : Nat → Int32, va_P (dC, dI) vwCl (mW h0 kB kI kZ q g (upF F 22 f360)) H ∧ va_D A (mW h0 kB kI kZ q g (upF F 22 f360)) := ⟨(upd (fl354 22) (Int32.toNatClampNeg x352) (vp_nar .byte x359)), hP, hD⟩
        obtain ⟨x361, ex361⟩ : ∃ y : Int32, y = x352 + 1 := ⟨_, rfl⟩
        have fx361 : x361.toInt = x352.toInt + (1) := by rw [ex361, z_add (by omega) (by omega)]; omega
        refine lv_iinc (v := x361) (lv' := [(4, .int x361), (0, .ref h0), (1, .ref (q 0)), (2, .int p1), (3, .int p2)]) hx hb dX12_takeWord_22 hl (k := 0) rfl (by rw [ex361]; rfl) (by decide) rfl (fun ls hl => ?_)
        clear ex361
        refine lv_goto (tgt := 3) hx hb dX12_takeWord_25 (by decide) ?_
        exact ih3 x361 g (upF F 22 f360) H _ ls (show (p2.toInt - x361.toInt).toNat < n3 from by omega) (show 0 ≤ x361.toInt from by omega) hP hD hS (lv_sub hl [0, 1, 2, 3, 4] rfl)
  exact lp3 ((p2.toInt - (0 : Int32).toInt).toNat + 1) 0 g F H _ ls (Nat.lt_succ_self _) (show 0 ≤ (0 : Int32).toInt from by omega) hP hD hS (lv_sub hl [0, 1, 2, 3, 4] rfl)
set_option maxHeartbeats 4000000 in
set_option maxRecDepth 100000 in
theorem m_takeWord_0 (l : Launch) (dC : Nat → ClassId) (dI : Nat → Nat → Nat) (sz : Nat) (h0 : Nat) (kB kI kZ : ClassId) (q : Nat → Nat) (g : Nat → Int32) (F : Nat → Nat → Int32) (p1 : Int32) (p2 : Int32) (hI : MInv g F) (hq0 : (0 ≤ p1.toInt ∧ p1.toInt + p2.toInt ≤ 2000)) (hq1 : (0 ≤ p2.toInt ∧ p2.toInt ≤ 24)) : Met l yX12_takeWord vmX12_takeWord ({ frames := 2, cells := 0, slots := 0, locals := 60 } : Room) (va_Pc [.ref h0, .ref (q 0), .int p1, .int p2] (fun U => U.heap.size = sz ∧ va_P (dC, dI) vwCl (mW h0 kB kI kZ q g F) U.heap ∧ va_K (dC, dI) vwCl (mT kB kI kZ) U ∧ va_D (fun _ => True) (mW h0 kB kI kZ q g F))) (va_Qv (fun u : ((Nat → Int32) × (Nat → Nat → Int32)) => (((0) ≤ (u.1 23).toInt ∧ (u.1 23).toInt ≤ 24)) ∧ ((u.1 23).toInt = p2.toInt)) (fun u t => va_P (dC, dI) vwCl (mW h0 kB kI kZ q (upd g 23 (u.1 23)) (upF F 22 (u.2 22))) t.heap ∧ va_K (dC, dI) vwCl (mT kB kI kZ) t ∧ va_D (va_A (mW h0 kB kI kZ q g F) sz) (mW h0 kB kI kZ q (upd g 23 (u.1 23)) (upF F 22 (u.2 22)))) (va_A (mW h0 kB kI kZ q g F) sz)) 0 0 (va_A (mW h0 kB kI kZ q g F) sz) := by
  refine Met.ofW (cc := cX12_takeWord) (maxL := 5) (ret := none) (by decide) rfl ?_
  intro p e s m args below meth c s₁ B hml hv
  obtain ⟨rfl, hsz, hP, hK, hD0⟩ := hv
  have hx := B.exec
  have hb := B.bytes
  have hr := B.returns
  have hts := atoms_spec (ws := vmX12_takeWord) B.pre
  have hown : s.vm.findClass RX12 = some m.cls := findClass_of_methodNamed B.named
  subst hsz
  have hD := hD0.self (sz := s.heap.size)
  generalize hAe : va_A (mW h0 kB kI kZ q g F) s.heap.size = A at hD ⊢
  have hA : ∀ q : Nat, s.heap.size ≤ q → A q := fun q h => by rw [← hAe]; exact Or.inr h
  have hS : va_S A s.heap s.heap [] := va_S.rf
  have hl := lv_entry ([.ref h0, .ref (q 0), .int p1, .int p2]) (n := 5) (Nat.le_of_ble_eq_true rfl)
  rw [lg_entry_eq]
  generalize (lg_sl ([.ref h0, .ref (q 0), .int p1, .int p2]) ++ List.replicate (5 - (lg_sl ([.ref h0, .ref (q 0), .int p1, .int p2])).length) Slot.unset).toArray = ls at hl ⊢
  exact bm_takeWord_0 p1 p2 hx hb hml hown hts hA hK hI hq0 hq1 hP hD hS hl (fun pc ls u H locs hd hw hP hD hS => W.vret hx hb hr (fun t ht hW => ⟨⟨u, rfl, hw, by rw [ht]; exact hP, va_K.moved hW.alike hK, hD⟩, hS.F ht⟩) hS.2.2 hd)
set_option maxHeartbeats 4000000 in
set_option maxRecDepth 100000 in
theorem bm_readWord {p : Program} {l : Launch} {e : Env} {s : State} {m : MethodId} {args : Array Value} {below : List Frame} {meth : Method} {c : Code} {Q : State → Prop} {A : Nat → Prop} {dC : Nat → ClassId} {dI : Nat → Nat → Nat} {h0 : Nat} {kB kI kZ : ClassId} {q : Nat → Nat} {g : Nat → Int32} {F : Nat → Nat → Int32} {H : Heap} {locs : List Loc} {ls : Array Slot} (hx : p.tables.exec = Jvm.exec) (hb : c.code = cX12_readWord) (hml : c.maxLocals = 3) (hown : s.vm.findClass RX12 = some m.cls) (hts : ∀ w ∈ vmX12_readWord, w.before args s = true) (hA : ∀ q : Nat, s.heap.size ≤ q → A q) (hK : va_K (dC, dI) vwCl (mT kB kI kZ) s) (hI : MInv g F) (hP : va_P (dC, dI) vwCl (mW h0 kB kI kZ q g F) H) (hD : va_D A (mW h0 kB kI kZ q g F)) (hS : va_S A s.heap H locs) (hl : lv_has ls 3 [(0, .ref h0)])
    (K : ∀ (pc : Nat) (ls : Array Slot) (r : Int32) (u : ((Nat → Int32) × (Nat → Nat → Int32))) (H : Heap) (locs : List Loc), decode cX12_readWord pc = .ok (.ireturn, 1) → ((((0) ≤ (u.1 1).toInt ∧ (u.1 1).toInt ≤ 2000)) ∧ (((0) ≤ (u.1 23).toInt ∧ (u.1 23).toInt ≤ 24)) ∧ ((u.1 1).toInt = 0) ∧ ((r.toInt = 1 → 1 ≤ (u.1 23).toInt)) ∧ ((0 ≤ r.toInt ∧ r.toInt ≤ 1))) → va_P (dC, dI) vwCl (mW h0 kB kI kZ q (upd (upd g 1 (u.1 1)) 23 (u.1 23)) (upF F 22 (u.2 22))) H → va_D A (mW h0 kB kI kZ q (upd (upd g 1 (u.1 1)) 23 (u.1 23)) (upF F 22 (u.2 22))) → va_S A s.heap H locs → W p l e ({ frames := 3, cells := 0, slots := 0, locals := 84 } : Room) s m args below meth c H locs 0 0 Q (F0 m pc ls [.int r])) : W p l e ({ frames := 3, cells := 0, slots := 0, locals := 84 } : Room) s m args below meth c H locs 0 0 Q (F0 m 0 ls []) := by
  obtain ⟨hg1z, hg2z, hg3z, hg4z, hg5z, hg6z, hg7z, hg8z, hg9z, hg23z, hg27z, hg30z, hg34z, hg36z, hg39z, hg44z, hg47z, hg48z, hg51z, hg56z, hg59z, hg62z, hg65z, hg66z, hg70z, hF11z, hF12z, hF13z, hF15z, hF19z, hF21z, hF24z, hF25z, hF26z, hF33z, hF38z, hF41z, hF43z, hF45z, hF46z, hF50z, hF53z, hF54z⟩ := hI
  have zk0 : (0 : Int32).toInt = 0 := by decide +kernel
  have zk1 : (1 : Int32).toInt = 1 := by decide +kernel
  have zk24 : (24 : Int32).toInt = 24 := by decide +kernel
  refine lv_aload_n hx hb dX12_readWord_0 rfl (lv_at hl 0 rfl) ?_
  refine va_get (D := (dC, dI)) (ci := 12) (v := .int (g 1)) (C := RX12) (T := TX12) (N := 71) hx hb hts (fun _ h => List.mem_append_right _ h) hown hK hP 0 rfl rfl 1 (by decide) (hts (.fieldLink RX12 152 "SpellTurnerModel" "taped" "I") (List.mem_of_getElem? (i := 1) rfl)) (fun _ h9 => h9) rfl dX12_readWord_1 ?_
  refine lv_istore_n (lv' := [(1, .int (g 1)), (0, .ref h0)]) hx hb dX12_readWord_4 rfl hl (by decide) rfl (fun ls hl => ?_)
  refine lv_aload_n hx hb dX12_readWord_5 rfl (lv_at hl 1 rfl) ?_
  refine lv_iconst (v := 0) hx hb dX12_readWord_6 (by decide +kernel) ?_
  refine va_put (D := (dC, dI)) (ci := 12) (v := .int 0) (ty := .int) (C := RX12) (T := TX12) (N := 71) hx hb hts (fun _ h => List.mem_append_right _ h) tyX12 tyX12_ok nmX12 hown hK hP hD hS 0 rfl rfl 1 (by decide) (hts (.fieldLink RX12 152 "SpellTurnerModel" "taped" "I") (List.mem_of_getElem? (i := 1) rfl)) (fun _ h9 => h9) rfl (by decide +kernel) rfl rfl (Nat.le_of_ble_eq_true rfl) dX12_readWord_7 (fun H locs hP hD hS => ?_)
  have hP : va_P (dC, dI) vwCl (mW h0 kB kI kZ q (upd g 1 0) F) H := hP
  have hD : va_D A (mW h0 kB kI kZ q (upd g 1 0) F) := hD
  have hg362 : (0) ≤ (0 : Int32).toInt ∧ (0 : Int32).toInt ≤ 2000 := ⟨by omega, by omega⟩
  refine lv_iload_n hx hb dX12_readWord_10 rfl (lv_at hl 0 rfl) ?_
  refine lv_iconst (v := 1) hx hb dX12_readWord_11 (by decide +kernel) ?_
  refine lv_bipush (v := 24) hx hb dX12_readWord_12 (by decide +kernel) ?_
  have hFc := va_free (wc := (mW h0 kB kI kZ q (upd g 1 0) F)) hD hS hA [0, 1, 2, 3, 4, 5, 6, 7, 8, 9, 10, 11, 12, 13, 14, 15, 16, 17, 18, 19, 20, 21, 22, 23, 24, 25, 26, 27, 28, 29, 30, 31, 32, 33, 34, 35, 36, 37, 38, 39, 40, 41, 42, 43, 44, 45] rfl
  refine va_calli (va_runS (As := [.int (g 1), .int 1, .int 24]) (rest := []) ⟨hx, hb, hml, hown, hts⟩ (m_in l dC dI H.size h0 kB kI kZ q (upd g 1 0) F (g 1) 1 24 ⟨hg362, hg2z, hg3z, hg4z, hg5z, hg6z, hg7z, hg8z, hg9z, hg23z, hg27z, hg30z, hg34z, hg36z, hg39z, hg44z, hg47z, hg48z, hg51z, hg56z, hg59z, hg62z, hg65z, hg66z, hg70z, hF11z, hF12z, hF13z, hF15z, hF19z, hF21z, hF24z, hF25z, hF26z, hF33z, hF38z, hF41z, hF43z, hF45z, hF46z, hF50z, hF53z, hF54z⟩) (va_cwS 3 hts gw_X12_readWord_X12_in_226 rfl rfl rfl (by decide +kernel) ⟨Nat.le_of_ble_eq_true rfl, Nat.le_of_ble_eq_true rfl⟩) ⟨fun a U g mk q => by obtain ⟨q0, q1, qP, qK, qD⟩ := q; exact ⟨q0, q1, qP, va_K.moved (u := U) (U := U.calling g mk a) (Vm.Alike.refl U.vm) qK, qD⟩, fun U hU hW => ⟨rfl, by rw [hU], by rw [hU]; exact hP, va_K.moved hW.alike hK, hD.weaken (fun _ _ _ _ => trivial)⟩⟩ rfl rfl hl.1 rfl (lv_room (Nat.le_of_ble_eq_true rfl)) dX12_readWord_14 ⟨Nat.le_of_ble_eq_true rfl, Nat.le_of_ble_eq_true rfl⟩) hS (fun q _ h => hFc q h) hFc (fun r363 u t H1 locs ht hvm hw hB hz1 hk1 hS => ?_)
  obtain ⟨ga364, fa365⟩ := u
  obtain ⟨hP1, hK1, hD1⟩ := hB
  rw [ht] at hP1
  obtain ⟨hP, hD⟩ := va_join (wr := []) (w1 := (mW h0 kB kI kZ q (upd g 1 0) F)) hP hD [0, 1, 2, 3, 4, 5, 6, 7, 8, 9, 10, 11, 12, 13, 14, 15, 16, 17, 18, 19, 20, 21, 22, 23, 24, 25, 26, 27, 28, 29, 30, 31, 32, 33, 34, 35, 36, 37, 38, 39, 40, 41, 42, 43, 44, 45] [] rfl rfl (by decide) (by decide) hk1 hFc hP1 hD1
  generalize H1 = H at hP hS ⊢
  have hP : va_P (dC, dI) vwCl (mW h0 kB kI kZ q (upd g 1 0) F) H := hP
  have hD : va_D A (mW h0 kB kI kZ q (upd g 1 0) F) := hD
  obtain ⟨f366, f367⟩ : ((r363.toInt = 1 → (1 : Int32).toInt ≤ (g 1).toInt ∧ (g 1).toInt ≤ (24 : Int32).toInt)) ∧ ((0 ≤ r363.toInt ∧ r363.toInt ≤ 1)) := hw
  refine lv_if_ne (tgt := 22) hx hb dX12_readWord_17 (by decide) (fun c368 => ?_) (fun c368 => ?_)
  · have c368 := z_ne c368
    refine lv_iconst (v := 0) hx hb dX12_readWord_22 (by decide +kernel) ?_
    refine lv_istore_n (lv' := [(2, .int 0), (1, .int (g 1)), (0, .ref h0)]) hx hb dX12_readWord_23 rfl hl (by decide) rfl (fun ls hl => ?_)
    have lp24 : ∀ (n24 : Nat) (x369 : Int32) (gl370 : Nat → Int32) (fl371 : Nat → Nat → Int32) (H : Heap) (locs : List Loc) (ls : Array Slot), (24 - x369.toInt).toNat < n24 → 0 ≤ x369.toInt → va_P (dC, dI) vwCl (mW h0 kB kI kZ q (upd g 1 0) F) H → va_D A (mW h0 kB kI kZ q (upd g 1 0) F) → va_S A s.heap H locs → lv_has ls 3 [(2, .int x369), (1, .int (g 1)), (0, .ref h0)] → W p l e ({ frames := 3, cells := 0, slots := 0, locals := 84 } : Room) s m args below meth c H locs 0 0 Q (F0 m 24 ls []) := by
      intro n24
      induction n24 with
      | zero => intro x369 gl370 fl371 H locs ls hm; exact absurd hm (Nat.not_lt_zero _)
      | succ n24 ih24 =>
        intro x369 gl370 fl371 H locs ls hm24 f372 hP hD hS hl
        refine lv_iload_n hx hb dX12_readWord_24 rfl (lv_at hl 0 rfl) ?_
        refine lv_iload_n hx hb dX12_readWord_25 rfl (lv_at hl 1 rfl) ?_
        refine lv_icmp_ge (tgt := 49) hx hb dX12_readWord_26 (by decide) (fun c373 => ?_) (fun c373 => ?_)
        · have c373 := (z_le _ _).mp c373
          refine lv_aload_n hx hb dX12_readWord_49 rfl (lv_at hl 2 rfl) ?_
          refine lv_aload_n hx hb dX12_readWord_50 rfl (lv_at hl 2 rfl) ?_
          refine va_get (D := (dC, dI)) (ci := 12) (v := .ref (q 0)) (C := RX12) (T := TX12) (N := 71) hx hb hts (fun _ h => List.mem_append_right _ h) hown hK hP 0 rfl rfl 0 (by decide) (hts (.fieldLink RX12 7 "SpellTurnerModel" "tape" "[B") (List.mem_of_getElem? (i := 5) rfl)) (fun _ h9 => h9) rfl dX12_readWord_51 ?_
          refine lv_iconst (v := 0) hx hb dX12_readWord_54 (by decide +kernel) ?_
          refine lv_iload_n hx hb dX12_readWord_55 rfl (lv_at hl 1 rfl) ?_
          have hFc := va_free (wc := (mW h0 kB kI kZ q (upd g 1 0) F)) hD hS hA [0, 1, 2, 3, 4, 5, 6, 7, 8, 9, 10, 11, 12, 13, 14, 15, 16, 17, 18, 19, 20, 21, 22, 23, 24, 25, 26, 27, 28, 29, 30, 31, 32, 33, 34, 35, 36, 37, 38, 39, 40, 41, 42, 43, 44, 45] rfl
          refine va_callv (va_runV (As := [.ref (q 0), .int 0, .int (g 1)]) (rest := []) ⟨hx, hb, hml, hown, hts⟩ (m_takeWord_0 l dC dI H.size h0 kB kI kZ q (upd g 1 0) F 0 (g 1) ⟨hg362, hg2z, hg3z, hg4z, hg5z, hg6z, hg7z, hg8z, hg9z, hg23z, hg27z, hg30z, hg34z, hg36z, hg39z, hg44z, hg47z, hg48z, hg51z, hg56z, hg59z, hg62z, hg65z, hg66z, hg70z, hF11z, hF12z, hF13z, hF15z, hF19z, hF21z, hF24z, hF25z, hF26z, hF33z, hF38z, hF41z, hF43z, hF45z, hF46z, hF50z, hF53z, hF54z⟩ (show (0 ≤ (0 : Int32).toInt ∧ (0 : Int32).toInt + (g 1).toInt ≤ 2000) from by omega) (show (0 ≤ (g 1).toInt ∧ (g 1).toInt ≤ 24) from by omega)) (cwV 3 hts gw_X12_readWord_X12_takeWord_290 rfl rfl rfl (by decide +kernel) ⟨Nat.le_of_ble_eq_true rfl, Nat.le_of_ble_eq_true rfl⟩) ⟨fun a U g mk q => by obtain ⟨q0, q1, qP, qK, qD⟩ := q; exact ⟨q0, q1, qP, va_K.moved (u := U) (U := U.calling g mk a) (Vm.Alike.refl U.vm) qK, qD⟩, va_recv hK hP (ci := 12) (q0 := 0) rfl rfl, fun U hU hW => ⟨rfl, by rw [hU], by rw [hU]; exact hP, va_K.moved hW.alike hK, hD.weaken (fun _ _ _ _ => trivial)⟩⟩ rfl rfl hl.1 rfl (lv_room (Nat.le_of_ble_eq_true rfl)) dX12_readWord_56 ⟨Nat.le_of_ble_eq_true rfl, Nat.le_of_ble_eq_true rfl⟩) hS (fun q _ h => hFc q h) hFc (fun u t H1 locs ht hvm hw hB hz1 hk1 hS => ?_)
          obtain ⟨ga375, fa376⟩ := u
          obtain ⟨hP1, hK1, hD1⟩ := hB
          rw [ht] at hP1
          obtain ⟨hP, hD⟩ := va_join (wr := []) (w1 := (mW h0 kB kI kZ q (upd (upd g 1 0) 23 (ga375 23)) (upF F 22 (fa376 22)))) hP hD [0, 1, 2, 3, 4, 5, 6, 7, 8, 9, 10, 11, 12, 13, 14, 15, 16, 17, 18, 19, 20, 21, 22, 23, 24, 25, 26, 27, 28, 29, 30, 31, 32, 33, 34, 35, 36, 37, 38, 39, 40, 41, 42, 43, 44, 45] [] rfl rfl (by decide) (by decide) hk1 hFc hP1 hD1
          generalize H1 = H at hP hS ⊢
          have hP : va_P (dC, dI) vwCl (mW h0 kB kI kZ q (upd (upd g 1 0) 23 (ga375 23)) (upF F 22 (fa376 22))) H := hP
          have hD : va_D A (mW h0 kB kI kZ q (upd (upd g 1 0) 23 (ga375 23)) (upF F 22 (fa376 22))) := hD
          obtain ⟨hg377, f378⟩ : ((0) ≤ (ga375 23).toInt ∧ (ga375 23).toInt ≤ 24) ∧ ((ga375 23).toInt = (g 1).toInt) := hw
          refine lv_iconst (v := 1) hx hb dX12_readWord_59 (by decide +kernel) ?_
          exact K 60 ls 1 ((upd (upd g 1 0) 23 (ga375 23)), (upF F 22 (fa376 22))) H _ dX12_readWord_60 ⟨hg362, hg377, (show (0 : Int32).toInt = 0 from by omega), (show ((1 : Int32).toInt = 1 → 1 ≤ (ga375 23).toInt) from by omega), (show (0 ≤ (1 : Int32).toInt ∧ (1 : Int32).toInt ≤ 1) from by omega)⟩ hP hD hS
        · have c373 := z_nle c373
          refine lv_aload_n hx hb dX12_readWord_29 rfl (lv_at hl 2 rfl) ?_
          refine va_get (D := (dC, dI)) (ci := 12) (v := .ref (q 0)) (C := RX12) (T := TX12) (N := 71) hx hb hts (fun _ h => List.mem_append_right _ h) hown hK hP 0 rfl rfl 0 (by decide) (hts (.fieldLink RX12 7 "SpellTurnerModel" "tape" "[B") (List.mem_of_getElem? (i := 5) rfl)) (fun _ h9 => h9) rfl dX12_readWord_30 ?_
          refine lv_iload_n hx hb dX12_readWord_33 rfl (lv_at hl 0 rfl) ?_
          refine va_bald hx hb hK hP 1 0 rfl rfl (z_in (i := x369) (by omega) (by omega)) dX12_readWord_34 ?_
          refine lv_topi (fun x379 ex379 => ?_)
          clear ex379
          have hFc := va_free (wc := (mW h0 kB kI kZ q (upd g 1 0) F)) hD hS hA [0, 1, 2, 3, 4, 5, 6, 7, 8, 9, 10, 11, 12, 13, 14, 15, 16, 17, 18, 19, 20, 21, 22, 23, 24, 25, 26, 27, 28, 29, 30, 31, 32, 33, 34, 35, 36, 37, 38, 39, 40, 41, 42, 43, 44, 45] rfl
          refine va_calli (va_runS (As := [.int x379]) (rest := []) ⟨hx, hb, hml, hown, hts⟩ (m_isSmall l dC dI H.size h0 kB kI kZ q (upd g 1 0) F x379 ⟨hg362, hg2z, hg3z, hg4z, hg5z, hg6z, hg7z, hg8z, hg9z, hg23z, hg27z, hg30z, hg34z, hg36z, hg39z, hg44z, hg47z, hg48z, hg51z, hg56z, hg59z, hg62z, hg65z, hg66z, hg70z, hF11z, hF12z, hF13z, hF15z, hF19z, hF21z, hF24z, hF25z, hF26z, hF33z, hF38z, hF41z, hF43z, hF45z, hF46z, hF50z, hF53z, hF54z⟩) (va_cwS 1 hts gw_X12_readWord_X12_isSmall_183 rfl rfl rfl (by decide +kernel) ⟨Nat.le_of_ble_eq_true rfl, Nat.le_of_ble_eq_true rfl⟩) ⟨fun a U g mk q => by obtain ⟨q0, q1, qP, qK, qD⟩ := q; exact ⟨q0, q1, qP, va_K.moved (u := U) (U := U.calling g mk a) (Vm.Alike.refl U.vm) qK, qD⟩, fun U hU hW => ⟨rfl, by rw [hU], by rw [hU]; exact hP, va_K.moved hW.alike hK, hD.weaken (fun _ _ _ _ => trivial)⟩⟩ rfl rfl hl.1 rfl (lv_room (Nat.le_of_ble_eq_true rfl)) dX12_readWord_35 ⟨Nat.le_of_ble_eq_true rfl, Nat.le_of_ble_eq_true rfl⟩) hS (fun q _ h => hFc q h) hFc (fun r380 u t H1 locs ht hvm hw hB hz1 hk1 hS => ?_)
          obtain ⟨ga381, fa382⟩ := u
          obtain ⟨hP1, hK1, hD1⟩ := hB
          rw [ht] at hP1
          obtain ⟨hP, hD⟩ := va_join (wr := []) (w1 := (mW h0 kB kI kZ q (upd g 1 0) F)) hP hD [0, 1, 2, 3, 4, 5, 6, 7, 8, 9, 10, 11, 12, 13, 14, 15, 16, 17, 18, 19, 20, 21, 22, 23, 24, 25, 26, 27, 28, 29, 30, 31, 32, 33, 34, 35, 36, 37, 38, 39, 40, 41, 42, 43, 44, 45] [] rfl rfl (by decide) (by decide) hk1 hFc hP1 hD1
          generalize H1 = H at hP hS ⊢
          have hP : va_P (dC, dI) vwCl (mW h0 kB kI kZ q (upd g 1 0) F) H := hP
          have hD : va_D A (mW h0 kB kI kZ q (upd g 1 0) F) := hD
          have f383 : (0 ≤ r380.toInt ∧ r380.toInt ≤ 1) := hw
          refine lv_if_ne (tgt := 43) hx hb dX12_readWord_38 (by decide) (fun c384 => ?_) (fun c384 => ?_)
          · have c384 := z_ne c384
            obtain ⟨x385, ex385⟩ : ∃ y : Int32, y = x369 + 1 := ⟨_, rfl⟩
            have fx385 : x385.toInt = x369.toInt + (1) := by rw [ex385, z_add (by omega) (by omega)]; omega
            refine lv_iinc (v := x385) (lv' := [(2, .int x385), (1, .int (g 1)), (0, .ref h0)]) hx hb dX12_readWord_43 hl (k := 0) rfl (by rw [ex385]; rfl) (by decide) rfl (fun ls hl => ?_)
            clear ex385
            refine lv_goto (tgt := 24) hx hb dX12_readWord_46 (by decide) ?_
            exact ih24 x385 (upd g 1 0) F H _ ls (show (24 - x385.toInt).toNat < n24 from by omega) (show 0 ≤ x385.toInt from by omega) hP hD hS (lv_sub hl [0, 1, 2] rfl)
          · have c384 := congrArg Int32.toInt c384
            refine lv_iconst (v := 0) hx hb dX12_readWord_41 (by decide +kernel) ?_
            exact K 42 ls 0 ((upd g 1 0), F) H _ dX12_readWord_42 ⟨hg362, hg23z, (show (0 : Int32).toInt = 0 from by omega), (show ((0 : Int32).toInt = 1 → 1 ≤ (g 23).toInt) from by omega), (show (0 ≤ (0 : Int32).toInt ∧ (0 : Int32).toInt ≤ 1) from by omega)⟩ hP hD hS
    exact lp24 ((24 - (0 : Int32).toInt).toNat + 1) 0 (upd g 1 0) F H _ ls (Nat.lt_succ_self _) (show 0 ≤ (0 : Int32).toInt from by omega) hP hD hS (lv_sub hl [0, 1, 2] rfl)
  · have c368 := congrArg Int32.toInt c368
    refine lv_iconst (v := 0) hx hb dX12_readWord_20 (by decide +kernel) ?_
    exact K 21 ls 0 ((upd g 1 0), F) H _ dX12_readWord_21 ⟨hg362, hg23z, (show (0 : Int32).toInt = 0 from by omega), (show ((0 : Int32).toInt = 1 → 1 ≤ (g 23).toInt) from by omega), (show (0 ≤ (0 : Int32).toInt ∧ (0 : Int32).toInt ≤ 1) from by omega)⟩ hP hD hS
set_option maxHeartbeats 4000000 in
set_option maxRecDepth 100000 in
theorem m_readWord (l : Launch) (dC : Nat → ClassId) (dI : Nat → Nat → Nat) (sz : Nat) (h0 : Nat) (kB kI kZ : ClassId) (q : Nat → Nat) (g : Nat → Int32) (F : Nat → Nat → Int32) (hI : MInv g F) : Met l yX12_readWord vmX12_readWord ({ frames := 3, cells := 0, slots := 0, locals := 84 } : Room) (va_Pc [.ref h0] (fun U => U.heap.size = sz ∧ va_P (dC, dI) vwCl (mW h0 kB kI kZ q g F) U.heap ∧ va_K (dC, dI) vwCl (mT kB kI kZ) U ∧ va_D (fun _ => True) (mW h0 kB kI kZ q g F))) (va_Qi (fun (r : Int32) (u : ((Nat → Int32) × (Nat → Nat → Int32))) => (((0) ≤ (u.1 1).toInt ∧ (u.1 1).toInt ≤ 2000)) ∧ (((0) ≤ (u.1 23).toInt ∧ (u.1 23).toInt ≤ 24)) ∧ ((u.1 1).toInt = 0) ∧ ((r.toInt = 1 → 1 ≤ (u.1 23).toInt)) ∧ ((0 ≤ r.toInt ∧ r.toInt ≤ 1))) (fun u t => va_P (dC, dI) vwCl (mW h0 kB kI kZ q (upd (upd g 1 (u.1 1)) 23 (u.1 23)) (upF F 22 (u.2 22))) t.heap ∧ va_K (dC, dI) vwCl (mT kB kI kZ) t ∧ va_D (va_A (mW h0 kB kI kZ q g F) sz) (mW h0 kB kI kZ q (upd (upd g 1 (u.1 1)) 23 (u.1 23)) (upF F 22 (u.2 22)))) (va_A (mW h0 kB kI kZ q g F) sz)) 0 0 (va_A (mW h0 kB kI kZ q g F) sz) := by
  refine Met.ofW (cc := cX12_readWord) (maxL := 3) (ret := (some .boolean)) (by decide) rfl ?_
  intro p e s m args below meth c s₁ B hml hv
  obtain ⟨rfl, hsz, hP, hK, hD0⟩ := hv
  have hx := B.exec
  have hb := B.bytes
  have hr := B.returns
  have hts := atoms_spec (ws := vmX12_readWord) B.pre
  have hown : s.vm.findClass RX12 = some m.cls := findClass_of_methodNamed B.named
  subst hsz
  have hD := hD0.self (sz := s.heap.size)
  generalize hAe : va_A (mW h0 kB kI kZ q g F) s.heap.size = A at hD ⊢
  have hA : ∀ q : Nat, s.heap.size ≤ q → A q := fun q h => by rw [← hAe]; exact Or.inr h
  have hS : va_S A s.heap s.heap [] := va_S.rf
  have hl := lv_entry ([.ref h0]) (n := 3) (Nat.le_of_ble_eq_true rfl)
  rw [lg_entry_eq]
  generalize (lg_sl ([.ref h0]) ++ List.replicate (3 - (lg_sl ([.ref h0])).length) Slot.unset).toArray = ls at hl ⊢
  exact bm_readWord hx hb hml hown hts hA hK hI hP hD hS hl (fun pc ls r u H locs hd hw hP hD hS => W.zret (v := r) hx hb hr (z_nb (by have := hw.2.2.2.2; omega)) (fun t ht hW => ⟨⟨r, u, rfl, hw, by rw [ht]; exact hP, va_K.moved hW.alike hK, hD⟩, hS.F ht⟩) hS.2.2 hd)
set_option maxHeartbeats 4000000 in
set_option maxRecDepth 100000 in
theorem bm_write1_0 {p : Program} {l : Launch} {e : Env} {s : State} {m : MethodId} {args : Array Value} {below : List Frame} {meth : Method} {c : Code} {Q : State → Prop} {A : Nat → Prop} {dC : Nat → ClassId} {dI : Nat → Nat → Nat} {h0 : Nat} {kB kI kZ : ClassId} {q : Nat → Nat} {g : Nat → Int32} {F : Nat → Nat → Int32} {H : Heap} {locs : List Loc} {ls : Array Slot} (p1 : Int32) (p2 : Int32) (hx : p.tables.exec = Jvm.exec) (hb : c.code = cX12_write1) (hml : c.maxLocals = 5) (hown : s.vm.findClass RX12 = some m.cls) (hts : ∀ w ∈ vmX12_write1, w.before args s = true) (hA : ∀ q : Nat, s.heap.size ≤ q → A q) (hK : va_K (dC, dI) vwCl (mT kB kI kZ) s) (hI : MInv g F) (hq0 : (0 ≤ p1.toInt ∧ 0 ≤ p2.toInt ∧ p1.toInt + p2.toInt ≤ 2000)) (hP : va_P (dC, dI) vwCl (mW h0 kB kI kZ q g F) H) (hD : va_D A (mW h0 kB kI kZ q g F)) (hS : va_S A s.heap H locs) (hl : lv_has ls 5 [(0, .ref h0), (1, .ref (q 0)), (2, .int p1), (3, .int p2)])
    (K : ∀ (pc : Nat) (ls : Array Slot) (r : Int32) (u : ((Nat → Int32) × (Nat → Nat → Int32))) (H : Heap) (locs : List Loc), decode cX12_write1 pc = .ok (.ireturn, 1) → ((((0) ≤ (u.1 66).toInt ∧ (u.1 66).toInt ≤ 2500)) ∧ ((0 ≤ r.toInt ∧ r.toInt ≤ 1))) → va_P (dC, dI) vwCl (mW h0 kB kI kZ q (upd g 66 (u.1 66)) (upF F 61 (u.2 61))) H → va_D A (mW h0 kB kI kZ q (upd g 66 (u.1 66)) (upF F 61 (u.2 61))) → va_S A s.heap H locs → W p l e ({ frames := 2, cells := 0, slots := 0, locals := 60 } : Room) s m args below meth c H locs 0 0 Q (F0 m pc ls [.int r])) : W p l e ({ frames := 2, cells := 0, slots := 0, locals := 60 } : Room) s m args below meth c H locs 0 0 Q (F0 m 0 ls []) := by
  obtain ⟨hg1z, hg2z, hg3z, hg4z, hg5z, hg6z, hg7z, hg8z, hg9z, hg23z, hg27z, hg30z, hg34z, hg36z, hg39z, hg44z, hg47z, hg48z, hg51z, hg56z, hg59z, hg62z, hg65z, hg66z, hg70z, hF11z, hF12z, hF13z, hF15z, hF19z, hF21z, hF24z, hF25z, hF26z, hF33z, hF38z, hF41z, hF43z, hF45z, hF46z, hF50z, hF53z, hF54z⟩ := hI
  have zk0 : (0 : Int32).toInt = 0 := by decide +kernel
  have zk1 : (1 : Int32).toInt = 1 := by decide +kernel
  have zk2500 : (2500 : Int32).toInt = 2500 := by decide +kernel
  refine lv_aload_n hx hb dX12_write1_0 rfl (lv_at hl 0 rfl) ?_
  refine va_get (D := (dC, dI)) (ci := 12) (v := .int (g 66)) (C := RX12) (T := TX12) (N := 71) hx hb hts (fun _ h => List.mem_append_right _ h) hown hK hP 0 rfl rfl 66 (by decide) (hts (.fieldLink RX12 337 "SpellTurnerModel" "drafted" "I") (List.mem_of_getElem? (i := 1) rfl)) (fun _ h9 => h9) rfl dX12_write1_1 ?_
  refine lv_iload_n hx hb dX12_write1_4 rfl (lv_at hl 3 rfl) ?_
  refine lv_iadd hx hb dX12_write1_5 ?_
  refine lv_topi (fun x386 ex386 => ?_)
  have fx386 : x386.toInt = (g 66).toInt + p2.toInt := by have h := @z_add (g 66) p2 (by omega) (by omega); rw [← ex386] at h; omega
  clear ex386
  refine lv_sipush (v := 2500) hx hb dX12_write1_6 (by decide +kernel) ?_
  refine lv_icmp_le (tgt := 14) hx hb dX12_write1_9 (by decide) (fun c387 => ?_) (fun c387 => ?_)
  · have c387 := (z_le _ _).mp c387
    refine lv_iconst (v := 0) hx hb dX12_write1_14 (by decide +kernel) ?_
    refine lv_istore (lv' := [(4, .int 0), (0, .ref h0), (1, .ref (q 0)), (2, .int p1), (3, .int p2)]) hx hb dX12_write1_15 hl (by decide) rfl (fun ls hl => ?_)
    have lp17 : ∀ (n17 : Nat) (x388 : Int32) (gl389 : Nat → Int32) (fl390 : Nat → Nat → Int32) (H : Heap) (locs : List Loc) (ls : Array Slot), (p2.toInt - x388.toInt).toNat < n17 → 0 ≤ x388.toInt → va_P (dC, dI) vwCl (mW h0 kB kI kZ q g (upF F 61 (fl390 61))) H → va_D A (mW h0 kB kI kZ q g (upF F 61 (fl390 61))) → va_S A s.heap H locs → lv_has ls 5 [(4, .int x388), (0, .ref h0), (1, .ref (q 0)), (2, .int p1), (3, .int p2)] → W p l e ({ frames := 2, cells := 0, slots := 0, locals := 60 } : Room) s m args below meth c H locs 0 0 Q (F0 m 17 ls []) := by
      intro n17
      induction n17 with
      | zero => intro x388 gl389 fl390 H locs ls hm; exact absurd hm (Nat.not_lt_zero _)
      | succ n17 ih17 =>
        intro x388 gl389 fl390 H locs ls hm17 f391 hP hD hS hl
        refine lv_iload hx hb dX12_write1_17 (lv_at hl 0 rfl) ?_
        refine lv_iload_n hx hb dX12_write1_19 rfl (lv_at hl 4 rfl) ?_
        refine lv_icmp_ge (tgt := 47) hx hb dX12_write1_20 (by decide) (fun c392 => ?_) (fun c392 => ?_)
        · have c392 := (z_le _ _).mp c392
          refine lv_aload_n hx hb dX12_write1_47 rfl (lv_at hl 1 rfl) ?_
          refine lv_dup hx hb dX12_write1_48 rfl ?_
          refine va_get (D := (dC, dI)) (ci := 12) (v := .int (g 66)) (C := RX12) (T := TX12) (N := 71) hx hb hts (fun _ h => List.mem_append_right _ h) hown hK hP 0 rfl rfl 66 (by decide) (hts (.fieldLink RX12 337 "SpellTurnerModel" "drafted" "I") (List.mem_of_getElem? (i := 1) rfl)) (fun _ h9 => h9) rfl dX12_write1_49 ?_
          refine lv_iload_n hx hb dX12_write1_52 rfl (lv_at hl 4 rfl) ?_
          refine lv_iadd hx hb dX12_write1_53 ?_
          refine lv_topi (fun x393 ex393 => ?_)
          have fx393 : x393.toInt = (g 66).toInt + p2.toInt := by have h := @z_add (g 66) p2 (by omega) (by omega); rw [← ex393] at h; omega
          clear ex393
          refine va_put (D := (dC, dI)) (ci := 12) (v := .int x393) (ty := .int) (C := RX12) (T := TX12) (N := 71) hx hb hts (fun _ h => List.mem_append_right _ h) tyX12 tyX12_ok nmX12 hown hK hP hD hS 0 rfl rfl 66 (by decide) (hts (.fieldLink RX12 337 "SpellTurnerModel" "drafted" "I") (List.mem_of_getElem? (i := 1) rfl)) (fun _ h9 => h9) rfl (by decide +kernel) rfl rfl (Nat.le_of_ble_eq_true rfl) dX12_write1_54 (fun H locs hP hD hS => ?_)
          have hP : va_P (dC, dI) vwCl (mW h0 kB kI kZ q (upd g 66 x393) (upF F 61 (fl390 61))) H := hP
          have hD : va_D A (mW h0 kB kI kZ q (upd g 66 x393) (upF F 61 (fl390 61))) := hD
          have hg394 : (0) ≤ x393.toInt ∧ x393.toInt ≤ 2500 := ⟨by omega, by omega⟩
          refine lv_iconst (v := 1) hx hb dX12_write1_57 (by decide +kernel) ?_
          exact K 58 ls 1 ((upd g 66 x393), (upF F 61 (fl390 61))) H _ dX12_write1_58 ⟨hg394, (show (0 ≤ (1 : Int32).toInt ∧ (1 : Int32).toInt ≤ 1) from by omega)⟩ hP hD hS
        · have c392 := z_nle c392
          refine lv_aload_n hx hb dX12_write1_23 rfl (lv_at hl 1 rfl) ?_
          refine va_get (D := (dC, dI)) (ci := 12) (v := .ref (q 61)) (C := RX12) (T := TX12) (N := 71) hx hb hts (fun _ h => List.mem_append_right _ h) hown hK hP 0 rfl rfl 61 (by decide) (hts (.fieldLink RX12 134 "SpellTurnerModel" "draft" "[B") (List.mem_of_getElem? (i := 2) rfl)) (fun _ h9 => h9) rfl dX12_write1_24 ?_
          refine lv_aload_n hx hb dX12_write1_27 rfl (lv_at hl 1 rfl) ?_
          refine va_get (D := (dC, dI)) (ci := 12) (v := .int (g 66)) (C := RX12) (T := TX12) (N := 71) hx hb hts (fun _ h => List.mem_append_right _ h) hown hK hP 0 rfl rfl 66 (by decide) (hts (.fieldLink RX12 337 "SpellTurnerModel" "drafted" "I") (List.mem_of_getElem? (i := 1) rfl)) (fun _ h9 => h9) rfl dX12_write1_28 ?_
          refine lv_iload hx hb dX12_write1_31 (lv_at hl 0 rfl) ?_
          refine lv_iadd hx hb dX12_write1_33 ?_
          refine lv_topi (fun x395 ex395 => ?_)
          have fx395 : x395.toInt = (g 66).toInt + x388.toInt := by have h := @z_add (g 66) x388 (by omega) (by omega); rw [← ex395] at h; omega
          clear ex395
          refine lv_aload_n hx hb dX12_write1_34 rfl (lv_at hl 2 rfl) ?_
          refine lv_iload_n hx hb dX12_write1_35 rfl (lv_at hl 3 rfl) ?_
          refine lv_iload hx hb dX12_write1_36 (lv_at hl 0 rfl) ?_
          refine lv_iadd hx hb dX12_write1_38 ?_
          refine lv_topi (fun x396 ex396 => ?_)
          have fx396 : x396.toInt = p1.toInt + x388.toInt := by have h := @z_add p1 x388 (by omega) (by omega); rw [← ex396] at h; omega
          clear ex396
          refine va_bald hx hb hK hP 1 0 rfl rfl (z_in (i := x396) (by omega) (by omega)) dX12_write1_39 ?_
          refine lv_topi (fun x397 ex397 => ?_)
          clear ex397
          refine va_bast hx hb hK hP hD hS 40 0 rfl rfl (z_in (i := x395) (by omega) (by omega)) dX12_write1_40 (fun H locs hP hD hS => ?_)
          obtain ⟨f398, hP, hD⟩ : ∃ f398 : Nat → Int32, va_P (dC, dI) vwCl (mW h0 kB kI kZ q g (upF F 61 f398)) H ∧ va_D A (mW h0 kB kI kZ q g (upF F 61 f398)) := ⟨(upd (fl390 61) (Int32.toNatClampNeg x395) (vp_nar .byte x397)), hP, hD⟩
          obtain ⟨x399, ex399⟩ : ∃ y : Int32, y = x388 + 1 := ⟨_, rfl⟩
          have fx399 : x399.toInt = x388.toInt + (1) := by rw [ex399, z_add (by omega) (by omega)]; omega
          refine lv_iinc (v := x399) (lv' := [(4, .int x399), (0, .ref h0), (1, .ref (q 0)), (2, .int p1), (3, .int p2)]) hx hb dX12_write1_41 hl (k := 0) rfl (by rw [ex399]; rfl) (by decide) rfl (fun ls hl => ?_)
          clear ex399
          refine lv_goto (tgt := 17) hx hb dX12_write1_44 (by decide) ?_
          exact ih17 x399 g (upF F 61 f398) H _ ls (show (p2.toInt - x399.toInt).toNat < n17 from by omega) (show 0 ≤ x399.toInt from by omega) hP hD hS (lv_sub hl [0, 1, 2, 3, 4] rfl)
    exact lp17 ((p2.toInt - (0 : Int32).toInt).toNat + 1) 0 g F H _ ls (Nat.lt_succ_self _) (show 0 ≤ (0 : Int32).toInt from by omega) hP hD hS (lv_sub hl [0, 1, 2, 3, 4] rfl)
  · have c387 := z_nle c387
    refine lv_iconst (v := 0) hx hb dX12_write1_12 (by decide +kernel) ?_
    exact K 13 ls 0 (g, F) H _ dX12_write1_13 ⟨hg66z, (show (0 ≤ (0 : Int32).toInt ∧ (0 : Int32).toInt ≤ 1) from by omega)⟩ hP hD hS
set_option maxHeartbeats 4000000 in
set_option maxRecDepth 100000 in
theorem m_write1_0 (l : Launch) (dC : Nat → ClassId) (dI : Nat → Nat → Nat) (sz : Nat) (h0 : Nat) (kB kI kZ : ClassId) (q : Nat → Nat) (g : Nat → Int32) (F : Nat → Nat → Int32) (p1 : Int32) (p2 : Int32) (hI : MInv g F) (hq0 : (0 ≤ p1.toInt ∧ 0 ≤ p2.toInt ∧ p1.toInt + p2.toInt ≤ 2000)) : Met l yX12_write1 vmX12_write1 ({ frames := 2, cells := 0, slots := 0, locals := 60 } : Room) (va_Pc [.ref h0, .ref (q 0), .int p1, .int p2] (fun U => U.heap.size = sz ∧ va_P (dC, dI) vwCl (mW h0 kB kI kZ q g F) U.heap ∧ va_K (dC, dI) vwCl (mT kB kI kZ) U ∧ va_D (fun _ => True) (mW h0 kB kI kZ q g F))) (va_Qi (fun (r : Int32) (u : ((Nat → Int32) × (Nat → Nat → Int32))) => (((0) ≤ (u.1 66).toInt ∧ (u.1 66).toInt ≤ 2500)) ∧ ((0 ≤ r.toInt ∧ r.toInt ≤ 1))) (fun u t => va_P (dC, dI) vwCl (mW h0 kB kI kZ q (upd g 66 (u.1 66)) (upF F 61 (u.2 61))) t.heap ∧ va_K (dC, dI) vwCl (mT kB kI kZ) t ∧ va_D (va_A (mW h0 kB kI kZ q g F) sz) (mW h0 kB kI kZ q (upd g 66 (u.1 66)) (upF F 61 (u.2 61)))) (va_A (mW h0 kB kI kZ q g F) sz)) 0 0 (va_A (mW h0 kB kI kZ q g F) sz) := by
  refine Met.ofW (cc := cX12_write1) (maxL := 5) (ret := (some .boolean)) (by decide) rfl ?_
  intro p e s m args below meth c s₁ B hml hv
  obtain ⟨rfl, hsz, hP, hK, hD0⟩ := hv
  have hx := B.exec
  have hb := B.bytes
  have hr := B.returns
  have hts := atoms_spec (ws := vmX12_write1) B.pre
  have hown : s.vm.findClass RX12 = some m.cls := findClass_of_methodNamed B.named
  subst hsz
  have hD := hD0.self (sz := s.heap.size)
  generalize hAe : va_A (mW h0 kB kI kZ q g F) s.heap.size = A at hD ⊢
  have hA : ∀ q : Nat, s.heap.size ≤ q → A q := fun q h => by rw [← hAe]; exact Or.inr h
  have hS : va_S A s.heap s.heap [] := va_S.rf
  have hl := lv_entry ([.ref h0, .ref (q 0), .int p1, .int p2]) (n := 5) (Nat.le_of_ble_eq_true rfl)
  rw [lg_entry_eq]
  generalize (lg_sl ([.ref h0, .ref (q 0), .int p1, .int p2]) ++ List.replicate (5 - (lg_sl ([.ref h0, .ref (q 0), .int p1, .int p2])).length) Slot.unset).toArray = ls at hl ⊢
  exact bm_write1_0 p1 p2 hx hb hml hown hts hA hK hI hq0 hP hD hS hl (fun pc ls r u H locs hd hw hP hD hS => W.zret (v := r) hx hb hr (z_nb (by have := hw.2; omega)) (fun t ht hW => ⟨⟨r, u, rfl, hw, by rw [ht]; exact hP, va_K.moved hW.alike hK, hD⟩, hS.F ht⟩) hS.2.2 hd)
set_option maxHeartbeats 4000000 in
set_option maxRecDepth 100000 in
theorem bm_same_20_21 {p : Program} {l : Launch} {e : Env} {s : State} {m : MethodId} {args : Array Value} {below : List Frame} {meth : Method} {c : Code} {Q : State → Prop} {A : Nat → Prop} {dC : Nat → ClassId} {dI : Nat → Nat → Nat} {h0 : Nat} {kB kI kZ : ClassId} {q : Nat → Nat} {g : Nat → Int32} {F : Nat → Nat → Int32} {H : Heap} {locs : List Loc} {ls : Array Slot} (p2 : Int32) (p3 : Int32) (hx : p.tables.exec = Jvm.exec) (hb : c.code = cX12_same) (hml : c.maxLocals = 5) (hown : s.vm.findClass RX12 = some m.cls) (hts : ∀ w ∈ vmX12_same, w.before args s = true) (hA : ∀ q : Nat, s.heap.size ≤ q → A q) (hK : va_K (dC, dI) vwCl (mT kB kI kZ) s) (hI : MInv g F) (hq0 : (0 ≤ p2.toInt ∧ p2.toInt < 560)) (hq1 : (0 ≤ p3.toInt ∧ p3.toInt < 560)) (hP : va_P (dC, dI) vwCl (mW h0 kB kI kZ q g F) H) (hD : va_D A (mW h0 kB kI kZ q g F)) (hS : va_S A s.heap H locs) (hl : lv_has ls 5 [(0, .ref (q 20)), (1, .ref (q 21)), (2, .int p2), (3, .int p3)])
    (K : ∀ (pc : Nat) (ls : Array Slot) (r : Int32) (u : ((Nat → Int32) × (Nat → Nat → Int32))) (H : Heap) (locs : List Loc), decode cX12_same pc = .ok (.ireturn, 1) → (((0 ≤ r.toInt ∧ r.toInt ≤ 1))) → va_P (dC, dI) vwCl (mW h0 kB kI kZ q g F) H → va_D A (mW h0 kB kI kZ q g F) → va_S A s.heap H locs → W p l e ({ frames := 2, cells := 0, slots := 0, locals := 60 } : Room) s m args below meth c H locs 0 0 Q (F0 m pc ls [.int r])) : W p l e ({ frames := 2, cells := 0, slots := 0, locals := 60 } : Room) s m args below meth c H locs 0 0 Q (F0 m 0 ls []) := by
  obtain ⟨hg1z, hg2z, hg3z, hg4z, hg5z, hg6z, hg7z, hg8z, hg9z, hg23z, hg27z, hg30z, hg34z, hg36z, hg39z, hg44z, hg47z, hg48z, hg51z, hg56z, hg59z, hg62z, hg65z, hg66z, hg70z, hF11z, hF12z, hF13z, hF15z, hF19z, hF21z, hF24z, hF25z, hF26z, hF33z, hF38z, hF41z, hF43z, hF45z, hF46z, hF50z, hF53z, hF54z⟩ := hI
  have zk0 : (0 : Int32).toInt = 0 := by decide +kernel
  have zk1 : (1 : Int32).toInt = 1 := by decide +kernel
  have zk16 : (16 : Int32).toInt = 16 := by decide +kernel
  refine lv_aload_n hx hb dX12_same_0 rfl (lv_at hl 1 rfl) ?_
  refine lv_iload_n hx hb dX12_same_1 rfl (lv_at hl 2 rfl) ?_
  refine va_iald hx hb hK hP 13 1 rfl rfl (z_in (i := p2) (by omega) (by omega)) dX12_same_2 ?_
  refine lv_topi (fun x400 ex400 => ?_)
  have kx400 : x400.toInt = ((F 21) (Int32.toNatClampNeg p2)).toInt := congrArg Int32.toInt ex400
  have fx400 := hF21z (Int32.toNatClampNeg p2)
  clear ex400
  refine lv_aload_n hx hb dX12_same_3 rfl (lv_at hl 1 rfl) ?_
  refine lv_iload_n hx hb dX12_same_4 rfl (lv_at hl 3 rfl) ?_
  refine va_iald hx hb hK hP 13 1 rfl rfl (z_in (i := p3) (by omega) (by omega)) dX12_same_5 ?_
  refine lv_topi (fun x401 ex401 => ?_)
  have kx401 : x401.toInt = ((F 21) (Int32.toNatClampNeg p3)).toInt := congrArg Int32.toInt ex401
  have fx401 := hF21z (Int32.toNatClampNeg p3)
  clear ex401
  refine lv_icmp_eq (tgt := 11) hx hb dX12_same_6 (by decide) (fun c402 => ?_) (fun c402 => ?_)
  · have c402 := congrArg Int32.toInt c402
    refine lv_iconst (v := 0) hx hb dX12_same_11 (by decide +kernel) ?_
    refine lv_istore (lv' := [(4, .int 0), (0, .ref (q 20)), (1, .ref (q 21)), (2, .int p2), (3, .int p3)]) hx hb dX12_same_12 hl (by decide) rfl (fun ls hl => ?_)
    have lp14 : ∀ (n14 : Nat) (x403 : Int32) (gl404 : Nat → Int32) (fl405 : Nat → Nat → Int32) (H : Heap) (locs : List Loc) (ls : Array Slot), (16 - x403.toInt).toNat < n14 → 0 ≤ x403.toInt → va_P (dC, dI) vwCl (mW h0 kB kI kZ q g F) H → va_D A (mW h0 kB kI kZ q g F) → va_S A s.heap H locs → lv_has ls 5 [(4, .int x403), (0, .ref (q 20)), (1, .ref (q 21)), (2, .int p2), (3, .int p3)] → W p l e ({ frames := 2, cells := 0, slots := 0, locals := 60 } : Room) s m args below meth c H locs 0 0 Q (F0 m 14 ls []) := by
      intro n14
      induction n14 with
      | zero => intro x403 gl404 fl405 H locs ls hm; exact absurd hm (Nat.not_lt_zero _)
      | succ n14 ih14 =>
        intro x403 gl404 fl405 H locs ls hm14 f406 hP hD hS hl
        refine lv_iload hx hb dX12_same_14 (lv_at hl 0 rfl) ?_
        refine lv_aload_n hx hb dX12_same_16 rfl (lv_at hl 2 rfl) ?_
        refine lv_iload_n hx hb dX12_same_17 rfl (lv_at hl 3 rfl) ?_
        refine va_iald hx hb hK hP 13 1 rfl rfl (z_in (i := p2) (by omega) (by omega)) dX12_same_18 ?_
        refine lv_topi (fun x407 ex407 => ?_)
        have kx407 : x407.toInt = ((F 21) (Int32.toNatClampNeg p2)).toInt := congrArg Int32.toInt ex407
        have fx407 := hF21z (Int32.toNatClampNeg p2)
        clear ex407
        refine lv_icmp_ge (tgt := 51) hx hb dX12_same_19 (by decide) (fun c408 => ?_) (fun c408 => ?_)
        · have c408 := (z_le _ _).mp c408
          refine lv_iconst (v := 1) hx hb dX12_same_51 (by decide +kernel) ?_
          exact K 52 ls 1 (g, F) H _ dX12_same_52 (show (0 ≤ (1 : Int32).toInt ∧ (1 : Int32).toInt ≤ 1) from by omega) hP hD hS
        · have c408 := z_nle c408
          refine lv_aload_n hx hb dX12_same_22 rfl (lv_at hl 1 rfl) ?_
          refine lv_bipush (v := 16) hx hb dX12_same_23 (by decide +kernel) ?_
          refine lv_iload_n hx hb dX12_same_25 rfl (lv_at hl 3 rfl) ?_
          refine lv_imul hx hb dX12_same_26 ?_
          refine lv_topi (fun x409 ex409 => ?_)
          have fx409 : x409.toInt = 16 * p2.toInt := by rw [ex409, z_mul (by simp only [zk16]; omega) (by simp only [zk16]; omega)]; simp only [zk16]
          clear ex409
          refine lv_iload hx hb dX12_same_27 (lv_at hl 0 rfl) ?_
          refine lv_iadd hx hb dX12_same_29 ?_
          refine lv_topi (fun x410 ex410 => ?_)
          have fx410 : x410.toInt = x409.toInt + x403.toInt := by have h := @z_add x409 x403 (by omega) (by omega); rw [← ex410] at h; omega
          clear ex410
          refine va_bald hx hb hK hP 12 0 rfl rfl (z_in (i := x410) (by omega) (by omega)) dX12_same_30 ?_
          refine lv_topi (fun x411 ex411 => ?_)
          clear ex411
          refine lv_aload_n hx hb dX12_same_31 rfl (lv_at hl 1 rfl) ?_
          refine lv_bipush (v := 16) hx hb dX12_same_32 (by decide +kernel) ?_
          refine lv_iload_n hx hb dX12_same_34 rfl (lv_at hl 4 rfl) ?_
          refine lv_imul hx hb dX12_same_35 ?_
          refine lv_topi (fun x412 ex412 => ?_)
          have fx412 : x412.toInt = 16 * p3.toInt := by rw [ex412, z_mul (by simp only [zk16]; omega) (by simp only [zk16]; omega)]; simp only [zk16]
          clear ex412
          refine lv_iload hx hb dX12_same_36 (lv_at hl 0 rfl) ?_
          refine lv_iadd hx hb dX12_same_38 ?_
          refine lv_topi (fun x413 ex413 => ?_)
          have fx413 : x413.toInt = x412.toInt + x403.toInt := by have h := @z_add x412 x403 (by omega) (by omega); rw [← ex413] at h; omega
          clear ex413
          refine va_bald hx hb hK hP 12 0 rfl rfl (z_in (i := x413) (by omega) (by omega)) dX12_same_39 ?_
          refine lv_topi (fun x414 ex414 => ?_)
          clear ex414
          refine lv_icmp_eq (tgt := 45) hx hb dX12_same_40 (by decide) (fun c415 => ?_) (fun c415 => ?_)
          · have c415 := congrArg Int32.toInt c415
            obtain ⟨x416, ex416⟩ : ∃ y : Int32, y = x403 + 1 := ⟨_, rfl⟩
            have fx416 : x416.toInt = x403.toInt + (1) := by rw [ex416, z_add (by omega) (by omega)]; omega
            refine lv_iinc (v := x416) (lv' := [(4, .int x416), (0, .ref (q 20)), (1, .ref (q 21)), (2, .int p2), (3, .int p3)]) hx hb dX12_same_45 hl (k := 0) rfl (by rw [ex416]; rfl) (by decide) rfl (fun ls hl => ?_)
            clear ex416
            refine lv_goto (tgt := 14) hx hb dX12_same_48 (by decide) ?_
            exact ih14 x416 g F H _ ls (show (16 - x416.toInt).toNat < n14 from by omega) (show 0 ≤ x416.toInt from by omega) hP hD hS (lv_sub hl [0, 1, 2, 3, 4] rfl)
          · have c415 := z_ne c415
            refine lv_iconst (v := 0) hx hb dX12_same_43 (by decide +kernel) ?_
            exact K 44 ls 0 (g, F) H _ dX12_same_44 (show (0 ≤ (0 : Int32).toInt ∧ (0 : Int32).toInt ≤ 1) from by omega) hP hD hS
    exact lp14 ((16 - (0 : Int32).toInt).toNat + 1) 0 g F H _ ls (Nat.lt_succ_self _) (show 0 ≤ (0 : Int32).toInt from by omega) hP hD hS (lv_sub hl [0, 1, 2, 3, 4] rfl)
  · have c402 := z_ne c402
    refine lv_iconst (v := 0) hx hb dX12_same_9 (by decide +kernel) ?_
    exact K 10 ls 0 (g, F) H _ dX12_same_10 (show (0 ≤ (0 : Int32).toInt ∧ (0 : Int32).toInt ≤ 1) from by omega) hP hD hS
set_option maxHeartbeats 4000000 in
set_option maxRecDepth 100000 in
theorem m_same_20_21 (l : Launch) (dC : Nat → ClassId) (dI : Nat → Nat → Nat) (sz : Nat) (h0 : Nat) (kB kI kZ : ClassId) (q : Nat → Nat) (g : Nat → Int32) (F : Nat → Nat → Int32) (p2 : Int32) (p3 : Int32) (hI : MInv g F) (hq0 : (0 ≤ p2.toInt ∧ p2.toInt < 560)) (hq1 : (0 ≤ p3.toInt ∧ p3.toInt < 560)) : Met l yX12_same vmX12_same ({ frames := 2, cells := 0, slots := 0, locals := 60 } : Room) (va_Pc [.ref (q 20), .ref (q 21), .int p2, .int p3] (fun U => U.heap.size = sz ∧ va_P (dC, dI) vwCl (mW h0 kB kI kZ q g F) U.heap ∧ va_K (dC, dI) vwCl (mT kB kI kZ) U ∧ va_D (fun _ => True) (mW h0 kB kI kZ q g F))) (va_Qi (fun (r : Int32) (u : ((Nat → Int32) × (Nat → Nat → Int32))) => ((0 ≤ r.toInt ∧ r.toInt ≤ 1))) (fun u t => va_P (dC, dI) vwCl (mW h0 kB kI kZ q g F) t.heap ∧ va_K (dC, dI) vwCl (mT kB kI kZ) t ∧ va_D (va_A (mW h0 kB kI kZ q g F) sz) (mW h0 kB kI kZ q g F)) (va_A (mW h0 kB kI kZ q g F) sz)) 0 0 (va_A (mW h0 kB kI kZ q g F) sz) := by
  refine Met.ofW (cc := cX12_same) (maxL := 5) (ret := (some .boolean)) (by decide) rfl ?_
  intro p e s m args below meth c s₁ B hml hv
  obtain ⟨rfl, hsz, hP, hK, hD0⟩ := hv
  have hx := B.exec
  have hb := B.bytes
  have hr := B.returns
  have hts := atoms_spec (ws := vmX12_same) B.pre
  have hown : s.vm.findClass RX12 = some m.cls := findClass_of_methodNamed B.named
  subst hsz
  have hD := hD0.self (sz := s.heap.size)
  generalize hAe : va_A (mW h0 kB kI kZ q g F) s.heap.size = A at hD ⊢
  have hA : ∀ q : Nat, s.heap.size ≤ q → A q := fun q h => by rw [← hAe]; exact Or.inr h
  have hS : va_S A s.heap s.heap [] := va_S.rf
  have hl := lv_entry ([.ref (q 20), .ref (q 21), .int p2, .int p3]) (n := 5) (Nat.le_of_ble_eq_true rfl)
  rw [lg_entry_eq]
  generalize (lg_sl ([.ref (q 20), .ref (q 21), .int p2, .int p3]) ++ List.replicate (5 - (lg_sl ([.ref (q 20), .ref (q 21), .int p2, .int p3])).length) Slot.unset).toArray = ls at hl ⊢
  exact bm_same_20_21 p2 p3 hx hb hml hown hts hA hK hI hq0 hq1 hP hD hS hl (fun pc ls r u H locs hd hw hP hD hS => W.zret (v := r) hx hb hr (z_nb (by have := hw; omega)) (fun t ht hW => ⟨⟨r, u, rfl, hw, by rw [ht]; exact hP, va_K.moved hW.alike hK, hD⟩, hS.F ht⟩) hS.2.2 hd)
set_option maxHeartbeats 4000000 in
set_option maxRecDepth 100000 in
theorem bm_sameBytes_52_57 {p : Program} {l : Launch} {e : Env} {s : State} {m : MethodId} {args : Array Value} {below : List Frame} {meth : Method} {c : Code} {Q : State → Prop} {A : Nat → Prop} {dC : Nat → ClassId} {dI : Nat → Nat → Nat} {h0 : Nat} {kB kI kZ : ClassId} {q : Nat → Nat} {g : Nat → Int32} {F : Nat → Nat → Int32} {H : Heap} {locs : List Loc} {ls : Array Slot} (p1 : Int32) (p2 : Int32) (p4 : Int32) (p5 : Int32) (hx : p.tables.exec = Jvm.exec) (hb : c.code = cX12_sameBytes) (hml : c.maxLocals = 7) (hown : s.vm.findClass RX12 = some m.cls) (hts : ∀ w ∈ vmX12_sameBytes, w.before args s = true) (hA : ∀ q : Nat, s.heap.size ≤ q → A q) (hK : va_K (dC, dI) vwCl (mT kB kI kZ) s) (hI : MInv g F) (hq0 : (0 ≤ p1.toInt ∧ p1.toInt + p2.toInt ≤ 201600)) (hq1 : (0 ≤ p4.toInt ∧ p4.toInt + p5.toInt ≤ 24)) (hP : va_P (dC, dI) vwCl (mW h0 kB kI kZ q g F) H) (hD : va_D A (mW h0 kB kI kZ q g F)) (hS : va_S A s.heap H locs) (hl : lv_has ls 7 [(0, .ref (q 52)), (1, .int p1), (2, .int p2), (3, .ref (q 57)), (4, .int p4), (5, .int p5)])
    (K : ∀ (pc : Nat) (ls : Array Slot) (r : Int32) (u : ((Nat → Int32) × (Nat → Nat → Int32))) (H : Heap) (locs : List Loc), decode cX12_sameBytes pc = .ok (.ireturn, 1) → (((0 ≤ r.toInt ∧ r.toInt ≤ 1))) → va_P (dC, dI) vwCl (mW h0 kB kI kZ q g F) H → va_D A (mW h0 kB kI kZ q g F) → va_S A s.heap H locs → W p l e ({ frames := 2, cells := 0, slots := 0, locals := 60 } : Room) s m args below meth c H locs 0 0 Q (F0 m pc ls [.int r])) : W p l e ({ frames := 2, cells := 0, slots := 0, locals := 60 } : Room) s m args below meth c H locs 0 0 Q (F0 m 0 ls []) := by
  obtain ⟨hg1z, hg2z, hg3z, hg4z, hg5z, hg6z, hg7z, hg8z, hg9z, hg23z, hg27z, hg30z, hg34z, hg36z, hg39z, hg44z, hg47z, hg48z, hg51z, hg56z, hg59z, hg62z, hg65z, hg66z, hg70z, hF11z, hF12z, hF13z, hF15z, hF19z, hF21z, hF24z, hF25z, hF26z, hF33z, hF38z, hF41z, hF43z, hF45z, hF46z, hF50z, hF53z, hF54z⟩ := hI
  have zk0 : (0 : Int32).toInt = 0 := by decide +kernel
  have zk1 : (1 : Int32).toInt = 1 := by decide +kernel
  refine lv_iload_n hx hb dX12_sameBytes_0 rfl (lv_at hl 2 rfl) ?_
  refine lv_iload hx hb dX12_sameBytes_1 (lv_at hl 5 rfl) ?_
  refine lv_icmp_eq (tgt := 8) hx hb dX12_sameBytes_3 (by decide) (fun c434 => ?_) (fun c434 => ?_)
  · have c434 := congrArg Int32.toInt c434
    refine lv_iconst (v := 0) hx hb dX12_sameBytes_8 (by decide +kernel) ?_
    refine lv_istore (lv' := [(6, .int 0), (0, .ref (q 52)), (1, .int p1), (2, .int p2), (3, .ref (q 57)), (4, .int p4), (5, .int p5)]) hx hb dX12_sameBytes_9 hl (by decide) rfl (fun ls hl => ?_)
    have lp11 : ∀ (n11 : Nat) (x435 : Int32) (gl436 : Nat → Int32) (fl437 : Nat → Nat → Int32) (H : Heap) (locs : List Loc) (ls : Array Slot), (p2.toInt - x435.toInt).toNat < n11 → 0 ≤ x435.toInt → va_P (dC, dI) vwCl (mW h0 kB kI kZ q g F) H → va_D A (mW h0 kB kI kZ q g F) → va_S A s.heap H locs → lv_has ls 7 [(6, .int x435), (0, .ref (q 52)), (1, .int p1), (2, .int p2), (3, .ref (q 57)), (4, .int p4), (5, .int p5)] → W p l e ({ frames := 2, cells := 0, slots := 0, locals := 60 } : Room) s m args below meth c H locs 0 0 Q (F0 m 11 ls []) := by
      intro n11
      induction n11 with
      | zero => intro x435 gl436 fl437 H locs ls hm; exact absurd hm (Nat.not_lt_zero _)
      | succ n11 ih11 =>
        intro x435 gl436 fl437 H locs ls hm11 f438 hP hD hS hl
        refine lv_iload hx hb dX12_sameBytes_11 (lv_at hl 0 rfl) ?_
        refine lv_iload_n hx hb dX12_sameBytes_13 rfl (lv_at hl 3 rfl) ?_
        refine lv_icmp_ge (tgt := 41) hx hb dX12_sameBytes_14 (by decide) (fun c439 => ?_) (fun c439 => ?_)
        · have c439 := (z_le _ _).mp c439
          refine lv_iconst (v := 1) hx hb dX12_sameBytes_41 (by decide +kernel) ?_
          exact K 42 ls 1 (g, F) H _ dX12_sameBytes_42 (show (0 ≤ (1 : Int32).toInt ∧ (1 : Int32).toInt ≤ 1) from by omega) hP hD hS
        · have c439 := z_nle c439
          refine lv_aload_n hx hb dX12_sameBytes_17 rfl (lv_at hl 1 rfl) ?_
          refine lv_iload_n hx hb dX12_sameBytes_18 rfl (lv_at hl 2 rfl) ?_
          refine lv_iload hx hb dX12_sameBytes_19 (lv_at hl 0 rfl) ?_
          refine lv_iadd hx hb dX12_sameBytes_21 ?_
          refine lv_topi (fun x440 ex440 => ?_)
          have fx440 : x440.toInt = p1.toInt + x435.toInt := by have h := @z_add p1 x435 (by omega) (by omega); rw [← ex440] at h; omega
          clear ex440
          refine va_bald hx hb hK hP 33 0 rfl rfl (z_in (i := x440) (by omega) (by omega)) dX12_sameBytes_22 ?_
          refine lv_topi (fun x441 ex441 => ?_)
          clear ex441
          refine lv_aload_n hx hb dX12_sameBytes_23 rfl (lv_at hl 4 rfl) ?_
          refine lv_iload hx hb dX12_sameBytes_24 (lv_at hl 5 rfl) ?_
          refine lv_iload hx hb dX12_sameBytes_26 (lv_at hl 0 rfl) ?_
          refine lv_iadd hx hb dX12_sameBytes_28 ?_
          refine lv_topi (fun x442 ex442 => ?_)
          have fx442 : x442.toInt = p4.toInt + x435.toInt := by have h := @z_add p4 x435 (by omega) (by omega); rw [← ex442] at h; omega
          clear ex442
          refine va_bald hx hb hK hP 37 0 rfl rfl (z_in (i := x442) (by omega) (by omega)) dX12_sameBytes_29 ?_
          refine lv_topi (fun x443 ex443 => ?_)
          clear ex443
          refine lv_icmp_eq (tgt := 35) hx hb dX12_sameBytes_30 (by decide) (fun c444 => ?_) (fun c444 => ?_)
          · have c444 := congrArg Int32.toInt c444
            obtain ⟨x445, ex445⟩ : ∃ y : Int32, y = x435 + 1 := ⟨_, rfl⟩
            have fx445 : x445.toInt = x435.toInt + (1) := by rw [ex445, z_add (by omega) (by omega)]; omega
            refine lv_iinc (v := x445) (lv' := [(6, .int x445), (0, .ref (q 52)), (1, .int p1), (2, .int p2), (3, .ref (q 57)), (4, .int p4), (5, .int p5)]) hx hb dX12_sameBytes_35 hl (k := 0) rfl (by rw [ex445]; rfl) (by decide) rfl (fun ls hl => ?_)
            clear ex445
            refine lv_goto (tgt := 11) hx hb dX12_sameBytes_38 (by decide) ?_
            exact ih11 x445 g F H _ ls (show (p2.toInt - x445.toInt).toNat < n11 from by omega) (show 0 ≤ x445.toInt from by omega) hP hD hS (lv_sub hl [0, 1, 2, 3, 4, 5, 6] rfl)
          · have c444 := z_ne c444
            refine lv_iconst (v := 0) hx hb dX12_sameBytes_33 (by decide +kernel) ?_
            exact K 34 ls 0 (g, F) H _ dX12_sameBytes_34 (show (0 ≤ (0 : Int32).toInt ∧ (0 : Int32).toInt ≤ 1) from by omega) hP hD hS
    exact lp11 ((p2.toInt - (0 : Int32).toInt).toNat + 1) 0 g F H _ ls (Nat.lt_succ_self _) (show 0 ≤ (0 : Int32).toInt from by omega) hP hD hS (lv_sub hl [0, 1, 2, 3, 4, 5, 6] rfl)
  · have c434 := z_ne c434
    refine lv_iconst (v := 0) hx hb dX12_sameBytes_6 (by decide +kernel) ?_
    exact K 7 ls 0 (g, F) H _ dX12_sameBytes_7 (show (0 ≤ (0 : Int32).toInt ∧ (0 : Int32).toInt ≤ 1) from by omega) hP hD hS
set_option maxHeartbeats 4000000 in
set_option maxRecDepth 100000 in
theorem m_sameBytes_52_57 (l : Launch) (dC : Nat → ClassId) (dI : Nat → Nat → Nat) (sz : Nat) (h0 : Nat) (kB kI kZ : ClassId) (q : Nat → Nat) (g : Nat → Int32) (F : Nat → Nat → Int32) (p1 : Int32) (p2 : Int32) (p4 : Int32) (p5 : Int32) (hI : MInv g F) (hq0 : (0 ≤ p1.toInt ∧ p1.toInt + p2.toInt ≤ 201600)) (hq1 : (0 ≤ p4.toInt ∧ p4.toInt + p5.toInt ≤ 24)) : Met l yX12_sameBytes vmX12_sameBytes ({ frames := 2, cells := 0, slots := 0, locals := 60 } : Room) (va_Pc [.ref (q 52), .int p1, .int p2, .ref (q 57), .int p4, .int p5] (fun U => U.heap.size = sz ∧ va_P (dC, dI) vwCl (mW h0 kB kI kZ q g F) U.heap ∧ va_K (dC, dI) vwCl (mT kB kI kZ) U ∧ va_D (fun _ => True) (mW h0 kB kI kZ q g F))) (va_Qi (fun (r : Int32) (u : ((Nat → Int32) × (Nat → Nat → Int32))) => ((0 ≤ r.toInt ∧ r.toInt ≤ 1))) (fun u t => va_P (dC, dI) vwCl (mW h0 kB kI kZ q g F) t.heap ∧ va_K (dC, dI) vwCl (mT kB kI kZ) t ∧ va_D (va_A (mW h0 kB kI kZ q g F) sz) (mW h0 kB kI kZ q g F)) (va_A (mW h0 kB kI kZ q g F) sz)) 0 0 (va_A (mW h0 kB kI kZ q g F) sz) := by
  refine Met.ofW (cc := cX12_sameBytes) (maxL := 7) (ret := (some .boolean)) (by decide) rfl ?_
  intro p e s m args below meth c s₁ B hml hv
  obtain ⟨rfl, hsz, hP, hK, hD0⟩ := hv
  have hx := B.exec
  have hb := B.bytes
  have hr := B.returns
  have hts := atoms_spec (ws := vmX12_sameBytes) B.pre
  have hown : s.vm.findClass RX12 = some m.cls := findClass_of_methodNamed B.named
  subst hsz
  have hD := hD0.self (sz := s.heap.size)
  generalize hAe : va_A (mW h0 kB kI kZ q g F) s.heap.size = A at hD ⊢
  have hA : ∀ q : Nat, s.heap.size ≤ q → A q := fun q h => by rw [← hAe]; exact Or.inr h
  have hS : va_S A s.heap s.heap [] := va_S.rf
  have hl := lv_entry ([.ref (q 52), .int p1, .int p2, .ref (q 57), .int p4, .int p5]) (n := 7) (Nat.le_of_ble_eq_true rfl)
  rw [lg_entry_eq]
  generalize (lg_sl ([.ref (q 52), .int p1, .int p2, .ref (q 57), .int p4, .int p5]) ++ List.replicate (7 - (lg_sl ([.ref (q 52), .int p1, .int p2, .ref (q 57), .int p4, .int p5])).length) Slot.unset).toArray = ls at hl ⊢
  exact bm_sameBytes_52_57 p1 p2 p4 p5 hx hb hml hown hts hA hK hI hq0 hq1 hP hD hS hl (fun pc ls r u H locs hd hw hP hD hS => W.zret (v := r) hx hb hr (z_nb (by have := hw; omega)) (fun t ht hW => ⟨⟨r, u, rfl, hw, by rw [ht]; exact hP, va_K.moved hW.alike hK, hD⟩, hS.F ht⟩) hS.2.2 hd)
set_option maxHeartbeats 4000000 in
set_option maxRecDepth 100000 in
theorem bm_hasForm_57 {p : Program} {l : Launch} {e : Env} {s : State} {m : MethodId} {args : Array Value} {below : List Frame} {meth : Method} {c : Code} {Q : State → Prop} {A : Nat → Prop} {dC : Nat → ClassId} {dI : Nat → Nat → Nat} {h0 : Nat} {kB kI kZ : ClassId} {q : Nat → Nat} {g : Nat → Int32} {F : Nat → Nat → Int32} {H : Heap} {locs : List Loc} {ls : Array Slot} (p0 : Int32) (p1 : Int32) (p3 : Int32) (p4 : Int32) (hx : p.tables.exec = Jvm.exec) (hb : c.code = cX12_hasForm) (hml : c.maxLocals = 7) (hown : s.vm.findClass RX12 = some m.cls) (hts : ∀ w ∈ vmX12_hasForm, w.before args s = true) (hA : ∀ q : Nat, s.heap.size ≤ q → A q) (hK : va_K (dC, dI) vwCl (mT kB kI kZ) s) (hI : MInv g F) (hq0 : (0 ≤ p0.toInt ∧ p0.toInt ≤ 99)) (hq1 : (0 ≤ p1.toInt ∧ p1.toInt ≤ 6)) (hq2 : (0 ≤ p3.toInt ∧ p3.toInt + p4.toInt ≤ 24)) (hP : va_P (dC, dI) vwCl (mW h0 kB kI kZ q g F) H) (hD : va_D A (mW h0 kB kI kZ q g F)) (hS : va_S A s.heap H locs) (hl : lv_has ls 7 [(0, .ref h0), (1, .int p0), (2, .int p1), (3, .ref (q 57)), (4, .int p3), (5, .int p4)])
    (K : ∀ (pc : Nat) (ls : Array Slot) (r : Int32) (u : ((Nat → Int32) × (Nat → Nat → Int32))) (H : Heap) (locs : List Loc), decode cX12_hasForm pc = .ok (.ireturn, 1) → (((0 ≤ r.toInt ∧ r.toInt ≤ 1))) → va_P (dC, dI) vwCl (mW h0 kB kI kZ q g F) H → va_D A (mW h0 kB kI kZ q g F) → va_S A s.heap H locs → W p l e ({ frames := 3, cells := 0, slots := 0, locals := 86 } : Room) s m args below meth c H locs 0 0 Q (F0 m pc ls [.int r])) : W p l e ({ frames := 3, cells := 0, slots := 0, locals := 86 } : Room) s m args below meth c H locs 0 0 Q (F0 m 0 ls []) := by
  obtain ⟨hg1z, hg2z, hg3z, hg4z, hg5z, hg6z, hg7z, hg8z, hg9z, hg23z, hg27z, hg30z, hg34z, hg36z, hg39z, hg44z, hg47z, hg48z, hg51z, hg56z, hg59z, hg62z, hg65z, hg66z, hg70z, hF11z, hF12z, hF13z, hF15z, hF19z, hF21z, hF24z, hF25z, hF26z, hF33z, hF38z, hF41z, hF43z, hF45z, hF46z, hF50z, hF53z, hF54z⟩ := hI
  have zk0 : (0 : Int32).toInt = 0 := by decide +kernel
  have zk1 : (1 : Int32).toInt = 1 := by decide +kernel
  have zk7 : (7 : Int32).toInt = 7 := by decide +kernel
  have zk12 : (12 : Int32).toInt = 12 := by decide +kernel
  have zk24 : (24 : Int32).toInt = 24 := by decide +kernel
  refine lv_bipush (v := 12) hx hb dX12_hasForm_0 (by decide +kernel) ?_
  refine lv_bipush (v := 7) hx hb dX12_hasForm_2 (by decide +kernel) ?_
  refine lv_iload_n hx hb dX12_hasForm_4 rfl (lv_at hl 1 rfl) ?_
  refine lv_imul hx hb dX12_hasForm_5 ?_
  refine lv_topi (fun x417 ex417 => ?_)
  have fx417 : x417.toInt = 7 * p0.toInt := by rw [ex417, z_mul (by simp only [zk7]; omega) (by simp only [zk7]; omega)]; simp only [zk7]
  clear ex417
  refine lv_iload_n hx hb dX12_hasForm_6 rfl (lv_at hl 2 rfl) ?_
  refine lv_iadd hx hb dX12_hasForm_7 ?_
  refine lv_topi (fun x418 ex418 => ?_)
  have fx418 : x418.toInt = x417.toInt + p1.toInt := by have h := @z_add x417 p1 (by omega) (by omega); rw [← ex418] at h; omega
  clear ex418
  refine lv_imul hx hb dX12_hasForm_8 ?_
  refine lv_topi (fun x419 ex419 => ?_)
  have fx419 : x419.toInt = 12 * x418.toInt := by rw [ex419, z_mul (by simp only [zk12]; omega) (by simp only [zk12]; omega)]; simp only [zk12]
  clear ex419
  refine lv_istore (lv' := [(6, .int x419), (0, .ref h0), (1, .int p0), (2, .int p1), (3, .ref (q 57)), (4, .int p3), (5, .int p4)]) hx hb dX12_hasForm_9 hl (by decide) rfl (fun ls hl => ?_)
  have lp11 : ∀ (n11 : Nat) (x420 : Int32) (gl421 : Nat → Int32) (fl422 : Nat → Nat → Int32) (H : Heap) (locs : List Loc) (ls : Array Slot), (84 * p0.toInt + 12 * p1.toInt + 12 - x420.toInt).toNat < n11 → (84 * p0.toInt + 12 * p1.toInt ≤ x420.toInt ∧ x420.toInt ≤ 84 * p0.toInt + 12 * p1.toInt + 12) → va_P (dC, dI) vwCl (mW h0 kB kI kZ q g F) H → va_D A (mW h0 kB kI kZ q g F) → va_S A s.heap H locs → lv_has ls 7 [(6, .int x420), (0, .ref h0), (1, .int p0), (2, .int p1), (3, .ref (q 57)), (4, .int p3), (5, .int p4)] → W p l e ({ frames := 3, cells := 0, slots := 0, locals := 86 } : Room) s m args below meth c H locs 0 0 Q (F0 m 11 ls []) := by
    intro n11
    induction n11 with
    | zero => intro x420 gl421 fl422 H locs ls hm; exact absurd hm (Nat.not_lt_zero _)
    | succ n11 ih11 =>
      intro x420 gl421 fl422 H locs ls hm11 f423 hP hD hS hl
      refine lv_iload hx hb dX12_hasForm_11 (lv_at hl 0 rfl) ?_
      refine lv_bipush (v := 12) hx hb dX12_hasForm_13 (by decide +kernel) ?_
      refine lv_bipush (v := 7) hx hb dX12_hasForm_15 (by decide +kernel) ?_
      refine lv_iload_n hx hb dX12_hasForm_17 rfl (lv_at hl 2 rfl) ?_
      refine lv_imul hx hb dX12_hasForm_18 ?_
      refine lv_topi (fun x424 ex424 => ?_)
      have fx424 : x424.toInt = 7 * p0.toInt := by rw [ex424, z_mul (by simp only [zk7]; omega) (by simp only [zk7]; omega)]; simp only [zk7]
      clear ex424
      refine lv_iload_n hx hb dX12_hasForm_19 rfl (lv_at hl 3 rfl) ?_
      refine lv_iadd hx hb dX12_hasForm_20 ?_
      refine lv_topi (fun x425 ex425 => ?_)
      have fx425 : x425.toInt = x424.toInt + p1.toInt := by have h := @z_add x424 p1 (by omega) (by omega); rw [← ex425] at h; omega
      clear ex425
      refine lv_imul hx hb dX12_hasForm_21 ?_
      refine lv_topi (fun x426 ex426 => ?_)
      have fx426 : x426.toInt = 12 * x425.toInt := by rw [ex426, z_mul (by simp only [zk12]; omega) (by simp only [zk12]; omega)]; simp only [zk12]
      clear ex426
      refine lv_aload_n hx hb dX12_hasForm_22 rfl (lv_at hl 1 rfl) ?_
      refine va_get (D := (dC, dI)) (ci := 12) (v := .ref (q 54)) (C := RX12) (T := TX12) (N := 71) hx hb hts (fun _ h => List.mem_append_right _ h) hown hK hP 0 rfl rfl 54 (by decide) (hts (.fieldLink RX12 119 "SpellTurnerModel" "formMany" "[I") (List.mem_of_getElem? (i := 1) rfl)) (fun _ h9 => h9) rfl dX12_hasForm_23 ?_
      refine lv_bipush (v := 7) hx hb dX12_hasForm_26 (by decide +kernel) ?_
      refine lv_iload_n hx hb dX12_hasForm_28 rfl (lv_at hl 2 rfl) ?_
      refine lv_imul hx hb dX12_hasForm_29 ?_
      refine lv_topi (fun x427 ex427 => ?_)
      have fx427 : x427.toInt = 7 * p0.toInt := by rw [ex427, z_mul (by simp only [zk7]; omega) (by simp only [zk7]; omega)]; simp only [zk7]
      clear ex427
      refine lv_iload_n hx hb dX12_hasForm_30 rfl (lv_at hl 3 rfl) ?_
      refine lv_iadd hx hb dX12_hasForm_31 ?_
      refine lv_topi (fun x428 ex428 => ?_)
      have fx428 : x428.toInt = x427.toInt + p1.toInt := by have h := @z_add x427 p1 (by omega) (by omega); rw [← ex428] at h; omega
      clear ex428
      refine va_iald hx hb hK hP 35 1 rfl rfl (z_in (i := x428) (by omega) (by omega)) dX12_hasForm_32 ?_
      refine lv_topi (fun x429 ex429 => ?_)
      have kx429 : x429.toInt = ((F 54) (Int32.toNatClampNeg x428)).toInt := congrArg Int32.toInt ex429
      have fx429 := hF54z (Int32.toNatClampNeg x428)
      clear ex429
      refine lv_iadd hx hb dX12_hasForm_33 ?_
      refine lv_topi (fun x430 ex430 => ?_)
      have fx430 : x430.toInt = x426.toInt + x429.toInt := by have h := @z_add x426 x429 (by omega) (by omega); rw [← ex430] at h; omega
      clear ex430
      refine lv_icmp_ge (tgt := 72) hx hb dX12_hasForm_34 (by decide) (fun c431 => ?_) (fun c431 => ?_)
      · have c431 := (z_le _ _).mp c431
        refine lv_iconst (v := 0) hx hb dX12_hasForm_72 (by decide +kernel) ?_
        exact K 73 ls 0 (g, F) H _ dX12_hasForm_73 (show (0 ≤ (0 : Int32).toInt ∧ (0 : Int32).toInt ≤ 1) from by omega) hP hD hS
      · have c431 := z_nle c431
        refine lv_aload_n hx hb dX12_hasForm_37 rfl (lv_at hl 1 rfl) ?_
        refine va_get (D := (dC, dI)) (ci := 12) (v := .ref (q 52)) (C := RX12) (T := TX12) (N := 71) hx hb hts (fun _ h => List.mem_append_right _ h) hown hK hP 0 rfl rfl 52 (by decide) (hts (.fieldLink RX12 113 "SpellTurnerModel" "formText" "[B") (List.mem_of_getElem? (i := 2) rfl)) (fun _ h9 => h9) rfl dX12_hasForm_38 ?_
        refine lv_bipush (v := 24) hx hb dX12_hasForm_41 (by decide +kernel) ?_
        refine lv_iload hx hb dX12_hasForm_43 (lv_at hl 0 rfl) ?_
        refine lv_imul hx hb dX12_hasForm_45 ?_
        refine lv_topi (fun x432 ex432 => ?_)
        have fx432 : x432.toInt = 24 * x420.toInt := by rw [ex432, z_mul (by simp only [zk24]; omega) (by simp only [zk24]; omega)]; simp only [zk24]
        clear ex432
        refine lv_aload_n hx hb dX12_hasForm_46 rfl (lv_at hl 1 rfl) ?_
        refine va_get (D := (dC, dI)) (ci := 12) (v := .ref (q 53)) (C := RX12) (T := TX12) (N := 71) hx hb hts (fun _ h => List.mem_append_right _ h) hown hK hP 0 rfl rfl 53 (by decide) (hts (.fieldLink RX12 116 "SpellTurnerModel" "formSize" "[I") (List.mem_of_getElem? (i := 3) rfl)) (fun _ h9 => h9) rfl dX12_hasForm_47 ?_
        refine lv_iload hx hb dX12_hasForm_50 (lv_at hl 0 rfl) ?_
        refine va_iald hx hb hK hP 34 1 rfl rfl (z_in (i := x420) (by omega) (by omega)) dX12_hasForm_52 ?_
        refine lv_topi (fun x433 ex433 => ?_)
        have kx433 : x433.toInt = ((F 53) (Int32.toNatClampNeg x420)).toInt := congrArg Int32.toInt ex433
        have fx433 := hF53z (Int32.toNatClampNeg x420)
        clear ex433
        refine lv_aload_n hx hb dX12_hasForm_53 rfl (lv_at hl 4 rfl) ?_
        refine lv_iload hx hb dX12_hasForm_54 (lv_at hl 5 rfl) ?_
        refine lv_iload hx hb dX12_hasForm_56 (lv_at hl 6 rfl) ?_
        have hFc := va_free (wc := (mW h0 kB kI kZ q g F)) hD hS hA [0, 1, 2, 3, 4, 5, 6, 7, 8, 9, 10, 11, 12, 13, 14, 15, 16, 17, 18, 19, 20, 21, 22, 23, 24, 25, 26, 27, 28, 29, 30, 31, 32, 33, 34, 35, 36, 37, 38, 39, 40, 41, 42, 43, 44, 45] rfl
        refine va_calli (va_runS (As := [.ref (q 52), .int x432, .int x433, .ref (q 57), .int p3, .int p4]) (rest := []) ⟨hx, hb, hml, hown, hts⟩ (m_sameBytes_52_57 l dC dI H.size h0 kB kI kZ q g F x432 x433 p3 p4 ⟨hg1z, hg2z, hg3z, hg4z, hg5z, hg6z, hg7z, hg8z, hg9z, hg23z, hg27z, hg30z, hg34z, hg36z, hg39z, hg44z, hg47z, hg48z, hg51z, hg56z, hg59z, hg62z, hg65z, hg66z, hg70z, hF11z, hF12z, hF13z, hF15z, hF19z, hF21z, hF24z, hF25z, hF26z, hF33z, hF38z, hF41z, hF43z, hF45z, hF46z, hF50z, hF53z, hF54z⟩ (show (0 ≤ x432.toInt ∧ x432.toInt + x433.toInt ≤ 201600) from by omega) (show (0 ≤ p3.toInt ∧ p3.toInt + p4.toInt ≤ 24) from by omega)) (va_cwS 6 hts gw_X12_hasForm_X12_sameBytes_273 rfl rfl rfl (by decide +kernel) ⟨Nat.le_of_ble_eq_true rfl, Nat.le_of_ble_eq_true rfl⟩) ⟨fun a U g mk q => by obtain ⟨q0, q1, qP, qK, qD⟩ := q; exact ⟨q0, q1, qP, va_K.moved (u := U) (U := U.calling g mk a) (Vm.Alike.refl U.vm) qK, qD⟩, fun U hU hW => ⟨rfl, by rw [hU], by rw [hU]; exact hP, va_K.moved hW.alike hK, hD.weaken (fun _ _ _ _ => trivial)⟩⟩ rfl rfl hl.1 rfl (lv_room (Nat.le_of_ble_eq_true rfl)) dX12_hasForm_58 ⟨Nat.le_of_ble_eq_true rfl, Nat.le_of_ble_eq_true rfl⟩) hS (fun q _ h => hFc q h) hFc (fun r446 u t H1 locs ht hvm hw hB hz1 hk1 hS => ?_)
        obtain ⟨ga447, fa448⟩ := u
        obtain ⟨hP1, hK1, hD1⟩ := hB
        rw [ht] at hP1
        obtain ⟨hP, hD⟩ := va_join (wr := []) (w1 := (mW h0 kB kI kZ q g F)) hP hD [0, 1, 2, 3, 4, 5, 6, 7, 8, 9, 10, 11, 12, 13, 14, 15, 16, 17, 18, 19, 20, 21, 22, 23, 24, 25, 26, 27, 28, 29, 30, 31, 32, 33, 34, 35, 36, 37, 38, 39, 40, 41, 42, 43, 44, 45] [] rfl rfl (by decide) (by decide) hk1 hFc hP1 hD1
        generalize H1 = H at hP hS ⊢
        have hP : va_P (dC, dI) vwCl (mW h0 kB kI kZ q g F) H := hP
        have hD : va_D A (mW h0 kB kI kZ q g F) := hD
        have f449 : (0 ≤ r446.toInt ∧ r446.toInt ≤ 1) := hw
        refine lv_if_eq (tgt := 66) hx hb dX12_hasForm_61 (by decide) (fun c450 => ?_) (fun c450 => ?_)
        · have c450 := congrArg Int32.toInt c450
          obtain ⟨x451, ex451⟩ : ∃ y : Int32, y = x420 + 1 := ⟨_, rfl⟩
          have fx451 : x451.toInt = x420.toInt + (1) := by rw [ex451, z_add (by omega) (by omega)]; omega
          refine lv_iinc (v := x451) (lv' := [(6, .int x451), (0, .ref h0), (1, .int p0), (2, .int p1), (3, .ref (q 57)), (4, .int p3), (5, .int p4)]) hx hb dX12_hasForm_66 hl (k := 0) rfl (by rw [ex451]; rfl) (by decide) rfl (fun ls hl => ?_)
          clear ex451
          refine lv_goto (tgt := 11) hx hb dX12_hasForm_69 (by decide) ?_
          exact ih11 x451 g F H _ ls (show (84 * p0.toInt + 12 * p1.toInt + 12 - x451.toInt).toNat < n11 from by omega) (show (84 * p0.toInt + 12 * p1.toInt ≤ x451.toInt ∧ x451.toInt ≤ 84 * p0.toInt + 12 * p1.toInt + 12) from by omega) hP hD hS (lv_sub hl [0, 1, 2, 3, 4, 5, 6] rfl)
        · have c450 := z_ne c450
          refine lv_iconst (v := 1) hx hb dX12_hasForm_64 (by decide +kernel) ?_
          exact K 65 ls 1 (g, F) H _ dX12_hasForm_65 (show (0 ≤ (1 : Int32).toInt ∧ (1 : Int32).toInt ≤ 1) from by omega) hP hD hS
  exact lp11 ((84 * p0.toInt + 12 * p1.toInt + 12 - x419.toInt).toNat + 1) x419 g F H _ ls (Nat.lt_succ_self _) (show (84 * p0.toInt + 12 * p1.toInt ≤ x419.toInt ∧ x419.toInt ≤ 84 * p0.toInt + 12 * p1.toInt + 12) from by omega) hP hD hS (lv_sub hl [0, 1, 2, 3, 4, 5, 6] rfl)
set_option maxHeartbeats 4000000 in
set_option maxRecDepth 100000 in
theorem m_hasForm_57 (l : Launch) (dC : Nat → ClassId) (dI : Nat → Nat → Nat) (sz : Nat) (h0 : Nat) (kB kI kZ : ClassId) (q : Nat → Nat) (g : Nat → Int32) (F : Nat → Nat → Int32) (p0 : Int32) (p1 : Int32) (p3 : Int32) (p4 : Int32) (hI : MInv g F) (hq0 : (0 ≤ p0.toInt ∧ p0.toInt ≤ 99)) (hq1 : (0 ≤ p1.toInt ∧ p1.toInt ≤ 6)) (hq2 : (0 ≤ p3.toInt ∧ p3.toInt + p4.toInt ≤ 24)) : Met l yX12_hasForm vmX12_hasForm ({ frames := 3, cells := 0, slots := 0, locals := 86 } : Room) (va_Pc [.ref h0, .int p0, .int p1, .ref (q 57), .int p3, .int p4] (fun U => U.heap.size = sz ∧ va_P (dC, dI) vwCl (mW h0 kB kI kZ q g F) U.heap ∧ va_K (dC, dI) vwCl (mT kB kI kZ) U ∧ va_D (fun _ => True) (mW h0 kB kI kZ q g F))) (va_Qi (fun (r : Int32) (u : ((Nat → Int32) × (Nat → Nat → Int32))) => ((0 ≤ r.toInt ∧ r.toInt ≤ 1))) (fun u t => va_P (dC, dI) vwCl (mW h0 kB kI kZ q g F) t.heap ∧ va_K (dC, dI) vwCl (mT kB kI kZ) t ∧ va_D (va_A (mW h0 kB kI kZ q g F) sz) (mW h0 kB kI kZ q g F)) (va_A (mW h0 kB kI kZ q g F) sz)) 0 0 (va_A (mW h0 kB kI kZ q g F) sz) := by
  refine Met.ofW (cc := cX12_hasForm) (maxL := 7) (ret := (some .boolean)) (by decide) rfl ?_
  intro p e s m args below meth c s₁ B hml hv
  obtain ⟨rfl, hsz, hP, hK, hD0⟩ := hv
  have hx := B.exec
  have hb := B.bytes
  have hr := B.returns
  have hts := atoms_spec (ws := vmX12_hasForm) B.pre
  have hown : s.vm.findClass RX12 = some m.cls := findClass_of_methodNamed B.named
  subst hsz
  have hD := hD0.self (sz := s.heap.size)
  generalize hAe : va_A (mW h0 kB kI kZ q g F) s.heap.size = A at hD ⊢
  have hA : ∀ q : Nat, s.heap.size ≤ q → A q := fun q h => by rw [← hAe]; exact Or.inr h
  have hS : va_S A s.heap s.heap [] := va_S.rf
  have hl := lv_entry ([.ref h0, .int p0, .int p1, .ref (q 57), .int p3, .int p4]) (n := 7) (Nat.le_of_ble_eq_true rfl)
  rw [lg_entry_eq]
  generalize (lg_sl ([.ref h0, .int p0, .int p1, .ref (q 57), .int p3, .int p4]) ++ List.replicate (7 - (lg_sl ([.ref h0, .int p0, .int p1, .ref (q 57), .int p3, .int p4])).length) Slot.unset).toArray = ls at hl ⊢
  exact bm_hasForm_57 p0 p1 p3 p4 hx hb hml hown hts hA hK hI hq0 hq1 hq2 hP hD hS hl (fun pc ls r u H locs hd hw hP hD hS => W.zret (v := r) hx hb hr (z_nb (by have := hw; omega)) (fun t ht hW => ⟨⟨r, u, rfl, hw, by rw [ht]; exact hP, va_K.moved hW.alike hK, hD⟩, hS.F ht⟩) hS.2.2 hd)
set_option maxHeartbeats 4000000 in
set_option maxRecDepth 100000 in
theorem bm_sameBytes_52_0 {p : Program} {l : Launch} {e : Env} {s : State} {m : MethodId} {args : Array Value} {below : List Frame} {meth : Method} {c : Code} {Q : State → Prop} {A : Nat → Prop} {dC : Nat → ClassId} {dI : Nat → Nat → Nat} {h0 : Nat} {kB kI kZ : ClassId} {q : Nat → Nat} {g : Nat → Int32} {F : Nat → Nat → Int32} {H : Heap} {locs : List Loc} {ls : Array Slot} (p1 : Int32) (p2 : Int32) (p4 : Int32) (p5 : Int32) (hx : p.tables.exec = Jvm.exec) (hb : c.code = cX12_sameBytes) (hml : c.maxLocals = 7) (hown : s.vm.findClass RX12 = some m.cls) (hts : ∀ w ∈ vmX12_sameBytes, w.before args s = true) (hA : ∀ q : Nat, s.heap.size ≤ q → A q) (hK : va_K (dC, dI) vwCl (mT kB kI kZ) s) (hI : MInv g F) (hq0 : (0 ≤ p1.toInt ∧ p1.toInt + p2.toInt ≤ 201600)) (hq1 : (0 ≤ p4.toInt ∧ p4.toInt + p5.toInt ≤ 2000)) (hP : va_P (dC, dI) vwCl (mW h0 kB kI kZ q g F) H) (hD : va_D A (mW h0 kB kI kZ q g F)) (hS : va_S A s.heap H locs) (hl : lv_has ls 7 [(0, .ref (q 52)), (1, .int p1), (2, .int p2), (3, .ref (q 0)), (4, .int p4), (5, .int p5)])
    (K : ∀ (pc : Nat) (ls : Array Slot) (r : Int32) (u : ((Nat → Int32) × (Nat → Nat → Int32))) (H : Heap) (locs : List Loc), decode cX12_sameBytes pc = .ok (.ireturn, 1) → (((0 ≤ r.toInt ∧ r.toInt ≤ 1))) → va_P (dC, dI) vwCl (mW h0 kB kI kZ q g F) H → va_D A (mW h0 kB kI kZ q g F) → va_S A s.heap H locs → W p l e ({ frames := 2, cells := 0, slots := 0, locals := 60 } : Room) s m args below meth c H locs 0 0 Q (F0 m pc ls [.int r])) : W p l e ({ frames := 2, cells := 0, slots := 0, locals := 60 } : Room) s m args below meth c H locs 0 0 Q (F0 m 0 ls []) := by
  obtain ⟨hg1z, hg2z, hg3z, hg4z, hg5z, hg6z, hg7z, hg8z, hg9z, hg23z, hg27z, hg30z, hg34z, hg36z, hg39z, hg44z, hg47z, hg48z, hg51z, hg56z, hg59z, hg62z, hg65z, hg66z, hg70z, hF11z, hF12z, hF13z, hF15z, hF19z, hF21z, hF24z, hF25z, hF26z, hF33z, hF38z, hF41z, hF43z, hF45z, hF46z, hF50z, hF53z, hF54z⟩ := hI
  have zk0 : (0 : Int32).toInt = 0 := by decide +kernel
  have zk1 : (1 : Int32).toInt = 1 := by decide +kernel
  refine lv_iload_n hx hb dX12_sameBytes_0 rfl (lv_at hl 2 rfl) ?_
  refine lv_iload hx hb dX12_sameBytes_1 (lv_at hl 5 rfl) ?_
  refine lv_icmp_eq (tgt := 8) hx hb dX12_sameBytes_3 (by decide) (fun c475 => ?_) (fun c475 => ?_)
  · have c475 := congrArg Int32.toInt c475
    refine lv_iconst (v := 0) hx hb dX12_sameBytes_8 (by decide +kernel) ?_
    refine lv_istore (lv' := [(6, .int 0), (0, .ref (q 52)), (1, .int p1), (2, .int p2), (3, .ref (q 0)), (4, .int p4), (5, .int p5)]) hx hb dX12_sameBytes_9 hl (by decide) rfl (fun ls hl => ?_)
    have lp11 : ∀ (n11 : Nat) (x476 : Int32) (gl477 : Nat → Int32) (fl478 : Nat → Nat → Int32) (H : Heap) (locs : List Loc) (ls : Array Slot), (p2.toInt - x476.toInt).toNat < n11 → 0 ≤ x476.toInt → va_P (dC, dI) vwCl (mW h0 kB kI kZ q g F) H → va_D A (mW h0 kB kI kZ q g F) → va_S A s.heap H locs → lv_has ls 7 [(6, .int x476), (0, .ref (q 52)), (1, .int p1), (2, .int p2), (3, .ref (q 0)), (4, .int p4), (5, .int p5)] → W p l e ({ frames := 2, cells := 0, slots := 0, locals := 60 } : Room) s m args below meth c H locs 0 0 Q (F0 m 11 ls []) := by
      intro n11
      induction n11 with
      | zero => intro x476 gl477 fl478 H locs ls hm; exact absurd hm (Nat.not_lt_zero _)
      | succ n11 ih11 =>
        intro x476 gl477 fl478 H locs ls hm11 f479 hP hD hS hl
        refine lv_iload hx hb dX12_sameBytes_11 (lv_at hl 0 rfl) ?_
        refine lv_iload_n hx hb dX12_sameBytes_13 rfl (lv_at hl 3 rfl) ?_
        refine lv_icmp_ge (tgt := 41) hx hb dX12_sameBytes_14 (by decide) (fun c480 => ?_) (fun c480 => ?_)
        · have c480 := (z_le _ _).mp c480
          refine lv_iconst (v := 1) hx hb dX12_sameBytes_41 (by decide +kernel) ?_
          exact K 42 ls 1 (g, F) H _ dX12_sameBytes_42 (show (0 ≤ (1 : Int32).toInt ∧ (1 : Int32).toInt ≤ 1) from by omega) hP hD hS
        · have c480 := z_nle c480
          refine lv_aload_n hx hb dX12_sameBytes_17 rfl (lv_at hl 1 rfl) ?_
          refine lv_iload_n hx hb dX12_sameBytes_18 rfl (lv_at hl 2 rfl) ?_
          refine lv_iload hx hb dX12_sameBytes_19 (lv_at hl 0 rfl) ?_
          refine lv_iadd hx hb dX12_sameBytes_21 ?_
          refine lv_topi (fun x481 ex481 => ?_)
          have fx481 : x481.toInt = p1.toInt + x476.toInt := by have h := @z_add p1 x476 (by omega) (by omega); rw [← ex481] at h; omega
          clear ex481
          refine va_bald hx hb hK hP 33 0 rfl rfl (z_in (i := x481) (by omega) (by omega)) dX12_sameBytes_22 ?_
          refine lv_topi (fun x482 ex482 => ?_)
          clear ex482
          refine lv_aload_n hx hb dX12_sameBytes_23 rfl (lv_at hl 4 rfl) ?_
          refine lv_iload hx hb dX12_sameBytes_24 (lv_at hl 5 rfl) ?_
          refine lv_iload hx hb dX12_sameBytes_26 (lv_at hl 0 rfl) ?_
          refine lv_iadd hx hb dX12_sameBytes_28 ?_
          refine lv_topi (fun x483 ex483 => ?_)
          have fx483 : x483.toInt = p4.toInt + x476.toInt := by have h := @z_add p4 x476 (by omega) (by omega); rw [← ex483] at h; omega
          clear ex483
          refine va_bald hx hb hK hP 1 0 rfl rfl (z_in (i := x483) (by omega) (by omega)) dX12_sameBytes_29 ?_
          refine lv_topi (fun x484 ex484 => ?_)
          clear ex484
          refine lv_icmp_eq (tgt := 35) hx hb dX12_sameBytes_30 (by decide) (fun c485 => ?_) (fun c485 => ?_)
          · have c485 := congrArg Int32.toInt c485
            obtain ⟨x486, ex486⟩ : ∃ y : Int32, y = x476 + 1 := ⟨_, rfl⟩
            have fx486 : x486.toInt = x476.toInt + (1) := by rw [ex486, z_add (by omega) (by omega)]; omega
            refine lv_iinc (v := x486) (lv' := [(6, .int x486), (0, .ref (q 52)), (1, .int p1), (2, .int p2), (3, .ref (q 0)), (4, .int p4), (5, .int p5)]) hx hb dX12_sameBytes_35 hl (k := 0) rfl (by rw [ex486]; rfl) (by decide) rfl (fun ls hl => ?_)
            clear ex486
            refine lv_goto (tgt := 11) hx hb dX12_sameBytes_38 (by decide) ?_
            exact ih11 x486 g F H _ ls (show (p2.toInt - x486.toInt).toNat < n11 from by omega) (show 0 ≤ x486.toInt from by omega) hP hD hS (lv_sub hl [0, 1, 2, 3, 4, 5, 6] rfl)
          · have c485 := z_ne c485
            refine lv_iconst (v := 0) hx hb dX12_sameBytes_33 (by decide +kernel) ?_
            exact K 34 ls 0 (g, F) H _ dX12_sameBytes_34 (show (0 ≤ (0 : Int32).toInt ∧ (0 : Int32).toInt ≤ 1) from by omega) hP hD hS
    exact lp11 ((p2.toInt - (0 : Int32).toInt).toNat + 1) 0 g F H _ ls (Nat.lt_succ_self _) (show 0 ≤ (0 : Int32).toInt from by omega) hP hD hS (lv_sub hl [0, 1, 2, 3, 4, 5, 6] rfl)
  · have c475 := z_ne c475
    refine lv_iconst (v := 0) hx hb dX12_sameBytes_6 (by decide +kernel) ?_
    exact K 7 ls 0 (g, F) H _ dX12_sameBytes_7 (show (0 ≤ (0 : Int32).toInt ∧ (0 : Int32).toInt ≤ 1) from by omega) hP hD hS
set_option maxHeartbeats 4000000 in
set_option maxRecDepth 100000 in
theorem m_sameBytes_52_0 (l : Launch) (dC : Nat → ClassId) (dI : Nat → Nat → Nat) (sz : Nat) (h0 : Nat) (kB kI kZ : ClassId) (q : Nat → Nat) (g : Nat → Int32) (F : Nat → Nat → Int32) (p1 : Int32) (p2 : Int32) (p4 : Int32) (p5 : Int32) (hI : MInv g F) (hq0 : (0 ≤ p1.toInt ∧ p1.toInt + p2.toInt ≤ 201600)) (hq1 : (0 ≤ p4.toInt ∧ p4.toInt + p5.toInt ≤ 2000)) : Met l yX12_sameBytes vmX12_sameBytes ({ frames := 2, cells := 0, slots := 0, locals := 60 } : Room) (va_Pc [.ref (q 52), .int p1, .int p2, .ref (q 0), .int p4, .int p5] (fun U => U.heap.size = sz ∧ va_P (dC, dI) vwCl (mW h0 kB kI kZ q g F) U.heap ∧ va_K (dC, dI) vwCl (mT kB kI kZ) U ∧ va_D (fun _ => True) (mW h0 kB kI kZ q g F))) (va_Qi (fun (r : Int32) (u : ((Nat → Int32) × (Nat → Nat → Int32))) => ((0 ≤ r.toInt ∧ r.toInt ≤ 1))) (fun u t => va_P (dC, dI) vwCl (mW h0 kB kI kZ q g F) t.heap ∧ va_K (dC, dI) vwCl (mT kB kI kZ) t ∧ va_D (va_A (mW h0 kB kI kZ q g F) sz) (mW h0 kB kI kZ q g F)) (va_A (mW h0 kB kI kZ q g F) sz)) 0 0 (va_A (mW h0 kB kI kZ q g F) sz) := by
  refine Met.ofW (cc := cX12_sameBytes) (maxL := 7) (ret := (some .boolean)) (by decide) rfl ?_
  intro p e s m args below meth c s₁ B hml hv
  obtain ⟨rfl, hsz, hP, hK, hD0⟩ := hv
  have hx := B.exec
  have hb := B.bytes
  have hr := B.returns
  have hts := atoms_spec (ws := vmX12_sameBytes) B.pre
  have hown : s.vm.findClass RX12 = some m.cls := findClass_of_methodNamed B.named
  subst hsz
  have hD := hD0.self (sz := s.heap.size)
  generalize hAe : va_A (mW h0 kB kI kZ q g F) s.heap.size = A at hD ⊢
  have hA : ∀ q : Nat, s.heap.size ≤ q → A q := fun q h => by rw [← hAe]; exact Or.inr h
  have hS : va_S A s.heap s.heap [] := va_S.rf
  have hl := lv_entry ([.ref (q 52), .int p1, .int p2, .ref (q 0), .int p4, .int p5]) (n := 7) (Nat.le_of_ble_eq_true rfl)
  rw [lg_entry_eq]
  generalize (lg_sl ([.ref (q 52), .int p1, .int p2, .ref (q 0), .int p4, .int p5]) ++ List.replicate (7 - (lg_sl ([.ref (q 52), .int p1, .int p2, .ref (q 0), .int p4, .int p5])).length) Slot.unset).toArray = ls at hl ⊢
  exact bm_sameBytes_52_0 p1 p2 p4 p5 hx hb hml hown hts hA hK hI hq0 hq1 hP hD hS hl (fun pc ls r u H locs hd hw hP hD hS => W.zret (v := r) hx hb hr (z_nb (by have := hw; omega)) (fun t ht hW => ⟨⟨r, u, rfl, hw, by rw [ht]; exact hP, va_K.moved hW.alike hK, hD⟩, hS.F ht⟩) hS.2.2 hd)
set_option maxHeartbeats 4000000 in
set_option maxRecDepth 100000 in
theorem bm_hasForm_0 {p : Program} {l : Launch} {e : Env} {s : State} {m : MethodId} {args : Array Value} {below : List Frame} {meth : Method} {c : Code} {Q : State → Prop} {A : Nat → Prop} {dC : Nat → ClassId} {dI : Nat → Nat → Nat} {h0 : Nat} {kB kI kZ : ClassId} {q : Nat → Nat} {g : Nat → Int32} {F : Nat → Nat → Int32} {H : Heap} {locs : List Loc} {ls : Array Slot} (p0 : Int32) (p1 : Int32) (p3 : Int32) (p4 : Int32) (hx : p.tables.exec = Jvm.exec) (hb : c.code = cX12_hasForm) (hml : c.maxLocals = 7) (hown : s.vm.findClass RX12 = some m.cls) (hts : ∀ w ∈ vmX12_hasForm, w.before args s = true) (hA : ∀ q : Nat, s.heap.size ≤ q → A q) (hK : va_K (dC, dI) vwCl (mT kB kI kZ) s) (hI : MInv g F) (hq0 : (0 ≤ p0.toInt ∧ p0.toInt ≤ 99)) (hq1 : (0 ≤ p1.toInt ∧ p1.toInt ≤ 6)) (hq2 : (0 ≤ p3.toInt ∧ p3.toInt + p4.toInt ≤ 2000)) (hP : va_P (dC, dI) vwCl (mW h0 kB kI kZ q g F) H) (hD : va_D A (mW h0 kB kI kZ q g F)) (hS : va_S A s.heap H locs) (hl : lv_has ls 7 [(0, .ref h0), (1, .int p0), (2, .int p1), (3, .ref (q 0)), (4, .int p3), (5, .int p4)])
    (K : ∀ (pc : Nat) (ls : Array Slot) (r : Int32) (u : ((Nat → Int32) × (Nat → Nat → Int32))) (H : Heap) (locs : List Loc), decode cX12_hasForm pc = .ok (.ireturn, 1) → (((0 ≤ r.toInt ∧ r.toInt ≤ 1))) → va_P (dC, dI) vwCl (mW h0 kB kI kZ q g F) H → va_D A (mW h0 kB kI kZ q g F) → va_S A s.heap H locs → W p l e ({ frames := 3, cells := 0, slots := 0, locals := 86 } : Room) s m args below meth c H locs 0 0 Q (F0 m pc ls [.int r])) : W p l e ({ frames := 3, cells := 0, slots := 0, locals := 86 } : Room) s m args below meth c H locs 0 0 Q (F0 m 0 ls []) := by
  obtain ⟨hg1z, hg2z, hg3z, hg4z, hg5z, hg6z, hg7z, hg8z, hg9z, hg23z, hg27z, hg30z, hg34z, hg36z, hg39z, hg44z, hg47z, hg48z, hg51z, hg56z, hg59z, hg62z, hg65z, hg66z, hg70z, hF11z, hF12z, hF13z, hF15z, hF19z, hF21z, hF24z, hF25z, hF26z, hF33z, hF38z, hF41z, hF43z, hF45z, hF46z, hF50z, hF53z, hF54z⟩ := hI
  have zk0 : (0 : Int32).toInt = 0 := by decide +kernel
  have zk1 : (1 : Int32).toInt = 1 := by decide +kernel
  have zk7 : (7 : Int32).toInt = 7 := by decide +kernel
  have zk12 : (12 : Int32).toInt = 12 := by decide +kernel
  have zk24 : (24 : Int32).toInt = 24 := by decide +kernel
  refine lv_bipush (v := 12) hx hb dX12_hasForm_0 (by decide +kernel) ?_
  refine lv_bipush (v := 7) hx hb dX12_hasForm_2 (by decide +kernel) ?_
  refine lv_iload_n hx hb dX12_hasForm_4 rfl (lv_at hl 1 rfl) ?_
  refine lv_imul hx hb dX12_hasForm_5 ?_
  refine lv_topi (fun x458 ex458 => ?_)
  have fx458 : x458.toInt = 7 * p0.toInt := by rw [ex458, z_mul (by simp only [zk7]; omega) (by simp only [zk7]; omega)]; simp only [zk7]
  clear ex458
  refine lv_iload_n hx hb dX12_hasForm_6 rfl (lv_at hl 2 rfl) ?_
  refine lv_iadd hx hb dX12_hasForm_7 ?_
  refine lv_topi (fun x459 ex459 => ?_)
  have fx459 : x459.toInt = x458.toInt + p1.toInt := by have h := @z_add x458 p1 (by omega) (by omega); rw [← ex459] at h; omega
  clear ex459
  refine lv_imul hx hb dX12_hasForm_8 ?_
  refine lv_topi (fun x460 ex460 => ?_)
  have fx460 : x460.toInt = 12 * x459.toInt := by rw [ex460, z_mul (by simp only [zk12]; omega) (by simp only [zk12]; omega)]; simp only [zk12]
  clear ex460
  refine lv_istore (lv' := [(6, .int x460), (0, .ref h0), (1, .int p0), (2, .int p1), (3, .ref (q 0)), (4, .int p3), (5, .int p4)]) hx hb dX12_hasForm_9 hl (by decide) rfl (fun ls hl => ?_)
  have lp11 : ∀ (n11 : Nat) (x461 : Int32) (gl462 : Nat → Int32) (fl463 : Nat → Nat → Int32) (H : Heap) (locs : List Loc) (ls : Array Slot), (84 * p0.toInt + 12 * p1.toInt + 12 - x461.toInt).toNat < n11 → (84 * p0.toInt + 12 * p1.toInt ≤ x461.toInt ∧ x461.toInt ≤ 84 * p0.toInt + 12 * p1.toInt + 12) → va_P (dC, dI) vwCl (mW h0 kB kI kZ q g F) H → va_D A (mW h0 kB kI kZ q g F) → va_S A s.heap H locs → lv_has ls 7 [(6, .int x461), (0, .ref h0), (1, .int p0), (2, .int p1), (3, .ref (q 0)), (4, .int p3), (5, .int p4)] → W p l e ({ frames := 3, cells := 0, slots := 0, locals := 86 } : Room) s m args below meth c H locs 0 0 Q (F0 m 11 ls []) := by
    intro n11
    induction n11 with
    | zero => intro x461 gl462 fl463 H locs ls hm; exact absurd hm (Nat.not_lt_zero _)
    | succ n11 ih11 =>
      intro x461 gl462 fl463 H locs ls hm11 f464 hP hD hS hl
      refine lv_iload hx hb dX12_hasForm_11 (lv_at hl 0 rfl) ?_
      refine lv_bipush (v := 12) hx hb dX12_hasForm_13 (by decide +kernel) ?_
      refine lv_bipush (v := 7) hx hb dX12_hasForm_15 (by decide +kernel) ?_
      refine lv_iload_n hx hb dX12_hasForm_17 rfl (lv_at hl 2 rfl) ?_
      refine lv_imul hx hb dX12_hasForm_18 ?_
      refine lv_topi (fun x465 ex465 => ?_)
      have fx465 : x465.toInt = 7 * p0.toInt := by rw [ex465, z_mul (by simp only [zk7]; omega) (by simp only [zk7]; omega)]; simp only [zk7]
      clear ex465
      refine lv_iload_n hx hb dX12_hasForm_19 rfl (lv_at hl 3 rfl) ?_
      refine lv_iadd hx hb dX12_hasForm_20 ?_
      refine lv_topi (fun x466 ex466 => ?_)
      have fx466 : x466.toInt = x465.toInt + p1.toInt := by have h := @z_add x465 p1 (by omega) (by omega); rw [← ex466] at h; omega
      clear ex466
      refine lv_imul hx hb dX12_hasForm_21 ?_
      refine lv_topi (fun x467 ex467 => ?_)
      have fx467 : x467.toInt = 12 * x466.toInt := by rw [ex467, z_mul (by simp only [zk12]; omega) (by simp only [zk12]; omega)]; simp only [zk12]
      clear ex467
      refine lv_aload_n hx hb dX12_hasForm_22 rfl (lv_at hl 1 rfl) ?_
      refine va_get (D := (dC, dI)) (ci := 12) (v := .ref (q 54)) (C := RX12) (T := TX12) (N := 71) hx hb hts (fun _ h => List.mem_append_right _ h) hown hK hP 0 rfl rfl 54 (by decide) (hts (.fieldLink RX12 119 "SpellTurnerModel" "formMany" "[I") (List.mem_of_getElem? (i := 1) rfl)) (fun _ h9 => h9) rfl dX12_hasForm_23 ?_
      refine lv_bipush (v := 7) hx hb dX12_hasForm_26 (by decide +kernel) ?_
      refine lv_iload_n hx hb dX12_hasForm_28 rfl (lv_at hl 2 rfl) ?_
      refine lv_imul hx hb dX12_hasForm_29 ?_
      refine lv_topi (fun x468 ex468 => ?_)
      have fx468 : x468.toInt = 7 * p0.toInt := by rw [ex468, z_mul (by simp only [zk7]; omega) (by simp only [zk7]; omega)]; simp only [zk7]
      clear ex468
      refine lv_iload_n hx hb dX12_hasForm_30 rfl (lv_at hl 3 rfl) ?_
      refine lv_iadd hx hb dX12_hasForm_31 ?_
      refine lv_topi (fun x469 ex469 => ?_)
      have fx469 : x469.toInt = x468.toInt + p1.toInt := by have h := @z_add x468 p1 (by omega) (by omega); rw [← ex469] at h; omega
      clear ex469
      refine va_iald hx hb hK hP 35 1 rfl rfl (z_in (i := x469) (by omega) (by omega)) dX12_hasForm_32 ?_
      refine lv_topi (fun x470 ex470 => ?_)
      have kx470 : x470.toInt = ((F 54) (Int32.toNatClampNeg x469)).toInt := congrArg Int32.toInt ex470
      have fx470 := hF54z (Int32.toNatClampNeg x469)
      clear ex470
      refine lv_iadd hx hb dX12_hasForm_33 ?_
      refine lv_topi (fun x471 ex471 => ?_)
      have fx471 : x471.toInt = x467.toInt + x470.toInt := by have h := @z_add x467 x470 (by omega) (by omega); rw [← ex471] at h; omega
      clear ex471
      refine lv_icmp_ge (tgt := 72) hx hb dX12_hasForm_34 (by decide) (fun c472 => ?_) (fun c472 => ?_)
      · have c472 := (z_le _ _).mp c472
        refine lv_iconst (v := 0) hx hb dX12_hasForm_72 (by decide +kernel) ?_
        exact K 73 ls 0 (g, F) H _ dX12_hasForm_73 (show (0 ≤ (0 : Int32).toInt ∧ (0 : Int32).toInt ≤ 1) from by omega) hP hD hS
      · have c472 := z_nle c472
        refine lv_aload_n hx hb dX12_hasForm_37 rfl (lv_at hl 1 rfl) ?_
        refine va_get (D := (dC, dI)) (ci := 12) (v := .ref (q 52)) (C := RX12) (T := TX12) (N := 71) hx hb hts (fun _ h => List.mem_append_right _ h) hown hK hP 0 rfl rfl 52 (by decide) (hts (.fieldLink RX12 113 "SpellTurnerModel" "formText" "[B") (List.mem_of_getElem? (i := 2) rfl)) (fun _ h9 => h9) rfl dX12_hasForm_38 ?_
        refine lv_bipush (v := 24) hx hb dX12_hasForm_41 (by decide +kernel) ?_
        refine lv_iload hx hb dX12_hasForm_43 (lv_at hl 0 rfl) ?_
        refine lv_imul hx hb dX12_hasForm_45 ?_
        refine lv_topi (fun x473 ex473 => ?_)
        have fx473 : x473.toInt = 24 * x461.toInt := by rw [ex473, z_mul (by simp only [zk24]; omega) (by simp only [zk24]; omega)]; simp only [zk24]
        clear ex473
        refine lv_aload_n hx hb dX12_hasForm_46 rfl (lv_at hl 1 rfl) ?_
        refine va_get (D := (dC, dI)) (ci := 12) (v := .ref (q 53)) (C := RX12) (T := TX12) (N := 71) hx hb hts (fun _ h => List.mem_append_right _ h) hown hK hP 0 rfl rfl 53 (by decide) (hts (.fieldLink RX12 116 "SpellTurnerModel" "formSize" "[I") (List.mem_of_getElem? (i := 3) rfl)) (fun _ h9 => h9) rfl dX12_hasForm_47 ?_
        refine lv_iload hx hb dX12_hasForm_50 (lv_at hl 0 rfl) ?_
        refine va_iald hx hb hK hP 34 1 rfl rfl (z_in (i := x461) (by omega) (by omega)) dX12_hasForm_52 ?_
        refine lv_topi (fun x474 ex474 => ?_)
        have kx474 : x474.toInt = ((F 53) (Int32.toNatClampNeg x461)).toInt := congrArg Int32.toInt ex474
        have fx474 := hF53z (Int32.toNatClampNeg x461)
        clear ex474
        refine lv_aload_n hx hb dX12_hasForm_53 rfl (lv_at hl 4 rfl) ?_
        refine lv_iload hx hb dX12_hasForm_54 (lv_at hl 5 rfl) ?_
        refine lv_iload hx hb dX12_hasForm_56 (lv_at hl 6 rfl) ?_
        have hFc := va_free (wc := (mW h0 kB kI kZ q g F)) hD hS hA [0, 1, 2, 3, 4, 5, 6, 7, 8, 9, 10, 11, 12, 13, 14, 15, 16, 17, 18, 19, 20, 21, 22, 23, 24, 25, 26, 27, 28, 29, 30, 31, 32, 33, 34, 35, 36, 37, 38, 39, 40, 41, 42, 43, 44, 45] rfl
        refine va_calli (va_runS (As := [.ref (q 52), .int x473, .int x474, .ref (q 0), .int p3, .int p4]) (rest := []) ⟨hx, hb, hml, hown, hts⟩ (m_sameBytes_52_0 l dC dI H.size h0 kB kI kZ q g F x473 x474 p3 p4 ⟨hg1z, hg2z, hg3z, hg4z, hg5z, hg6z, hg7z, hg8z, hg9z, hg23z, hg27z, hg30z, hg34z, hg36z, hg39z, hg44z, hg47z, hg48z, hg51z, hg56z, hg59z, hg62z, hg65z, hg66z, hg70z, hF11z, hF12z, hF13z, hF15z, hF19z, hF21z, hF24z, hF25z, hF26z, hF33z, hF38z, hF41z, hF43z, hF45z, hF46z, hF50z, hF53z, hF54z⟩ (show (0 ≤ x473.toInt ∧ x473.toInt + x474.toInt ≤ 201600) from by omega) (show (0 ≤ p3.toInt ∧ p3.toInt + p4.toInt ≤ 2000) from by omega)) (va_cwS 6 hts gw_X12_hasForm_X12_sameBytes_273 rfl rfl rfl (by decide +kernel) ⟨Nat.le_of_ble_eq_true rfl, Nat.le_of_ble_eq_true rfl⟩) ⟨fun a U g mk q => by obtain ⟨q0, q1, qP, qK, qD⟩ := q; exact ⟨q0, q1, qP, va_K.moved (u := U) (U := U.calling g mk a) (Vm.Alike.refl U.vm) qK, qD⟩, fun U hU hW => ⟨rfl, by rw [hU], by rw [hU]; exact hP, va_K.moved hW.alike hK, hD.weaken (fun _ _ _ _ => trivial)⟩⟩ rfl rfl hl.1 rfl (lv_room (Nat.le_of_ble_eq_true rfl)) dX12_hasForm_58 ⟨Nat.le_of_ble_eq_true rfl, Nat.le_of_ble_eq_true rfl⟩) hS (fun q _ h => hFc q h) hFc (fun r487 u t H1 locs ht hvm hw hB hz1 hk1 hS => ?_)
        obtain ⟨ga488, fa489⟩ := u
        obtain ⟨hP1, hK1, hD1⟩ := hB
        rw [ht] at hP1
        obtain ⟨hP, hD⟩ := va_join (wr := []) (w1 := (mW h0 kB kI kZ q g F)) hP hD [0, 1, 2, 3, 4, 5, 6, 7, 8, 9, 10, 11, 12, 13, 14, 15, 16, 17, 18, 19, 20, 21, 22, 23, 24, 25, 26, 27, 28, 29, 30, 31, 32, 33, 34, 35, 36, 37, 38, 39, 40, 41, 42, 43, 44, 45] [] rfl rfl (by decide) (by decide) hk1 hFc hP1 hD1
        generalize H1 = H at hP hS ⊢
        have hP : va_P (dC, dI) vwCl (mW h0 kB kI kZ q g F) H := hP
        have hD : va_D A (mW h0 kB kI kZ q g F) := hD
        have f490 : (0 ≤ r487.toInt ∧ r487.toInt ≤ 1) := hw
        refine lv_if_eq (tgt := 66) hx hb dX12_hasForm_61 (by decide) (fun c491 => ?_) (fun c491 => ?_)
        · have c491 := congrArg Int32.toInt c491
          obtain ⟨x492, ex492⟩ : ∃ y : Int32, y = x461 + 1 := ⟨_, rfl⟩
          have fx492 : x492.toInt = x461.toInt + (1) := by rw [ex492, z_add (by omega) (by omega)]; omega
          refine lv_iinc (v := x492) (lv' := [(6, .int x492), (0, .ref h0), (1, .int p0), (2, .int p1), (3, .ref (q 0)), (4, .int p3), (5, .int p4)]) hx hb dX12_hasForm_66 hl (k := 0) rfl (by rw [ex492]; rfl) (by decide) rfl (fun ls hl => ?_)
          clear ex492
          refine lv_goto (tgt := 11) hx hb dX12_hasForm_69 (by decide) ?_
          exact ih11 x492 g F H _ ls (show (84 * p0.toInt + 12 * p1.toInt + 12 - x492.toInt).toNat < n11 from by omega) (show (84 * p0.toInt + 12 * p1.toInt ≤ x492.toInt ∧ x492.toInt ≤ 84 * p0.toInt + 12 * p1.toInt + 12) from by omega) hP hD hS (lv_sub hl [0, 1, 2, 3, 4, 5, 6] rfl)
        · have c491 := z_ne c491
          refine lv_iconst (v := 1) hx hb dX12_hasForm_64 (by decide +kernel) ?_
          exact K 65 ls 1 (g, F) H _ dX12_hasForm_65 (show (0 ≤ (1 : Int32).toInt ∧ (1 : Int32).toInt ≤ 1) from by omega) hP hD hS
  exact lp11 ((84 * p0.toInt + 12 * p1.toInt + 12 - x460.toInt).toNat + 1) x460 g F H _ ls (Nat.lt_succ_self _) (show (84 * p0.toInt + 12 * p1.toInt ≤ x460.toInt ∧ x460.toInt ≤ 84 * p0.toInt + 12 * p1.toInt + 12) from by omega) hP hD hS (lv_sub hl [0, 1, 2, 3, 4, 5, 6] rfl)
set_option maxHeartbeats 4000000 in
set_option maxRecDepth 100000 in
theorem m_hasForm_0 (l : Launch) (dC : Nat → ClassId) (dI : Nat → Nat → Nat) (sz : Nat) (h0 : Nat) (kB kI kZ : ClassId) (q : Nat → Nat) (g : Nat → Int32) (F : Nat → Nat → Int32) (p0 : Int32) (p1 : Int32) (p3 : Int32) (p4 : Int32) (hI : MInv g F) (hq0 : (0 ≤ p0.toInt ∧ p0.toInt ≤ 99)) (hq1 : (0 ≤ p1.toInt ∧ p1.toInt ≤ 6)) (hq2 : (0 ≤ p3.toInt ∧ p3.toInt + p4.toInt ≤ 2000)) : Met l yX12_hasForm vmX12_hasForm ({ frames := 3, cells := 0, slots := 0, locals := 86 } : Room) (va_Pc [.ref h0, .int p0, .int p1, .ref (q 0), .int p3, .int p4] (fun U => U.heap.size = sz ∧ va_P (dC, dI) vwCl (mW h0 kB kI kZ q g F) U.heap ∧ va_K (dC, dI) vwCl (mT kB kI kZ) U ∧ va_D (fun _ => True) (mW h0 kB kI kZ q g F))) (va_Qi (fun (r : Int32) (u : ((Nat → Int32) × (Nat → Nat → Int32))) => ((0 ≤ r.toInt ∧ r.toInt ≤ 1))) (fun u t => va_P (dC, dI) vwCl (mW h0 kB kI kZ q g F) t.heap ∧ va_K (dC, dI) vwCl (mT kB kI kZ) t ∧ va_D (va_A (mW h0 kB kI kZ q g F) sz) (mW h0 kB kI kZ q g F)) (va_A (mW h0 kB kI kZ q g F) sz)) 0 0 (va_A (mW h0 kB kI kZ q g F) sz) := by
  refine Met.ofW (cc := cX12_hasForm) (maxL := 7) (ret := (some .boolean)) (by decide) rfl ?_
  intro p e s m args below meth c s₁ B hml hv
  obtain ⟨rfl, hsz, hP, hK, hD0⟩ := hv
  have hx := B.exec
  have hb := B.bytes
  have hr := B.returns
  have hts := atoms_spec (ws := vmX12_hasForm) B.pre
  have hown : s.vm.findClass RX12 = some m.cls := findClass_of_methodNamed B.named
  subst hsz
  have hD := hD0.self (sz := s.heap.size)
  generalize hAe : va_A (mW h0 kB kI kZ q g F) s.heap.size = A at hD ⊢
  have hA : ∀ q : Nat, s.heap.size ≤ q → A q := fun q h => by rw [← hAe]; exact Or.inr h
  have hS : va_S A s.heap s.heap [] := va_S.rf
  have hl := lv_entry ([.ref h0, .int p0, .int p1, .ref (q 0), .int p3, .int p4]) (n := 7) (Nat.le_of_ble_eq_true rfl)
  rw [lg_entry_eq]
  generalize (lg_sl ([.ref h0, .int p0, .int p1, .ref (q 0), .int p3, .int p4]) ++ List.replicate (7 - (lg_sl ([.ref h0, .int p0, .int p1, .ref (q 0), .int p3, .int p4])).length) Slot.unset).toArray = ls at hl ⊢
  exact bm_hasForm_0 p0 p1 p3 p4 hx hb hml hown hts hA hK hI hq0 hq1 hq2 hP hD hS hl (fun pc ls r u H locs hd hw hP hD hS => W.zret (v := r) hx hb hr (z_nb (by have := hw; omega)) (fun t ht hW => ⟨⟨r, u, rfl, hw, by rw [ht]; exact hP, va_K.moved hW.alike hK, hD⟩, hS.F ht⟩) hS.2.2 hd)
set_option maxHeartbeats 4000000 in
set_option maxRecDepth 100000 in
theorem bm_isKnown {p : Program} {l : Launch} {e : Env} {s : State} {m : MethodId} {args : Array Value} {below : List Frame} {meth : Method} {c : Code} {Q : State → Prop} {A : Nat → Prop} {dC : Nat → ClassId} {dI : Nat → Nat → Nat} {h0 : Nat} {kB kI kZ : ClassId} {q : Nat → Nat} {g : Nat → Int32} {F : Nat → Nat → Int32} {H : Heap} {locs : List Loc} {ls : Array Slot} (p0 : Int32) (p1 : Int32) (p2 : Int32) (hx : p.tables.exec = Jvm.exec) (hb : c.code = cX12_isKnown) (hml : c.maxLocals = 5) (hown : s.vm.findClass RX12 = some m.cls) (hts : ∀ w ∈ vmX12_isKnown, w.before args s = true) (hA : ∀ q : Nat, s.heap.size ≤ q → A q) (hK : va_K (dC, dI) vwCl (mT kB kI kZ) s) (hI : MInv g F) (hq0 : (0 ≤ p0.toInt ∧ p0.toInt ≤ 6)) (hq1 : (0 ≤ p1.toInt ∧ p1.toInt ≤ p2.toInt ∧ p2.toInt ≤ 2000)) (hP : va_P (dC, dI) vwCl (mW h0 kB kI kZ q g F) H) (hD : va_D A (mW h0 kB kI kZ q g F)) (hS : va_S A s.heap H locs) (hl : lv_has ls 5 [(0, .ref h0), (1, .int p0), (2, .int p1), (3, .int p2)])
    (K : ∀ (pc : Nat) (ls : Array Slot) (r : Int32) (u : ((Nat → Int32) × (Nat → Nat → Int32))) (H : Heap) (locs : List Loc), decode cX12_isKnown pc = .ok (.ireturn, 1) → (((0 ≤ r.toInt ∧ r.toInt ≤ 1))) → va_P (dC, dI) vwCl (mW h0 kB kI kZ q g F) H → va_D A (mW h0 kB kI kZ q g F) → va_S A s.heap H locs → W p l e ({ frames := 4, cells := 0, slots := 0, locals := 112 } : Room) s m args below meth c H locs 0 0 Q (F0 m pc ls [.int r])) : W p l e ({ frames := 4, cells := 0, slots := 0, locals := 112 } : Room) s m args below meth c H locs 0 0 Q (F0 m 0 ls []) := by
  obtain ⟨hg1z, hg2z, hg3z, hg4z, hg5z, hg6z, hg7z, hg8z, hg9z, hg23z, hg27z, hg30z, hg34z, hg36z, hg39z, hg44z, hg47z, hg48z, hg51z, hg56z, hg59z, hg62z, hg65z, hg66z, hg70z, hF11z, hF12z, hF13z, hF15z, hF19z, hF21z, hF24z, hF25z, hF26z, hF33z, hF38z, hF41z, hF43z, hF45z, hF46z, hF50z, hF53z, hF54z⟩ := hI
  have zk0 : (0 : Int32).toInt = 0 := by decide +kernel
  have zk1 : (1 : Int32).toInt = 1 := by decide +kernel
  refine lv_iconst (v := 0) hx hb dX12_isKnown_0 (by decide +kernel) ?_
  refine lv_istore (lv' := [(4, .int 0), (0, .ref h0), (1, .int p0), (2, .int p1), (3, .int p2)]) hx hb dX12_isKnown_1 hl (by decide) rfl (fun ls hl => ?_)
  have lp3 : ∀ (n3 : Nat) (x452 : Int32) (gl453 : Nat → Int32) (fl454 : Nat → Nat → Int32) (H : Heap) (locs : List Loc) (ls : Array Slot), (100 - x452.toInt).toNat < n3 → (0 ≤ x452.toInt ∧ x452.toInt ≤ 100) → va_P (dC, dI) vwCl (mW h0 kB kI kZ q g F) H → va_D A (mW h0 kB kI kZ q g F) → va_S A s.heap H locs → lv_has ls 5 [(4, .int x452), (0, .ref h0), (1, .int p0), (2, .int p1), (3, .int p2)] → W p l e ({ frames := 4, cells := 0, slots := 0, locals := 112 } : Room) s m args below meth c H locs 0 0 Q (F0 m 3 ls []) := by
    intro n3
    induction n3 with
    | zero => intro x452 gl453 fl454 H locs ls hm; exact absurd hm (Nat.not_lt_zero _)
    | succ n3 ih3 =>
      intro x452 gl453 fl454 H locs ls hm3 f455 hP hD hS hl
      refine lv_iload hx hb dX12_isKnown_3 (lv_at hl 0 rfl) ?_
      refine lv_aload_n hx hb dX12_isKnown_5 rfl (lv_at hl 1 rfl) ?_
      refine va_get (D := (dC, dI)) (ci := 12) (v := .int (g 48)) (C := RX12) (T := TX12) (N := 71) hx hb hts (fun _ h => List.mem_append_right _ h) hown hK hP 0 rfl rfl 48 (by decide) (hts (.fieldLink RX12 312 "SpellTurnerModel" "words" "I") (List.mem_of_getElem? (i := 1) rfl)) (fun _ h9 => h9) rfl dX12_isKnown_6 ?_
      refine lv_icmp_ge (tgt := 38) hx hb dX12_isKnown_9 (by decide) (fun c456 => ?_) (fun c456 => ?_)
      · have c456 := (z_le _ _).mp c456
        refine lv_iconst (v := 0) hx hb dX12_isKnown_38 (by decide +kernel) ?_
        exact K 39 ls 0 (g, F) H _ dX12_isKnown_39 (show (0 ≤ (0 : Int32).toInt ∧ (0 : Int32).toInt ≤ 1) from by omega) hP hD hS
      · have c456 := z_nle c456
        refine lv_aload_n hx hb dX12_isKnown_12 rfl (lv_at hl 1 rfl) ?_
        refine lv_iload hx hb dX12_isKnown_13 (lv_at hl 0 rfl) ?_
        refine lv_iload_n hx hb dX12_isKnown_15 rfl (lv_at hl 2 rfl) ?_
        refine lv_aload_n hx hb dX12_isKnown_16 rfl (lv_at hl 1 rfl) ?_
        refine va_get (D := (dC, dI)) (ci := 12) (v := .ref (q 0)) (C := RX12) (T := TX12) (N := 71) hx hb hts (fun _ h => List.mem_append_right _ h) hown hK hP 0 rfl rfl 0 (by decide) (hts (.fieldLink RX12 7 "SpellTurnerModel" "tape" "[B") (List.mem_of_getElem? (i := 2) rfl)) (fun _ h9 => h9) rfl dX12_isKnown_17 ?_
        refine lv_iload_n hx hb dX12_isKnown_20 rfl (lv_at hl 3 rfl) ?_
        refine lv_iload_n hx hb dX12_isKnown_21 rfl (lv_at hl 4 rfl) ?_
        refine lv_iload_n hx hb dX12_isKnown_22 rfl (lv_at hl 3 rfl) ?_
        refine lv_isub hx hb dX12_isKnown_23 ?_
        refine lv_topi (fun x457 ex457 => ?_)
        have fx457 : x457.toInt = p2.toInt - p1.toInt := by have h := @z_sub p2 p1 (by omega) (by omega); rw [← ex457] at h; omega
        clear ex457
        have hFc := va_free (wc := (mW h0 kB kI kZ q g F)) hD hS hA [0, 1, 2, 3, 4, 5, 6, 7, 8, 9, 10, 11, 12, 13, 14, 15, 16, 17, 18, 19, 20, 21, 22, 23, 24, 25, 26, 27, 28, 29, 30, 31, 32, 33, 34, 35, 36, 37, 38, 39, 40, 41, 42, 43, 44, 45] rfl
        refine va_calli (va_runV (As := [.int x452, .int p0, .ref (q 0), .int p1, .int x457]) (rest := []) ⟨hx, hb, hml, hown, hts⟩ (m_hasForm_0 l dC dI H.size h0 kB kI kZ q g F x452 p0 p1 x457 ⟨hg1z, hg2z, hg3z, hg4z, hg5z, hg6z, hg7z, hg8z, hg9z, hg23z, hg27z, hg30z, hg34z, hg36z, hg39z, hg44z, hg47z, hg48z, hg51z, hg56z, hg59z, hg62z, hg65z, hg66z, hg70z, hF11z, hF12z, hF13z, hF15z, hF19z, hF21z, hF24z, hF25z, hF26z, hF33z, hF38z, hF41z, hF43z, hF45z, hF46z, hF50z, hF53z, hF54z⟩ (show (0 ≤ x452.toInt ∧ x452.toInt ≤ 99) from by omega) (show (0 ≤ p0.toInt ∧ p0.toInt ≤ 6) from by omega) (show (0 ≤ p1.toInt ∧ p1.toInt + x457.toInt ≤ 2000) from by omega)) (cwV 5 hts gw_X12_isKnown_X12_hasForm_321 rfl rfl rfl (by decide +kernel) ⟨Nat.le_of_ble_eq_true rfl, Nat.le_of_ble_eq_true rfl⟩) ⟨fun a U g mk q => by obtain ⟨q0, q1, qP, qK, qD⟩ := q; exact ⟨q0, q1, qP, va_K.moved (u := U) (U := U.calling g mk a) (Vm.Alike.refl U.vm) qK, qD⟩, va_recv hK hP (ci := 12) (q0 := 0) rfl rfl, fun U hU hW => ⟨rfl, by rw [hU], by rw [hU]; exact hP, va_K.moved hW.alike hK, hD.weaken (fun _ _ _ _ => trivial)⟩⟩ rfl rfl hl.1 rfl (lv_room (Nat.le_of_ble_eq_true rfl)) dX12_isKnown_24 ⟨Nat.le_of_ble_eq_true rfl, Nat.le_of_ble_eq_true rfl⟩) hS (fun q _ h => hFc q h) hFc (fun r493 u t H1 locs ht hvm hw hB hz1 hk1 hS => ?_)
        obtain ⟨ga494, fa495⟩ := u
        obtain ⟨hP1, hK1, hD1⟩ := hB
        rw [ht] at hP1
        obtain ⟨hP, hD⟩ := va_join (wr := []) (w1 := (mW h0 kB kI kZ q g F)) hP hD [0, 1, 2, 3, 4, 5, 6, 7, 8, 9, 10, 11, 12, 13, 14, 15, 16, 17, 18, 19, 20, 21, 22, 23, 24, 25, 26, 27, 28, 29, 30, 31, 32, 33, 34, 35, 36, 37, 38, 39, 40, 41, 42, 43, 44, 45] [] rfl rfl (by decide) (by decide) hk1 hFc hP1 hD1
        generalize H1 = H at hP hS ⊢
        have hP : va_P (dC, dI) vwCl (mW h0 kB kI kZ q g F) H := hP
        have hD : va_D A (mW h0 kB kI kZ q g F) := hD
        have f496 : (0 ≤ r493.toInt ∧ r493.toInt ≤ 1) := hw
        refine lv_if_eq (tgt := 32) hx hb dX12_isKnown_27 (by decide) (fun c497 => ?_) (fun c497 => ?_)
        · have c497 := congrArg Int32.toInt c497
          obtain ⟨x498, ex498⟩ : ∃ y : Int32, y = x452 + 1 := ⟨_, rfl⟩
          have fx498 : x498.toInt = x452.toInt + (1) := by rw [ex498, z_add (by omega) (by omega)]; omega
          refine lv_iinc (v := x498) (lv' := [(4, .int x498), (0, .ref h0), (1, .int p0), (2, .int p1), (3, .int p2)]) hx hb dX12_isKnown_32 hl (k := 0) rfl (by rw [ex498]; rfl) (by decide) rfl (fun ls hl => ?_)
          clear ex498
          refine lv_goto (tgt := 3) hx hb dX12_isKnown_35 (by decide) ?_
          exact ih3 x498 g F H _ ls (show (100 - x498.toInt).toNat < n3 from by omega) (show (0 ≤ x498.toInt ∧ x498.toInt ≤ 100) from by omega) hP hD hS (lv_sub hl [0, 1, 2, 3, 4] rfl)
        · have c497 := z_ne c497
          refine lv_iconst (v := 1) hx hb dX12_isKnown_30 (by decide +kernel) ?_
          exact K 31 ls 1 (g, F) H _ dX12_isKnown_31 (show (0 ≤ (1 : Int32).toInt ∧ (1 : Int32).toInt ≤ 1) from by omega) hP hD hS
  exact lp3 ((100 - (0 : Int32).toInt).toNat + 1) 0 g F H _ ls (Nat.lt_succ_self _) (show (0 ≤ (0 : Int32).toInt ∧ (0 : Int32).toInt ≤ 100) from by omega) hP hD hS (lv_sub hl [0, 1, 2, 3, 4] rfl)
set_option maxHeartbeats 4000000 in
set_option maxRecDepth 100000 in
theorem m_isKnown (l : Launch) (dC : Nat → ClassId) (dI : Nat → Nat → Nat) (sz : Nat) (h0 : Nat) (kB kI kZ : ClassId) (q : Nat → Nat) (g : Nat → Int32) (F : Nat → Nat → Int32) (p0 : Int32) (p1 : Int32) (p2 : Int32) (hI : MInv g F) (hq0 : (0 ≤ p0.toInt ∧ p0.toInt ≤ 6)) (hq1 : (0 ≤ p1.toInt ∧ p1.toInt ≤ p2.toInt ∧ p2.toInt ≤ 2000)) : Met l yX12_isKnown vmX12_isKnown ({ frames := 4, cells := 0, slots := 0, locals := 112 } : Room) (va_Pc [.ref h0, .int p0, .int p1, .int p2] (fun U => U.heap.size = sz ∧ va_P (dC, dI) vwCl (mW h0 kB kI kZ q g F) U.heap ∧ va_K (dC, dI) vwCl (mT kB kI kZ) U ∧ va_D (fun _ => True) (mW h0 kB kI kZ q g F))) (va_Qi (fun (r : Int32) (u : ((Nat → Int32) × (Nat → Nat → Int32))) => ((0 ≤ r.toInt ∧ r.toInt ≤ 1))) (fun u t => va_P (dC, dI) vwCl (mW h0 kB kI kZ q g F) t.heap ∧ va_K (dC, dI) vwCl (mT kB kI kZ) t ∧ va_D (va_A (mW h0 kB kI kZ q g F) sz) (mW h0 kB kI kZ q g F)) (va_A (mW h0 kB kI kZ q g F) sz)) 0 0 (va_A (mW h0 kB kI kZ q g F) sz) := by
  refine Met.ofW (cc := cX12_isKnown) (maxL := 5) (ret := (some .boolean)) (by decide) rfl ?_
  intro p e s m args below meth c s₁ B hml hv
  obtain ⟨rfl, hsz, hP, hK, hD0⟩ := hv
  have hx := B.exec
  have hb := B.bytes
  have hr := B.returns
  have hts := atoms_spec (ws := vmX12_isKnown) B.pre
  have hown : s.vm.findClass RX12 = some m.cls := findClass_of_methodNamed B.named
  subst hsz
  have hD := hD0.self (sz := s.heap.size)
  generalize hAe : va_A (mW h0 kB kI kZ q g F) s.heap.size = A at hD ⊢
  have hA : ∀ q : Nat, s.heap.size ≤ q → A q := fun q h => by rw [← hAe]; exact Or.inr h
  have hS : va_S A s.heap s.heap [] := va_S.rf
  have hl := lv_entry ([.ref h0, .int p0, .int p1, .int p2]) (n := 5) (Nat.le_of_ble_eq_true rfl)
  rw [lg_entry_eq]
  generalize (lg_sl ([.ref h0, .int p0, .int p1, .int p2]) ++ List.replicate (5 - (lg_sl ([.ref h0, .int p0, .int p1, .int p2])).length) Slot.unset).toArray = ls at hl ⊢
  exact bm_isKnown p0 p1 p2 hx hb hml hown hts hA hK hI hq0 hq1 hP hD hS hl (fun pc ls r u H locs hd hw hP hD hS => W.zret (v := r) hx hb hr (z_nb (by have := hw; omega)) (fun t ht hW => ⟨⟨r, u, rfl, hw, by rw [ht]; exact hP, va_K.moved hW.alike hK, hD⟩, hS.F ht⟩) hS.2.2 hd)
set_option maxHeartbeats 4000000 in
set_option maxRecDepth 100000 in
theorem bm_stands_29 {p : Program} {l : Launch} {e : Env} {s : State} {m : MethodId} {args : Array Value} {below : List Frame} {meth : Method} {c : Code} {Q : State → Prop} {A : Nat → Prop} {dC : Nat → ClassId} {dI : Nat → Nat → Nat} {h0 : Nat} {kB kI kZ : ClassId} {q : Nat → Nat} {g : Nat → Int32} {F : Nat → Nat → Int32} {H : Heap} {locs : List Loc} {ls : Array Slot} (p0 : Int32) (p2 : Int32) (p3 : Int32) (hx : p.tables.exec = Jvm.exec) (hb : c.code = cX12_stands) (hml : c.maxLocals = 6) (hown : s.vm.findClass RX12 = some m.cls) (hts : ∀ w ∈ vmX12_stands, w.before args s = true) (hA : ∀ q : Nat, s.heap.size ≤ q → A q) (hK : va_K (dC, dI) vwCl (mT kB kI kZ) s) (hI : MInv g F) (hq0 : (0 ≤ p0.toInt ∧ p0.toInt < 1120)) (hq1 : p3.toInt ≤ 400) (hq2 : p2.toInt ≤ 400) (hP : va_P (dC, dI) vwCl (mW h0 kB kI kZ q g F) H) (hD : va_D A (mW h0 kB kI kZ q g F)) (hS : va_S A s.heap H locs) (hl : lv_has ls 6 [(0, .ref h0), (1, .int p0), (2, .ref (q 29)), (3, .int p2), (4, .int p3)])
    (K : ∀ (pc : Nat) (ls : Array Slot) (r : Int32) (u : ((Nat → Int32) × (Nat → Nat → Int32))) (H : Heap) (locs : List Loc), decode cX12_stands pc = .ok (.ireturn, 1) → (((0 ≤ r.toInt ∧ r.toInt ≤ 1))) → va_P (dC, dI) vwCl (mW h0 kB kI kZ q g F) H → va_D A (mW h0 kB kI kZ q g F) → va_S A s.heap H locs → W p l e ({ frames := 2, cells := 0, slots := 0, locals := 60 } : Room) s m args below meth c H locs 0 0 Q (F0 m pc ls [.int r])) : W p l e ({ frames := 2, cells := 0, slots := 0, locals := 60 } : Room) s m args below meth c H locs 0 0 Q (F0 m 0 ls []) := by
  obtain ⟨hg1z, hg2z, hg3z, hg4z, hg5z, hg6z, hg7z, hg8z, hg9z, hg23z, hg27z, hg30z, hg34z, hg36z, hg39z, hg44z, hg47z, hg48z, hg51z, hg56z, hg59z, hg62z, hg65z, hg66z, hg70z, hF11z, hF12z, hF13z, hF15z, hF19z, hF21z, hF24z, hF25z, hF26z, hF33z, hF38z, hF41z, hF43z, hF45z, hF46z, hF50z, hF53z, hF54z⟩ := hI
  have zk0 : (0 : Int32).toInt = 0 := by decide +kernel
  have zk1 : (1 : Int32).toInt = 1 := by decide +kernel
  have zk16 : (16 : Int32).toInt = 16 := by decide +kernel
  refine lv_iload_n hx hb dX12_stands_0 rfl (lv_at hl 3 rfl) ?_
  refine lv_if_lt (tgt := 17) hx hb dX12_stands_1 (by decide) (fun c499 => ?_) (fun c499 => ?_)
  · have c499 := (z_lt _ _).mp c499
    refine lv_iconst (v := 0) hx hb dX12_stands_17 (by decide +kernel) ?_
    exact K 18 ls 0 (g, F) H _ dX12_stands_18 (show (0 ≤ (0 : Int32).toInt ∧ (0 : Int32).toInt ≤ 1) from by omega) hP hD hS
  · have c499 := z_nlt c499
    refine lv_iload_n hx hb dX12_stands_4 rfl (lv_at hl 3 rfl) ?_
    refine lv_aload_n hx hb dX12_stands_5 rfl (lv_at hl 0 rfl) ?_
    refine va_get (D := (dC, dI)) (ci := 12) (v := .ref (q 15)) (C := RX12) (T := TX12) (N := 71) hx hb hts (fun _ h => List.mem_append_right _ h) hown hK hP 0 rfl rfl 15 (by decide) (hts (.fieldLink RX12 33 "SpellTurnerModel" "lawSize" "[I") (List.mem_of_getElem? (i := 1) rfl)) (fun _ h9 => h9) rfl dX12_stands_6 ?_
    refine lv_iload_n hx hb dX12_stands_9 rfl (lv_at hl 1 rfl) ?_
    refine va_iald hx hb hK hP 7 1 rfl rfl (z_in (i := p0) (by omega) (by omega)) dX12_stands_10 ?_
    refine lv_topi (fun x500 ex500 => ?_)
    have kx500 : x500.toInt = ((F 15) (Int32.toNatClampNeg p0)).toInt := congrArg Int32.toInt ex500
    have fx500 := hF15z (Int32.toNatClampNeg p0)
    clear ex500
    refine lv_iadd hx hb dX12_stands_11 ?_
    refine lv_topi (fun x501 ex501 => ?_)
    have fx501 : x501.toInt = p2.toInt + x500.toInt := by have h := @z_add p2 x500 (by omega) (by omega); rw [← ex501] at h; omega
    clear ex501
    refine lv_iload hx hb dX12_stands_12 (lv_at hl 4 rfl) ?_
    refine lv_icmp_le (tgt := 19) hx hb dX12_stands_14 (by decide) (fun c502 => ?_) (fun c502 => ?_)
    · have c502 := (z_le _ _).mp c502
      refine lv_iconst (v := 0) hx hb dX12_stands_19 (by decide +kernel) ?_
      refine lv_istore (lv' := [(5, .int 0), (0, .ref h0), (1, .int p0), (2, .ref (q 29)), (3, .int p2), (4, .int p3)]) hx hb dX12_stands_20 hl (by decide) rfl (fun ls hl => ?_)
      have lp22 : ∀ (n22 : Nat) (x503 : Int32) (gl504 : Nat → Int32) (fl505 : Nat → Nat → Int32) (H : Heap) (locs : List Loc) (ls : Array Slot), (16 - x503.toInt).toNat < n22 → 0 ≤ x503.toInt → va_P (dC, dI) vwCl (mW h0 kB kI kZ q g F) H → va_D A (mW h0 kB kI kZ q g F) → va_S A s.heap H locs → lv_has ls 6 [(5, .int x503), (0, .ref h0), (1, .int p0), (2, .ref (q 29)), (3, .int p2), (4, .int p3)] → W p l e ({ frames := 2, cells := 0, slots := 0, locals := 60 } : Room) s m args below meth c H locs 0 0 Q (F0 m 22 ls []) := by
        intro n22
        induction n22 with
        | zero => intro x503 gl504 fl505 H locs ls hm; exact absurd hm (Nat.not_lt_zero _)
        | succ n22 ih22 =>
          intro x503 gl504 fl505 H locs ls hm22 f506 hP hD hS hl
          refine lv_iload hx hb dX12_stands_22 (lv_at hl 0 rfl) ?_
          refine lv_aload_n hx hb dX12_stands_24 rfl (lv_at hl 1 rfl) ?_
          refine va_get (D := (dC, dI)) (ci := 12) (v := .ref (q 15)) (C := RX12) (T := TX12) (N := 71) hx hb hts (fun _ h => List.mem_append_right _ h) hown hK hP 0 rfl rfl 15 (by decide) (hts (.fieldLink RX12 33 "SpellTurnerModel" "lawSize" "[I") (List.mem_of_getElem? (i := 1) rfl)) (fun _ h9 => h9) rfl dX12_stands_25 ?_
          refine lv_iload_n hx hb dX12_stands_28 rfl (lv_at hl 2 rfl) ?_
          refine va_iald hx hb hK hP 7 1 rfl rfl (z_in (i := p0) (by omega) (by omega)) dX12_stands_29 ?_
          refine lv_topi (fun x507 ex507 => ?_)
          have kx507 : x507.toInt = ((F 15) (Int32.toNatClampNeg p0)).toInt := congrArg Int32.toInt ex507
          have fx507 := hF15z (Int32.toNatClampNeg p0)
          clear ex507
          refine lv_icmp_ge (tgt := 62) hx hb dX12_stands_30 (by decide) (fun c508 => ?_) (fun c508 => ?_)
          · have c508 := (z_le _ _).mp c508
            refine lv_iconst (v := 1) hx hb dX12_stands_62 (by decide +kernel) ?_
            exact K 63 ls 1 (g, F) H _ dX12_stands_63 (show (0 ≤ (1 : Int32).toInt ∧ (1 : Int32).toInt ≤ 1) from by omega) hP hD hS
          · have c508 := z_nle c508
            refine lv_aload_n hx hb dX12_stands_33 rfl (lv_at hl 3 rfl) ?_
            refine lv_iload_n hx hb dX12_stands_34 rfl (lv_at hl 4 rfl) ?_
            refine lv_iload hx hb dX12_stands_35 (lv_at hl 0 rfl) ?_
            refine lv_iadd hx hb dX12_stands_37 ?_
            refine lv_topi (fun x509 ex509 => ?_)
            have fx509 : x509.toInt = p2.toInt + x503.toInt := by have h := @z_add p2 x503 (by omega) (by omega); rw [← ex509] at h; omega
            clear ex509
            refine va_bald hx hb hK hP 19 0 rfl rfl (z_in (i := x509) (by omega) (by omega)) dX12_stands_38 ?_
            refine lv_topi (fun x510 ex510 => ?_)
            clear ex510
            refine lv_aload_n hx hb dX12_stands_39 rfl (lv_at hl 1 rfl) ?_
            refine va_get (D := (dC, dI)) (ci := 12) (v := .ref (q 14)) (C := RX12) (T := TX12) (N := 71) hx hb hts (fun _ h => List.mem_append_right _ h) hown hK hP 0 rfl rfl 14 (by decide) (hts (.fieldLink RX12 30 "SpellTurnerModel" "lawText" "[B") (List.mem_of_getElem? (i := 2) rfl)) (fun _ h9 => h9) rfl dX12_stands_40 ?_
            refine lv_bipush (v := 16) hx hb dX12_stands_43 (by decide +kernel) ?_
            refine lv_iload_n hx hb dX12_stands_45 rfl (lv_at hl 2 rfl) ?_
            refine lv_imul hx hb dX12_stands_46 ?_
            refine lv_topi (fun x511 ex511 => ?_)
            have fx511 : x511.toInt = 16 * p0.toInt := by rw [ex511, z_mul (by simp only [zk16]; omega) (by simp only [zk16]; omega)]; simp only [zk16]
            clear ex511
            refine lv_iload hx hb dX12_stands_47 (lv_at hl 0 rfl) ?_
            refine lv_iadd hx hb dX12_stands_49 ?_
            refine lv_topi (fun x512 ex512 => ?_)
            have fx512 : x512.toInt = x511.toInt + x503.toInt := by have h := @z_add x511 x503 (by omega) (by omega); rw [← ex512] at h; omega
            clear ex512
            refine va_bald hx hb hK hP 6 0 rfl rfl (z_in (i := x512) (by omega) (by omega)) dX12_stands_50 ?_
            refine lv_topi (fun x513 ex513 => ?_)
            clear ex513
            refine lv_icmp_eq (tgt := 56) hx hb dX12_stands_51 (by decide) (fun c514 => ?_) (fun c514 => ?_)
            · have c514 := congrArg Int32.toInt c514
              obtain ⟨x515, ex515⟩ : ∃ y : Int32, y = x503 + 1 := ⟨_, rfl⟩
              have fx515 : x515.toInt = x503.toInt + (1) := by rw [ex515, z_add (by omega) (by omega)]; omega
              refine lv_iinc (v := x515) (lv' := [(5, .int x515), (0, .ref h0), (1, .int p0), (2, .ref (q 29)), (3, .int p2), (4, .int p3)]) hx hb dX12_stands_56 hl (k := 0) rfl (by rw [ex515]; rfl) (by decide) rfl (fun ls hl => ?_)
              clear ex515
              refine lv_goto (tgt := 22) hx hb dX12_stands_59 (by decide) ?_
              exact ih22 x515 g F H _ ls (show (16 - x515.toInt).toNat < n22 from by omega) (show 0 ≤ x515.toInt from by omega) hP hD hS (lv_sub hl [0, 1, 2, 3, 4, 5] rfl)
            · have c514 := z_ne c514
              refine lv_iconst (v := 0) hx hb dX12_stands_54 (by decide +kernel) ?_
              exact K 55 ls 0 (g, F) H _ dX12_stands_55 (show (0 ≤ (0 : Int32).toInt ∧ (0 : Int32).toInt ≤ 1) from by omega) hP hD hS
      exact lp22 ((16 - (0 : Int32).toInt).toNat + 1) 0 g F H _ ls (Nat.lt_succ_self _) (show 0 ≤ (0 : Int32).toInt from by omega) hP hD hS (lv_sub hl [0, 1, 2, 3, 4, 5] rfl)
    · have c502 := z_nle c502
      refine lv_iconst (v := 0) hx hb dX12_stands_17 (by decide +kernel) ?_
      exact K 18 ls 0 (g, F) H _ dX12_stands_18 (show (0 ≤ (0 : Int32).toInt ∧ (0 : Int32).toInt ≤ 1) from by omega) hP hD hS
set_option maxHeartbeats 4000000 in
set_option maxRecDepth 100000 in
theorem m_stands_29 (l : Launch) (dC : Nat → ClassId) (dI : Nat → Nat → Nat) (sz : Nat) (h0 : Nat) (kB kI kZ : ClassId) (q : Nat → Nat) (g : Nat → Int32) (F : Nat → Nat → Int32) (p0 : Int32) (p2 : Int32) (p3 : Int32) (hI : MInv g F) (hq0 : (0 ≤ p0.toInt ∧ p0.toInt < 1120)) (hq1 : p3.toInt ≤ 400) (hq2 : p2.toInt ≤ 400) : Met l yX12_stands vmX12_stands ({ frames := 2, cells := 0, slots := 0, locals := 60 } : Room) (va_Pc [.ref h0, .int p0, .ref (q 29), .int p2, .int p3] (fun U => U.heap.size = sz ∧ va_P (dC, dI) vwCl (mW h0 kB kI kZ q g F) U.heap ∧ va_K (dC, dI) vwCl (mT kB kI kZ) U ∧ va_D (fun _ => True) (mW h0 kB kI kZ q g F))) (va_Qi (fun (r : Int32) (u : ((Nat → Int32) × (Nat → Nat → Int32))) => ((0 ≤ r.toInt ∧ r.toInt ≤ 1))) (fun u t => va_P (dC, dI) vwCl (mW h0 kB kI kZ q g F) t.heap ∧ va_K (dC, dI) vwCl (mT kB kI kZ) t ∧ va_D (va_A (mW h0 kB kI kZ q g F) sz) (mW h0 kB kI kZ q g F)) (va_A (mW h0 kB kI kZ q g F) sz)) 0 0 (va_A (mW h0 kB kI kZ q g F) sz) := by
  refine Met.ofW (cc := cX12_stands) (maxL := 6) (ret := (some .boolean)) (by decide) rfl ?_
  intro p e s m args below meth c s₁ B hml hv
  obtain ⟨rfl, hsz, hP, hK, hD0⟩ := hv
  have hx := B.exec
  have hb := B.bytes
  have hr := B.returns
  have hts := atoms_spec (ws := vmX12_stands) B.pre
  have hown : s.vm.findClass RX12 = some m.cls := findClass_of_methodNamed B.named
  subst hsz
  have hD := hD0.self (sz := s.heap.size)
  generalize hAe : va_A (mW h0 kB kI kZ q g F) s.heap.size = A at hD ⊢
  have hA : ∀ q : Nat, s.heap.size ≤ q → A q := fun q h => by rw [← hAe]; exact Or.inr h
  have hS : va_S A s.heap s.heap [] := va_S.rf
  have hl := lv_entry ([.ref h0, .int p0, .ref (q 29), .int p2, .int p3]) (n := 6) (Nat.le_of_ble_eq_true rfl)
  rw [lg_entry_eq]
  generalize (lg_sl ([.ref h0, .int p0, .ref (q 29), .int p2, .int p3]) ++ List.replicate (6 - (lg_sl ([.ref h0, .int p0, .ref (q 29), .int p2, .int p3])).length) Slot.unset).toArray = ls at hl ⊢
  exact bm_stands_29 p0 p2 p3 hx hb hml hown hts hA hK hI hq0 hq1 hq2 hP hD hS hl (fun pc ls r u H locs hd hw hP hD hS => W.zret (v := r) hx hb hr (z_nb (by have := hw; omega)) (fun t ht hW => ⟨⟨r, u, rfl, hw, by rw [ht]; exact hP, va_K.moved hW.alike hK, hD⟩, hS.F ht⟩) hS.2.2 hd)
