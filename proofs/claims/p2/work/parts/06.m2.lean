def veX12_collide : List Cond := [Cond.code yX12_collide cX12_collide 5 (some .boolean), Cond.fieldLink RX12 119 "SpellTurnerModel" "formMany" "[I", Cond.fieldLink RX12 113 "SpellTurnerModel" "formText" "[B", Cond.fieldLink RX12 116 "SpellTurnerModel" "formSize" "[I", Cond.methodLink RX12 321 yX12_hasForm, Cond.instanceMethod yX12_hasForm, Cond.selects RX12 yX12_hasForm yX12_hasForm, Cond.initialized RX12, Cond.code yX12_hasForm cX12_hasForm 7 (some .boolean), Cond.methodLink RX12 273 yX12_sameBytes, Cond.static yX12_sameBytes, Cond.code yX12_sameBytes cX12_sameBytes 7 (some .boolean)]
def vmX12_collide : List Cond := veX12_collide ++ wsX120
def veX12_rhyme : List Cond := [Cond.code yX12_rhyme cX12_rhyme 6 (some .boolean), Cond.methodLink RX12 273 yX12_sameBytes, Cond.static yX12_sameBytes, Cond.initialized RX12, Cond.code yX12_sameBytes cX12_sameBytes 7 (some .boolean)]
def vmX12_rhyme : List Cond := veX12_rhyme ++ wsX120
def veX12_rhymeAt : List Cond := [Cond.code yX12_rhymeAt cX12_rhymeAt 6 (some .boolean), Cond.fieldLink RX12 119 "SpellTurnerModel" "formMany" "[I", Cond.fieldLink RX12 113 "SpellTurnerModel" "formText" "[B", Cond.fieldLink RX12 116 "SpellTurnerModel" "formSize" "[I", Cond.methodLink RX12 331 yX12_rhyme, Cond.static yX12_rhyme, Cond.initialized RX12, Cond.code yX12_rhyme cX12_rhyme 6 (some .boolean), Cond.methodLink RX12 273 yX12_sameBytes, Cond.static yX12_sameBytes, Cond.code yX12_sameBytes cX12_sameBytes 7 (some .boolean)]
def vmX12_rhymeAt : List Cond := veX12_rhymeAt ++ wsX120
def veX12_listedAs : List Cond := [Cond.code yX12_listedAs cX12_listedAs 3 (some .int), Cond.fieldLink RX12 27 "SpellTurnerModel" "listed" "[I", Cond.fieldLink RX12 49 "SpellTurnerModel" "listText" "[B", Cond.fieldLink RX12 52 "SpellTurnerModel" "listSize" "[I", Cond.fieldLink RX12 55 "SpellTurnerModel" "word" "[B", Cond.fieldLink RX12 244 "SpellTurnerModel" "letters" "I", Cond.methodLink RX12 273 yX12_sameBytes, Cond.static yX12_sameBytes, Cond.initialized RX12, Cond.code yX12_sameBytes cX12_sameBytes 7 (some .boolean)]
def vmX12_listedAs : List Cond := veX12_listedAs ++ wsX120
def veX12_learn : List Cond := [Cond.code yX12_learn cX12_learn 2 (some .int), Cond.methodLink RX12 297 yX12_readWord, Cond.instanceMethod yX12_readWord, Cond.selects RX12 yX12_readWord yX12_readWord, Cond.initialized RX12, Cond.fieldLink RX12 312 "SpellTurnerModel" "words" "I", Cond.fieldLink RX12 244 "SpellTurnerModel" "letters" "I", Cond.fieldLink RX12 109 "SpellTurnerModel" "bookSize" "[I", Cond.fieldLink RX12 237 "SpellTurnerModel" "isMade" "Z", Cond.fieldLink RX12 106 "SpellTurnerModel" "bookText" "[B", Cond.fieldLink RX12 55 "SpellTurnerModel" "word" "[B", Cond.methodLink RX12 273 yX12_sameBytes, Cond.static yX12_sameBytes, Cond.code yX12_readWord cX12_readWord 3 (some .boolean), Cond.fieldLink RX12 152 "SpellTurnerModel" "taped" "I", Cond.methodLink RX12 226 yX12_in, Cond.static yX12_in, Cond.fieldLink RX12 7 "SpellTurnerModel" "tape" "[B", Cond.methodLink RX12 290 yX12_takeWord, Cond.instanceMethod yX12_takeWord, Cond.selects RX12 yX12_takeWord yX12_takeWord, Cond.methodLink RX12 183 yX12_isSmall, Cond.static yX12_isSmall, Cond.code yX12_in cX12_in 3 (some .boolean), Cond.code yX12_takeWord cX12_takeWord 5 none, Cond.code yX12_isSmall cX12_isSmall 1 (some .boolean), Cond.code yX12_sameBytes cX12_sameBytes 7 (some .boolean)]
def vmX12_learn : List Cond := veX12_learn ++ wsX120
def veX12_take : List Cond := [Cond.code yX12_take cX12_take 7 (some .boolean), Cond.fieldLink RX12 180 "SpellTurnerModel" "sort" "I", Cond.fieldLink RX12 174 "SpellTurnerModel" "end" "I", Cond.fieldLink RX12 177 "SpellTurnerModel" "at" "I", Cond.fieldLink RX12 7 "SpellTurnerModel" "tape" "[B", Cond.methodLink RX12 197 yX12_wrong, Cond.instanceMethod yX12_wrong, Cond.selects RX12 yX12_wrong yX12_wrong, Cond.initialized RX12, Cond.code yX12_wrong cX12_wrong 2 (some .boolean), Cond.fieldLink RX12 194 "SpellTurnerModel" "faultKind" "I", Cond.fieldLink RX12 13 "SpellTurnerModel" "faultPlace" "I"]
def vmX12_take : List Cond := veX12_take ++ wsX120
def veX12_copy : List Cond := [Cond.code yX12_copy cX12_copy 5 none]
def vmX12_copy : List Cond := veX12_copy ++ wsX120
set_option maxRecDepth 100000 in
theorem vm_X12_collide_X12_hasForm : GoodIn vmX12_collide vmX12_hasForm := goodIn_app (goodIn_r (big := vmX12_collide) veX12_hasForm [8, 1, 2, 3, 9, 10, 7, 11] (by decide +kernel) (by decide +kernel)) (gb_X12 (fun _ h => List.mem_append_right _ h))
theorem gw_X12_collide_X12_hasForm_321 : GoodIn vmX12_collide (wsV RX12 321 RX12 yX12_hasForm vmX12_hasForm) := goodIn_app (goodIn_r (big := vmX12_collide) _ [4, 5, 6, 7] (by decide +kernel) (by decide +kernel)) vm_X12_collide_X12_hasForm
set_option maxRecDepth 100000 in
theorem vm_X12_rhyme_X12_sameBytes : GoodIn vmX12_rhyme vmX12_sameBytes := goodIn_app (goodIn_r (big := vmX12_rhyme) veX12_sameBytes [4] (by decide +kernel) (by decide +kernel)) (gb_X12 (fun _ h => List.mem_append_right _ h))
theorem gw_X12_rhyme_X12_sameBytes_273 : GoodIn vmX12_rhyme (va_wsS RX12 273 yX12_sameBytes vmX12_sameBytes) := goodIn_app (goodIn_r (big := vmX12_rhyme) _ [1, 2, 3] (by decide +kernel) (by decide +kernel)) vm_X12_rhyme_X12_sameBytes
set_option maxRecDepth 100000 in
theorem vm_X12_rhymeAt_X12_rhyme : GoodIn vmX12_rhymeAt vmX12_rhyme := goodIn_app (goodIn_r (big := vmX12_rhymeAt) veX12_rhyme [7, 8, 9, 6, 10] (by decide +kernel) (by decide +kernel)) (gb_X12 (fun _ h => List.mem_append_right _ h))
theorem gw_X12_rhymeAt_X12_rhyme_331 : GoodIn vmX12_rhymeAt (va_wsS RX12 331 yX12_rhyme vmX12_rhyme) := goodIn_app (goodIn_r (big := vmX12_rhymeAt) _ [4, 5, 6] (by decide +kernel) (by decide +kernel)) vm_X12_rhymeAt_X12_rhyme
set_option maxRecDepth 100000 in
theorem vm_X12_listedAs_X12_sameBytes : GoodIn vmX12_listedAs vmX12_sameBytes := goodIn_app (goodIn_r (big := vmX12_listedAs) veX12_sameBytes [9] (by decide +kernel) (by decide +kernel)) (gb_X12 (fun _ h => List.mem_append_right _ h))
theorem gw_X12_listedAs_X12_sameBytes_273 : GoodIn vmX12_listedAs (va_wsS RX12 273 yX12_sameBytes vmX12_sameBytes) := goodIn_app (goodIn_r (big := vmX12_listedAs) _ [6, 7, 8] (by decide +kernel) (by decide +kernel)) vm_X12_listedAs_X12_sameBytes
set_option maxRecDepth 100000 in
theorem vm_X12_learn_X12_readWord : GoodIn vmX12_learn vmX12_readWord := goodIn_app (goodIn_r (big := vmX12_learn) veX12_readWord [13, 14, 15, 16, 4, 17, 18, 19, 20, 21, 22, 23, 24, 6, 10, 25] (by decide +kernel) (by decide +kernel)) (gb_X12 (fun _ h => List.mem_append_right _ h))
theorem gw_X12_learn_X12_readWord_297 : GoodIn vmX12_learn (wsV RX12 297 RX12 yX12_readWord vmX12_readWord) := goodIn_app (goodIn_r (big := vmX12_learn) _ [1, 2, 3, 4] (by decide +kernel) (by decide +kernel)) vm_X12_learn_X12_readWord
set_option maxRecDepth 100000 in
theorem vm_X12_learn_X12_sameBytes : GoodIn vmX12_learn vmX12_sameBytes := goodIn_app (goodIn_r (big := vmX12_learn) veX12_sameBytes [26] (by decide +kernel) (by decide +kernel)) (gb_X12 (fun _ h => List.mem_append_right _ h))
theorem gw_X12_learn_X12_sameBytes_273 : GoodIn vmX12_learn (va_wsS RX12 273 yX12_sameBytes vmX12_sameBytes) := goodIn_app (goodIn_r (big := vmX12_learn) _ [11, 12, 4] (by decide +kernel) (by decide +kernel)) vm_X12_learn_X12_sameBytes
set_option maxRecDepth 100000 in
theorem vm_X12_take_X12_wrong : GoodIn vmX12_take vmX12_wrong := goodIn_app (goodIn_r (big := vmX12_take) veX12_wrong [9, 10, 3, 11] (by decide +kernel) (by decide +kernel)) (gb_X12 (fun _ h => List.mem_append_right _ h))
theorem gw_X12_take_X12_wrong_197 : GoodIn vmX12_take (wsV RX12 197 RX12 yX12_wrong vmX12_wrong) := goodIn_app (goodIn_r (big := vmX12_take) _ [5, 6, 7, 8] (by decide +kernel) (by decide +kernel)) vm_X12_take_X12_wrong
theorem dX12_take_0 : decode cX12_take 0 = .ok (.aload_n 0, 1) := by decide +kernel
theorem dX12_take_1 : decode cX12_take 1 = .ok (.getfield 180, 3) := by decide +kernel
theorem dX12_take_4 : decode cX12_take 4 = .ok (.iconst 2, 1) := by decide +kernel
theorem dX12_take_5 : decode cX12_take 5 = .ok (.if_icmp .eq 9, 3) := by decide +kernel
theorem dX12_take_8 : decode cX12_take 8 = .ok (.aload_n 0, 1) := by decide +kernel
theorem dX12_take_9 : decode cX12_take 9 = .ok (.iconst 1, 1) := by decide +kernel
theorem dX12_take_10 : decode cX12_take 10 = .ok (.invokevirtual 197, 3) := by decide +kernel
theorem dX12_take_13 : decode cX12_take 13 = .ok (.ireturn, 1) := by decide +kernel
theorem dX12_take_14 : decode cX12_take 14 = .ok (.aload_n 0, 1) := by decide +kernel
theorem dX12_take_15 : decode cX12_take 15 = .ok (.getfield 174, 3) := by decide +kernel
theorem dX12_take_18 : decode cX12_take 18 = .ok (.aload_n 0, 1) := by decide +kernel
theorem dX12_take_19 : decode cX12_take 19 = .ok (.getfield 177, 3) := by decide +kernel
theorem dX12_take_22 : decode cX12_take 22 = .ok (.isub, 1) := by decide +kernel
theorem dX12_take_23 : decode cX12_take 23 = .ok (.iconst 2, 1) := by decide +kernel
theorem dX12_take_24 : decode cX12_take 24 = .ok (.isub, 1) := by decide +kernel
theorem dX12_take_25 : decode cX12_take 25 = .ok (.istore 5, 2) := by decide +kernel
theorem dX12_take_27 : decode cX12_take 27 = .ok (.iload 4, 2) := by decide +kernel
theorem dX12_take_29 : decode cX12_take 29 = .ok (.ifCond .eq 14, 3) := by decide +kernel
theorem dX12_take_32 : decode cX12_take 32 = .ok (.iload 5, 2) := by decide +kernel
theorem dX12_take_34 : decode cX12_take 34 = .ok (.ifCond .ne 9, 3) := by decide +kernel
theorem dX12_take_37 : decode cX12_take 37 = .ok (.aload_n 0, 1) := by decide +kernel
theorem dX12_take_38 : decode cX12_take 38 = .ok (.iconst 2, 1) := by decide +kernel
theorem dX12_take_39 : decode cX12_take 39 = .ok (.invokevirtual 197, 3) := by decide +kernel
theorem dX12_take_42 : decode cX12_take 42 = .ok (.ireturn, 1) := by decide +kernel
theorem dX12_take_43 : decode cX12_take 43 = .ok (.iconst 0, 1) := by decide +kernel
theorem dX12_take_44 : decode cX12_take 44 = .ok (.istore 6, 2) := by decide +kernel
theorem dX12_take_46 : decode cX12_take 46 = .ok (.iload 6, 2) := by decide +kernel
theorem dX12_take_48 : decode cX12_take 48 = .ok (.iload 5, 2) := by decide +kernel
theorem dX12_take_50 : decode cX12_take 50 = .ok (.if_icmp .ge 32, 3) := by decide +kernel
theorem dX12_take_53 : decode cX12_take 53 = .ok (.aload_n 1, 1) := by decide +kernel
theorem dX12_take_54 : decode cX12_take 54 = .ok (.bipush 16, 2) := by decide +kernel
theorem dX12_take_56 : decode cX12_take 56 = .ok (.iload_n 3, 1) := by decide +kernel
theorem dX12_take_57 : decode cX12_take 57 = .ok (.imul, 1) := by decide +kernel
theorem dX12_take_58 : decode cX12_take 58 = .ok (.iload 6, 2) := by decide +kernel
theorem dX12_take_60 : decode cX12_take 60 = .ok (.iadd, 1) := by decide +kernel
theorem dX12_take_61 : decode cX12_take 61 = .ok (.aload_n 0, 1) := by decide +kernel
theorem dX12_take_62 : decode cX12_take 62 = .ok (.getfield 7, 3) := by decide +kernel
theorem dX12_take_65 : decode cX12_take 65 = .ok (.aload_n 0, 1) := by decide +kernel
theorem dX12_take_66 : decode cX12_take 66 = .ok (.getfield 177, 3) := by decide +kernel
theorem dX12_take_69 : decode cX12_take 69 = .ok (.iconst 1, 1) := by decide +kernel
theorem dX12_take_70 : decode cX12_take 70 = .ok (.iadd, 1) := by decide +kernel
theorem dX12_take_71 : decode cX12_take 71 = .ok (.iload 6, 2) := by decide +kernel
theorem dX12_take_73 : decode cX12_take 73 = .ok (.iadd, 1) := by decide +kernel
theorem dX12_take_74 : decode cX12_take 74 = .ok (.baload, 1) := by decide +kernel
theorem dX12_take_75 : decode cX12_take 75 = .ok (.bastore, 1) := by decide +kernel
theorem dX12_take_76 : decode cX12_take 76 = .ok (.iinc 6 1, 3) := by decide +kernel
theorem dX12_take_79 : decode cX12_take 79 = .ok (.goto (-33), 3) := by decide +kernel
theorem dX12_take_82 : decode cX12_take 82 = .ok (.aload_n 2, 1) := by decide +kernel
theorem dX12_take_83 : decode cX12_take 83 = .ok (.iload_n 3, 1) := by decide +kernel
theorem dX12_take_84 : decode cX12_take 84 = .ok (.iload 5, 2) := by decide +kernel
theorem dX12_take_86 : decode cX12_take 86 = .ok (.iastore, 1) := by decide +kernel
theorem dX12_take_87 : decode cX12_take 87 = .ok (.iconst 1, 1) := by decide +kernel
theorem dX12_take_88 : decode cX12_take 88 = .ok (.ireturn, 1) := by decide +kernel
theorem dX12_copy_0 : decode cX12_copy 0 = .ok (.aload_n 1, 1) := by decide +kernel
theorem dX12_copy_1 : decode cX12_copy 1 = .ok (.iload_n 3, 1) := by decide +kernel
theorem dX12_copy_2 : decode cX12_copy 2 = .ok (.aload_n 1, 1) := by decide +kernel
theorem dX12_copy_3 : decode cX12_copy 3 = .ok (.iload_n 2, 1) := by decide +kernel
theorem dX12_copy_4 : decode cX12_copy 4 = .ok (.iaload, 1) := by decide +kernel
theorem dX12_copy_5 : decode cX12_copy 5 = .ok (.iastore, 1) := by decide +kernel
theorem dX12_copy_6 : decode cX12_copy 6 = .ok (.iconst 0, 1) := by decide +kernel
theorem dX12_copy_7 : decode cX12_copy 7 = .ok (.istore 4, 2) := by decide +kernel
theorem dX12_copy_9 : decode cX12_copy 9 = .ok (.iload 4, 2) := by decide +kernel
theorem dX12_copy_11 : decode cX12_copy 11 = .ok (.aload_n 1, 1) := by decide +kernel
theorem dX12_copy_12 : decode cX12_copy 12 = .ok (.iload_n 2, 1) := by decide +kernel
theorem dX12_copy_13 : decode cX12_copy 13 = .ok (.iaload, 1) := by decide +kernel
theorem dX12_copy_14 : decode cX12_copy 14 = .ok (.if_icmp .ge 27, 3) := by decide +kernel
theorem dX12_copy_17 : decode cX12_copy 17 = .ok (.aload_n 0, 1) := by decide +kernel
theorem dX12_copy_18 : decode cX12_copy 18 = .ok (.bipush 16, 2) := by decide +kernel
theorem dX12_copy_20 : decode cX12_copy 20 = .ok (.iload_n 3, 1) := by decide +kernel
theorem dX12_copy_21 : decode cX12_copy 21 = .ok (.imul, 1) := by decide +kernel
theorem dX12_copy_22 : decode cX12_copy 22 = .ok (.iload 4, 2) := by decide +kernel
theorem dX12_copy_24 : decode cX12_copy 24 = .ok (.iadd, 1) := by decide +kernel
theorem dX12_copy_25 : decode cX12_copy 25 = .ok (.aload_n 0, 1) := by decide +kernel
theorem dX12_copy_26 : decode cX12_copy 26 = .ok (.bipush 16, 2) := by decide +kernel
theorem dX12_copy_28 : decode cX12_copy 28 = .ok (.iload_n 2, 1) := by decide +kernel
theorem dX12_copy_29 : decode cX12_copy 29 = .ok (.imul, 1) := by decide +kernel
theorem dX12_copy_30 : decode cX12_copy 30 = .ok (.iload 4, 2) := by decide +kernel
theorem dX12_copy_32 : decode cX12_copy 32 = .ok (.iadd, 1) := by decide +kernel
theorem dX12_copy_33 : decode cX12_copy 33 = .ok (.baload, 1) := by decide +kernel
theorem dX12_copy_34 : decode cX12_copy 34 = .ok (.bastore, 1) := by decide +kernel
theorem dX12_copy_35 : decode cX12_copy 35 = .ok (.iinc 4 1, 3) := by decide +kernel
theorem dX12_copy_38 : decode cX12_copy 38 = .ok (.goto (-29), 3) := by decide +kernel
theorem dX12_copy_41 : decode cX12_copy 41 = .ok (.return_, 1) := by decide +kernel
theorem dX12_listedAs_0 : decode cX12_listedAs 0 = .ok (.bipush 40, 2) := by decide +kernel
theorem dX12_listedAs_2 : decode cX12_listedAs 2 = .ok (.iload_n 1, 1) := by decide +kernel
theorem dX12_listedAs_3 : decode cX12_listedAs 3 = .ok (.imul, 1) := by decide +kernel
theorem dX12_listedAs_4 : decode cX12_listedAs 4 = .ok (.istore_n 2, 1) := by decide +kernel
theorem dX12_listedAs_5 : decode cX12_listedAs 5 = .ok (.iload_n 2, 1) := by decide +kernel
theorem dX12_listedAs_6 : decode cX12_listedAs 6 = .ok (.bipush 40, 2) := by decide +kernel
theorem dX12_listedAs_8 : decode cX12_listedAs 8 = .ok (.iload_n 1, 1) := by decide +kernel
theorem dX12_listedAs_9 : decode cX12_listedAs 9 = .ok (.imul, 1) := by decide +kernel
theorem dX12_listedAs_10 : decode cX12_listedAs 10 = .ok (.aload_n 0, 1) := by decide +kernel
theorem dX12_listedAs_11 : decode cX12_listedAs 11 = .ok (.getfield 27, 3) := by decide +kernel
theorem dX12_listedAs_14 : decode cX12_listedAs 14 = .ok (.iload_n 1, 1) := by decide +kernel
theorem dX12_listedAs_15 : decode cX12_listedAs 15 = .ok (.iaload, 1) := by decide +kernel
theorem dX12_listedAs_16 : decode cX12_listedAs 16 = .ok (.iadd, 1) := by decide +kernel
theorem dX12_listedAs_17 : decode cX12_listedAs 17 = .ok (.if_icmp .ge 42, 3) := by decide +kernel
theorem dX12_listedAs_20 : decode cX12_listedAs 20 = .ok (.aload_n 0, 1) := by decide +kernel
theorem dX12_listedAs_21 : decode cX12_listedAs 21 = .ok (.getfield 49, 3) := by decide +kernel
theorem dX12_listedAs_24 : decode cX12_listedAs 24 = .ok (.bipush 32, 2) := by decide +kernel
theorem dX12_listedAs_26 : decode cX12_listedAs 26 = .ok (.iload_n 2, 1) := by decide +kernel
theorem dX12_listedAs_27 : decode cX12_listedAs 27 = .ok (.imul, 1) := by decide +kernel
theorem dX12_listedAs_28 : decode cX12_listedAs 28 = .ok (.aload_n 0, 1) := by decide +kernel
theorem dX12_listedAs_29 : decode cX12_listedAs 29 = .ok (.getfield 52, 3) := by decide +kernel
theorem dX12_listedAs_32 : decode cX12_listedAs 32 = .ok (.iconst 2, 1) := by decide +kernel
theorem dX12_listedAs_33 : decode cX12_listedAs 33 = .ok (.iload_n 2, 1) := by decide +kernel
theorem dX12_listedAs_34 : decode cX12_listedAs 34 = .ok (.imul, 1) := by decide +kernel
theorem dX12_listedAs_35 : decode cX12_listedAs 35 = .ok (.iaload, 1) := by decide +kernel
theorem dX12_listedAs_36 : decode cX12_listedAs 36 = .ok (.aload_n 0, 1) := by decide +kernel
theorem dX12_listedAs_37 : decode cX12_listedAs 37 = .ok (.getfield 55, 3) := by decide +kernel
theorem dX12_listedAs_40 : decode cX12_listedAs 40 = .ok (.iconst 0, 1) := by decide +kernel
theorem dX12_listedAs_41 : decode cX12_listedAs 41 = .ok (.aload_n 0, 1) := by decide +kernel
theorem dX12_listedAs_42 : decode cX12_listedAs 42 = .ok (.getfield 244, 3) := by decide +kernel
theorem dX12_listedAs_45 : decode cX12_listedAs 45 = .ok (.invokestatic 273, 3) := by decide +kernel
theorem dX12_listedAs_48 : decode cX12_listedAs 48 = .ok (.ifCond .eq 5, 3) := by decide +kernel
theorem dX12_listedAs_51 : decode cX12_listedAs 51 = .ok (.iload_n 2, 1) := by decide +kernel
theorem dX12_listedAs_52 : decode cX12_listedAs 52 = .ok (.ireturn, 1) := by decide +kernel
theorem dX12_listedAs_53 : decode cX12_listedAs 53 = .ok (.iinc 2 1, 3) := by decide +kernel
theorem dX12_listedAs_56 : decode cX12_listedAs 56 = .ok (.goto (-51), 3) := by decide +kernel
theorem dX12_listedAs_59 : decode cX12_listedAs 59 = .ok (.iconst (-1), 1) := by decide +kernel
theorem dX12_listedAs_60 : decode cX12_listedAs 60 = .ok (.ireturn, 1) := by decide +kernel
theorem dX12_learn_10 : decode cX12_learn 10 = .ok (.iconst 0, 1) := by decide +kernel
theorem dX12_learn_11 : decode cX12_learn 11 = .ok (.istore_n 1, 1) := by decide +kernel
theorem dX12_learn_12 : decode cX12_learn 12 = .ok (.iload_n 1, 1) := by decide +kernel
theorem dX12_learn_13 : decode cX12_learn 13 = .ok (.aload_n 0, 1) := by decide +kernel
theorem dX12_learn_14 : decode cX12_learn 14 = .ok (.getfield 312, 3) := by decide +kernel
theorem dX12_learn_17 : decode cX12_learn 17 = .ok (.if_icmp .ge 40, 3) := by decide +kernel
theorem dX12_learn_20 : decode cX12_learn 20 = .ok (.aload_n 0, 1) := by decide +kernel
theorem dX12_learn_21 : decode cX12_learn 21 = .ok (.getfield 106, 3) := by decide +kernel
theorem dX12_learn_24 : decode cX12_learn 24 = .ok (.bipush 24, 2) := by decide +kernel
theorem dX12_learn_26 : decode cX12_learn 26 = .ok (.iload_n 1, 1) := by decide +kernel
theorem dX12_learn_27 : decode cX12_learn 27 = .ok (.imul, 1) := by decide +kernel
theorem dX12_learn_28 : decode cX12_learn 28 = .ok (.aload_n 0, 1) := by decide +kernel
theorem dX12_learn_29 : decode cX12_learn 29 = .ok (.getfield 109, 3) := by decide +kernel
theorem dX12_learn_32 : decode cX12_learn 32 = .ok (.iload_n 1, 1) := by decide +kernel
theorem dX12_learn_33 : decode cX12_learn 33 = .ok (.iaload, 1) := by decide +kernel
theorem dX12_learn_34 : decode cX12_learn 34 = .ok (.aload_n 0, 1) := by decide +kernel
theorem dX12_learn_35 : decode cX12_learn 35 = .ok (.getfield 55, 3) := by decide +kernel
theorem dX12_learn_38 : decode cX12_learn 38 = .ok (.iconst 0, 1) := by decide +kernel
theorem dX12_learn_39 : decode cX12_learn 39 = .ok (.aload_n 0, 1) := by decide +kernel
theorem dX12_learn_40 : decode cX12_learn 40 = .ok (.getfield 244, 3) := by decide +kernel
theorem dX12_learn_43 : decode cX12_learn 43 = .ok (.invokestatic 273, 3) := by decide +kernel
theorem dX12_learn_46 : decode cX12_learn 46 = .ok (.ifCond .eq 5, 3) := by decide +kernel
theorem dX12_learn_49 : decode cX12_learn 49 = .ok (.iload_n 1, 1) := by decide +kernel
theorem dX12_learn_50 : decode cX12_learn 50 = .ok (.ireturn, 1) := by decide +kernel
theorem dX12_learn_51 : decode cX12_learn 51 = .ok (.iinc 1 1, 3) := by decide +kernel
theorem dX12_learn_54 : decode cX12_learn 54 = .ok (.goto (-42), 3) := by decide +kernel
theorem dX12_learn_57 : decode cX12_learn 57 = .ok (.aload_n 0, 1) := by decide +kernel
theorem dX12_learn_58 : decode cX12_learn 58 = .ok (.getfield 312, 3) := by decide +kernel
theorem dX12_learn_61 : decode cX12_learn 61 = .ok (.bipush 100, 2) := by decide +kernel
theorem dX12_learn_63 : decode cX12_learn 63 = .ok (.if_icmp .ne 6, 3) := by decide +kernel
theorem dX12_learn_66 : decode cX12_learn 66 = .ok (.bipush (-3), 2) := by decide +kernel
theorem dX12_learn_68 : decode cX12_learn 68 = .ok (.ireturn, 1) := by decide +kernel
theorem dX12_learn_69 : decode cX12_learn 69 = .ok (.iconst 0, 1) := by decide +kernel
theorem dX12_learn_70 : decode cX12_learn 70 = .ok (.istore_n 1, 1) := by decide +kernel
theorem dX12_learn_71 : decode cX12_learn 71 = .ok (.iload_n 1, 1) := by decide +kernel
theorem dX12_learn_72 : decode cX12_learn 72 = .ok (.aload_n 0, 1) := by decide +kernel
theorem dX12_learn_73 : decode cX12_learn 73 = .ok (.getfield 244, 3) := by decide +kernel
theorem dX12_learn_76 : decode cX12_learn 76 = .ok (.if_icmp .ge 29, 3) := by decide +kernel
theorem dX12_learn_79 : decode cX12_learn 79 = .ok (.aload_n 0, 1) := by decide +kernel
theorem dX12_learn_80 : decode cX12_learn 80 = .ok (.getfield 106, 3) := by decide +kernel
theorem dX12_learn_83 : decode cX12_learn 83 = .ok (.bipush 24, 2) := by decide +kernel
theorem dX12_learn_85 : decode cX12_learn 85 = .ok (.aload_n 0, 1) := by decide +kernel
theorem dX12_learn_86 : decode cX12_learn 86 = .ok (.getfield 312, 3) := by decide +kernel
theorem dX12_learn_89 : decode cX12_learn 89 = .ok (.imul, 1) := by decide +kernel
theorem dX12_learn_90 : decode cX12_learn 90 = .ok (.iload_n 1, 1) := by decide +kernel
theorem dX12_learn_91 : decode cX12_learn 91 = .ok (.iadd, 1) := by decide +kernel
theorem dX12_learn_92 : decode cX12_learn 92 = .ok (.aload_n 0, 1) := by decide +kernel
theorem dX12_learn_93 : decode cX12_learn 93 = .ok (.getfield 55, 3) := by decide +kernel
theorem dX12_learn_96 : decode cX12_learn 96 = .ok (.iload_n 1, 1) := by decide +kernel
theorem dX12_learn_97 : decode cX12_learn 97 = .ok (.baload, 1) := by decide +kernel
theorem dX12_learn_98 : decode cX12_learn 98 = .ok (.bastore, 1) := by decide +kernel
theorem dX12_learn_99 : decode cX12_learn 99 = .ok (.iinc 1 1, 3) := by decide +kernel
theorem dX12_learn_102 : decode cX12_learn 102 = .ok (.goto (-31), 3) := by decide +kernel
theorem dX12_learn_105 : decode cX12_learn 105 = .ok (.aload_n 0, 1) := by decide +kernel
theorem dX12_learn_106 : decode cX12_learn 106 = .ok (.getfield 109, 3) := by decide +kernel
theorem dX12_learn_109 : decode cX12_learn 109 = .ok (.aload_n 0, 1) := by decide +kernel
theorem dX12_learn_110 : decode cX12_learn 110 = .ok (.getfield 312, 3) := by decide +kernel
theorem dX12_learn_113 : decode cX12_learn 113 = .ok (.aload_n 0, 1) := by decide +kernel
theorem dX12_learn_114 : decode cX12_learn 114 = .ok (.getfield 244, 3) := by decide +kernel
theorem dX12_learn_117 : decode cX12_learn 117 = .ok (.iastore, 1) := by decide +kernel
theorem dX12_learn_118 : decode cX12_learn 118 = .ok (.aload_n 0, 1) := by decide +kernel
theorem dX12_learn_119 : decode cX12_learn 119 = .ok (.dup, 1) := by decide +kernel
theorem dX12_learn_120 : decode cX12_learn 120 = .ok (.getfield 312, 3) := by decide +kernel
theorem dX12_learn_123 : decode cX12_learn 123 = .ok (.iconst 1, 1) := by decide +kernel
theorem dX12_learn_124 : decode cX12_learn 124 = .ok (.iadd, 1) := by decide +kernel
theorem dX12_learn_125 : decode cX12_learn 125 = .ok (.putfield 312, 3) := by decide +kernel
theorem dX12_learn_128 : decode cX12_learn 128 = .ok (.aload_n 0, 1) := by decide +kernel
theorem dX12_learn_129 : decode cX12_learn 129 = .ok (.iconst 0, 1) := by decide +kernel
theorem dX12_learn_130 : decode cX12_learn 130 = .ok (.putfield 237, 3) := by decide +kernel
theorem dX12_learn_133 : decode cX12_learn 133 = .ok (.aload_n 0, 1) := by decide +kernel
theorem dX12_learn_134 : decode cX12_learn 134 = .ok (.getfield 312, 3) := by decide +kernel
theorem dX12_learn_137 : decode cX12_learn 137 = .ok (.iconst 1, 1) := by decide +kernel
theorem dX12_learn_138 : decode cX12_learn 138 = .ok (.isub, 1) := by decide +kernel
theorem dX12_learn_139 : decode cX12_learn 139 = .ok (.ireturn, 1) := by decide +kernel
theorem dX12_collide_0 : decode cX12_collide 0 = .ok (.bipush 12, 2) := by decide +kernel
theorem dX12_collide_2 : decode cX12_collide 2 = .ok (.bipush 7, 2) := by decide +kernel
theorem dX12_collide_4 : decode cX12_collide 4 = .ok (.iload_n 1, 1) := by decide +kernel
theorem dX12_collide_5 : decode cX12_collide 5 = .ok (.imul, 1) := by decide +kernel
theorem dX12_collide_6 : decode cX12_collide 6 = .ok (.iload_n 3, 1) := by decide +kernel
theorem dX12_collide_7 : decode cX12_collide 7 = .ok (.iadd, 1) := by decide +kernel
theorem dX12_collide_8 : decode cX12_collide 8 = .ok (.imul, 1) := by decide +kernel
theorem dX12_collide_9 : decode cX12_collide 9 = .ok (.istore 4, 2) := by decide +kernel
theorem dX12_collide_11 : decode cX12_collide 11 = .ok (.iload 4, 2) := by decide +kernel
theorem dX12_collide_13 : decode cX12_collide 13 = .ok (.bipush 12, 2) := by decide +kernel
theorem dX12_collide_15 : decode cX12_collide 15 = .ok (.bipush 7, 2) := by decide +kernel
theorem dX12_collide_17 : decode cX12_collide 17 = .ok (.iload_n 1, 1) := by decide +kernel
theorem dX12_collide_18 : decode cX12_collide 18 = .ok (.imul, 1) := by decide +kernel
theorem dX12_collide_19 : decode cX12_collide 19 = .ok (.iload_n 3, 1) := by decide +kernel
theorem dX12_collide_20 : decode cX12_collide 20 = .ok (.iadd, 1) := by decide +kernel
theorem dX12_collide_21 : decode cX12_collide 21 = .ok (.imul, 1) := by decide +kernel
theorem dX12_collide_22 : decode cX12_collide 22 = .ok (.aload_n 0, 1) := by decide +kernel
theorem dX12_collide_23 : decode cX12_collide 23 = .ok (.getfield 119, 3) := by decide +kernel
theorem dX12_collide_26 : decode cX12_collide 26 = .ok (.bipush 7, 2) := by decide +kernel
theorem dX12_collide_28 : decode cX12_collide 28 = .ok (.iload_n 1, 1) := by decide +kernel
theorem dX12_collide_29 : decode cX12_collide 29 = .ok (.imul, 1) := by decide +kernel
theorem dX12_collide_30 : decode cX12_collide 30 = .ok (.iload_n 3, 1) := by decide +kernel
theorem dX12_collide_31 : decode cX12_collide 31 = .ok (.iadd, 1) := by decide +kernel
theorem dX12_collide_32 : decode cX12_collide 32 = .ok (.iaload, 1) := by decide +kernel
theorem dX12_collide_33 : decode cX12_collide 33 = .ok (.iadd, 1) := by decide +kernel
theorem dX12_collide_34 : decode cX12_collide 34 = .ok (.if_icmp .ge 36, 3) := by decide +kernel
theorem dX12_collide_37 : decode cX12_collide 37 = .ok (.aload_n 0, 1) := by decide +kernel
theorem dX12_collide_38 : decode cX12_collide 38 = .ok (.iload_n 2, 1) := by decide +kernel
theorem dX12_collide_39 : decode cX12_collide 39 = .ok (.iload_n 3, 1) := by decide +kernel
theorem dX12_collide_40 : decode cX12_collide 40 = .ok (.aload_n 0, 1) := by decide +kernel
theorem dX12_collide_41 : decode cX12_collide 41 = .ok (.getfield 113, 3) := by decide +kernel
theorem dX12_collide_44 : decode cX12_collide 44 = .ok (.bipush 24, 2) := by decide +kernel
theorem dX12_collide_46 : decode cX12_collide 46 = .ok (.iload 4, 2) := by decide +kernel
theorem dX12_collide_48 : decode cX12_collide 48 = .ok (.imul, 1) := by decide +kernel
theorem dX12_collide_49 : decode cX12_collide 49 = .ok (.aload_n 0, 1) := by decide +kernel
theorem dX12_collide_50 : decode cX12_collide 50 = .ok (.getfield 116, 3) := by decide +kernel
theorem dX12_collide_53 : decode cX12_collide 53 = .ok (.iload 4, 2) := by decide +kernel
theorem dX12_collide_55 : decode cX12_collide 55 = .ok (.iaload, 1) := by decide +kernel
theorem dX12_collide_56 : decode cX12_collide 56 = .ok (.invokevirtual 321, 3) := by decide +kernel
theorem dX12_collide_59 : decode cX12_collide 59 = .ok (.ifCond .eq 5, 3) := by decide +kernel
theorem dX12_collide_62 : decode cX12_collide 62 = .ok (.iconst 1, 1) := by decide +kernel
theorem dX12_collide_63 : decode cX12_collide 63 = .ok (.ireturn, 1) := by decide +kernel
theorem dX12_collide_64 : decode cX12_collide 64 = .ok (.iinc 4 1, 3) := by decide +kernel
theorem dX12_collide_67 : decode cX12_collide 67 = .ok (.goto (-56), 3) := by decide +kernel
theorem dX12_collide_70 : decode cX12_collide 70 = .ok (.iconst 0, 1) := by decide +kernel
theorem dX12_collide_71 : decode cX12_collide 71 = .ok (.ireturn, 1) := by decide +kernel
theorem dX12_rhyme_0 : decode cX12_rhyme 0 = .ok (.iload_n 2, 1) := by decide +kernel
theorem dX12_rhyme_1 : decode cX12_rhyme 1 = .ok (.iconst 2, 1) := by decide +kernel
theorem dX12_rhyme_2 : decode cX12_rhyme 2 = .ok (.if_icmp .le 35, 3) := by decide +kernel
theorem dX12_rhyme_5 : decode cX12_rhyme 5 = .ok (.iload 5, 2) := by decide +kernel
theorem dX12_rhyme_7 : decode cX12_rhyme 7 = .ok (.iconst 2, 1) := by decide +kernel
theorem dX12_rhyme_8 : decode cX12_rhyme 8 = .ok (.if_icmp .le 29, 3) := by decide +kernel
theorem dX12_rhyme_11 : decode cX12_rhyme 11 = .ok (.aload_n 0, 1) := by decide +kernel
theorem dX12_rhyme_12 : decode cX12_rhyme 12 = .ok (.iload_n 1, 1) := by decide +kernel
theorem dX12_rhyme_13 : decode cX12_rhyme 13 = .ok (.iload_n 2, 1) := by decide +kernel
theorem dX12_rhyme_14 : decode cX12_rhyme 14 = .ok (.iadd, 1) := by decide +kernel
theorem dX12_rhyme_15 : decode cX12_rhyme 15 = .ok (.iconst 3, 1) := by decide +kernel
theorem dX12_rhyme_16 : decode cX12_rhyme 16 = .ok (.isub, 1) := by decide +kernel
theorem dX12_rhyme_17 : decode cX12_rhyme 17 = .ok (.iconst 3, 1) := by decide +kernel
theorem dX12_rhyme_18 : decode cX12_rhyme 18 = .ok (.aload_n 3, 1) := by decide +kernel
theorem dX12_rhyme_19 : decode cX12_rhyme 19 = .ok (.iload 4, 2) := by decide +kernel
theorem dX12_rhyme_21 : decode cX12_rhyme 21 = .ok (.iload 5, 2) := by decide +kernel
theorem dX12_rhyme_23 : decode cX12_rhyme 23 = .ok (.iadd, 1) := by decide +kernel
theorem dX12_rhyme_24 : decode cX12_rhyme 24 = .ok (.iconst 3, 1) := by decide +kernel
theorem dX12_rhyme_25 : decode cX12_rhyme 25 = .ok (.isub, 1) := by decide +kernel
theorem dX12_rhyme_26 : decode cX12_rhyme 26 = .ok (.iconst 3, 1) := by decide +kernel
theorem dX12_rhyme_27 : decode cX12_rhyme 27 = .ok (.invokestatic 273, 3) := by decide +kernel
theorem dX12_rhyme_30 : decode cX12_rhyme 30 = .ok (.ifCond .eq 7, 3) := by decide +kernel
theorem dX12_rhyme_33 : decode cX12_rhyme 33 = .ok (.iconst 1, 1) := by decide +kernel
theorem dX12_rhyme_34 : decode cX12_rhyme 34 = .ok (.goto 4, 3) := by decide +kernel
theorem dX12_rhyme_37 : decode cX12_rhyme 37 = .ok (.iconst 0, 1) := by decide +kernel
theorem dX12_rhyme_38 : decode cX12_rhyme 38 = .ok (.ireturn, 1) := by decide +kernel
theorem dX12_rhymeAt_0 : decode cX12_rhymeAt 0 = .ok (.bipush 12, 2) := by decide +kernel
theorem dX12_rhymeAt_2 : decode cX12_rhymeAt 2 = .ok (.bipush 7, 2) := by decide +kernel
theorem dX12_rhymeAt_4 : decode cX12_rhymeAt 4 = .ok (.iload_n 1, 1) := by decide +kernel
theorem dX12_rhymeAt_5 : decode cX12_rhymeAt 5 = .ok (.imul, 1) := by decide +kernel
theorem dX12_rhymeAt_6 : decode cX12_rhymeAt 6 = .ok (.iload_n 3, 1) := by decide +kernel
theorem dX12_rhymeAt_7 : decode cX12_rhymeAt 7 = .ok (.iadd, 1) := by decide +kernel
theorem dX12_rhymeAt_8 : decode cX12_rhymeAt 8 = .ok (.imul, 1) := by decide +kernel
theorem dX12_rhymeAt_9 : decode cX12_rhymeAt 9 = .ok (.istore 4, 2) := by decide +kernel
theorem dX12_rhymeAt_11 : decode cX12_rhymeAt 11 = .ok (.iload 4, 2) := by decide +kernel
theorem dX12_rhymeAt_13 : decode cX12_rhymeAt 13 = .ok (.bipush 12, 2) := by decide +kernel
theorem dX12_rhymeAt_15 : decode cX12_rhymeAt 15 = .ok (.bipush 7, 2) := by decide +kernel
theorem dX12_rhymeAt_17 : decode cX12_rhymeAt 17 = .ok (.iload_n 1, 1) := by decide +kernel
theorem dX12_rhymeAt_18 : decode cX12_rhymeAt 18 = .ok (.imul, 1) := by decide +kernel
theorem dX12_rhymeAt_19 : decode cX12_rhymeAt 19 = .ok (.iload_n 3, 1) := by decide +kernel
theorem dX12_rhymeAt_20 : decode cX12_rhymeAt 20 = .ok (.iadd, 1) := by decide +kernel
theorem dX12_rhymeAt_21 : decode cX12_rhymeAt 21 = .ok (.imul, 1) := by decide +kernel
theorem dX12_rhymeAt_22 : decode cX12_rhymeAt 22 = .ok (.aload_n 0, 1) := by decide +kernel
theorem dX12_rhymeAt_23 : decode cX12_rhymeAt 23 = .ok (.getfield 119, 3) := by decide +kernel
theorem dX12_rhymeAt_26 : decode cX12_rhymeAt 26 = .ok (.bipush 7, 2) := by decide +kernel
theorem dX12_rhymeAt_28 : decode cX12_rhymeAt 28 = .ok (.iload_n 1, 1) := by decide +kernel
theorem dX12_rhymeAt_29 : decode cX12_rhymeAt 29 = .ok (.imul, 1) := by decide +kernel
theorem dX12_rhymeAt_30 : decode cX12_rhymeAt 30 = .ok (.iload_n 3, 1) := by decide +kernel
theorem dX12_rhymeAt_31 : decode cX12_rhymeAt 31 = .ok (.iadd, 1) := by decide +kernel
theorem dX12_rhymeAt_32 : decode cX12_rhymeAt 32 = .ok (.iaload, 1) := by decide +kernel
theorem dX12_rhymeAt_33 : decode cX12_rhymeAt 33 = .ok (.iadd, 1) := by decide +kernel
theorem dX12_rhymeAt_34 : decode cX12_rhymeAt 34 = .ok (.if_icmp .ge 92, 3) := by decide +kernel
theorem dX12_rhymeAt_37 : decode cX12_rhymeAt 37 = .ok (.bipush 12, 2) := by decide +kernel
theorem dX12_rhymeAt_39 : decode cX12_rhymeAt 39 = .ok (.bipush 7, 2) := by decide +kernel
theorem dX12_rhymeAt_41 : decode cX12_rhymeAt 41 = .ok (.iload_n 2, 1) := by decide +kernel
theorem dX12_rhymeAt_42 : decode cX12_rhymeAt 42 = .ok (.imul, 1) := by decide +kernel
theorem dX12_rhymeAt_43 : decode cX12_rhymeAt 43 = .ok (.iload_n 3, 1) := by decide +kernel
theorem dX12_rhymeAt_44 : decode cX12_rhymeAt 44 = .ok (.iadd, 1) := by decide +kernel
theorem dX12_rhymeAt_45 : decode cX12_rhymeAt 45 = .ok (.imul, 1) := by decide +kernel
theorem dX12_rhymeAt_46 : decode cX12_rhymeAt 46 = .ok (.istore 5, 2) := by decide +kernel
theorem dX12_rhymeAt_48 : decode cX12_rhymeAt 48 = .ok (.iload 5, 2) := by decide +kernel
theorem dX12_rhymeAt_50 : decode cX12_rhymeAt 50 = .ok (.bipush 12, 2) := by decide +kernel
theorem dX12_rhymeAt_52 : decode cX12_rhymeAt 52 = .ok (.bipush 7, 2) := by decide +kernel
theorem dX12_rhymeAt_54 : decode cX12_rhymeAt 54 = .ok (.iload_n 2, 1) := by decide +kernel
theorem dX12_rhymeAt_55 : decode cX12_rhymeAt 55 = .ok (.imul, 1) := by decide +kernel
theorem dX12_rhymeAt_56 : decode cX12_rhymeAt 56 = .ok (.iload_n 3, 1) := by decide +kernel
theorem dX12_rhymeAt_57 : decode cX12_rhymeAt 57 = .ok (.iadd, 1) := by decide +kernel
theorem dX12_rhymeAt_58 : decode cX12_rhymeAt 58 = .ok (.imul, 1) := by decide +kernel
theorem dX12_rhymeAt_59 : decode cX12_rhymeAt 59 = .ok (.aload_n 0, 1) := by decide +kernel
theorem dX12_rhymeAt_60 : decode cX12_rhymeAt 60 = .ok (.getfield 119, 3) := by decide +kernel
theorem dX12_rhymeAt_63 : decode cX12_rhymeAt 63 = .ok (.bipush 7, 2) := by decide +kernel
theorem dX12_rhymeAt_65 : decode cX12_rhymeAt 65 = .ok (.iload_n 2, 1) := by decide +kernel
theorem dX12_rhymeAt_66 : decode cX12_rhymeAt 66 = .ok (.imul, 1) := by decide +kernel
theorem dX12_rhymeAt_67 : decode cX12_rhymeAt 67 = .ok (.iload_n 3, 1) := by decide +kernel
theorem dX12_rhymeAt_68 : decode cX12_rhymeAt 68 = .ok (.iadd, 1) := by decide +kernel
theorem dX12_rhymeAt_69 : decode cX12_rhymeAt 69 = .ok (.iaload, 1) := by decide +kernel
theorem dX12_rhymeAt_70 : decode cX12_rhymeAt 70 = .ok (.iadd, 1) := by decide +kernel
theorem dX12_rhymeAt_71 : decode cX12_rhymeAt 71 = .ok (.if_icmp .ge 49, 3) := by decide +kernel
theorem dX12_rhymeAt_74 : decode cX12_rhymeAt 74 = .ok (.aload_n 0, 1) := by decide +kernel
theorem dX12_rhymeAt_75 : decode cX12_rhymeAt 75 = .ok (.getfield 113, 3) := by decide +kernel
theorem dX12_rhymeAt_78 : decode cX12_rhymeAt 78 = .ok (.bipush 24, 2) := by decide +kernel
theorem dX12_rhymeAt_80 : decode cX12_rhymeAt 80 = .ok (.iload 4, 2) := by decide +kernel
theorem dX12_rhymeAt_82 : decode cX12_rhymeAt 82 = .ok (.imul, 1) := by decide +kernel
theorem dX12_rhymeAt_83 : decode cX12_rhymeAt 83 = .ok (.aload_n 0, 1) := by decide +kernel
theorem dX12_rhymeAt_84 : decode cX12_rhymeAt 84 = .ok (.getfield 116, 3) := by decide +kernel
theorem dX12_rhymeAt_87 : decode cX12_rhymeAt 87 = .ok (.iload 4, 2) := by decide +kernel
theorem dX12_rhymeAt_89 : decode cX12_rhymeAt 89 = .ok (.iaload, 1) := by decide +kernel
theorem dX12_rhymeAt_90 : decode cX12_rhymeAt 90 = .ok (.aload_n 0, 1) := by decide +kernel
theorem dX12_rhymeAt_91 : decode cX12_rhymeAt 91 = .ok (.getfield 113, 3) := by decide +kernel
theorem dX12_rhymeAt_94 : decode cX12_rhymeAt 94 = .ok (.bipush 24, 2) := by decide +kernel
theorem dX12_rhymeAt_96 : decode cX12_rhymeAt 96 = .ok (.iload 5, 2) := by decide +kernel
theorem dX12_rhymeAt_98 : decode cX12_rhymeAt 98 = .ok (.imul, 1) := by decide +kernel
theorem dX12_rhymeAt_99 : decode cX12_rhymeAt 99 = .ok (.aload_n 0, 1) := by decide +kernel
theorem dX12_rhymeAt_100 : decode cX12_rhymeAt 100 = .ok (.getfield 116, 3) := by decide +kernel
theorem dX12_rhymeAt_103 : decode cX12_rhymeAt 103 = .ok (.iload 5, 2) := by decide +kernel
theorem dX12_rhymeAt_105 : decode cX12_rhymeAt 105 = .ok (.iaload, 1) := by decide +kernel
theorem dX12_rhymeAt_106 : decode cX12_rhymeAt 106 = .ok (.invokestatic 331, 3) := by decide +kernel
theorem dX12_rhymeAt_109 : decode cX12_rhymeAt 109 = .ok (.ifCond .eq 5, 3) := by decide +kernel
theorem dX12_rhymeAt_112 : decode cX12_rhymeAt 112 = .ok (.iconst 1, 1) := by decide +kernel
theorem dX12_rhymeAt_113 : decode cX12_rhymeAt 113 = .ok (.ireturn, 1) := by decide +kernel
theorem dX12_rhymeAt_114 : decode cX12_rhymeAt 114 = .ok (.iinc 5 1, 3) := by decide +kernel
theorem dX12_rhymeAt_117 : decode cX12_rhymeAt 117 = .ok (.goto (-69), 3) := by decide +kernel
theorem dX12_rhymeAt_120 : decode cX12_rhymeAt 120 = .ok (.iinc 4 1, 3) := by decide +kernel
theorem dX12_rhymeAt_123 : decode cX12_rhymeAt 123 = .ok (.goto (-112), 3) := by decide +kernel
theorem dX12_rhymeAt_126 : decode cX12_rhymeAt 126 = .ok (.iconst 0, 1) := by decide +kernel
theorem dX12_rhymeAt_127 : decode cX12_rhymeAt 127 = .ok (.ireturn, 1) := by decide +kernel
set_option maxHeartbeats 4000000 in
set_option maxRecDepth 100000 in
theorem bm_copy_14_15 {p : Program} {l : Launch} {e : Env} {s : State} {m : MethodId} {args : Array Value} {below : List Frame} {meth : Method} {c : Code} {Q : State → Prop} {A : Nat → Prop} {dC : Nat → ClassId} {dI : Nat → Nat → Nat} {h0 : Nat} {kB kI kZ : ClassId} {q : Nat → Nat} {g : Nat → Int32} {F : Nat → Nat → Int32} {H : Heap} {locs : List Loc} {ls : Array Slot} (p2 : Int32) (p3 : Int32) (hx : p.tables.exec = Jvm.exec) (hb : c.code = cX12_copy) (hml : c.maxLocals = 5) (hown : s.vm.findClass RX12 = some m.cls) (hts : ∀ w ∈ vmX12_copy, w.before args s = true) (hA : ∀ q : Nat, s.heap.size ≤ q → A q) (hK : va_K (dC, dI) vwCl (mT kB kI kZ) s) (hI : MInv g F) (hq0 : (0 ≤ p2.toInt ∧ p2.toInt < 1120)) (hq1 : (0 ≤ p3.toInt ∧ p3.toInt < 1120)) (hP : va_P (dC, dI) vwCl (mW h0 kB kI kZ q g F) H) (hD : va_D A (mW h0 kB kI kZ q g F)) (hS : va_S A s.heap H locs) (hl : lv_has ls 5 [(0, .ref (q 14)), (1, .ref (q 15)), (2, .int p2), (3, .int p3)])
    (K : ∀ (pc : Nat) (ls : Array Slot) (u : ((Nat → Int32) × (Nat → Nat → Int32))) (H : Heap) (locs : List Loc), decode cX12_copy pc = .ok (.return_, 1) → ((rng (-1) 16 (u.2 15))) → va_P (dC, dI) vwCl (mW h0 kB kI kZ q g (upF (upF F 14 (u.2 14)) 15 (u.2 15))) H → va_D A (mW h0 kB kI kZ q g (upF (upF F 14 (u.2 14)) 15 (u.2 15))) → va_S A s.heap H locs → W p l e ({ frames := 2, cells := 0, slots := 0, locals := 60 } : Room) s m args below meth c H locs 0 0 Q (F0 m pc ls [])) : W p l e ({ frames := 2, cells := 0, slots := 0, locals := 60 } : Room) s m args below meth c H locs 0 0 Q (F0 m 0 ls []) := by
  obtain ⟨hg1z, hg2z, hg3z, hg4z, hg5z, hg6z, hg7z, hg8z, hg9z, hg23z, hg27z, hg30z, hg34z, hg36z, hg39z, hg44z, hg47z, hg48z, hg51z, hg56z, hg59z, hg62z, hg65z, hg66z, hg70z, hF11z, hF12z, hF13z, hF15z, hF19z, hF21z, hF24z, hF25z, hF26z, hF33z, hF38z, hF41z, hF43z, hF45z, hF46z, hF50z, hF53z, hF54z⟩ := hI
  have zk0 : (0 : Int32).toInt = 0 := by decide +kernel
  have zk1 : (1 : Int32).toInt = 1 := by decide +kernel
  have zk16 : (16 : Int32).toInt = 16 := by decide +kernel
  refine lv_aload_n hx hb dX12_copy_0 rfl (lv_at hl 1 rfl) ?_
  refine lv_iload_n hx hb dX12_copy_1 rfl (lv_at hl 3 rfl) ?_
  refine lv_aload_n hx hb dX12_copy_2 rfl (lv_at hl 1 rfl) ?_
  refine lv_iload_n hx hb dX12_copy_3 rfl (lv_at hl 2 rfl) ?_
  refine va_iald hx hb hK hP 7 1 rfl rfl (z_in (i := p2) (by omega) (by omega)) dX12_copy_4 ?_
  refine lv_topi (fun x516 ex516 => ?_)
  have kx516 : x516.toInt = ((F 15) (Int32.toNatClampNeg p2)).toInt := congrArg Int32.toInt ex516
  have fx516 := hF15z (Int32.toNatClampNeg p2)
  clear ex516
  refine va_iast hx hb hK hP hD hS 7 1 rfl rfl (z_in (i := p3) (by omega) (by omega)) dX12_copy_5 (fun H locs hP hD hS => ?_)
  obtain ⟨f517, hF518, hP, hD⟩ : ∃ f517 : Nat → Int32, rng (-1) 16 f517 ∧ va_P (dC, dI) vwCl (mW h0 kB kI kZ q g (upF F 15 f517)) H ∧ va_D A (mW h0 kB kI kZ q g (upF F 15 f517)) := ⟨(upd (F 15) (Int32.toNatClampNeg p3) x516), rng_upd hF15z (x := x516) (by omega) (by omega), hP, hD⟩
  refine lv_iconst (v := 0) hx hb dX12_copy_6 (by decide +kernel) ?_
  refine lv_istore (lv' := [(4, .int 0), (0, .ref (q 14)), (1, .ref (q 15)), (2, .int p2), (3, .int p3)]) hx hb dX12_copy_7 hl (by decide) rfl (fun ls hl => ?_)
  have lp9 : ∀ (n9 : Nat) (x519 : Int32) (gl520 : Nat → Int32) (fl521 : Nat → Nat → Int32) (H : Heap) (locs : List Loc) (ls : Array Slot), (16 - x519.toInt).toNat < n9 → 0 ≤ x519.toInt → va_P (dC, dI) vwCl (mW h0 kB kI kZ q g (upF (upF F 15 f517) 14 (fl521 14))) H → va_D A (mW h0 kB kI kZ q g (upF (upF F 15 f517) 14 (fl521 14))) → va_S A s.heap H locs → lv_has ls 5 [(4, .int x519), (0, .ref (q 14)), (1, .ref (q 15)), (2, .int p2), (3, .int p3)] → W p l e ({ frames := 2, cells := 0, slots := 0, locals := 60 } : Room) s m args below meth c H locs 0 0 Q (F0 m 9 ls []) := by
    intro n9
    induction n9 with
    | zero => intro x519 gl520 fl521 H locs ls hm; exact absurd hm (Nat.not_lt_zero _)
    | succ n9 ih9 =>
      intro x519 gl520 fl521 H locs ls hm9 f522 hP hD hS hl
      refine lv_iload hx hb dX12_copy_9 (lv_at hl 0 rfl) ?_
      refine lv_aload_n hx hb dX12_copy_11 rfl (lv_at hl 2 rfl) ?_
      refine lv_iload_n hx hb dX12_copy_12 rfl (lv_at hl 3 rfl) ?_
      refine va_iald hx hb hK hP 7 1 rfl rfl (z_in (i := p2) (by omega) (by omega)) dX12_copy_13 ?_
      refine lv_topi (fun x523 ex523 => ?_)
      have kx523 : x523.toInt = (f517 (Int32.toNatClampNeg p2)).toInt := congrArg Int32.toInt ex523
      have fx523 := hF518 (Int32.toNatClampNeg p2)
      clear ex523
      refine lv_icmp_ge (tgt := 41) hx hb dX12_copy_14 (by decide) (fun c524 => ?_) (fun c524 => ?_)
      · have c524 := (z_le _ _).mp c524
        exact K 41 ls (g, (upF (upF F 15 f517) 14 (fl521 14))) H _ dX12_copy_41 hF518 hP hD hS
      · have c524 := z_nle c524
        refine lv_aload_n hx hb dX12_copy_17 rfl (lv_at hl 1 rfl) ?_
        refine lv_bipush (v := 16) hx hb dX12_copy_18 (by decide +kernel) ?_
        refine lv_iload_n hx hb dX12_copy_20 rfl (lv_at hl 4 rfl) ?_
        refine lv_imul hx hb dX12_copy_21 ?_
        refine lv_topi (fun x525 ex525 => ?_)
        have fx525 : x525.toInt = 16 * p3.toInt := by rw [ex525, z_mul (by simp only [zk16]; omega) (by simp only [zk16]; omega)]; simp only [zk16]
        clear ex525
        refine lv_iload hx hb dX12_copy_22 (lv_at hl 0 rfl) ?_
        refine lv_iadd hx hb dX12_copy_24 ?_
        refine lv_topi (fun x526 ex526 => ?_)
        have fx526 : x526.toInt = x525.toInt + x519.toInt := by have h := @z_add x525 x519 (by omega) (by omega); rw [← ex526] at h; omega
        clear ex526
        refine lv_aload_n hx hb dX12_copy_25 rfl (lv_at hl 1 rfl) ?_
        refine lv_bipush (v := 16) hx hb dX12_copy_26 (by decide +kernel) ?_
        refine lv_iload_n hx hb dX12_copy_28 rfl (lv_at hl 3 rfl) ?_
        refine lv_imul hx hb dX12_copy_29 ?_
        refine lv_topi (fun x527 ex527 => ?_)
        have fx527 : x527.toInt = 16 * p2.toInt := by rw [ex527, z_mul (by simp only [zk16]; omega) (by simp only [zk16]; omega)]; simp only [zk16]
        clear ex527
        refine lv_iload hx hb dX12_copy_30 (lv_at hl 0 rfl) ?_
        refine lv_iadd hx hb dX12_copy_32 ?_
        refine lv_topi (fun x528 ex528 => ?_)
        have fx528 : x528.toInt = x527.toInt + x519.toInt := by have h := @z_add x527 x519 (by omega) (by omega); rw [← ex528] at h; omega
        clear ex528
        refine va_bald hx hb hK hP 6 0 rfl rfl (z_in (i := x528) (by omega) (by omega)) dX12_copy_33 ?_
        refine lv_topi (fun x529 ex529 => ?_)
        clear ex529
        refine va_bast hx hb hK hP hD hS 6 0 rfl rfl (z_in (i := x526) (by omega) (by omega)) dX12_copy_34 (fun H locs hP hD hS => ?_)
        obtain ⟨f530, hP, hD⟩ : ∃ f530 : Nat → Int32, va_P (dC, dI) vwCl (mW h0 kB kI kZ q g (upF (upF F 15 f517) 14 f530)) H ∧ va_D A (mW h0 kB kI kZ q g (upF (upF F 15 f517) 14 f530)) := ⟨(upd (fl521 14) (Int32.toNatClampNeg x526) (vp_nar .byte x529)), hP, hD⟩
        obtain ⟨x531, ex531⟩ : ∃ y : Int32, y = x519 + 1 := ⟨_, rfl⟩
        have fx531 : x531.toInt = x519.toInt + (1) := by rw [ex531, z_add (by omega) (by omega)]; omega
        refine lv_iinc (v := x531) (lv' := [(4, .int x531), (0, .ref (q 14)), (1, .ref (q 15)), (2, .int p2), (3, .int p3)]) hx hb dX12_copy_35 hl (k := 0) rfl (by rw [ex531]; rfl) (by decide) rfl (fun ls hl => ?_)
        clear ex531
        refine lv_goto (tgt := 9) hx hb dX12_copy_38 (by decide) ?_
        exact ih9 x531 g (upF (upF F 15 f517) 14 f530) H _ ls (show (16 - x531.toInt).toNat < n9 from by omega) (show 0 ≤ x531.toInt from by omega) hP hD hS (lv_sub hl [0, 1, 2, 3, 4] rfl)
  exact lp9 ((16 - (0 : Int32).toInt).toNat + 1) 0 g (upF F 15 f517) H _ ls (Nat.lt_succ_self _) (show 0 ≤ (0 : Int32).toInt from by omega) hP hD hS (lv_sub hl [0, 1, 2, 3, 4] rfl)
set_option maxHeartbeats 4000000 in
set_option maxRecDepth 100000 in
theorem m_copy_14_15 (l : Launch) (dC : Nat → ClassId) (dI : Nat → Nat → Nat) (sz : Nat) (h0 : Nat) (kB kI kZ : ClassId) (q : Nat → Nat) (g : Nat → Int32) (F : Nat → Nat → Int32) (p2 : Int32) (p3 : Int32) (hI : MInv g F) (hq0 : (0 ≤ p2.toInt ∧ p2.toInt < 1120)) (hq1 : (0 ≤ p3.toInt ∧ p3.toInt < 1120)) : Met l yX12_copy vmX12_copy ({ frames := 2, cells := 0, slots := 0, locals := 60 } : Room) (va_Pc [.ref (q 14), .ref (q 15), .int p2, .int p3] (fun U => U.heap.size = sz ∧ va_P (dC, dI) vwCl (mW h0 kB kI kZ q g F) U.heap ∧ va_K (dC, dI) vwCl (mT kB kI kZ) U ∧ va_D (fun _ => True) (mW h0 kB kI kZ q g F))) (va_Qv (fun u : ((Nat → Int32) × (Nat → Nat → Int32)) => (rng (-1) 16 (u.2 15))) (fun u t => va_P (dC, dI) vwCl (mW h0 kB kI kZ q g (upF (upF F 14 (u.2 14)) 15 (u.2 15))) t.heap ∧ va_K (dC, dI) vwCl (mT kB kI kZ) t ∧ va_D (va_A (mW h0 kB kI kZ q g F) sz) (mW h0 kB kI kZ q g (upF (upF F 14 (u.2 14)) 15 (u.2 15)))) (va_A (mW h0 kB kI kZ q g F) sz)) 0 0 (va_A (mW h0 kB kI kZ q g F) sz) := by
  refine Met.ofW (cc := cX12_copy) (maxL := 5) (ret := none) (by decide) rfl ?_
  intro p e s m args below meth c s₁ B hml hv
  obtain ⟨rfl, hsz, hP, hK, hD0⟩ := hv
  have hx := B.exec
  have hb := B.bytes
  have hr := B.returns
  have hts := atoms_spec (ws := vmX12_copy) B.pre
  have hown : s.vm.findClass RX12 = some m.cls := findClass_of_methodNamed B.named
  subst hsz
  have hD := hD0.self (sz := s.heap.size)
  generalize hAe : va_A (mW h0 kB kI kZ q g F) s.heap.size = A at hD ⊢
  have hA : ∀ q : Nat, s.heap.size ≤ q → A q := fun q h => by rw [← hAe]; exact Or.inr h
  have hS : va_S A s.heap s.heap [] := va_S.rf
  have hl := lv_entry ([.ref (q 14), .ref (q 15), .int p2, .int p3]) (n := 5) (Nat.le_of_ble_eq_true rfl)
  rw [lg_entry_eq]
  generalize (lg_sl ([.ref (q 14), .ref (q 15), .int p2, .int p3]) ++ List.replicate (5 - (lg_sl ([.ref (q 14), .ref (q 15), .int p2, .int p3])).length) Slot.unset).toArray = ls at hl ⊢
  exact bm_copy_14_15 p2 p3 hx hb hml hown hts hA hK hI hq0 hq1 hP hD hS hl (fun pc ls u H locs hd hw hP hD hS => W.vret hx hb hr (fun t ht hW => ⟨⟨u, rfl, hw, by rw [ht]; exact hP, va_K.moved hW.alike hK, hD⟩, hS.F ht⟩) hS.2.2 hd)
set_option maxHeartbeats 4000000 in
set_option maxRecDepth 100000 in
theorem bm_copy_18_19 {p : Program} {l : Launch} {e : Env} {s : State} {m : MethodId} {args : Array Value} {below : List Frame} {meth : Method} {c : Code} {Q : State → Prop} {A : Nat → Prop} {dC : Nat → ClassId} {dI : Nat → Nat → Nat} {h0 : Nat} {kB kI kZ : ClassId} {q : Nat → Nat} {g : Nat → Int32} {F : Nat → Nat → Int32} {H : Heap} {locs : List Loc} {ls : Array Slot} (p2 : Int32) (p3 : Int32) (hx : p.tables.exec = Jvm.exec) (hb : c.code = cX12_copy) (hml : c.maxLocals = 5) (hown : s.vm.findClass RX12 = some m.cls) (hts : ∀ w ∈ vmX12_copy, w.before args s = true) (hA : ∀ q : Nat, s.heap.size ≤ q → A q) (hK : va_K (dC, dI) vwCl (mT kB kI kZ) s) (hI : MInv g F) (hq0 : (0 ≤ p2.toInt ∧ p2.toInt < 280)) (hq1 : (0 ≤ p3.toInt ∧ p3.toInt < 280)) (hP : va_P (dC, dI) vwCl (mW h0 kB kI kZ q g F) H) (hD : va_D A (mW h0 kB kI kZ q g F)) (hS : va_S A s.heap H locs) (hl : lv_has ls 5 [(0, .ref (q 18)), (1, .ref (q 19)), (2, .int p2), (3, .int p3)])
    (K : ∀ (pc : Nat) (ls : Array Slot) (u : ((Nat → Int32) × (Nat → Nat → Int32))) (H : Heap) (locs : List Loc), decode cX12_copy pc = .ok (.return_, 1) → ((rng (0) 16 (u.2 19))) → va_P (dC, dI) vwCl (mW h0 kB kI kZ q g (upF (upF F 18 (u.2 18)) 19 (u.2 19))) H → va_D A (mW h0 kB kI kZ q g (upF (upF F 18 (u.2 18)) 19 (u.2 19))) → va_S A s.heap H locs → W p l e ({ frames := 2, cells := 0, slots := 0, locals := 60 } : Room) s m args below meth c H locs 0 0 Q (F0 m pc ls [])) : W p l e ({ frames := 2, cells := 0, slots := 0, locals := 60 } : Room) s m args below meth c H locs 0 0 Q (F0 m 0 ls []) := by
  obtain ⟨hg1z, hg2z, hg3z, hg4z, hg5z, hg6z, hg7z, hg8z, hg9z, hg23z, hg27z, hg30z, hg34z, hg36z, hg39z, hg44z, hg47z, hg48z, hg51z, hg56z, hg59z, hg62z, hg65z, hg66z, hg70z, hF11z, hF12z, hF13z, hF15z, hF19z, hF21z, hF24z, hF25z, hF26z, hF33z, hF38z, hF41z, hF43z, hF45z, hF46z, hF50z, hF53z, hF54z⟩ := hI
  have zk0 : (0 : Int32).toInt = 0 := by decide +kernel
  have zk1 : (1 : Int32).toInt = 1 := by decide +kernel
  have zk16 : (16 : Int32).toInt = 16 := by decide +kernel
  refine lv_aload_n hx hb dX12_copy_0 rfl (lv_at hl 1 rfl) ?_
  refine lv_iload_n hx hb dX12_copy_1 rfl (lv_at hl 3 rfl) ?_
  refine lv_aload_n hx hb dX12_copy_2 rfl (lv_at hl 1 rfl) ?_
  refine lv_iload_n hx hb dX12_copy_3 rfl (lv_at hl 2 rfl) ?_
  refine va_iald hx hb hK hP 11 1 rfl rfl (z_in (i := p2) (by omega) (by omega)) dX12_copy_4 ?_
  refine lv_topi (fun x532 ex532 => ?_)
  have kx532 : x532.toInt = ((F 19) (Int32.toNatClampNeg p2)).toInt := congrArg Int32.toInt ex532
  have fx532 := hF19z (Int32.toNatClampNeg p2)
  clear ex532
  refine va_iast hx hb hK hP hD hS 11 1 rfl rfl (z_in (i := p3) (by omega) (by omega)) dX12_copy_5 (fun H locs hP hD hS => ?_)
  obtain ⟨f533, hF534, hP, hD⟩ : ∃ f533 : Nat → Int32, rng (0) 16 f533 ∧ va_P (dC, dI) vwCl (mW h0 kB kI kZ q g (upF F 19 f533)) H ∧ va_D A (mW h0 kB kI kZ q g (upF F 19 f533)) := ⟨(upd (F 19) (Int32.toNatClampNeg p3) x532), rng_upd hF19z (x := x532) (by omega) (by omega), hP, hD⟩
  refine lv_iconst (v := 0) hx hb dX12_copy_6 (by decide +kernel) ?_
  refine lv_istore (lv' := [(4, .int 0), (0, .ref (q 18)), (1, .ref (q 19)), (2, .int p2), (3, .int p3)]) hx hb dX12_copy_7 hl (by decide) rfl (fun ls hl => ?_)
  have lp9 : ∀ (n9 : Nat) (x535 : Int32) (gl536 : Nat → Int32) (fl537 : Nat → Nat → Int32) (H : Heap) (locs : List Loc) (ls : Array Slot), (16 - x535.toInt).toNat < n9 → 0 ≤ x535.toInt → va_P (dC, dI) vwCl (mW h0 kB kI kZ q g (upF (upF F 19 f533) 18 (fl537 18))) H → va_D A (mW h0 kB kI kZ q g (upF (upF F 19 f533) 18 (fl537 18))) → va_S A s.heap H locs → lv_has ls 5 [(4, .int x535), (0, .ref (q 18)), (1, .ref (q 19)), (2, .int p2), (3, .int p3)] → W p l e ({ frames := 2, cells := 0, slots := 0, locals := 60 } : Room) s m args below meth c H locs 0 0 Q (F0 m 9 ls []) := by
    intro n9
    induction n9 with
    | zero => intro x535 gl536 fl537 H locs ls hm; exact absurd hm (Nat.not_lt_zero _)
    | succ n9 ih9 =>
      intro x535 gl536 fl537 H locs ls hm9 f538 hP hD hS hl
      refine lv_iload hx hb dX12_copy_9 (lv_at hl 0 rfl) ?_
      refine lv_aload_n hx hb dX12_copy_11 rfl (lv_at hl 2 rfl) ?_
      refine lv_iload_n hx hb dX12_copy_12 rfl (lv_at hl 3 rfl) ?_
      refine va_iald hx hb hK hP 11 1 rfl rfl (z_in (i := p2) (by omega) (by omega)) dX12_copy_13 ?_
      refine lv_topi (fun x539 ex539 => ?_)
      have kx539 : x539.toInt = (f533 (Int32.toNatClampNeg p2)).toInt := congrArg Int32.toInt ex539
      have fx539 := hF534 (Int32.toNatClampNeg p2)
      clear ex539
      refine lv_icmp_ge (tgt := 41) hx hb dX12_copy_14 (by decide) (fun c540 => ?_) (fun c540 => ?_)
      · have c540 := (z_le _ _).mp c540
        exact K 41 ls (g, (upF (upF F 19 f533) 18 (fl537 18))) H _ dX12_copy_41 hF534 hP hD hS
      · have c540 := z_nle c540
        refine lv_aload_n hx hb dX12_copy_17 rfl (lv_at hl 1 rfl) ?_
        refine lv_bipush (v := 16) hx hb dX12_copy_18 (by decide +kernel) ?_
        refine lv_iload_n hx hb dX12_copy_20 rfl (lv_at hl 4 rfl) ?_
        refine lv_imul hx hb dX12_copy_21 ?_
        refine lv_topi (fun x541 ex541 => ?_)
        have fx541 : x541.toInt = 16 * p3.toInt := by rw [ex541, z_mul (by simp only [zk16]; omega) (by simp only [zk16]; omega)]; simp only [zk16]
        clear ex541
        refine lv_iload hx hb dX12_copy_22 (lv_at hl 0 rfl) ?_
        refine lv_iadd hx hb dX12_copy_24 ?_
        refine lv_topi (fun x542 ex542 => ?_)
        have fx542 : x542.toInt = x541.toInt + x535.toInt := by have h := @z_add x541 x535 (by omega) (by omega); rw [← ex542] at h; omega
        clear ex542
        refine lv_aload_n hx hb dX12_copy_25 rfl (lv_at hl 1 rfl) ?_
        refine lv_bipush (v := 16) hx hb dX12_copy_26 (by decide +kernel) ?_
        refine lv_iload_n hx hb dX12_copy_28 rfl (lv_at hl 3 rfl) ?_
        refine lv_imul hx hb dX12_copy_29 ?_
        refine lv_topi (fun x543 ex543 => ?_)
        have fx543 : x543.toInt = 16 * p2.toInt := by rw [ex543, z_mul (by simp only [zk16]; omega) (by simp only [zk16]; omega)]; simp only [zk16]
        clear ex543
        refine lv_iload hx hb dX12_copy_30 (lv_at hl 0 rfl) ?_
        refine lv_iadd hx hb dX12_copy_32 ?_
        refine lv_topi (fun x544 ex544 => ?_)
        have fx544 : x544.toInt = x543.toInt + x535.toInt := by have h := @z_add x543 x535 (by omega) (by omega); rw [← ex544] at h; omega
        clear ex544
        refine va_bald hx hb hK hP 10 0 rfl rfl (z_in (i := x544) (by omega) (by omega)) dX12_copy_33 ?_
        refine lv_topi (fun x545 ex545 => ?_)
        clear ex545
        refine va_bast hx hb hK hP hD hS 10 0 rfl rfl (z_in (i := x542) (by omega) (by omega)) dX12_copy_34 (fun H locs hP hD hS => ?_)
        obtain ⟨f546, hP, hD⟩ : ∃ f546 : Nat → Int32, va_P (dC, dI) vwCl (mW h0 kB kI kZ q g (upF (upF F 19 f533) 18 f546)) H ∧ va_D A (mW h0 kB kI kZ q g (upF (upF F 19 f533) 18 f546)) := ⟨(upd (fl537 18) (Int32.toNatClampNeg x542) (vp_nar .byte x545)), hP, hD⟩
        obtain ⟨x547, ex547⟩ : ∃ y : Int32, y = x535 + 1 := ⟨_, rfl⟩
        have fx547 : x547.toInt = x535.toInt + (1) := by rw [ex547, z_add (by omega) (by omega)]; omega
        refine lv_iinc (v := x547) (lv' := [(4, .int x547), (0, .ref (q 18)), (1, .ref (q 19)), (2, .int p2), (3, .int p3)]) hx hb dX12_copy_35 hl (k := 0) rfl (by rw [ex547]; rfl) (by decide) rfl (fun ls hl => ?_)
        clear ex547
        refine lv_goto (tgt := 9) hx hb dX12_copy_38 (by decide) ?_
        exact ih9 x547 g (upF (upF F 19 f533) 18 f546) H _ ls (show (16 - x547.toInt).toNat < n9 from by omega) (show 0 ≤ x547.toInt from by omega) hP hD hS (lv_sub hl [0, 1, 2, 3, 4] rfl)
  exact lp9 ((16 - (0 : Int32).toInt).toNat + 1) 0 g (upF F 19 f533) H _ ls (Nat.lt_succ_self _) (show 0 ≤ (0 : Int32).toInt from by omega) hP hD hS (lv_sub hl [0, 1, 2, 3, 4] rfl)
set_option maxHeartbeats 4000000 in
set_option maxRecDepth 100000 in
theorem m_copy_18_19 (l : Launch) (dC : Nat → ClassId) (dI : Nat → Nat → Nat) (sz : Nat) (h0 : Nat) (kB kI kZ : ClassId) (q : Nat → Nat) (g : Nat → Int32) (F : Nat → Nat → Int32) (p2 : Int32) (p3 : Int32) (hI : MInv g F) (hq0 : (0 ≤ p2.toInt ∧ p2.toInt < 280)) (hq1 : (0 ≤ p3.toInt ∧ p3.toInt < 280)) : Met l yX12_copy vmX12_copy ({ frames := 2, cells := 0, slots := 0, locals := 60 } : Room) (va_Pc [.ref (q 18), .ref (q 19), .int p2, .int p3] (fun U => U.heap.size = sz ∧ va_P (dC, dI) vwCl (mW h0 kB kI kZ q g F) U.heap ∧ va_K (dC, dI) vwCl (mT kB kI kZ) U ∧ va_D (fun _ => True) (mW h0 kB kI kZ q g F))) (va_Qv (fun u : ((Nat → Int32) × (Nat → Nat → Int32)) => (rng (0) 16 (u.2 19))) (fun u t => va_P (dC, dI) vwCl (mW h0 kB kI kZ q g (upF (upF F 18 (u.2 18)) 19 (u.2 19))) t.heap ∧ va_K (dC, dI) vwCl (mT kB kI kZ) t ∧ va_D (va_A (mW h0 kB kI kZ q g F) sz) (mW h0 kB kI kZ q g (upF (upF F 18 (u.2 18)) 19 (u.2 19)))) (va_A (mW h0 kB kI kZ q g F) sz)) 0 0 (va_A (mW h0 kB kI kZ q g F) sz) := by
  refine Met.ofW (cc := cX12_copy) (maxL := 5) (ret := none) (by decide) rfl ?_
  intro p e s m args below meth c s₁ B hml hv
  obtain ⟨rfl, hsz, hP, hK, hD0⟩ := hv
  have hx := B.exec
  have hb := B.bytes
  have hr := B.returns
  have hts := atoms_spec (ws := vmX12_copy) B.pre
  have hown : s.vm.findClass RX12 = some m.cls := findClass_of_methodNamed B.named
  subst hsz
  have hD := hD0.self (sz := s.heap.size)
  generalize hAe : va_A (mW h0 kB kI kZ q g F) s.heap.size = A at hD ⊢
  have hA : ∀ q : Nat, s.heap.size ≤ q → A q := fun q h => by rw [← hAe]; exact Or.inr h
  have hS : va_S A s.heap s.heap [] := va_S.rf
  have hl := lv_entry ([.ref (q 18), .ref (q 19), .int p2, .int p3]) (n := 5) (Nat.le_of_ble_eq_true rfl)
  rw [lg_entry_eq]
  generalize (lg_sl ([.ref (q 18), .ref (q 19), .int p2, .int p3]) ++ List.replicate (5 - (lg_sl ([.ref (q 18), .ref (q 19), .int p2, .int p3])).length) Slot.unset).toArray = ls at hl ⊢
  exact bm_copy_18_19 p2 p3 hx hb hml hown hts hA hK hI hq0 hq1 hP hD hS hl (fun pc ls u H locs hd hw hP hD hS => W.vret hx hb hr (fun t ht hW => ⟨⟨u, rfl, hw, by rw [ht]; exact hP, va_K.moved hW.alike hK, hD⟩, hS.F ht⟩) hS.2.2 hd)
set_option maxHeartbeats 4000000 in
set_option maxRecDepth 100000 in
theorem bm_copy_20_21 {p : Program} {l : Launch} {e : Env} {s : State} {m : MethodId} {args : Array Value} {below : List Frame} {meth : Method} {c : Code} {Q : State → Prop} {A : Nat → Prop} {dC : Nat → ClassId} {dI : Nat → Nat → Nat} {h0 : Nat} {kB kI kZ : ClassId} {q : Nat → Nat} {g : Nat → Int32} {F : Nat → Nat → Int32} {H : Heap} {locs : List Loc} {ls : Array Slot} (p2 : Int32) (p3 : Int32) (hx : p.tables.exec = Jvm.exec) (hb : c.code = cX12_copy) (hml : c.maxLocals = 5) (hown : s.vm.findClass RX12 = some m.cls) (hts : ∀ w ∈ vmX12_copy, w.before args s = true) (hA : ∀ q : Nat, s.heap.size ≤ q → A q) (hK : va_K (dC, dI) vwCl (mT kB kI kZ) s) (hI : MInv g F) (hq0 : (0 ≤ p2.toInt ∧ p2.toInt < 560)) (hq1 : (0 ≤ p3.toInt ∧ p3.toInt < 560)) (hP : va_P (dC, dI) vwCl (mW h0 kB kI kZ q g F) H) (hD : va_D A (mW h0 kB kI kZ q g F)) (hS : va_S A s.heap H locs) (hl : lv_has ls 5 [(0, .ref (q 20)), (1, .ref (q 21)), (2, .int p2), (3, .int p3)])
    (K : ∀ (pc : Nat) (ls : Array Slot) (u : ((Nat → Int32) × (Nat → Nat → Int32))) (H : Heap) (locs : List Loc), decode cX12_copy pc = .ok (.return_, 1) → ((rng (-1) 16 (u.2 21))) → va_P (dC, dI) vwCl (mW h0 kB kI kZ q g (upF (upF F 20 (u.2 20)) 21 (u.2 21))) H → va_D A (mW h0 kB kI kZ q g (upF (upF F 20 (u.2 20)) 21 (u.2 21))) → va_S A s.heap H locs → W p l e ({ frames := 2, cells := 0, slots := 0, locals := 60 } : Room) s m args below meth c H locs 0 0 Q (F0 m pc ls [])) : W p l e ({ frames := 2, cells := 0, slots := 0, locals := 60 } : Room) s m args below meth c H locs 0 0 Q (F0 m 0 ls []) := by
  obtain ⟨hg1z, hg2z, hg3z, hg4z, hg5z, hg6z, hg7z, hg8z, hg9z, hg23z, hg27z, hg30z, hg34z, hg36z, hg39z, hg44z, hg47z, hg48z, hg51z, hg56z, hg59z, hg62z, hg65z, hg66z, hg70z, hF11z, hF12z, hF13z, hF15z, hF19z, hF21z, hF24z, hF25z, hF26z, hF33z, hF38z, hF41z, hF43z, hF45z, hF46z, hF50z, hF53z, hF54z⟩ := hI
  have zk0 : (0 : Int32).toInt = 0 := by decide +kernel
  have zk1 : (1 : Int32).toInt = 1 := by decide +kernel
  have zk16 : (16 : Int32).toInt = 16 := by decide +kernel
  refine lv_aload_n hx hb dX12_copy_0 rfl (lv_at hl 1 rfl) ?_
  refine lv_iload_n hx hb dX12_copy_1 rfl (lv_at hl 3 rfl) ?_
  refine lv_aload_n hx hb dX12_copy_2 rfl (lv_at hl 1 rfl) ?_
  refine lv_iload_n hx hb dX12_copy_3 rfl (lv_at hl 2 rfl) ?_
  refine va_iald hx hb hK hP 13 1 rfl rfl (z_in (i := p2) (by omega) (by omega)) dX12_copy_4 ?_
  refine lv_topi (fun x548 ex548 => ?_)
  have kx548 : x548.toInt = ((F 21) (Int32.toNatClampNeg p2)).toInt := congrArg Int32.toInt ex548
  have fx548 := hF21z (Int32.toNatClampNeg p2)
  clear ex548
  refine va_iast hx hb hK hP hD hS 13 1 rfl rfl (z_in (i := p3) (by omega) (by omega)) dX12_copy_5 (fun H locs hP hD hS => ?_)
  obtain ⟨f549, hF550, hP, hD⟩ : ∃ f549 : Nat → Int32, rng (-1) 16 f549 ∧ va_P (dC, dI) vwCl (mW h0 kB kI kZ q g (upF F 21 f549)) H ∧ va_D A (mW h0 kB kI kZ q g (upF F 21 f549)) := ⟨(upd (F 21) (Int32.toNatClampNeg p3) x548), rng_upd hF21z (x := x548) (by omega) (by omega), hP, hD⟩
  refine lv_iconst (v := 0) hx hb dX12_copy_6 (by decide +kernel) ?_
  refine lv_istore (lv' := [(4, .int 0), (0, .ref (q 20)), (1, .ref (q 21)), (2, .int p2), (3, .int p3)]) hx hb dX12_copy_7 hl (by decide) rfl (fun ls hl => ?_)
  have lp9 : ∀ (n9 : Nat) (x551 : Int32) (gl552 : Nat → Int32) (fl553 : Nat → Nat → Int32) (H : Heap) (locs : List Loc) (ls : Array Slot), (16 - x551.toInt).toNat < n9 → 0 ≤ x551.toInt → va_P (dC, dI) vwCl (mW h0 kB kI kZ q g (upF (upF F 21 f549) 20 (fl553 20))) H → va_D A (mW h0 kB kI kZ q g (upF (upF F 21 f549) 20 (fl553 20))) → va_S A s.heap H locs → lv_has ls 5 [(4, .int x551), (0, .ref (q 20)), (1, .ref (q 21)), (2, .int p2), (3, .int p3)] → W p l e ({ frames := 2, cells := 0, slots := 0, locals := 60 } : Room) s m args below meth c H locs 0 0 Q (F0 m 9 ls []) := by
    intro n9
    induction n9 with
    | zero => intro x551 gl552 fl553 H locs ls hm; exact absurd hm (Nat.not_lt_zero _)
    | succ n9 ih9 =>
      intro x551 gl552 fl553 H locs ls hm9 f554 hP hD hS hl
      refine lv_iload hx hb dX12_copy_9 (lv_at hl 0 rfl) ?_
      refine lv_aload_n hx hb dX12_copy_11 rfl (lv_at hl 2 rfl) ?_
      refine lv_iload_n hx hb dX12_copy_12 rfl (lv_at hl 3 rfl) ?_
      refine va_iald hx hb hK hP 13 1 rfl rfl (z_in (i := p2) (by omega) (by omega)) dX12_copy_13 ?_
      refine lv_topi (fun x555 ex555 => ?_)
      have kx555 : x555.toInt = (f549 (Int32.toNatClampNeg p2)).toInt := congrArg Int32.toInt ex555
      have fx555 := hF550 (Int32.toNatClampNeg p2)
      clear ex555
      refine lv_icmp_ge (tgt := 41) hx hb dX12_copy_14 (by decide) (fun c556 => ?_) (fun c556 => ?_)
      · have c556 := (z_le _ _).mp c556
        exact K 41 ls (g, (upF (upF F 21 f549) 20 (fl553 20))) H _ dX12_copy_41 hF550 hP hD hS
      · have c556 := z_nle c556
        refine lv_aload_n hx hb dX12_copy_17 rfl (lv_at hl 1 rfl) ?_
        refine lv_bipush (v := 16) hx hb dX12_copy_18 (by decide +kernel) ?_
        refine lv_iload_n hx hb dX12_copy_20 rfl (lv_at hl 4 rfl) ?_
        refine lv_imul hx hb dX12_copy_21 ?_
        refine lv_topi (fun x557 ex557 => ?_)
        have fx557 : x557.toInt = 16 * p3.toInt := by rw [ex557, z_mul (by simp only [zk16]; omega) (by simp only [zk16]; omega)]; simp only [zk16]
        clear ex557
        refine lv_iload hx hb dX12_copy_22 (lv_at hl 0 rfl) ?_
        refine lv_iadd hx hb dX12_copy_24 ?_
        refine lv_topi (fun x558 ex558 => ?_)
        have fx558 : x558.toInt = x557.toInt + x551.toInt := by have h := @z_add x557 x551 (by omega) (by omega); rw [← ex558] at h; omega
        clear ex558
        refine lv_aload_n hx hb dX12_copy_25 rfl (lv_at hl 1 rfl) ?_
        refine lv_bipush (v := 16) hx hb dX12_copy_26 (by decide +kernel) ?_
        refine lv_iload_n hx hb dX12_copy_28 rfl (lv_at hl 3 rfl) ?_
        refine lv_imul hx hb dX12_copy_29 ?_
        refine lv_topi (fun x559 ex559 => ?_)
        have fx559 : x559.toInt = 16 * p2.toInt := by rw [ex559, z_mul (by simp only [zk16]; omega) (by simp only [zk16]; omega)]; simp only [zk16]
        clear ex559
        refine lv_iload hx hb dX12_copy_30 (lv_at hl 0 rfl) ?_
        refine lv_iadd hx hb dX12_copy_32 ?_
        refine lv_topi (fun x560 ex560 => ?_)
        have fx560 : x560.toInt = x559.toInt + x551.toInt := by have h := @z_add x559 x551 (by omega) (by omega); rw [← ex560] at h; omega
        clear ex560
        refine va_bald hx hb hK hP 12 0 rfl rfl (z_in (i := x560) (by omega) (by omega)) dX12_copy_33 ?_
        refine lv_topi (fun x561 ex561 => ?_)
        clear ex561
        refine va_bast hx hb hK hP hD hS 12 0 rfl rfl (z_in (i := x558) (by omega) (by omega)) dX12_copy_34 (fun H locs hP hD hS => ?_)
        obtain ⟨f562, hP, hD⟩ : ∃ f562 : Nat → Int32, va_P (dC, dI) vwCl (mW h0 kB kI kZ q g (upF (upF F 21 f549) 20 f562)) H ∧ va_D A (mW h0 kB kI kZ q g (upF (upF F 21 f549) 20 f562)) := ⟨(upd (fl553 20) (Int32.toNatClampNeg x558) (vp_nar .byte x561)), hP, hD⟩
        obtain ⟨x563, ex563⟩ : ∃ y : Int32, y = x551 + 1 := ⟨_, rfl⟩
        have fx563 : x563.toInt = x551.toInt + (1) := by rw [ex563, z_add (by omega) (by omega)]; omega
        refine lv_iinc (v := x563) (lv' := [(4, .int x563), (0, .ref (q 20)), (1, .ref (q 21)), (2, .int p2), (3, .int p3)]) hx hb dX12_copy_35 hl (k := 0) rfl (by rw [ex563]; rfl) (by decide) rfl (fun ls hl => ?_)
        clear ex563
        refine lv_goto (tgt := 9) hx hb dX12_copy_38 (by decide) ?_
        exact ih9 x563 g (upF (upF F 21 f549) 20 f562) H _ ls (show (16 - x563.toInt).toNat < n9 from by omega) (show 0 ≤ x563.toInt from by omega) hP hD hS (lv_sub hl [0, 1, 2, 3, 4] rfl)
  exact lp9 ((16 - (0 : Int32).toInt).toNat + 1) 0 g (upF F 21 f549) H _ ls (Nat.lt_succ_self _) (show 0 ≤ (0 : Int32).toInt from by omega) hP hD hS (lv_sub hl [0, 1, 2, 3, 4] rfl)
set_option maxHeartbeats 4000000 in
set_option maxRecDepth 100000 in
theorem m_copy_20_21 (l : Launch) (dC : Nat → ClassId) (dI : Nat → Nat → Nat) (sz : Nat) (h0 : Nat) (kB kI kZ : ClassId) (q : Nat → Nat) (g : Nat → Int32) (F : Nat → Nat → Int32) (p2 : Int32) (p3 : Int32) (hI : MInv g F) (hq0 : (0 ≤ p2.toInt ∧ p2.toInt < 560)) (hq1 : (0 ≤ p3.toInt ∧ p3.toInt < 560)) : Met l yX12_copy vmX12_copy ({ frames := 2, cells := 0, slots := 0, locals := 60 } : Room) (va_Pc [.ref (q 20), .ref (q 21), .int p2, .int p3] (fun U => U.heap.size = sz ∧ va_P (dC, dI) vwCl (mW h0 kB kI kZ q g F) U.heap ∧ va_K (dC, dI) vwCl (mT kB kI kZ) U ∧ va_D (fun _ => True) (mW h0 kB kI kZ q g F))) (va_Qv (fun u : ((Nat → Int32) × (Nat → Nat → Int32)) => (rng (-1) 16 (u.2 21))) (fun u t => va_P (dC, dI) vwCl (mW h0 kB kI kZ q g (upF (upF F 20 (u.2 20)) 21 (u.2 21))) t.heap ∧ va_K (dC, dI) vwCl (mT kB kI kZ) t ∧ va_D (va_A (mW h0 kB kI kZ q g F) sz) (mW h0 kB kI kZ q g (upF (upF F 20 (u.2 20)) 21 (u.2 21)))) (va_A (mW h0 kB kI kZ q g F) sz)) 0 0 (va_A (mW h0 kB kI kZ q g F) sz) := by
  refine Met.ofW (cc := cX12_copy) (maxL := 5) (ret := none) (by decide) rfl ?_
  intro p e s m args below meth c s₁ B hml hv
  obtain ⟨rfl, hsz, hP, hK, hD0⟩ := hv
  have hx := B.exec
  have hb := B.bytes
  have hr := B.returns
  have hts := atoms_spec (ws := vmX12_copy) B.pre
  have hown : s.vm.findClass RX12 = some m.cls := findClass_of_methodNamed B.named
  subst hsz
  have hD := hD0.self (sz := s.heap.size)
  generalize hAe : va_A (mW h0 kB kI kZ q g F) s.heap.size = A at hD ⊢
  have hA : ∀ q : Nat, s.heap.size ≤ q → A q := fun q h => by rw [← hAe]; exact Or.inr h
  have hS : va_S A s.heap s.heap [] := va_S.rf
  have hl := lv_entry ([.ref (q 20), .ref (q 21), .int p2, .int p3]) (n := 5) (Nat.le_of_ble_eq_true rfl)
  rw [lg_entry_eq]
  generalize (lg_sl ([.ref (q 20), .ref (q 21), .int p2, .int p3]) ++ List.replicate (5 - (lg_sl ([.ref (q 20), .ref (q 21), .int p2, .int p3])).length) Slot.unset).toArray = ls at hl ⊢
  exact bm_copy_20_21 p2 p3 hx hb hml hown hts hA hK hI hq0 hq1 hP hD hS hl (fun pc ls u H locs hd hw hP hD hS => W.vret hx hb hr (fun t ht hW => ⟨⟨u, rfl, hw, by rw [ht]; exact hP, va_K.moved hW.alike hK, hD⟩, hS.F ht⟩) hS.2.2 hd)
set_option maxHeartbeats 4000000 in
set_option maxRecDepth 100000 in
theorem bm_sameBytes_52_52 {p : Program} {l : Launch} {e : Env} {s : State} {m : MethodId} {args : Array Value} {below : List Frame} {meth : Method} {c : Code} {Q : State → Prop} {A : Nat → Prop} {dC : Nat → ClassId} {dI : Nat → Nat → Nat} {h0 : Nat} {kB kI kZ : ClassId} {q : Nat → Nat} {g : Nat → Int32} {F : Nat → Nat → Int32} {H : Heap} {locs : List Loc} {ls : Array Slot} (p1 : Int32) (p2 : Int32) (p4 : Int32) (p5 : Int32) (hx : p.tables.exec = Jvm.exec) (hb : c.code = cX12_sameBytes) (hml : c.maxLocals = 7) (hown : s.vm.findClass RX12 = some m.cls) (hts : ∀ w ∈ vmX12_sameBytes, w.before args s = true) (hA : ∀ q : Nat, s.heap.size ≤ q → A q) (hK : va_K (dC, dI) vwCl (mT kB kI kZ) s) (hI : MInv g F) (hq0 : (0 ≤ p1.toInt ∧ p1.toInt + p2.toInt ≤ 201600)) (hq1 : (0 ≤ p4.toInt ∧ p4.toInt + p5.toInt ≤ 201600)) (hP : va_P (dC, dI) vwCl (mW h0 kB kI kZ q g F) H) (hD : va_D A (mW h0 kB kI kZ q g F)) (hS : va_S A s.heap H locs) (hl : lv_has ls 7 [(0, .ref (q 52)), (1, .int p1), (2, .int p2), (3, .ref (q 52)), (4, .int p4), (5, .int p5)])
    (K : ∀ (pc : Nat) (ls : Array Slot) (r : Int32) (u : ((Nat → Int32) × (Nat → Nat → Int32))) (H : Heap) (locs : List Loc), decode cX12_sameBytes pc = .ok (.ireturn, 1) → (((0 ≤ r.toInt ∧ r.toInt ≤ 1))) → va_P (dC, dI) vwCl (mW h0 kB kI kZ q g F) H → va_D A (mW h0 kB kI kZ q g F) → va_S A s.heap H locs → W p l e ({ frames := 2, cells := 0, slots := 0, locals := 60 } : Room) s m args below meth c H locs 0 0 Q (F0 m pc ls [.int r])) : W p l e ({ frames := 2, cells := 0, slots := 0, locals := 60 } : Room) s m args below meth c H locs 0 0 Q (F0 m 0 ls []) := by
  obtain ⟨hg1z, hg2z, hg3z, hg4z, hg5z, hg6z, hg7z, hg8z, hg9z, hg23z, hg27z, hg30z, hg34z, hg36z, hg39z, hg44z, hg47z, hg48z, hg51z, hg56z, hg59z, hg62z, hg65z, hg66z, hg70z, hF11z, hF12z, hF13z, hF15z, hF19z, hF21z, hF24z, hF25z, hF26z, hF33z, hF38z, hF41z, hF43z, hF45z, hF46z, hF50z, hF53z, hF54z⟩ := hI
  have zk0 : (0 : Int32).toInt = 0 := by decide +kernel
  have zk1 : (1 : Int32).toInt = 1 := by decide +kernel
  refine lv_iload_n hx hb dX12_sameBytes_0 rfl (lv_at hl 2 rfl) ?_
  refine lv_iload hx hb dX12_sameBytes_1 (lv_at hl 5 rfl) ?_
  refine lv_icmp_eq (tgt := 8) hx hb dX12_sameBytes_3 (by decide) (fun c598 => ?_) (fun c598 => ?_)
  · have c598 := congrArg Int32.toInt c598
    refine lv_iconst (v := 0) hx hb dX12_sameBytes_8 (by decide +kernel) ?_
    refine lv_istore (lv' := [(6, .int 0), (0, .ref (q 52)), (1, .int p1), (2, .int p2), (3, .ref (q 52)), (4, .int p4), (5, .int p5)]) hx hb dX12_sameBytes_9 hl (by decide) rfl (fun ls hl => ?_)
    have lp11 : ∀ (n11 : Nat) (x599 : Int32) (gl600 : Nat → Int32) (fl601 : Nat → Nat → Int32) (H : Heap) (locs : List Loc) (ls : Array Slot), (p2.toInt - x599.toInt).toNat < n11 → 0 ≤ x599.toInt → va_P (dC, dI) vwCl (mW h0 kB kI kZ q g F) H → va_D A (mW h0 kB kI kZ q g F) → va_S A s.heap H locs → lv_has ls 7 [(6, .int x599), (0, .ref (q 52)), (1, .int p1), (2, .int p2), (3, .ref (q 52)), (4, .int p4), (5, .int p5)] → W p l e ({ frames := 2, cells := 0, slots := 0, locals := 60 } : Room) s m args below meth c H locs 0 0 Q (F0 m 11 ls []) := by
      intro n11
      induction n11 with
      | zero => intro x599 gl600 fl601 H locs ls hm; exact absurd hm (Nat.not_lt_zero _)
      | succ n11 ih11 =>
        intro x599 gl600 fl601 H locs ls hm11 f602 hP hD hS hl
        refine lv_iload hx hb dX12_sameBytes_11 (lv_at hl 0 rfl) ?_
        refine lv_iload_n hx hb dX12_sameBytes_13 rfl (lv_at hl 3 rfl) ?_
        refine lv_icmp_ge (tgt := 41) hx hb dX12_sameBytes_14 (by decide) (fun c603 => ?_) (fun c603 => ?_)
        · have c603 := (z_le _ _).mp c603
          refine lv_iconst (v := 1) hx hb dX12_sameBytes_41 (by decide +kernel) ?_
          exact K 42 ls 1 (g, F) H _ dX12_sameBytes_42 (show (0 ≤ (1 : Int32).toInt ∧ (1 : Int32).toInt ≤ 1) from by omega) hP hD hS
        · have c603 := z_nle c603
          refine lv_aload_n hx hb dX12_sameBytes_17 rfl (lv_at hl 1 rfl) ?_
          refine lv_iload_n hx hb dX12_sameBytes_18 rfl (lv_at hl 2 rfl) ?_
          refine lv_iload hx hb dX12_sameBytes_19 (lv_at hl 0 rfl) ?_
          refine lv_iadd hx hb dX12_sameBytes_21 ?_
          refine lv_topi (fun x604 ex604 => ?_)
          have fx604 : x604.toInt = p1.toInt + x599.toInt := by have h := @z_add p1 x599 (by omega) (by omega); rw [← ex604] at h; omega
          clear ex604
          refine va_bald hx hb hK hP 33 0 rfl rfl (z_in (i := x604) (by omega) (by omega)) dX12_sameBytes_22 ?_
          refine lv_topi (fun x605 ex605 => ?_)
          clear ex605
          refine lv_aload_n hx hb dX12_sameBytes_23 rfl (lv_at hl 4 rfl) ?_
          refine lv_iload hx hb dX12_sameBytes_24 (lv_at hl 5 rfl) ?_
          refine lv_iload hx hb dX12_sameBytes_26 (lv_at hl 0 rfl) ?_
          refine lv_iadd hx hb dX12_sameBytes_28 ?_
          refine lv_topi (fun x606 ex606 => ?_)
          have fx606 : x606.toInt = p4.toInt + x599.toInt := by have h := @z_add p4 x599 (by omega) (by omega); rw [← ex606] at h; omega
          clear ex606
          refine va_bald hx hb hK hP 33 0 rfl rfl (z_in (i := x606) (by omega) (by omega)) dX12_sameBytes_29 ?_
          refine lv_topi (fun x607 ex607 => ?_)
          clear ex607
          refine lv_icmp_eq (tgt := 35) hx hb dX12_sameBytes_30 (by decide) (fun c608 => ?_) (fun c608 => ?_)
          · have c608 := congrArg Int32.toInt c608
            obtain ⟨x609, ex609⟩ : ∃ y : Int32, y = x599 + 1 := ⟨_, rfl⟩
            have fx609 : x609.toInt = x599.toInt + (1) := by rw [ex609, z_add (by omega) (by omega)]; omega
            refine lv_iinc (v := x609) (lv' := [(6, .int x609), (0, .ref (q 52)), (1, .int p1), (2, .int p2), (3, .ref (q 52)), (4, .int p4), (5, .int p5)]) hx hb dX12_sameBytes_35 hl (k := 0) rfl (by rw [ex609]; rfl) (by decide) rfl (fun ls hl => ?_)
            clear ex609
            refine lv_goto (tgt := 11) hx hb dX12_sameBytes_38 (by decide) ?_
            exact ih11 x609 g F H _ ls (show (p2.toInt - x609.toInt).toNat < n11 from by omega) (show 0 ≤ x609.toInt from by omega) hP hD hS (lv_sub hl [0, 1, 2, 3, 4, 5, 6] rfl)
          · have c608 := z_ne c608
            refine lv_iconst (v := 0) hx hb dX12_sameBytes_33 (by decide +kernel) ?_
            exact K 34 ls 0 (g, F) H _ dX12_sameBytes_34 (show (0 ≤ (0 : Int32).toInt ∧ (0 : Int32).toInt ≤ 1) from by omega) hP hD hS
    exact lp11 ((p2.toInt - (0 : Int32).toInt).toNat + 1) 0 g F H _ ls (Nat.lt_succ_self _) (show 0 ≤ (0 : Int32).toInt from by omega) hP hD hS (lv_sub hl [0, 1, 2, 3, 4, 5, 6] rfl)
  · have c598 := z_ne c598
    refine lv_iconst (v := 0) hx hb dX12_sameBytes_6 (by decide +kernel) ?_
    exact K 7 ls 0 (g, F) H _ dX12_sameBytes_7 (show (0 ≤ (0 : Int32).toInt ∧ (0 : Int32).toInt ≤ 1) from by omega) hP hD hS
set_option maxHeartbeats 4000000 in
set_option maxRecDepth 100000 in
theorem m_sameBytes_52_52 (l : Launch) (dC : Nat → ClassId) (dI : Nat → Nat → Nat) (sz : Nat) (h0 : Nat) (kB kI kZ : ClassId) (q : Nat → Nat) (g : Nat → Int32) (F : Nat → Nat → Int32) (p1 : Int32) (p2 : Int32) (p4 : Int32) (p5 : Int32) (hI : MInv g F) (hq0 : (0 ≤ p1.toInt ∧ p1.toInt + p2.toInt ≤ 201600)) (hq1 : (0 ≤ p4.toInt ∧ p4.toInt + p5.toInt ≤ 201600)) : Met l yX12_sameBytes vmX12_sameBytes ({ frames := 2, cells := 0, slots := 0, locals := 60 } : Room) (va_Pc [.ref (q 52), .int p1, .int p2, .ref (q 52), .int p4, .int p5] (fun U => U.heap.size = sz ∧ va_P (dC, dI) vwCl (mW h0 kB kI kZ q g F) U.heap ∧ va_K (dC, dI) vwCl (mT kB kI kZ) U ∧ va_D (fun _ => True) (mW h0 kB kI kZ q g F))) (va_Qi (fun (r : Int32) (u : ((Nat → Int32) × (Nat → Nat → Int32))) => ((0 ≤ r.toInt ∧ r.toInt ≤ 1))) (fun u t => va_P (dC, dI) vwCl (mW h0 kB kI kZ q g F) t.heap ∧ va_K (dC, dI) vwCl (mT kB kI kZ) t ∧ va_D (va_A (mW h0 kB kI kZ q g F) sz) (mW h0 kB kI kZ q g F)) (va_A (mW h0 kB kI kZ q g F) sz)) 0 0 (va_A (mW h0 kB kI kZ q g F) sz) := by
  refine Met.ofW (cc := cX12_sameBytes) (maxL := 7) (ret := (some .boolean)) (by decide) rfl ?_
  intro p e s m args below meth c s₁ B hml hv
  obtain ⟨rfl, hsz, hP, hK, hD0⟩ := hv
  have hx := B.exec
  have hb := B.bytes
  have hr := B.returns
  have hts := atoms_spec (ws := vmX12_sameBytes) B.pre
  have hown : s.vm.findClass RX12 = some m.cls := findClass_of_methodNamed B.named
  subst hsz
  have hD := hD0.self (sz := s.heap.size)
  generalize hAe : va_A (mW h0 kB kI kZ q g F) s.heap.size = A at hD ⊢
  have hA : ∀ q : Nat, s.heap.size ≤ q → A q := fun q h => by rw [← hAe]; exact Or.inr h
  have hS : va_S A s.heap s.heap [] := va_S.rf
  have hl := lv_entry ([.ref (q 52), .int p1, .int p2, .ref (q 52), .int p4, .int p5]) (n := 7) (Nat.le_of_ble_eq_true rfl)
  rw [lg_entry_eq]
  generalize (lg_sl ([.ref (q 52), .int p1, .int p2, .ref (q 52), .int p4, .int p5]) ++ List.replicate (7 - (lg_sl ([.ref (q 52), .int p1, .int p2, .ref (q 52), .int p4, .int p5])).length) Slot.unset).toArray = ls at hl ⊢
  exact bm_sameBytes_52_52 p1 p2 p4 p5 hx hb hml hown hts hA hK hI hq0 hq1 hP hD hS hl (fun pc ls r u H locs hd hw hP hD hS => W.zret (v := r) hx hb hr (z_nb (by have := hw; omega)) (fun t ht hW => ⟨⟨r, u, rfl, hw, by rw [ht]; exact hP, va_K.moved hW.alike hK, hD⟩, hS.F ht⟩) hS.2.2 hd)
set_option maxHeartbeats 4000000 in
set_option maxRecDepth 100000 in
theorem bm_hasForm_52 {p : Program} {l : Launch} {e : Env} {s : State} {m : MethodId} {args : Array Value} {below : List Frame} {meth : Method} {c : Code} {Q : State → Prop} {A : Nat → Prop} {dC : Nat → ClassId} {dI : Nat → Nat → Nat} {h0 : Nat} {kB kI kZ : ClassId} {q : Nat → Nat} {g : Nat → Int32} {F : Nat → Nat → Int32} {H : Heap} {locs : List Loc} {ls : Array Slot} (p0 : Int32) (p1 : Int32) (p3 : Int32) (p4 : Int32) (hx : p.tables.exec = Jvm.exec) (hb : c.code = cX12_hasForm) (hml : c.maxLocals = 7) (hown : s.vm.findClass RX12 = some m.cls) (hts : ∀ w ∈ vmX12_hasForm, w.before args s = true) (hA : ∀ q : Nat, s.heap.size ≤ q → A q) (hK : va_K (dC, dI) vwCl (mT kB kI kZ) s) (hI : MInv g F) (hq0 : (0 ≤ p0.toInt ∧ p0.toInt ≤ 99)) (hq1 : (0 ≤ p1.toInt ∧ p1.toInt ≤ 6)) (hq2 : (0 ≤ p3.toInt ∧ p3.toInt + p4.toInt ≤ 201600)) (hP : va_P (dC, dI) vwCl (mW h0 kB kI kZ q g F) H) (hD : va_D A (mW h0 kB kI kZ q g F)) (hS : va_S A s.heap H locs) (hl : lv_has ls 7 [(0, .ref h0), (1, .int p0), (2, .int p1), (3, .ref (q 52)), (4, .int p3), (5, .int p4)])
    (K : ∀ (pc : Nat) (ls : Array Slot) (r : Int32) (u : ((Nat → Int32) × (Nat → Nat → Int32))) (H : Heap) (locs : List Loc), decode cX12_hasForm pc = .ok (.ireturn, 1) → (((0 ≤ r.toInt ∧ r.toInt ≤ 1))) → va_P (dC, dI) vwCl (mW h0 kB kI kZ q g F) H → va_D A (mW h0 kB kI kZ q g F) → va_S A s.heap H locs → W p l e ({ frames := 3, cells := 0, slots := 0, locals := 86 } : Room) s m args below meth c H locs 0 0 Q (F0 m pc ls [.int r])) : W p l e ({ frames := 3, cells := 0, slots := 0, locals := 86 } : Room) s m args below meth c H locs 0 0 Q (F0 m 0 ls []) := by
  obtain ⟨hg1z, hg2z, hg3z, hg4z, hg5z, hg6z, hg7z, hg8z, hg9z, hg23z, hg27z, hg30z, hg34z, hg36z, hg39z, hg44z, hg47z, hg48z, hg51z, hg56z, hg59z, hg62z, hg65z, hg66z, hg70z, hF11z, hF12z, hF13z, hF15z, hF19z, hF21z, hF24z, hF25z, hF26z, hF33z, hF38z, hF41z, hF43z, hF45z, hF46z, hF50z, hF53z, hF54z⟩ := hI
  have zk0 : (0 : Int32).toInt = 0 := by decide +kernel
  have zk1 : (1 : Int32).toInt = 1 := by decide +kernel
  have zk7 : (7 : Int32).toInt = 7 := by decide +kernel
  have zk12 : (12 : Int32).toInt = 12 := by decide +kernel
  have zk24 : (24 : Int32).toInt = 24 := by decide +kernel
  refine lv_bipush (v := 12) hx hb dX12_hasForm_0 (by decide +kernel) ?_
  refine lv_bipush (v := 7) hx hb dX12_hasForm_2 (by decide +kernel) ?_
  refine lv_iload_n hx hb dX12_hasForm_4 rfl (lv_at hl 1 rfl) ?_
  refine lv_imul hx hb dX12_hasForm_5 ?_
  refine lv_topi (fun x581 ex581 => ?_)
  have fx581 : x581.toInt = 7 * p0.toInt := by rw [ex581, z_mul (by simp only [zk7]; omega) (by simp only [zk7]; omega)]; simp only [zk7]
  clear ex581
  refine lv_iload_n hx hb dX12_hasForm_6 rfl (lv_at hl 2 rfl) ?_
  refine lv_iadd hx hb dX12_hasForm_7 ?_
  refine lv_topi (fun x582 ex582 => ?_)
  have fx582 : x582.toInt = x581.toInt + p1.toInt := by have h := @z_add x581 p1 (by omega) (by omega); rw [← ex582] at h; omega
  clear ex582
  refine lv_imul hx hb dX12_hasForm_8 ?_
  refine lv_topi (fun x583 ex583 => ?_)
  have fx583 : x583.toInt = 12 * x582.toInt := by rw [ex583, z_mul (by simp only [zk12]; omega) (by simp only [zk12]; omega)]; simp only [zk12]
  clear ex583
  refine lv_istore (lv' := [(6, .int x583), (0, .ref h0), (1, .int p0), (2, .int p1), (3, .ref (q 52)), (4, .int p3), (5, .int p4)]) hx hb dX12_hasForm_9 hl (by decide) rfl (fun ls hl => ?_)
  have lp11 : ∀ (n11 : Nat) (x584 : Int32) (gl585 : Nat → Int32) (fl586 : Nat → Nat → Int32) (H : Heap) (locs : List Loc) (ls : Array Slot), (84 * p0.toInt + 12 * p1.toInt + 12 - x584.toInt).toNat < n11 → (84 * p0.toInt + 12 * p1.toInt ≤ x584.toInt ∧ x584.toInt ≤ 84 * p0.toInt + 12 * p1.toInt + 12) → va_P (dC, dI) vwCl (mW h0 kB kI kZ q g F) H → va_D A (mW h0 kB kI kZ q g F) → va_S A s.heap H locs → lv_has ls 7 [(6, .int x584), (0, .ref h0), (1, .int p0), (2, .int p1), (3, .ref (q 52)), (4, .int p3), (5, .int p4)] → W p l e ({ frames := 3, cells := 0, slots := 0, locals := 86 } : Room) s m args below meth c H locs 0 0 Q (F0 m 11 ls []) := by
    intro n11
    induction n11 with
    | zero => intro x584 gl585 fl586 H locs ls hm; exact absurd hm (Nat.not_lt_zero _)
    | succ n11 ih11 =>
      intro x584 gl585 fl586 H locs ls hm11 f587 hP hD hS hl
      refine lv_iload hx hb dX12_hasForm_11 (lv_at hl 0 rfl) ?_
      refine lv_bipush (v := 12) hx hb dX12_hasForm_13 (by decide +kernel) ?_
      refine lv_bipush (v := 7) hx hb dX12_hasForm_15 (by decide +kernel) ?_
      refine lv_iload_n hx hb dX12_hasForm_17 rfl (lv_at hl 2 rfl) ?_
      refine lv_imul hx hb dX12_hasForm_18 ?_
      refine lv_topi (fun x588 ex588 => ?_)
      have fx588 : x588.toInt = 7 * p0.toInt := by rw [ex588, z_mul (by simp only [zk7]; omega) (by simp only [zk7]; omega)]; simp only [zk7]
      clear ex588
      refine lv_iload_n hx hb dX12_hasForm_19 rfl (lv_at hl 3 rfl) ?_
      refine lv_iadd hx hb dX12_hasForm_20 ?_
      refine lv_topi (fun x589 ex589 => ?_)
      have fx589 : x589.toInt = x588.toInt + p1.toInt := by have h := @z_add x588 p1 (by omega) (by omega); rw [← ex589] at h; omega
      clear ex589
      refine lv_imul hx hb dX12_hasForm_21 ?_
      refine lv_topi (fun x590 ex590 => ?_)
      have fx590 : x590.toInt = 12 * x589.toInt := by rw [ex590, z_mul (by simp only [zk12]; omega) (by simp only [zk12]; omega)]; simp only [zk12]
      clear ex590
      refine lv_aload_n hx hb dX12_hasForm_22 rfl (lv_at hl 1 rfl) ?_
      refine va_get (D := (dC, dI)) (ci := 12) (v := .ref (q 54)) (C := RX12) (T := TX12) (N := 71) hx hb hts (fun _ h => List.mem_append_right _ h) hown hK hP 0 rfl rfl 54 (by decide) (hts (.fieldLink RX12 119 "SpellTurnerModel" "formMany" "[I") (List.mem_of_getElem? (i := 1) rfl)) (fun _ h9 => h9) rfl dX12_hasForm_23 ?_
      refine lv_bipush (v := 7) hx hb dX12_hasForm_26 (by decide +kernel) ?_
      refine lv_iload_n hx hb dX12_hasForm_28 rfl (lv_at hl 2 rfl) ?_
      refine lv_imul hx hb dX12_hasForm_29 ?_
      refine lv_topi (fun x591 ex591 => ?_)
      have fx591 : x591.toInt = 7 * p0.toInt := by rw [ex591, z_mul (by simp only [zk7]; omega) (by simp only [zk7]; omega)]; simp only [zk7]
      clear ex591
      refine lv_iload_n hx hb dX12_hasForm_30 rfl (lv_at hl 3 rfl) ?_
      refine lv_iadd hx hb dX12_hasForm_31 ?_
      refine lv_topi (fun x592 ex592 => ?_)
      have fx592 : x592.toInt = x591.toInt + p1.toInt := by have h := @z_add x591 p1 (by omega) (by omega); rw [← ex592] at h; omega
      clear ex592
      refine va_iald hx hb hK hP 35 1 rfl rfl (z_in (i := x592) (by omega) (by omega)) dX12_hasForm_32 ?_
      refine lv_topi (fun x593 ex593 => ?_)
      have kx593 : x593.toInt = ((F 54) (Int32.toNatClampNeg x592)).toInt := congrArg Int32.toInt ex593
      have fx593 := hF54z (Int32.toNatClampNeg x592)
      clear ex593
      refine lv_iadd hx hb dX12_hasForm_33 ?_
      refine lv_topi (fun x594 ex594 => ?_)
      have fx594 : x594.toInt = x590.toInt + x593.toInt := by have h := @z_add x590 x593 (by omega) (by omega); rw [← ex594] at h; omega
      clear ex594
      refine lv_icmp_ge (tgt := 72) hx hb dX12_hasForm_34 (by decide) (fun c595 => ?_) (fun c595 => ?_)
      · have c595 := (z_le _ _).mp c595
        refine lv_iconst (v := 0) hx hb dX12_hasForm_72 (by decide +kernel) ?_
        exact K 73 ls 0 (g, F) H _ dX12_hasForm_73 (show (0 ≤ (0 : Int32).toInt ∧ (0 : Int32).toInt ≤ 1) from by omega) hP hD hS
      · have c595 := z_nle c595
        refine lv_aload_n hx hb dX12_hasForm_37 rfl (lv_at hl 1 rfl) ?_
        refine va_get (D := (dC, dI)) (ci := 12) (v := .ref (q 52)) (C := RX12) (T := TX12) (N := 71) hx hb hts (fun _ h => List.mem_append_right _ h) hown hK hP 0 rfl rfl 52 (by decide) (hts (.fieldLink RX12 113 "SpellTurnerModel" "formText" "[B") (List.mem_of_getElem? (i := 2) rfl)) (fun _ h9 => h9) rfl dX12_hasForm_38 ?_
        refine lv_bipush (v := 24) hx hb dX12_hasForm_41 (by decide +kernel) ?_
        refine lv_iload hx hb dX12_hasForm_43 (lv_at hl 0 rfl) ?_
        refine lv_imul hx hb dX12_hasForm_45 ?_
        refine lv_topi (fun x596 ex596 => ?_)
        have fx596 : x596.toInt = 24 * x584.toInt := by rw [ex596, z_mul (by simp only [zk24]; omega) (by simp only [zk24]; omega)]; simp only [zk24]
        clear ex596
        refine lv_aload_n hx hb dX12_hasForm_46 rfl (lv_at hl 1 rfl) ?_
        refine va_get (D := (dC, dI)) (ci := 12) (v := .ref (q 53)) (C := RX12) (T := TX12) (N := 71) hx hb hts (fun _ h => List.mem_append_right _ h) hown hK hP 0 rfl rfl 53 (by decide) (hts (.fieldLink RX12 116 "SpellTurnerModel" "formSize" "[I") (List.mem_of_getElem? (i := 3) rfl)) (fun _ h9 => h9) rfl dX12_hasForm_47 ?_
        refine lv_iload hx hb dX12_hasForm_50 (lv_at hl 0 rfl) ?_
        refine va_iald hx hb hK hP 34 1 rfl rfl (z_in (i := x584) (by omega) (by omega)) dX12_hasForm_52 ?_
        refine lv_topi (fun x597 ex597 => ?_)
        have kx597 : x597.toInt = ((F 53) (Int32.toNatClampNeg x584)).toInt := congrArg Int32.toInt ex597
        have fx597 := hF53z (Int32.toNatClampNeg x584)
        clear ex597
        refine lv_aload_n hx hb dX12_hasForm_53 rfl (lv_at hl 4 rfl) ?_
        refine lv_iload hx hb dX12_hasForm_54 (lv_at hl 5 rfl) ?_
        refine lv_iload hx hb dX12_hasForm_56 (lv_at hl 6 rfl) ?_
        have hFc := va_free (wc := (mW h0 kB kI kZ q g F)) hD hS hA [0, 1, 2, 3, 4, 5, 6, 7, 8, 9, 10, 11, 12, 13, 14, 15, 16, 17, 18, 19, 20, 21, 22, 23, 24, 25, 26, 27, 28, 29, 30, 31, 32, 33, 34, 35, 36, 37, 38, 39, 40, 41, 42, 43, 44, 45] rfl
        refine va_calli (va_runS (As := [.ref (q 52), .int x596, .int x597, .ref (q 52), .int p3, .int p4]) (rest := []) ⟨hx, hb, hml, hown, hts⟩ (m_sameBytes_52_52 l dC dI H.size h0 kB kI kZ q g F x596 x597 p3 p4 ⟨hg1z, hg2z, hg3z, hg4z, hg5z, hg6z, hg7z, hg8z, hg9z, hg23z, hg27z, hg30z, hg34z, hg36z, hg39z, hg44z, hg47z, hg48z, hg51z, hg56z, hg59z, hg62z, hg65z, hg66z, hg70z, hF11z, hF12z, hF13z, hF15z, hF19z, hF21z, hF24z, hF25z, hF26z, hF33z, hF38z, hF41z, hF43z, hF45z, hF46z, hF50z, hF53z, hF54z⟩ (show (0 ≤ x596.toInt ∧ x596.toInt + x597.toInt ≤ 201600) from by omega) (show (0 ≤ p3.toInt ∧ p3.toInt + p4.toInt ≤ 201600) from by omega)) (va_cwS 6 hts gw_X12_hasForm_X12_sameBytes_273 rfl rfl rfl (by decide +kernel) ⟨Nat.le_of_ble_eq_true rfl, Nat.le_of_ble_eq_true rfl⟩) ⟨fun a U g mk q => by obtain ⟨q0, q1, qP, qK, qD⟩ := q; exact ⟨q0, q1, qP, va_K.moved (u := U) (U := U.calling g mk a) (Vm.Alike.refl U.vm) qK, qD⟩, fun U hU hW => ⟨rfl, by rw [hU], by rw [hU]; exact hP, va_K.moved hW.alike hK, hD.weaken (fun _ _ _ _ => trivial)⟩⟩ rfl rfl hl.1 rfl (lv_room (Nat.le_of_ble_eq_true rfl)) dX12_hasForm_58 ⟨Nat.le_of_ble_eq_true rfl, Nat.le_of_ble_eq_true rfl⟩) hS (fun q _ h => hFc q h) hFc (fun r610 u t H1 locs ht hvm hw hB hz1 hk1 hS => ?_)
        obtain ⟨ga611, fa612⟩ := u
        obtain ⟨hP1, hK1, hD1⟩ := hB
        rw [ht] at hP1
        obtain ⟨hP, hD⟩ := va_join (wr := []) (w1 := (mW h0 kB kI kZ q g F)) hP hD [0, 1, 2, 3, 4, 5, 6, 7, 8, 9, 10, 11, 12, 13, 14, 15, 16, 17, 18, 19, 20, 21, 22, 23, 24, 25, 26, 27, 28, 29, 30, 31, 32, 33, 34, 35, 36, 37, 38, 39, 40, 41, 42, 43, 44, 45] [] rfl rfl (by decide) (by decide) hk1 hFc hP1 hD1
        generalize H1 = H at hP hS ⊢
        have hP : va_P (dC, dI) vwCl (mW h0 kB kI kZ q g F) H := hP
        have hD : va_D A (mW h0 kB kI kZ q g F) := hD
        have f613 : (0 ≤ r610.toInt ∧ r610.toInt ≤ 1) := hw
        refine lv_if_eq (tgt := 66) hx hb dX12_hasForm_61 (by decide) (fun c614 => ?_) (fun c614 => ?_)
        · have c614 := congrArg Int32.toInt c614
          obtain ⟨x615, ex615⟩ : ∃ y : Int32, y = x584 + 1 := ⟨_, rfl⟩
          have fx615 : x615.toInt = x584.toInt + (1) := by rw [ex615, z_add (by omega) (by omega)]; omega
          refine lv_iinc (v := x615) (lv' := [(6, .int x615), (0, .ref h0), (1, .int p0), (2, .int p1), (3, .ref (q 52)), (4, .int p3), (5, .int p4)]) hx hb dX12_hasForm_66 hl (k := 0) rfl (by rw [ex615]; rfl) (by decide) rfl (fun ls hl => ?_)
          clear ex615
          refine lv_goto (tgt := 11) hx hb dX12_hasForm_69 (by decide) ?_
          exact ih11 x615 g F H _ ls (show (84 * p0.toInt + 12 * p1.toInt + 12 - x615.toInt).toNat < n11 from by omega) (show (84 * p0.toInt + 12 * p1.toInt ≤ x615.toInt ∧ x615.toInt ≤ 84 * p0.toInt + 12 * p1.toInt + 12) from by omega) hP hD hS (lv_sub hl [0, 1, 2, 3, 4, 5, 6] rfl)
        · have c614 := z_ne c614
          refine lv_iconst (v := 1) hx hb dX12_hasForm_64 (by decide +kernel) ?_
          exact K 65 ls 1 (g, F) H _ dX12_hasForm_65 (show (0 ≤ (1 : Int32).toInt ∧ (1 : Int32).toInt ≤ 1) from by omega) hP hD hS
  exact lp11 ((84 * p0.toInt + 12 * p1.toInt + 12 - x583.toInt).toNat + 1) x583 g F H _ ls (Nat.lt_succ_self _) (show (84 * p0.toInt + 12 * p1.toInt ≤ x583.toInt ∧ x583.toInt ≤ 84 * p0.toInt + 12 * p1.toInt + 12) from by omega) hP hD hS (lv_sub hl [0, 1, 2, 3, 4, 5, 6] rfl)
set_option maxHeartbeats 4000000 in
set_option maxRecDepth 100000 in
theorem m_hasForm_52 (l : Launch) (dC : Nat → ClassId) (dI : Nat → Nat → Nat) (sz : Nat) (h0 : Nat) (kB kI kZ : ClassId) (q : Nat → Nat) (g : Nat → Int32) (F : Nat → Nat → Int32) (p0 : Int32) (p1 : Int32) (p3 : Int32) (p4 : Int32) (hI : MInv g F) (hq0 : (0 ≤ p0.toInt ∧ p0.toInt ≤ 99)) (hq1 : (0 ≤ p1.toInt ∧ p1.toInt ≤ 6)) (hq2 : (0 ≤ p3.toInt ∧ p3.toInt + p4.toInt ≤ 201600)) : Met l yX12_hasForm vmX12_hasForm ({ frames := 3, cells := 0, slots := 0, locals := 86 } : Room) (va_Pc [.ref h0, .int p0, .int p1, .ref (q 52), .int p3, .int p4] (fun U => U.heap.size = sz ∧ va_P (dC, dI) vwCl (mW h0 kB kI kZ q g F) U.heap ∧ va_K (dC, dI) vwCl (mT kB kI kZ) U ∧ va_D (fun _ => True) (mW h0 kB kI kZ q g F))) (va_Qi (fun (r : Int32) (u : ((Nat → Int32) × (Nat → Nat → Int32))) => ((0 ≤ r.toInt ∧ r.toInt ≤ 1))) (fun u t => va_P (dC, dI) vwCl (mW h0 kB kI kZ q g F) t.heap ∧ va_K (dC, dI) vwCl (mT kB kI kZ) t ∧ va_D (va_A (mW h0 kB kI kZ q g F) sz) (mW h0 kB kI kZ q g F)) (va_A (mW h0 kB kI kZ q g F) sz)) 0 0 (va_A (mW h0 kB kI kZ q g F) sz) := by
  refine Met.ofW (cc := cX12_hasForm) (maxL := 7) (ret := (some .boolean)) (by decide) rfl ?_
  intro p e s m args below meth c s₁ B hml hv
  obtain ⟨rfl, hsz, hP, hK, hD0⟩ := hv
  have hx := B.exec
  have hb := B.bytes
  have hr := B.returns
  have hts := atoms_spec (ws := vmX12_hasForm) B.pre
  have hown : s.vm.findClass RX12 = some m.cls := findClass_of_methodNamed B.named
  subst hsz
  have hD := hD0.self (sz := s.heap.size)
  generalize hAe : va_A (mW h0 kB kI kZ q g F) s.heap.size = A at hD ⊢
  have hA : ∀ q : Nat, s.heap.size ≤ q → A q := fun q h => by rw [← hAe]; exact Or.inr h
  have hS : va_S A s.heap s.heap [] := va_S.rf
  have hl := lv_entry ([.ref h0, .int p0, .int p1, .ref (q 52), .int p3, .int p4]) (n := 7) (Nat.le_of_ble_eq_true rfl)
  rw [lg_entry_eq]
  generalize (lg_sl ([.ref h0, .int p0, .int p1, .ref (q 52), .int p3, .int p4]) ++ List.replicate (7 - (lg_sl ([.ref h0, .int p0, .int p1, .ref (q 52), .int p3, .int p4])).length) Slot.unset).toArray = ls at hl ⊢
  exact bm_hasForm_52 p0 p1 p3 p4 hx hb hml hown hts hA hK hI hq0 hq1 hq2 hP hD hS hl (fun pc ls r u H locs hd hw hP hD hS => W.zret (v := r) hx hb hr (z_nb (by have := hw; omega)) (fun t ht hW => ⟨⟨r, u, rfl, hw, by rw [ht]; exact hP, va_K.moved hW.alike hK, hD⟩, hS.F ht⟩) hS.2.2 hd)
set_option maxHeartbeats 4000000 in
set_option maxRecDepth 100000 in
theorem bm_collide {p : Program} {l : Launch} {e : Env} {s : State} {m : MethodId} {args : Array Value} {below : List Frame} {meth : Method} {c : Code} {Q : State → Prop} {A : Nat → Prop} {dC : Nat → ClassId} {dI : Nat → Nat → Nat} {h0 : Nat} {kB kI kZ : ClassId} {q : Nat → Nat} {g : Nat → Int32} {F : Nat → Nat → Int32} {H : Heap} {locs : List Loc} {ls : Array Slot} (p0 : Int32) (p1 : Int32) (p2 : Int32) (hx : p.tables.exec = Jvm.exec) (hb : c.code = cX12_collide) (hml : c.maxLocals = 5) (hown : s.vm.findClass RX12 = some m.cls) (hts : ∀ w ∈ vmX12_collide, w.before args s = true) (hA : ∀ q : Nat, s.heap.size ≤ q → A q) (hK : va_K (dC, dI) vwCl (mT kB kI kZ) s) (hI : MInv g F) (hq0 : (0 ≤ p0.toInt ∧ p0.toInt ≤ 99)) (hq1 : (0 ≤ p1.toInt ∧ p1.toInt ≤ 99)) (hq2 : (0 ≤ p2.toInt ∧ p2.toInt ≤ 6)) (hP : va_P (dC, dI) vwCl (mW h0 kB kI kZ q g F) H) (hD : va_D A (mW h0 kB kI kZ q g F)) (hS : va_S A s.heap H locs) (hl : lv_has ls 5 [(0, .ref h0), (1, .int p0), (2, .int p1), (3, .int p2)])
    (K : ∀ (pc : Nat) (ls : Array Slot) (r : Int32) (u : ((Nat → Int32) × (Nat → Nat → Int32))) (H : Heap) (locs : List Loc), decode cX12_collide pc = .ok (.ireturn, 1) → (((0 ≤ r.toInt ∧ r.toInt ≤ 1))) → va_P (dC, dI) vwCl (mW h0 kB kI kZ q g F) H → va_D A (mW h0 kB kI kZ q g F) → va_S A s.heap H locs → W p l e ({ frames := 4, cells := 0, slots := 0, locals := 112 } : Room) s m args below meth c H locs 0 0 Q (F0 m pc ls [.int r])) : W p l e ({ frames := 4, cells := 0, slots := 0, locals := 112 } : Room) s m args below meth c H locs 0 0 Q (F0 m 0 ls []) := by
  obtain ⟨hg1z, hg2z, hg3z, hg4z, hg5z, hg6z, hg7z, hg8z, hg9z, hg23z, hg27z, hg30z, hg34z, hg36z, hg39z, hg44z, hg47z, hg48z, hg51z, hg56z, hg59z, hg62z, hg65z, hg66z, hg70z, hF11z, hF12z, hF13z, hF15z, hF19z, hF21z, hF24z, hF25z, hF26z, hF33z, hF38z, hF41z, hF43z, hF45z, hF46z, hF50z, hF53z, hF54z⟩ := hI
  have zk0 : (0 : Int32).toInt = 0 := by decide +kernel
  have zk1 : (1 : Int32).toInt = 1 := by decide +kernel
  have zk7 : (7 : Int32).toInt = 7 := by decide +kernel
  have zk12 : (12 : Int32).toInt = 12 := by decide +kernel
  have zk24 : (24 : Int32).toInt = 24 := by decide +kernel
  refine lv_bipush (v := 12) hx hb dX12_collide_0 (by decide +kernel) ?_
  refine lv_bipush (v := 7) hx hb dX12_collide_2 (by decide +kernel) ?_
  refine lv_iload_n hx hb dX12_collide_4 rfl (lv_at hl 1 rfl) ?_
  refine lv_imul hx hb dX12_collide_5 ?_
  refine lv_topi (fun x564 ex564 => ?_)
  have fx564 : x564.toInt = 7 * p0.toInt := by rw [ex564, z_mul (by simp only [zk7]; omega) (by simp only [zk7]; omega)]; simp only [zk7]
  clear ex564
  refine lv_iload_n hx hb dX12_collide_6 rfl (lv_at hl 3 rfl) ?_
  refine lv_iadd hx hb dX12_collide_7 ?_
  refine lv_topi (fun x565 ex565 => ?_)
  have fx565 : x565.toInt = x564.toInt + p2.toInt := by have h := @z_add x564 p2 (by omega) (by omega); rw [← ex565] at h; omega
  clear ex565
  refine lv_imul hx hb dX12_collide_8 ?_
  refine lv_topi (fun x566 ex566 => ?_)
  have fx566 : x566.toInt = 12 * x565.toInt := by rw [ex566, z_mul (by simp only [zk12]; omega) (by simp only [zk12]; omega)]; simp only [zk12]
  clear ex566
  refine lv_istore (lv' := [(4, .int x566), (0, .ref h0), (1, .int p0), (2, .int p1), (3, .int p2)]) hx hb dX12_collide_9 hl (by decide) rfl (fun ls hl => ?_)
  have lp11 : ∀ (n11 : Nat) (x567 : Int32) (gl568 : Nat → Int32) (fl569 : Nat → Nat → Int32) (H : Heap) (locs : List Loc) (ls : Array Slot), (84 * p0.toInt + 12 * p2.toInt + 12 - x567.toInt).toNat < n11 → (84 * p0.toInt + 12 * p2.toInt ≤ x567.toInt ∧ x567.toInt ≤ 84 * p0.toInt + 12 * p2.toInt + 12) → va_P (dC, dI) vwCl (mW h0 kB kI kZ q g F) H → va_D A (mW h0 kB kI kZ q g F) → va_S A s.heap H locs → lv_has ls 5 [(4, .int x567), (0, .ref h0), (1, .int p0), (2, .int p1), (3, .int p2)] → W p l e ({ frames := 4, cells := 0, slots := 0, locals := 112 } : Room) s m args below meth c H locs 0 0 Q (F0 m 11 ls []) := by
    intro n11
    induction n11 with
    | zero => intro x567 gl568 fl569 H locs ls hm; exact absurd hm (Nat.not_lt_zero _)
    | succ n11 ih11 =>
      intro x567 gl568 fl569 H locs ls hm11 f570 hP hD hS hl
      refine lv_iload hx hb dX12_collide_11 (lv_at hl 0 rfl) ?_
      refine lv_bipush (v := 12) hx hb dX12_collide_13 (by decide +kernel) ?_
      refine lv_bipush (v := 7) hx hb dX12_collide_15 (by decide +kernel) ?_
      refine lv_iload_n hx hb dX12_collide_17 rfl (lv_at hl 2 rfl) ?_
      refine lv_imul hx hb dX12_collide_18 ?_
      refine lv_topi (fun x571 ex571 => ?_)
      have fx571 : x571.toInt = 7 * p0.toInt := by rw [ex571, z_mul (by simp only [zk7]; omega) (by simp only [zk7]; omega)]; simp only [zk7]
      clear ex571
      refine lv_iload_n hx hb dX12_collide_19 rfl (lv_at hl 4 rfl) ?_
      refine lv_iadd hx hb dX12_collide_20 ?_
      refine lv_topi (fun x572 ex572 => ?_)
      have fx572 : x572.toInt = x571.toInt + p2.toInt := by have h := @z_add x571 p2 (by omega) (by omega); rw [← ex572] at h; omega
      clear ex572
      refine lv_imul hx hb dX12_collide_21 ?_
      refine lv_topi (fun x573 ex573 => ?_)
      have fx573 : x573.toInt = 12 * x572.toInt := by rw [ex573, z_mul (by simp only [zk12]; omega) (by simp only [zk12]; omega)]; simp only [zk12]
      clear ex573
      refine lv_aload_n hx hb dX12_collide_22 rfl (lv_at hl 1 rfl) ?_
      refine va_get (D := (dC, dI)) (ci := 12) (v := .ref (q 54)) (C := RX12) (T := TX12) (N := 71) hx hb hts (fun _ h => List.mem_append_right _ h) hown hK hP 0 rfl rfl 54 (by decide) (hts (.fieldLink RX12 119 "SpellTurnerModel" "formMany" "[I") (List.mem_of_getElem? (i := 1) rfl)) (fun _ h9 => h9) rfl dX12_collide_23 ?_
      refine lv_bipush (v := 7) hx hb dX12_collide_26 (by decide +kernel) ?_
      refine lv_iload_n hx hb dX12_collide_28 rfl (lv_at hl 2 rfl) ?_
      refine lv_imul hx hb dX12_collide_29 ?_
      refine lv_topi (fun x574 ex574 => ?_)
      have fx574 : x574.toInt = 7 * p0.toInt := by rw [ex574, z_mul (by simp only [zk7]; omega) (by simp only [zk7]; omega)]; simp only [zk7]
      clear ex574
      refine lv_iload_n hx hb dX12_collide_30 rfl (lv_at hl 4 rfl) ?_
      refine lv_iadd hx hb dX12_collide_31 ?_
      refine lv_topi (fun x575 ex575 => ?_)
      have fx575 : x575.toInt = x574.toInt + p2.toInt := by have h := @z_add x574 p2 (by omega) (by omega); rw [← ex575] at h; omega
      clear ex575
      refine va_iald hx hb hK hP 35 1 rfl rfl (z_in (i := x575) (by omega) (by omega)) dX12_collide_32 ?_
      refine lv_topi (fun x576 ex576 => ?_)
      have kx576 : x576.toInt = ((F 54) (Int32.toNatClampNeg x575)).toInt := congrArg Int32.toInt ex576
      have fx576 := hF54z (Int32.toNatClampNeg x575)
      clear ex576
      refine lv_iadd hx hb dX12_collide_33 ?_
      refine lv_topi (fun x577 ex577 => ?_)
      have fx577 : x577.toInt = x573.toInt + x576.toInt := by have h := @z_add x573 x576 (by omega) (by omega); rw [← ex577] at h; omega
      clear ex577
      refine lv_icmp_ge (tgt := 70) hx hb dX12_collide_34 (by decide) (fun c578 => ?_) (fun c578 => ?_)
      · have c578 := (z_le _ _).mp c578
        refine lv_iconst (v := 0) hx hb dX12_collide_70 (by decide +kernel) ?_
        exact K 71 ls 0 (g, F) H _ dX12_collide_71 (show (0 ≤ (0 : Int32).toInt ∧ (0 : Int32).toInt ≤ 1) from by omega) hP hD hS
      · have c578 := z_nle c578
        refine lv_aload_n hx hb dX12_collide_37 rfl (lv_at hl 1 rfl) ?_
        refine lv_iload_n hx hb dX12_collide_38 rfl (lv_at hl 3 rfl) ?_
        refine lv_iload_n hx hb dX12_collide_39 rfl (lv_at hl 4 rfl) ?_
        refine lv_aload_n hx hb dX12_collide_40 rfl (lv_at hl 1 rfl) ?_
        refine va_get (D := (dC, dI)) (ci := 12) (v := .ref (q 52)) (C := RX12) (T := TX12) (N := 71) hx hb hts (fun _ h => List.mem_append_right _ h) hown hK hP 0 rfl rfl 52 (by decide) (hts (.fieldLink RX12 113 "SpellTurnerModel" "formText" "[B") (List.mem_of_getElem? (i := 2) rfl)) (fun _ h9 => h9) rfl dX12_collide_41 ?_
        refine lv_bipush (v := 24) hx hb dX12_collide_44 (by decide +kernel) ?_
        refine lv_iload hx hb dX12_collide_46 (lv_at hl 0 rfl) ?_
        refine lv_imul hx hb dX12_collide_48 ?_
        refine lv_topi (fun x579 ex579 => ?_)
        have fx579 : x579.toInt = 24 * x567.toInt := by rw [ex579, z_mul (by simp only [zk24]; omega) (by simp only [zk24]; omega)]; simp only [zk24]
        clear ex579
        refine lv_aload_n hx hb dX12_collide_49 rfl (lv_at hl 1 rfl) ?_
        refine va_get (D := (dC, dI)) (ci := 12) (v := .ref (q 53)) (C := RX12) (T := TX12) (N := 71) hx hb hts (fun _ h => List.mem_append_right _ h) hown hK hP 0 rfl rfl 53 (by decide) (hts (.fieldLink RX12 116 "SpellTurnerModel" "formSize" "[I") (List.mem_of_getElem? (i := 3) rfl)) (fun _ h9 => h9) rfl dX12_collide_50 ?_
        refine lv_iload hx hb dX12_collide_53 (lv_at hl 0 rfl) ?_
        refine va_iald hx hb hK hP 34 1 rfl rfl (z_in (i := x567) (by omega) (by omega)) dX12_collide_55 ?_
        refine lv_topi (fun x580 ex580 => ?_)
        have kx580 : x580.toInt = ((F 53) (Int32.toNatClampNeg x567)).toInt := congrArg Int32.toInt ex580
        have fx580 := hF53z (Int32.toNatClampNeg x567)
        clear ex580
        have hFc := va_free (wc := (mW h0 kB kI kZ q g F)) hD hS hA [0, 1, 2, 3, 4, 5, 6, 7, 8, 9, 10, 11, 12, 13, 14, 15, 16, 17, 18, 19, 20, 21, 22, 23, 24, 25, 26, 27, 28, 29, 30, 31, 32, 33, 34, 35, 36, 37, 38, 39, 40, 41, 42, 43, 44, 45] rfl
        refine va_calli (va_runV (As := [.int p1, .int p2, .ref (q 52), .int x579, .int x580]) (rest := []) ⟨hx, hb, hml, hown, hts⟩ (m_hasForm_52 l dC dI H.size h0 kB kI kZ q g F p1 p2 x579 x580 ⟨hg1z, hg2z, hg3z, hg4z, hg5z, hg6z, hg7z, hg8z, hg9z, hg23z, hg27z, hg30z, hg34z, hg36z, hg39z, hg44z, hg47z, hg48z, hg51z, hg56z, hg59z, hg62z, hg65z, hg66z, hg70z, hF11z, hF12z, hF13z, hF15z, hF19z, hF21z, hF24z, hF25z, hF26z, hF33z, hF38z, hF41z, hF43z, hF45z, hF46z, hF50z, hF53z, hF54z⟩ (show (0 ≤ p1.toInt ∧ p1.toInt ≤ 99) from by omega) (show (0 ≤ p2.toInt ∧ p2.toInt ≤ 6) from by omega) (show (0 ≤ x579.toInt ∧ x579.toInt + x580.toInt ≤ 201600) from by omega)) (cwV 5 hts gw_X12_collide_X12_hasForm_321 rfl rfl rfl (by decide +kernel) ⟨Nat.le_of_ble_eq_true rfl, Nat.le_of_ble_eq_true rfl⟩) ⟨fun a U g mk q => by obtain ⟨q0, q1, qP, qK, qD⟩ := q; exact ⟨q0, q1, qP, va_K.moved (u := U) (U := U.calling g mk a) (Vm.Alike.refl U.vm) qK, qD⟩, va_recv hK hP (ci := 12) (q0 := 0) rfl rfl, fun U hU hW => ⟨rfl, by rw [hU], by rw [hU]; exact hP, va_K.moved hW.alike hK, hD.weaken (fun _ _ _ _ => trivial)⟩⟩ rfl rfl hl.1 rfl (lv_room (Nat.le_of_ble_eq_true rfl)) dX12_collide_56 ⟨Nat.le_of_ble_eq_true rfl, Nat.le_of_ble_eq_true rfl⟩) hS (fun q _ h => hFc q h) hFc (fun r616 u t H1 locs ht hvm hw hB hz1 hk1 hS => ?_)
        obtain ⟨ga617, fa618⟩ := u
        obtain ⟨hP1, hK1, hD1⟩ := hB
        rw [ht] at hP1
        obtain ⟨hP, hD⟩ := va_join (wr := []) (w1 := (mW h0 kB kI kZ q g F)) hP hD [0, 1, 2, 3, 4, 5, 6, 7, 8, 9, 10, 11, 12, 13, 14, 15, 16, 17, 18, 19, 20, 21, 22, 23, 24, 25, 26, 27, 28, 29, 30, 31, 32, 33, 34, 35, 36, 37, 38, 39, 40, 41, 42, 43, 44, 45] [] rfl rfl (by decide) (by decide) hk1 hFc hP1 hD1
        generalize H1 = H at hP hS ⊢
        have hP : va_P (dC, dI) vwCl (mW h0 kB kI kZ q g F) H := hP
        have hD : va_D A (mW h0 kB kI kZ q g F) := hD
        have f619 : (0 ≤ r616.toInt ∧ r616.toInt ≤ 1) := hw
        refine lv_if_eq (tgt := 64) hx hb dX12_collide_59 (by decide) (fun c620 => ?_) (fun c620 => ?_)
        · have c620 := congrArg Int32.toInt c620
          obtain ⟨x621, ex621⟩ : ∃ y : Int32, y = x567 + 1 := ⟨_, rfl⟩
          have fx621 : x621.toInt = x567.toInt + (1) := by rw [ex621, z_add (by omega) (by omega)]; omega
          refine lv_iinc (v := x621) (lv' := [(4, .int x621), (0, .ref h0), (1, .int p0), (2, .int p1), (3, .int p2)]) hx hb dX12_collide_64 hl (k := 0) rfl (by rw [ex621]; rfl) (by decide) rfl (fun ls hl => ?_)
          clear ex621
          refine lv_goto (tgt := 11) hx hb dX12_collide_67 (by decide) ?_
          exact ih11 x621 g F H _ ls (show (84 * p0.toInt + 12 * p2.toInt + 12 - x621.toInt).toNat < n11 from by omega) (show (84 * p0.toInt + 12 * p2.toInt ≤ x621.toInt ∧ x621.toInt ≤ 84 * p0.toInt + 12 * p2.toInt + 12) from by omega) hP hD hS (lv_sub hl [0, 1, 2, 3, 4] rfl)
        · have c620 := z_ne c620
          refine lv_iconst (v := 1) hx hb dX12_collide_62 (by decide +kernel) ?_
          exact K 63 ls 1 (g, F) H _ dX12_collide_63 (show (0 ≤ (1 : Int32).toInt ∧ (1 : Int32).toInt ≤ 1) from by omega) hP hD hS
  exact lp11 ((84 * p0.toInt + 12 * p2.toInt + 12 - x566.toInt).toNat + 1) x566 g F H _ ls (Nat.lt_succ_self _) (show (84 * p0.toInt + 12 * p2.toInt ≤ x566.toInt ∧ x566.toInt ≤ 84 * p0.toInt + 12 * p2.toInt + 12) from by omega) hP hD hS (lv_sub hl [0, 1, 2, 3, 4] rfl)
set_option maxHeartbeats 4000000 in
set_option maxRecDepth 100000 in
theorem m_collide (l : Launch) (dC : Nat → ClassId) (dI : Nat → Nat → Nat) (sz : Nat) (h0 : Nat) (kB kI kZ : ClassId) (q : Nat → Nat) (g : Nat → Int32) (F : Nat → Nat → Int32) (p0 : Int32) (p1 : Int32) (p2 : Int32) (hI : MInv g F) (hq0 : (0 ≤ p0.toInt ∧ p0.toInt ≤ 99)) (hq1 : (0 ≤ p1.toInt ∧ p1.toInt ≤ 99)) (hq2 : (0 ≤ p2.toInt ∧ p2.toInt ≤ 6)) : Met l yX12_collide vmX12_collide ({ frames := 4, cells := 0, slots := 0, locals := 112 } : Room) (va_Pc [.ref h0, .int p0, .int p1, .int p2] (fun U => U.heap.size = sz ∧ va_P (dC, dI) vwCl (mW h0 kB kI kZ q g F) U.heap ∧ va_K (dC, dI) vwCl (mT kB kI kZ) U ∧ va_D (fun _ => True) (mW h0 kB kI kZ q g F))) (va_Qi (fun (r : Int32) (u : ((Nat → Int32) × (Nat → Nat → Int32))) => ((0 ≤ r.toInt ∧ r.toInt ≤ 1))) (fun u t => va_P (dC, dI) vwCl (mW h0 kB kI kZ q g F) t.heap ∧ va_K (dC, dI) vwCl (mT kB kI kZ) t ∧ va_D (va_A (mW h0 kB kI kZ q g F) sz) (mW h0 kB kI kZ q g F)) (va_A (mW h0 kB kI kZ q g F) sz)) 0 0 (va_A (mW h0 kB kI kZ q g F) sz) := by
  refine Met.ofW (cc := cX12_collide) (maxL := 5) (ret := (some .boolean)) (by decide) rfl ?_
  intro p e s m args below meth c s₁ B hml hv
  obtain ⟨rfl, hsz, hP, hK, hD0⟩ := hv
  have hx := B.exec
  have hb := B.bytes
  have hr := B.returns
  have hts := atoms_spec (ws := vmX12_collide) B.pre
  have hown : s.vm.findClass RX12 = some m.cls := findClass_of_methodNamed B.named
  subst hsz
  have hD := hD0.self (sz := s.heap.size)
  generalize hAe : va_A (mW h0 kB kI kZ q g F) s.heap.size = A at hD ⊢
  have hA : ∀ q : Nat, s.heap.size ≤ q → A q := fun q h => by rw [← hAe]; exact Or.inr h
  have hS : va_S A s.heap s.heap [] := va_S.rf
  have hl := lv_entry ([.ref h0, .int p0, .int p1, .int p2]) (n := 5) (Nat.le_of_ble_eq_true rfl)
  rw [lg_entry_eq]
  generalize (lg_sl ([.ref h0, .int p0, .int p1, .int p2]) ++ List.replicate (5 - (lg_sl ([.ref h0, .int p0, .int p1, .int p2])).length) Slot.unset).toArray = ls at hl ⊢
  exact bm_collide p0 p1 p2 hx hb hml hown hts hA hK hI hq0 hq1 hq2 hP hD hS hl (fun pc ls r u H locs hd hw hP hD hS => W.zret (v := r) hx hb hr (z_nb (by have := hw; omega)) (fun t ht hW => ⟨⟨r, u, rfl, hw, by rw [ht]; exact hP, va_K.moved hW.alike hK, hD⟩, hS.F ht⟩) hS.2.2 hd)
set_option maxHeartbeats 4000000 in
set_option maxRecDepth 100000 in
theorem bm_rhyme_52_52 {p : Program} {l : Launch} {e : Env} {s : State} {m : MethodId} {args : Array Value} {below : List Frame} {meth : Method} {c : Code} {Q : State → Prop} {A : Nat → Prop} {dC : Nat → ClassId} {dI : Nat → Nat → Nat} {h0 : Nat} {kB kI kZ : ClassId} {q : Nat → Nat} {g : Nat → Int32} {F : Nat → Nat → Int32} {H : Heap} {locs : List Loc} {ls : Array Slot} (p1 : Int32) (p2 : Int32) (p4 : Int32) (p5 : Int32) (hx : p.tables.exec = Jvm.exec) (hb : c.code = cX12_rhyme) (hml : c.maxLocals = 6) (hown : s.vm.findClass RX12 = some m.cls) (hts : ∀ w ∈ vmX12_rhyme, w.before args s = true) (hA : ∀ q : Nat, s.heap.size ≤ q → A q) (hK : va_K (dC, dI) vwCl (mT kB kI kZ) s) (hI : MInv g F) (hq0 : (0 ≤ p1.toInt ∧ p1.toInt + p2.toInt ≤ 201600 ∧ p2.toInt ≤ 24)) (hq1 : (0 ≤ p4.toInt ∧ p4.toInt + p5.toInt ≤ 201600 ∧ p5.toInt ≤ 24)) (hP : va_P (dC, dI) vwCl (mW h0 kB kI kZ q g F) H) (hD : va_D A (mW h0 kB kI kZ q g F)) (hS : va_S A s.heap H locs) (hl : lv_has ls 6 [(0, .ref (q 52)), (1, .int p1), (2, .int p2), (3, .ref (q 52)), (4, .int p4), (5, .int p5)])
    (K : ∀ (pc : Nat) (ls : Array Slot) (r : Int32) (u : ((Nat → Int32) × (Nat → Nat → Int32))) (H : Heap) (locs : List Loc), decode cX12_rhyme pc = .ok (.ireturn, 1) → (((0 ≤ r.toInt ∧ r.toInt ≤ 1))) → va_P (dC, dI) vwCl (mW h0 kB kI kZ q g F) H → va_D A (mW h0 kB kI kZ q g F) → va_S A s.heap H locs → W p l e ({ frames := 3, cells := 0, slots := 0, locals := 86 } : Room) s m args below meth c H locs 0 0 Q (F0 m pc ls [.int r])) : W p l e ({ frames := 3, cells := 0, slots := 0, locals := 86 } : Room) s m args below meth c H locs 0 0 Q (F0 m 0 ls []) := by
  obtain ⟨hg1z, hg2z, hg3z, hg4z, hg5z, hg6z, hg7z, hg8z, hg9z, hg23z, hg27z, hg30z, hg34z, hg36z, hg39z, hg44z, hg47z, hg48z, hg51z, hg56z, hg59z, hg62z, hg65z, hg66z, hg70z, hF11z, hF12z, hF13z, hF15z, hF19z, hF21z, hF24z, hF25z, hF26z, hF33z, hF38z, hF41z, hF43z, hF45z, hF46z, hF50z, hF53z, hF54z⟩ := hI
  have zk0 : (0 : Int32).toInt = 0 := by decide +kernel
  have zk1 : (1 : Int32).toInt = 1 := by decide +kernel
  have zk2 : (2 : Int32).toInt = 2 := by decide +kernel
  have zk3 : (3 : Int32).toInt = 3 := by decide +kernel
  refine lv_iload_n hx hb dX12_rhyme_0 rfl (lv_at hl 2 rfl) ?_
  refine lv_iconst (v := 2) hx hb dX12_rhyme_1 (by decide +kernel) ?_
  refine lv_icmp_le (tgt := 37) hx hb dX12_rhyme_2 (by decide) (fun c657 => ?_) (fun c657 => ?_)
  · have c657 := (z_le _ _).mp c657
    refine lv_iconst (v := 0) hx hb dX12_rhyme_37 (by decide +kernel) ?_
    exact K 38 ls 0 (g, F) H _ dX12_rhyme_38 (show (0 ≤ (0 : Int32).toInt ∧ (0 : Int32).toInt ≤ 1) from by omega) hP hD hS
  · have c657 := z_nle c657
    refine lv_iload hx hb dX12_rhyme_5 (lv_at hl 5 rfl) ?_
    refine lv_iconst (v := 2) hx hb dX12_rhyme_7 (by decide +kernel) ?_
    refine lv_icmp_le (tgt := 37) hx hb dX12_rhyme_8 (by decide) (fun c658 => ?_) (fun c658 => ?_)
    · have c658 := (z_le _ _).mp c658
      refine lv_iconst (v := 0) hx hb dX12_rhyme_37 (by decide +kernel) ?_
      exact K 38 ls 0 (g, F) H _ dX12_rhyme_38 (show (0 ≤ (0 : Int32).toInt ∧ (0 : Int32).toInt ≤ 1) from by omega) hP hD hS
    · have c658 := z_nle c658
      refine lv_aload_n hx hb dX12_rhyme_11 rfl (lv_at hl 0 rfl) ?_
      refine lv_iload_n hx hb dX12_rhyme_12 rfl (lv_at hl 1 rfl) ?_
      refine lv_iload_n hx hb dX12_rhyme_13 rfl (lv_at hl 2 rfl) ?_
      refine lv_iadd hx hb dX12_rhyme_14 ?_
      refine lv_topi (fun x659 ex659 => ?_)
      have fx659 : x659.toInt = p1.toInt + p2.toInt := by have h := @z_add p1 p2 (by omega) (by omega); rw [← ex659] at h; omega
      clear ex659
      refine lv_iconst (v := 3) hx hb dX12_rhyme_15 (by decide +kernel) ?_
      refine lv_isub hx hb dX12_rhyme_16 ?_
      refine lv_topi (fun x660 ex660 => ?_)
      have fx660 : x660.toInt = x659.toInt - 3 := by have h := @z_sub x659 (3 : Int32) (by omega) (by omega); rw [← ex660] at h; omega
      clear ex660
      refine lv_iconst (v := 3) hx hb dX12_rhyme_17 (by decide +kernel) ?_
      refine lv_aload_n hx hb dX12_rhyme_18 rfl (lv_at hl 3 rfl) ?_
      refine lv_iload hx hb dX12_rhyme_19 (lv_at hl 4 rfl) ?_
      refine lv_iload hx hb dX12_rhyme_21 (lv_at hl 5 rfl) ?_
      refine lv_iadd hx hb dX12_rhyme_23 ?_
      refine lv_topi (fun x661 ex661 => ?_)
      have fx661 : x661.toInt = p4.toInt + p5.toInt := by have h := @z_add p4 p5 (by omega) (by omega); rw [← ex661] at h; omega
      clear ex661
      refine lv_iconst (v := 3) hx hb dX12_rhyme_24 (by decide +kernel) ?_
      refine lv_isub hx hb dX12_rhyme_25 ?_
      refine lv_topi (fun x662 ex662 => ?_)
      have fx662 : x662.toInt = x661.toInt - 3 := by have h := @z_sub x661 (3 : Int32) (by omega) (by omega); rw [← ex662] at h; omega
      clear ex662
      refine lv_iconst (v := 3) hx hb dX12_rhyme_26 (by decide +kernel) ?_
      have hFc := va_free (wc := (mW h0 kB kI kZ q g F)) hD hS hA [0, 1, 2, 3, 4, 5, 6, 7, 8, 9, 10, 11, 12, 13, 14, 15, 16, 17, 18, 19, 20, 21, 22, 23, 24, 25, 26, 27, 28, 29, 30, 31, 32, 33, 34, 35, 36, 37, 38, 39, 40, 41, 42, 43, 44, 45] rfl
      refine va_calli (va_runS (As := [.ref (q 52), .int x660, .int 3, .ref (q 52), .int x662, .int 3]) (rest := []) ⟨hx, hb, hml, hown, hts⟩ (m_sameBytes_52_52 l dC dI H.size h0 kB kI kZ q g F x660 3 x662 3 ⟨hg1z, hg2z, hg3z, hg4z, hg5z, hg6z, hg7z, hg8z, hg9z, hg23z, hg27z, hg30z, hg34z, hg36z, hg39z, hg44z, hg47z, hg48z, hg51z, hg56z, hg59z, hg62z, hg65z, hg66z, hg70z, hF11z, hF12z, hF13z, hF15z, hF19z, hF21z, hF24z, hF25z, hF26z, hF33z, hF38z, hF41z, hF43z, hF45z, hF46z, hF50z, hF53z, hF54z⟩ (show (0 ≤ x660.toInt ∧ x660.toInt + (3 : Int32).toInt ≤ 201600) from by omega) (show (0 ≤ x662.toInt ∧ x662.toInt + (3 : Int32).toInt ≤ 201600) from by omega)) (va_cwS 6 hts gw_X12_rhyme_X12_sameBytes_273 rfl rfl rfl (by decide +kernel) ⟨Nat.le_of_ble_eq_true rfl, Nat.le_of_ble_eq_true rfl⟩) ⟨fun a U g mk q => by obtain ⟨q0, q1, qP, qK, qD⟩ := q; exact ⟨q0, q1, qP, va_K.moved (u := U) (U := U.calling g mk a) (Vm.Alike.refl U.vm) qK, qD⟩, fun U hU hW => ⟨rfl, by rw [hU], by rw [hU]; exact hP, va_K.moved hW.alike hK, hD.weaken (fun _ _ _ _ => trivial)⟩⟩ rfl rfl hl.1 rfl (lv_room (Nat.le_of_ble_eq_true rfl)) dX12_rhyme_27 ⟨Nat.le_of_ble_eq_true rfl, Nat.le_of_ble_eq_true rfl⟩) hS (fun q _ h => hFc q h) hFc (fun r663 u t H1 locs ht hvm hw hB hz1 hk1 hS => ?_)
      obtain ⟨ga664, fa665⟩ := u
      obtain ⟨hP1, hK1, hD1⟩ := hB
      rw [ht] at hP1
      obtain ⟨hP, hD⟩ := va_join (wr := []) (w1 := (mW h0 kB kI kZ q g F)) hP hD [0, 1, 2, 3, 4, 5, 6, 7, 8, 9, 10, 11, 12, 13, 14, 15, 16, 17, 18, 19, 20, 21, 22, 23, 24, 25, 26, 27, 28, 29, 30, 31, 32, 33, 34, 35, 36, 37, 38, 39, 40, 41, 42, 43, 44, 45] [] rfl rfl (by decide) (by decide) hk1 hFc hP1 hD1
      generalize H1 = H at hP hS ⊢
      have hP : va_P (dC, dI) vwCl (mW h0 kB kI kZ q g F) H := hP
      have hD : va_D A (mW h0 kB kI kZ q g F) := hD
      have f666 : (0 ≤ r663.toInt ∧ r663.toInt ≤ 1) := hw
      refine lv_if_eq (tgt := 37) hx hb dX12_rhyme_30 (by decide) (fun c667 => ?_) (fun c667 => ?_)
      · have c667 := congrArg Int32.toInt c667
        refine lv_iconst (v := 0) hx hb dX12_rhyme_37 (by decide +kernel) ?_
        exact K 38 ls 0 (g, F) H _ dX12_rhyme_38 (show (0 ≤ (0 : Int32).toInt ∧ (0 : Int32).toInt ≤ 1) from by omega) hP hD hS
      · have c667 := z_ne c667
        refine lv_iconst (v := 1) hx hb dX12_rhyme_33 (by decide +kernel) ?_
        refine lv_goto (tgt := 38) hx hb dX12_rhyme_34 (by decide) ?_
        exact K 38 ls 1 (g, F) H _ dX12_rhyme_38 (show (0 ≤ (1 : Int32).toInt ∧ (1 : Int32).toInt ≤ 1) from by omega) hP hD hS
set_option maxHeartbeats 4000000 in
set_option maxRecDepth 100000 in
theorem m_rhyme_52_52 (l : Launch) (dC : Nat → ClassId) (dI : Nat → Nat → Nat) (sz : Nat) (h0 : Nat) (kB kI kZ : ClassId) (q : Nat → Nat) (g : Nat → Int32) (F : Nat → Nat → Int32) (p1 : Int32) (p2 : Int32) (p4 : Int32) (p5 : Int32) (hI : MInv g F) (hq0 : (0 ≤ p1.toInt ∧ p1.toInt + p2.toInt ≤ 201600 ∧ p2.toInt ≤ 24)) (hq1 : (0 ≤ p4.toInt ∧ p4.toInt + p5.toInt ≤ 201600 ∧ p5.toInt ≤ 24)) : Met l yX12_rhyme vmX12_rhyme ({ frames := 3, cells := 0, slots := 0, locals := 86 } : Room) (va_Pc [.ref (q 52), .int p1, .int p2, .ref (q 52), .int p4, .int p5] (fun U => U.heap.size = sz ∧ va_P (dC, dI) vwCl (mW h0 kB kI kZ q g F) U.heap ∧ va_K (dC, dI) vwCl (mT kB kI kZ) U ∧ va_D (fun _ => True) (mW h0 kB kI kZ q g F))) (va_Qi (fun (r : Int32) (u : ((Nat → Int32) × (Nat → Nat → Int32))) => ((0 ≤ r.toInt ∧ r.toInt ≤ 1))) (fun u t => va_P (dC, dI) vwCl (mW h0 kB kI kZ q g F) t.heap ∧ va_K (dC, dI) vwCl (mT kB kI kZ) t ∧ va_D (va_A (mW h0 kB kI kZ q g F) sz) (mW h0 kB kI kZ q g F)) (va_A (mW h0 kB kI kZ q g F) sz)) 0 0 (va_A (mW h0 kB kI kZ q g F) sz) := by
  refine Met.ofW (cc := cX12_rhyme) (maxL := 6) (ret := (some .boolean)) (by decide) rfl ?_
  intro p e s m args below meth c s₁ B hml hv
  obtain ⟨rfl, hsz, hP, hK, hD0⟩ := hv
  have hx := B.exec
  have hb := B.bytes
  have hr := B.returns
  have hts := atoms_spec (ws := vmX12_rhyme) B.pre
  have hown : s.vm.findClass RX12 = some m.cls := findClass_of_methodNamed B.named
  subst hsz
  have hD := hD0.self (sz := s.heap.size)
  generalize hAe : va_A (mW h0 kB kI kZ q g F) s.heap.size = A at hD ⊢
  have hA : ∀ q : Nat, s.heap.size ≤ q → A q := fun q h => by rw [← hAe]; exact Or.inr h
  have hS : va_S A s.heap s.heap [] := va_S.rf
  have hl := lv_entry ([.ref (q 52), .int p1, .int p2, .ref (q 52), .int p4, .int p5]) (n := 6) (Nat.le_of_ble_eq_true rfl)
  rw [lg_entry_eq]
  generalize (lg_sl ([.ref (q 52), .int p1, .int p2, .ref (q 52), .int p4, .int p5]) ++ List.replicate (6 - (lg_sl ([.ref (q 52), .int p1, .int p2, .ref (q 52), .int p4, .int p5])).length) Slot.unset).toArray = ls at hl ⊢
  exact bm_rhyme_52_52 p1 p2 p4 p5 hx hb hml hown hts hA hK hI hq0 hq1 hP hD hS hl (fun pc ls r u H locs hd hw hP hD hS => W.zret (v := r) hx hb hr (z_nb (by have := hw; omega)) (fun t ht hW => ⟨⟨r, u, rfl, hw, by rw [ht]; exact hP, va_K.moved hW.alike hK, hD⟩, hS.F ht⟩) hS.2.2 hd)
set_option maxHeartbeats 4000000 in
set_option maxRecDepth 100000 in
theorem bm_rhymeAt {p : Program} {l : Launch} {e : Env} {s : State} {m : MethodId} {args : Array Value} {below : List Frame} {meth : Method} {c : Code} {Q : State → Prop} {A : Nat → Prop} {dC : Nat → ClassId} {dI : Nat → Nat → Nat} {h0 : Nat} {kB kI kZ : ClassId} {q : Nat → Nat} {g : Nat → Int32} {F : Nat → Nat → Int32} {H : Heap} {locs : List Loc} {ls : Array Slot} (p0 : Int32) (p1 : Int32) (p2 : Int32) (hx : p.tables.exec = Jvm.exec) (hb : c.code = cX12_rhymeAt) (hml : c.maxLocals = 6) (hown : s.vm.findClass RX12 = some m.cls) (hts : ∀ w ∈ vmX12_rhymeAt, w.before args s = true) (hA : ∀ q : Nat, s.heap.size ≤ q → A q) (hK : va_K (dC, dI) vwCl (mT kB kI kZ) s) (hI : MInv g F) (hq0 : (0 ≤ p0.toInt ∧ p0.toInt ≤ 99)) (hq1 : (0 ≤ p1.toInt ∧ p1.toInt ≤ 99)) (hq2 : (0 ≤ p2.toInt ∧ p2.toInt ≤ 6)) (hP : va_P (dC, dI) vwCl (mW h0 kB kI kZ q g F) H) (hD : va_D A (mW h0 kB kI kZ q g F)) (hS : va_S A s.heap H locs) (hl : lv_has ls 6 [(0, .ref h0), (1, .int p0), (2, .int p1), (3, .int p2)])
    (K : ∀ (pc : Nat) (ls : Array Slot) (r : Int32) (u : ((Nat → Int32) × (Nat → Nat → Int32))) (H : Heap) (locs : List Loc), decode cX12_rhymeAt pc = .ok (.ireturn, 1) → (((0 ≤ r.toInt ∧ r.toInt ≤ 1))) → va_P (dC, dI) vwCl (mW h0 kB kI kZ q g F) H → va_D A (mW h0 kB kI kZ q g F) → va_S A s.heap H locs → W p l e ({ frames := 4, cells := 0, slots := 0, locals := 111 } : Room) s m args below meth c H locs 0 0 Q (F0 m pc ls [.int r])) : W p l e ({ frames := 4, cells := 0, slots := 0, locals := 111 } : Room) s m args below meth c H locs 0 0 Q (F0 m 0 ls []) := by
  obtain ⟨hg1z, hg2z, hg3z, hg4z, hg5z, hg6z, hg7z, hg8z, hg9z, hg23z, hg27z, hg30z, hg34z, hg36z, hg39z, hg44z, hg47z, hg48z, hg51z, hg56z, hg59z, hg62z, hg65z, hg66z, hg70z, hF11z, hF12z, hF13z, hF15z, hF19z, hF21z, hF24z, hF25z, hF26z, hF33z, hF38z, hF41z, hF43z, hF45z, hF46z, hF50z, hF53z, hF54z⟩ := hI
  have zk0 : (0 : Int32).toInt = 0 := by decide +kernel
  have zk1 : (1 : Int32).toInt = 1 := by decide +kernel
  have zk7 : (7 : Int32).toInt = 7 := by decide +kernel
  have zk12 : (12 : Int32).toInt = 12 := by decide +kernel
  have zk24 : (24 : Int32).toInt = 24 := by decide +kernel
  refine lv_bipush (v := 12) hx hb dX12_rhymeAt_0 (by decide +kernel) ?_
  refine lv_bipush (v := 7) hx hb dX12_rhymeAt_2 (by decide +kernel) ?_
  refine lv_iload_n hx hb dX12_rhymeAt_4 rfl (lv_at hl 1 rfl) ?_
  refine lv_imul hx hb dX12_rhymeAt_5 ?_
  refine lv_topi (fun x622 ex622 => ?_)
  have fx622 : x622.toInt = 7 * p0.toInt := by rw [ex622, z_mul (by simp only [zk7]; omega) (by simp only [zk7]; omega)]; simp only [zk7]
  clear ex622
  refine lv_iload_n hx hb dX12_rhymeAt_6 rfl (lv_at hl 3 rfl) ?_
  refine lv_iadd hx hb dX12_rhymeAt_7 ?_
  refine lv_topi (fun x623 ex623 => ?_)
  have fx623 : x623.toInt = x622.toInt + p2.toInt := by have h := @z_add x622 p2 (by omega) (by omega); rw [← ex623] at h; omega
  clear ex623
  refine lv_imul hx hb dX12_rhymeAt_8 ?_
  refine lv_topi (fun x624 ex624 => ?_)
  have fx624 : x624.toInt = 12 * x623.toInt := by rw [ex624, z_mul (by simp only [zk12]; omega) (by simp only [zk12]; omega)]; simp only [zk12]
  clear ex624
  refine lv_istore (lv' := [(4, .int x624), (0, .ref h0), (1, .int p0), (2, .int p1), (3, .int p2)]) hx hb dX12_rhymeAt_9 hl (by decide) rfl (fun ls hl => ?_)
  have lp11 : ∀ (n11 : Nat) (x625 : Int32) (gl626 : Nat → Int32) (fl627 : Nat → Nat → Int32) (H : Heap) (locs : List Loc) (ls : Array Slot), (84 * p0.toInt + 12 * p2.toInt + 12 - x625.toInt).toNat < n11 → (84 * p0.toInt + 12 * p2.toInt ≤ x625.toInt ∧ x625.toInt ≤ 84 * p0.toInt + 12 * p2.toInt + 12) → va_P (dC, dI) vwCl (mW h0 kB kI kZ q g F) H → va_D A (mW h0 kB kI kZ q g F) → va_S A s.heap H locs → lv_has ls 6 [(4, .int x625), (0, .ref h0), (1, .int p0), (2, .int p1), (3, .int p2)] → W p l e ({ frames := 4, cells := 0, slots := 0, locals := 111 } : Room) s m args below meth c H locs 0 0 Q (F0 m 11 ls []) := by
    intro n11
    induction n11 with
    | zero => intro x625 gl626 fl627 H locs ls hm; exact absurd hm (Nat.not_lt_zero _)
    | succ n11 ih11 =>
      intro x625 gl626 fl627 H locs ls hm11 f628 hP hD hS hl
      refine lv_iload hx hb dX12_rhymeAt_11 (lv_at hl 0 rfl) ?_
      refine lv_bipush (v := 12) hx hb dX12_rhymeAt_13 (by decide +kernel) ?_
      refine lv_bipush (v := 7) hx hb dX12_rhymeAt_15 (by decide +kernel) ?_
      refine lv_iload_n hx hb dX12_rhymeAt_17 rfl (lv_at hl 2 rfl) ?_
      refine lv_imul hx hb dX12_rhymeAt_18 ?_
      refine lv_topi (fun x629 ex629 => ?_)
      have fx629 : x629.toInt = 7 * p0.toInt := by rw [ex629, z_mul (by simp only [zk7]; omega) (by simp only [zk7]; omega)]; simp only [zk7]
      clear ex629
      refine lv_iload_n hx hb dX12_rhymeAt_19 rfl (lv_at hl 4 rfl) ?_
      refine lv_iadd hx hb dX12_rhymeAt_20 ?_
      refine lv_topi (fun x630 ex630 => ?_)
      have fx630 : x630.toInt = x629.toInt + p2.toInt := by have h := @z_add x629 p2 (by omega) (by omega); rw [← ex630] at h; omega
      clear ex630
      refine lv_imul hx hb dX12_rhymeAt_21 ?_
      refine lv_topi (fun x631 ex631 => ?_)
      have fx631 : x631.toInt = 12 * x630.toInt := by rw [ex631, z_mul (by simp only [zk12]; omega) (by simp only [zk12]; omega)]; simp only [zk12]
      clear ex631
      refine lv_aload_n hx hb dX12_rhymeAt_22 rfl (lv_at hl 1 rfl) ?_
      refine va_get (D := (dC, dI)) (ci := 12) (v := .ref (q 54)) (C := RX12) (T := TX12) (N := 71) hx hb hts (fun _ h => List.mem_append_right _ h) hown hK hP 0 rfl rfl 54 (by decide) (hts (.fieldLink RX12 119 "SpellTurnerModel" "formMany" "[I") (List.mem_of_getElem? (i := 1) rfl)) (fun _ h9 => h9) rfl dX12_rhymeAt_23 ?_
      refine lv_bipush (v := 7) hx hb dX12_rhymeAt_26 (by decide +kernel) ?_
      refine lv_iload_n hx hb dX12_rhymeAt_28 rfl (lv_at hl 2 rfl) ?_
      refine lv_imul hx hb dX12_rhymeAt_29 ?_
      refine lv_topi (fun x632 ex632 => ?_)
      have fx632 : x632.toInt = 7 * p0.toInt := by rw [ex632, z_mul (by simp only [zk7]; omega) (by simp only [zk7]; omega)]; simp only [zk7]
      clear ex632
      refine lv_iload_n hx hb dX12_rhymeAt_30 rfl (lv_at hl 4 rfl) ?_
      refine lv_iadd hx hb dX12_rhymeAt_31 ?_
      refine lv_topi (fun x633 ex633 => ?_)
      have fx633 : x633.toInt = x632.toInt + p2.toInt := by have h := @z_add x632 p2 (by omega) (by omega); rw [← ex633] at h; omega
      clear ex633
      refine va_iald hx hb hK hP 35 1 rfl rfl (z_in (i := x633) (by omega) (by omega)) dX12_rhymeAt_32 ?_
      refine lv_topi (fun x634 ex634 => ?_)
      have kx634 : x634.toInt = ((F 54) (Int32.toNatClampNeg x633)).toInt := congrArg Int32.toInt ex634
      have fx634 := hF54z (Int32.toNatClampNeg x633)
      clear ex634
      refine lv_iadd hx hb dX12_rhymeAt_33 ?_
      refine lv_topi (fun x635 ex635 => ?_)
      have fx635 : x635.toInt = x631.toInt + x634.toInt := by have h := @z_add x631 x634 (by omega) (by omega); rw [← ex635] at h; omega
      clear ex635
      refine lv_icmp_ge (tgt := 126) hx hb dX12_rhymeAt_34 (by decide) (fun c636 => ?_) (fun c636 => ?_)
      · have c636 := (z_le _ _).mp c636
        refine lv_iconst (v := 0) hx hb dX12_rhymeAt_126 (by decide +kernel) ?_
        exact K 127 ls 0 (g, F) H _ dX12_rhymeAt_127 (show (0 ≤ (0 : Int32).toInt ∧ (0 : Int32).toInt ≤ 1) from by omega) hP hD hS
      · have c636 := z_nle c636
        refine lv_bipush (v := 12) hx hb dX12_rhymeAt_37 (by decide +kernel) ?_
        refine lv_bipush (v := 7) hx hb dX12_rhymeAt_39 (by decide +kernel) ?_
        refine lv_iload_n hx hb dX12_rhymeAt_41 rfl (lv_at hl 3 rfl) ?_
        refine lv_imul hx hb dX12_rhymeAt_42 ?_
        refine lv_topi (fun x637 ex637 => ?_)
        have fx637 : x637.toInt = 7 * p1.toInt := by rw [ex637, z_mul (by simp only [zk7]; omega) (by simp only [zk7]; omega)]; simp only [zk7]
        clear ex637
        refine lv_iload_n hx hb dX12_rhymeAt_43 rfl (lv_at hl 4 rfl) ?_
        refine lv_iadd hx hb dX12_rhymeAt_44 ?_
        refine lv_topi (fun x638 ex638 => ?_)
        have fx638 : x638.toInt = x637.toInt + p2.toInt := by have h := @z_add x637 p2 (by omega) (by omega); rw [← ex638] at h; omega
        clear ex638
        refine lv_imul hx hb dX12_rhymeAt_45 ?_
        refine lv_topi (fun x639 ex639 => ?_)
        have fx639 : x639.toInt = 12 * x638.toInt := by rw [ex639, z_mul (by simp only [zk12]; omega) (by simp only [zk12]; omega)]; simp only [zk12]
        clear ex639
        refine lv_istore (lv' := [(5, .int x639), (4, .int x625), (0, .ref h0), (1, .int p0), (2, .int p1), (3, .int p2)]) hx hb dX12_rhymeAt_46 hl (by decide) rfl (fun ls hl => ?_)
        have lp48 : ∀ (n48 : Nat) (x640 : Int32) (gl641 : Nat → Int32) (fl642 : Nat → Nat → Int32) (H : Heap) (locs : List Loc) (ls : Array Slot), (84 * p1.toInt + 12 * p2.toInt + 12 - x640.toInt).toNat < n48 → (84 * p1.toInt + 12 * p2.toInt ≤ x640.toInt ∧ x640.toInt ≤ 84 * p1.toInt + 12 * p2.toInt + 12) → va_P (dC, dI) vwCl (mW h0 kB kI kZ q g F) H → va_D A (mW h0 kB kI kZ q g F) → va_S A s.heap H locs → lv_has ls 6 [(5, .int x640), (4, .int x625), (0, .ref h0), (1, .int p0), (2, .int p1), (3, .int p2)] → W p l e ({ frames := 4, cells := 0, slots := 0, locals := 111 } : Room) s m args below meth c H locs 0 0 Q (F0 m 48 ls []) := by
          intro n48
          induction n48 with
          | zero => intro x640 gl641 fl642 H locs ls hm; exact absurd hm (Nat.not_lt_zero _)
          | succ n48 ih48 =>
            intro x640 gl641 fl642 H locs ls hm48 f643 hP hD hS hl
            refine lv_iload hx hb dX12_rhymeAt_48 (lv_at hl 0 rfl) ?_
            refine lv_bipush (v := 12) hx hb dX12_rhymeAt_50 (by decide +kernel) ?_
            refine lv_bipush (v := 7) hx hb dX12_rhymeAt_52 (by decide +kernel) ?_
            refine lv_iload_n hx hb dX12_rhymeAt_54 rfl (lv_at hl 4 rfl) ?_
            refine lv_imul hx hb dX12_rhymeAt_55 ?_
            refine lv_topi (fun x644 ex644 => ?_)
            have fx644 : x644.toInt = 7 * p1.toInt := by rw [ex644, z_mul (by simp only [zk7]; omega) (by simp only [zk7]; omega)]; simp only [zk7]
            clear ex644
            refine lv_iload_n hx hb dX12_rhymeAt_56 rfl (lv_at hl 5 rfl) ?_
            refine lv_iadd hx hb dX12_rhymeAt_57 ?_
            refine lv_topi (fun x645 ex645 => ?_)
            have fx645 : x645.toInt = x644.toInt + p2.toInt := by have h := @z_add x644 p2 (by omega) (by omega); rw [← ex645] at h; omega
            clear ex645
            refine lv_imul hx hb dX12_rhymeAt_58 ?_
            refine lv_topi (fun x646 ex646 => ?_)
            have fx646 : x646.toInt = 12 * x645.toInt := by rw [ex646, z_mul (by simp only [zk12]; omega) (by simp only [zk12]; omega)]; simp only [zk12]
            clear ex646
            refine lv_aload_n hx hb dX12_rhymeAt_59 rfl (lv_at hl 2 rfl) ?_
            refine va_get (D := (dC, dI)) (ci := 12) (v := .ref (q 54)) (C := RX12) (T := TX12) (N := 71) hx hb hts (fun _ h => List.mem_append_right _ h) hown hK hP 0 rfl rfl 54 (by decide) (hts (.fieldLink RX12 119 "SpellTurnerModel" "formMany" "[I") (List.mem_of_getElem? (i := 1) rfl)) (fun _ h9 => h9) rfl dX12_rhymeAt_60 ?_
            refine lv_bipush (v := 7) hx hb dX12_rhymeAt_63 (by decide +kernel) ?_
            refine lv_iload_n hx hb dX12_rhymeAt_65 rfl (lv_at hl 4 rfl) ?_
            refine lv_imul hx hb dX12_rhymeAt_66 ?_
            refine lv_topi (fun x647 ex647 => ?_)
            have fx647 : x647.toInt = 7 * p1.toInt := by rw [ex647, z_mul (by simp only [zk7]; omega) (by simp only [zk7]; omega)]; simp only [zk7]
            clear ex647
            refine lv_iload_n hx hb dX12_rhymeAt_67 rfl (lv_at hl 5 rfl) ?_
            refine lv_iadd hx hb dX12_rhymeAt_68 ?_
            refine lv_topi (fun x648 ex648 => ?_)
            have fx648 : x648.toInt = x647.toInt + p2.toInt := by have h := @z_add x647 p2 (by omega) (by omega); rw [← ex648] at h; omega
            clear ex648
            refine va_iald hx hb hK hP 35 1 rfl rfl (z_in (i := x648) (by omega) (by omega)) dX12_rhymeAt_69 ?_
            refine lv_topi (fun x649 ex649 => ?_)
            have kx649 : x649.toInt = ((F 54) (Int32.toNatClampNeg x648)).toInt := congrArg Int32.toInt ex649
            have fx649 := hF54z (Int32.toNatClampNeg x648)
            clear ex649
            refine lv_iadd hx hb dX12_rhymeAt_70 ?_
            refine lv_topi (fun x650 ex650 => ?_)
            have fx650 : x650.toInt = x646.toInt + x649.toInt := by have h := @z_add x646 x649 (by omega) (by omega); rw [← ex650] at h; omega
            clear ex650
            refine lv_icmp_ge (tgt := 120) hx hb dX12_rhymeAt_71 (by decide) (fun c651 => ?_) (fun c651 => ?_)
            · have c651 := (z_le _ _).mp c651
              obtain ⟨x652, ex652⟩ : ∃ y : Int32, y = x625 + 1 := ⟨_, rfl⟩
              have fx652 : x652.toInt = x625.toInt + (1) := by rw [ex652, z_add (by omega) (by omega)]; omega
              refine lv_iinc (v := x652) (lv' := [(4, .int x652), (5, .int x640), (0, .ref h0), (1, .int p0), (2, .int p1), (3, .int p2)]) hx hb dX12_rhymeAt_120 hl (k := 1) rfl (by rw [ex652]; rfl) (by decide) rfl (fun ls hl => ?_)
              clear ex652
              refine lv_goto (tgt := 11) hx hb dX12_rhymeAt_123 (by decide) ?_
              exact ih11 x652 g F H _ ls (show (84 * p0.toInt + 12 * p2.toInt + 12 - x652.toInt).toNat < n11 from by omega) (show (84 * p0.toInt + 12 * p2.toInt ≤ x652.toInt ∧ x652.toInt ≤ 84 * p0.toInt + 12 * p2.toInt + 12) from by omega) hP hD hS (lv_sub hl [0, 2, 3, 4, 5] rfl)
            · have c651 := z_nle c651
              refine lv_aload_n hx hb dX12_rhymeAt_74 rfl (lv_at hl 2 rfl) ?_
              refine va_get (D := (dC, dI)) (ci := 12) (v := .ref (q 52)) (C := RX12) (T := TX12) (N := 71) hx hb hts (fun _ h => List.mem_append_right _ h) hown hK hP 0 rfl rfl 52 (by decide) (hts (.fieldLink RX12 113 "SpellTurnerModel" "formText" "[B") (List.mem_of_getElem? (i := 2) rfl)) (fun _ h9 => h9) rfl dX12_rhymeAt_75 ?_
              refine lv_bipush (v := 24) hx hb dX12_rhymeAt_78 (by decide +kernel) ?_
              refine lv_iload hx hb dX12_rhymeAt_80 (lv_at hl 1 rfl) ?_
              refine lv_imul hx hb dX12_rhymeAt_82 ?_
              refine lv_topi (fun x653 ex653 => ?_)
              have fx653 : x653.toInt = 24 * x625.toInt := by rw [ex653, z_mul (by simp only [zk24]; omega) (by simp only [zk24]; omega)]; simp only [zk24]
              clear ex653
              refine lv_aload_n hx hb dX12_rhymeAt_83 rfl (lv_at hl 2 rfl) ?_
              refine va_get (D := (dC, dI)) (ci := 12) (v := .ref (q 53)) (C := RX12) (T := TX12) (N := 71) hx hb hts (fun _ h => List.mem_append_right _ h) hown hK hP 0 rfl rfl 53 (by decide) (hts (.fieldLink RX12 116 "SpellTurnerModel" "formSize" "[I") (List.mem_of_getElem? (i := 3) rfl)) (fun _ h9 => h9) rfl dX12_rhymeAt_84 ?_
              refine lv_iload hx hb dX12_rhymeAt_87 (lv_at hl 1 rfl) ?_
              refine va_iald hx hb hK hP 34 1 rfl rfl (z_in (i := x625) (by omega) (by omega)) dX12_rhymeAt_89 ?_
              refine lv_topi (fun x654 ex654 => ?_)
              have kx654 : x654.toInt = ((F 53) (Int32.toNatClampNeg x625)).toInt := congrArg Int32.toInt ex654
              have fx654 := hF53z (Int32.toNatClampNeg x625)
              clear ex654
              refine lv_aload_n hx hb dX12_rhymeAt_90 rfl (lv_at hl 2 rfl) ?_
              refine va_get (D := (dC, dI)) (ci := 12) (v := .ref (q 52)) (C := RX12) (T := TX12) (N := 71) hx hb hts (fun _ h => List.mem_append_right _ h) hown hK hP 0 rfl rfl 52 (by decide) (hts (.fieldLink RX12 113 "SpellTurnerModel" "formText" "[B") (List.mem_of_getElem? (i := 2) rfl)) (fun _ h9 => h9) rfl dX12_rhymeAt_91 ?_
              refine lv_bipush (v := 24) hx hb dX12_rhymeAt_94 (by decide +kernel) ?_
              refine lv_iload hx hb dX12_rhymeAt_96 (lv_at hl 0 rfl) ?_
              refine lv_imul hx hb dX12_rhymeAt_98 ?_
              refine lv_topi (fun x655 ex655 => ?_)
              have fx655 : x655.toInt = 24 * x640.toInt := by rw [ex655, z_mul (by simp only [zk24]; omega) (by simp only [zk24]; omega)]; simp only [zk24]
              clear ex655
              refine lv_aload_n hx hb dX12_rhymeAt_99 rfl (lv_at hl 2 rfl) ?_
              refine va_get (D := (dC, dI)) (ci := 12) (v := .ref (q 53)) (C := RX12) (T := TX12) (N := 71) hx hb hts (fun _ h => List.mem_append_right _ h) hown hK hP 0 rfl rfl 53 (by decide) (hts (.fieldLink RX12 116 "SpellTurnerModel" "formSize" "[I") (List.mem_of_getElem? (i := 3) rfl)) (fun _ h9 => h9) rfl dX12_rhymeAt_100 ?_
              refine lv_iload hx hb dX12_rhymeAt_103 (lv_at hl 0 rfl) ?_
              refine va_iald hx hb hK hP 34 1 rfl rfl (z_in (i := x640) (by omega) (by omega)) dX12_rhymeAt_105 ?_
              refine lv_topi (fun x656 ex656 => ?_)
              have kx656 : x656.toInt = ((F 53) (Int32.toNatClampNeg x640)).toInt := congrArg Int32.toInt ex656
              have fx656 := hF53z (Int32.toNatClampNeg x640)
              clear ex656
              have hFc := va_free (wc := (mW h0 kB kI kZ q g F)) hD hS hA [0, 1, 2, 3, 4, 5, 6, 7, 8, 9, 10, 11, 12, 13, 14, 15, 16, 17, 18, 19, 20, 21, 22, 23, 24, 25, 26, 27, 28, 29, 30, 31, 32, 33, 34, 35, 36, 37, 38, 39, 40, 41, 42, 43, 44, 45] rfl
              refine va_calli (va_runS (As := [.ref (q 52), .int x653, .int x654, .ref (q 52), .int x655, .int x656]) (rest := []) ⟨hx, hb, hml, hown, hts⟩ (m_rhyme_52_52 l dC dI H.size h0 kB kI kZ q g F x653 x654 x655 x656 ⟨hg1z, hg2z, hg3z, hg4z, hg5z, hg6z, hg7z, hg8z, hg9z, hg23z, hg27z, hg30z, hg34z, hg36z, hg39z, hg44z, hg47z, hg48z, hg51z, hg56z, hg59z, hg62z, hg65z, hg66z, hg70z, hF11z, hF12z, hF13z, hF15z, hF19z, hF21z, hF24z, hF25z, hF26z, hF33z, hF38z, hF41z, hF43z, hF45z, hF46z, hF50z, hF53z, hF54z⟩ (show (0 ≤ x653.toInt ∧ x653.toInt + x654.toInt ≤ 201600 ∧ x654.toInt ≤ 24) from by omega) (show (0 ≤ x655.toInt ∧ x655.toInt + x656.toInt ≤ 201600 ∧ x656.toInt ≤ 24) from by omega)) (va_cwS 6 hts gw_X12_rhymeAt_X12_rhyme_331 rfl rfl rfl (by decide +kernel) ⟨Nat.le_of_ble_eq_true rfl, Nat.le_of_ble_eq_true rfl⟩) ⟨fun a U g mk q => by obtain ⟨q0, q1, qP, qK, qD⟩ := q; exact ⟨q0, q1, qP, va_K.moved (u := U) (U := U.calling g mk a) (Vm.Alike.refl U.vm) qK, qD⟩, fun U hU hW => ⟨rfl, by rw [hU], by rw [hU]; exact hP, va_K.moved hW.alike hK, hD.weaken (fun _ _ _ _ => trivial)⟩⟩ rfl rfl hl.1 rfl (lv_room (Nat.le_of_ble_eq_true rfl)) dX12_rhymeAt_106 ⟨Nat.le_of_ble_eq_true rfl, Nat.le_of_ble_eq_true rfl⟩) hS (fun q _ h => hFc q h) hFc (fun r668 u t H1 locs ht hvm hw hB hz1 hk1 hS => ?_)
              obtain ⟨ga669, fa670⟩ := u
              obtain ⟨hP1, hK1, hD1⟩ := hB
              rw [ht] at hP1
              obtain ⟨hP, hD⟩ := va_join (wr := []) (w1 := (mW h0 kB kI kZ q g F)) hP hD [0, 1, 2, 3, 4, 5, 6, 7, 8, 9, 10, 11, 12, 13, 14, 15, 16, 17, 18, 19, 20, 21, 22, 23, 24, 25, 26, 27, 28, 29, 30, 31, 32, 33, 34, 35, 36, 37, 38, 39, 40, 41, 42, 43, 44, 45] [] rfl rfl (by decide) (by decide) hk1 hFc hP1 hD1
              generalize H1 = H at hP hS ⊢
              have hP : va_P (dC, dI) vwCl (mW h0 kB kI kZ q g F) H := hP
              have hD : va_D A (mW h0 kB kI kZ q g F) := hD
              have f671 : (0 ≤ r668.toInt ∧ r668.toInt ≤ 1) := hw
              refine lv_if_eq (tgt := 114) hx hb dX12_rhymeAt_109 (by decide) (fun c672 => ?_) (fun c672 => ?_)
              · have c672 := congrArg Int32.toInt c672
                obtain ⟨x673, ex673⟩ : ∃ y : Int32, y = x640 + 1 := ⟨_, rfl⟩
                have fx673 : x673.toInt = x640.toInt + (1) := by rw [ex673, z_add (by omega) (by omega)]; omega
                refine lv_iinc (v := x673) (lv' := [(5, .int x673), (4, .int x625), (0, .ref h0), (1, .int p0), (2, .int p1), (3, .int p2)]) hx hb dX12_rhymeAt_114 hl (k := 0) rfl (by rw [ex673]; rfl) (by decide) rfl (fun ls hl => ?_)
                clear ex673
                refine lv_goto (tgt := 48) hx hb dX12_rhymeAt_117 (by decide) ?_
                exact ih48 x673 g F H _ ls (show (84 * p1.toInt + 12 * p2.toInt + 12 - x673.toInt).toNat < n48 from by omega) (show (84 * p1.toInt + 12 * p2.toInt ≤ x673.toInt ∧ x673.toInt ≤ 84 * p1.toInt + 12 * p2.toInt + 12) from by omega) hP hD hS (lv_sub hl [0, 1, 2, 3, 4, 5] rfl)
              · have c672 := z_ne c672
                refine lv_iconst (v := 1) hx hb dX12_rhymeAt_112 (by decide +kernel) ?_
                exact K 113 ls 1 (g, F) H _ dX12_rhymeAt_113 (show (0 ≤ (1 : Int32).toInt ∧ (1 : Int32).toInt ≤ 1) from by omega) hP hD hS
        exact lp48 ((84 * p1.toInt + 12 * p2.toInt + 12 - x639.toInt).toNat + 1) x639 g F H _ ls (Nat.lt_succ_self _) (show (84 * p1.toInt + 12 * p2.toInt ≤ x639.toInt ∧ x639.toInt ≤ 84 * p1.toInt + 12 * p2.toInt + 12) from by omega) hP hD hS (lv_sub hl [0, 1, 2, 3, 4, 5] rfl)
  exact lp11 ((84 * p0.toInt + 12 * p2.toInt + 12 - x624.toInt).toNat + 1) x624 g F H _ ls (Nat.lt_succ_self _) (show (84 * p0.toInt + 12 * p2.toInt ≤ x624.toInt ∧ x624.toInt ≤ 84 * p0.toInt + 12 * p2.toInt + 12) from by omega) hP hD hS (lv_sub hl [0, 1, 2, 3, 4] rfl)
set_option maxHeartbeats 4000000 in
set_option maxRecDepth 100000 in
theorem m_rhymeAt (l : Launch) (dC : Nat → ClassId) (dI : Nat → Nat → Nat) (sz : Nat) (h0 : Nat) (kB kI kZ : ClassId) (q : Nat → Nat) (g : Nat → Int32) (F : Nat → Nat → Int32) (p0 : Int32) (p1 : Int32) (p2 : Int32) (hI : MInv g F) (hq0 : (0 ≤ p0.toInt ∧ p0.toInt ≤ 99)) (hq1 : (0 ≤ p1.toInt ∧ p1.toInt ≤ 99)) (hq2 : (0 ≤ p2.toInt ∧ p2.toInt ≤ 6)) : Met l yX12_rhymeAt vmX12_rhymeAt ({ frames := 4, cells := 0, slots := 0, locals := 111 } : Room) (va_Pc [.ref h0, .int p0, .int p1, .int p2] (fun U => U.heap.size = sz ∧ va_P (dC, dI) vwCl (mW h0 kB kI kZ q g F) U.heap ∧ va_K (dC, dI) vwCl (mT kB kI kZ) U ∧ va_D (fun _ => True) (mW h0 kB kI kZ q g F))) (va_Qi (fun (r : Int32) (u : ((Nat → Int32) × (Nat → Nat → Int32))) => ((0 ≤ r.toInt ∧ r.toInt ≤ 1))) (fun u t => va_P (dC, dI) vwCl (mW h0 kB kI kZ q g F) t.heap ∧ va_K (dC, dI) vwCl (mT kB kI kZ) t ∧ va_D (va_A (mW h0 kB kI kZ q g F) sz) (mW h0 kB kI kZ q g F)) (va_A (mW h0 kB kI kZ q g F) sz)) 0 0 (va_A (mW h0 kB kI kZ q g F) sz) := by
  refine Met.ofW (cc := cX12_rhymeAt) (maxL := 6) (ret := (some .boolean)) (by decide) rfl ?_
  intro p e s m args below meth c s₁ B hml hv
  obtain ⟨rfl, hsz, hP, hK, hD0⟩ := hv
  have hx := B.exec
  have hb := B.bytes
  have hr := B.returns
  have hts := atoms_spec (ws := vmX12_rhymeAt) B.pre
  have hown : s.vm.findClass RX12 = some m.cls := findClass_of_methodNamed B.named
  subst hsz
  have hD := hD0.self (sz := s.heap.size)
  generalize hAe : va_A (mW h0 kB kI kZ q g F) s.heap.size = A at hD ⊢
  have hA : ∀ q : Nat, s.heap.size ≤ q → A q := fun q h => by rw [← hAe]; exact Or.inr h
  have hS : va_S A s.heap s.heap [] := va_S.rf
  have hl := lv_entry ([.ref h0, .int p0, .int p1, .int p2]) (n := 6) (Nat.le_of_ble_eq_true rfl)
  rw [lg_entry_eq]
  generalize (lg_sl ([.ref h0, .int p0, .int p1, .int p2]) ++ List.replicate (6 - (lg_sl ([.ref h0, .int p0, .int p1, .int p2])).length) Slot.unset).toArray = ls at hl ⊢
  exact bm_rhymeAt p0 p1 p2 hx hb hml hown hts hA hK hI hq0 hq1 hq2 hP hD hS hl (fun pc ls r u H locs hd hw hP hD hS => W.zret (v := r) hx hb hr (z_nb (by have := hw; omega)) (fun t ht hW => ⟨⟨r, u, rfl, hw, by rw [ht]; exact hP, va_K.moved hW.alike hK, hD⟩, hS.F ht⟩) hS.2.2 hd)
set_option maxHeartbeats 4000000 in
set_option maxRecDepth 100000 in
theorem bm_sameBytes_49_49 {p : Program} {l : Launch} {e : Env} {s : State} {m : MethodId} {args : Array Value} {below : List Frame} {meth : Method} {c : Code} {Q : State → Prop} {A : Nat → Prop} {dC : Nat → ClassId} {dI : Nat → Nat → Nat} {h0 : Nat} {kB kI kZ : ClassId} {q : Nat → Nat} {g : Nat → Int32} {F : Nat → Nat → Int32} {H : Heap} {locs : List Loc} {ls : Array Slot} (p1 : Int32) (p2 : Int32) (p4 : Int32) (p5 : Int32) (hx : p.tables.exec = Jvm.exec) (hb : c.code = cX12_sameBytes) (hml : c.maxLocals = 7) (hown : s.vm.findClass RX12 = some m.cls) (hts : ∀ w ∈ vmX12_sameBytes, w.before args s = true) (hA : ∀ q : Nat, s.heap.size ≤ q → A q) (hK : va_K (dC, dI) vwCl (mT kB kI kZ) s) (hI : MInv g F) (hq0 : (0 ≤ p1.toInt ∧ p1.toInt + p2.toInt ≤ 2400)) (hq1 : (0 ≤ p4.toInt ∧ p4.toInt + p5.toInt ≤ 2400)) (hP : va_P (dC, dI) vwCl (mW h0 kB kI kZ q g F) H) (hD : va_D A (mW h0 kB kI kZ q g F)) (hS : va_S A s.heap H locs) (hl : lv_has ls 7 [(0, .ref (q 49)), (1, .int p1), (2, .int p2), (3, .ref (q 49)), (4, .int p4), (5, .int p5)])
    (K : ∀ (pc : Nat) (ls : Array Slot) (r : Int32) (u : ((Nat → Int32) × (Nat → Nat → Int32))) (H : Heap) (locs : List Loc), decode cX12_sameBytes pc = .ok (.ireturn, 1) → (((0 ≤ r.toInt ∧ r.toInt ≤ 1))) → va_P (dC, dI) vwCl (mW h0 kB kI kZ q g F) H → va_D A (mW h0 kB kI kZ q g F) → va_S A s.heap H locs → W p l e ({ frames := 2, cells := 0, slots := 0, locals := 60 } : Room) s m args below meth c H locs 0 0 Q (F0 m pc ls [.int r])) : W p l e ({ frames := 2, cells := 0, slots := 0, locals := 60 } : Room) s m args below meth c H locs 0 0 Q (F0 m 0 ls []) := by
  obtain ⟨hg1z, hg2z, hg3z, hg4z, hg5z, hg6z, hg7z, hg8z, hg9z, hg23z, hg27z, hg30z, hg34z, hg36z, hg39z, hg44z, hg47z, hg48z, hg51z, hg56z, hg59z, hg62z, hg65z, hg66z, hg70z, hF11z, hF12z, hF13z, hF15z, hF19z, hF21z, hF24z, hF25z, hF26z, hF33z, hF38z, hF41z, hF43z, hF45z, hF46z, hF50z, hF53z, hF54z⟩ := hI
  have zk0 : (0 : Int32).toInt = 0 := by decide +kernel
  have zk1 : (1 : Int32).toInt = 1 := by decide +kernel
  refine lv_iload_n hx hb dX12_sameBytes_0 rfl (lv_at hl 2 rfl) ?_
  refine lv_iload hx hb dX12_sameBytes_1 (lv_at hl 5 rfl) ?_
  refine lv_icmp_eq (tgt := 8) hx hb dX12_sameBytes_3 (by decide) (fun c680 => ?_) (fun c680 => ?_)
  · have c680 := congrArg Int32.toInt c680
    refine lv_iconst (v := 0) hx hb dX12_sameBytes_8 (by decide +kernel) ?_
    refine lv_istore (lv' := [(6, .int 0), (0, .ref (q 49)), (1, .int p1), (2, .int p2), (3, .ref (q 49)), (4, .int p4), (5, .int p5)]) hx hb dX12_sameBytes_9 hl (by decide) rfl (fun ls hl => ?_)
    have lp11 : ∀ (n11 : Nat) (x681 : Int32) (gl682 : Nat → Int32) (fl683 : Nat → Nat → Int32) (H : Heap) (locs : List Loc) (ls : Array Slot), (p2.toInt - x681.toInt).toNat < n11 → 0 ≤ x681.toInt → va_P (dC, dI) vwCl (mW h0 kB kI kZ q g F) H → va_D A (mW h0 kB kI kZ q g F) → va_S A s.heap H locs → lv_has ls 7 [(6, .int x681), (0, .ref (q 49)), (1, .int p1), (2, .int p2), (3, .ref (q 49)), (4, .int p4), (5, .int p5)] → W p l e ({ frames := 2, cells := 0, slots := 0, locals := 60 } : Room) s m args below meth c H locs 0 0 Q (F0 m 11 ls []) := by
      intro n11
      induction n11 with
      | zero => intro x681 gl682 fl683 H locs ls hm; exact absurd hm (Nat.not_lt_zero _)
      | succ n11 ih11 =>
        intro x681 gl682 fl683 H locs ls hm11 f684 hP hD hS hl
        refine lv_iload hx hb dX12_sameBytes_11 (lv_at hl 0 rfl) ?_
        refine lv_iload_n hx hb dX12_sameBytes_13 rfl (lv_at hl 3 rfl) ?_
        refine lv_icmp_ge (tgt := 41) hx hb dX12_sameBytes_14 (by decide) (fun c685 => ?_) (fun c685 => ?_)
        · have c685 := (z_le _ _).mp c685
          refine lv_iconst (v := 1) hx hb dX12_sameBytes_41 (by decide +kernel) ?_
          exact K 42 ls 1 (g, F) H _ dX12_sameBytes_42 (show (0 ≤ (1 : Int32).toInt ∧ (1 : Int32).toInt ≤ 1) from by omega) hP hD hS
        · have c685 := z_nle c685
          refine lv_aload_n hx hb dX12_sameBytes_17 rfl (lv_at hl 1 rfl) ?_
          refine lv_iload_n hx hb dX12_sameBytes_18 rfl (lv_at hl 2 rfl) ?_
          refine lv_iload hx hb dX12_sameBytes_19 (lv_at hl 0 rfl) ?_
          refine lv_iadd hx hb dX12_sameBytes_21 ?_
          refine lv_topi (fun x686 ex686 => ?_)
          have fx686 : x686.toInt = p1.toInt + x681.toInt := by have h := @z_add p1 x681 (by omega) (by omega); rw [← ex686] at h; omega
          clear ex686
          refine va_bald hx hb hK hP 31 0 rfl rfl (z_in (i := x686) (by omega) (by omega)) dX12_sameBytes_22 ?_
          refine lv_topi (fun x687 ex687 => ?_)
          clear ex687
          refine lv_aload_n hx hb dX12_sameBytes_23 rfl (lv_at hl 4 rfl) ?_
          refine lv_iload hx hb dX12_sameBytes_24 (lv_at hl 5 rfl) ?_
          refine lv_iload hx hb dX12_sameBytes_26 (lv_at hl 0 rfl) ?_
          refine lv_iadd hx hb dX12_sameBytes_28 ?_
          refine lv_topi (fun x688 ex688 => ?_)
          have fx688 : x688.toInt = p4.toInt + x681.toInt := by have h := @z_add p4 x681 (by omega) (by omega); rw [← ex688] at h; omega
          clear ex688
          refine va_bald hx hb hK hP 31 0 rfl rfl (z_in (i := x688) (by omega) (by omega)) dX12_sameBytes_29 ?_
          refine lv_topi (fun x689 ex689 => ?_)
          clear ex689
          refine lv_icmp_eq (tgt := 35) hx hb dX12_sameBytes_30 (by decide) (fun c690 => ?_) (fun c690 => ?_)
          · have c690 := congrArg Int32.toInt c690
            obtain ⟨x691, ex691⟩ : ∃ y : Int32, y = x681 + 1 := ⟨_, rfl⟩
            have fx691 : x691.toInt = x681.toInt + (1) := by rw [ex691, z_add (by omega) (by omega)]; omega
            refine lv_iinc (v := x691) (lv' := [(6, .int x691), (0, .ref (q 49)), (1, .int p1), (2, .int p2), (3, .ref (q 49)), (4, .int p4), (5, .int p5)]) hx hb dX12_sameBytes_35 hl (k := 0) rfl (by rw [ex691]; rfl) (by decide) rfl (fun ls hl => ?_)
            clear ex691
            refine lv_goto (tgt := 11) hx hb dX12_sameBytes_38 (by decide) ?_
            exact ih11 x691 g F H _ ls (show (p2.toInt - x691.toInt).toNat < n11 from by omega) (show 0 ≤ x691.toInt from by omega) hP hD hS (lv_sub hl [0, 1, 2, 3, 4, 5, 6] rfl)
          · have c690 := z_ne c690
            refine lv_iconst (v := 0) hx hb dX12_sameBytes_33 (by decide +kernel) ?_
            exact K 34 ls 0 (g, F) H _ dX12_sameBytes_34 (show (0 ≤ (0 : Int32).toInt ∧ (0 : Int32).toInt ≤ 1) from by omega) hP hD hS
    exact lp11 ((p2.toInt - (0 : Int32).toInt).toNat + 1) 0 g F H _ ls (Nat.lt_succ_self _) (show 0 ≤ (0 : Int32).toInt from by omega) hP hD hS (lv_sub hl [0, 1, 2, 3, 4, 5, 6] rfl)
  · have c680 := z_ne c680
    refine lv_iconst (v := 0) hx hb dX12_sameBytes_6 (by decide +kernel) ?_
    exact K 7 ls 0 (g, F) H _ dX12_sameBytes_7 (show (0 ≤ (0 : Int32).toInt ∧ (0 : Int32).toInt ≤ 1) from by omega) hP hD hS
set_option maxHeartbeats 4000000 in
set_option maxRecDepth 100000 in
theorem m_sameBytes_49_49 (l : Launch) (dC : Nat → ClassId) (dI : Nat → Nat → Nat) (sz : Nat) (h0 : Nat) (kB kI kZ : ClassId) (q : Nat → Nat) (g : Nat → Int32) (F : Nat → Nat → Int32) (p1 : Int32) (p2 : Int32) (p4 : Int32) (p5 : Int32) (hI : MInv g F) (hq0 : (0 ≤ p1.toInt ∧ p1.toInt + p2.toInt ≤ 2400)) (hq1 : (0 ≤ p4.toInt ∧ p4.toInt + p5.toInt ≤ 2400)) : Met l yX12_sameBytes vmX12_sameBytes ({ frames := 2, cells := 0, slots := 0, locals := 60 } : Room) (va_Pc [.ref (q 49), .int p1, .int p2, .ref (q 49), .int p4, .int p5] (fun U => U.heap.size = sz ∧ va_P (dC, dI) vwCl (mW h0 kB kI kZ q g F) U.heap ∧ va_K (dC, dI) vwCl (mT kB kI kZ) U ∧ va_D (fun _ => True) (mW h0 kB kI kZ q g F))) (va_Qi (fun (r : Int32) (u : ((Nat → Int32) × (Nat → Nat → Int32))) => ((0 ≤ r.toInt ∧ r.toInt ≤ 1))) (fun u t => va_P (dC, dI) vwCl (mW h0 kB kI kZ q g F) t.heap ∧ va_K (dC, dI) vwCl (mT kB kI kZ) t ∧ va_D (va_A (mW h0 kB kI kZ q g F) sz) (mW h0 kB kI kZ q g F)) (va_A (mW h0 kB kI kZ q g F) sz)) 0 0 (va_A (mW h0 kB kI kZ q g F) sz) := by
  refine Met.ofW (cc := cX12_sameBytes) (maxL := 7) (ret := (some .boolean)) (by decide) rfl ?_
  intro p e s m args below meth c s₁ B hml hv
  obtain ⟨rfl, hsz, hP, hK, hD0⟩ := hv
  have hx := B.exec
  have hb := B.bytes
  have hr := B.returns
  have hts := atoms_spec (ws := vmX12_sameBytes) B.pre
  have hown : s.vm.findClass RX12 = some m.cls := findClass_of_methodNamed B.named
  subst hsz
  have hD := hD0.self (sz := s.heap.size)
  generalize hAe : va_A (mW h0 kB kI kZ q g F) s.heap.size = A at hD ⊢
  have hA : ∀ q : Nat, s.heap.size ≤ q → A q := fun q h => by rw [← hAe]; exact Or.inr h
  have hS : va_S A s.heap s.heap [] := va_S.rf
  have hl := lv_entry ([.ref (q 49), .int p1, .int p2, .ref (q 49), .int p4, .int p5]) (n := 7) (Nat.le_of_ble_eq_true rfl)
  rw [lg_entry_eq]
  generalize (lg_sl ([.ref (q 49), .int p1, .int p2, .ref (q 49), .int p4, .int p5]) ++ List.replicate (7 - (lg_sl ([.ref (q 49), .int p1, .int p2, .ref (q 49), .int p4, .int p5])).length) Slot.unset).toArray = ls at hl ⊢
  exact bm_sameBytes_49_49 p1 p2 p4 p5 hx hb hml hown hts hA hK hI hq0 hq1 hP hD hS hl (fun pc ls r u H locs hd hw hP hD hS => W.zret (v := r) hx hb hr (z_nb (by have := hw; omega)) (fun t ht hW => ⟨⟨r, u, rfl, hw, by rw [ht]; exact hP, va_K.moved hW.alike hK, hD⟩, hS.F ht⟩) hS.2.2 hd)
set_option maxHeartbeats 4000000 in
set_option maxRecDepth 100000 in
theorem bm_rhyme_49_49 {p : Program} {l : Launch} {e : Env} {s : State} {m : MethodId} {args : Array Value} {below : List Frame} {meth : Method} {c : Code} {Q : State → Prop} {A : Nat → Prop} {dC : Nat → ClassId} {dI : Nat → Nat → Nat} {h0 : Nat} {kB kI kZ : ClassId} {q : Nat → Nat} {g : Nat → Int32} {F : Nat → Nat → Int32} {H : Heap} {locs : List Loc} {ls : Array Slot} (p1 : Int32) (p2 : Int32) (p4 : Int32) (p5 : Int32) (hx : p.tables.exec = Jvm.exec) (hb : c.code = cX12_rhyme) (hml : c.maxLocals = 6) (hown : s.vm.findClass RX12 = some m.cls) (hts : ∀ w ∈ vmX12_rhyme, w.before args s = true) (hA : ∀ q : Nat, s.heap.size ≤ q → A q) (hK : va_K (dC, dI) vwCl (mT kB kI kZ) s) (hI : MInv g F) (hq0 : (0 ≤ p1.toInt ∧ p1.toInt + p2.toInt ≤ 2400 ∧ p2.toInt ≤ 24)) (hq1 : (0 ≤ p4.toInt ∧ p4.toInt + p5.toInt ≤ 2400 ∧ p5.toInt ≤ 24)) (hP : va_P (dC, dI) vwCl (mW h0 kB kI kZ q g F) H) (hD : va_D A (mW h0 kB kI kZ q g F)) (hS : va_S A s.heap H locs) (hl : lv_has ls 6 [(0, .ref (q 49)), (1, .int p1), (2, .int p2), (3, .ref (q 49)), (4, .int p4), (5, .int p5)])
    (K : ∀ (pc : Nat) (ls : Array Slot) (r : Int32) (u : ((Nat → Int32) × (Nat → Nat → Int32))) (H : Heap) (locs : List Loc), decode cX12_rhyme pc = .ok (.ireturn, 1) → (((0 ≤ r.toInt ∧ r.toInt ≤ 1))) → va_P (dC, dI) vwCl (mW h0 kB kI kZ q g F) H → va_D A (mW h0 kB kI kZ q g F) → va_S A s.heap H locs → W p l e ({ frames := 3, cells := 0, slots := 0, locals := 86 } : Room) s m args below meth c H locs 0 0 Q (F0 m pc ls [.int r])) : W p l e ({ frames := 3, cells := 0, slots := 0, locals := 86 } : Room) s m args below meth c H locs 0 0 Q (F0 m 0 ls []) := by
  obtain ⟨hg1z, hg2z, hg3z, hg4z, hg5z, hg6z, hg7z, hg8z, hg9z, hg23z, hg27z, hg30z, hg34z, hg36z, hg39z, hg44z, hg47z, hg48z, hg51z, hg56z, hg59z, hg62z, hg65z, hg66z, hg70z, hF11z, hF12z, hF13z, hF15z, hF19z, hF21z, hF24z, hF25z, hF26z, hF33z, hF38z, hF41z, hF43z, hF45z, hF46z, hF50z, hF53z, hF54z⟩ := hI
  have zk0 : (0 : Int32).toInt = 0 := by decide +kernel
  have zk1 : (1 : Int32).toInt = 1 := by decide +kernel
  have zk2 : (2 : Int32).toInt = 2 := by decide +kernel
  have zk3 : (3 : Int32).toInt = 3 := by decide +kernel
  refine lv_iload_n hx hb dX12_rhyme_0 rfl (lv_at hl 2 rfl) ?_
  refine lv_iconst (v := 2) hx hb dX12_rhyme_1 (by decide +kernel) ?_
  refine lv_icmp_le (tgt := 37) hx hb dX12_rhyme_2 (by decide) (fun c674 => ?_) (fun c674 => ?_)
  · have c674 := (z_le _ _).mp c674
    refine lv_iconst (v := 0) hx hb dX12_rhyme_37 (by decide +kernel) ?_
    exact K 38 ls 0 (g, F) H _ dX12_rhyme_38 (show (0 ≤ (0 : Int32).toInt ∧ (0 : Int32).toInt ≤ 1) from by omega) hP hD hS
  · have c674 := z_nle c674
    refine lv_iload hx hb dX12_rhyme_5 (lv_at hl 5 rfl) ?_
    refine lv_iconst (v := 2) hx hb dX12_rhyme_7 (by decide +kernel) ?_
    refine lv_icmp_le (tgt := 37) hx hb dX12_rhyme_8 (by decide) (fun c675 => ?_) (fun c675 => ?_)
    · have c675 := (z_le _ _).mp c675
      refine lv_iconst (v := 0) hx hb dX12_rhyme_37 (by decide +kernel) ?_
      exact K 38 ls 0 (g, F) H _ dX12_rhyme_38 (show (0 ≤ (0 : Int32).toInt ∧ (0 : Int32).toInt ≤ 1) from by omega) hP hD hS
    · have c675 := z_nle c675
      refine lv_aload_n hx hb dX12_rhyme_11 rfl (lv_at hl 0 rfl) ?_
      refine lv_iload_n hx hb dX12_rhyme_12 rfl (lv_at hl 1 rfl) ?_
      refine lv_iload_n hx hb dX12_rhyme_13 rfl (lv_at hl 2 rfl) ?_
      refine lv_iadd hx hb dX12_rhyme_14 ?_
      refine lv_topi (fun x676 ex676 => ?_)
      have fx676 : x676.toInt = p1.toInt + p2.toInt := by have h := @z_add p1 p2 (by omega) (by omega); rw [← ex676] at h; omega
      clear ex676
      refine lv_iconst (v := 3) hx hb dX12_rhyme_15 (by decide +kernel) ?_
      refine lv_isub hx hb dX12_rhyme_16 ?_
      refine lv_topi (fun x677 ex677 => ?_)
      have fx677 : x677.toInt = x676.toInt - 3 := by have h := @z_sub x676 (3 : Int32) (by omega) (by omega); rw [← ex677] at h; omega
      clear ex677
      refine lv_iconst (v := 3) hx hb dX12_rhyme_17 (by decide +kernel) ?_
      refine lv_aload_n hx hb dX12_rhyme_18 rfl (lv_at hl 3 rfl) ?_
      refine lv_iload hx hb dX12_rhyme_19 (lv_at hl 4 rfl) ?_
      refine lv_iload hx hb dX12_rhyme_21 (lv_at hl 5 rfl) ?_
      refine lv_iadd hx hb dX12_rhyme_23 ?_
      refine lv_topi (fun x678 ex678 => ?_)
      have fx678 : x678.toInt = p4.toInt + p5.toInt := by have h := @z_add p4 p5 (by omega) (by omega); rw [← ex678] at h; omega
      clear ex678
      refine lv_iconst (v := 3) hx hb dX12_rhyme_24 (by decide +kernel) ?_
      refine lv_isub hx hb dX12_rhyme_25 ?_
      refine lv_topi (fun x679 ex679 => ?_)
      have fx679 : x679.toInt = x678.toInt - 3 := by have h := @z_sub x678 (3 : Int32) (by omega) (by omega); rw [← ex679] at h; omega
      clear ex679
      refine lv_iconst (v := 3) hx hb dX12_rhyme_26 (by decide +kernel) ?_
      have hFc := va_free (wc := (mW h0 kB kI kZ q g F)) hD hS hA [0, 1, 2, 3, 4, 5, 6, 7, 8, 9, 10, 11, 12, 13, 14, 15, 16, 17, 18, 19, 20, 21, 22, 23, 24, 25, 26, 27, 28, 29, 30, 31, 32, 33, 34, 35, 36, 37, 38, 39, 40, 41, 42, 43, 44, 45] rfl
      refine va_calli (va_runS (As := [.ref (q 49), .int x677, .int 3, .ref (q 49), .int x679, .int 3]) (rest := []) ⟨hx, hb, hml, hown, hts⟩ (m_sameBytes_49_49 l dC dI H.size h0 kB kI kZ q g F x677 3 x679 3 ⟨hg1z, hg2z, hg3z, hg4z, hg5z, hg6z, hg7z, hg8z, hg9z, hg23z, hg27z, hg30z, hg34z, hg36z, hg39z, hg44z, hg47z, hg48z, hg51z, hg56z, hg59z, hg62z, hg65z, hg66z, hg70z, hF11z, hF12z, hF13z, hF15z, hF19z, hF21z, hF24z, hF25z, hF26z, hF33z, hF38z, hF41z, hF43z, hF45z, hF46z, hF50z, hF53z, hF54z⟩ (show (0 ≤ x677.toInt ∧ x677.toInt + (3 : Int32).toInt ≤ 2400) from by omega) (show (0 ≤ x679.toInt ∧ x679.toInt + (3 : Int32).toInt ≤ 2400) from by omega)) (va_cwS 6 hts gw_X12_rhyme_X12_sameBytes_273 rfl rfl rfl (by decide +kernel) ⟨Nat.le_of_ble_eq_true rfl, Nat.le_of_ble_eq_true rfl⟩) ⟨fun a U g mk q => by obtain ⟨q0, q1, qP, qK, qD⟩ := q; exact ⟨q0, q1, qP, va_K.moved (u := U) (U := U.calling g mk a) (Vm.Alike.refl U.vm) qK, qD⟩, fun U hU hW => ⟨rfl, by rw [hU], by rw [hU]; exact hP, va_K.moved hW.alike hK, hD.weaken (fun _ _ _ _ => trivial)⟩⟩ rfl rfl hl.1 rfl (lv_room (Nat.le_of_ble_eq_true rfl)) dX12_rhyme_27 ⟨Nat.le_of_ble_eq_true rfl, Nat.le_of_ble_eq_true rfl⟩) hS (fun q _ h => hFc q h) hFc (fun r692 u t H1 locs ht hvm hw hB hz1 hk1 hS => ?_)
      obtain ⟨ga693, fa694⟩ := u
      obtain ⟨hP1, hK1, hD1⟩ := hB
      rw [ht] at hP1
      obtain ⟨hP, hD⟩ := va_join (wr := []) (w1 := (mW h0 kB kI kZ q g F)) hP hD [0, 1, 2, 3, 4, 5, 6, 7, 8, 9, 10, 11, 12, 13, 14, 15, 16, 17, 18, 19, 20, 21, 22, 23, 24, 25, 26, 27, 28, 29, 30, 31, 32, 33, 34, 35, 36, 37, 38, 39, 40, 41, 42, 43, 44, 45] [] rfl rfl (by decide) (by decide) hk1 hFc hP1 hD1
      generalize H1 = H at hP hS ⊢
      have hP : va_P (dC, dI) vwCl (mW h0 kB kI kZ q g F) H := hP
      have hD : va_D A (mW h0 kB kI kZ q g F) := hD
      have f695 : (0 ≤ r692.toInt ∧ r692.toInt ≤ 1) := hw
      refine lv_if_eq (tgt := 37) hx hb dX12_rhyme_30 (by decide) (fun c696 => ?_) (fun c696 => ?_)
      · have c696 := congrArg Int32.toInt c696
        refine lv_iconst (v := 0) hx hb dX12_rhyme_37 (by decide +kernel) ?_
        exact K 38 ls 0 (g, F) H _ dX12_rhyme_38 (show (0 ≤ (0 : Int32).toInt ∧ (0 : Int32).toInt ≤ 1) from by omega) hP hD hS
      · have c696 := z_ne c696
        refine lv_iconst (v := 1) hx hb dX12_rhyme_33 (by decide +kernel) ?_
        refine lv_goto (tgt := 38) hx hb dX12_rhyme_34 (by decide) ?_
        exact K 38 ls 1 (g, F) H _ dX12_rhyme_38 (show (0 ≤ (1 : Int32).toInt ∧ (1 : Int32).toInt ≤ 1) from by omega) hP hD hS
set_option maxHeartbeats 4000000 in
set_option maxRecDepth 100000 in
theorem m_rhyme_49_49 (l : Launch) (dC : Nat → ClassId) (dI : Nat → Nat → Nat) (sz : Nat) (h0 : Nat) (kB kI kZ : ClassId) (q : Nat → Nat) (g : Nat → Int32) (F : Nat → Nat → Int32) (p1 : Int32) (p2 : Int32) (p4 : Int32) (p5 : Int32) (hI : MInv g F) (hq0 : (0 ≤ p1.toInt ∧ p1.toInt + p2.toInt ≤ 2400 ∧ p2.toInt ≤ 24)) (hq1 : (0 ≤ p4.toInt ∧ p4.toInt + p5.toInt ≤ 2400 ∧ p5.toInt ≤ 24)) : Met l yX12_rhyme vmX12_rhyme ({ frames := 3, cells := 0, slots := 0, locals := 86 } : Room) (va_Pc [.ref (q 49), .int p1, .int p2, .ref (q 49), .int p4, .int p5] (fun U => U.heap.size = sz ∧ va_P (dC, dI) vwCl (mW h0 kB kI kZ q g F) U.heap ∧ va_K (dC, dI) vwCl (mT kB kI kZ) U ∧ va_D (fun _ => True) (mW h0 kB kI kZ q g F))) (va_Qi (fun (r : Int32) (u : ((Nat → Int32) × (Nat → Nat → Int32))) => ((0 ≤ r.toInt ∧ r.toInt ≤ 1))) (fun u t => va_P (dC, dI) vwCl (mW h0 kB kI kZ q g F) t.heap ∧ va_K (dC, dI) vwCl (mT kB kI kZ) t ∧ va_D (va_A (mW h0 kB kI kZ q g F) sz) (mW h0 kB kI kZ q g F)) (va_A (mW h0 kB kI kZ q g F) sz)) 0 0 (va_A (mW h0 kB kI kZ q g F) sz) := by
  refine Met.ofW (cc := cX12_rhyme) (maxL := 6) (ret := (some .boolean)) (by decide) rfl ?_
  intro p e s m args below meth c s₁ B hml hv
  obtain ⟨rfl, hsz, hP, hK, hD0⟩ := hv
  have hx := B.exec
  have hb := B.bytes
  have hr := B.returns
  have hts := atoms_spec (ws := vmX12_rhyme) B.pre
  have hown : s.vm.findClass RX12 = some m.cls := findClass_of_methodNamed B.named
  subst hsz
  have hD := hD0.self (sz := s.heap.size)
  generalize hAe : va_A (mW h0 kB kI kZ q g F) s.heap.size = A at hD ⊢
  have hA : ∀ q : Nat, s.heap.size ≤ q → A q := fun q h => by rw [← hAe]; exact Or.inr h
  have hS : va_S A s.heap s.heap [] := va_S.rf
  have hl := lv_entry ([.ref (q 49), .int p1, .int p2, .ref (q 49), .int p4, .int p5]) (n := 6) (Nat.le_of_ble_eq_true rfl)
  rw [lg_entry_eq]
  generalize (lg_sl ([.ref (q 49), .int p1, .int p2, .ref (q 49), .int p4, .int p5]) ++ List.replicate (6 - (lg_sl ([.ref (q 49), .int p1, .int p2, .ref (q 49), .int p4, .int p5])).length) Slot.unset).toArray = ls at hl ⊢
  exact bm_rhyme_49_49 p1 p2 p4 p5 hx hb hml hown hts hA hK hI hq0 hq1 hP hD hS hl (fun pc ls r u H locs hd hw hP hD hS => W.zret (v := r) hx hb hr (z_nb (by have := hw; omega)) (fun t ht hW => ⟨⟨r, u, rfl, hw, by rw [ht]; exact hP, va_K.moved hW.alike hK, hD⟩, hS.F ht⟩) hS.2.2 hd)
set_option maxHeartbeats 4000000 in
set_option maxRecDepth 100000 in
theorem bm_sameBytes_20_22 {p : Program} {l : Launch} {e : Env} {s : State} {m : MethodId} {args : Array Value} {below : List Frame} {meth : Method} {c : Code} {Q : State → Prop} {A : Nat → Prop} {dC : Nat → ClassId} {dI : Nat → Nat → Nat} {h0 : Nat} {kB kI kZ : ClassId} {q : Nat → Nat} {g : Nat → Int32} {F : Nat → Nat → Int32} {H : Heap} {locs : List Loc} {ls : Array Slot} (p1 : Int32) (p2 : Int32) (p4 : Int32) (p5 : Int32) (hx : p.tables.exec = Jvm.exec) (hb : c.code = cX12_sameBytes) (hml : c.maxLocals = 7) (hown : s.vm.findClass RX12 = some m.cls) (hts : ∀ w ∈ vmX12_sameBytes, w.before args s = true) (hA : ∀ q : Nat, s.heap.size ≤ q → A q) (hK : va_K (dC, dI) vwCl (mT kB kI kZ) s) (hI : MInv g F) (hq0 : (0 ≤ p1.toInt ∧ p1.toInt + p2.toInt ≤ 8960)) (hq1 : (0 ≤ p4.toInt ∧ p4.toInt + p5.toInt ≤ 24)) (hP : va_P (dC, dI) vwCl (mW h0 kB kI kZ q g F) H) (hD : va_D A (mW h0 kB kI kZ q g F)) (hS : va_S A s.heap H locs) (hl : lv_has ls 7 [(0, .ref (q 20)), (1, .int p1), (2, .int p2), (3, .ref (q 22)), (4, .int p4), (5, .int p5)])
    (K : ∀ (pc : Nat) (ls : Array Slot) (r : Int32) (u : ((Nat → Int32) × (Nat → Nat → Int32))) (H : Heap) (locs : List Loc), decode cX12_sameBytes pc = .ok (.ireturn, 1) → (((0 ≤ r.toInt ∧ r.toInt ≤ 1))) → va_P (dC, dI) vwCl (mW h0 kB kI kZ q g F) H → va_D A (mW h0 kB kI kZ q g F) → va_S A s.heap H locs → W p l e ({ frames := 2, cells := 0, slots := 0, locals := 60 } : Room) s m args below meth c H locs 0 0 Q (F0 m pc ls [.int r])) : W p l e ({ frames := 2, cells := 0, slots := 0, locals := 60 } : Room) s m args below meth c H locs 0 0 Q (F0 m 0 ls []) := by
  obtain ⟨hg1z, hg2z, hg3z, hg4z, hg5z, hg6z, hg7z, hg8z, hg9z, hg23z, hg27z, hg30z, hg34z, hg36z, hg39z, hg44z, hg47z, hg48z, hg51z, hg56z, hg59z, hg62z, hg65z, hg66z, hg70z, hF11z, hF12z, hF13z, hF15z, hF19z, hF21z, hF24z, hF25z, hF26z, hF33z, hF38z, hF41z, hF43z, hF45z, hF46z, hF50z, hF53z, hF54z⟩ := hI
  have zk0 : (0 : Int32).toInt = 0 := by decide +kernel
  have zk1 : (1 : Int32).toInt = 1 := by decide +kernel
  refine lv_iload_n hx hb dX12_sameBytes_0 rfl (lv_at hl 2 rfl) ?_
  refine lv_iload hx hb dX12_sameBytes_1 (lv_at hl 5 rfl) ?_
  refine lv_icmp_eq (tgt := 8) hx hb dX12_sameBytes_3 (by decide) (fun c709 => ?_) (fun c709 => ?_)
  · have c709 := congrArg Int32.toInt c709
    refine lv_iconst (v := 0) hx hb dX12_sameBytes_8 (by decide +kernel) ?_
    refine lv_istore (lv' := [(6, .int 0), (0, .ref (q 20)), (1, .int p1), (2, .int p2), (3, .ref (q 22)), (4, .int p4), (5, .int p5)]) hx hb dX12_sameBytes_9 hl (by decide) rfl (fun ls hl => ?_)
    have lp11 : ∀ (n11 : Nat) (x710 : Int32) (gl711 : Nat → Int32) (fl712 : Nat → Nat → Int32) (H : Heap) (locs : List Loc) (ls : Array Slot), (p2.toInt - x710.toInt).toNat < n11 → 0 ≤ x710.toInt → va_P (dC, dI) vwCl (mW h0 kB kI kZ q g F) H → va_D A (mW h0 kB kI kZ q g F) → va_S A s.heap H locs → lv_has ls 7 [(6, .int x710), (0, .ref (q 20)), (1, .int p1), (2, .int p2), (3, .ref (q 22)), (4, .int p4), (5, .int p5)] → W p l e ({ frames := 2, cells := 0, slots := 0, locals := 60 } : Room) s m args below meth c H locs 0 0 Q (F0 m 11 ls []) := by
      intro n11
      induction n11 with
      | zero => intro x710 gl711 fl712 H locs ls hm; exact absurd hm (Nat.not_lt_zero _)
      | succ n11 ih11 =>
        intro x710 gl711 fl712 H locs ls hm11 f713 hP hD hS hl
        refine lv_iload hx hb dX12_sameBytes_11 (lv_at hl 0 rfl) ?_
        refine lv_iload_n hx hb dX12_sameBytes_13 rfl (lv_at hl 3 rfl) ?_
        refine lv_icmp_ge (tgt := 41) hx hb dX12_sameBytes_14 (by decide) (fun c714 => ?_) (fun c714 => ?_)
        · have c714 := (z_le _ _).mp c714
          refine lv_iconst (v := 1) hx hb dX12_sameBytes_41 (by decide +kernel) ?_
          exact K 42 ls 1 (g, F) H _ dX12_sameBytes_42 (show (0 ≤ (1 : Int32).toInt ∧ (1 : Int32).toInt ≤ 1) from by omega) hP hD hS
        · have c714 := z_nle c714
          refine lv_aload_n hx hb dX12_sameBytes_17 rfl (lv_at hl 1 rfl) ?_
          refine lv_iload_n hx hb dX12_sameBytes_18 rfl (lv_at hl 2 rfl) ?_
          refine lv_iload hx hb dX12_sameBytes_19 (lv_at hl 0 rfl) ?_
          refine lv_iadd hx hb dX12_sameBytes_21 ?_
          refine lv_topi (fun x715 ex715 => ?_)
          have fx715 : x715.toInt = p1.toInt + x710.toInt := by have h := @z_add p1 x710 (by omega) (by omega); rw [← ex715] at h; omega
          clear ex715
          refine va_bald hx hb hK hP 12 0 rfl rfl (z_in (i := x715) (by omega) (by omega)) dX12_sameBytes_22 ?_
          refine lv_topi (fun x716 ex716 => ?_)
          clear ex716
          refine lv_aload_n hx hb dX12_sameBytes_23 rfl (lv_at hl 4 rfl) ?_
          refine lv_iload hx hb dX12_sameBytes_24 (lv_at hl 5 rfl) ?_
          refine lv_iload hx hb dX12_sameBytes_26 (lv_at hl 0 rfl) ?_
          refine lv_iadd hx hb dX12_sameBytes_28 ?_
          refine lv_topi (fun x717 ex717 => ?_)
          have fx717 : x717.toInt = p4.toInt + x710.toInt := by have h := @z_add p4 x710 (by omega) (by omega); rw [← ex717] at h; omega
          clear ex717
          refine va_bald hx hb hK hP 14 0 rfl rfl (z_in (i := x717) (by omega) (by omega)) dX12_sameBytes_29 ?_
          refine lv_topi (fun x718 ex718 => ?_)
          clear ex718
          refine lv_icmp_eq (tgt := 35) hx hb dX12_sameBytes_30 (by decide) (fun c719 => ?_) (fun c719 => ?_)
          · have c719 := congrArg Int32.toInt c719
            obtain ⟨x720, ex720⟩ : ∃ y : Int32, y = x710 + 1 := ⟨_, rfl⟩
            have fx720 : x720.toInt = x710.toInt + (1) := by rw [ex720, z_add (by omega) (by omega)]; omega
            refine lv_iinc (v := x720) (lv' := [(6, .int x720), (0, .ref (q 20)), (1, .int p1), (2, .int p2), (3, .ref (q 22)), (4, .int p4), (5, .int p5)]) hx hb dX12_sameBytes_35 hl (k := 0) rfl (by rw [ex720]; rfl) (by decide) rfl (fun ls hl => ?_)
            clear ex720
            refine lv_goto (tgt := 11) hx hb dX12_sameBytes_38 (by decide) ?_
            exact ih11 x720 g F H _ ls (show (p2.toInt - x720.toInt).toNat < n11 from by omega) (show 0 ≤ x720.toInt from by omega) hP hD hS (lv_sub hl [0, 1, 2, 3, 4, 5, 6] rfl)
          · have c719 := z_ne c719
            refine lv_iconst (v := 0) hx hb dX12_sameBytes_33 (by decide +kernel) ?_
            exact K 34 ls 0 (g, F) H _ dX12_sameBytes_34 (show (0 ≤ (0 : Int32).toInt ∧ (0 : Int32).toInt ≤ 1) from by omega) hP hD hS
    exact lp11 ((p2.toInt - (0 : Int32).toInt).toNat + 1) 0 g F H _ ls (Nat.lt_succ_self _) (show 0 ≤ (0 : Int32).toInt from by omega) hP hD hS (lv_sub hl [0, 1, 2, 3, 4, 5, 6] rfl)
  · have c709 := z_ne c709
    refine lv_iconst (v := 0) hx hb dX12_sameBytes_6 (by decide +kernel) ?_
    exact K 7 ls 0 (g, F) H _ dX12_sameBytes_7 (show (0 ≤ (0 : Int32).toInt ∧ (0 : Int32).toInt ≤ 1) from by omega) hP hD hS
set_option maxHeartbeats 4000000 in
set_option maxRecDepth 100000 in
theorem m_sameBytes_20_22 (l : Launch) (dC : Nat → ClassId) (dI : Nat → Nat → Nat) (sz : Nat) (h0 : Nat) (kB kI kZ : ClassId) (q : Nat → Nat) (g : Nat → Int32) (F : Nat → Nat → Int32) (p1 : Int32) (p2 : Int32) (p4 : Int32) (p5 : Int32) (hI : MInv g F) (hq0 : (0 ≤ p1.toInt ∧ p1.toInt + p2.toInt ≤ 8960)) (hq1 : (0 ≤ p4.toInt ∧ p4.toInt + p5.toInt ≤ 24)) : Met l yX12_sameBytes vmX12_sameBytes ({ frames := 2, cells := 0, slots := 0, locals := 60 } : Room) (va_Pc [.ref (q 20), .int p1, .int p2, .ref (q 22), .int p4, .int p5] (fun U => U.heap.size = sz ∧ va_P (dC, dI) vwCl (mW h0 kB kI kZ q g F) U.heap ∧ va_K (dC, dI) vwCl (mT kB kI kZ) U ∧ va_D (fun _ => True) (mW h0 kB kI kZ q g F))) (va_Qi (fun (r : Int32) (u : ((Nat → Int32) × (Nat → Nat → Int32))) => ((0 ≤ r.toInt ∧ r.toInt ≤ 1))) (fun u t => va_P (dC, dI) vwCl (mW h0 kB kI kZ q g F) t.heap ∧ va_K (dC, dI) vwCl (mT kB kI kZ) t ∧ va_D (va_A (mW h0 kB kI kZ q g F) sz) (mW h0 kB kI kZ q g F)) (va_A (mW h0 kB kI kZ q g F) sz)) 0 0 (va_A (mW h0 kB kI kZ q g F) sz) := by
  refine Met.ofW (cc := cX12_sameBytes) (maxL := 7) (ret := (some .boolean)) (by decide) rfl ?_
  intro p e s m args below meth c s₁ B hml hv
  obtain ⟨rfl, hsz, hP, hK, hD0⟩ := hv
  have hx := B.exec
  have hb := B.bytes
  have hr := B.returns
  have hts := atoms_spec (ws := vmX12_sameBytes) B.pre
  have hown : s.vm.findClass RX12 = some m.cls := findClass_of_methodNamed B.named
  subst hsz
  have hD := hD0.self (sz := s.heap.size)
  generalize hAe : va_A (mW h0 kB kI kZ q g F) s.heap.size = A at hD ⊢
  have hA : ∀ q : Nat, s.heap.size ≤ q → A q := fun q h => by rw [← hAe]; exact Or.inr h
  have hS : va_S A s.heap s.heap [] := va_S.rf
  have hl := lv_entry ([.ref (q 20), .int p1, .int p2, .ref (q 22), .int p4, .int p5]) (n := 7) (Nat.le_of_ble_eq_true rfl)
  rw [lg_entry_eq]
  generalize (lg_sl ([.ref (q 20), .int p1, .int p2, .ref (q 22), .int p4, .int p5]) ++ List.replicate (7 - (lg_sl ([.ref (q 20), .int p1, .int p2, .ref (q 22), .int p4, .int p5])).length) Slot.unset).toArray = ls at hl ⊢
  exact bm_sameBytes_20_22 p1 p2 p4 p5 hx hb hml hown hts hA hK hI hq0 hq1 hP hD hS hl (fun pc ls r u H locs hd hw hP hD hS => W.zret (v := r) hx hb hr (z_nb (by have := hw; omega)) (fun t ht hW => ⟨⟨r, u, rfl, hw, by rw [ht]; exact hP, va_K.moved hW.alike hK, hD⟩, hS.F ht⟩) hS.2.2 hd)
set_option maxHeartbeats 4000000 in
set_option maxRecDepth 100000 in
theorem bm_listedAs {p : Program} {l : Launch} {e : Env} {s : State} {m : MethodId} {args : Array Value} {below : List Frame} {meth : Method} {c : Code} {Q : State → Prop} {A : Nat → Prop} {dC : Nat → ClassId} {dI : Nat → Nat → Nat} {h0 : Nat} {kB kI kZ : ClassId} {q : Nat → Nat} {g : Nat → Int32} {F : Nat → Nat → Int32} {H : Heap} {locs : List Loc} {ls : Array Slot} (p0 : Int32) (hx : p.tables.exec = Jvm.exec) (hb : c.code = cX12_listedAs) (hml : c.maxLocals = 3) (hown : s.vm.findClass RX12 = some m.cls) (hts : ∀ w ∈ vmX12_listedAs, w.before args s = true) (hA : ∀ q : Nat, s.heap.size ≤ q → A q) (hK : va_K (dC, dI) vwCl (mT kB kI kZ) s) (hI : MInv g F) (hq0 : (0 ≤ p0.toInt ∧ p0.toInt ≤ 6)) (hP : va_P (dC, dI) vwCl (mW h0 kB kI kZ q g F) H) (hD : va_D A (mW h0 kB kI kZ q g F)) (hS : va_S A s.heap H locs) (hl : lv_has ls 3 [(0, .ref h0), (1, .int p0)])
    (K : ∀ (pc : Nat) (ls : Array Slot) (r : Int32) (u : ((Nat → Int32) × (Nat → Nat → Int32))) (H : Heap) (locs : List Loc), decode cX12_listedAs pc = .ok (.ireturn, 1) → (((r.toInt = -1 ∨ (40 * p0.toInt ≤ r.toInt ∧ r.toInt < 40 * p0.toInt + 40)))) → va_P (dC, dI) vwCl (mW h0 kB kI kZ q g F) H → va_D A (mW h0 kB kI kZ q g F) → va_S A s.heap H locs → W p l e ({ frames := 3, cells := 0, slots := 0, locals := 86 } : Room) s m args below meth c H locs 0 0 Q (F0 m pc ls [.int r])) : W p l e ({ frames := 3, cells := 0, slots := 0, locals := 86 } : Room) s m args below meth c H locs 0 0 Q (F0 m 0 ls []) := by
  obtain ⟨hg1z, hg2z, hg3z, hg4z, hg5z, hg6z, hg7z, hg8z, hg9z, hg23z, hg27z, hg30z, hg34z, hg36z, hg39z, hg44z, hg47z, hg48z, hg51z, hg56z, hg59z, hg62z, hg65z, hg66z, hg70z, hF11z, hF12z, hF13z, hF15z, hF19z, hF21z, hF24z, hF25z, hF26z, hF33z, hF38z, hF41z, hF43z, hF45z, hF46z, hF50z, hF53z, hF54z⟩ := hI
  have zkm1 : (-1 : Int32).toInt = -1 := by decide +kernel
  have zk0 : (0 : Int32).toInt = 0 := by decide +kernel
  have zk1 : (1 : Int32).toInt = 1 := by decide +kernel
  have zk2 : (2 : Int32).toInt = 2 := by decide +kernel
  have zk32 : (32 : Int32).toInt = 32 := by decide +kernel
  have zk40 : (40 : Int32).toInt = 40 := by decide +kernel
  refine lv_bipush (v := 40) hx hb dX12_listedAs_0 (by decide +kernel) ?_
  refine lv_iload_n hx hb dX12_listedAs_2 rfl (lv_at hl 1 rfl) ?_
  refine lv_imul hx hb dX12_listedAs_3 ?_
  refine lv_topi (fun x697 ex697 => ?_)
  have fx697 : x697.toInt = 40 * p0.toInt := by rw [ex697, z_mul (by simp only [zk40]; omega) (by simp only [zk40]; omega)]; simp only [zk40]
  clear ex697
  refine lv_istore_n (lv' := [(2, .int x697), (0, .ref h0), (1, .int p0)]) hx hb dX12_listedAs_4 rfl hl (by decide) rfl (fun ls hl => ?_)
  have lp5 : ∀ (n5 : Nat) (x698 : Int32) (gl699 : Nat → Int32) (fl700 : Nat → Nat → Int32) (H : Heap) (locs : List Loc) (ls : Array Slot), (40 * p0.toInt + 40 - x698.toInt).toNat < n5 → (40 * p0.toInt ≤ x698.toInt ∧ x698.toInt ≤ 40 * p0.toInt + 40) → va_P (dC, dI) vwCl (mW h0 kB kI kZ q g F) H → va_D A (mW h0 kB kI kZ q g F) → va_S A s.heap H locs → lv_has ls 3 [(2, .int x698), (0, .ref h0), (1, .int p0)] → W p l e ({ frames := 3, cells := 0, slots := 0, locals := 86 } : Room) s m args below meth c H locs 0 0 Q (F0 m 5 ls []) := by
    intro n5
    induction n5 with
    | zero => intro x698 gl699 fl700 H locs ls hm; exact absurd hm (Nat.not_lt_zero _)
    | succ n5 ih5 =>
      intro x698 gl699 fl700 H locs ls hm5 f701 hP hD hS hl
      refine lv_iload_n hx hb dX12_listedAs_5 rfl (lv_at hl 0 rfl) ?_
      refine lv_bipush (v := 40) hx hb dX12_listedAs_6 (by decide +kernel) ?_
      refine lv_iload_n hx hb dX12_listedAs_8 rfl (lv_at hl 2 rfl) ?_
      refine lv_imul hx hb dX12_listedAs_9 ?_
      refine lv_topi (fun x702 ex702 => ?_)
      have fx702 : x702.toInt = 40 * p0.toInt := by rw [ex702, z_mul (by simp only [zk40]; omega) (by simp only [zk40]; omega)]; simp only [zk40]
      clear ex702
      refine lv_aload_n hx hb dX12_listedAs_10 rfl (lv_at hl 1 rfl) ?_
      refine va_get (D := (dC, dI)) (ci := 12) (v := .ref (q 13)) (C := RX12) (T := TX12) (N := 71) hx hb hts (fun _ h => List.mem_append_right _ h) hown hK hP 0 rfl rfl 13 (by decide) (hts (.fieldLink RX12 27 "SpellTurnerModel" "listed" "[I") (List.mem_of_getElem? (i := 1) rfl)) (fun _ h9 => h9) rfl dX12_listedAs_11 ?_
      refine lv_iload_n hx hb dX12_listedAs_14 rfl (lv_at hl 2 rfl) ?_
      refine va_iald hx hb hK hP 5 1 rfl rfl (z_in (i := p0) (by omega) (by omega)) dX12_listedAs_15 ?_
      refine lv_topi (fun x703 ex703 => ?_)
      have kx703 : x703.toInt = ((F 13) (Int32.toNatClampNeg p0)).toInt := congrArg Int32.toInt ex703
      have fx703 := hF13z (Int32.toNatClampNeg p0)
      clear ex703
      refine lv_iadd hx hb dX12_listedAs_16 ?_
      refine lv_topi (fun x704 ex704 => ?_)
      have fx704 : x704.toInt = x702.toInt + x703.toInt := by have h := @z_add x702 x703 (by omega) (by omega); rw [← ex704] at h; omega
      clear ex704
      refine lv_icmp_ge (tgt := 59) hx hb dX12_listedAs_17 (by decide) (fun c705 => ?_) (fun c705 => ?_)
      · have c705 := (z_le _ _).mp c705
        refine lv_iconst (v := (-1)) hx hb dX12_listedAs_59 (by decide +kernel) ?_
        exact K 60 ls (-1) (g, F) H _ dX12_listedAs_60 (show ((-1 : Int32).toInt = -1 ∨ (40 * p0.toInt ≤ (-1 : Int32).toInt ∧ (-1 : Int32).toInt < 40 * p0.toInt + 40)) from by omega) hP hD hS
      · have c705 := z_nle c705
        refine lv_aload_n hx hb dX12_listedAs_20 rfl (lv_at hl 1 rfl) ?_
        refine va_get (D := (dC, dI)) (ci := 12) (v := .ref (q 20)) (C := RX12) (T := TX12) (N := 71) hx hb hts (fun _ h => List.mem_append_right _ h) hown hK hP 0 rfl rfl 20 (by decide) (hts (.fieldLink RX12 49 "SpellTurnerModel" "listText" "[B") (List.mem_of_getElem? (i := 2) rfl)) (fun _ h9 => h9) rfl dX12_listedAs_21 ?_
        refine lv_bipush (v := 32) hx hb dX12_listedAs_24 (by decide +kernel) ?_
        refine lv_iload_n hx hb dX12_listedAs_26 rfl (lv_at hl 0 rfl) ?_
        refine lv_imul hx hb dX12_listedAs_27 ?_
        refine lv_topi (fun x706 ex706 => ?_)
        have fx706 : x706.toInt = 32 * x698.toInt := by rw [ex706, z_mul (by simp only [zk32]; omega) (by simp only [zk32]; omega)]; simp only [zk32]
        clear ex706
        refine lv_aload_n hx hb dX12_listedAs_28 rfl (lv_at hl 1 rfl) ?_
        refine va_get (D := (dC, dI)) (ci := 12) (v := .ref (q 21)) (C := RX12) (T := TX12) (N := 71) hx hb hts (fun _ h => List.mem_append_right _ h) hown hK hP 0 rfl rfl 21 (by decide) (hts (.fieldLink RX12 52 "SpellTurnerModel" "listSize" "[I") (List.mem_of_getElem? (i := 3) rfl)) (fun _ h9 => h9) rfl dX12_listedAs_29 ?_
        refine lv_iconst (v := 2) hx hb dX12_listedAs_32 (by decide +kernel) ?_
        refine lv_iload_n hx hb dX12_listedAs_33 rfl (lv_at hl 0 rfl) ?_
        refine lv_imul hx hb dX12_listedAs_34 ?_
        refine lv_topi (fun x707 ex707 => ?_)
        have fx707 : x707.toInt = 2 * x698.toInt := by rw [ex707, z_mul (by simp only [zk2]; omega) (by simp only [zk2]; omega)]; simp only [zk2]
        clear ex707
        refine va_iald hx hb hK hP 13 1 rfl rfl (z_in (i := x707) (by omega) (by omega)) dX12_listedAs_35 ?_
        refine lv_topi (fun x708 ex708 => ?_)
        have kx708 : x708.toInt = ((F 21) (Int32.toNatClampNeg x707)).toInt := congrArg Int32.toInt ex708
        have fx708 := hF21z (Int32.toNatClampNeg x707)
        clear ex708
        refine lv_aload_n hx hb dX12_listedAs_36 rfl (lv_at hl 1 rfl) ?_
        refine va_get (D := (dC, dI)) (ci := 12) (v := .ref (q 22)) (C := RX12) (T := TX12) (N := 71) hx hb hts (fun _ h => List.mem_append_right _ h) hown hK hP 0 rfl rfl 22 (by decide) (hts (.fieldLink RX12 55 "SpellTurnerModel" "word" "[B") (List.mem_of_getElem? (i := 4) rfl)) (fun _ h9 => h9) rfl dX12_listedAs_37 ?_
        refine lv_iconst (v := 0) hx hb dX12_listedAs_40 (by decide +kernel) ?_
        refine lv_aload_n hx hb dX12_listedAs_41 rfl (lv_at hl 1 rfl) ?_
        refine va_get (D := (dC, dI)) (ci := 12) (v := .int (g 23)) (C := RX12) (T := TX12) (N := 71) hx hb hts (fun _ h => List.mem_append_right _ h) hown hK hP 0 rfl rfl 23 (by decide) (hts (.fieldLink RX12 244 "SpellTurnerModel" "letters" "I") (List.mem_of_getElem? (i := 5) rfl)) (fun _ h9 => h9) rfl dX12_listedAs_42 ?_
        have hFc := va_free (wc := (mW h0 kB kI kZ q g F)) hD hS hA [0, 1, 2, 3, 4, 5, 6, 7, 8, 9, 10, 11, 12, 13, 14, 15, 16, 17, 18, 19, 20, 21, 22, 23, 24, 25, 26, 27, 28, 29, 30, 31, 32, 33, 34, 35, 36, 37, 38, 39, 40, 41, 42, 43, 44, 45] rfl
        refine va_calli (va_runS (As := [.ref (q 20), .int x706, .int x708, .ref (q 22), .int 0, .int (g 23)]) (rest := []) ⟨hx, hb, hml, hown, hts⟩ (m_sameBytes_20_22 l dC dI H.size h0 kB kI kZ q g F x706 x708 0 (g 23) ⟨hg1z, hg2z, hg3z, hg4z, hg5z, hg6z, hg7z, hg8z, hg9z, hg23z, hg27z, hg30z, hg34z, hg36z, hg39z, hg44z, hg47z, hg48z, hg51z, hg56z, hg59z, hg62z, hg65z, hg66z, hg70z, hF11z, hF12z, hF13z, hF15z, hF19z, hF21z, hF24z, hF25z, hF26z, hF33z, hF38z, hF41z, hF43z, hF45z, hF46z, hF50z, hF53z, hF54z⟩ (show (0 ≤ x706.toInt ∧ x706.toInt + x708.toInt ≤ 8960) from by omega) (show (0 ≤ (0 : Int32).toInt ∧ (0 : Int32).toInt + (g 23).toInt ≤ 24) from by omega)) (va_cwS 6 hts gw_X12_listedAs_X12_sameBytes_273 rfl rfl rfl (by decide +kernel) ⟨Nat.le_of_ble_eq_true rfl, Nat.le_of_ble_eq_true rfl⟩) ⟨fun a U g mk q => by obtain ⟨q0, q1, qP, qK, qD⟩ := q; exact ⟨q0, q1, qP, va_K.moved (u := U) (U := U.calling g mk a) (Vm.Alike.refl U.vm) qK, qD⟩, fun U hU hW => ⟨rfl, by rw [hU], by rw [hU]; exact hP, va_K.moved hW.alike hK, hD.weaken (fun _ _ _ _ => trivial)⟩⟩ rfl rfl hl.1 rfl (lv_room (Nat.le_of_ble_eq_true rfl)) dX12_listedAs_45 ⟨Nat.le_of_ble_eq_true rfl, Nat.le_of_ble_eq_true rfl⟩) hS (fun q _ h => hFc q h) hFc (fun r721 u t H1 locs ht hvm hw hB hz1 hk1 hS => ?_)
        obtain ⟨ga722, fa723⟩ := u
        obtain ⟨hP1, hK1, hD1⟩ := hB
        rw [ht] at hP1
        obtain ⟨hP, hD⟩ := va_join (wr := []) (w1 := (mW h0 kB kI kZ q g F)) hP hD [0, 1, 2, 3, 4, 5, 6, 7, 8, 9, 10, 11, 12, 13, 14, 15, 16, 17, 18, 19, 20, 21, 22, 23, 24, 25, 26, 27, 28, 29, 30, 31, 32, 33, 34, 35, 36, 37, 38, 39, 40, 41, 42, 43, 44, 45] [] rfl rfl (by decide) (by decide) hk1 hFc hP1 hD1
        generalize H1 = H at hP hS ⊢
        have hP : va_P (dC, dI) vwCl (mW h0 kB kI kZ q g F) H := hP
        have hD : va_D A (mW h0 kB kI kZ q g F) := hD
        have f724 : (0 ≤ r721.toInt ∧ r721.toInt ≤ 1) := hw
        refine lv_if_eq (tgt := 53) hx hb dX12_listedAs_48 (by decide) (fun c725 => ?_) (fun c725 => ?_)
        · have c725 := congrArg Int32.toInt c725
          obtain ⟨x726, ex726⟩ : ∃ y : Int32, y = x698 + 1 := ⟨_, rfl⟩
          have fx726 : x726.toInt = x698.toInt + (1) := by rw [ex726, z_add (by omega) (by omega)]; omega
          refine lv_iinc (v := x726) (lv' := [(2, .int x726), (0, .ref h0), (1, .int p0)]) hx hb dX12_listedAs_53 hl (k := 0) rfl (by rw [ex726]; rfl) (by decide) rfl (fun ls hl => ?_)
          clear ex726
          refine lv_goto (tgt := 5) hx hb dX12_listedAs_56 (by decide) ?_
          exact ih5 x726 g F H _ ls (show (40 * p0.toInt + 40 - x726.toInt).toNat < n5 from by omega) (show (40 * p0.toInt ≤ x726.toInt ∧ x726.toInt ≤ 40 * p0.toInt + 40) from by omega) hP hD hS (lv_sub hl [0, 1, 2] rfl)
        · have c725 := z_ne c725
          refine lv_iload_n hx hb dX12_listedAs_51 rfl (lv_at hl 0 rfl) ?_
          exact K 52 ls x698 (g, F) H _ dX12_listedAs_52 (show (x698.toInt = -1 ∨ (40 * p0.toInt ≤ x698.toInt ∧ x698.toInt < 40 * p0.toInt + 40)) from by omega) hP hD hS
  exact lp5 ((40 * p0.toInt + 40 - x697.toInt).toNat + 1) x697 g F H _ ls (Nat.lt_succ_self _) (show (40 * p0.toInt ≤ x697.toInt ∧ x697.toInt ≤ 40 * p0.toInt + 40) from by omega) hP hD hS (lv_sub hl [0, 1, 2] rfl)
set_option maxHeartbeats 4000000 in
set_option maxRecDepth 100000 in
theorem m_listedAs (l : Launch) (dC : Nat → ClassId) (dI : Nat → Nat → Nat) (sz : Nat) (h0 : Nat) (kB kI kZ : ClassId) (q : Nat → Nat) (g : Nat → Int32) (F : Nat → Nat → Int32) (p0 : Int32) (hI : MInv g F) (hq0 : (0 ≤ p0.toInt ∧ p0.toInt ≤ 6)) : Met l yX12_listedAs vmX12_listedAs ({ frames := 3, cells := 0, slots := 0, locals := 86 } : Room) (va_Pc [.ref h0, .int p0] (fun U => U.heap.size = sz ∧ va_P (dC, dI) vwCl (mW h0 kB kI kZ q g F) U.heap ∧ va_K (dC, dI) vwCl (mT kB kI kZ) U ∧ va_D (fun _ => True) (mW h0 kB kI kZ q g F))) (va_Qi (fun (r : Int32) (u : ((Nat → Int32) × (Nat → Nat → Int32))) => ((r.toInt = -1 ∨ (40 * p0.toInt ≤ r.toInt ∧ r.toInt < 40 * p0.toInt + 40)))) (fun u t => va_P (dC, dI) vwCl (mW h0 kB kI kZ q g F) t.heap ∧ va_K (dC, dI) vwCl (mT kB kI kZ) t ∧ va_D (va_A (mW h0 kB kI kZ q g F) sz) (mW h0 kB kI kZ q g F)) (va_A (mW h0 kB kI kZ q g F) sz)) 0 0 (va_A (mW h0 kB kI kZ q g F) sz) := by
  refine Met.ofW (cc := cX12_listedAs) (maxL := 3) (ret := (some .int)) (by decide) rfl ?_
  intro p e s m args below meth c s₁ B hml hv
  obtain ⟨rfl, hsz, hP, hK, hD0⟩ := hv
  have hx := B.exec
  have hb := B.bytes
  have hr := B.returns
  have hts := atoms_spec (ws := vmX12_listedAs) B.pre
  have hown : s.vm.findClass RX12 = some m.cls := findClass_of_methodNamed B.named
  subst hsz
  have hD := hD0.self (sz := s.heap.size)
  generalize hAe : va_A (mW h0 kB kI kZ q g F) s.heap.size = A at hD ⊢
  have hA : ∀ q : Nat, s.heap.size ≤ q → A q := fun q h => by rw [← hAe]; exact Or.inr h
  have hS : va_S A s.heap s.heap [] := va_S.rf
  have hl := lv_entry ([.ref h0, .int p0]) (n := 3) (Nat.le_of_ble_eq_true rfl)
  rw [lg_entry_eq]
  generalize (lg_sl ([.ref h0, .int p0]) ++ List.replicate (3 - (lg_sl ([.ref h0, .int p0])).length) Slot.unset).toArray = ls at hl ⊢
  exact bm_listedAs p0 hx hb hml hown hts hA hK hI hq0 hP hD hS hl (fun pc ls r u H locs hd hw hP hD hS => W.iret (v := r) hx hb hr (fun t ht hW => ⟨⟨r, u, rfl, hw, by rw [ht]; exact hP, va_K.moved hW.alike hK, hD⟩, hS.F ht⟩) hS.2.2 hd)
set_option maxHeartbeats 4000000 in
set_option maxRecDepth 100000 in
theorem bm_learn {p : Program} {l : Launch} {e : Env} {s : State} {m : MethodId} {args : Array Value} {below : List Frame} {meth : Method} {c : Code} {Q : State → Prop} {A : Nat → Prop} {dC : Nat → ClassId} {dI : Nat → Nat → Nat} {h0 : Nat} {kB kI kZ : ClassId} {q : Nat → Nat} {g : Nat → Int32} {F : Nat → Nat → Int32} {H : Heap} {locs : List Loc} {ls : Array Slot} (hx : p.tables.exec = Jvm.exec) (hb : c.code = cX12_learn) (hml : c.maxLocals = 2) (hown : s.vm.findClass RX12 = some m.cls) (hts : ∀ w ∈ vmX12_learn, w.before args s = true) (hA : ∀ q : Nat, s.heap.size ≤ q → A q) (hK : va_K (dC, dI) vwCl (mT kB kI kZ) s) (hI : MInv g F) (hP : va_P (dC, dI) vwCl (mW h0 kB kI kZ q g F) H) (hD : va_D A (mW h0 kB kI kZ q g F)) (hS : va_S A s.heap H locs) (hl : lv_has ls 2 [(0, .ref h0)])
    (K : ∀ (pc : Nat) (ls : Array Slot) (r : Int32) (u : ((Nat → Int32) × (Nat → Nat → Int32))) (H : Heap) (locs : List Loc), decode cX12_learn pc = .ok (.ireturn, 1) → ((((0) ≤ (u.1 1).toInt ∧ (u.1 1).toInt ≤ 2000)) ∧ (((0) ≤ (u.1 23).toInt ∧ (u.1 23).toInt ≤ 24)) ∧ (((0) ≤ (u.1 48).toInt ∧ (u.1 48).toInt ≤ 100)) ∧ (((0) ≤ (u.1 51).toInt ∧ (u.1 51).toInt ≤ 1)) ∧ (rng (0) 24 (u.2 50)) ∧ ((u.1 1).toInt = 0)) → va_P (dC, dI) vwCl (mW h0 kB kI kZ q (upd (upd (upd (upd g 1 (u.1 1)) 23 (u.1 23)) 48 (u.1 48)) 51 (u.1 51)) (upF (upF (upF F 22 (u.2 22)) 49 (u.2 49)) 50 (u.2 50))) H → va_D A (mW h0 kB kI kZ q (upd (upd (upd (upd g 1 (u.1 1)) 23 (u.1 23)) 48 (u.1 48)) 51 (u.1 51)) (upF (upF (upF F 22 (u.2 22)) 49 (u.2 49)) 50 (u.2 50))) → va_S A s.heap H locs → W p l e ({ frames := 4, cells := 0, slots := 0, locals := 106 } : Room) s m args below meth c H locs 0 0 Q (F0 m pc ls [.int r])) : W p l e ({ frames := 4, cells := 0, slots := 0, locals := 106 } : Room) s m args below meth c H locs 0 0 Q (F0 m 0 ls []) := by
  obtain ⟨hg1z, hg2z, hg3z, hg4z, hg5z, hg6z, hg7z, hg8z, hg9z, hg23z, hg27z, hg30z, hg34z, hg36z, hg39z, hg44z, hg47z, hg48z, hg51z, hg56z, hg59z, hg62z, hg65z, hg66z, hg70z, hF11z, hF12z, hF13z, hF15z, hF19z, hF21z, hF24z, hF25z, hF26z, hF33z, hF38z, hF41z, hF43z, hF45z, hF46z, hF50z, hF53z, hF54z⟩ := hI
  have zkm3 : (-3 : Int32).toInt = -3 := by decide +kernel
  have zkm2 : (-2 : Int32).toInt = -2 := by decide +kernel
  have zk0 : (0 : Int32).toInt = 0 := by decide +kernel
  have zk1 : (1 : Int32).toInt = 1 := by decide +kernel
  have zk24 : (24 : Int32).toInt = 24 := by decide +kernel
  have zk100 : (100 : Int32).toInt = 100 := by decide +kernel
  refine lv_aload_n hx hb dX12_learn_0 rfl (lv_at hl 0 rfl) ?_
  have hFc := va_free (wc := (mW h0 kB kI kZ q g F)) hD hS hA [0, 1, 2, 3, 4, 5, 6, 7, 8, 9, 10, 11, 12, 13, 14, 15, 16, 17, 18, 19, 20, 21, 22, 23, 24, 25, 26, 27, 28, 29, 30, 31, 32, 33, 34, 35, 36, 37, 38, 39, 40, 41, 42, 43, 44, 45] rfl
  refine va_calli (va_runV (As := []) (rest := []) ⟨hx, hb, hml, hown, hts⟩ (m_readWord l dC dI H.size h0 kB kI kZ q g F ⟨hg1z, hg2z, hg3z, hg4z, hg5z, hg6z, hg7z, hg8z, hg9z, hg23z, hg27z, hg30z, hg34z, hg36z, hg39z, hg44z, hg47z, hg48z, hg51z, hg56z, hg59z, hg62z, hg65z, hg66z, hg70z, hF11z, hF12z, hF13z, hF15z, hF19z, hF21z, hF24z, hF25z, hF26z, hF33z, hF38z, hF41z, hF43z, hF45z, hF46z, hF50z, hF53z, hF54z⟩) (cwV 0 hts gw_X12_learn_X12_readWord_297 rfl rfl rfl (by decide +kernel) ⟨Nat.le_of_ble_eq_true rfl, Nat.le_of_ble_eq_true rfl⟩) ⟨fun a U g mk q => by obtain ⟨q0, q1, qP, qK, qD⟩ := q; exact ⟨q0, q1, qP, va_K.moved (u := U) (U := U.calling g mk a) (Vm.Alike.refl U.vm) qK, qD⟩, va_recv hK hP (ci := 12) (q0 := 0) rfl rfl, fun U hU hW => ⟨rfl, by rw [hU], by rw [hU]; exact hP, va_K.moved hW.alike hK, hD.weaken (fun _ _ _ _ => trivial)⟩⟩ rfl rfl hl.1 rfl (lv_room (Nat.le_of_ble_eq_true rfl)) dX12_learn_1 ⟨Nat.le_of_ble_eq_true rfl, Nat.le_of_ble_eq_true rfl⟩) hS (fun q _ h => hFc q h) hFc (fun r727 u t H1 locs ht hvm hw hB hz1 hk1 hS => ?_)
  obtain ⟨ga728, fa729⟩ := u
  obtain ⟨hP1, hK1, hD1⟩ := hB
  rw [ht] at hP1
  obtain ⟨hP, hD⟩ := va_join (wr := []) (w1 := (mW h0 kB kI kZ q (upd (upd g 1 (ga728 1)) 23 (ga728 23)) (upF F 22 (fa729 22)))) hP hD [0, 1, 2, 3, 4, 5, 6, 7, 8, 9, 10, 11, 12, 13, 14, 15, 16, 17, 18, 19, 20, 21, 22, 23, 24, 25, 26, 27, 28, 29, 30, 31, 32, 33, 34, 35, 36, 37, 38, 39, 40, 41, 42, 43, 44, 45] [] rfl rfl (by decide) (by decide) hk1 hFc hP1 hD1
  generalize H1 = H at hP hS ⊢
  have hP : va_P (dC, dI) vwCl (mW h0 kB kI kZ q (upd (upd g 1 (ga728 1)) 23 (ga728 23)) (upF F 22 (fa729 22))) H := hP
  have hD : va_D A (mW h0 kB kI kZ q (upd (upd g 1 (ga728 1)) 23 (ga728 23)) (upF F 22 (fa729 22))) := hD
  obtain ⟨hg730, hg731, f732, f733, f734⟩ : ((0) ≤ (ga728 1).toInt ∧ (ga728 1).toInt ≤ 2000) ∧ ((0) ≤ (ga728 23).toInt ∧ (ga728 23).toInt ≤ 24) ∧ ((ga728 1).toInt = 0) ∧ ((r727.toInt = 1 → 1 ≤ (ga728 23).toInt)) ∧ ((0 ≤ r727.toInt ∧ r727.toInt ≤ 1)) := hw
  refine lv_if_ne (tgt := 10) hx hb dX12_learn_4 (by decide) (fun c735 => ?_) (fun c735 => ?_)
  · have c735 := z_ne c735
    refine lv_iconst (v := 0) hx hb dX12_learn_10 (by decide +kernel) ?_
    refine lv_istore_n (lv' := [(1, .int 0), (0, .ref h0)]) hx hb dX12_learn_11 rfl hl (by decide) rfl (fun ls hl => ?_)
    have lp12 : ∀ (n12 : Nat) (x736 : Int32) (gl737 : Nat → Int32) (fl738 : Nat → Nat → Int32) (H : Heap) (locs : List Loc) (ls : Array Slot), (100 - x736.toInt).toNat < n12 → (0 ≤ x736.toInt ∧ x736.toInt ≤ 100) → va_P (dC, dI) vwCl (mW h0 kB kI kZ q (upd (upd g 1 (ga728 1)) 23 (ga728 23)) (upF F 22 (fa729 22))) H → va_D A (mW h0 kB kI kZ q (upd (upd g 1 (ga728 1)) 23 (ga728 23)) (upF F 22 (fa729 22))) → va_S A s.heap H locs → lv_has ls 2 [(1, .int x736), (0, .ref h0)] → W p l e ({ frames := 4, cells := 0, slots := 0, locals := 106 } : Room) s m args below meth c H locs 0 0 Q (F0 m 12 ls []) := by
      intro n12
      induction n12 with
      | zero => intro x736 gl737 fl738 H locs ls hm; exact absurd hm (Nat.not_lt_zero _)
      | succ n12 ih12 =>
        intro x736 gl737 fl738 H locs ls hm12 f739 hP hD hS hl
        refine lv_iload_n hx hb dX12_learn_12 rfl (lv_at hl 0 rfl) ?_
        refine lv_aload_n hx hb dX12_learn_13 rfl (lv_at hl 1 rfl) ?_
        refine va_get (D := (dC, dI)) (ci := 12) (v := .int (g 48)) (C := RX12) (T := TX12) (N := 71) hx hb hts (fun _ h => List.mem_append_right _ h) hown hK hP 0 rfl rfl 48 (by decide) (hts (.fieldLink RX12 312 "SpellTurnerModel" "words" "I") (List.mem_of_getElem? (i := 5) rfl)) (fun _ h9 => h9) rfl dX12_learn_14 ?_
        refine lv_icmp_ge (tgt := 57) hx hb dX12_learn_17 (by decide) (fun c740 => ?_) (fun c740 => ?_)
        · have c740 := (z_le _ _).mp c740
          refine lv_aload_n hx hb dX12_learn_57 rfl (lv_at hl 1 rfl) ?_
          refine va_get (D := (dC, dI)) (ci := 12) (v := .int (g 48)) (C := RX12) (T := TX12) (N := 71) hx hb hts (fun _ h => List.mem_append_right _ h) hown hK hP 0 rfl rfl 48 (by decide) (hts (.fieldLink RX12 312 "SpellTurnerModel" "words" "I") (List.mem_of_getElem? (i := 5) rfl)) (fun _ h9 => h9) rfl dX12_learn_58 ?_
          refine lv_bipush (v := 100) hx hb dX12_learn_61 (by decide +kernel) ?_
          refine lv_icmp_ne (tgt := 69) hx hb dX12_learn_63 (by decide) (fun c741 => ?_) (fun c741 => ?_)
          · have c741 := z_ne c741
            refine lv_iconst (v := 0) hx hb dX12_learn_69 (by decide +kernel) ?_
            refine lv_istore_n (lv' := [(1, .int 0), (0, .ref h0)]) hx hb dX12_learn_70 rfl hl (by decide) rfl (fun ls hl => ?_)
            have lp71 : ∀ (n71 : Nat) (x742 : Int32) (gl743 : Nat → Int32) (fl744 : Nat → Nat → Int32) (H : Heap) (locs : List Loc) (ls : Array Slot), (24 - x742.toInt).toNat < n71 → 0 ≤ x742.toInt → va_P (dC, dI) vwCl (mW h0 kB kI kZ q (upd (upd g 1 (ga728 1)) 23 (ga728 23)) (upF (upF F 22 (fa729 22)) 49 (fl744 49))) H → va_D A (mW h0 kB kI kZ q (upd (upd g 1 (ga728 1)) 23 (ga728 23)) (upF (upF F 22 (fa729 22)) 49 (fl744 49))) → va_S A s.heap H locs → lv_has ls 2 [(1, .int x742), (0, .ref h0)] → W p l e ({ frames := 4, cells := 0, slots := 0, locals := 106 } : Room) s m args below meth c H locs 0 0 Q (F0 m 71 ls []) := by
              intro n71
              induction n71 with
              | zero => intro x742 gl743 fl744 H locs ls hm; exact absurd hm (Nat.not_lt_zero _)
              | succ n71 ih71 =>
                intro x742 gl743 fl744 H locs ls hm71 f745 hP hD hS hl
                refine lv_iload_n hx hb dX12_learn_71 rfl (lv_at hl 0 rfl) ?_
                refine lv_aload_n hx hb dX12_learn_72 rfl (lv_at hl 1 rfl) ?_
                refine va_get (D := (dC, dI)) (ci := 12) (v := .int (ga728 23)) (C := RX12) (T := TX12) (N := 71) hx hb hts (fun _ h => List.mem_append_right _ h) hown hK hP 0 rfl rfl 23 (by decide) (hts (.fieldLink RX12 244 "SpellTurnerModel" "letters" "I") (List.mem_of_getElem? (i := 6) rfl)) (fun _ h9 => h9) rfl dX12_learn_73 ?_
                refine lv_icmp_ge (tgt := 105) hx hb dX12_learn_76 (by decide) (fun c746 => ?_) (fun c746 => ?_)
                · have c746 := (z_le _ _).mp c746
                  refine lv_aload_n hx hb dX12_learn_105 rfl (lv_at hl 1 rfl) ?_
                  refine va_get (D := (dC, dI)) (ci := 12) (v := .ref (q 50)) (C := RX12) (T := TX12) (N := 71) hx hb hts (fun _ h => List.mem_append_right _ h) hown hK hP 0 rfl rfl 50 (by decide) (hts (.fieldLink RX12 109 "SpellTurnerModel" "bookSize" "[I") (List.mem_of_getElem? (i := 7) rfl)) (fun _ h9 => h9) rfl dX12_learn_106 ?_
                  refine lv_aload_n hx hb dX12_learn_109 rfl (lv_at hl 1 rfl) ?_
                  refine va_get (D := (dC, dI)) (ci := 12) (v := .int (g 48)) (C := RX12) (T := TX12) (N := 71) hx hb hts (fun _ h => List.mem_append_right _ h) hown hK hP 0 rfl rfl 48 (by decide) (hts (.fieldLink RX12 312 "SpellTurnerModel" "words" "I") (List.mem_of_getElem? (i := 5) rfl)) (fun _ h9 => h9) rfl dX12_learn_110 ?_
                  refine lv_aload_n hx hb dX12_learn_113 rfl (lv_at hl 1 rfl) ?_
                  refine va_get (D := (dC, dI)) (ci := 12) (v := .int (ga728 23)) (C := RX12) (T := TX12) (N := 71) hx hb hts (fun _ h => List.mem_append_right _ h) hown hK hP 0 rfl rfl 23 (by decide) (hts (.fieldLink RX12 244 "SpellTurnerModel" "letters" "I") (List.mem_of_getElem? (i := 6) rfl)) (fun _ h9 => h9) rfl dX12_learn_114 ?_
                  refine va_iast hx hb hK hP hD hS 32 1 rfl rfl (z_in (i := (g 48)) (by omega) (by omega)) dX12_learn_117 (fun H locs hP hD hS => ?_)
                  obtain ⟨f747, hF748, hP, hD⟩ : ∃ f747 : Nat → Int32, rng (0) 24 f747 ∧ va_P (dC, dI) vwCl (mW h0 kB kI kZ q (upd (upd g 1 (ga728 1)) 23 (ga728 23)) (upF (upF (upF F 22 (fa729 22)) 49 (fl744 49)) 50 f747)) H ∧ va_D A (mW h0 kB kI kZ q (upd (upd g 1 (ga728 1)) 23 (ga728 23)) (upF (upF (upF F 22 (fa729 22)) 49 (fl744 49)) 50 f747)) := ⟨(upd (F 50) (Int32.toNatClampNeg (g 48)) (ga728 23)), rng_upd hF50z (x := (ga728 23)) (by omega) (by omega), hP, hD⟩
                  refine lv_aload_n hx hb dX12_learn_118 rfl (lv_at hl 1 rfl) ?_
                  refine lv_dup hx hb dX12_learn_119 rfl ?_
                  refine va_get (D := (dC, dI)) (ci := 12) (v := .int (g 48)) (C := RX12) (T := TX12) (N := 71) hx hb hts (fun _ h => List.mem_append_right _ h) hown hK hP 0 rfl rfl 48 (by decide) (hts (.fieldLink RX12 312 "SpellTurnerModel" "words" "I") (List.mem_of_getElem? (i := 5) rfl)) (fun _ h9 => h9) rfl dX12_learn_120 ?_
                  refine lv_iconst (v := 1) hx hb dX12_learn_123 (by decide +kernel) ?_
                  refine lv_iadd hx hb dX12_learn_124 ?_
                  refine lv_topi (fun x749 ex749 => ?_)
                  have fx749 : x749.toInt = (g 48).toInt + 1 := by have h := @z_add (g 48) (1 : Int32) (by omega) (by omega); rw [← ex749] at h; omega
                  clear ex749
                  refine va_put (D := (dC, dI)) (ci := 12) (v := .int x749) (ty := .int) (C := RX12) (T := TX12) (N := 71) hx hb hts (fun _ h => List.mem_append_right _ h) tyX12 tyX12_ok nmX12 hown hK hP hD hS 0 rfl rfl 48 (by decide) (hts (.fieldLink RX12 312 "SpellTurnerModel" "words" "I") (List.mem_of_getElem? (i := 5) rfl)) (fun _ h9 => h9) rfl (by decide +kernel) rfl rfl (Nat.le_of_ble_eq_true rfl) dX12_learn_125 (fun H locs hP hD hS => ?_)
                  have hP : va_P (dC, dI) vwCl (mW h0 kB kI kZ q (upd (upd (upd g 1 (ga728 1)) 23 (ga728 23)) 48 x749) (upF (upF (upF F 22 (fa729 22)) 49 (fl744 49)) 50 f747)) H := hP
                  have hD : va_D A (mW h0 kB kI kZ q (upd (upd (upd g 1 (ga728 1)) 23 (ga728 23)) 48 x749) (upF (upF (upF F 22 (fa729 22)) 49 (fl744 49)) 50 f747)) := hD
                  have hg750 : (0) ≤ x749.toInt ∧ x749.toInt ≤ 100 := ⟨by omega, by omega⟩
                  refine lv_aload_n hx hb dX12_learn_128 rfl (lv_at hl 1 rfl) ?_
                  refine lv_iconst (v := 0) hx hb dX12_learn_129 (by decide +kernel) ?_
                  refine va_put (D := (dC, dI)) (ci := 12) (v := .int 0) (ty := .boolean) (C := RX12) (T := TX12) (N := 71) hx hb hts (fun _ h => List.mem_append_right _ h) tyX12 tyX12_ok nmX12 hown hK hP hD hS 0 rfl rfl 51 (by decide) (hts (.fieldLink RX12 237 "SpellTurnerModel" "isMade" "Z") (List.mem_of_getElem? (i := 8) rfl)) (fun _ h9 => h9) rfl (by decide +kernel) rfl rfl (Nat.le_of_ble_eq_true rfl) dX12_learn_130 (fun H locs hP hD hS => ?_)
                  have hP : va_P (dC, dI) vwCl (mW h0 kB kI kZ q (upd (upd (upd (upd g 1 (ga728 1)) 23 (ga728 23)) 48 x749) 51 0) (upF (upF (upF F 22 (fa729 22)) 49 (fl744 49)) 50 f747)) H := hP
                  have hD : va_D A (mW h0 kB kI kZ q (upd (upd (upd (upd g 1 (ga728 1)) 23 (ga728 23)) 48 x749) 51 0) (upF (upF (upF F 22 (fa729 22)) 49 (fl744 49)) 50 f747)) := hD
                  have hg751 : (0) ≤ (0 : Int32).toInt ∧ (0 : Int32).toInt ≤ 1 := ⟨by omega, by omega⟩
                  refine lv_aload_n hx hb dX12_learn_133 rfl (lv_at hl 1 rfl) ?_
                  refine va_get (D := (dC, dI)) (ci := 12) (v := .int x749) (C := RX12) (T := TX12) (N := 71) hx hb hts (fun _ h => List.mem_append_right _ h) hown hK hP 0 rfl rfl 48 (by decide) (hts (.fieldLink RX12 312 "SpellTurnerModel" "words" "I") (List.mem_of_getElem? (i := 5) rfl)) (fun _ h9 => h9) rfl dX12_learn_134 ?_
                  refine lv_iconst (v := 1) hx hb dX12_learn_137 (by decide +kernel) ?_
                  refine lv_isub hx hb dX12_learn_138 ?_
                  refine lv_topi (fun x752 ex752 => ?_)
                  have fx752 : x752.toInt = x749.toInt - 1 := by have h := @z_sub x749 (1 : Int32) (by omega) (by omega); rw [← ex752] at h; omega
                  clear ex752
                  exact K 139 ls x752 ((upd (upd (upd (upd g 1 (ga728 1)) 23 (ga728 23)) 48 x749) 51 0), (upF (upF (upF F 22 (fa729 22)) 49 (fl744 49)) 50 f747)) H _ dX12_learn_139 ⟨hg730, hg731, hg750, hg751, hF748, (show (ga728 1).toInt = 0 from by omega)⟩ hP hD hS
                · have c746 := z_nle c746
                  refine lv_aload_n hx hb dX12_learn_79 rfl (lv_at hl 1 rfl) ?_
                  refine va_get (D := (dC, dI)) (ci := 12) (v := .ref (q 49)) (C := RX12) (T := TX12) (N := 71) hx hb hts (fun _ h => List.mem_append_right _ h) hown hK hP 0 rfl rfl 49 (by decide) (hts (.fieldLink RX12 106 "SpellTurnerModel" "bookText" "[B") (List.mem_of_getElem? (i := 9) rfl)) (fun _ h9 => h9) rfl dX12_learn_80 ?_
                  refine lv_bipush (v := 24) hx hb dX12_learn_83 (by decide +kernel) ?_
                  refine lv_aload_n hx hb dX12_learn_85 rfl (lv_at hl 1 rfl) ?_
                  refine va_get (D := (dC, dI)) (ci := 12) (v := .int (g 48)) (C := RX12) (T := TX12) (N := 71) hx hb hts (fun _ h => List.mem_append_right _ h) hown hK hP 0 rfl rfl 48 (by decide) (hts (.fieldLink RX12 312 "SpellTurnerModel" "words" "I") (List.mem_of_getElem? (i := 5) rfl)) (fun _ h9 => h9) rfl dX12_learn_86 ?_
                  refine lv_imul hx hb dX12_learn_89 ?_
                  refine lv_topi (fun x753 ex753 => ?_)
                  have fx753 : x753.toInt = 24 * (g 48).toInt := by rw [ex753, z_mul (by simp only [zk24]; omega) (by simp only [zk24]; omega)]; simp only [zk24]
                  clear ex753
                  refine lv_iload_n hx hb dX12_learn_90 rfl (lv_at hl 0 rfl) ?_
                  refine lv_iadd hx hb dX12_learn_91 ?_
                  refine lv_topi (fun x754 ex754 => ?_)
                  have fx754 : x754.toInt = x753.toInt + x742.toInt := by have h := @z_add x753 x742 (by omega) (by omega); rw [← ex754] at h; omega
                  clear ex754
                  refine lv_aload_n hx hb dX12_learn_92 rfl (lv_at hl 1 rfl) ?_
                  refine va_get (D := (dC, dI)) (ci := 12) (v := .ref (q 22)) (C := RX12) (T := TX12) (N := 71) hx hb hts (fun _ h => List.mem_append_right _ h) hown hK hP 0 rfl rfl 22 (by decide) (hts (.fieldLink RX12 55 "SpellTurnerModel" "word" "[B") (List.mem_of_getElem? (i := 10) rfl)) (fun _ h9 => h9) rfl dX12_learn_93 ?_
                  refine lv_iload_n hx hb dX12_learn_96 rfl (lv_at hl 0 rfl) ?_
                  refine va_bald hx hb hK hP 14 0 rfl rfl (z_in (i := x742) (by omega) (by omega)) dX12_learn_97 ?_
                  refine lv_topi (fun x755 ex755 => ?_)
                  clear ex755
                  refine va_bast hx hb hK hP hD hS 31 0 rfl rfl (z_in (i := x754) (by omega) (by omega)) dX12_learn_98 (fun H locs hP hD hS => ?_)
                  obtain ⟨f756, hP, hD⟩ : ∃ f756 : Nat → Int32, va_P (dC, dI) vwCl (mW h0 kB kI kZ q (upd (upd g 1 (ga728 1)) 23 (ga728 23)) (upF (upF F 22 (fa729 22)) 49 f756)) H ∧ va_D A (mW h0 kB kI kZ q (upd (upd g 1 (ga728 1)) 23 (ga728 23)) (upF (upF F 22 (fa729 22)) 49 f756)) := ⟨(upd (fl744 49) (Int32.toNatClampNeg x754) (vp_nar .byte x755)), hP, hD⟩
                  obtain ⟨x757, ex757⟩ : ∃ y : Int32, y = x742 + 1 := ⟨_, rfl⟩
                  have fx757 : x757.toInt = x742.toInt + (1) := by rw [ex757, z_add (by omega) (by omega)]; omega
                  refine lv_iinc (v := x757) (lv' := [(1, .int x757), (0, .ref h0)]) hx hb dX12_learn_99 hl (k := 0) rfl (by rw [ex757]; rfl) (by decide) rfl (fun ls hl => ?_)
                  clear ex757
                  refine lv_goto (tgt := 71) hx hb dX12_learn_102 (by decide) ?_
                  exact ih71 x757 (upd (upd g 1 (ga728 1)) 23 (ga728 23)) (upF (upF F 22 (fa729 22)) 49 f756) H _ ls (show (24 - x757.toInt).toNat < n71 from by omega) (show 0 ≤ x757.toInt from by omega) hP hD hS (lv_sub hl [0, 1] rfl)
            exact lp71 ((24 - (0 : Int32).toInt).toNat + 1) 0 (upd (upd g 1 (ga728 1)) 23 (ga728 23)) (upF F 22 (fa729 22)) H _ ls (Nat.lt_succ_self _) (show 0 ≤ (0 : Int32).toInt from by omega) hP hD hS (lv_sub hl [0, 1] rfl)
          · have c741 := congrArg Int32.toInt c741
            refine lv_bipush (v := (-3)) hx hb dX12_learn_66 (by decide +kernel) ?_
            exact K 68 ls (-3) ((upd (upd g 1 (ga728 1)) 23 (ga728 23)), (upF F 22 (fa729 22))) H _ dX12_learn_68 ⟨hg730, hg731, hg48z, hg51z, hF50z, (show (ga728 1).toInt = 0 from by omega)⟩ hP hD hS
        · have c740 := z_nle c740
          refine lv_aload_n hx hb dX12_learn_20 rfl (lv_at hl 1 rfl) ?_
          refine va_get (D := (dC, dI)) (ci := 12) (v := .ref (q 49)) (C := RX12) (T := TX12) (N := 71) hx hb hts (fun _ h => List.mem_append_right _ h) hown hK hP 0 rfl rfl 49 (by decide) (hts (.fieldLink RX12 106 "SpellTurnerModel" "bookText" "[B") (List.mem_of_getElem? (i := 9) rfl)) (fun _ h9 => h9) rfl dX12_learn_21 ?_
          refine lv_bipush (v := 24) hx hb dX12_learn_24 (by decide +kernel) ?_
          refine lv_iload_n hx hb dX12_learn_26 rfl (lv_at hl 0 rfl) ?_
          refine lv_imul hx hb dX12_learn_27 ?_
          refine lv_topi (fun x758 ex758 => ?_)
          have fx758 : x758.toInt = 24 * x736.toInt := by rw [ex758, z_mul (by simp only [zk24]; omega) (by simp only [zk24]; omega)]; simp only [zk24]
          clear ex758
          refine lv_aload_n hx hb dX12_learn_28 rfl (lv_at hl 1 rfl) ?_
          refine va_get (D := (dC, dI)) (ci := 12) (v := .ref (q 50)) (C := RX12) (T := TX12) (N := 71) hx hb hts (fun _ h => List.mem_append_right _ h) hown hK hP 0 rfl rfl 50 (by decide) (hts (.fieldLink RX12 109 "SpellTurnerModel" "bookSize" "[I") (List.mem_of_getElem? (i := 7) rfl)) (fun _ h9 => h9) rfl dX12_learn_29 ?_
          refine lv_iload_n hx hb dX12_learn_32 rfl (lv_at hl 0 rfl) ?_
          refine va_iald hx hb hK hP 32 1 rfl rfl (z_in (i := x736) (by omega) (by omega)) dX12_learn_33 ?_
          refine lv_topi (fun x759 ex759 => ?_)
          have kx759 : x759.toInt = ((F 50) (Int32.toNatClampNeg x736)).toInt := congrArg Int32.toInt ex759
          have fx759 := hF50z (Int32.toNatClampNeg x736)
          clear ex759
          refine lv_aload_n hx hb dX12_learn_34 rfl (lv_at hl 1 rfl) ?_
          refine va_get (D := (dC, dI)) (ci := 12) (v := .ref (q 22)) (C := RX12) (T := TX12) (N := 71) hx hb hts (fun _ h => List.mem_append_right _ h) hown hK hP 0 rfl rfl 22 (by decide) (hts (.fieldLink RX12 55 "SpellTurnerModel" "word" "[B") (List.mem_of_getElem? (i := 10) rfl)) (fun _ h9 => h9) rfl dX12_learn_35 ?_
          refine lv_iconst (v := 0) hx hb dX12_learn_38 (by decide +kernel) ?_
          refine lv_aload_n hx hb dX12_learn_39 rfl (lv_at hl 1 rfl) ?_
          refine va_get (D := (dC, dI)) (ci := 12) (v := .int (ga728 23)) (C := RX12) (T := TX12) (N := 71) hx hb hts (fun _ h => List.mem_append_right _ h) hown hK hP 0 rfl rfl 23 (by decide) (hts (.fieldLink RX12 244 "SpellTurnerModel" "letters" "I") (List.mem_of_getElem? (i := 6) rfl)) (fun _ h9 => h9) rfl dX12_learn_40 ?_
          have hFc := va_free (wc := (mW h0 kB kI kZ q (upd (upd g 1 (ga728 1)) 23 (ga728 23)) (upF F 22 (fa729 22)))) hD hS hA [0, 1, 2, 3, 4, 5, 6, 7, 8, 9, 10, 11, 12, 13, 14, 15, 16, 17, 18, 19, 20, 21, 22, 23, 24, 25, 26, 27, 28, 29, 30, 31, 32, 33, 34, 35, 36, 37, 38, 39, 40, 41, 42, 43, 44, 45] rfl
          refine va_calli (va_runS (As := [.ref (q 49), .int x758, .int x759, .ref (q 22), .int 0, .int (ga728 23)]) (rest := []) ⟨hx, hb, hml, hown, hts⟩ (m_sameBytes_49_22 l dC dI H.size h0 kB kI kZ q (upd (upd g 1 (ga728 1)) 23 (ga728 23)) (upF F 22 (fa729 22)) x758 x759 0 (ga728 23) ⟨hg730, hg2z, hg3z, hg4z, hg5z, hg6z, hg7z, hg8z, hg9z, hg731, hg27z, hg30z, hg34z, hg36z, hg39z, hg44z, hg47z, hg48z, hg51z, hg56z, hg59z, hg62z, hg65z, hg66z, hg70z, hF11z, hF12z, hF13z, hF15z, hF19z, hF21z, hF24z, hF25z, hF26z, hF33z, hF38z, hF41z, hF43z, hF45z, hF46z, hF50z, hF53z, hF54z⟩ (show (0 ≤ x758.toInt ∧ x758.toInt + x759.toInt ≤ 2400) from by omega) (show (0 ≤ (0 : Int32).toInt ∧ (0 : Int32).toInt + (ga728 23).toInt ≤ 24) from by omega)) (va_cwS 6 hts gw_X12_learn_X12_sameBytes_273 rfl rfl rfl (by decide +kernel) ⟨Nat.le_of_ble_eq_true rfl, Nat.le_of_ble_eq_true rfl⟩) ⟨fun a U g mk q => by obtain ⟨q0, q1, qP, qK, qD⟩ := q; exact ⟨q0, q1, qP, va_K.moved (u := U) (U := U.calling g mk a) (Vm.Alike.refl U.vm) qK, qD⟩, fun U hU hW => ⟨rfl, by rw [hU], by rw [hU]; exact hP, va_K.moved hW.alike hK, hD.weaken (fun _ _ _ _ => trivial)⟩⟩ rfl rfl hl.1 rfl (lv_room (Nat.le_of_ble_eq_true rfl)) dX12_learn_43 ⟨Nat.le_of_ble_eq_true rfl, Nat.le_of_ble_eq_true rfl⟩) hS (fun q _ h => hFc q h) hFc (fun r760 u t H1 locs ht hvm hw hB hz1 hk1 hS => ?_)
          obtain ⟨ga761, fa762⟩ := u
          obtain ⟨hP1, hK1, hD1⟩ := hB
          rw [ht] at hP1
          obtain ⟨hP, hD⟩ := va_join (wr := []) (w1 := (mW h0 kB kI kZ q (upd (upd g 1 (ga728 1)) 23 (ga728 23)) (upF F 22 (fa729 22)))) hP hD [0, 1, 2, 3, 4, 5, 6, 7, 8, 9, 10, 11, 12, 13, 14, 15, 16, 17, 18, 19, 20, 21, 22, 23, 24, 25, 26, 27, 28, 29, 30, 31, 32, 33, 34, 35, 36, 37, 38, 39, 40, 41, 42, 43, 44, 45] [] rfl rfl (by decide) (by decide) hk1 hFc hP1 hD1
          generalize H1 = H at hP hS ⊢
          have hP : va_P (dC, dI) vwCl (mW h0 kB kI kZ q (upd (upd g 1 (ga728 1)) 23 (ga728 23)) (upF F 22 (fa729 22))) H := hP
          have hD : va_D A (mW h0 kB kI kZ q (upd (upd g 1 (ga728 1)) 23 (ga728 23)) (upF F 22 (fa729 22))) := hD
          have f763 : (0 ≤ r760.toInt ∧ r760.toInt ≤ 1) := hw
          refine lv_if_eq (tgt := 51) hx hb dX12_learn_46 (by decide) (fun c764 => ?_) (fun c764 => ?_)
          · have c764 := congrArg Int32.toInt c764
            obtain ⟨x765, ex765⟩ : ∃ y : Int32, y = x736 + 1 := ⟨_, rfl⟩
            have fx765 : x765.toInt = x736.toInt + (1) := by rw [ex765, z_add (by omega) (by omega)]; omega
            refine lv_iinc (v := x765) (lv' := [(1, .int x765), (0, .ref h0)]) hx hb dX12_learn_51 hl (k := 0) rfl (by rw [ex765]; rfl) (by decide) rfl (fun ls hl => ?_)
            clear ex765
            refine lv_goto (tgt := 12) hx hb dX12_learn_54 (by decide) ?_
            exact ih12 x765 (upd (upd g 1 (ga728 1)) 23 (ga728 23)) (upF F 22 (fa729 22)) H _ ls (show (100 - x765.toInt).toNat < n12 from by omega) (show (0 ≤ x765.toInt ∧ x765.toInt ≤ 100) from by omega) hP hD hS (lv_sub hl [0, 1] rfl)
          · have c764 := z_ne c764
            refine lv_iload_n hx hb dX12_learn_49 rfl (lv_at hl 0 rfl) ?_
            exact K 50 ls x736 ((upd (upd g 1 (ga728 1)) 23 (ga728 23)), (upF F 22 (fa729 22))) H _ dX12_learn_50 ⟨hg730, hg731, hg48z, hg51z, hF50z, (show (ga728 1).toInt = 0 from by omega)⟩ hP hD hS
    exact lp12 ((100 - (0 : Int32).toInt).toNat + 1) 0 (upd (upd g 1 (ga728 1)) 23 (ga728 23)) (upF F 22 (fa729 22)) H _ ls (Nat.lt_succ_self _) (show (0 ≤ (0 : Int32).toInt ∧ (0 : Int32).toInt ≤ 100) from by omega) hP hD hS (lv_sub hl [0, 1] rfl)
  · have c735 := congrArg Int32.toInt c735
    refine lv_bipush (v := (-2)) hx hb dX12_learn_7 (by decide +kernel) ?_
    exact K 9 ls (-2) ((upd (upd g 1 (ga728 1)) 23 (ga728 23)), (upF F 22 (fa729 22))) H _ dX12_learn_9 ⟨hg730, hg731, hg48z, hg51z, hF50z, (show (ga728 1).toInt = 0 from by omega)⟩ hP hD hS
set_option maxHeartbeats 4000000 in
set_option maxRecDepth 100000 in
theorem m_learn (l : Launch) (dC : Nat → ClassId) (dI : Nat → Nat → Nat) (sz : Nat) (h0 : Nat) (kB kI kZ : ClassId) (q : Nat → Nat) (g : Nat → Int32) (F : Nat → Nat → Int32) (hI : MInv g F) : Met l yX12_learn vmX12_learn ({ frames := 4, cells := 0, slots := 0, locals := 106 } : Room) (va_Pc [.ref h0] (fun U => U.heap.size = sz ∧ va_P (dC, dI) vwCl (mW h0 kB kI kZ q g F) U.heap ∧ va_K (dC, dI) vwCl (mT kB kI kZ) U ∧ va_D (fun _ => True) (mW h0 kB kI kZ q g F))) (va_Qi (fun (r : Int32) (u : ((Nat → Int32) × (Nat → Nat → Int32))) => (((0) ≤ (u.1 1).toInt ∧ (u.1 1).toInt ≤ 2000)) ∧ (((0) ≤ (u.1 23).toInt ∧ (u.1 23).toInt ≤ 24)) ∧ (((0) ≤ (u.1 48).toInt ∧ (u.1 48).toInt ≤ 100)) ∧ (((0) ≤ (u.1 51).toInt ∧ (u.1 51).toInt ≤ 1)) ∧ (rng (0) 24 (u.2 50)) ∧ ((u.1 1).toInt = 0)) (fun u t => va_P (dC, dI) vwCl (mW h0 kB kI kZ q (upd (upd (upd (upd g 1 (u.1 1)) 23 (u.1 23)) 48 (u.1 48)) 51 (u.1 51)) (upF (upF (upF F 22 (u.2 22)) 49 (u.2 49)) 50 (u.2 50))) t.heap ∧ va_K (dC, dI) vwCl (mT kB kI kZ) t ∧ va_D (va_A (mW h0 kB kI kZ q g F) sz) (mW h0 kB kI kZ q (upd (upd (upd (upd g 1 (u.1 1)) 23 (u.1 23)) 48 (u.1 48)) 51 (u.1 51)) (upF (upF (upF F 22 (u.2 22)) 49 (u.2 49)) 50 (u.2 50)))) (va_A (mW h0 kB kI kZ q g F) sz)) 0 0 (va_A (mW h0 kB kI kZ q g F) sz) := by
  refine Met.ofW (cc := cX12_learn) (maxL := 2) (ret := (some .int)) (by decide) rfl ?_
  intro p e s m args below meth c s₁ B hml hv
  obtain ⟨rfl, hsz, hP, hK, hD0⟩ := hv
  have hx := B.exec
  have hb := B.bytes
  have hr := B.returns
  have hts := atoms_spec (ws := vmX12_learn) B.pre
  have hown : s.vm.findClass RX12 = some m.cls := findClass_of_methodNamed B.named
  subst hsz
  have hD := hD0.self (sz := s.heap.size)
  generalize hAe : va_A (mW h0 kB kI kZ q g F) s.heap.size = A at hD ⊢
  have hA : ∀ q : Nat, s.heap.size ≤ q → A q := fun q h => by rw [← hAe]; exact Or.inr h
  have hS : va_S A s.heap s.heap [] := va_S.rf
  have hl := lv_entry ([.ref h0]) (n := 2) (Nat.le_of_ble_eq_true rfl)
  rw [lg_entry_eq]
  generalize (lg_sl ([.ref h0]) ++ List.replicate (2 - (lg_sl ([.ref h0])).length) Slot.unset).toArray = ls at hl ⊢
  exact bm_learn hx hb hml hown hts hA hK hI hP hD hS hl (fun pc ls r u H locs hd hw hP hD hS => W.iret (v := r) hx hb hr (fun t ht hW => ⟨⟨r, u, rfl, hw, by rw [ht]; exact hP, va_K.moved hW.alike hK, hD⟩, hS.F ht⟩) hS.2.2 hd)
set_option maxHeartbeats 4000000 in
set_option maxRecDepth 100000 in
theorem bm_take_14_15 {p : Program} {l : Launch} {e : Env} {s : State} {m : MethodId} {args : Array Value} {below : List Frame} {meth : Method} {c : Code} {Q : State → Prop} {A : Nat → Prop} {dC : Nat → ClassId} {dI : Nat → Nat → Nat} {h0 : Nat} {kB kI kZ : ClassId} {q : Nat → Nat} {g : Nat → Int32} {F : Nat → Nat → Int32} {H : Heap} {locs : List Loc} {ls : Array Slot} (p2 : Int32) (p3 : Int32) (hx : p.tables.exec = Jvm.exec) (hb : c.code = cX12_take) (hml : c.maxLocals = 7) (hown : s.vm.findClass RX12 = some m.cls) (hts : ∀ w ∈ vmX12_take, w.before args s = true) (hA : ∀ q : Nat, s.heap.size ≤ q → A q) (hK : va_K (dC, dI) vwCl (mT kB kI kZ) s) (hI : MInv g F) (hq0 : (0 ≤ p2.toInt ∧ p2.toInt < 1120)) (hq1 : ((g 3).toInt = 2 → (g 5).toInt + 2 ≤ (g 6).toInt ∧ (g 6).toInt ≤ (g 5).toInt + 18 ∧ (g 6).toInt ≤ 2000)) (hP : va_P (dC, dI) vwCl (mW h0 kB kI kZ q g F) H) (hD : va_D A (mW h0 kB kI kZ q g F)) (hS : va_S A s.heap H locs) (hl : lv_has ls 7 [(0, .ref h0), (1, .ref (q 14)), (2, .ref (q 15)), (3, .int p2), (4, .int p3)])
    (K : ∀ (pc : Nat) (ls : Array Slot) (r : Int32) (u : ((Nat → Int32) × (Nat → Nat → Int32))) (H : Heap) (locs : List Loc), decode cX12_take pc = .ok (.ireturn, 1) → ((((0) ≤ (u.1 7).toInt ∧ (u.1 7).toInt ≤ 4)) ∧ (((-1) ≤ (u.1 8).toInt ∧ (u.1 8).toInt ≤ 2000)) ∧ (rng (-1) 16 (u.2 15)) ∧ ((r.toInt = 1 → (g 3).toInt = 2)) ∧ ((0 ≤ r.toInt ∧ r.toInt ≤ 1))) → va_P (dC, dI) vwCl (mW h0 kB kI kZ q (upd (upd g 7 (u.1 7)) 8 (u.1 8)) (upF (upF F 14 (u.2 14)) 15 (u.2 15))) H → va_D A (mW h0 kB kI kZ q (upd (upd g 7 (u.1 7)) 8 (u.1 8)) (upF (upF F 14 (u.2 14)) 15 (u.2 15))) → va_S A s.heap H locs → W p l e ({ frames := 3, cells := 0, slots := 0, locals := 81 } : Room) s m args below meth c H locs 0 0 Q (F0 m pc ls [.int r])) : W p l e ({ frames := 3, cells := 0, slots := 0, locals := 81 } : Room) s m args below meth c H locs 0 0 Q (F0 m 0 ls []) := by
  obtain ⟨hg1z, hg2z, hg3z, hg4z, hg5z, hg6z, hg7z, hg8z, hg9z, hg23z, hg27z, hg30z, hg34z, hg36z, hg39z, hg44z, hg47z, hg48z, hg51z, hg56z, hg59z, hg62z, hg65z, hg66z, hg70z, hF11z, hF12z, hF13z, hF15z, hF19z, hF21z, hF24z, hF25z, hF26z, hF33z, hF38z, hF41z, hF43z, hF45z, hF46z, hF50z, hF53z, hF54z⟩ := hI
  have zk0 : (0 : Int32).toInt = 0 := by decide +kernel
  have zk1 : (1 : Int32).toInt = 1 := by decide +kernel
  have zk2 : (2 : Int32).toInt = 2 := by decide +kernel
  have zk16 : (16 : Int32).toInt = 16 := by decide +kernel
  refine lv_aload_n hx hb dX12_take_0 rfl (lv_at hl 0 rfl) ?_
  refine va_get (D := (dC, dI)) (ci := 12) (v := .int (g 3)) (C := RX12) (T := TX12) (N := 71) hx hb hts (fun _ h => List.mem_append_right _ h) hown hK hP 0 rfl rfl 3 (by decide) (hts (.fieldLink RX12 180 "SpellTurnerModel" "sort" "I") (List.mem_of_getElem? (i := 1) rfl)) (fun _ h9 => h9) rfl dX12_take_1 ?_
  refine lv_iconst (v := 2) hx hb dX12_take_4 (by decide +kernel) ?_
  refine lv_icmp_eq (tgt := 14) hx hb dX12_take_5 (by decide) (fun c766 => ?_) (fun c766 => ?_)
  · have c766 := congrArg Int32.toInt c766
    refine lv_aload_n hx hb dX12_take_14 rfl (lv_at hl 0 rfl) ?_
    refine va_get (D := (dC, dI)) (ci := 12) (v := .int (g 6)) (C := RX12) (T := TX12) (N := 71) hx hb hts (fun _ h => List.mem_append_right _ h) hown hK hP 0 rfl rfl 6 (by decide) (hts (.fieldLink RX12 174 "SpellTurnerModel" "end" "I") (List.mem_of_getElem? (i := 2) rfl)) (fun _ h9 => h9) rfl dX12_take_15 ?_
    refine lv_aload_n hx hb dX12_take_18 rfl (lv_at hl 0 rfl) ?_
    refine va_get (D := (dC, dI)) (ci := 12) (v := .int (g 5)) (C := RX12) (T := TX12) (N := 71) hx hb hts (fun _ h => List.mem_append_right _ h) hown hK hP 0 rfl rfl 5 (by decide) (hts (.fieldLink RX12 177 "SpellTurnerModel" "at" "I") (List.mem_of_getElem? (i := 3) rfl)) (fun _ h9 => h9) rfl dX12_take_19 ?_
    refine lv_isub hx hb dX12_take_22 ?_
    refine lv_topi (fun x767 ex767 => ?_)
    have fx767 : x767.toInt = (g 6).toInt - (g 5).toInt := by have h := @z_sub (g 6) (g 5) (by omega) (by omega); rw [← ex767] at h; omega
    clear ex767
    refine lv_iconst (v := 2) hx hb dX12_take_23 (by decide +kernel) ?_
    refine lv_isub hx hb dX12_take_24 ?_
    refine lv_topi (fun x768 ex768 => ?_)
    have fx768 : x768.toInt = x767.toInt - 2 := by have h := @z_sub x767 (2 : Int32) (by omega) (by omega); rw [← ex768] at h; omega
    clear ex768
    refine lv_istore (lv' := [(5, .int x768), (0, .ref h0), (1, .ref (q 14)), (2, .ref (q 15)), (3, .int p2), (4, .int p3)]) hx hb dX12_take_25 hl (by decide) rfl (fun ls hl => ?_)
    refine lv_iload hx hb dX12_take_27 (lv_at hl 5 rfl) ?_
    refine lv_if_eq (tgt := 43) hx hb dX12_take_29 (by decide) (fun c769 => ?_) (fun c769 => ?_)
    · have c769 := congrArg Int32.toInt c769
      refine lv_iconst (v := 0) hx hb dX12_take_43 (by decide +kernel) ?_
      refine lv_istore (lv' := [(6, .int 0), (5, .int x768), (0, .ref h0), (1, .ref (q 14)), (2, .ref (q 15)), (3, .int p2), (4, .int p3)]) hx hb dX12_take_44 hl (by decide) rfl (fun ls hl => ?_)
      have lp46 : ∀ (n46 : Nat) (x770 : Int32) (gl771 : Nat → Int32) (fl772 : Nat → Nat → Int32) (H : Heap) (locs : List Loc) (ls : Array Slot), (16 - x770.toInt).toNat < n46 → 0 ≤ x770.toInt → va_P (dC, dI) vwCl (mW h0 kB kI kZ q g (upF F 14 (fl772 14))) H → va_D A (mW h0 kB kI kZ q g (upF F 14 (fl772 14))) → va_S A s.heap H locs → lv_has ls 7 [(6, .int x770), (5, .int x768), (0, .ref h0), (1, .ref (q 14)), (2, .ref (q 15)), (3, .int p2), (4, .int p3)] → W p l e ({ frames := 3, cells := 0, slots := 0, locals := 81 } : Room) s m args below meth c H locs 0 0 Q (F0 m 46 ls []) := by
        intro n46
        induction n46 with
        | zero => intro x770 gl771 fl772 H locs ls hm; exact absurd hm (Nat.not_lt_zero _)
        | succ n46 ih46 =>
          intro x770 gl771 fl772 H locs ls hm46 f773 hP hD hS hl
          refine lv_iload hx hb dX12_take_46 (lv_at hl 0 rfl) ?_
          refine lv_iload hx hb dX12_take_48 (lv_at hl 1 rfl) ?_
          refine lv_icmp_ge (tgt := 82) hx hb dX12_take_50 (by decide) (fun c774 => ?_) (fun c774 => ?_)
          · have c774 := (z_le _ _).mp c774
            refine lv_aload_n hx hb dX12_take_82 rfl (lv_at hl 4 rfl) ?_
            refine lv_iload_n hx hb dX12_take_83 rfl (lv_at hl 5 rfl) ?_
            refine lv_iload hx hb dX12_take_84 (lv_at hl 1 rfl) ?_
            refine va_iast hx hb hK hP hD hS 7 1 rfl rfl (z_in (i := p2) (by omega) (by omega)) dX12_take_86 (fun H locs hP hD hS => ?_)
            obtain ⟨f775, hF776, hP, hD⟩ : ∃ f775 : Nat → Int32, rng (-1) 16 f775 ∧ va_P (dC, dI) vwCl (mW h0 kB kI kZ q g (upF (upF F 14 (fl772 14)) 15 f775)) H ∧ va_D A (mW h0 kB kI kZ q g (upF (upF F 14 (fl772 14)) 15 f775)) := ⟨(upd (F 15) (Int32.toNatClampNeg p2) x768), rng_upd hF15z (x := x768) (by omega) (by omega), hP, hD⟩
            refine lv_iconst (v := 1) hx hb dX12_take_87 (by decide +kernel) ?_
            exact K 88 ls 1 (g, (upF (upF F 14 (fl772 14)) 15 f775)) H _ dX12_take_88 ⟨hg7z, hg8z, hF776, (show ((1 : Int32).toInt = 1 → (g 3).toInt = 2) from by omega), (show (0 ≤ (1 : Int32).toInt ∧ (1 : Int32).toInt ≤ 1) from by omega)⟩ hP hD hS
          · have c774 := z_nle c774
            refine lv_aload_n hx hb dX12_take_53 rfl (lv_at hl 3 rfl) ?_
            refine lv_bipush (v := 16) hx hb dX12_take_54 (by decide +kernel) ?_
            refine lv_iload_n hx hb dX12_take_56 rfl (lv_at hl 5 rfl) ?_
            refine lv_imul hx hb dX12_take_57 ?_
            refine lv_topi (fun x777 ex777 => ?_)
            have fx777 : x777.toInt = 16 * p2.toInt := by rw [ex777, z_mul (by simp only [zk16]; omega) (by simp only [zk16]; omega)]; simp only [zk16]
            clear ex777
            refine lv_iload hx hb dX12_take_58 (lv_at hl 0 rfl) ?_
            refine lv_iadd hx hb dX12_take_60 ?_
            refine lv_topi (fun x778 ex778 => ?_)
            have fx778 : x778.toInt = x777.toInt + x770.toInt := by have h := @z_add x777 x770 (by omega) (by omega); rw [← ex778] at h; omega
            clear ex778
            refine lv_aload_n hx hb dX12_take_61 rfl (lv_at hl 2 rfl) ?_
            refine va_get (D := (dC, dI)) (ci := 12) (v := .ref (q 0)) (C := RX12) (T := TX12) (N := 71) hx hb hts (fun _ h => List.mem_append_right _ h) hown hK hP 0 rfl rfl 0 (by decide) (hts (.fieldLink RX12 7 "SpellTurnerModel" "tape" "[B") (List.mem_of_getElem? (i := 4) rfl)) (fun _ h9 => h9) rfl dX12_take_62 ?_
            refine lv_aload_n hx hb dX12_take_65 rfl (lv_at hl 2 rfl) ?_
            refine va_get (D := (dC, dI)) (ci := 12) (v := .int (g 5)) (C := RX12) (T := TX12) (N := 71) hx hb hts (fun _ h => List.mem_append_right _ h) hown hK hP 0 rfl rfl 5 (by decide) (hts (.fieldLink RX12 177 "SpellTurnerModel" "at" "I") (List.mem_of_getElem? (i := 3) rfl)) (fun _ h9 => h9) rfl dX12_take_66 ?_
            refine lv_iconst (v := 1) hx hb dX12_take_69 (by decide +kernel) ?_
            refine lv_iadd hx hb dX12_take_70 ?_
            refine lv_topi (fun x779 ex779 => ?_)
            have fx779 : x779.toInt = (g 5).toInt + 1 := by have h := @z_add (g 5) (1 : Int32) (by omega) (by omega); rw [← ex779] at h; omega
            clear ex779
            refine lv_iload hx hb dX12_take_71 (lv_at hl 0 rfl) ?_
            refine lv_iadd hx hb dX12_take_73 ?_
            refine lv_topi (fun x780 ex780 => ?_)
            have fx780 : x780.toInt = x779.toInt + x770.toInt := by have h := @z_add x779 x770 (by omega) (by omega); rw [← ex780] at h; omega
            clear ex780
            refine va_bald hx hb hK hP 1 0 rfl rfl (z_in (i := x780) (by omega) (by omega)) dX12_take_74 ?_
            refine lv_topi (fun x781 ex781 => ?_)
            clear ex781
            refine va_bast hx hb hK hP hD hS 6 0 rfl rfl (z_in (i := x778) (by omega) (by omega)) dX12_take_75 (fun H locs hP hD hS => ?_)
            obtain ⟨f782, hP, hD⟩ : ∃ f782 : Nat → Int32, va_P (dC, dI) vwCl (mW h0 kB kI kZ q g (upF F 14 f782)) H ∧ va_D A (mW h0 kB kI kZ q g (upF F 14 f782)) := ⟨(upd (fl772 14) (Int32.toNatClampNeg x778) (vp_nar .byte x781)), hP, hD⟩
            obtain ⟨x783, ex783⟩ : ∃ y : Int32, y = x770 + 1 := ⟨_, rfl⟩
            have fx783 : x783.toInt = x770.toInt + (1) := by rw [ex783, z_add (by omega) (by omega)]; omega
            refine lv_iinc (v := x783) (lv' := [(6, .int x783), (5, .int x768), (0, .ref h0), (1, .ref (q 14)), (2, .ref (q 15)), (3, .int p2), (4, .int p3)]) hx hb dX12_take_76 hl (k := 0) rfl (by rw [ex783]; rfl) (by decide) rfl (fun ls hl => ?_)
            clear ex783
            refine lv_goto (tgt := 46) hx hb dX12_take_79 (by decide) ?_
            exact ih46 x783 g (upF F 14 f782) H _ ls (show (16 - x783.toInt).toNat < n46 from by omega) (show 0 ≤ x783.toInt from by omega) hP hD hS (lv_sub hl [0, 1, 2, 3, 4, 5, 6] rfl)
      exact lp46 ((16 - (0 : Int32).toInt).toNat + 1) 0 g F H _ ls (Nat.lt_succ_self _) (show 0 ≤ (0 : Int32).toInt from by omega) hP hD hS (lv_sub hl [0, 1, 2, 3, 4, 5, 6] rfl)
    · have c769 := z_ne c769
      refine lv_iload hx hb dX12_take_32 (lv_at hl 0 rfl) ?_
      refine lv_if_ne (tgt := 43) hx hb dX12_take_34 (by decide) (fun c784 => ?_) (fun c784 => ?_)
      · have c784 := z_ne c784
        refine lv_iconst (v := 0) hx hb dX12_take_43 (by decide +kernel) ?_
        refine lv_istore (lv' := [(6, .int 0), (5, .int x768), (0, .ref h0), (1, .ref (q 14)), (2, .ref (q 15)), (3, .int p2), (4, .int p3)]) hx hb dX12_take_44 hl (by decide) rfl (fun ls hl => ?_)
        have lp46 : ∀ (n46 : Nat) (x785 : Int32) (gl786 : Nat → Int32) (fl787 : Nat → Nat → Int32) (H : Heap) (locs : List Loc) (ls : Array Slot), (16 - x785.toInt).toNat < n46 → 0 ≤ x785.toInt → va_P (dC, dI) vwCl (mW h0 kB kI kZ q g (upF F 14 (fl787 14))) H → va_D A (mW h0 kB kI kZ q g (upF F 14 (fl787 14))) → va_S A s.heap H locs → lv_has ls 7 [(6, .int x785), (5, .int x768), (0, .ref h0), (1, .ref (q 14)), (2, .ref (q 15)), (3, .int p2), (4, .int p3)] → W p l e ({ frames := 3, cells := 0, slots := 0, locals := 81 } : Room) s m args below meth c H locs 0 0 Q (F0 m 46 ls []) := by
          intro n46
          induction n46 with
          | zero => intro x785 gl786 fl787 H locs ls hm; exact absurd hm (Nat.not_lt_zero _)
          | succ n46 ih46 =>
            intro x785 gl786 fl787 H locs ls hm46 f788 hP hD hS hl
            refine lv_iload hx hb dX12_take_46 (lv_at hl 0 rfl) ?_
            refine lv_iload hx hb dX12_take_48 (lv_at hl 1 rfl) ?_
            refine lv_icmp_ge (tgt := 82) hx hb dX12_take_50 (by decide) (fun c789 => ?_) (fun c789 => ?_)
            · have c789 := (z_le _ _).mp c789
              refine lv_aload_n hx hb dX12_take_82 rfl (lv_at hl 4 rfl) ?_
              refine lv_iload_n hx hb dX12_take_83 rfl (lv_at hl 5 rfl) ?_
              refine lv_iload hx hb dX12_take_84 (lv_at hl 1 rfl) ?_
              refine va_iast hx hb hK hP hD hS 7 1 rfl rfl (z_in (i := p2) (by omega) (by omega)) dX12_take_86 (fun H locs hP hD hS => ?_)
              obtain ⟨f790, hF791, hP, hD⟩ : ∃ f790 : Nat → Int32, rng (-1) 16 f790 ∧ va_P (dC, dI) vwCl (mW h0 kB kI kZ q g (upF (upF F 14 (fl787 14)) 15 f790)) H ∧ va_D A (mW h0 kB kI kZ q g (upF (upF F 14 (fl787 14)) 15 f790)) := ⟨(upd (F 15) (Int32.toNatClampNeg p2) x768), rng_upd hF15z (x := x768) (by omega) (by omega), hP, hD⟩
              refine lv_iconst (v := 1) hx hb dX12_take_87 (by decide +kernel) ?_
              exact K 88 ls 1 (g, (upF (upF F 14 (fl787 14)) 15 f790)) H _ dX12_take_88 ⟨hg7z, hg8z, hF791, (show ((1 : Int32).toInt = 1 → (g 3).toInt = 2) from by omega), (show (0 ≤ (1 : Int32).toInt ∧ (1 : Int32).toInt ≤ 1) from by omega)⟩ hP hD hS
            · have c789 := z_nle c789
              refine lv_aload_n hx hb dX12_take_53 rfl (lv_at hl 3 rfl) ?_
              refine lv_bipush (v := 16) hx hb dX12_take_54 (by decide +kernel) ?_
              refine lv_iload_n hx hb dX12_take_56 rfl (lv_at hl 5 rfl) ?_
              refine lv_imul hx hb dX12_take_57 ?_
              refine lv_topi (fun x792 ex792 => ?_)
              have fx792 : x792.toInt = 16 * p2.toInt := by rw [ex792, z_mul (by simp only [zk16]; omega) (by simp only [zk16]; omega)]; simp only [zk16]
              clear ex792
              refine lv_iload hx hb dX12_take_58 (lv_at hl 0 rfl) ?_
              refine lv_iadd hx hb dX12_take_60 ?_
              refine lv_topi (fun x793 ex793 => ?_)
              have fx793 : x793.toInt = x792.toInt + x785.toInt := by have h := @z_add x792 x785 (by omega) (by omega); rw [← ex793] at h; omega
              clear ex793
              refine lv_aload_n hx hb dX12_take_61 rfl (lv_at hl 2 rfl) ?_
              refine va_get (D := (dC, dI)) (ci := 12) (v := .ref (q 0)) (C := RX12) (T := TX12) (N := 71) hx hb hts (fun _ h => List.mem_append_right _ h) hown hK hP 0 rfl rfl 0 (by decide) (hts (.fieldLink RX12 7 "SpellTurnerModel" "tape" "[B") (List.mem_of_getElem? (i := 4) rfl)) (fun _ h9 => h9) rfl dX12_take_62 ?_
              refine lv_aload_n hx hb dX12_take_65 rfl (lv_at hl 2 rfl) ?_
              refine va_get (D := (dC, dI)) (ci := 12) (v := .int (g 5)) (C := RX12) (T := TX12) (N := 71) hx hb hts (fun _ h => List.mem_append_right _ h) hown hK hP 0 rfl rfl 5 (by decide) (hts (.fieldLink RX12 177 "SpellTurnerModel" "at" "I") (List.mem_of_getElem? (i := 3) rfl)) (fun _ h9 => h9) rfl dX12_take_66 ?_
              refine lv_iconst (v := 1) hx hb dX12_take_69 (by decide +kernel) ?_
              refine lv_iadd hx hb dX12_take_70 ?_
              refine lv_topi (fun x794 ex794 => ?_)
              have fx794 : x794.toInt = (g 5).toInt + 1 := by have h := @z_add (g 5) (1 : Int32) (by omega) (by omega); rw [← ex794] at h; omega
              clear ex794
              refine lv_iload hx hb dX12_take_71 (lv_at hl 0 rfl) ?_
              refine lv_iadd hx hb dX12_take_73 ?_
              refine lv_topi (fun x795 ex795 => ?_)
              have fx795 : x795.toInt = x794.toInt + x785.toInt := by have h := @z_add x794 x785 (by omega) (by omega); rw [← ex795] at h; omega
              clear ex795
              refine va_bald hx hb hK hP 1 0 rfl rfl (z_in (i := x795) (by omega) (by omega)) dX12_take_74 ?_
              refine lv_topi (fun x796 ex796 => ?_)
              clear ex796
              refine va_bast hx hb hK hP hD hS 6 0 rfl rfl (z_in (i := x793) (by omega) (by omega)) dX12_take_75 (fun H locs hP hD hS => ?_)
              obtain ⟨f797, hP, hD⟩ : ∃ f797 : Nat → Int32, va_P (dC, dI) vwCl (mW h0 kB kI kZ q g (upF F 14 f797)) H ∧ va_D A (mW h0 kB kI kZ q g (upF F 14 f797)) := ⟨(upd (fl787 14) (Int32.toNatClampNeg x793) (vp_nar .byte x796)), hP, hD⟩
              obtain ⟨x798, ex798⟩ : ∃ y : Int32, y = x785 + 1 := ⟨_, rfl⟩
              have fx798 : x798.toInt = x785.toInt + (1) := by rw [ex798, z_add (by omega) (by omega)]; omega
              refine lv_iinc (v := x798) (lv' := [(6, .int x798), (5, .int x768), (0, .ref h0), (1, .ref (q 14)), (2, .ref (q 15)), (3, .int p2), (4, .int p3)]) hx hb dX12_take_76 hl (k := 0) rfl (by rw [ex798]; rfl) (by decide) rfl (fun ls hl => ?_)
              clear ex798
              refine lv_goto (tgt := 46) hx hb dX12_take_79 (by decide) ?_
              exact ih46 x798 g (upF F 14 f797) H _ ls (show (16 - x798.toInt).toNat < n46 from by omega) (show 0 ≤ x798.toInt from by omega) hP hD hS (lv_sub hl [0, 1, 2, 3, 4, 5, 6] rfl)
        exact lp46 ((16 - (0 : Int32).toInt).toNat + 1) 0 g F H _ ls (Nat.lt_succ_self _) (show 0 ≤ (0 : Int32).toInt from by omega) hP hD hS (lv_sub hl [0, 1, 2, 3, 4, 5, 6] rfl)
      · have c784 := congrArg Int32.toInt c784
        refine lv_aload_n hx hb dX12_take_37 rfl (lv_at hl 1 rfl) ?_
        refine lv_iconst (v := 2) hx hb dX12_take_38 (by decide +kernel) ?_
        have hFc := va_free (wc := (mW h0 kB kI kZ q g F)) hD hS hA [0, 1, 2, 3, 4, 5, 6, 7, 8, 9, 10, 11, 12, 13, 14, 15, 16, 17, 18, 19, 20, 21, 22, 23, 24, 25, 26, 27, 28, 29, 30, 31, 32, 33, 34, 35, 36, 37, 38, 39, 40, 41, 42, 43, 44, 45] rfl
        refine va_calli (va_runV (As := [.int 2]) (rest := []) ⟨hx, hb, hml, hown, hts⟩ (m_wrong l dC dI H.size h0 kB kI kZ q g F 2 ⟨hg1z, hg2z, hg3z, hg4z, hg5z, hg6z, hg7z, hg8z, hg9z, hg23z, hg27z, hg30z, hg34z, hg36z, hg39z, hg44z, hg47z, hg48z, hg51z, hg56z, hg59z, hg62z, hg65z, hg66z, hg70z, hF11z, hF12z, hF13z, hF15z, hF19z, hF21z, hF24z, hF25z, hF26z, hF33z, hF38z, hF41z, hF43z, hF45z, hF46z, hF50z, hF53z, hF54z⟩ (show 0 ≤ (2 : Int32).toInt ∧ (2 : Int32).toInt ≤ 4 from by omega)) (cwV 1 hts gw_X12_take_X12_wrong_197 rfl rfl rfl (by decide +kernel) ⟨Nat.le_of_ble_eq_true rfl, Nat.le_of_ble_eq_true rfl⟩) ⟨fun a U g mk q => by obtain ⟨q0, q1, qP, qK, qD⟩ := q; exact ⟨q0, q1, qP, va_K.moved (u := U) (U := U.calling g mk a) (Vm.Alike.refl U.vm) qK, qD⟩, va_recv hK hP (ci := 12) (q0 := 0) rfl rfl, fun U hU hW => ⟨rfl, by rw [hU], by rw [hU]; exact hP, va_K.moved hW.alike hK, hD.weaken (fun _ _ _ _ => trivial)⟩⟩ rfl rfl hl.1 rfl (lv_room (Nat.le_of_ble_eq_true rfl)) dX12_take_39 ⟨Nat.le_of_ble_eq_true rfl, Nat.le_of_ble_eq_true rfl⟩) hS (fun q _ h => hFc q h) hFc (fun r799 u t H1 locs ht hvm hw hB hz1 hk1 hS => ?_)
        obtain ⟨ga800, fa801⟩ := u
        obtain ⟨hP1, hK1, hD1⟩ := hB
        rw [ht] at hP1
        obtain ⟨hP, hD⟩ := va_join (wr := []) (w1 := (mW h0 kB kI kZ q (upd (upd g 7 (ga800 7)) 8 (ga800 8)) F)) hP hD [0, 1, 2, 3, 4, 5, 6, 7, 8, 9, 10, 11, 12, 13, 14, 15, 16, 17, 18, 19, 20, 21, 22, 23, 24, 25, 26, 27, 28, 29, 30, 31, 32, 33, 34, 35, 36, 37, 38, 39, 40, 41, 42, 43, 44, 45] [] rfl rfl (by decide) (by decide) hk1 hFc hP1 hD1
        generalize H1 = H at hP hS ⊢
        have hP : va_P (dC, dI) vwCl (mW h0 kB kI kZ q (upd (upd g 7 (ga800 7)) 8 (ga800 8)) F) H := hP
        have hD : va_D A (mW h0 kB kI kZ q (upd (upd g 7 (ga800 7)) 8 (ga800 8)) F) := hD
        obtain ⟨hg802, hg803, f804, f805⟩ : ((0) ≤ (ga800 7).toInt ∧ (ga800 7).toInt ≤ 4) ∧ ((-1) ≤ (ga800 8).toInt ∧ (ga800 8).toInt ≤ 2000) ∧ (r799.toInt = 0) ∧ ((0 ≤ r799.toInt ∧ r799.toInt ≤ 1)) := hw
        exact K 42 ls r799 ((upd (upd g 7 (ga800 7)) 8 (ga800 8)), F) H _ dX12_take_42 ⟨hg802, hg803, hF15z, (show (r799.toInt = 1 → (g 3).toInt = 2) from by omega), (show (0 ≤ r799.toInt ∧ r799.toInt ≤ 1) from by omega)⟩ hP hD hS
  · have c766 := z_ne c766
    refine lv_aload_n hx hb dX12_take_8 rfl (lv_at hl 0 rfl) ?_
    refine lv_iconst (v := 1) hx hb dX12_take_9 (by decide +kernel) ?_
    have hFc := va_free (wc := (mW h0 kB kI kZ q g F)) hD hS hA [0, 1, 2, 3, 4, 5, 6, 7, 8, 9, 10, 11, 12, 13, 14, 15, 16, 17, 18, 19, 20, 21, 22, 23, 24, 25, 26, 27, 28, 29, 30, 31, 32, 33, 34, 35, 36, 37, 38, 39, 40, 41, 42, 43, 44, 45] rfl
    refine va_calli (va_runV (As := [.int 1]) (rest := []) ⟨hx, hb, hml, hown, hts⟩ (m_wrong l dC dI H.size h0 kB kI kZ q g F 1 ⟨hg1z, hg2z, hg3z, hg4z, hg5z, hg6z, hg7z, hg8z, hg9z, hg23z, hg27z, hg30z, hg34z, hg36z, hg39z, hg44z, hg47z, hg48z, hg51z, hg56z, hg59z, hg62z, hg65z, hg66z, hg70z, hF11z, hF12z, hF13z, hF15z, hF19z, hF21z, hF24z, hF25z, hF26z, hF33z, hF38z, hF41z, hF43z, hF45z, hF46z, hF50z, hF53z, hF54z⟩ (show 0 ≤ (1 : Int32).toInt ∧ (1 : Int32).toInt ≤ 4 from by omega)) (cwV 1 hts gw_X12_take_X12_wrong_197 rfl rfl rfl (by decide +kernel) ⟨Nat.le_of_ble_eq_true rfl, Nat.le_of_ble_eq_true rfl⟩) ⟨fun a U g mk q => by obtain ⟨q0, q1, qP, qK, qD⟩ := q; exact ⟨q0, q1, qP, va_K.moved (u := U) (U := U.calling g mk a) (Vm.Alike.refl U.vm) qK, qD⟩, va_recv hK hP (ci := 12) (q0 := 0) rfl rfl, fun U hU hW => ⟨rfl, by rw [hU], by rw [hU]; exact hP, va_K.moved hW.alike hK, hD.weaken (fun _ _ _ _ => trivial)⟩⟩ rfl rfl hl.1 rfl (lv_room (Nat.le_of_ble_eq_true rfl)) dX12_take_10 ⟨Nat.le_of_ble_eq_true rfl, Nat.le_of_ble_eq_true rfl⟩) hS (fun q _ h => hFc q h) hFc (fun r806 u t H1 locs ht hvm hw hB hz1 hk1 hS => ?_)
    obtain ⟨ga807, fa808⟩ := u
    obtain ⟨hP1, hK1, hD1⟩ := hB
    rw [ht] at hP1
    obtain ⟨hP, hD⟩ := va_join (wr := []) (w1 := (mW h0 kB kI kZ q (upd (upd g 7 (ga807 7)) 8 (ga807 8)) F)) hP hD [0, 1, 2, 3, 4, 5, 6, 7, 8, 9, 10, 11, 12, 13, 14, 15, 16, 17, 18, 19, 20, 21, 22, 23, 24, 25, 26, 27, 28, 29, 30, 31, 32, 33, 34, 35, 36, 37, 38, 39, 40, 41, 42, 43, 44, 45] [] rfl rfl (by decide) (by decide) hk1 hFc hP1 hD1
    generalize H1 = H at hP hS ⊢
    have hP : va_P (dC, dI) vwCl (mW h0 kB kI kZ q (upd (upd g 7 (ga807 7)) 8 (ga807 8)) F) H := hP
    have hD : va_D A (mW h0 kB kI kZ q (upd (upd g 7 (ga807 7)) 8 (ga807 8)) F) := hD
    obtain ⟨hg809, hg810, f811, f812⟩ : ((0) ≤ (ga807 7).toInt ∧ (ga807 7).toInt ≤ 4) ∧ ((-1) ≤ (ga807 8).toInt ∧ (ga807 8).toInt ≤ 2000) ∧ (r806.toInt = 0) ∧ ((0 ≤ r806.toInt ∧ r806.toInt ≤ 1)) := hw
    exact K 13 ls r806 ((upd (upd g 7 (ga807 7)) 8 (ga807 8)), F) H _ dX12_take_13 ⟨hg809, hg810, hF15z, (show (r806.toInt = 1 → (g 3).toInt = 2) from by omega), (show (0 ≤ r806.toInt ∧ r806.toInt ≤ 1) from by omega)⟩ hP hD hS
set_option maxHeartbeats 4000000 in
set_option maxRecDepth 100000 in
theorem m_take_14_15 (l : Launch) (dC : Nat → ClassId) (dI : Nat → Nat → Nat) (sz : Nat) (h0 : Nat) (kB kI kZ : ClassId) (q : Nat → Nat) (g : Nat → Int32) (F : Nat → Nat → Int32) (p2 : Int32) (p3 : Int32) (hI : MInv g F) (hq0 : (0 ≤ p2.toInt ∧ p2.toInt < 1120)) (hq1 : ((g 3).toInt = 2 → (g 5).toInt + 2 ≤ (g 6).toInt ∧ (g 6).toInt ≤ (g 5).toInt + 18 ∧ (g 6).toInt ≤ 2000)) : Met l yX12_take vmX12_take ({ frames := 3, cells := 0, slots := 0, locals := 81 } : Room) (va_Pc [.ref h0, .ref (q 14), .ref (q 15), .int p2, .int p3] (fun U => U.heap.size = sz ∧ va_P (dC, dI) vwCl (mW h0 kB kI kZ q g F) U.heap ∧ va_K (dC, dI) vwCl (mT kB kI kZ) U ∧ va_D (fun _ => True) (mW h0 kB kI kZ q g F))) (va_Qi (fun (r : Int32) (u : ((Nat → Int32) × (Nat → Nat → Int32))) => (((0) ≤ (u.1 7).toInt ∧ (u.1 7).toInt ≤ 4)) ∧ (((-1) ≤ (u.1 8).toInt ∧ (u.1 8).toInt ≤ 2000)) ∧ (rng (-1) 16 (u.2 15)) ∧ ((r.toInt = 1 → (g 3).toInt = 2)) ∧ ((0 ≤ r.toInt ∧ r.toInt ≤ 1))) (fun u t => va_P (dC, dI) vwCl (mW h0 kB kI kZ q (upd (upd g 7 (u.1 7)) 8 (u.1 8)) (upF (upF F 14 (u.2 14)) 15 (u.2 15))) t.heap ∧ va_K (dC, dI) vwCl (mT kB kI kZ) t ∧ va_D (va_A (mW h0 kB kI kZ q g F) sz) (mW h0 kB kI kZ q (upd (upd g 7 (u.1 7)) 8 (u.1 8)) (upF (upF F 14 (u.2 14)) 15 (u.2 15)))) (va_A (mW h0 kB kI kZ q g F) sz)) 0 0 (va_A (mW h0 kB kI kZ q g F) sz) := by
  refine Met.ofW (cc := cX12_take) (maxL := 7) (ret := (some .boolean)) (by decide) rfl ?_
  intro p e s m args below meth c s₁ B hml hv
  obtain ⟨rfl, hsz, hP, hK, hD0⟩ := hv
  have hx := B.exec
  have hb := B.bytes
  have hr := B.returns
  have hts := atoms_spec (ws := vmX12_take) B.pre
  have hown : s.vm.findClass RX12 = some m.cls := findClass_of_methodNamed B.named
  subst hsz
  have hD := hD0.self (sz := s.heap.size)
  generalize hAe : va_A (mW h0 kB kI kZ q g F) s.heap.size = A at hD ⊢
  have hA : ∀ q : Nat, s.heap.size ≤ q → A q := fun q h => by rw [← hAe]; exact Or.inr h
  have hS : va_S A s.heap s.heap [] := va_S.rf
  have hl := lv_entry ([.ref h0, .ref (q 14), .ref (q 15), .int p2, .int p3]) (n := 7) (Nat.le_of_ble_eq_true rfl)
  rw [lg_entry_eq]
  generalize (lg_sl ([.ref h0, .ref (q 14), .ref (q 15), .int p2, .int p3]) ++ List.replicate (7 - (lg_sl ([.ref h0, .ref (q 14), .ref (q 15), .int p2, .int p3])).length) Slot.unset).toArray = ls at hl ⊢
  exact bm_take_14_15 p2 p3 hx hb hml hown hts hA hK hI hq0 hq1 hP hD hS hl (fun pc ls r u H locs hd hw hP hD hS => W.zret (v := r) hx hb hr (z_nb (by have := hw.2.2.2.2; omega)) (fun t ht hW => ⟨⟨r, u, rfl, hw, by rw [ht]; exact hP, va_K.moved hW.alike hK, hD⟩, hS.F ht⟩) hS.2.2 hd)
set_option maxHeartbeats 4000000 in
set_option maxRecDepth 100000 in
theorem bm_take_18_19 {p : Program} {l : Launch} {e : Env} {s : State} {m : MethodId} {args : Array Value} {below : List Frame} {meth : Method} {c : Code} {Q : State → Prop} {A : Nat → Prop} {dC : Nat → ClassId} {dI : Nat → Nat → Nat} {h0 : Nat} {kB kI kZ : ClassId} {q : Nat → Nat} {g : Nat → Int32} {F : Nat → Nat → Int32} {H : Heap} {locs : List Loc} {ls : Array Slot} (p2 : Int32) (p3 : Int32) (hx : p.tables.exec = Jvm.exec) (hb : c.code = cX12_take) (hml : c.maxLocals = 7) (hown : s.vm.findClass RX12 = some m.cls) (hts : ∀ w ∈ vmX12_take, w.before args s = true) (hA : ∀ q : Nat, s.heap.size ≤ q → A q) (hK : va_K (dC, dI) vwCl (mT kB kI kZ) s) (hI : MInv g F) (hq0 : (0 ≤ p2.toInt ∧ p2.toInt < 280)) (hq1 : ((g 3).toInt = 2 → (g 5).toInt + 2 ≤ (g 6).toInt ∧ (g 6).toInt ≤ (g 5).toInt + 18 ∧ (g 6).toInt ≤ 2000)) (hP : va_P (dC, dI) vwCl (mW h0 kB kI kZ q g F) H) (hD : va_D A (mW h0 kB kI kZ q g F)) (hS : va_S A s.heap H locs) (hl : lv_has ls 7 [(0, .ref h0), (1, .ref (q 18)), (2, .ref (q 19)), (3, .int p2), (4, .int p3)])
    (K : ∀ (pc : Nat) (ls : Array Slot) (r : Int32) (u : ((Nat → Int32) × (Nat → Nat → Int32))) (H : Heap) (locs : List Loc), decode cX12_take pc = .ok (.ireturn, 1) → ((((0) ≤ (u.1 7).toInt ∧ (u.1 7).toInt ≤ 4)) ∧ (((-1) ≤ (u.1 8).toInt ∧ (u.1 8).toInt ≤ 2000)) ∧ (rng (0) 16 (u.2 19)) ∧ ((r.toInt = 1 → (g 3).toInt = 2)) ∧ ((0 ≤ r.toInt ∧ r.toInt ≤ 1))) → va_P (dC, dI) vwCl (mW h0 kB kI kZ q (upd (upd g 7 (u.1 7)) 8 (u.1 8)) (upF (upF F 18 (u.2 18)) 19 (u.2 19))) H → va_D A (mW h0 kB kI kZ q (upd (upd g 7 (u.1 7)) 8 (u.1 8)) (upF (upF F 18 (u.2 18)) 19 (u.2 19))) → va_S A s.heap H locs → W p l e ({ frames := 3, cells := 0, slots := 0, locals := 81 } : Room) s m args below meth c H locs 0 0 Q (F0 m pc ls [.int r])) : W p l e ({ frames := 3, cells := 0, slots := 0, locals := 81 } : Room) s m args below meth c H locs 0 0 Q (F0 m 0 ls []) := by
  obtain ⟨hg1z, hg2z, hg3z, hg4z, hg5z, hg6z, hg7z, hg8z, hg9z, hg23z, hg27z, hg30z, hg34z, hg36z, hg39z, hg44z, hg47z, hg48z, hg51z, hg56z, hg59z, hg62z, hg65z, hg66z, hg70z, hF11z, hF12z, hF13z, hF15z, hF19z, hF21z, hF24z, hF25z, hF26z, hF33z, hF38z, hF41z, hF43z, hF45z, hF46z, hF50z, hF53z, hF54z⟩ := hI
  have zk0 : (0 : Int32).toInt = 0 := by decide +kernel
  have zk1 : (1 : Int32).toInt = 1 := by decide +kernel
  have zk2 : (2 : Int32).toInt = 2 := by decide +kernel
  have zk16 : (16 : Int32).toInt = 16 := by decide +kernel
  refine lv_aload_n hx hb dX12_take_0 rfl (lv_at hl 0 rfl) ?_
  refine va_get (D := (dC, dI)) (ci := 12) (v := .int (g 3)) (C := RX12) (T := TX12) (N := 71) hx hb hts (fun _ h => List.mem_append_right _ h) hown hK hP 0 rfl rfl 3 (by decide) (hts (.fieldLink RX12 180 "SpellTurnerModel" "sort" "I") (List.mem_of_getElem? (i := 1) rfl)) (fun _ h9 => h9) rfl dX12_take_1 ?_
  refine lv_iconst (v := 2) hx hb dX12_take_4 (by decide +kernel) ?_
  refine lv_icmp_eq (tgt := 14) hx hb dX12_take_5 (by decide) (fun c813 => ?_) (fun c813 => ?_)
  · have c813 := congrArg Int32.toInt c813
    refine lv_aload_n hx hb dX12_take_14 rfl (lv_at hl 0 rfl) ?_
    refine va_get (D := (dC, dI)) (ci := 12) (v := .int (g 6)) (C := RX12) (T := TX12) (N := 71) hx hb hts (fun _ h => List.mem_append_right _ h) hown hK hP 0 rfl rfl 6 (by decide) (hts (.fieldLink RX12 174 "SpellTurnerModel" "end" "I") (List.mem_of_getElem? (i := 2) rfl)) (fun _ h9 => h9) rfl dX12_take_15 ?_
    refine lv_aload_n hx hb dX12_take_18 rfl (lv_at hl 0 rfl) ?_
    refine va_get (D := (dC, dI)) (ci := 12) (v := .int (g 5)) (C := RX12) (T := TX12) (N := 71) hx hb hts (fun _ h => List.mem_append_right _ h) hown hK hP 0 rfl rfl 5 (by decide) (hts (.fieldLink RX12 177 "SpellTurnerModel" "at" "I") (List.mem_of_getElem? (i := 3) rfl)) (fun _ h9 => h9) rfl dX12_take_19 ?_
    refine lv_isub hx hb dX12_take_22 ?_
    refine lv_topi (fun x814 ex814 => ?_)
    have fx814 : x814.toInt = (g 6).toInt - (g 5).toInt := by have h := @z_sub (g 6) (g 5) (by omega) (by omega); rw [← ex814] at h; omega
    clear ex814
    refine lv_iconst (v := 2) hx hb dX12_take_23 (by decide +kernel) ?_
    refine lv_isub hx hb dX12_take_24 ?_
    refine lv_topi (fun x815 ex815 => ?_)
    have fx815 : x815.toInt = x814.toInt - 2 := by have h := @z_sub x814 (2 : Int32) (by omega) (by omega); rw [← ex815] at h; omega
    clear ex815
    refine lv_istore (lv' := [(5, .int x815), (0, .ref h0), (1, .ref (q 18)), (2, .ref (q 19)), (3, .int p2), (4, .int p3)]) hx hb dX12_take_25 hl (by decide) rfl (fun ls hl => ?_)
    refine lv_iload hx hb dX12_take_27 (lv_at hl 5 rfl) ?_
    refine lv_if_eq (tgt := 43) hx hb dX12_take_29 (by decide) (fun c816 => ?_) (fun c816 => ?_)
    · have c816 := congrArg Int32.toInt c816
      refine lv_iconst (v := 0) hx hb dX12_take_43 (by decide +kernel) ?_
      refine lv_istore (lv' := [(6, .int 0), (5, .int x815), (0, .ref h0), (1, .ref (q 18)), (2, .ref (q 19)), (3, .int p2), (4, .int p3)]) hx hb dX12_take_44 hl (by decide) rfl (fun ls hl => ?_)
      have lp46 : ∀ (n46 : Nat) (x817 : Int32) (gl818 : Nat → Int32) (fl819 : Nat → Nat → Int32) (H : Heap) (locs : List Loc) (ls : Array Slot), (16 - x817.toInt).toNat < n46 → 0 ≤ x817.toInt → va_P (dC, dI) vwCl (mW h0 kB kI kZ q g (upF F 18 (fl819 18))) H → va_D A (mW h0 kB kI kZ q g (upF F 18 (fl819 18))) → va_S A s.heap H locs → lv_has ls 7 [(6, .int x817), (5, .int x815), (0, .ref h0), (1, .ref (q 18)), (2, .ref (q 19)), (3, .int p2), (4, .int p3)] → W p l e ({ frames := 3, cells := 0, slots := 0, locals := 81 } : Room) s m args below meth c H locs 0 0 Q (F0 m 46 ls []) := by
        intro n46
        induction n46 with
        | zero => intro x817 gl818 fl819 H locs ls hm; exact absurd hm (Nat.not_lt_zero _)
        | succ n46 ih46 =>
          intro x817 gl818 fl819 H locs ls hm46 f820 hP hD hS hl
          refine lv_iload hx hb dX12_take_46 (lv_at hl 0 rfl) ?_
          refine lv_iload hx hb dX12_take_48 (lv_at hl 1 rfl) ?_
          refine lv_icmp_ge (tgt := 82) hx hb dX12_take_50 (by decide) (fun c821 => ?_) (fun c821 => ?_)
          · have c821 := (z_le _ _).mp c821
            refine lv_aload_n hx hb dX12_take_82 rfl (lv_at hl 4 rfl) ?_
            refine lv_iload_n hx hb dX12_take_83 rfl (lv_at hl 5 rfl) ?_
            refine lv_iload hx hb dX12_take_84 (lv_at hl 1 rfl) ?_
            refine va_iast hx hb hK hP hD hS 11 1 rfl rfl (z_in (i := p2) (by omega) (by omega)) dX12_take_86 (fun H locs hP hD hS => ?_)
            obtain ⟨f822, hF823, hP, hD⟩ : ∃ f822 : Nat → Int32, rng (0) 16 f822 ∧ va_P (dC, dI) vwCl (mW h0 kB kI kZ q g (upF (upF F 18 (fl819 18)) 19 f822)) H ∧ va_D A (mW h0 kB kI kZ q g (upF (upF F 18 (fl819 18)) 19 f822)) := ⟨(upd (F 19) (Int32.toNatClampNeg p2) x815), rng_upd hF19z (x := x815) (by omega) (by omega), hP, hD⟩
            refine lv_iconst (v := 1) hx hb dX12_take_87 (by decide +kernel) ?_
            exact K 88 ls 1 (g, (upF (upF F 18 (fl819 18)) 19 f822)) H _ dX12_take_88 ⟨hg7z, hg8z, hF823, (show ((1 : Int32).toInt = 1 → (g 3).toInt = 2) from by omega), (show (0 ≤ (1 : Int32).toInt ∧ (1 : Int32).toInt ≤ 1) from by omega)⟩ hP hD hS
          · have c821 := z_nle c821
            refine lv_aload_n hx hb dX12_take_53 rfl (lv_at hl 3 rfl) ?_
            refine lv_bipush (v := 16) hx hb dX12_take_54 (by decide +kernel) ?_
            refine lv_iload_n hx hb dX12_take_56 rfl (lv_at hl 5 rfl) ?_
            refine lv_imul hx hb dX12_take_57 ?_
            refine lv_topi (fun x824 ex824 => ?_)
            have fx824 : x824.toInt = 16 * p2.toInt := by rw [ex824, z_mul (by simp only [zk16]; omega) (by simp only [zk16]; omega)]; simp only [zk16]
            clear ex824
            refine lv_iload hx hb dX12_take_58 (lv_at hl 0 rfl) ?_
            refine lv_iadd hx hb dX12_take_60 ?_
            refine lv_topi (fun x825 ex825 => ?_)
            have fx825 : x825.toInt = x824.toInt + x817.toInt := by have h := @z_add x824 x817 (by omega) (by omega); rw [← ex825] at h; omega
            clear ex825
            refine lv_aload_n hx hb dX12_take_61 rfl (lv_at hl 2 rfl) ?_
            refine va_get (D := (dC, dI)) (ci := 12) (v := .ref (q 0)) (C := RX12) (T := TX12) (N := 71) hx hb hts (fun _ h => List.mem_append_right _ h) hown hK hP 0 rfl rfl 0 (by decide) (hts (.fieldLink RX12 7 "SpellTurnerModel" "tape" "[B") (List.mem_of_getElem? (i := 4) rfl)) (fun _ h9 => h9) rfl dX12_take_62 ?_
            refine lv_aload_n hx hb dX12_take_65 rfl (lv_at hl 2 rfl) ?_
            refine va_get (D := (dC, dI)) (ci := 12) (v := .int (g 5)) (C := RX12) (T := TX12) (N := 71) hx hb hts (fun _ h => List.mem_append_right _ h) hown hK hP 0 rfl rfl 5 (by decide) (hts (.fieldLink RX12 177 "SpellTurnerModel" "at" "I") (List.mem_of_getElem? (i := 3) rfl)) (fun _ h9 => h9) rfl dX12_take_66 ?_
            refine lv_iconst (v := 1) hx hb dX12_take_69 (by decide +kernel) ?_
            refine lv_iadd hx hb dX12_take_70 ?_
            refine lv_topi (fun x826 ex826 => ?_)
            have fx826 : x826.toInt = (g 5).toInt + 1 := by have h := @z_add (g 5) (1 : Int32) (by omega) (by omega); rw [← ex826] at h; omega
            clear ex826
            refine lv_iload hx hb dX12_take_71 (lv_at hl 0 rfl) ?_
            refine lv_iadd hx hb dX12_take_73 ?_
            refine lv_topi (fun x827 ex827 => ?_)
            have fx827 : x827.toInt = x826.toInt + x817.toInt := by have h := @z_add x826 x817 (by omega) (by omega); rw [← ex827] at h; omega
            clear ex827
            refine va_bald hx hb hK hP 1 0 rfl rfl (z_in (i := x827) (by omega) (by omega)) dX12_take_74 ?_
            refine lv_topi (fun x828 ex828 => ?_)
            clear ex828
            refine va_bast hx hb hK hP hD hS 10 0 rfl rfl (z_in (i := x825) (by omega) (by omega)) dX12_take_75 (fun H locs hP hD hS => ?_)
            obtain ⟨f829, hP, hD⟩ : ∃ f829 : Nat → Int32, va_P (dC, dI) vwCl (mW h0 kB kI kZ q g (upF F 18 f829)) H ∧ va_D A (mW h0 kB kI kZ q g (upF F 18 f829)) := ⟨(upd (fl819 18) (Int32.toNatClampNeg x825) (vp_nar .byte x828)), hP, hD⟩
            obtain ⟨x830, ex830⟩ : ∃ y : Int32, y = x817 + 1 := ⟨_, rfl⟩
            have fx830 : x830.toInt = x817.toInt + (1) := by rw [ex830, z_add (by omega) (by omega)]; omega
            refine lv_iinc (v := x830) (lv' := [(6, .int x830), (5, .int x815), (0, .ref h0), (1, .ref (q 18)), (2, .ref (q 19)), (3, .int p2), (4, .int p3)]) hx hb dX12_take_76 hl (k := 0) rfl (by rw [ex830]; rfl) (by decide) rfl (fun ls hl => ?_)
            clear ex830
            refine lv_goto (tgt := 46) hx hb dX12_take_79 (by decide) ?_
            exact ih46 x830 g (upF F 18 f829) H _ ls (show (16 - x830.toInt).toNat < n46 from by omega) (show 0 ≤ x830.toInt from by omega) hP hD hS (lv_sub hl [0, 1, 2, 3, 4, 5, 6] rfl)
      exact lp46 ((16 - (0 : Int32).toInt).toNat + 1) 0 g F H _ ls (Nat.lt_succ_self _) (show 0 ≤ (0 : Int32).toInt from by omega) hP hD hS (lv_sub hl [0, 1, 2, 3, 4, 5, 6] rfl)
    · have c816 := z_ne c816
      refine lv_iload hx hb dX12_take_32 (lv_at hl 0 rfl) ?_
      refine lv_if_ne (tgt := 43) hx hb dX12_take_34 (by decide) (fun c831 => ?_) (fun c831 => ?_)
      · have c831 := z_ne c831
        refine lv_iconst (v := 0) hx hb dX12_take_43 (by decide +kernel) ?_
        refine lv_istore (lv' := [(6, .int 0), (5, .int x815), (0, .ref h0), (1, .ref (q 18)), (2, .ref (q 19)), (3, .int p2), (4, .int p3)]) hx hb dX12_take_44 hl (by decide) rfl (fun ls hl => ?_)
        have lp46 : ∀ (n46 : Nat) (x832 : Int32) (gl833 : Nat → Int32) (fl834 : Nat → Nat → Int32) (H : Heap) (locs : List Loc) (ls : Array Slot), (16 - x832.toInt).toNat < n46 → 0 ≤ x832.toInt → va_P (dC, dI) vwCl (mW h0 kB kI kZ q g (upF F 18 (fl834 18))) H → va_D A (mW h0 kB kI kZ q g (upF F 18 (fl834 18))) → va_S A s.heap H locs → lv_has ls 7 [(6, .int x832), (5, .int x815), (0, .ref h0), (1, .ref (q 18)), (2, .ref (q 19)), (3, .int p2), (4, .int p3)] → W p l e ({ frames := 3, cells := 0, slots := 0, locals := 81 } : Room) s m args below meth c H locs 0 0 Q (F0 m 46 ls []) := by
          intro n46
          induction n46 with
          | zero => intro x832 gl833 fl834 H locs ls hm; exact absurd hm (Nat.not_lt_zero _)
          | succ n46 ih46 =>
            intro x832 gl833 fl834 H locs ls hm46 f835 hP hD hS hl
            refine lv_iload hx hb dX12_take_46 (lv_at hl 0 rfl) ?_
            refine lv_iload hx hb dX12_take_48 (lv_at hl 1 rfl) ?_
            refine lv_icmp_ge (tgt := 82) hx hb dX12_take_50 (by decide) (fun c836 => ?_) (fun c836 => ?_)
            · have c836 := (z_le _ _).mp c836
              refine lv_aload_n hx hb dX12_take_82 rfl (lv_at hl 4 rfl) ?_
              refine lv_iload_n hx hb dX12_take_83 rfl (lv_at hl 5 rfl) ?_
              refine lv_iload hx hb dX12_take_84 (lv_at hl 1 rfl) ?_
              refine va_iast hx hb hK hP hD hS 11 1 rfl rfl (z_in (i := p2) (by omega) (by omega)) dX12_take_86 (fun H locs hP hD hS => ?_)
              obtain ⟨f837, hF838, hP, hD⟩ : ∃ f837 : Nat → Int32, rng (0) 16 f837 ∧ va_P (dC, dI) vwCl (mW h0 kB kI kZ q g (upF (upF F 18 (fl834 18)) 19 f837)) H ∧ va_D A (mW h0 kB kI kZ q g (upF (upF F 18 (fl834 18)) 19 f837)) := ⟨(upd (F 19) (Int32.toNatClampNeg p2) x815), rng_upd hF19z (x := x815) (by omega) (by omega), hP, hD⟩
              refine lv_iconst (v := 1) hx hb dX12_take_87 (by decide +kernel) ?_
              exact K 88 ls 1 (g, (upF (upF F 18 (fl834 18)) 19 f837)) H _ dX12_take_88 ⟨hg7z, hg8z, hF838, (show ((1 : Int32).toInt = 1 → (g 3).toInt = 2) from by omega), (show (0 ≤ (1 : Int32).toInt ∧ (1 : Int32).toInt ≤ 1) from by omega)⟩ hP hD hS
            · have c836 := z_nle c836
              refine lv_aload_n hx hb dX12_take_53 rfl (lv_at hl 3 rfl) ?_
              refine lv_bipush (v := 16) hx hb dX12_take_54 (by decide +kernel) ?_
              refine lv_iload_n hx hb dX12_take_56 rfl (lv_at hl 5 rfl) ?_
              refine lv_imul hx hb dX12_take_57 ?_
              refine lv_topi (fun x839 ex839 => ?_)
              have fx839 : x839.toInt = 16 * p2.toInt := by rw [ex839, z_mul (by simp only [zk16]; omega) (by simp only [zk16]; omega)]; simp only [zk16]
              clear ex839
              refine lv_iload hx hb dX12_take_58 (lv_at hl 0 rfl) ?_
              refine lv_iadd hx hb dX12_take_60 ?_
              refine lv_topi (fun x840 ex840 => ?_)
              have fx840 : x840.toInt = x839.toInt + x832.toInt := by have h := @z_add x839 x832 (by omega) (by omega); rw [← ex840] at h; omega
              clear ex840
              refine lv_aload_n hx hb dX12_take_61 rfl (lv_at hl 2 rfl) ?_
              refine va_get (D := (dC, dI)) (ci := 12) (v := .ref (q 0)) (C := RX12) (T := TX12) (N := 71) hx hb hts (fun _ h => List.mem_append_right _ h) hown hK hP 0 rfl rfl 0 (by decide) (hts (.fieldLink RX12 7 "SpellTurnerModel" "tape" "[B") (List.mem_of_getElem? (i := 4) rfl)) (fun _ h9 => h9) rfl dX12_take_62 ?_
              refine lv_aload_n hx hb dX12_take_65 rfl (lv_at hl 2 rfl) ?_
              refine va_get (D := (dC, dI)) (ci := 12) (v := .int (g 5)) (C := RX12) (T := TX12) (N := 71) hx hb hts (fun _ h => List.mem_append_right _ h) hown hK hP 0 rfl rfl 5 (by decide) (hts (.fieldLink RX12 177 "SpellTurnerModel" "at" "I") (List.mem_of_getElem? (i := 3) rfl)) (fun _ h9 => h9) rfl dX12_take_66 ?_
              refine lv_iconst (v := 1) hx hb dX12_take_69 (by decide +kernel) ?_
              refine lv_iadd hx hb dX12_take_70 ?_
              refine lv_topi (fun x841 ex841 => ?_)
              have fx841 : x841.toInt = (g 5).toInt + 1 := by have h := @z_add (g 5) (1 : Int32) (by omega) (by omega); rw [← ex841] at h; omega
              clear ex841
              refine lv_iload hx hb dX12_take_71 (lv_at hl 0 rfl) ?_
              refine lv_iadd hx hb dX12_take_73 ?_
              refine lv_topi (fun x842 ex842 => ?_)
              have fx842 : x842.toInt = x841.toInt + x832.toInt := by have h := @z_add x841 x832 (by omega) (by omega); rw [← ex842] at h; omega
              clear ex842
              refine va_bald hx hb hK hP 1 0 rfl rfl (z_in (i := x842) (by omega) (by omega)) dX12_take_74 ?_
              refine lv_topi (fun x843 ex843 => ?_)
              clear ex843
              refine va_bast hx hb hK hP hD hS 10 0 rfl rfl (z_in (i := x840) (by omega) (by omega)) dX12_take_75 (fun H locs hP hD hS => ?_)
              obtain ⟨f844, hP, hD⟩ : ∃ f844 : Nat → Int32, va_P (dC, dI) vwCl (mW h0 kB kI kZ q g (upF F 18 f844)) H ∧ va_D A (mW h0 kB kI kZ q g (upF F 18 f844)) := ⟨(upd (fl834 18) (Int32.toNatClampNeg x840) (vp_nar .byte x843)), hP, hD⟩
              obtain ⟨x845, ex845⟩ : ∃ y : Int32, y = x832 + 1 := ⟨_, rfl⟩
              have fx845 : x845.toInt = x832.toInt + (1) := by rw [ex845, z_add (by omega) (by omega)]; omega
              refine lv_iinc (v := x845) (lv' := [(6, .int x845), (5, .int x815), (0, .ref h0), (1, .ref (q 18)), (2, .ref (q 19)), (3, .int p2), (4, .int p3)]) hx hb dX12_take_76 hl (k := 0) rfl (by rw [ex845]; rfl) (by decide) rfl (fun ls hl => ?_)
              clear ex845
              refine lv_goto (tgt := 46) hx hb dX12_take_79 (by decide) ?_
              exact ih46 x845 g (upF F 18 f844) H _ ls (show (16 - x845.toInt).toNat < n46 from by omega) (show 0 ≤ x845.toInt from by omega) hP hD hS (lv_sub hl [0, 1, 2, 3, 4, 5, 6] rfl)
        exact lp46 ((16 - (0 : Int32).toInt).toNat + 1) 0 g F H _ ls (Nat.lt_succ_self _) (show 0 ≤ (0 : Int32).toInt from by omega) hP hD hS (lv_sub hl [0, 1, 2, 3, 4, 5, 6] rfl)
      · have c831 := congrArg Int32.toInt c831
        refine lv_aload_n hx hb dX12_take_37 rfl (lv_at hl 1 rfl) ?_
        refine lv_iconst (v := 2) hx hb dX12_take_38 (by decide +kernel) ?_
        have hFc := va_free (wc := (mW h0 kB kI kZ q g F)) hD hS hA [0, 1, 2, 3, 4, 5, 6, 7, 8, 9, 10, 11, 12, 13, 14, 15, 16, 17, 18, 19, 20, 21, 22, 23, 24, 25, 26, 27, 28, 29, 30, 31, 32, 33, 34, 35, 36, 37, 38, 39, 40, 41, 42, 43, 44, 45] rfl
        refine va_calli (va_runV (As := [.int 2]) (rest := []) ⟨hx, hb, hml, hown, hts⟩ (m_wrong l dC dI H.size h0 kB kI kZ q g F 2 ⟨hg1z, hg2z, hg3z, hg4z, hg5z, hg6z, hg7z, hg8z, hg9z, hg23z, hg27z, hg30z, hg34z, hg36z, hg39z, hg44z, hg47z, hg48z, hg51z, hg56z, hg59z, hg62z, hg65z, hg66z, hg70z, hF11z, hF12z, hF13z, hF15z, hF19z, hF21z, hF24z, hF25z, hF26z, hF33z, hF38z, hF41z, hF43z, hF45z, hF46z, hF50z, hF53z, hF54z⟩ (show 0 ≤ (2 : Int32).toInt ∧ (2 : Int32).toInt ≤ 4 from by omega)) (cwV 1 hts gw_X12_take_X12_wrong_197 rfl rfl rfl (by decide +kernel) ⟨Nat.le_of_ble_eq_true rfl, Nat.le_of_ble_eq_true rfl⟩) ⟨fun a U g mk q => by obtain ⟨q0, q1, qP, qK, qD⟩ := q; exact ⟨q0, q1, qP, va_K.moved (u := U) (U := U.calling g mk a) (Vm.Alike.refl U.vm) qK, qD⟩, va_recv hK hP (ci := 12) (q0 := 0) rfl rfl, fun U hU hW => ⟨rfl, by rw [hU], by rw [hU]; exact hP, va_K.moved hW.alike hK, hD.weaken (fun _ _ _ _ => trivial)⟩⟩ rfl rfl hl.1 rfl (lv_room (Nat.le_of_ble_eq_true rfl)) dX12_take_39 ⟨Nat.le_of_ble_eq_true rfl, Nat.le_of_ble_eq_true rfl⟩) hS (fun q _ h => hFc q h) hFc (fun r846 u t H1 locs ht hvm hw hB hz1 hk1 hS => ?_)
        obtain ⟨ga847, fa848⟩ := u
        obtain ⟨hP1, hK1, hD1⟩ := hB
        rw [ht] at hP1
        obtain ⟨hP, hD⟩ := va_join (wr := []) (w1 := (mW h0 kB kI kZ q (upd (upd g 7 (ga847 7)) 8 (ga847 8)) F)) hP hD [0, 1, 2, 3, 4, 5, 6, 7, 8, 9, 10, 11, 12, 13, 14, 15, 16, 17, 18, 19, 20, 21, 22, 23, 24, 25, 26, 27, 28, 29, 30, 31, 32, 33, 34, 35, 36, 37, 38, 39, 40, 41, 42, 43, 44, 45] [] rfl rfl (by decide) (by decide) hk1 hFc hP1 hD1
        generalize H1 = H at hP hS ⊢
        have hP : va_P (dC, dI) vwCl (mW h0 kB kI kZ q (upd (upd g 7 (ga847 7)) 8 (ga847 8)) F) H := hP
        have hD : va_D A (mW h0 kB kI kZ q (upd (upd g 7 (ga847 7)) 8 (ga847 8)) F) := hD
        obtain ⟨hg849, hg850, f851, f852⟩ : ((0) ≤ (ga847 7).toInt ∧ (ga847 7).toInt ≤ 4) ∧ ((-1) ≤ (ga847 8).toInt ∧ (ga847 8).toInt ≤ 2000) ∧ (r846.toInt = 0) ∧ ((0 ≤ r846.toInt ∧ r846.toInt ≤ 1)) := hw
        exact K 42 ls r846 ((upd (upd g 7 (ga847 7)) 8 (ga847 8)), F) H _ dX12_take_42 ⟨hg849, hg850, hF19z, (show (r846.toInt = 1 → (g 3).toInt = 2) from by omega), (show (0 ≤ r846.toInt ∧ r846.toInt ≤ 1) from by omega)⟩ hP hD hS
  · have c813 := z_ne c813
    refine lv_aload_n hx hb dX12_take_8 rfl (lv_at hl 0 rfl) ?_
    refine lv_iconst (v := 1) hx hb dX12_take_9 (by decide +kernel) ?_
    have hFc := va_free (wc := (mW h0 kB kI kZ q g F)) hD hS hA [0, 1, 2, 3, 4, 5, 6, 7, 8, 9, 10, 11, 12, 13, 14, 15, 16, 17, 18, 19, 20, 21, 22, 23, 24, 25, 26, 27, 28, 29, 30, 31, 32, 33, 34, 35, 36, 37, 38, 39, 40, 41, 42, 43, 44, 45] rfl
    refine va_calli (va_runV (As := [.int 1]) (rest := []) ⟨hx, hb, hml, hown, hts⟩ (m_wrong l dC dI H.size h0 kB kI kZ q g F 1 ⟨hg1z, hg2z, hg3z, hg4z, hg5z, hg6z, hg7z, hg8z, hg9z, hg23z, hg27z, hg30z, hg34z, hg36z, hg39z, hg44z, hg47z, hg48z, hg51z, hg56z, hg59z, hg62z, hg65z, hg66z, hg70z, hF11z, hF12z, hF13z, hF15z, hF19z, hF21z, hF24z, hF25z, hF26z, hF33z, hF38z, hF41z, hF43z, hF45z, hF46z, hF50z, hF53z, hF54z⟩ (show 0 ≤ (1 : Int32).toInt ∧ (1 : Int32).toInt ≤ 4 from by omega)) (cwV 1 hts gw_X12_take_X12_wrong_197 rfl rfl rfl (by decide +kernel) ⟨Nat.le_of_ble_eq_true rfl, Nat.le_of_ble_eq_true rfl⟩) ⟨fun a U g mk q => by obtain ⟨q0, q1, qP, qK, qD⟩ := q; exact ⟨q0, q1, qP, va_K.moved (u := U) (U := U.calling g mk a) (Vm.Alike.refl U.vm) qK, qD⟩, va_recv hK hP (ci := 12) (q0 := 0) rfl rfl, fun U hU hW => ⟨rfl, by rw [hU], by rw [hU]; exact hP, va_K.moved hW.alike hK, hD.weaken (fun _ _ _ _ => trivial)⟩⟩ rfl rfl hl.1 rfl (lv_room (Nat.le_of_ble_eq_true rfl)) dX12_take_10 ⟨Nat.le_of_ble_eq_true rfl, Nat.le_of_ble_eq_true rfl⟩) hS (fun q _ h => hFc q h) hFc (fun r853 u t H1 locs ht hvm hw hB hz1 hk1 hS => ?_)
    obtain ⟨ga854, fa855⟩ := u
    obtain ⟨hP1, hK1, hD1⟩ := hB
    rw [ht] at hP1
    obtain ⟨hP, hD⟩ := va_join (wr := []) (w1 := (mW h0 kB kI kZ q (upd (upd g 7 (ga854 7)) 8 (ga854 8)) F)) hP hD [0, 1, 2, 3, 4, 5, 6, 7, 8, 9, 10, 11, 12, 13, 14, 15, 16, 17, 18, 19, 20, 21, 22, 23, 24, 25, 26, 27, 28, 29, 30, 31, 32, 33, 34, 35, 36, 37, 38, 39, 40, 41, 42, 43, 44, 45] [] rfl rfl (by decide) (by decide) hk1 hFc hP1 hD1
    generalize H1 = H at hP hS ⊢
    have hP : va_P (dC, dI) vwCl (mW h0 kB kI kZ q (upd (upd g 7 (ga854 7)) 8 (ga854 8)) F) H := hP
    have hD : va_D A (mW h0 kB kI kZ q (upd (upd g 7 (ga854 7)) 8 (ga854 8)) F) := hD
    obtain ⟨hg856, hg857, f858, f859⟩ : ((0) ≤ (ga854 7).toInt ∧ (ga854 7).toInt ≤ 4) ∧ ((-1) ≤ (ga854 8).toInt ∧ (ga854 8).toInt ≤ 2000) ∧ (r853.toInt = 0) ∧ ((0 ≤ r853.toInt ∧ r853.toInt ≤ 1)) := hw
    exact K 13 ls r853 ((upd (upd g 7 (ga854 7)) 8 (ga854 8)), F) H _ dX12_take_13 ⟨hg856, hg857, hF19z, (show (r853.toInt = 1 → (g 3).toInt = 2) from by omega), (show (0 ≤ r853.toInt ∧ r853.toInt ≤ 1) from by omega)⟩ hP hD hS
set_option maxHeartbeats 4000000 in
set_option maxRecDepth 100000 in
theorem m_take_18_19 (l : Launch) (dC : Nat → ClassId) (dI : Nat → Nat → Nat) (sz : Nat) (h0 : Nat) (kB kI kZ : ClassId) (q : Nat → Nat) (g : Nat → Int32) (F : Nat → Nat → Int32) (p2 : Int32) (p3 : Int32) (hI : MInv g F) (hq0 : (0 ≤ p2.toInt ∧ p2.toInt < 280)) (hq1 : ((g 3).toInt = 2 → (g 5).toInt + 2 ≤ (g 6).toInt ∧ (g 6).toInt ≤ (g 5).toInt + 18 ∧ (g 6).toInt ≤ 2000)) : Met l yX12_take vmX12_take ({ frames := 3, cells := 0, slots := 0, locals := 81 } : Room) (va_Pc [.ref h0, .ref (q 18), .ref (q 19), .int p2, .int p3] (fun U => U.heap.size = sz ∧ va_P (dC, dI) vwCl (mW h0 kB kI kZ q g F) U.heap ∧ va_K (dC, dI) vwCl (mT kB kI kZ) U ∧ va_D (fun _ => True) (mW h0 kB kI kZ q g F))) (va_Qi (fun (r : Int32) (u : ((Nat → Int32) × (Nat → Nat → Int32))) => (((0) ≤ (u.1 7).toInt ∧ (u.1 7).toInt ≤ 4)) ∧ (((-1) ≤ (u.1 8).toInt ∧ (u.1 8).toInt ≤ 2000)) ∧ (rng (0) 16 (u.2 19)) ∧ ((r.toInt = 1 → (g 3).toInt = 2)) ∧ ((0 ≤ r.toInt ∧ r.toInt ≤ 1))) (fun u t => va_P (dC, dI) vwCl (mW h0 kB kI kZ q (upd (upd g 7 (u.1 7)) 8 (u.1 8)) (upF (upF F 18 (u.2 18)) 19 (u.2 19))) t.heap ∧ va_K (dC, dI) vwCl (mT kB kI kZ) t ∧ va_D (va_A (mW h0 kB kI kZ q g F) sz) (mW h0 kB kI kZ q (upd (upd g 7 (u.1 7)) 8 (u.1 8)) (upF (upF F 18 (u.2 18)) 19 (u.2 19)))) (va_A (mW h0 kB kI kZ q g F) sz)) 0 0 (va_A (mW h0 kB kI kZ q g F) sz) := by
  refine Met.ofW (cc := cX12_take) (maxL := 7) (ret := (some .boolean)) (by decide) rfl ?_
  intro p e s m args below meth c s₁ B hml hv
  obtain ⟨rfl, hsz, hP, hK, hD0⟩ := hv
  have hx := B.exec
  have hb := B.bytes
  have hr := B.returns
  have hts := atoms_spec (ws := vmX12_take) B.pre
  have hown : s.vm.findClass RX12 = some m.cls := findClass_of_methodNamed B.named
  subst hsz
  have hD := hD0.self (sz := s.heap.size)
  generalize hAe : va_A (mW h0 kB kI kZ q g F) s.heap.size = A at hD ⊢
  have hA : ∀ q : Nat, s.heap.size ≤ q → A q := fun q h => by rw [← hAe]; exact Or.inr h
  have hS : va_S A s.heap s.heap [] := va_S.rf
  have hl := lv_entry ([.ref h0, .ref (q 18), .ref (q 19), .int p2, .int p3]) (n := 7) (Nat.le_of_ble_eq_true rfl)
  rw [lg_entry_eq]
  generalize (lg_sl ([.ref h0, .ref (q 18), .ref (q 19), .int p2, .int p3]) ++ List.replicate (7 - (lg_sl ([.ref h0, .ref (q 18), .ref (q 19), .int p2, .int p3])).length) Slot.unset).toArray = ls at hl ⊢
  exact bm_take_18_19 p2 p3 hx hb hml hown hts hA hK hI hq0 hq1 hP hD hS hl (fun pc ls r u H locs hd hw hP hD hS => W.zret (v := r) hx hb hr (z_nb (by have := hw.2.2.2.2; omega)) (fun t ht hW => ⟨⟨r, u, rfl, hw, by rw [ht]; exact hP, va_K.moved hW.alike hK, hD⟩, hS.F ht⟩) hS.2.2 hd)
set_option maxHeartbeats 4000000 in
set_option maxRecDepth 100000 in
theorem bm_take_20_21 {p : Program} {l : Launch} {e : Env} {s : State} {m : MethodId} {args : Array Value} {below : List Frame} {meth : Method} {c : Code} {Q : State → Prop} {A : Nat → Prop} {dC : Nat → ClassId} {dI : Nat → Nat → Nat} {h0 : Nat} {kB kI kZ : ClassId} {q : Nat → Nat} {g : Nat → Int32} {F : Nat → Nat → Int32} {H : Heap} {locs : List Loc} {ls : Array Slot} (p2 : Int32) (p3 : Int32) (hx : p.tables.exec = Jvm.exec) (hb : c.code = cX12_take) (hml : c.maxLocals = 7) (hown : s.vm.findClass RX12 = some m.cls) (hts : ∀ w ∈ vmX12_take, w.before args s = true) (hA : ∀ q : Nat, s.heap.size ≤ q → A q) (hK : va_K (dC, dI) vwCl (mT kB kI kZ) s) (hI : MInv g F) (hq0 : (0 ≤ p2.toInt ∧ p2.toInt < 560)) (hq1 : ((g 3).toInt = 2 → (g 5).toInt + 2 ≤ (g 6).toInt ∧ (g 6).toInt ≤ (g 5).toInt + 18 ∧ (g 6).toInt ≤ 2000)) (hP : va_P (dC, dI) vwCl (mW h0 kB kI kZ q g F) H) (hD : va_D A (mW h0 kB kI kZ q g F)) (hS : va_S A s.heap H locs) (hl : lv_has ls 7 [(0, .ref h0), (1, .ref (q 20)), (2, .ref (q 21)), (3, .int p2), (4, .int p3)])
    (K : ∀ (pc : Nat) (ls : Array Slot) (r : Int32) (u : ((Nat → Int32) × (Nat → Nat → Int32))) (H : Heap) (locs : List Loc), decode cX12_take pc = .ok (.ireturn, 1) → ((((0) ≤ (u.1 7).toInt ∧ (u.1 7).toInt ≤ 4)) ∧ (((-1) ≤ (u.1 8).toInt ∧ (u.1 8).toInt ≤ 2000)) ∧ (rng (-1) 16 (u.2 21)) ∧ ((r.toInt = 1 → (g 3).toInt = 2)) ∧ ((0 ≤ r.toInt ∧ r.toInt ≤ 1))) → va_P (dC, dI) vwCl (mW h0 kB kI kZ q (upd (upd g 7 (u.1 7)) 8 (u.1 8)) (upF (upF F 20 (u.2 20)) 21 (u.2 21))) H → va_D A (mW h0 kB kI kZ q (upd (upd g 7 (u.1 7)) 8 (u.1 8)) (upF (upF F 20 (u.2 20)) 21 (u.2 21))) → va_S A s.heap H locs → W p l e ({ frames := 3, cells := 0, slots := 0, locals := 81 } : Room) s m args below meth c H locs 0 0 Q (F0 m pc ls [.int r])) : W p l e ({ frames := 3, cells := 0, slots := 0, locals := 81 } : Room) s m args below meth c H locs 0 0 Q (F0 m 0 ls []) := by
  obtain ⟨hg1z, hg2z, hg3z, hg4z, hg5z, hg6z, hg7z, hg8z, hg9z, hg23z, hg27z, hg30z, hg34z, hg36z, hg39z, hg44z, hg47z, hg48z, hg51z, hg56z, hg59z, hg62z, hg65z, hg66z, hg70z, hF11z, hF12z, hF13z, hF15z, hF19z, hF21z, hF24z, hF25z, hF26z, hF33z, hF38z, hF41z, hF43z, hF45z, hF46z, hF50z, hF53z, hF54z⟩ := hI
  have zk0 : (0 : Int32).toInt = 0 := by decide +kernel
  have zk1 : (1 : Int32).toInt = 1 := by decide +kernel
  have zk2 : (2 : Int32).toInt = 2 := by decide +kernel
  have zk16 : (16 : Int32).toInt = 16 := by decide +kernel
  refine lv_aload_n hx hb dX12_take_0 rfl (lv_at hl 0 rfl) ?_
  refine va_get (D := (dC, dI)) (ci := 12) (v := .int (g 3)) (C := RX12) (T := TX12) (N := 71) hx hb hts (fun _ h => List.mem_append_right _ h) hown hK hP 0 rfl rfl 3 (by decide) (hts (.fieldLink RX12 180 "SpellTurnerModel" "sort" "I") (List.mem_of_getElem? (i := 1) rfl)) (fun _ h9 => h9) rfl dX12_take_1 ?_
  refine lv_iconst (v := 2) hx hb dX12_take_4 (by decide +kernel) ?_
  refine lv_icmp_eq (tgt := 14) hx hb dX12_take_5 (by decide) (fun c860 => ?_) (fun c860 => ?_)
  · have c860 := congrArg Int32.toInt c860
    refine lv_aload_n hx hb dX12_take_14 rfl (lv_at hl 0 rfl) ?_
    refine va_get (D := (dC, dI)) (ci := 12) (v := .int (g 6)) (C := RX12) (T := TX12) (N := 71) hx hb hts (fun _ h => List.mem_append_right _ h) hown hK hP 0 rfl rfl 6 (by decide) (hts (.fieldLink RX12 174 "SpellTurnerModel" "end" "I") (List.mem_of_getElem? (i := 2) rfl)) (fun _ h9 => h9) rfl dX12_take_15 ?_
    refine lv_aload_n hx hb dX12_take_18 rfl (lv_at hl 0 rfl) ?_
    refine va_get (D := (dC, dI)) (ci := 12) (v := .int (g 5)) (C := RX12) (T := TX12) (N := 71) hx hb hts (fun _ h => List.mem_append_right _ h) hown hK hP 0 rfl rfl 5 (by decide) (hts (.fieldLink RX12 177 "SpellTurnerModel" "at" "I") (List.mem_of_getElem? (i := 3) rfl)) (fun _ h9 => h9) rfl dX12_take_19 ?_
    refine lv_isub hx hb dX12_take_22 ?_
    refine lv_topi (fun x861 ex861 => ?_)
    have fx861 : x861.toInt = (g 6).toInt - (g 5).toInt := by have h := @z_sub (g 6) (g 5) (by omega) (by omega); rw [← ex861] at h; omega
    clear ex861
    refine lv_iconst (v := 2) hx hb dX12_take_23 (by decide +kernel) ?_
    refine lv_isub hx hb dX12_take_24 ?_
    refine lv_topi (fun x862 ex862 => ?_)
    have fx862 : x862.toInt = x861.toInt - 2 := by have h := @z_sub x861 (2 : Int32) (by omega) (by omega); rw [← ex862] at h; omega
    clear ex862
    refine lv_istore (lv' := [(5, .int x862), (0, .ref h0), (1, .ref (q 20)), (2, .ref (q 21)), (3, .int p2), (4, .int p3)]) hx hb dX12_take_25 hl (by decide) rfl (fun ls hl => ?_)
    refine lv_iload hx hb dX12_take_27 (lv_at hl 5 rfl) ?_
    refine lv_if_eq (tgt := 43) hx hb dX12_take_29 (by decide) (fun c863 => ?_) (fun c863 => ?_)
    · have c863 := congrArg Int32.toInt c863
      refine lv_iconst (v := 0) hx hb dX12_take_43 (by decide +kernel) ?_
      refine lv_istore (lv' := [(6, .int 0), (5, .int x862), (0, .ref h0), (1, .ref (q 20)), (2, .ref (q 21)), (3, .int p2), (4, .int p3)]) hx hb dX12_take_44 hl (by decide) rfl (fun ls hl => ?_)
      have lp46 : ∀ (n46 : Nat) (x864 : Int32) (gl865 : Nat → Int32) (fl866 : Nat → Nat → Int32) (H : Heap) (locs : List Loc) (ls : Array Slot), (16 - x864.toInt).toNat < n46 → 0 ≤ x864.toInt → va_P (dC, dI) vwCl (mW h0 kB kI kZ q g (upF F 20 (fl866 20))) H → va_D A (mW h0 kB kI kZ q g (upF F 20 (fl866 20))) → va_S A s.heap H locs → lv_has ls 7 [(6, .int x864), (5, .int x862), (0, .ref h0), (1, .ref (q 20)), (2, .ref (q 21)), (3, .int p2), (4, .int p3)] → W p l e ({ frames := 3, cells := 0, slots := 0, locals := 81 } : Room) s m args below meth c H locs 0 0 Q (F0 m 46 ls []) := by
        intro n46
        induction n46 with
        | zero => intro x864 gl865 fl866 H locs ls hm; exact absurd hm (Nat.not_lt_zero _)
        | succ n46 ih46 =>
          intro x864 gl865 fl866 H locs ls hm46 f867 hP hD hS hl
          refine lv_iload hx hb dX12_take_46 (lv_at hl 0 rfl) ?_
          refine lv_iload hx hb dX12_take_48 (lv_at hl 1 rfl) ?_
          refine lv_icmp_ge (tgt := 82) hx hb dX12_take_50 (by decide) (fun c868 => ?_) (fun c868 => ?_)
          · have c868 := (z_le _ _).mp c868
            refine lv_aload_n hx hb dX12_take_82 rfl (lv_at hl 4 rfl) ?_
            refine lv_iload_n hx hb dX12_take_83 rfl (lv_at hl 5 rfl) ?_
            refine lv_iload hx hb dX12_take_84 (lv_at hl 1 rfl) ?_
            refine va_iast hx hb hK hP hD hS 13 1 rfl rfl (z_in (i := p2) (by omega) (by omega)) dX12_take_86 (fun H locs hP hD hS => ?_)
            obtain ⟨f869, hF870, hP, hD⟩ : ∃ f869 : Nat → Int32, rng (-1) 16 f869 ∧ va_P (dC, dI) vwCl (mW h0 kB kI kZ q g (upF (upF F 20 (fl866 20)) 21 f869)) H ∧ va_D A (mW h0 kB kI kZ q g (upF (upF F 20 (fl866 20)) 21 f869)) := ⟨(upd (F 21) (Int32.toNatClampNeg p2) x862), rng_upd hF21z (x := x862) (by omega) (by omega), hP, hD⟩
            refine lv_iconst (v := 1) hx hb dX12_take_87 (by decide +kernel) ?_
            exact K 88 ls 1 (g, (upF (upF F 20 (fl866 20)) 21 f869)) H _ dX12_take_88 ⟨hg7z, hg8z, hF870, (show ((1 : Int32).toInt = 1 → (g 3).toInt = 2) from by omega), (show (0 ≤ (1 : Int32).toInt ∧ (1 : Int32).toInt ≤ 1) from by omega)⟩ hP hD hS
          · have c868 := z_nle c868
            refine lv_aload_n hx hb dX12_take_53 rfl (lv_at hl 3 rfl) ?_
            refine lv_bipush (v := 16) hx hb dX12_take_54 (by decide +kernel) ?_
            refine lv_iload_n hx hb dX12_take_56 rfl (lv_at hl 5 rfl) ?_
            refine lv_imul hx hb dX12_take_57 ?_
            refine lv_topi (fun x871 ex871 => ?_)
            have fx871 : x871.toInt = 16 * p2.toInt := by rw [ex871, z_mul (by simp only [zk16]; omega) (by simp only [zk16]; omega)]; simp only [zk16]
            clear ex871
            refine lv_iload hx hb dX12_take_58 (lv_at hl 0 rfl) ?_
            refine lv_iadd hx hb dX12_take_60 ?_
            refine lv_topi (fun x872 ex872 => ?_)
            have fx872 : x872.toInt = x871.toInt + x864.toInt := by have h := @z_add x871 x864 (by omega) (by omega); rw [← ex872] at h; omega
            clear ex872
            refine lv_aload_n hx hb dX12_take_61 rfl (lv_at hl 2 rfl) ?_
            refine va_get (D := (dC, dI)) (ci := 12) (v := .ref (q 0)) (C := RX12) (T := TX12) (N := 71) hx hb hts (fun _ h => List.mem_append_right _ h) hown hK hP 0 rfl rfl 0 (by decide) (hts (.fieldLink RX12 7 "SpellTurnerModel" "tape" "[B") (List.mem_of_getElem? (i := 4) rfl)) (fun _ h9 => h9) rfl dX12_take_62 ?_
            refine lv_aload_n hx hb dX12_take_65 rfl (lv_at hl 2 rfl) ?_
            refine va_get (D := (dC, dI)) (ci := 12) (v := .int (g 5)) (C := RX12) (T := TX12) (N := 71) hx hb hts (fun _ h => List.mem_append_right _ h) hown hK hP 0 rfl rfl 5 (by decide) (hts (.fieldLink RX12 177 "SpellTurnerModel" "at" "I") (List.mem_of_getElem? (i := 3) rfl)) (fun _ h9 => h9) rfl dX12_take_66 ?_
            refine lv_iconst (v := 1) hx hb dX12_take_69 (by decide +kernel) ?_
            refine lv_iadd hx hb dX12_take_70 ?_
            refine lv_topi (fun x873 ex873 => ?_)
            have fx873 : x873.toInt = (g 5).toInt + 1 := by have h := @z_add (g 5) (1 : Int32) (by omega) (by omega); rw [← ex873] at h; omega
            clear ex873
            refine lv_iload hx hb dX12_take_71 (lv_at hl 0 rfl) ?_
            refine lv_iadd hx hb dX12_take_73 ?_
            refine lv_topi (fun x874 ex874 => ?_)
            have fx874 : x874.toInt = x873.toInt + x864.toInt := by have h := @z_add x873 x864 (by omega) (by omega); rw [← ex874] at h; omega
            clear ex874
            refine va_bald hx hb hK hP 1 0 rfl rfl (z_in (i := x874) (by omega) (by omega)) dX12_take_74 ?_
            refine lv_topi (fun x875 ex875 => ?_)
            clear ex875
            refine va_bast hx hb hK hP hD hS 12 0 rfl rfl (z_in (i := x872) (by omega) (by omega)) dX12_take_75 (fun H locs hP hD hS => ?_)
            obtain ⟨f876, hP, hD⟩ : ∃ f876 : Nat → Int32, va_P (dC, dI) vwCl (mW h0 kB kI kZ q g (upF F 20 f876)) H ∧ va_D A (mW h0 kB kI kZ q g (upF F 20 f876)) := ⟨(upd (fl866 20) (Int32.toNatClampNeg x872) (vp_nar .byte x875)), hP, hD⟩
            obtain ⟨x877, ex877⟩ : ∃ y : Int32, y = x864 + 1 := ⟨_, rfl⟩
            have fx877 : x877.toInt = x864.toInt + (1) := by rw [ex877, z_add (by omega) (by omega)]; omega
            refine lv_iinc (v := x877) (lv' := [(6, .int x877), (5, .int x862), (0, .ref h0), (1, .ref (q 20)), (2, .ref (q 21)), (3, .int p2), (4, .int p3)]) hx hb dX12_take_76 hl (k := 0) rfl (by rw [ex877]; rfl) (by decide) rfl (fun ls hl => ?_)
            clear ex877
            refine lv_goto (tgt := 46) hx hb dX12_take_79 (by decide) ?_
            exact ih46 x877 g (upF F 20 f876) H _ ls (show (16 - x877.toInt).toNat < n46 from by omega) (show 0 ≤ x877.toInt from by omega) hP hD hS (lv_sub hl [0, 1, 2, 3, 4, 5, 6] rfl)
      exact lp46 ((16 - (0 : Int32).toInt).toNat + 1) 0 g F H _ ls (Nat.lt_succ_self _) (show 0 ≤ (0 : Int32).toInt from by omega) hP hD hS (lv_sub hl [0, 1, 2, 3, 4, 5, 6] rfl)
    · have c863 := z_ne c863
      refine lv_iload hx hb dX12_take_32 (lv_at hl 0 rfl) ?_
      refine lv_if_ne (tgt := 43) hx hb dX12_take_34 (by decide) (fun c878 => ?_) (fun c878 => ?_)
      · have c878 := z_ne c878
        refine lv_iconst (v := 0) hx hb dX12_take_43 (by decide +kernel) ?_
        refine lv_istore (lv' := [(6, .int 0), (5, .int x862), (0, .ref h0), (1, .ref (q 20)), (2, .ref (q 21)), (3, .int p2), (4, .int p3)]) hx hb dX12_take_44 hl (by decide) rfl (fun ls hl => ?_)
        have lp46 : ∀ (n46 : Nat) (x879 : Int32) (gl880 : Nat → Int32) (fl881 : Nat → Nat → Int32) (H : Heap) (locs : List Loc) (ls : Array Slot), (16 - x879.toInt).toNat < n46 → 0 ≤ x879.toInt → va_P (dC, dI) vwCl (mW h0 kB kI kZ q g (upF F 20 (fl881 20))) H → va_D A (mW h0 kB kI kZ q g (upF F 20 (fl881 20))) → va_S A s.heap H locs → lv_has ls 7 [(6, .int x879), (5, .int x862), (0, .ref h0), (1, .ref (q 20)), (2, .ref (q 21)), (3, .int p2), (4, .int p3)] → W p l e ({ frames := 3, cells := 0, slots := 0, locals := 81 } : Room) s m args below meth c H locs 0 0 Q (F0 m 46 ls []) := by
          intro n46
          induction n46 with
          | zero => intro x879 gl880 fl881 H locs ls hm; exact absurd hm (Nat.not_lt_zero _)
          | succ n46 ih46 =>
            intro x879 gl880 fl881 H locs ls hm46 f882 hP hD hS hl
            refine lv_iload hx hb dX12_take_46 (lv_at hl 0 rfl) ?_
            refine lv_iload hx hb dX12_take_48 (lv_at hl 1 rfl) ?_
            refine lv_icmp_ge (tgt := 82) hx hb dX12_take_50 (by decide) (fun c883 => ?_) (fun c883 => ?_)
            · have c883 := (z_le _ _).mp c883
              refine lv_aload_n hx hb dX12_take_82 rfl (lv_at hl 4 rfl) ?_
              refine lv_iload_n hx hb dX12_take_83 rfl (lv_at hl 5 rfl) ?_
              refine lv_iload hx hb dX12_take_84 (lv_at hl 1 rfl) ?_
              refine va_iast hx hb hK hP hD hS 13 1 rfl rfl (z_in (i := p2) (by omega) (by omega)) dX12_take_86 (fun H locs hP hD hS => ?_)
              obtain ⟨f884, hF885, hP, hD⟩ : ∃ f884 : Nat → Int32, rng (-1) 16 f884 ∧ va_P (dC, dI) vwCl (mW h0 kB kI kZ q g (upF (upF F 20 (fl881 20)) 21 f884)) H ∧ va_D A (mW h0 kB kI kZ q g (upF (upF F 20 (fl881 20)) 21 f884)) := ⟨(upd (F 21) (Int32.toNatClampNeg p2) x862), rng_upd hF21z (x := x862) (by omega) (by omega), hP, hD⟩
              refine lv_iconst (v := 1) hx hb dX12_take_87 (by decide +kernel) ?_
              exact K 88 ls 1 (g, (upF (upF F 20 (fl881 20)) 21 f884)) H _ dX12_take_88 ⟨hg7z, hg8z, hF885, (show ((1 : Int32).toInt = 1 → (g 3).toInt = 2) from by omega), (show (0 ≤ (1 : Int32).toInt ∧ (1 : Int32).toInt ≤ 1) from by omega)⟩ hP hD hS
            · have c883 := z_nle c883
              refine lv_aload_n hx hb dX12_take_53 rfl (lv_at hl 3 rfl) ?_
              refine lv_bipush (v := 16) hx hb dX12_take_54 (by decide +kernel) ?_
              refine lv_iload_n hx hb dX12_take_56 rfl (lv_at hl 5 rfl) ?_
              refine lv_imul hx hb dX12_take_57 ?_
              refine lv_topi (fun x886 ex886 => ?_)
              have fx886 : x886.toInt = 16 * p2.toInt := by rw [ex886, z_mul (by simp only [zk16]; omega) (by simp only [zk16]; omega)]; simp only [zk16]
              clear ex886
              refine lv_iload hx hb dX12_take_58 (lv_at hl 0 rfl) ?_
              refine lv_iadd hx hb dX12_take_60 ?_
              refine lv_topi (fun x887 ex887 => ?_)
              have fx887 : x887.toInt = x886.toInt + x879.toInt := by have h := @z_add x886 x879 (by omega) (by omega); rw [← ex887] at h; omega
              clear ex887
              refine lv_aload_n hx hb dX12_take_61 rfl (lv_at hl 2 rfl) ?_
              refine va_get (D := (dC, dI)) (ci := 12) (v := .ref (q 0)) (C := RX12) (T := TX12) (N := 71) hx hb hts (fun _ h => List.mem_append_right _ h) hown hK hP 0 rfl rfl 0 (by decide) (hts (.fieldLink RX12 7 "SpellTurnerModel" "tape" "[B") (List.mem_of_getElem? (i := 4) rfl)) (fun _ h9 => h9) rfl dX12_take_62 ?_
              refine lv_aload_n hx hb dX12_take_65 rfl (lv_at hl 2 rfl) ?_
              refine va_get (D := (dC, dI)) (ci := 12) (v := .int (g 5)) (C := RX12) (T := TX12) (N := 71) hx hb hts (fun _ h => List.mem_append_right _ h) hown hK hP 0 rfl rfl 5 (by decide) (hts (.fieldLink RX12 177 "SpellTurnerModel" "at" "I") (List.mem_of_getElem? (i := 3) rfl)) (fun _ h9 => h9) rfl dX12_take_66 ?_
              refine lv_iconst (v := 1) hx hb dX12_take_69 (by decide +kernel) ?_
              refine lv_iadd hx hb dX12_take_70 ?_
              refine lv_topi (fun x888 ex888 => ?_)
              have fx888 : x888.toInt = (g 5).toInt + 1 := by have h := @z_add (g 5) (1 : Int32) (by omega) (by omega); rw [← ex888] at h; omega
              clear ex888
              refine lv_iload hx hb dX12_take_71 (lv_at hl 0 rfl) ?_
              refine lv_iadd hx hb dX12_take_73 ?_
              refine lv_topi (fun x889 ex889 => ?_)
              have fx889 : x889.toInt = x888.toInt + x879.toInt := by have h := @z_add x888 x879 (by omega) (by omega); rw [← ex889] at h; omega
              clear ex889
              refine va_bald hx hb hK hP 1 0 rfl rfl (z_in (i := x889) (by omega) (by omega)) dX12_take_74 ?_
              refine lv_topi (fun x890 ex890 => ?_)
              clear ex890
              refine va_bast hx hb hK hP hD hS 12 0 rfl rfl (z_in (i := x887) (by omega) (by omega)) dX12_take_75 (fun H locs hP hD hS => ?_)
              obtain ⟨f891, hP, hD⟩ : ∃ f891 : Nat → Int32, va_P (dC, dI) vwCl (mW h0 kB kI kZ q g (upF F 20 f891)) H ∧ va_D A (mW h0 kB kI kZ q g (upF F 20 f891)) := ⟨(upd (fl881 20) (Int32.toNatClampNeg x887) (vp_nar .byte x890)), hP, hD⟩
              obtain ⟨x892, ex892⟩ : ∃ y : Int32, y = x879 + 1 := ⟨_, rfl⟩
              have fx892 : x892.toInt = x879.toInt + (1) := by rw [ex892, z_add (by omega) (by omega)]; omega
              refine lv_iinc (v := x892) (lv' := [(6, .int x892), (5, .int x862), (0, .ref h0), (1, .ref (q 20)), (2, .ref (q 21)), (3, .int p2), (4, .int p3)]) hx hb dX12_take_76 hl (k := 0) rfl (by rw [ex892]; rfl) (by decide) rfl (fun ls hl => ?_)
              clear ex892
              refine lv_goto (tgt := 46) hx hb dX12_take_79 (by decide) ?_
              exact ih46 x892 g (upF F 20 f891) H _ ls (show (16 - x892.toInt).toNat < n46 from by omega) (show 0 ≤ x892.toInt from by omega) hP hD hS (lv_sub hl [0, 1, 2, 3, 4, 5, 6] rfl)
        exact lp46 ((16 - (0 : Int32).toInt).toNat + 1) 0 g F H _ ls (Nat.lt_succ_self _) (show 0 ≤ (0 : Int32).toInt from by omega) hP hD hS (lv_sub hl [0, 1, 2, 3, 4, 5, 6] rfl)
      · have c878 := congrArg Int32.toInt c878
        refine lv_aload_n hx hb dX12_take_37 rfl (lv_at hl 1 rfl) ?_
        refine lv_iconst (v := 2) hx hb dX12_take_38 (by decide +kernel) ?_
        have hFc := va_free (wc := (mW h0 kB kI kZ q g F)) hD hS hA [0, 1, 2, 3, 4, 5, 6, 7, 8, 9, 10, 11, 12, 13, 14, 15, 16, 17, 18, 19, 20, 21, 22, 23, 24, 25, 26, 27, 28, 29, 30, 31, 32, 33, 34, 35, 36, 37, 38, 39, 40, 41, 42, 43, 44, 45] rfl
        refine va_calli (va_runV (As := [.int 2]) (rest := []) ⟨hx, hb, hml, hown, hts⟩ (m_wrong l dC dI H.size h0 kB kI kZ q g F 2 ⟨hg1z, hg2z, hg3z, hg4z, hg5z, hg6z, hg7z, hg8z, hg9z, hg23z, hg27z, hg30z, hg34z, hg36z, hg39z, hg44z, hg47z, hg48z, hg51z, hg56z, hg59z, hg62z, hg65z, hg66z, hg70z, hF11z, hF12z, hF13z, hF15z, hF19z, hF21z, hF24z, hF25z, hF26z, hF33z, hF38z, hF41z, hF43z, hF45z, hF46z, hF50z, hF53z, hF54z⟩ (show 0 ≤ (2 : Int32).toInt ∧ (2 : Int32).toInt ≤ 4 from by omega)) (cwV 1 hts gw_X12_take_X12_wrong_197 rfl rfl rfl (by decide +kernel) ⟨Nat.le_of_ble_eq_true rfl, Nat.le_of_ble_eq_true rfl⟩) ⟨fun a U g mk q => by obtain ⟨q0, q1, qP, qK, qD⟩ := q; exact ⟨q0, q1, qP, va_K.moved (u := U) (U := U.calling g mk a) (Vm.Alike.refl U.vm) qK, qD⟩, va_recv hK hP (ci := 12) (q0 := 0) rfl rfl, fun U hU hW => ⟨rfl, by rw [hU], by rw [hU]; exact hP, va_K.moved hW.alike hK, hD.weaken (fun _ _ _ _ => trivial)⟩⟩ rfl rfl hl.1 rfl (lv_room (Nat.le_of_ble_eq_true rfl)) dX12_take_39 ⟨Nat.le_of_ble_eq_true rfl, Nat.le_of_ble_eq_true rfl⟩) hS (fun q _ h => hFc q h) hFc (fun r893 u t H1 locs ht hvm hw hB hz1 hk1 hS => ?_)
        obtain ⟨ga894, fa895⟩ := u
        obtain ⟨hP1, hK1, hD1⟩ := hB
        rw [ht] at hP1
        obtain ⟨hP, hD⟩ := va_join (wr := []) (w1 := (mW h0 kB kI kZ q (upd (upd g 7 (ga894 7)) 8 (ga894 8)) F)) hP hD [0, 1, 2, 3, 4, 5, 6, 7, 8, 9, 10, 11, 12, 13, 14, 15, 16, 17, 18, 19, 20, 21, 22, 23, 24, 25, 26, 27, 28, 29, 30, 31, 32, 33, 34, 35, 36, 37, 38, 39, 40, 41, 42, 43, 44, 45] [] rfl rfl (by decide) (by decide) hk1 hFc hP1 hD1
        generalize H1 = H at hP hS ⊢
        have hP : va_P (dC, dI) vwCl (mW h0 kB kI kZ q (upd (upd g 7 (ga894 7)) 8 (ga894 8)) F) H := hP
        have hD : va_D A (mW h0 kB kI kZ q (upd (upd g 7 (ga894 7)) 8 (ga894 8)) F) := hD
        obtain ⟨hg896, hg897, f898, f899⟩ : ((0) ≤ (ga894 7).toInt ∧ (ga894 7).toInt ≤ 4) ∧ ((-1) ≤ (ga894 8).toInt ∧ (ga894 8).toInt ≤ 2000) ∧ (r893.toInt = 0) ∧ ((0 ≤ r893.toInt ∧ r893.toInt ≤ 1)) := hw
        exact K 42 ls r893 ((upd (upd g 7 (ga894 7)) 8 (ga894 8)), F) H _ dX12_take_42 ⟨hg896, hg897, hF21z, (show (r893.toInt = 1 → (g 3).toInt = 2) from by omega), (show (0 ≤ r893.toInt ∧ r893.toInt ≤ 1) from by omega)⟩ hP hD hS
  · have c860 := z_ne c860
    refine lv_aload_n hx hb dX12_take_8 rfl (lv_at hl 0 rfl) ?_
    refine lv_iconst (v := 1) hx hb dX12_take_9 (by decide +kernel) ?_
    have hFc := va_free (wc := (mW h0 kB kI kZ q g F)) hD hS hA [0, 1, 2, 3, 4, 5, 6, 7, 8, 9, 10, 11, 12, 13, 14, 15, 16, 17, 18, 19, 20, 21, 22, 23, 24, 25, 26, 27, 28, 29, 30, 31, 32, 33, 34, 35, 36, 37, 38, 39, 40, 41, 42, 43, 44, 45] rfl
    refine va_calli (va_runV (As := [.int 1]) (rest := []) ⟨hx, hb, hml, hown, hts⟩ (m_wrong l dC dI H.size h0 kB kI kZ q g F 1 ⟨hg1z, hg2z, hg3z, hg4z, hg5z, hg6z, hg7z, hg8z, hg9z, hg23z, hg27z, hg30z, hg34z, hg36z, hg39z, hg44z, hg47z, hg48z, hg51z, hg56z, hg59z, hg62z, hg65z, hg66z, hg70z, hF11z, hF12z, hF13z, hF15z, hF19z, hF21z, hF24z, hF25z, hF26z, hF33z, hF38z, hF41z, hF43z, hF45z, hF46z, hF50z, hF53z, hF54z⟩ (show 0 ≤ (1 : Int32).toInt ∧ (1 : Int32).toInt ≤ 4 from by omega)) (cwV 1 hts gw_X12_take_X12_wrong_197 rfl rfl rfl (by decide +kernel) ⟨Nat.le_of_ble_eq_true rfl, Nat.le_of_ble_eq_true rfl⟩) ⟨fun a U g mk q => by obtain ⟨q0, q1, qP, qK, qD⟩ := q; exact ⟨q0, q1, qP, va_K.moved (u := U) (U := U.calling g mk a) (Vm.Alike.refl U.vm) qK, qD⟩, va_recv hK hP (ci := 12) (q0 := 0) rfl rfl, fun U hU hW => ⟨rfl, by rw [hU], by rw [hU]; exact hP, va_K.moved hW.alike hK, hD.weaken (fun _ _ _ _ => trivial)⟩⟩ rfl rfl hl.1 rfl (lv_room (Nat.le_of_ble_eq_true rfl)) dX12_take_10 ⟨Nat.le_of_ble_eq_true rfl, Nat.le_of_ble_eq_true rfl⟩) hS (fun q _ h => hFc q h) hFc (fun r900 u t H1 locs ht hvm hw hB hz1 hk1 hS => ?_)
    obtain ⟨ga901, fa902⟩ := u
    obtain ⟨hP1, hK1, hD1⟩ := hB
    rw [ht] at hP1
    obtain ⟨hP, hD⟩ := va_join (wr := []) (w1 := (mW h0 kB kI kZ q (upd (upd g 7 (ga901 7)) 8 (ga901 8)) F)) hP hD [0, 1, 2, 3, 4, 5, 6, 7, 8, 9, 10, 11, 12, 13, 14, 15, 16, 17, 18, 19, 20, 21, 22, 23, 24, 25, 26, 27, 28, 29, 30, 31, 32, 33, 34, 35, 36, 37, 38, 39, 40, 41, 42, 43, 44, 45] [] rfl rfl (by decide) (by decide) hk1 hFc hP1 hD1
    generalize H1 = H at hP hS ⊢
    have hP : va_P (dC, dI) vwCl (mW h0 kB kI kZ q (upd (upd g 7 (ga901 7)) 8 (ga901 8)) F) H := hP
    have hD : va_D A (mW h0 kB kI kZ q (upd (upd g 7 (ga901 7)) 8 (ga901 8)) F) := hD
    obtain ⟨hg903, hg904, f905, f906⟩ : ((0) ≤ (ga901 7).toInt ∧ (ga901 7).toInt ≤ 4) ∧ ((-1) ≤ (ga901 8).toInt ∧ (ga901 8).toInt ≤ 2000) ∧ (r900.toInt = 0) ∧ ((0 ≤ r900.toInt ∧ r900.toInt ≤ 1)) := hw
    exact K 13 ls r900 ((upd (upd g 7 (ga901 7)) 8 (ga901 8)), F) H _ dX12_take_13 ⟨hg903, hg904, hF21z, (show (r900.toInt = 1 → (g 3).toInt = 2) from by omega), (show (0 ≤ r900.toInt ∧ r900.toInt ≤ 1) from by omega)⟩ hP hD hS
set_option maxHeartbeats 4000000 in
set_option maxRecDepth 100000 in
theorem m_take_20_21 (l : Launch) (dC : Nat → ClassId) (dI : Nat → Nat → Nat) (sz : Nat) (h0 : Nat) (kB kI kZ : ClassId) (q : Nat → Nat) (g : Nat → Int32) (F : Nat → Nat → Int32) (p2 : Int32) (p3 : Int32) (hI : MInv g F) (hq0 : (0 ≤ p2.toInt ∧ p2.toInt < 560)) (hq1 : ((g 3).toInt = 2 → (g 5).toInt + 2 ≤ (g 6).toInt ∧ (g 6).toInt ≤ (g 5).toInt + 18 ∧ (g 6).toInt ≤ 2000)) : Met l yX12_take vmX12_take ({ frames := 3, cells := 0, slots := 0, locals := 81 } : Room) (va_Pc [.ref h0, .ref (q 20), .ref (q 21), .int p2, .int p3] (fun U => U.heap.size = sz ∧ va_P (dC, dI) vwCl (mW h0 kB kI kZ q g F) U.heap ∧ va_K (dC, dI) vwCl (mT kB kI kZ) U ∧ va_D (fun _ => True) (mW h0 kB kI kZ q g F))) (va_Qi (fun (r : Int32) (u : ((Nat → Int32) × (Nat → Nat → Int32))) => (((0) ≤ (u.1 7).toInt ∧ (u.1 7).toInt ≤ 4)) ∧ (((-1) ≤ (u.1 8).toInt ∧ (u.1 8).toInt ≤ 2000)) ∧ (rng (-1) 16 (u.2 21)) ∧ ((r.toInt = 1 → (g 3).toInt = 2)) ∧ ((0 ≤ r.toInt ∧ r.toInt ≤ 1))) (fun u t => va_P (dC, dI) vwCl (mW h0 kB kI kZ q (upd (upd g 7 (u.1 7)) 8 (u.1 8)) (upF (upF F 20 (u.2 20)) 21 (u.2 21))) t.heap ∧ va_K (dC, dI) vwCl (mT kB kI kZ) t ∧ va_D (va_A (mW h0 kB kI kZ q g F) sz) (mW h0 kB kI kZ q (upd (upd g 7 (u.1 7)) 8 (u.1 8)) (upF (upF F 20 (u.2 20)) 21 (u.2 21)))) (va_A (mW h0 kB kI kZ q g F) sz)) 0 0 (va_A (mW h0 kB kI kZ q g F) sz) := by
  refine Met.ofW (cc := cX12_take) (maxL := 7) (ret := (some .boolean)) (by decide) rfl ?_
  intro p e s m args below meth c s₁ B hml hv
  obtain ⟨rfl, hsz, hP, hK, hD0⟩ := hv
  have hx := B.exec
  have hb := B.bytes
  have hr := B.returns
  have hts := atoms_spec (ws := vmX12_take) B.pre
  have hown : s.vm.findClass RX12 = some m.cls := findClass_of_methodNamed B.named
  subst hsz
  have hD := hD0.self (sz := s.heap.size)
  generalize hAe : va_A (mW h0 kB kI kZ q g F) s.heap.size = A at hD ⊢
  have hA : ∀ q : Nat, s.heap.size ≤ q → A q := fun q h => by rw [← hAe]; exact Or.inr h
  have hS : va_S A s.heap s.heap [] := va_S.rf
  have hl := lv_entry ([.ref h0, .ref (q 20), .ref (q 21), .int p2, .int p3]) (n := 7) (Nat.le_of_ble_eq_true rfl)
  rw [lg_entry_eq]
  generalize (lg_sl ([.ref h0, .ref (q 20), .ref (q 21), .int p2, .int p3]) ++ List.replicate (7 - (lg_sl ([.ref h0, .ref (q 20), .ref (q 21), .int p2, .int p3])).length) Slot.unset).toArray = ls at hl ⊢
  exact bm_take_20_21 p2 p3 hx hb hml hown hts hA hK hI hq0 hq1 hP hD hS hl (fun pc ls r u H locs hd hw hP hD hS => W.zret (v := r) hx hb hr (z_nb (by have := hw.2.2.2.2; omega)) (fun t ht hW => ⟨⟨r, u, rfl, hw, by rw [ht]; exact hP, va_K.moved hW.alike hK, hD⟩, hS.F ht⟩) hS.2.2 hd)
