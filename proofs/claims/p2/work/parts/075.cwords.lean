def lwC0 : List Cond := [Cond.code yX10_isSmall cX10_isSmall 1 (some .boolean), Cond.code yX10_isCapital cX10_isCapital 1 (some .boolean), Cond.code yX10_isFull cX10_isFull 1 (some .boolean), Cond.fieldLink RX10 9 "SpellTurner$WordRow" "count" "I", Cond.fieldLink RX10 22 "SpellTurner$WordRow" "lengths" "[I", Cond.code yX10_same cX10_same 6 (some .boolean), Cond.code yX10_add cX10_add 4 none, Cond.methodLink RX10 26 yX10_isFull, Cond.instanceMethod yX10_isFull, Cond.selects RX10 yX10_isFull yX10_isFull, Cond.initialized RX10, Cond.fieldLink RX10 15 "SpellTurner$WordRow" "width" "I", Cond.fieldLink RX10 18 "SpellTurner$WordRow" "letters" "[B", Cond.methodLink RX10 30 arraycopyName, Cond.native arraycopyName, Cond.static arraycopyName, Cond.initialized "java/lang/System", Cond.code yX10_find cX10_find 5 (some .int), Cond.methodLink RX10 44 yX10_same, Cond.static yX10_same, Cond.code yX10_addForm cX10_addForm 4 none, Cond.methodLink RX10 36 yX10_find, Cond.instanceMethod yX10_find, Cond.selects RX10 yX10_find yX10_find, Cond.methodLink RX10 40 yX10_add, Cond.instanceMethod yX10_add, Cond.selects RX10 yX10_add yX10_add, Cond.code yX10_copy cX10_copy 3 none, Cond.code yX10_standsIn cX10_standsIn 4 (some .boolean), Cond.code yX10_endsAlike cX10_endsAlike 6 (some .boolean), Cond.code yX10_letterAt cX10_letterAt 3 (some .int), Cond.code yX7_take cX7_take 2 (some .int), Cond.fieldLink RX7 15 "SpellTurner$Tape" "length" "I", Cond.code yX7_append cX7_append 3 none, Cond.fieldLink RX7 9 "SpellTurner$Tape" "bytes" "[B", Cond.code yX7_isWord cX7_isWord 3 (some .boolean), Cond.methodLink RX7 19 yX10_isSmall, Cond.static yX10_isSmall, Cond.code yX7_occurrences cX7_occurrences 5 (some .int), Cond.code yX7_hasZero cX7_hasZero 2 (some .boolean), Cond.methodLink RX7 25 yX7_occurrences, Cond.instanceMethod yX7_occurrences, Cond.selects RX7 yX7_occurrences yX7_occurrences, Cond.initialized RX7, Cond.code yX7_lines cX7_lines 2 (some .int), Cond.code yX11_feed cX11_feed 6 (some .int), Cond.fieldLink RX11 12 "SpellTurner" "tape" "LSpellTurner$Tape;", Cond.fieldLink RX11 105 "SpellTurner$Tape" "length" "I", Cond.methodLink RX11 108 yX7_append, Cond.instanceMethod yX7_append, Cond.selects RX7 yX7_append yX7_append, Cond.code yX11_end cX11_end 2 (some .int), Cond.code yX11_reformAt cX11_reformAt 2 (some (.object "SpellTurner$Reform")), Cond.fieldLink RX11 22 "SpellTurner" "reformCount" "I", Cond.fieldLink RX11 18 "SpellTurner" "reforms" "[LSpellTurner$Reform;", Cond.code yX11_stage cX11_stage 5 (some .int), Cond.constant RX11 116 (100000), Cond.fieldLink RX11 142 "SpellTurner$Reform" "day" "I", Cond.code yX11_about cX11_about 4 (some .int), Cond.methodLink RX11 138 yX11_reformAt, Cond.instanceMethod yX11_reformAt, Cond.selects RX11 yX11_reformAt yX11_reformAt, Cond.initialized RX11, Cond.fieldLink RX11 145 "SpellTurner$Reform" "lawCount" "I", Cond.fieldLink RX11 148 "SpellTurner$Reform" "parts" "LSpellTurner$WordRow;", Cond.fieldLink RX11 151 "SpellTurner$WordRow" "count" "I", Cond.fieldLink RX11 154 "SpellTurner$Reform" "keptCount" "I", Cond.fieldLink RX11 157 "SpellTurner$Reform" "entries" "LSpellTurner$WordRow;", Cond.code yX11_fault cX11_fault 2 (some .int), Cond.fieldLink RX11 37 "SpellTurner" "reader" "LSpellTurner$Reader;", Cond.fieldLink RX11 128 "SpellTurner$Reader" "faultKind" "I", Cond.fieldLink RX11 135 "SpellTurner$Reader" "faultPlace" "I", Cond.code yX0_formsAt cX0_formsAt 4 (some (.object "SpellTurner$WordRow")), Cond.fieldLink RX0 20 "SpellTurner$Book" "forms" "[LSpellTurner$WordRow;", Cond.fieldLink RX0 35 "SpellTurner$Book" "nothing" "LSpellTurner$WordRow;"]
def lwC : List Cond := lwC0 ++ (wsX00 ++ (wsX10 ++ (wsX20 ++ (wsX30 ++ (wsX40 ++ (wsX50 ++ (wsX60 ++ (wsX70 ++ (wsX80 ++ (wsX90 ++ (wsX100 ++ (wsX110 ++ lwM))))))))))))
set_option maxRecDepth 100000 in
theorem lwC0_good : lwC0.all goodWord = true := by decide +kernel
theorem inX0 {c0 : Cond} : ∀ w ∈ u_ws RX0 TX0 6, w ∈ c0 :: lwC := fun _ h => List.mem_cons_of_mem _ (List.mem_append_right _ (List.mem_append_left _ h))
theorem inX1 {c0 : Cond} : ∀ w ∈ u_ws RX1 TX1 6, w ∈ c0 :: lwC := fun _ h => List.mem_cons_of_mem _ (List.mem_append_right _ (List.mem_append_right _ (List.mem_append_left _ h)))
theorem inX2 {c0 : Cond} : ∀ w ∈ u_ws RX2 TX2 6, w ∈ c0 :: lwC := fun _ h => List.mem_cons_of_mem _ (List.mem_append_right _ (List.mem_append_right _ (List.mem_append_right _ (List.mem_append_left _ h))))
theorem inX3 {c0 : Cond} : ∀ w ∈ u_ws RX3 TX3 7, w ∈ c0 :: lwC := fun _ h => List.mem_cons_of_mem _ (List.mem_append_right _ (List.mem_append_right _ (List.mem_append_right _ (List.mem_append_right _ (List.mem_append_left _ h)))))
theorem inX4 {c0 : Cond} : ∀ w ∈ u_ws RX4 TX4 9, w ∈ c0 :: lwC := fun _ h => List.mem_cons_of_mem _ (List.mem_append_right _ (List.mem_append_right _ (List.mem_append_right _ (List.mem_append_right _ (List.mem_append_right _ (List.mem_append_left _ h))))))
theorem inX5 {c0 : Cond} : ∀ w ∈ u_ws RX5 TX5 11, w ∈ c0 :: lwC := fun _ h => List.mem_cons_of_mem _ (List.mem_append_right _ (List.mem_append_right _ (List.mem_append_right _ (List.mem_append_right _ (List.mem_append_right _ (List.mem_append_right _ (List.mem_append_left _ h)))))))
theorem inX6 {c0 : Cond} : ∀ w ∈ u_ws RX6 TX6 9, w ∈ c0 :: lwC := fun _ h => List.mem_cons_of_mem _ (List.mem_append_right _ (List.mem_append_right _ (List.mem_append_right _ (List.mem_append_right _ (List.mem_append_right _ (List.mem_append_right _ (List.mem_append_right _ (List.mem_append_left _ h))))))))
theorem inX7 {c0 : Cond} : ∀ w ∈ u_ws RX7 TX7 2, w ∈ c0 :: lwC := fun _ h => List.mem_cons_of_mem _ (List.mem_append_right _ (List.mem_append_right _ (List.mem_append_right _ (List.mem_append_right _ (List.mem_append_right _ (List.mem_append_right _ (List.mem_append_right _ (List.mem_append_right _ (List.mem_append_left _ h)))))))))
theorem inX8 {c0 : Cond} : ∀ w ∈ u_ws RX8 TX8 8, w ∈ c0 :: lwC := fun _ h => List.mem_cons_of_mem _ (List.mem_append_right _ (List.mem_append_right _ (List.mem_append_right _ (List.mem_append_right _ (List.mem_append_right _ (List.mem_append_right _ (List.mem_append_right _ (List.mem_append_right _ (List.mem_append_right _ (List.mem_append_left _ h))))))))))
theorem inX9 {c0 : Cond} : ∀ w ∈ u_ws RX9 TX9 8, w ∈ c0 :: lwC := fun _ h => List.mem_cons_of_mem _ (List.mem_append_right _ (List.mem_append_right _ (List.mem_append_right _ (List.mem_append_right _ (List.mem_append_right _ (List.mem_append_right _ (List.mem_append_right _ (List.mem_append_right _ (List.mem_append_right _ (List.mem_append_right _ (List.mem_append_left _ h)))))))))))
theorem inX10 {c0 : Cond} : ∀ w ∈ u_ws RX10 TX10 4, w ∈ c0 :: lwC := fun _ h => List.mem_cons_of_mem _ (List.mem_append_right _ (List.mem_append_right _ (List.mem_append_right _ (List.mem_append_right _ (List.mem_append_right _ (List.mem_append_right _ (List.mem_append_right _ (List.mem_append_right _ (List.mem_append_right _ (List.mem_append_right _ (List.mem_append_right _ (List.mem_append_left _ h))))))))))))
theorem inX11 {c0 : Cond} : ∀ w ∈ u_ws RX11 TX11 17, w ∈ c0 :: lwC := fun _ h => List.mem_cons_of_mem _ (List.mem_append_right _ (List.mem_append_right _ (List.mem_append_right _ (List.mem_append_right _ (List.mem_append_right _ (List.mem_append_right _ (List.mem_append_right _ (List.mem_append_right _ (List.mem_append_right _ (List.mem_append_right _ (List.mem_append_right _ (List.mem_append_right _ (List.mem_append_left _ h)))))))))))))
theorem inM {c0 : Cond} : ∀ w ∈ lwM, w ∈ c0 :: lwC := fun _ h => List.mem_cons_of_mem _ (List.mem_append_right _ (List.mem_append_right _ (List.mem_append_right _ (List.mem_append_right _ (List.mem_append_right _ (List.mem_append_right _ (List.mem_append_right _ (List.mem_append_right _ (List.mem_append_right _ (List.mem_append_right _ (List.mem_append_right _ (List.mem_append_right _ (List.mem_append_right _ (h))))))))))))))
theorem lwC_in {c0 : Cond} : GoodIn (c0 :: lwC) lwC := by
  intro w hw
  rcases List.mem_append.mp hw with h | hw
  · exact ⟨List.mem_cons_of_mem _ hw, good_of_word (List.all_eq_true.mp lwC0_good w h)⟩
  rcases List.mem_append.mp hw with h | hw
  · exact gb_X0 inX0 w h
  rcases List.mem_append.mp hw with h | hw
  · exact gb_X1 inX1 w h
  rcases List.mem_append.mp hw with h | hw
  · exact gb_X2 inX2 w h
  rcases List.mem_append.mp hw with h | hw
  · exact gb_X3 inX3 w h
  rcases List.mem_append.mp hw with h | hw
  · exact gb_X4 inX4 w h
  rcases List.mem_append.mp hw with h | hw
  · exact gb_X5 inX5 w h
  rcases List.mem_append.mp hw with h | hw
  · exact gb_X6 inX6 w h
  rcases List.mem_append.mp hw with h | hw
  · exact gb_X7 inX7 w h
  rcases List.mem_append.mp hw with h | hw
  · exact gb_X8 inX8 w h
  rcases List.mem_append.mp hw with h | hw
  · exact gb_X9 inX9 w h
  rcases List.mem_append.mp hw with h | hw
  · exact gb_X10 inX10 w h
  rcases List.mem_append.mp hw with h | hw
  · exact gb_X11 inX11 w h
  have := lwM_in (c0 := c0) w hw
  exact ⟨inM w hw, this.2⟩
theorem lwC_code {c0 c1 : Cond} (h : c1 ∈ c0 :: lwC) (hg : goodWord c1 = true := by decide +kernel) : GoodIn (c0 :: lwC) (c1 :: lwC) := gdW h hg lwC_in
theorem lwM_inC {c0 : Cond} : GoodIn (c0 :: lwC) lwM := fun w h => ⟨inM w h, (lwM_in (c0 := c0) w h).2⟩
set_option maxRecDepth 100000 in
theorem ic_0 {c0 : Cond} : Cond.code yX10_isSmall cX10_isSmall 1 (some .boolean) ∈ c0 :: lwC := List.mem_cons_of_mem _ (List.mem_append_left _ (List.mem_of_getElem? (i := 0) rfl))
set_option maxRecDepth 100000 in
theorem ic_1 {c0 : Cond} : Cond.code yX10_isCapital cX10_isCapital 1 (some .boolean) ∈ c0 :: lwC := List.mem_cons_of_mem _ (List.mem_append_left _ (List.mem_of_getElem? (i := 1) rfl))
set_option maxRecDepth 100000 in
theorem ic_2 {c0 : Cond} : Cond.code yX10_isFull cX10_isFull 1 (some .boolean) ∈ c0 :: lwC := List.mem_cons_of_mem _ (List.mem_append_left _ (List.mem_of_getElem? (i := 2) rfl))
set_option maxRecDepth 100000 in
theorem ic_3 {c0 : Cond} : Cond.fieldLink RX10 9 "SpellTurner$WordRow" "count" "I" ∈ c0 :: lwC := List.mem_cons_of_mem _ (List.mem_append_left _ (List.mem_of_getElem? (i := 3) rfl))
set_option maxRecDepth 100000 in
theorem ic_4 {c0 : Cond} : Cond.fieldLink RX10 22 "SpellTurner$WordRow" "lengths" "[I" ∈ c0 :: lwC := List.mem_cons_of_mem _ (List.mem_append_left _ (List.mem_of_getElem? (i := 4) rfl))
set_option maxRecDepth 100000 in
theorem ic_5 {c0 : Cond} : Cond.code yX10_same cX10_same 6 (some .boolean) ∈ c0 :: lwC := List.mem_cons_of_mem _ (List.mem_append_left _ (List.mem_of_getElem? (i := 5) rfl))
set_option maxRecDepth 100000 in
theorem ic_6 {c0 : Cond} : Cond.code yX10_add cX10_add 4 none ∈ c0 :: lwC := List.mem_cons_of_mem _ (List.mem_append_left _ (List.mem_of_getElem? (i := 6) rfl))
set_option maxRecDepth 100000 in
theorem ic_7 {c0 : Cond} : Cond.methodLink RX10 26 yX10_isFull ∈ c0 :: lwC := List.mem_cons_of_mem _ (List.mem_append_left _ (List.mem_of_getElem? (i := 7) rfl))
set_option maxRecDepth 100000 in
theorem ic_8 {c0 : Cond} : Cond.instanceMethod yX10_isFull ∈ c0 :: lwC := List.mem_cons_of_mem _ (List.mem_append_left _ (List.mem_of_getElem? (i := 8) rfl))
set_option maxRecDepth 100000 in
theorem ic_9 {c0 : Cond} : Cond.selects RX10 yX10_isFull yX10_isFull ∈ c0 :: lwC := List.mem_cons_of_mem _ (List.mem_append_left _ (List.mem_of_getElem? (i := 9) rfl))
set_option maxRecDepth 100000 in
theorem ic_10 {c0 : Cond} : Cond.initialized RX10 ∈ c0 :: lwC := List.mem_cons_of_mem _ (List.mem_append_left _ (List.mem_of_getElem? (i := 10) rfl))
set_option maxRecDepth 100000 in
theorem ic_11 {c0 : Cond} : Cond.fieldLink RX10 15 "SpellTurner$WordRow" "width" "I" ∈ c0 :: lwC := List.mem_cons_of_mem _ (List.mem_append_left _ (List.mem_of_getElem? (i := 11) rfl))
set_option maxRecDepth 100000 in
theorem ic_12 {c0 : Cond} : Cond.fieldLink RX10 18 "SpellTurner$WordRow" "letters" "[B" ∈ c0 :: lwC := List.mem_cons_of_mem _ (List.mem_append_left _ (List.mem_of_getElem? (i := 12) rfl))
set_option maxRecDepth 100000 in
theorem ic_13 {c0 : Cond} : Cond.methodLink RX10 30 arraycopyName ∈ c0 :: lwC := List.mem_cons_of_mem _ (List.mem_append_left _ (List.mem_of_getElem? (i := 13) rfl))
set_option maxRecDepth 100000 in
theorem ic_14 {c0 : Cond} : Cond.native arraycopyName ∈ c0 :: lwC := List.mem_cons_of_mem _ (List.mem_append_left _ (List.mem_of_getElem? (i := 14) rfl))
set_option maxRecDepth 100000 in
theorem ic_15 {c0 : Cond} : Cond.static arraycopyName ∈ c0 :: lwC := List.mem_cons_of_mem _ (List.mem_append_left _ (List.mem_of_getElem? (i := 15) rfl))
set_option maxRecDepth 100000 in
theorem ic_16 {c0 : Cond} : Cond.initialized "java/lang/System" ∈ c0 :: lwC := List.mem_cons_of_mem _ (List.mem_append_left _ (List.mem_of_getElem? (i := 16) rfl))
set_option maxRecDepth 100000 in
theorem ic_17 {c0 : Cond} : Cond.code yX10_find cX10_find 5 (some .int) ∈ c0 :: lwC := List.mem_cons_of_mem _ (List.mem_append_left _ (List.mem_of_getElem? (i := 17) rfl))
set_option maxRecDepth 100000 in
theorem ic_18 {c0 : Cond} : Cond.methodLink RX10 44 yX10_same ∈ c0 :: lwC := List.mem_cons_of_mem _ (List.mem_append_left _ (List.mem_of_getElem? (i := 18) rfl))
set_option maxRecDepth 100000 in
theorem ic_19 {c0 : Cond} : Cond.static yX10_same ∈ c0 :: lwC := List.mem_cons_of_mem _ (List.mem_append_left _ (List.mem_of_getElem? (i := 19) rfl))
set_option maxRecDepth 100000 in
theorem ic_20 {c0 : Cond} : Cond.code yX10_addForm cX10_addForm 4 none ∈ c0 :: lwC := List.mem_cons_of_mem _ (List.mem_append_left _ (List.mem_of_getElem? (i := 20) rfl))
set_option maxRecDepth 100000 in
theorem ic_21 {c0 : Cond} : Cond.methodLink RX10 36 yX10_find ∈ c0 :: lwC := List.mem_cons_of_mem _ (List.mem_append_left _ (List.mem_of_getElem? (i := 21) rfl))
set_option maxRecDepth 100000 in
theorem ic_22 {c0 : Cond} : Cond.instanceMethod yX10_find ∈ c0 :: lwC := List.mem_cons_of_mem _ (List.mem_append_left _ (List.mem_of_getElem? (i := 22) rfl))
set_option maxRecDepth 100000 in
theorem ic_23 {c0 : Cond} : Cond.selects RX10 yX10_find yX10_find ∈ c0 :: lwC := List.mem_cons_of_mem _ (List.mem_append_left _ (List.mem_of_getElem? (i := 23) rfl))
set_option maxRecDepth 100000 in
theorem ic_24 {c0 : Cond} : Cond.methodLink RX10 40 yX10_add ∈ c0 :: lwC := List.mem_cons_of_mem _ (List.mem_append_left _ (List.mem_of_getElem? (i := 24) rfl))
set_option maxRecDepth 100000 in
theorem ic_25 {c0 : Cond} : Cond.instanceMethod yX10_add ∈ c0 :: lwC := List.mem_cons_of_mem _ (List.mem_append_left _ (List.mem_of_getElem? (i := 25) rfl))
set_option maxRecDepth 100000 in
theorem ic_26 {c0 : Cond} : Cond.selects RX10 yX10_add yX10_add ∈ c0 :: lwC := List.mem_cons_of_mem _ (List.mem_append_left _ (List.mem_of_getElem? (i := 26) rfl))
set_option maxRecDepth 100000 in
theorem ic_27 {c0 : Cond} : Cond.code yX10_copy cX10_copy 3 none ∈ c0 :: lwC := List.mem_cons_of_mem _ (List.mem_append_left _ (List.mem_of_getElem? (i := 27) rfl))
set_option maxRecDepth 100000 in
theorem ic_28 {c0 : Cond} : Cond.code yX10_standsIn cX10_standsIn 4 (some .boolean) ∈ c0 :: lwC := List.mem_cons_of_mem _ (List.mem_append_left _ (List.mem_of_getElem? (i := 28) rfl))
set_option maxRecDepth 100000 in
theorem ic_29 {c0 : Cond} : Cond.code yX10_endsAlike cX10_endsAlike 6 (some .boolean) ∈ c0 :: lwC := List.mem_cons_of_mem _ (List.mem_append_left _ (List.mem_of_getElem? (i := 29) rfl))
set_option maxRecDepth 100000 in
theorem ic_30 {c0 : Cond} : Cond.code yX10_letterAt cX10_letterAt 3 (some .int) ∈ c0 :: lwC := List.mem_cons_of_mem _ (List.mem_append_left _ (List.mem_of_getElem? (i := 30) rfl))
set_option maxRecDepth 100000 in
theorem ic_31 {c0 : Cond} : Cond.code yX7_take cX7_take 2 (some .int) ∈ c0 :: lwC := List.mem_cons_of_mem _ (List.mem_append_left _ (List.mem_of_getElem? (i := 31) rfl))
set_option maxRecDepth 100000 in
theorem ic_32 {c0 : Cond} : Cond.fieldLink RX7 15 "SpellTurner$Tape" "length" "I" ∈ c0 :: lwC := List.mem_cons_of_mem _ (List.mem_append_left _ (List.mem_of_getElem? (i := 32) rfl))
set_option maxRecDepth 100000 in
theorem ic_33 {c0 : Cond} : Cond.code yX7_append cX7_append 3 none ∈ c0 :: lwC := List.mem_cons_of_mem _ (List.mem_append_left _ (List.mem_of_getElem? (i := 33) rfl))
set_option maxRecDepth 100000 in
theorem ic_34 {c0 : Cond} : Cond.fieldLink RX7 9 "SpellTurner$Tape" "bytes" "[B" ∈ c0 :: lwC := List.mem_cons_of_mem _ (List.mem_append_left _ (List.mem_of_getElem? (i := 34) rfl))
set_option maxRecDepth 100000 in
theorem ic_35 {c0 : Cond} : Cond.code yX7_isWord cX7_isWord 3 (some .boolean) ∈ c0 :: lwC := List.mem_cons_of_mem _ (List.mem_append_left _ (List.mem_of_getElem? (i := 35) rfl))
set_option maxRecDepth 100000 in
theorem ic_36 {c0 : Cond} : Cond.methodLink RX7 19 yX10_isSmall ∈ c0 :: lwC := List.mem_cons_of_mem _ (List.mem_append_left _ (List.mem_of_getElem? (i := 36) rfl))
set_option maxRecDepth 100000 in
theorem ic_37 {c0 : Cond} : Cond.static yX10_isSmall ∈ c0 :: lwC := List.mem_cons_of_mem _ (List.mem_append_left _ (List.mem_of_getElem? (i := 37) rfl))
set_option maxRecDepth 100000 in
theorem ic_38 {c0 : Cond} : Cond.code yX7_occurrences cX7_occurrences 5 (some .int) ∈ c0 :: lwC := List.mem_cons_of_mem _ (List.mem_append_left _ (List.mem_of_getElem? (i := 38) rfl))
set_option maxRecDepth 100000 in
theorem ic_39 {c0 : Cond} : Cond.code yX7_hasZero cX7_hasZero 2 (some .boolean) ∈ c0 :: lwC := List.mem_cons_of_mem _ (List.mem_append_left _ (List.mem_of_getElem? (i := 39) rfl))
set_option maxRecDepth 100000 in
theorem ic_40 {c0 : Cond} : Cond.methodLink RX7 25 yX7_occurrences ∈ c0 :: lwC := List.mem_cons_of_mem _ (List.mem_append_left _ (List.mem_of_getElem? (i := 40) rfl))
set_option maxRecDepth 100000 in
theorem ic_41 {c0 : Cond} : Cond.instanceMethod yX7_occurrences ∈ c0 :: lwC := List.mem_cons_of_mem _ (List.mem_append_left _ (List.mem_of_getElem? (i := 41) rfl))
set_option maxRecDepth 100000 in
theorem ic_42 {c0 : Cond} : Cond.selects RX7 yX7_occurrences yX7_occurrences ∈ c0 :: lwC := List.mem_cons_of_mem _ (List.mem_append_left _ (List.mem_of_getElem? (i := 42) rfl))
set_option maxRecDepth 100000 in
theorem ic_43 {c0 : Cond} : Cond.initialized RX7 ∈ c0 :: lwC := List.mem_cons_of_mem _ (List.mem_append_left _ (List.mem_of_getElem? (i := 43) rfl))
set_option maxRecDepth 100000 in
theorem ic_44 {c0 : Cond} : Cond.code yX7_lines cX7_lines 2 (some .int) ∈ c0 :: lwC := List.mem_cons_of_mem _ (List.mem_append_left _ (List.mem_of_getElem? (i := 44) rfl))
set_option maxRecDepth 100000 in
theorem ic_45 {c0 : Cond} : Cond.code yX11_feed cX11_feed 6 (some .int) ∈ c0 :: lwC := List.mem_cons_of_mem _ (List.mem_append_left _ (List.mem_of_getElem? (i := 45) rfl))
set_option maxRecDepth 100000 in
theorem ic_46 {c0 : Cond} : Cond.fieldLink RX11 12 "SpellTurner" "tape" "LSpellTurner$Tape;" ∈ c0 :: lwC := List.mem_cons_of_mem _ (List.mem_append_left _ (List.mem_of_getElem? (i := 46) rfl))
set_option maxRecDepth 100000 in
theorem ic_47 {c0 : Cond} : Cond.fieldLink RX11 105 "SpellTurner$Tape" "length" "I" ∈ c0 :: lwC := List.mem_cons_of_mem _ (List.mem_append_left _ (List.mem_of_getElem? (i := 47) rfl))
set_option maxRecDepth 100000 in
theorem ic_48 {c0 : Cond} : Cond.methodLink RX11 108 yX7_append ∈ c0 :: lwC := List.mem_cons_of_mem _ (List.mem_append_left _ (List.mem_of_getElem? (i := 48) rfl))
set_option maxRecDepth 100000 in
theorem ic_49 {c0 : Cond} : Cond.instanceMethod yX7_append ∈ c0 :: lwC := List.mem_cons_of_mem _ (List.mem_append_left _ (List.mem_of_getElem? (i := 49) rfl))
set_option maxRecDepth 100000 in
theorem ic_50 {c0 : Cond} : Cond.selects RX7 yX7_append yX7_append ∈ c0 :: lwC := List.mem_cons_of_mem _ (List.mem_append_left _ (List.mem_of_getElem? (i := 50) rfl))
set_option maxRecDepth 100000 in
theorem ic_51 {c0 : Cond} : Cond.code yX11_end cX11_end 2 (some .int) ∈ c0 :: lwC := List.mem_cons_of_mem _ (List.mem_append_left _ (List.mem_of_getElem? (i := 51) rfl))
set_option maxRecDepth 100000 in
theorem ic_52 {c0 : Cond} : Cond.code yX11_reformAt cX11_reformAt 2 (some (.object "SpellTurner$Reform")) ∈ c0 :: lwC := List.mem_cons_of_mem _ (List.mem_append_left _ (List.mem_of_getElem? (i := 52) rfl))
set_option maxRecDepth 100000 in
theorem ic_53 {c0 : Cond} : Cond.fieldLink RX11 22 "SpellTurner" "reformCount" "I" ∈ c0 :: lwC := List.mem_cons_of_mem _ (List.mem_append_left _ (List.mem_of_getElem? (i := 53) rfl))
set_option maxRecDepth 100000 in
theorem ic_54 {c0 : Cond} : Cond.fieldLink RX11 18 "SpellTurner" "reforms" "[LSpellTurner$Reform;" ∈ c0 :: lwC := List.mem_cons_of_mem _ (List.mem_append_left _ (List.mem_of_getElem? (i := 54) rfl))
set_option maxRecDepth 100000 in
theorem ic_55 {c0 : Cond} : Cond.code yX11_stage cX11_stage 5 (some .int) ∈ c0 :: lwC := List.mem_cons_of_mem _ (List.mem_append_left _ (List.mem_of_getElem? (i := 55) rfl))
set_option maxRecDepth 100000 in
theorem ic_56 {c0 : Cond} : Cond.constant RX11 116 (100000) ∈ c0 :: lwC := List.mem_cons_of_mem _ (List.mem_append_left _ (List.mem_of_getElem? (i := 56) rfl))
set_option maxRecDepth 100000 in
theorem ic_57 {c0 : Cond} : Cond.fieldLink RX11 142 "SpellTurner$Reform" "day" "I" ∈ c0 :: lwC := List.mem_cons_of_mem _ (List.mem_append_left _ (List.mem_of_getElem? (i := 57) rfl))
set_option maxRecDepth 100000 in
theorem ic_58 {c0 : Cond} : Cond.code yX11_about cX11_about 4 (some .int) ∈ c0 :: lwC := List.mem_cons_of_mem _ (List.mem_append_left _ (List.mem_of_getElem? (i := 58) rfl))
set_option maxRecDepth 100000 in
theorem ic_59 {c0 : Cond} : Cond.methodLink RX11 138 yX11_reformAt ∈ c0 :: lwC := List.mem_cons_of_mem _ (List.mem_append_left _ (List.mem_of_getElem? (i := 59) rfl))
set_option maxRecDepth 100000 in
theorem ic_60 {c0 : Cond} : Cond.instanceMethod yX11_reformAt ∈ c0 :: lwC := List.mem_cons_of_mem _ (List.mem_append_left _ (List.mem_of_getElem? (i := 60) rfl))
set_option maxRecDepth 100000 in
theorem ic_61 {c0 : Cond} : Cond.selects RX11 yX11_reformAt yX11_reformAt ∈ c0 :: lwC := List.mem_cons_of_mem _ (List.mem_append_left _ (List.mem_of_getElem? (i := 61) rfl))
set_option maxRecDepth 100000 in
theorem ic_62 {c0 : Cond} : Cond.initialized RX11 ∈ c0 :: lwC := List.mem_cons_of_mem _ (List.mem_append_left _ (List.mem_of_getElem? (i := 62) rfl))
set_option maxRecDepth 100000 in
theorem ic_63 {c0 : Cond} : Cond.fieldLink RX11 145 "SpellTurner$Reform" "lawCount" "I" ∈ c0 :: lwC := List.mem_cons_of_mem _ (List.mem_append_left _ (List.mem_of_getElem? (i := 63) rfl))
set_option maxRecDepth 100000 in
theorem ic_64 {c0 : Cond} : Cond.fieldLink RX11 148 "SpellTurner$Reform" "parts" "LSpellTurner$WordRow;" ∈ c0 :: lwC := List.mem_cons_of_mem _ (List.mem_append_left _ (List.mem_of_getElem? (i := 64) rfl))
set_option maxRecDepth 100000 in
theorem ic_65 {c0 : Cond} : Cond.fieldLink RX11 151 "SpellTurner$WordRow" "count" "I" ∈ c0 :: lwC := List.mem_cons_of_mem _ (List.mem_append_left _ (List.mem_of_getElem? (i := 65) rfl))
set_option maxRecDepth 100000 in
theorem ic_66 {c0 : Cond} : Cond.fieldLink RX11 154 "SpellTurner$Reform" "keptCount" "I" ∈ c0 :: lwC := List.mem_cons_of_mem _ (List.mem_append_left _ (List.mem_of_getElem? (i := 66) rfl))
set_option maxRecDepth 100000 in
theorem ic_67 {c0 : Cond} : Cond.fieldLink RX11 157 "SpellTurner$Reform" "entries" "LSpellTurner$WordRow;" ∈ c0 :: lwC := List.mem_cons_of_mem _ (List.mem_append_left _ (List.mem_of_getElem? (i := 67) rfl))
set_option maxRecDepth 100000 in
theorem ic_68 {c0 : Cond} : Cond.code yX11_fault cX11_fault 2 (some .int) ∈ c0 :: lwC := List.mem_cons_of_mem _ (List.mem_append_left _ (List.mem_of_getElem? (i := 68) rfl))
set_option maxRecDepth 100000 in
theorem ic_69 {c0 : Cond} : Cond.fieldLink RX11 37 "SpellTurner" "reader" "LSpellTurner$Reader;" ∈ c0 :: lwC := List.mem_cons_of_mem _ (List.mem_append_left _ (List.mem_of_getElem? (i := 69) rfl))
set_option maxRecDepth 100000 in
theorem ic_70 {c0 : Cond} : Cond.fieldLink RX11 128 "SpellTurner$Reader" "faultKind" "I" ∈ c0 :: lwC := List.mem_cons_of_mem _ (List.mem_append_left _ (List.mem_of_getElem? (i := 70) rfl))
set_option maxRecDepth 100000 in
theorem ic_71 {c0 : Cond} : Cond.fieldLink RX11 135 "SpellTurner$Reader" "faultPlace" "I" ∈ c0 :: lwC := List.mem_cons_of_mem _ (List.mem_append_left _ (List.mem_of_getElem? (i := 71) rfl))
set_option maxRecDepth 100000 in
theorem ic_72 {c0 : Cond} : Cond.code yX0_formsAt cX0_formsAt 4 (some (.object "SpellTurner$WordRow")) ∈ c0 :: lwC := List.mem_cons_of_mem _ (List.mem_append_left _ (List.mem_of_getElem? (i := 72) rfl))
set_option maxRecDepth 100000 in
theorem ic_73 {c0 : Cond} : Cond.fieldLink RX0 20 "SpellTurner$Book" "forms" "[LSpellTurner$WordRow;" ∈ c0 :: lwC := List.mem_cons_of_mem _ (List.mem_append_left _ (List.mem_of_getElem? (i := 73) rfl))
set_option maxRecDepth 100000 in
theorem ic_74 {c0 : Cond} : Cond.fieldLink RX0 35 "SpellTurner$Book" "nothing" "LSpellTurner$WordRow;" ∈ c0 :: lwC := List.mem_cons_of_mem _ (List.mem_append_left _ (List.mem_of_getElem? (i := 74) rfl))
def vmX10_isSmall : List Cond := Cond.code yX10_isSmall cX10_isSmall 1 (some .boolean) :: lwC
def vmX10_isCapital : List Cond := Cond.code yX10_isCapital cX10_isCapital 1 (some .boolean) :: lwC
def vmX10_isFull : List Cond := Cond.code yX10_isFull cX10_isFull 1 (some .boolean) :: lwC
def vmX10_same : List Cond := Cond.code yX10_same cX10_same 6 (some .boolean) :: lwC
def vmX10_add : List Cond := Cond.code yX10_add cX10_add 4 none :: lwC
def vmX10_find : List Cond := Cond.code yX10_find cX10_find 5 (some .int) :: lwC
def vmX10_addForm : List Cond := Cond.code yX10_addForm cX10_addForm 4 none :: lwC
def vmX10_copy : List Cond := Cond.code yX10_copy cX10_copy 3 none :: lwC
def vmX10_standsIn : List Cond := Cond.code yX10_standsIn cX10_standsIn 4 (some .boolean) :: lwC
def vmX10_endsAlike : List Cond := Cond.code yX10_endsAlike cX10_endsAlike 6 (some .boolean) :: lwC
def vmX10_letterAt : List Cond := Cond.code yX10_letterAt cX10_letterAt 3 (some .int) :: lwC
def vmX7_take : List Cond := Cond.code yX7_take cX7_take 2 (some .int) :: lwC
def vmX7_append : List Cond := Cond.code yX7_append cX7_append 3 none :: lwC
def vmX7_isWord : List Cond := Cond.code yX7_isWord cX7_isWord 3 (some .boolean) :: lwC
def vmX7_occurrences : List Cond := Cond.code yX7_occurrences cX7_occurrences 5 (some .int) :: lwC
def vmX7_hasZero : List Cond := Cond.code yX7_hasZero cX7_hasZero 2 (some .boolean) :: lwC
def vmX7_lines : List Cond := Cond.code yX7_lines cX7_lines 2 (some .int) :: lwC
def vmX11_feed : List Cond := Cond.code yX11_feed cX11_feed 6 (some .int) :: lwC
def vmX11_end : List Cond := Cond.code yX11_end cX11_end 2 (some .int) :: lwC
def vmX11_reformAt : List Cond := Cond.code yX11_reformAt cX11_reformAt 2 (some (.object "SpellTurner$Reform")) :: lwC
def vmX11_stage : List Cond := Cond.code yX11_stage cX11_stage 5 (some .int) :: lwC
def vmX11_about : List Cond := Cond.code yX11_about cX11_about 4 (some .int) :: lwC
def vmX11_fault : List Cond := Cond.code yX11_fault cX11_fault 2 (some .int) :: lwC
def vmX0_formsAt : List Cond := Cond.code yX0_formsAt cX0_formsAt 4 (some (.object "SpellTurner$WordRow")) :: lwC
theorem gc_RX10_X10_same_44 {c0 : Cond} : GoodIn (c0 :: lwC) (va_wsS RX10 44 yX10_same vmX10_same) := gdW ic_18 (by decide +kernel) (gdW ic_19 (by decide +kernel) (gdW ic_10 (by decide +kernel) (gdW ic_5 (by decide +kernel) lwC_in)))
theorem gc_RX7_X10_isSmall_19 {c0 : Cond} : GoodIn (c0 :: lwC) (va_wsS RX7 19 yX10_isSmall vmX10_isSmall) := gdW ic_36 (by decide +kernel) (gdW ic_37 (by decide +kernel) (gdW ic_10 (by decide +kernel) (gdW ic_0 (by decide +kernel) lwC_in)))
theorem gc_RX10_X10_isFull_26 {c0 : Cond} : GoodIn (c0 :: lwC) (wsV RX10 26 RX10 yX10_isFull vmX10_isFull) := gdW ic_7 (by decide +kernel) (gdW ic_8 (by decide +kernel) (gdW ic_9 (by decide +kernel) (gdW ic_10 (by decide +kernel) (gdW ic_2 (by decide +kernel) lwC_in))))
theorem gc_RX10_X10_find_36 {c0 : Cond} : GoodIn (c0 :: lwC) (wsV RX10 36 RX10 yX10_find vmX10_find) := gdW ic_21 (by decide +kernel) (gdW ic_22 (by decide +kernel) (gdW ic_23 (by decide +kernel) (gdW ic_10 (by decide +kernel) (gdW ic_17 (by decide +kernel) lwC_in))))
theorem gc_RX10_X10_add_40 {c0 : Cond} : GoodIn (c0 :: lwC) (wsV RX10 40 RX10 yX10_add vmX10_add) := gdW ic_24 (by decide +kernel) (gdW ic_25 (by decide +kernel) (gdW ic_26 (by decide +kernel) (gdW ic_10 (by decide +kernel) (gdW ic_6 (by decide +kernel) lwC_in))))
theorem gc_RX11_X7_append_108 {c0 : Cond} : GoodIn (c0 :: lwC) (wsV RX11 108 RX7 yX7_append vmX7_append) := gdW ic_48 (by decide +kernel) (gdW ic_49 (by decide +kernel) (gdW ic_50 (by decide +kernel) (gdW ic_43 (by decide +kernel) (gdW ic_33 (by decide +kernel) lwC_in))))
theorem gc_RX11_X11_reformAt_138 {c0 : Cond} : GoodIn (c0 :: lwC) (wsV RX11 138 RX11 yX11_reformAt vmX11_reformAt) := gdW ic_59 (by decide +kernel) (gdW ic_60 (by decide +kernel) (gdW ic_61 (by decide +kernel) (gdW ic_62 (by decide +kernel) (gdW ic_52 (by decide +kernel) lwC_in))))
theorem gc_RX7_X7_occurrences_25 {c0 : Cond} : GoodIn (c0 :: lwC) (wsV RX7 25 RX7 yX7_occurrences vmX7_occurrences) := gdW ic_40 (by decide +kernel) (gdW ic_41 (by decide +kernel) (gdW ic_42 (by decide +kernel) (gdW ic_43 (by decide +kernel) (gdW ic_38 (by decide +kernel) lwC_in))))
