def lwC0 : List Cond := [Cond.code yJ0_length_8abf5 cJ0_length_8abf5 1 (some .int), Cond.code yJ0_charAt_5068e cJ0_charAt_5068e 2 (some .char), Cond.code yX10_isSmall cX10_isSmall 1 (some .boolean), Cond.code yX10_isCapital cX10_isCapital 1 (some .boolean), Cond.code yX10_isFull cX10_isFull 1 (some .boolean), Cond.fieldLink RX10 9 "SpellTurner$WordRow" "count" "I", Cond.fieldLink RX10 22 "SpellTurner$WordRow" "lengths" "[I", Cond.code yX10_same cX10_same 6 (some .boolean), Cond.code yX10_add cX10_add 4 none, Cond.methodLink RX10 26 yX10_isFull, Cond.instanceMethod yX10_isFull, Cond.selects RX10 yX10_isFull yX10_isFull, Cond.initialized RX10, Cond.fieldLink RX10 15 "SpellTurner$WordRow" "width" "I", Cond.fieldLink RX10 18 "SpellTurner$WordRow" "letters" "[B", Cond.methodLink RX10 30 arraycopyName, Cond.native arraycopyName, Cond.static arraycopyName, Cond.initialized "java/lang/System", Cond.code yX10_find cX10_find 5 (some .int), Cond.methodLink RX10 44 yX10_same, Cond.static yX10_same, Cond.code yX10_addForm cX10_addForm 4 none, Cond.methodLink RX10 36 yX10_find, Cond.instanceMethod yX10_find, Cond.selects RX10 yX10_find yX10_find, Cond.methodLink RX10 40 yX10_add, Cond.instanceMethod yX10_add, Cond.selects RX10 yX10_add yX10_add, Cond.code yX10_copy cX10_copy 3 none, Cond.code yX10_standsIn cX10_standsIn 4 (some .boolean), Cond.code yX10_endsAlike cX10_endsAlike 6 (some .boolean), Cond.code yX10_letterAt cX10_letterAt 3 (some .int), Cond.code yX7_take cX7_take 2 (some .int), Cond.fieldLink RX7 15 "SpellTurner$Tape" "length" "I", Cond.code yX7_append cX7_append 3 none, Cond.fieldLink RX7 9 "SpellTurner$Tape" "bytes" "[B", Cond.code yX7_isWord cX7_isWord 3 (some .boolean), Cond.methodLink RX7 19 yX10_isSmall, Cond.static yX10_isSmall, Cond.code yX7_occurrences cX7_occurrences 5 (some .int), Cond.code yX7_hasZero cX7_hasZero 2 (some .boolean), Cond.methodLink RX7 25 yX7_occurrences, Cond.instanceMethod yX7_occurrences, Cond.selects RX7 yX7_occurrences yX7_occurrences, Cond.initialized RX7, Cond.code yX7_lines cX7_lines 2 (some .int), Cond.code yX11_feed cX11_feed 6 (some .int), Cond.fieldLink RX11 12 "SpellTurner" "tape" "LSpellTurner$Tape;", Cond.fieldLink RX11 105 "SpellTurner$Tape" "length" "I", Cond.methodLink RX11 108 yX7_append, Cond.instanceMethod yX7_append, Cond.selects RX7 yX7_append yX7_append, Cond.code yX11_end cX11_end 2 (some .int), Cond.code yX11_reformAt cX11_reformAt 2 (some (.object "SpellTurner$Reform")), Cond.fieldLink RX11 22 "SpellTurner" "reformCount" "I", Cond.fieldLink RX11 18 "SpellTurner" "reforms" "[LSpellTurner$Reform;", Cond.code yX11_stage cX11_stage 5 (some .int), Cond.constant RX11 116 (100000), Cond.fieldLink RX11 142 "SpellTurner$Reform" "day" "I", Cond.code yX11_about cX11_about 4 (some .int), Cond.methodLink RX11 138 yX11_reformAt, Cond.instanceMethod yX11_reformAt, Cond.selects RX11 yX11_reformAt yX11_reformAt, Cond.initialized RX11, Cond.fieldLink RX11 145 "SpellTurner$Reform" "lawCount" "I", Cond.fieldLink RX11 148 "SpellTurner$Reform" "parts" "LSpellTurner$WordRow;", Cond.fieldLink RX11 151 "SpellTurner$WordRow" "count" "I", Cond.fieldLink RX11 154 "SpellTurner$Reform" "keptCount" "I", Cond.fieldLink RX11 157 "SpellTurner$Reform" "entries" "LSpellTurner$WordRow;", Cond.code yX11_fault cX11_fault 2 (some .int), Cond.fieldLink RX11 37 "SpellTurner" "reader" "LSpellTurner$Reader;", Cond.fieldLink RX11 128 "SpellTurner$Reader" "faultKind" "I", Cond.fieldLink RX11 135 "SpellTurner$Reader" "faultPlace" "I", Cond.code yX0_formsAt cX0_formsAt 4 (some (.object "SpellTurner$WordRow")), Cond.fieldLink RX0 20 "SpellTurner$Book" "forms" "[LSpellTurner$WordRow;", Cond.fieldLink RX0 35 "SpellTurner$Book" "nothing" "LSpellTurner$WordRow;", Cond.code yX0_collide cX0_collide 7 (some .boolean), Cond.methodLink RX0 56 yX0_formsAt, Cond.instanceMethod yX0_formsAt, Cond.selects RX0 yX0_formsAt yX0_formsAt, Cond.initialized RX0, Cond.fieldLink RX0 38 "SpellTurner$WordRow" "count" "I", Cond.fieldLink RX0 42 "SpellTurner$WordRow" "letters" "[B", Cond.fieldLink RX0 46 "SpellTurner$WordRow" "width" "I", Cond.fieldLink RX0 49 "SpellTurner$WordRow" "lengths" "[I", Cond.methodLink RX0 70 yX10_find, Cond.code yX0_formsRhyme cX0_formsRhyme 8 (some .boolean), Cond.methodLink RX0 74 yX10_endsAlike, Cond.instanceMethod yX10_endsAlike, Cond.selects RX10 yX10_endsAlike yX10_endsAlike, Cond.code yX0_hasForm cX0_hasForm 6 (some .boolean), Cond.fieldLink RX0 14 "SpellTurner$Book" "words" "LSpellTurner$WordRow;", Cond.code yX0_isSuch cX0_isSuch 5 (some .boolean), Cond.code yX0_usesLaw cX0_usesLaw 4 (some .boolean), Cond.fieldLink RX0 24 "SpellTurner$Book" "lawsUsed" "[J", Cond.code yX11_isStage cX11_isStage 2 (some .boolean), Cond.code yX11_areStages cX11_areStages 3 (some .boolean), Cond.methodLink RX11 208 yX11_isStage, Cond.instanceMethod yX11_isStage, Cond.selects RX11 yX11_isStage yX11_isStage, Cond.code yX2_charge cX2_charge 3 none, Cond.fieldLink RX2 25 "SpellTurner$Mixture" "lines" "I", Cond.fieldLink RX2 28 "SpellTurner$Mixture" "stages" "I", Cond.fieldLink RX2 9 "SpellTurner$Mixture" "costs" "[I", Cond.code yX11_chargeWord cX11_chargeWord 2 none, Cond.fieldLink RX11 67 "SpellTurner" "book" "LSpellTurner$Book;", Cond.fieldLink RX11 120 "SpellTurner$Tape" "bytes" "[B", Cond.fieldLink RX11 87 "SpellTurner" "textWords" "LSpellTurner$TextWords;", Cond.fieldLink RX11 262 "SpellTurner$TextWords" "start" "I", Cond.fieldLink RX11 258 "SpellTurner$TextWords" "length" "I", Cond.methodLink RX11 294 yX0_hasForm, Cond.instanceMethod yX0_hasForm, Cond.selects RX0 yX0_hasForm yX0_hasForm, Cond.fieldLink RX11 101 "SpellTurner" "mixture" "LSpellTurner$Mixture;", Cond.fieldLink RX11 298 "SpellTurner$TextWords" "lineNumber" "I", Cond.methodLink RX11 301 yX2_charge, Cond.instanceMethod yX2_charge, Cond.selects RX2 yX2_charge yX2_charge, Cond.initialized RX2, Cond.code yX11_collision cX11_collision 2 (some .int), Cond.fieldLink RX11 81 "SpellTurner" "pairCount" "I", Cond.fieldLink RX11 78 "SpellTurner" "pairs" "[I", Cond.code yX11_count cX11_count 2 (some .int), Cond.fieldLink RX11 197 "SpellTurner$Book" "words" "LSpellTurner$WordRow;", Cond.code yX6_tallyOf cX6_tallyOf 2 (some .int), Cond.fieldLink RX6 25 "SpellTurner$Scribe" "hasTold" "Z", Cond.fieldLink RX6 18 "SpellTurner$Scribe" "toldTally" "[I", Cond.code yX11_counted cX11_counted 2 (some .int), Cond.fieldLink RX11 94 "SpellTurner" "scribe" "LSpellTurner$Scribe;", Cond.methodLink RX11 277 yX6_tallyOf, Cond.instanceMethod yX6_tallyOf, Cond.selects RX6 yX6_tallyOf yX6_tallyOf, Cond.initialized RX6, Cond.code yX11_form cX11_form 3 (some .int), Cond.fieldLink RX11 53 "SpellTurner" "latestForms" "LSpellTurner$WordRow;", Cond.methodLink RX11 176 yX10_letterAt, Cond.instanceMethod yX10_letterAt, Cond.selects RX10 yX10_letterAt yX10_letterAt, Cond.code yX11_learn cX11_learn 3 (some .int), Cond.methodLink RX11 112 yX7_take, Cond.instanceMethod yX7_take, Cond.selects RX7 yX7_take yX7_take, Cond.methodLink RX11 164 yX7_isWord, Cond.instanceMethod yX7_isWord, Cond.selects RX7 yX7_isWord yX7_isWord, Cond.methodLink RX11 180 yX10_find, Cond.methodLink RX11 200 yX10_isFull, Cond.methodLink RX11 204 yX10_add, Cond.code yX2_stageOf cX2_stageOf 2 (some .int), Cond.fieldLink RX2 21 "SpellTurner$Mixture" "toldLines" "I", Cond.fieldLink RX2 18 "SpellTurner$Mixture" "told" "[I", Cond.code yX11_line cX11_line 2 (some .int), Cond.methodLink RX11 291 yX2_stageOf, Cond.instanceMethod yX2_stageOf, Cond.selects RX2 yX2_stageOf yX2_stageOf, Cond.code yX11_notePair cX11_notePair 2 none, Cond.code yX11_old cX11_old 2 (some .int), Cond.fieldLink RX11 75 "SpellTurner" "ownerCount" "I", Cond.fieldLink RX11 71 "SpellTurner" "owners" "[I", Cond.code yX3_pick cX3_pick 3 (some .int), Cond.fieldLink RX3 9 "SpellTurner$Partings" "count" "I", Cond.fieldLink RX3 15 "SpellTurner$Partings" "sizes" "[I", Cond.fieldLink RX3 19 "SpellTurner$Partings" "picks" "[B", Cond.code yX3_lengthOf cX3_lengthOf 4 (some .int), Cond.methodLink RX3 51 yX3_pick, Cond.instanceMethod yX3_pick, Cond.selects RX3 yX3_pick yX3_pick, Cond.initialized RX3, Cond.fieldLink RX3 38 "SpellTurner$Partings" "parts" "LSpellTurner$WordRow;", Cond.fieldLink RX3 42 "SpellTurner$WordRow" "count" "I", Cond.fieldLink RX3 55 "SpellTurner$WordRow" "lengths" "[I", Cond.code yX11_parting cX11_parting 3 (some .int), Cond.fieldLink RX11 60 "SpellTurner" "latestPartings" "LSpellTurner$Partings;", Cond.fieldLink RX11 190 "SpellTurner$Partings" "count" "I", Cond.methodLink RX11 194 yX3_lengthOf, Cond.instanceMethod yX3_lengthOf, Cond.selects RX3 yX3_lengthOf yX3_lengthOf, Cond.fieldLink RX11 191 "SpellTurner$Partings" "sizes" "[I", Cond.code yX11_word cX11_word 3 (some .int), Cond.code yX6_byteAt cX6_byteAt 2 (some .int), Cond.fieldLink RX6 29 "SpellTurner$Scribe" "toldSize" "I", Cond.fieldLink RX6 9 "SpellTurner$Scribe" "told" "[B", Cond.code yX11_written cX11_written 2 (some .int), Cond.methodLink RX11 273 yX6_byteAt, Cond.instanceMethod yX6_byteAt, Cond.selects RX6 yX6_byteAt yX6_byteAt, Cond.code yX1_standsAt cX1_standsAt 7 (some .boolean), Cond.fieldLink RX1 23 "SpellTurner$Law" "first" "[B", Cond.fieldLink RX1 16 "SpellTurner$Law" "atStart" "Z", Cond.fieldLink RX1 20 "SpellTurner$Law" "atEnd" "Z", Cond.fieldLink RX1 7 "SpellTurner$Law" "ahead" "[B", Cond.fieldLink RX1 13 "SpellTurner$Law" "behind" "[B", Cond.methodLink RX1 29 yX10_same, Cond.code yJ7_fill_53178 cJ7_fill_53178 4 none, Cond.code yX2_begin cX2_begin 3 none, Cond.methodLink RX2 31 Lib.Math.min.name, Cond.static Lib.Math.min.name, Cond.initialized "java/lang/Math", Cond.code Lib.Math.min.name Lib.Math.min.code 2 (some .int), Cond.methodLink RX2 37 yJ7_fill_53178, Cond.static yJ7_fill_53178, Cond.initialized RJ7, Cond.code yX2_cost cX2_cost 6 (some .int), Cond.fieldLink RX2 15 "SpellTurner$Mixture" "least" "[I", Cond.code yX2_cheapest cX2_cheapest 6 (some .int), Cond.methodLink RX2 47 yX2_cost, Cond.instanceMethod yX2_cost, Cond.selects RX2 yX2_cost yX2_cost, Cond.code yX2_settle cX2_settle 5 (some .int), Cond.methodLink RX2 43 yX2_cheapest, Cond.instanceMethod yX2_cheapest, Cond.selects RX2 yX2_cheapest yX2_cheapest, Cond.code yJ7_rangeCheck_23922 cJ7_rangeCheck_23922 3 none, Cond.code yJ7_fill_eb02e cJ7_fill_eb02e 5 none, Cond.methodLink RJ7 13 yJ7_rangeCheck_23922, Cond.static yJ7_rangeCheck_23922, Cond.code yX3_markFitting cX3_markFitting 7 none, Cond.fieldLink RX3 26 "SpellTurner$Partings" "closes" "[Z", Cond.fieldLink RX3 23 "SpellTurner$Partings" "fitting" "[B", Cond.methodLink RX3 58 yJ7_fill_eb02e, Cond.static yJ7_fill_eb02e, Cond.methodLink RX3 64 yX10_standsIn, Cond.instanceMethod yX10_standsIn, Cond.selects RX10 yX10_standsIn yX10_standsIn, Cond.code yX3_note cX3_note 2 none, Cond.fieldLink RX3 30 "SpellTurner$Partings" "path" "[B", Cond.methodLink RX3 72 arraycopyName, Cond.code yX3_walk cX3_walk 6 none, Cond.methodLink RX3 47 yX3_walk, Cond.instanceMethod yX3_walk, Cond.selects RX3 yX3_walk yX3_walk, Cond.methodLink RX3 68 yX3_note, Cond.instanceMethod yX3_note, Cond.selects RX3 yX3_note yX3_note, Cond.code yX3_find cX3_find 6 none, Cond.methodLink RX3 43 yX3_markFitting, Cond.instanceMethod yX3_markFitting, Cond.selects RX3 yX3_markFitting yX3_markFitting, Cond.code yX5_isKept cX5_isKept 2 (some .boolean), Cond.fieldLink RX5 39 "SpellTurner$Reform" "kept" "[Z", Cond.code yX11_partings cX11_partings 5 (some .int), Cond.methodLink RX11 187 yX3_find, Cond.instanceMethod yX3_find, Cond.selects RX3 yX3_find yX3_find, Cond.methodLink RX11 184 yX5_isKept, Cond.instanceMethod yX5_isKept, Cond.selects RX5 yX5_isKept yX5_isKept, Cond.initialized RX5, Cond.code yX5_addLaw cX5_addLaw 2 none, Cond.fieldLink RX5 21 "SpellTurner$Reform" "lawCount" "I", Cond.fieldLink RX5 17 "SpellTurner$Reform" "laws" "[LSpellTurner$Law;", Cond.code yX5_addEntry cX5_addEntry 5 none, Cond.fieldLink RX5 33 "SpellTurner$Reform" "entries" "LSpellTurner$WordRow;", Cond.methodLink RX5 67 yX10_isFull, Cond.fieldLink RX5 56 "SpellTurner$WordRow" "count" "I", Cond.fieldLink RX5 43 "SpellTurner$Reform" "keptCount" "I", Cond.methodLink RX5 63 yX10_add, Cond.code yX5_addKept cX5_addKept 4 none, Cond.methodLink RX5 59 yX5_addEntry, Cond.instanceMethod yX5_addEntry, Cond.selects RX5 yX5_addEntry yX5_addEntry, Cond.fieldLink RX5 36 "SpellTurner$Reform" "becomes" "LSpellTurner$WordRow;", Cond.code yX5_addListed cX5_addListed 4 none, Cond.code yX5_clear cX5_clear 2 none, Cond.fieldLink RX5 9 "SpellTurner$Reform" "day" "I", Cond.fieldLink RX5 29 "SpellTurner$Reform" "parts" "LSpellTurner$WordRow;", Cond.fieldLink RX5 46 "SpellTurner$Reform" "turnedParts" "LSpellTurner$WordRow;", Cond.code yX9_addEntry cX9_addEntry 5 none, Cond.methodLink RX9 121 yX5_isKept, Cond.fieldLink RX9 53 "SpellTurner$WordRow" "count" "I", Cond.fieldLink RX9 56 "SpellTurner$WordRow" "letters" "[B", Cond.fieldLink RX9 59 "SpellTurner$WordRow" "width" "I", Cond.fieldLink RX9 62 "SpellTurner$WordRow" "lengths" "[I", Cond.methodLink RX9 85 yX10_addForm, Cond.instanceMethod yX10_addForm, Cond.selects RX10 yX10_addForm yX10_addForm, Cond.fieldLink RX9 125 "SpellTurner$Reform" "becomes" "LSpellTurner$WordRow;", Cond.fieldLink RX9 102 "SpellTurner$Reform" "entries" "LSpellTurner$WordRow;", Cond.code yX9_apply cX9_apply 5 (some .boolean), Cond.fieldLink RX9 18 "SpellTurner$Turner" "now" "[B", Cond.fieldLink RX9 22 "SpellTurner$Turner" "next" "[B", Cond.fieldLink RX9 25 "SpellTurner$Turner" "length" "I", Cond.methodLink RX9 154 yX1_standsAt, Cond.instanceMethod yX1_standsAt, Cond.selects RX1 yX1_standsAt yX1_standsAt, Cond.initialized RX1, Cond.fieldLink RX9 160 "SpellTurner$Law" "second" "[B", Cond.methodLink RX9 134 arraycopyName, Cond.fieldLink RX9 163 "SpellTurner$Law" "first" "[B", Cond.methodLink RX9 88 Lib.Math.max.name, Cond.static Lib.Math.max.name, Cond.code Lib.Math.max.name Lib.Math.max.code 2 (some .int), Cond.code yX9_runLaws cX9_runLaws 7 (some .boolean), Cond.fieldLink RX9 29 "SpellTurner$Turner" "used" "J", Cond.methodLink RX9 140 Lib.Math.min.name, Cond.fieldLink RX9 143 "SpellTurner$Reform" "lawCount" "I", Cond.fieldLink RX9 146 "SpellTurner$Reform" "laws" "[LSpellTurner$Law;", Cond.methodLink RX9 150 yX9_apply, Cond.instanceMethod yX9_apply, Cond.selects RX9 yX9_apply yX9_apply, Cond.initialized RX9, Cond.code yX9_turnParting cX9_turnParting 10 (some .long), Cond.fieldLink RX9 78 "SpellTurner$Reform" "turnedParts" "LSpellTurner$WordRow;", Cond.fieldLink RX9 33 "SpellTurner$Turner" "whole" "[B", Cond.fieldLink RX9 12 "SpellTurner$Turner" "partings" "LSpellTurner$Partings;", Cond.fieldLink RX9 128 "SpellTurner$Partings" "sizes" "[I", Cond.methodLink RX9 131 yX3_pick, Cond.fieldLink RX9 74 "SpellTurner$Reform" "partUses" "[J", Cond.fieldLink RX9 70 "SpellTurner$Reform" "partHolds" "[Z", Cond.code yX9_turnWord cX9_turnWord 11 (some .long), Cond.methodLink RX9 105 yX10_find, Cond.fieldLink RX9 48 "SpellTurner$Reform" "parts" "LSpellTurner$WordRow;", Cond.methodLink RX9 113 yX3_find, Cond.fieldLink RX9 116 "SpellTurner$Partings" "count" "I", Cond.methodLink RX9 117 yX9_turnParting, Cond.instanceMethod yX9_turnParting, Cond.selects RX9 yX9_turnParting yX9_turnParting, Cond.methodLink RX9 66 yX9_runLaws, Cond.instanceMethod yX9_runLaws, Cond.selects RX9 yX9_runLaws yX9_runLaws, Cond.methodLink RX9 109 yX9_addEntry, Cond.instanceMethod yX9_addEntry, Cond.selects RX9 yX9_addEntry yX9_addEntry, Cond.code yX9_turnForms cX9_turnForms 7 (some .long), Cond.methodLink RX9 98 yX9_turnWord, Cond.instanceMethod yX9_turnWord, Cond.selects RX9 yX9_turnWord yX9_turnWord, Cond.code yX9_through cX9_through 9 (some (.object "SpellTurner$WordRow")), Cond.fieldLink RX9 45 "SpellTurner$Turner" "behind" "LSpellTurner$WordRow;", Cond.fieldLink RX9 41 "SpellTurner$Turner" "ahead" "LSpellTurner$WordRow;", Cond.methodLink RX9 94 yX9_turnForms, Cond.instanceMethod yX9_turnForms, Cond.selects RX9 yX9_turnForms yX9_turnForms, Cond.code yX9_turnParts cX9_turnParts 5 none, Cond.methodLink RX9 81 yX10_add, Cond.code yX11_turn cX11_turn 4 (some .int), Cond.methodLink RX11 160 yX11_areStages, Cond.instanceMethod yX11_areStages, Cond.selects RX11 yX11_areStages yX11_areStages, Cond.fieldLink RX11 44 "SpellTurner" "turner" "LSpellTurner$Turner;", Cond.methodLink RX11 168 yX9_through, Cond.instanceMethod yX9_through, Cond.selects RX9 yX9_through yX9_through, Cond.methodLink RX11 172 yX10_copy, Cond.instanceMethod yX10_copy, Cond.selects RX10 yX10_copy yX10_copy, Cond.code yX4_scanRun cX4_scanRun 2 none, Cond.fieldLink RX4 25 "SpellTurner$Reader" "at" "I", Cond.fieldLink RX4 34 "SpellTurner$Reader" "start" "I", Cond.fieldLink RX4 22 "SpellTurner$Reader" "size" "I", Cond.fieldLink RX4 37 "SpellTurner$Reader" "length" "I", Cond.fieldLink RX4 18 "SpellTurner$Reader" "text" "[B", Cond.methodLink RX4 190 yX10_isSmall, Cond.code yX4_nextToken cX4_nextToken 1 none, Cond.fieldLink RX4 31 "SpellTurner$Reader" "place" "I", Cond.methodLink RX4 186 yX4_scanRun, Cond.instanceMethod yX4_scanRun, Cond.selects RX4 yX4_scanRun yX4_scanRun, Cond.initialized RX4, Cond.fieldLink RX4 28 "SpellTurner$Reader" "token" "I", Cond.code yX4_wordIs cX4_wordIs 3 (some .boolean), Cond.methodLink RX4 177 yJ0_length_8abf5, Cond.instanceMethod yJ0_length_8abf5, Cond.selects RJ0 yJ0_length_8abf5 yJ0_length_8abf5, Cond.initialized RJ0, Cond.methodLink RX4 182 yJ0_charAt_5068e, Cond.instanceMethod yJ0_charAt_5068e, Cond.selects RJ0 yJ0_charAt_5068e yJ0_charAt_5068e, Cond.code yX4_blame cX4_blame 2 (some .boolean), Cond.fieldLink RX4 9 "SpellTurner$Reader" "faultKind" "I", Cond.fieldLink RX4 15 "SpellTurner$Reader" "faultPlace" "I", Cond.code yX4_hasRoom cX4_hasRoom 2 (some .boolean), Cond.methodLink RX4 74 yX4_blame, Cond.instanceMethod yX4_blame, Cond.selects RX4 yX4_blame yX4_blame, Cond.code yX4_isNew cX4_isNew 2 (some .boolean), Cond.code yX4_takeLetters cX4_takeLetters 2 (some .boolean), Cond.methodLink RX4 46 yX4_nextToken, Cond.instanceMethod yX4_nextToken, Cond.selects RX4 yX4_nextToken yX4_nextToken, Cond.code yX4_takeNew cX4_takeNew 2 (some .boolean), Cond.methodLink RX4 111 yX4_takeLetters, Cond.instanceMethod yX4_takeLetters, Cond.selects RX4 yX4_takeLetters yX4_takeLetters, Cond.methodLink RX4 165 yX10_find, Cond.methodLink RX4 147 yX4_isNew, Cond.instanceMethod yX4_isNew, Cond.selects RX4 yX4_isNew yX4_isNew, Cond.code yX4_takeTo cX4_takeTo 1 (some .boolean), Cond.methodLink RX4 51 yX4_wordIs, Cond.instanceMethod yX4_wordIs, Cond.selects RX4 yX4_wordIs yX4_wordIs, Cond.code yX4_takeClose cX4_takeClose 1 (some .boolean), Cond.code yX4_readKeep cX4_readKeep 2 none, Cond.fieldLink RX4 78 "SpellTurner$Reform" "entries" "LSpellTurner$WordRow;", Cond.methodLink RX4 84 yX10_isFull, Cond.methodLink RX4 90 yX4_hasRoom, Cond.instanceMethod yX4_hasRoom, Cond.selects RX4 yX4_hasRoom yX4_hasRoom, Cond.methodLink RX4 94 yX4_takeNew, Cond.instanceMethod yX4_takeNew, Cond.selects RX4 yX4_takeNew yX4_takeNew, Cond.methodLink RX4 98 yX5_addKept, Cond.instanceMethod yX5_addKept, Cond.selects RX5 yX5_addKept yX5_addKept, Cond.methodLink RX4 102 yX4_takeClose, Cond.instanceMethod yX4_takeClose, Cond.selects RX4 yX4_takeClose yX4_takeClose, Cond.code yX4_readPart cX4_readPart 2 none, Cond.fieldLink RX4 120 "SpellTurner$Reform" "parts" "LSpellTurner$WordRow;", Cond.methodLink RX4 117 yX10_add, Cond.code yX4_readList cX4_readList 2 none, Cond.methodLink RX4 105 yX5_addListed, Cond.instanceMethod yX5_addListed, Cond.selects RX5 yX5_addListed yX5_addListed, Cond.methodLink RX4 108 yX4_takeTo, Cond.instanceMethod yX4_takeTo, Cond.selects RX4 yX4_takeTo yX4_takeTo, Cond.fieldLink RX4 114 "SpellTurner$Reform" "becomes" "LSpellTurner$WordRow;", Cond.code yX6_begin cX6_begin 1 none, Cond.fieldLink RX6 22 "SpellTurner$Scribe" "tally" "[I", Cond.methodLink RX6 42 yJ7_fill_53178, Cond.fieldLink RX6 33 "SpellTurner$Scribe" "size" "I", Cond.fieldLink RX6 36 "SpellTurner$Scribe" "copied" "I", Cond.fieldLink RX6 39 "SpellTurner$Scribe" "fits" "Z", Cond.code yX6_leaveName cX6_leaveName 1 none, Cond.code yX6_leaveLost cX6_leaveLost 1 none, Cond.code yX6_append cX6_append 4 none, Cond.fieldLink RX6 15 "SpellTurner$Scribe" "page" "[B", Cond.methodLink RX6 81 arraycopyName, Cond.code yX6_put cX6_put 3 none, Cond.fieldLink RX6 48 "SpellTurner$WordRow" "count" "I", Cond.fieldLink RX6 56 "SpellTurner$WordRow" "lengths" "[I", Cond.fieldLink RX6 59 "SpellTurner$TextWords" "length" "I", Cond.fieldLink RX6 64 "SpellTurner$TextWords" "text" "[B", Cond.fieldLink RX6 67 "SpellTurner$TextWords" "start" "I", Cond.methodLink RX6 74 yX6_append, Cond.instanceMethod yX6_append, Cond.selects RX6 yX6_append yX6_append, Cond.fieldLink RX6 78 "SpellTurner$WordRow" "letters" "[B", Cond.methodLink RX6 70 yX10_standsIn, Cond.methodLink RX6 53 yX6_leaveLost, Cond.instanceMethod yX6_leaveLost, Cond.selects RX6 yX6_leaveLost yX6_leaveLost, Cond.code yX6_finish cX6_finish 5 (some .int), Cond.code yX8_begin cX8_begin 3 none, Cond.fieldLink RX8 25 "SpellTurner$TextWords" "text" "[B", Cond.methodLink RX8 38 Lib.Math.min.name, Cond.fieldLink RX8 29 "SpellTurner$TextWords" "size" "I", Cond.fieldLink RX8 32 "SpellTurner$TextWords" "at" "I", Cond.fieldLink RX8 18 "SpellTurner$TextWords" "lineNumber" "I", Cond.fieldLink RX8 35 "SpellTurner$TextWords" "quoted" "Z", Cond.code yX8_isLetter cX8_isLetter 1 (some .boolean), Cond.methodLink RX8 56 yX10_isSmall, Cond.methodLink RX8 51 yX10_isCapital, Cond.static yX10_isCapital, Cond.code yX8_takeWord cX8_takeWord 1 none, Cond.fieldLink RX8 9 "SpellTurner$TextWords" "start" "I", Cond.fieldLink RX8 21 "SpellTurner$TextWords" "isName" "Z", Cond.fieldLink RX8 15 "SpellTurner$TextWords" "length" "I", Cond.methodLink RX8 44 yX8_isLetter, Cond.static yX8_isLetter, Cond.initialized RX8, Cond.code yX8_next cX8_next 2 (some .boolean), Cond.methodLink RX8 48 yX8_takeWord, Cond.instanceMethod yX8_takeWord, Cond.selects RX8 yX8_takeWord yX8_takeWord, Cond.code yX11_write cX11_write 5 (some .int), Cond.methodLink RX11 239 yX7_hasZero, Cond.instanceMethod yX7_hasZero, Cond.selects RX7 yX7_hasZero yX7_hasZero, Cond.methodLink RX11 242 yX8_begin, Cond.instanceMethod yX8_begin, Cond.selects RX8 yX8_begin yX8_begin, Cond.methodLink RX11 246 yX6_begin, Cond.instanceMethod yX6_begin, Cond.selects RX6 yX6_begin yX6_begin, Cond.methodLink RX11 269 yX6_finish, Cond.instanceMethod yX6_finish, Cond.selects RX6 yX6_finish yX6_finish, Cond.methodLink RX11 248 yX8_next, Cond.instanceMethod yX8_next, Cond.selects RX8 yX8_next yX8_next, Cond.fieldLink RX11 251 "SpellTurner$TextWords" "isName" "Z", Cond.methodLink RX11 265 yX6_put, Cond.instanceMethod yX6_put, Cond.selects RX6 yX6_put yX6_put, Cond.methodLink RX11 259 yX6_leaveLost, Cond.methodLink RX11 255 yX6_leaveName, Cond.instanceMethod yX6_leaveName, Cond.selects RX6 yX6_leaveName yX6_leaveName, Cond.code yX10_init cX10_init 3 none, Cond.methodLink RX10 3 objectInit, Cond.instanceMethod objectInit, Cond.code objectInit ⟨#[0xb1]⟩ 1 none, Cond.arrayClass .byte, Cond.arrayClass .int, Cond.code yX1_init cX1_init 3 none, Cond.methodLink RX1 1 objectInit, Cond.fieldLink RX1 26 "SpellTurner$Law" "second" "[B", Cond.code yX5_init cX5_init 1 none, Cond.methodLink RX5 3 objectInit, Cond.classLink RX5 15 RX1, Cond.classLink RX5 24 RX10, Cond.instantiable RX10 4, Cond.methodLink RX5 26 yX10_init, Cond.instanceMethod yX10_init, Cond.arrayClass .boolean, Cond.fieldLink RX5 49 "SpellTurner$Reform" "partHolds" "[Z", Cond.arrayClass .long, Cond.fieldLink RX5 52 "SpellTurner$Reform" "partUses" "[J", Cond.code yJ7_checkLength_df160 cJ7_checkLength_df160 2 none, Cond.code yJ7_copyOfRangeByte_39247 cJ7_copyOfRangeByte_39247 5 (some (.array .byte)), Cond.methodLink RJ7 343 yJ7_checkLength_df160, Cond.static yJ7_checkLength_df160, Cond.methodLink RJ7 304 Lib.Math.min.name, Cond.methodLink RJ7 150 arraycopyName, Cond.code yJ7_copyOfRange_39247 cJ7_copyOfRange_39247 3 (some (.array .byte)), Cond.methodLink RJ7 339 yJ7_copyOfRangeByte_39247, Cond.static yJ7_copyOfRangeByte_39247, Cond.code yX4_letters cX4_letters 1 (some (.array .byte)), Cond.methodLink RX4 171 yJ7_copyOfRange_39247, Cond.static yJ7_copyOfRange_39247, Cond.code yX4_readSide cX4_readSide 2 none, Cond.fieldLink RX4 162 "SpellTurner$Law" "behind" "[B", Cond.methodLink RX4 126 yX4_letters, Cond.instanceMethod yX4_letters, Cond.selects RX4 yX4_letters yX4_letters, Cond.fieldLink RX4 157 "SpellTurner$Law" "ahead" "[B", Cond.fieldLink RX4 152 "SpellTurner$Law" "atEnd" "Z", Cond.fieldLink RX4 143 "SpellTurner$Law" "atStart" "Z", Cond.code yX4_readLaw cX4_readLaw 5 none, Cond.fieldLink RX4 123 "SpellTurner$Reform" "lawCount" "I", Cond.classLink RX4 130 RX1, Cond.instantiable RX1 6, Cond.methodLink RX4 132 yX1_init, Cond.instanceMethod yX1_init, Cond.methodLink RX4 139 yX4_readSide, Cond.instanceMethod yX4_readSide, Cond.selects RX4 yX4_readSide yX4_readSide, Cond.methodLink RX4 135 yX5_addLaw, Cond.instanceMethod yX5_addLaw, Cond.selects RX5 yX5_addLaw yX5_addLaw, Cond.code yX4_read cX4_read 5 none, Cond.methodLink RX4 40 Lib.Math.min.name, Cond.methodLink RX4 71 yX4_readLaw, Cond.instanceMethod yX4_readLaw, Cond.selects RX4 yX4_readLaw yX4_readLaw, Cond.methodLink RX4 66 yX4_readPart, Cond.instanceMethod yX4_readPart, Cond.selects RX4 yX4_readPart yX4_readPart, Cond.methodLink RX4 61 yX4_readList, Cond.instanceMethod yX4_readList, Cond.selects RX4 yX4_readList yX4_readList, Cond.methodLink RX4 55 yX4_readKeep, Cond.instanceMethod yX4_readKeep, Cond.selects RX4 yX4_readKeep yX4_readKeep, Cond.code yX11_reform cX11_reform 3 (some .int), Cond.fieldLink RX11 26 "SpellTurner" "latestDay" "I", Cond.fieldLink RX11 30 "SpellTurner" "draft" "LSpellTurner$Reform;", Cond.methodLink RX11 117 yX5_clear, Cond.instanceMethod yX5_clear, Cond.selects RX5 yX5_clear yX5_clear, Cond.methodLink RX11 124 yX4_read, Cond.instanceMethod yX4_read, Cond.selects RX4 yX4_read yX4_read, Cond.methodLink RX11 131 yX9_turnParts, Cond.instanceMethod yX9_turnParts, Cond.selects RX9 yX9_turnParts yX9_turnParts, Cond.classLink RX11 16 RX5, Cond.instantiable RX5 11, Cond.instanceMethod yX5_init, Cond.code yX0_fill cX0_fill 7 none, Cond.fieldLink RX0 28 "SpellTurner$Book" "filled" "[I", Cond.fieldLink RX0 32 "SpellTurner$Book" "spare" "LSpellTurner$WordRow;", Cond.classLink RX0 9 RX10, Cond.methodLink RX0 11 yX10_init, Cond.methodLink RX0 66 yX10_copy, Cond.methodLink RX0 60 yX9_turnForms, Cond.methodLink RX0 52 yX10_add, Cond.code yX11_back cX11_back 4 (some .int), Cond.methodLink RX11 211 yX0_fill, Cond.instanceMethod yX0_fill, Cond.selects RX0 yX0_fill yX0_fill, Cond.methodLink RX11 215 yX0_formsAt, Cond.code yX11_collisions cX11_collisions 5 (some .int), Cond.methodLink RX11 219 yX0_collide, Cond.instanceMethod yX0_collide, Cond.selects RX0 yX0_collide yX0_collide, Cond.methodLink RX11 223 yX11_notePair, Cond.instanceMethod yX11_notePair, Cond.selects RX11 yX11_notePair yX11_notePair, Cond.code yX11_rhymes cX11_rhymes 5 (some .int), Cond.methodLink RX11 226 yX10_endsAlike, Cond.methodLink RX11 230 yX0_formsRhyme, Cond.instanceMethod yX0_formsRhyme, Cond.selects RX0 yX0_formsRhyme yX0_formsRhyme, Cond.code yX11_tell cX11_tell 5 (some .int), Cond.methodLink RX11 233 yX0_isSuch, Cond.instanceMethod yX0_isSuch, Cond.selects RX0 yX0_isSuch yX0_isSuch, Cond.code yX11_uses cX11_uses 6 (some .int), Cond.methodLink RX11 236 yX0_usesLaw, Cond.instanceMethod yX0_usesLaw, Cond.selects RX0 yX0_usesLaw yX0_usesLaw, Cond.code yX11_mixed cX11_mixed 5 (some .int), Cond.methodLink RX11 280 yX7_lines, Cond.instanceMethod yX7_lines, Cond.selects RX7 yX7_lines yX7_lines, Cond.methodLink RX11 283 yX2_begin, Cond.instanceMethod yX2_begin, Cond.selects RX2 yX2_begin yX2_begin, Cond.methodLink RX11 288 yX2_settle, Cond.instanceMethod yX2_settle, Cond.selects RX2 yX2_settle yX2_settle, Cond.methodLink RX11 285 yX11_chargeWord, Cond.instanceMethod yX11_chargeWord, Cond.selects RX11 yX11_chargeWord yX11_chargeWord, Cond.code yX7_init cX7_init 1 none, Cond.methodLink RX7 3 objectInit, Cond.code yX4_init cX4_init 1 none, Cond.methodLink RX4 3 objectInit, Cond.code yX3_init cX3_init 1 none, Cond.methodLink RX3 3 objectInit, Cond.classLink RX3 33 RX10, Cond.methodLink RX3 35 yX10_init, Cond.code yX9_init cX9_init 1 none, Cond.methodLink RX9 3 objectInit, Cond.classLink RX9 9 RX3, Cond.instantiable RX3 7, Cond.instanceMethod yX3_init, Cond.classLink RX9 36 RX10, Cond.methodLink RX9 38 yX10_init, Cond.code yX0_init cX0_init 1 none, Cond.methodLink RX0 3 objectInit, Cond.code yX8_init cX8_init 1 none, Cond.methodLink RX8 3 objectInit, Cond.code yX6_init cX6_init 1 none, Cond.methodLink RX6 3 objectInit, Cond.code yX2_init cX2_init 1 none, Cond.methodLink RX2 3 objectInit, Cond.code yX11_init cX11_init 1 none, Cond.methodLink RX11 3 objectInit, Cond.classLink RX11 9 RX7, Cond.instantiable RX7 2, Cond.instanceMethod yX7_init, Cond.classLink RX11 34 RX4, Cond.instantiable RX4 9, Cond.instanceMethod yX4_init, Cond.classLink RX11 41 RX9, Cond.instantiable RX9 8, Cond.instanceMethod yX9_init, Cond.classLink RX11 48 RX10, Cond.methodLink RX11 50 yX10_init, Cond.classLink RX11 57 RX3, Cond.classLink RX11 64 RX0, Cond.instantiable RX0 6, Cond.instanceMethod yX0_init, Cond.classLink RX11 84 RX8, Cond.instantiable RX8 8, Cond.instanceMethod yX8_init, Cond.classLink RX11 91 RX6, Cond.instantiable RX6 9, Cond.instanceMethod yX6_init, Cond.classLink RX11 98 RX2, Cond.instantiable RX2 6, Cond.instanceMethod yX2_init]
def lwC : List Cond := lwC0 ++ (wsX00 ++ (wsX10 ++ (wsX20 ++ (wsX30 ++ (wsX40 ++ (wsX50 ++ (wsX60 ++ (wsX70 ++ (wsX80 ++ (wsX90 ++ (wsX100 ++ (wsX110 ++ lwM))))))))))))
set_option maxRecDepth 100000 in
theorem lwC0_good : lwC0.all goodWord = true := by decide +kernel
theorem inX0 {c0 : Cond} : ∀ w ∈ u_ws RX0 TX0 6, w ∈ c0 :: lwC := fun _ h => List.mem_cons_of_mem _ (List.mem_append_right _ (List.mem_append_left _ h))
theorem inX1 {c0 : Cond} : ∀ w ∈ u_ws RX1 TX1 6, w ∈ c0 :: lwC := fun _ h => List.mem_cons_of_mem _ (List.mem_append_right _ (List.mem_append_right _ (List.mem_append_left _ h)))
theorem inX2 {c0 : Cond} : ∀ w ∈ u_ws RX2 TX2 6, w ∈ c0 :: lwC := fun _ h => List.mem_cons_of_mem _ (List.mem_append_right _ (List.mem_append_right _ (List.mem_append_right _ (List.mem_append_left _ h))))
theorem inX3 {c0 : Cond} : ∀ w ∈ u_ws RX3 TX3 7, w ∈ c0 :: lwC := fun _ h => List.mem_cons_of_mem _ (List.mem_append_right _ (List.mem_append_right _ (List.mem_append_right _ (List.mem_append_right _ (List.mem_append_left _ h)))))
theorem inX4 {c0 : Cond} : ∀ w ∈ u_ws RX4 TX4 9, w ∈ c0 :: lwC := fun _ h => List.mem_cons_of_mem _ (List.mem_append_right _ (List.mem_append_right _ (List.mem_append_right _ (List.mem_append_right _ (List.mem_append_right _ (List.mem_append_left _ h))))))
theorem inX5 {c0 : Cond} : ∀ w ∈ u_ws RX5 TX5 11, w ∈ c0 :: lwC := fun _ h => List.mem_cons_of_mem _ (List.mem_append_right _ (List.mem_append_right _ (List.mem_append_right _ (List.mem_append_right _ (List.mem_append_right _ (List.mem_append_right _ (List.mem_append_left _ h)))))))
theorem inX6 {c0 : Cond} : ∀ w ∈ u_ws RX6 TX6 9, w ∈ c0 :: lwC := fun _ h => List.mem_cons_of_mem _ (List.mem_append_right _ (List.mem_append_right _ (List.mem_append_right _ (List.mem_append_right _ (List.mem_append_right _ (List.mem_append_right _ (List.mem_append_right _ (List.mem_append_left _ h))))))))
theorem inX7 {c0 : Cond} : ∀ w ∈ u_ws RX7 TX7 2, w ∈ c0 :: lwC := fun _ h => List.mem_cons_of_mem _ (List.mem_append_right _ (List.mem_append_right _ (List.mem_append_right _ (List.mem_append_right _ (List.mem_append_right _ (List.mem_append_right _ (List.mem_append_right _ (List.mem_append_right _ (List.mem_append_left _ h)))))))))
theorem inX8 {c0 : Cond} : ∀ w ∈ u_ws RX8 TX8 8, w ∈ c0 :: lwC := fun _ h => List.mem_cons_of_mem _ (List.mem_append_right _ (List.mem_append_right _ (List.mem_append_right _ (List.mem_append_right _ (List.mem_append_right _ (List.mem_append_right _ (List.mem_append_right _ (List.mem_append_right _ (List.mem_append_right _ (List.mem_append_left _ h))))))))))
theorem inX9 {c0 : Cond} : ∀ w ∈ u_ws RX9 TX9 8, w ∈ c0 :: lwC := fun _ h => List.mem_cons_of_mem _ (List.mem_append_right _ (List.mem_append_right _ (List.mem_append_right _ (List.mem_append_right _ (List.mem_append_right _ (List.mem_append_right _ (List.mem_append_right _ (List.mem_append_right _ (List.mem_append_right _ (List.mem_append_right _ (List.mem_append_left _ h)))))))))))
theorem inX10 {c0 : Cond} : ∀ w ∈ u_ws RX10 TX10 4, w ∈ c0 :: lwC := fun _ h => List.mem_cons_of_mem _ (List.mem_append_right _ (List.mem_append_right _ (List.mem_append_right _ (List.mem_append_right _ (List.mem_append_right _ (List.mem_append_right _ (List.mem_append_right _ (List.mem_append_right _ (List.mem_append_right _ (List.mem_append_right _ (List.mem_append_right _ (List.mem_append_left _ h))))))))))))
theorem inX11 {c0 : Cond} : ∀ w ∈ u_ws RX11 TX11 17, w ∈ c0 :: lwC := fun _ h => List.mem_cons_of_mem _ (List.mem_append_right _ (List.mem_append_right _ (List.mem_append_right _ (List.mem_append_right _ (List.mem_append_right _ (List.mem_append_right _ (List.mem_append_right _ (List.mem_append_right _ (List.mem_append_right _ (List.mem_append_right _ (List.mem_append_right _ (List.mem_append_right _ (List.mem_append_left _ h)))))))))))))
theorem inM {c0 : Cond} : ∀ w ∈ lwM, w ∈ c0 :: lwC := fun _ h => List.mem_cons_of_mem _ (List.mem_append_right _ (List.mem_append_right _ (List.mem_append_right _ (List.mem_append_right _ (List.mem_append_right _ (List.mem_append_right _ (List.mem_append_right _ (List.mem_append_right _ (List.mem_append_right _ (List.mem_append_right _ (List.mem_append_right _ (List.mem_append_right _ (List.mem_append_right _ (h))))))))))))))
theorem lwC_in {c0 : Cond} : GoodIn (c0 :: lwC) lwC := by
  intro w hw
  rcases List.mem_append.mp hw with h | hw
  · exact ⟨List.mem_cons_of_mem _ hw, good_of_word (List.all_eq_true.mp lwC0_good w h)⟩
  rcases List.mem_append.mp hw with h | hw
  · exact gb_X0 inX0 w h
  rcases List.mem_append.mp hw with h | hw
  · exact gb_X1 inX1 w h
  rcases List.mem_append.mp hw with h | hw
  · exact gb_X2 inX2 w h
  rcases List.mem_append.mp hw with h | hw
  · exact gb_X3 inX3 w h
  rcases List.mem_append.mp hw with h | hw
  · exact gb_X4 inX4 w h
  rcases List.mem_append.mp hw with h | hw
  · exact gb_X5 inX5 w h
  rcases List.mem_append.mp hw with h | hw
  · exact gb_X6 inX6 w h
  rcases List.mem_append.mp hw with h | hw
  · exact gb_X7 inX7 w h
  rcases List.mem_append.mp hw with h | hw
  · exact gb_X8 inX8 w h
  rcases List.mem_append.mp hw with h | hw
  · exact gb_X9 inX9 w h
  rcases List.mem_append.mp hw with h | hw
  · exact gb_X10 inX10 w h
  rcases List.mem_append.mp hw with h | hw
  · exact gb_X11 inX11 w h
  have := lwM_in (c0 := c0) w hw
  exact ⟨inM w hw, this.2⟩
theorem lwC_code {c0 c1 : Cond} (h : c1 ∈ c0 :: lwC) (hg : goodWord c1 = true := by decide +kernel) : GoodIn (c0 :: lwC) (c1 :: lwC) := gdW h hg lwC_in
theorem lwM_inC {c0 : Cond} : GoodIn (c0 :: lwC) lwM := fun w h => ⟨inM w h, (lwM_in (c0 := c0) w h).2⟩
set_option maxRecDepth 100000 in
theorem ic_0 {c0 : Cond} : Cond.code yJ0_length_8abf5 cJ0_length_8abf5 1 (some .int) ∈ c0 :: lwC := List.mem_cons_of_mem _ (List.mem_append_left _ (List.mem_of_getElem? (i := 0) rfl))
set_option maxRecDepth 100000 in
theorem ic_1 {c0 : Cond} : Cond.code yJ0_charAt_5068e cJ0_charAt_5068e 2 (some .char) ∈ c0 :: lwC := List.mem_cons_of_mem _ (List.mem_append_left _ (List.mem_of_getElem? (i := 1) rfl))
set_option maxRecDepth 100000 in
theorem ic_2 {c0 : Cond} : Cond.code yX10_isSmall cX10_isSmall 1 (some .boolean) ∈ c0 :: lwC := List.mem_cons_of_mem _ (List.mem_append_left _ (List.mem_of_getElem? (i := 2) rfl))
set_option maxRecDepth 100000 in
theorem ic_3 {c0 : Cond} : Cond.code yX10_isCapital cX10_isCapital 1 (some .boolean) ∈ c0 :: lwC := List.mem_cons_of_mem _ (List.mem_append_left _ (List.mem_of_getElem? (i := 3) rfl))
set_option maxRecDepth 100000 in
theorem ic_4 {c0 : Cond} : Cond.code yX10_isFull cX10_isFull 1 (some .boolean) ∈ c0 :: lwC := List.mem_cons_of_mem _ (List.mem_append_left _ (List.mem_of_getElem? (i := 4) rfl))
set_option maxRecDepth 100000 in
theorem ic_5 {c0 : Cond} : Cond.fieldLink RX10 9 "SpellTurner$WordRow" "count" "I" ∈ c0 :: lwC := List.mem_cons_of_mem _ (List.mem_append_left _ (List.mem_of_getElem? (i := 5) rfl))
set_option maxRecDepth 100000 in
theorem ic_6 {c0 : Cond} : Cond.fieldLink RX10 22 "SpellTurner$WordRow" "lengths" "[I" ∈ c0 :: lwC := List.mem_cons_of_mem _ (List.mem_append_left _ (List.mem_of_getElem? (i := 6) rfl))
set_option maxRecDepth 100000 in
theorem ic_7 {c0 : Cond} : Cond.code yX10_same cX10_same 6 (some .boolean) ∈ c0 :: lwC := List.mem_cons_of_mem _ (List.mem_append_left _ (List.mem_of_getElem? (i := 7) rfl))
set_option maxRecDepth 100000 in
theorem ic_8 {c0 : Cond} : Cond.code yX10_add cX10_add 4 none ∈ c0 :: lwC := List.mem_cons_of_mem _ (List.mem_append_left _ (List.mem_of_getElem? (i := 8) rfl))
set_option maxRecDepth 100000 in
theorem ic_9 {c0 : Cond} : Cond.methodLink RX10 26 yX10_isFull ∈ c0 :: lwC := List.mem_cons_of_mem _ (List.mem_append_left _ (List.mem_of_getElem? (i := 9) rfl))
set_option maxRecDepth 100000 in
theorem ic_10 {c0 : Cond} : Cond.instanceMethod yX10_isFull ∈ c0 :: lwC := List.mem_cons_of_mem _ (List.mem_append_left _ (List.mem_of_getElem? (i := 10) rfl))
set_option maxRecDepth 100000 in
theorem ic_11 {c0 : Cond} : Cond.selects RX10 yX10_isFull yX10_isFull ∈ c0 :: lwC := List.mem_cons_of_mem _ (List.mem_append_left _ (List.mem_of_getElem? (i := 11) rfl))
set_option maxRecDepth 100000 in
theorem ic_12 {c0 : Cond} : Cond.initialized RX10 ∈ c0 :: lwC := List.mem_cons_of_mem _ (List.mem_append_left _ (List.mem_of_getElem? (i := 12) rfl))
set_option maxRecDepth 100000 in
theorem ic_13 {c0 : Cond} : Cond.fieldLink RX10 15 "SpellTurner$WordRow" "width" "I" ∈ c0 :: lwC := List.mem_cons_of_mem _ (List.mem_append_left _ (List.mem_of_getElem? (i := 13) rfl))
set_option maxRecDepth 100000 in
theorem ic_14 {c0 : Cond} : Cond.fieldLink RX10 18 "SpellTurner$WordRow" "letters" "[B" ∈ c0 :: lwC := List.mem_cons_of_mem _ (List.mem_append_left _ (List.mem_of_getElem? (i := 14) rfl))
set_option maxRecDepth 100000 in
theorem ic_15 {c0 : Cond} : Cond.methodLink RX10 30 arraycopyName ∈ c0 :: lwC := List.mem_cons_of_mem _ (List.mem_append_left _ (List.mem_of_getElem? (i := 15) rfl))
set_option maxRecDepth 100000 in
theorem ic_16 {c0 : Cond} : Cond.native arraycopyName ∈ c0 :: lwC := List.mem_cons_of_mem _ (List.mem_append_left _ (List.mem_of_getElem? (i := 16) rfl))
set_option maxRecDepth 100000 in
theorem ic_17 {c0 : Cond} : Cond.static arraycopyName ∈ c0 :: lwC := List.mem_cons_of_mem _ (List.mem_append_left _ (List.mem_of_getElem? (i := 17) rfl))
set_option maxRecDepth 100000 in
theorem ic_18 {c0 : Cond} : Cond.initialized "java/lang/System" ∈ c0 :: lwC := List.mem_cons_of_mem _ (List.mem_append_left _ (List.mem_of_getElem? (i := 18) rfl))
set_option maxRecDepth 100000 in
theorem ic_19 {c0 : Cond} : Cond.code yX10_find cX10_find 5 (some .int) ∈ c0 :: lwC := List.mem_cons_of_mem _ (List.mem_append_left _ (List.mem_of_getElem? (i := 19) rfl))
set_option maxRecDepth 100000 in
theorem ic_20 {c0 : Cond} : Cond.methodLink RX10 44 yX10_same ∈ c0 :: lwC := List.mem_cons_of_mem _ (List.mem_append_left _ (List.mem_of_getElem? (i := 20) rfl))
set_option maxRecDepth 100000 in
theorem ic_21 {c0 : Cond} : Cond.static yX10_same ∈ c0 :: lwC := List.mem_cons_of_mem _ (List.mem_append_left _ (List.mem_of_getElem? (i := 21) rfl))
set_option maxRecDepth 100000 in
theorem ic_22 {c0 : Cond} : Cond.code yX10_addForm cX10_addForm 4 none ∈ c0 :: lwC := List.mem_cons_of_mem _ (List.mem_append_left _ (List.mem_of_getElem? (i := 22) rfl))
set_option maxRecDepth 100000 in
theorem ic_23 {c0 : Cond} : Cond.methodLink RX10 36 yX10_find ∈ c0 :: lwC := List.mem_cons_of_mem _ (List.mem_append_left _ (List.mem_of_getElem? (i := 23) rfl))
set_option maxRecDepth 100000 in
theorem ic_24 {c0 : Cond} : Cond.instanceMethod yX10_find ∈ c0 :: lwC := List.mem_cons_of_mem _ (List.mem_append_left _ (List.mem_of_getElem? (i := 24) rfl))
set_option maxRecDepth 100000 in
theorem ic_25 {c0 : Cond} : Cond.selects RX10 yX10_find yX10_find ∈ c0 :: lwC := List.mem_cons_of_mem _ (List.mem_append_left _ (List.mem_of_getElem? (i := 25) rfl))
set_option maxRecDepth 100000 in
theorem ic_26 {c0 : Cond} : Cond.methodLink RX10 40 yX10_add ∈ c0 :: lwC := List.mem_cons_of_mem _ (List.mem_append_left _ (List.mem_of_getElem? (i := 26) rfl))
set_option maxRecDepth 100000 in
theorem ic_27 {c0 : Cond} : Cond.instanceMethod yX10_add ∈ c0 :: lwC := List.mem_cons_of_mem _ (List.mem_append_left _ (List.mem_of_getElem? (i := 27) rfl))
set_option maxRecDepth 100000 in
theorem ic_28 {c0 : Cond} : Cond.selects RX10 yX10_add yX10_add ∈ c0 :: lwC := List.mem_cons_of_mem _ (List.mem_append_left _ (List.mem_of_getElem? (i := 28) rfl))
set_option maxRecDepth 100000 in
theorem ic_29 {c0 : Cond} : Cond.code yX10_copy cX10_copy 3 none ∈ c0 :: lwC := List.mem_cons_of_mem _ (List.mem_append_left _ (List.mem_of_getElem? (i := 29) rfl))
set_option maxRecDepth 100000 in
theorem ic_30 {c0 : Cond} : Cond.code yX10_standsIn cX10_standsIn 4 (some .boolean) ∈ c0 :: lwC := List.mem_cons_of_mem _ (List.mem_append_left _ (List.mem_of_getElem? (i := 30) rfl))
set_option maxRecDepth 100000 in
theorem ic_31 {c0 : Cond} : Cond.code yX10_endsAlike cX10_endsAlike 6 (some .boolean) ∈ c0 :: lwC := List.mem_cons_of_mem _ (List.mem_append_left _ (List.mem_of_getElem? (i := 31) rfl))
set_option maxRecDepth 100000 in
theorem ic_32 {c0 : Cond} : Cond.code yX10_letterAt cX10_letterAt 3 (some .int) ∈ c0 :: lwC := List.mem_cons_of_mem _ (List.mem_append_left _ (List.mem_of_getElem? (i := 32) rfl))
set_option maxRecDepth 100000 in
theorem ic_33 {c0 : Cond} : Cond.code yX7_take cX7_take 2 (some .int) ∈ c0 :: lwC := List.mem_cons_of_mem _ (List.mem_append_left _ (List.mem_of_getElem? (i := 33) rfl))
set_option maxRecDepth 100000 in
theorem ic_34 {c0 : Cond} : Cond.fieldLink RX7 15 "SpellTurner$Tape" "length" "I" ∈ c0 :: lwC := List.mem_cons_of_mem _ (List.mem_append_left _ (List.mem_of_getElem? (i := 34) rfl))
set_option maxRecDepth 100000 in
theorem ic_35 {c0 : Cond} : Cond.code yX7_append cX7_append 3 none ∈ c0 :: lwC := List.mem_cons_of_mem _ (List.mem_append_left _ (List.mem_of_getElem? (i := 35) rfl))
set_option maxRecDepth 100000 in
theorem ic_36 {c0 : Cond} : Cond.fieldLink RX7 9 "SpellTurner$Tape" "bytes" "[B" ∈ c0 :: lwC := List.mem_cons_of_mem _ (List.mem_append_left _ (List.mem_of_getElem? (i := 36) rfl))
set_option maxRecDepth 100000 in
theorem ic_37 {c0 : Cond} : Cond.code yX7_isWord cX7_isWord 3 (some .boolean) ∈ c0 :: lwC := List.mem_cons_of_mem _ (List.mem_append_left _ (List.mem_of_getElem? (i := 37) rfl))
set_option maxRecDepth 100000 in
theorem ic_38 {c0 : Cond} : Cond.methodLink RX7 19 yX10_isSmall ∈ c0 :: lwC := List.mem_cons_of_mem _ (List.mem_append_left _ (List.mem_of_getElem? (i := 38) rfl))
set_option maxRecDepth 100000 in
theorem ic_39 {c0 : Cond} : Cond.static yX10_isSmall ∈ c0 :: lwC := List.mem_cons_of_mem _ (List.mem_append_left _ (List.mem_of_getElem? (i := 39) rfl))
set_option maxRecDepth 100000 in
theorem ic_40 {c0 : Cond} : Cond.code yX7_occurrences cX7_occurrences 5 (some .int) ∈ c0 :: lwC := List.mem_cons_of_mem _ (List.mem_append_left _ (List.mem_of_getElem? (i := 40) rfl))
set_option maxRecDepth 100000 in
theorem ic_41 {c0 : Cond} : Cond.code yX7_hasZero cX7_hasZero 2 (some .boolean) ∈ c0 :: lwC := List.mem_cons_of_mem _ (List.mem_append_left _ (List.mem_of_getElem? (i := 41) rfl))
set_option maxRecDepth 100000 in
theorem ic_42 {c0 : Cond} : Cond.methodLink RX7 25 yX7_occurrences ∈ c0 :: lwC := List.mem_cons_of_mem _ (List.mem_append_left _ (List.mem_of_getElem? (i := 42) rfl))
set_option maxRecDepth 100000 in
theorem ic_43 {c0 : Cond} : Cond.instanceMethod yX7_occurrences ∈ c0 :: lwC := List.mem_cons_of_mem _ (List.mem_append_left _ (List.mem_of_getElem? (i := 43) rfl))
set_option maxRecDepth 100000 in
theorem ic_44 {c0 : Cond} : Cond.selects RX7 yX7_occurrences yX7_occurrences ∈ c0 :: lwC := List.mem_cons_of_mem _ (List.mem_append_left _ (List.mem_of_getElem? (i := 44) rfl))
set_option maxRecDepth 100000 in
theorem ic_45 {c0 : Cond} : Cond.initialized RX7 ∈ c0 :: lwC := List.mem_cons_of_mem _ (List.mem_append_left _ (List.mem_of_getElem? (i := 45) rfl))
set_option maxRecDepth 100000 in
theorem ic_46 {c0 : Cond} : Cond.code yX7_lines cX7_lines 2 (some .int) ∈ c0 :: lwC := List.mem_cons_of_mem _ (List.mem_append_left _ (List.mem_of_getElem? (i := 46) rfl))
set_option maxRecDepth 100000 in
theorem ic_48 {c0 : Cond} : Cond.fieldLink RX11 12 "SpellTurner" "tape" "LSpellTurner$Tape;" ∈ c0 :: lwC := List.mem_cons_of_mem _ (List.mem_append_left _ (List.mem_of_getElem? (i := 48) rfl))
set_option maxRecDepth 100000 in
theorem ic_49 {c0 : Cond} : Cond.fieldLink RX11 105 "SpellTurner$Tape" "length" "I" ∈ c0 :: lwC := List.mem_cons_of_mem _ (List.mem_append_left _ (List.mem_of_getElem? (i := 49) rfl))
set_option maxRecDepth 100000 in
theorem ic_50 {c0 : Cond} : Cond.methodLink RX11 108 yX7_append ∈ c0 :: lwC := List.mem_cons_of_mem _ (List.mem_append_left _ (List.mem_of_getElem? (i := 50) rfl))
set_option maxRecDepth 100000 in
theorem ic_51 {c0 : Cond} : Cond.instanceMethod yX7_append ∈ c0 :: lwC := List.mem_cons_of_mem _ (List.mem_append_left _ (List.mem_of_getElem? (i := 51) rfl))
set_option maxRecDepth 100000 in
theorem ic_52 {c0 : Cond} : Cond.selects RX7 yX7_append yX7_append ∈ c0 :: lwC := List.mem_cons_of_mem _ (List.mem_append_left _ (List.mem_of_getElem? (i := 52) rfl))
set_option maxRecDepth 100000 in
theorem ic_54 {c0 : Cond} : Cond.code yX11_reformAt cX11_reformAt 2 (some (.object "SpellTurner$Reform")) ∈ c0 :: lwC := List.mem_cons_of_mem _ (List.mem_append_left _ (List.mem_of_getElem? (i := 54) rfl))
set_option maxRecDepth 100000 in
theorem ic_55 {c0 : Cond} : Cond.fieldLink RX11 22 "SpellTurner" "reformCount" "I" ∈ c0 :: lwC := List.mem_cons_of_mem _ (List.mem_append_left _ (List.mem_of_getElem? (i := 55) rfl))
set_option maxRecDepth 100000 in
theorem ic_56 {c0 : Cond} : Cond.fieldLink RX11 18 "SpellTurner" "reforms" "[LSpellTurner$Reform;" ∈ c0 :: lwC := List.mem_cons_of_mem _ (List.mem_append_left _ (List.mem_of_getElem? (i := 56) rfl))
set_option maxRecDepth 100000 in
theorem ic_58 {c0 : Cond} : Cond.constant RX11 116 (100000) ∈ c0 :: lwC := List.mem_cons_of_mem _ (List.mem_append_left _ (List.mem_of_getElem? (i := 58) rfl))
set_option maxRecDepth 100000 in
theorem ic_59 {c0 : Cond} : Cond.fieldLink RX11 142 "SpellTurner$Reform" "day" "I" ∈ c0 :: lwC := List.mem_cons_of_mem _ (List.mem_append_left _ (List.mem_of_getElem? (i := 59) rfl))
set_option maxRecDepth 100000 in
theorem ic_61 {c0 : Cond} : Cond.methodLink RX11 138 yX11_reformAt ∈ c0 :: lwC := List.mem_cons_of_mem _ (List.mem_append_left _ (List.mem_of_getElem? (i := 61) rfl))
set_option maxRecDepth 100000 in
theorem ic_62 {c0 : Cond} : Cond.instanceMethod yX11_reformAt ∈ c0 :: lwC := List.mem_cons_of_mem _ (List.mem_append_left _ (List.mem_of_getElem? (i := 62) rfl))
set_option maxRecDepth 100000 in
theorem ic_63 {c0 : Cond} : Cond.selects RX11 yX11_reformAt yX11_reformAt ∈ c0 :: lwC := List.mem_cons_of_mem _ (List.mem_append_left _ (List.mem_of_getElem? (i := 63) rfl))
set_option maxRecDepth 100000 in
theorem ic_64 {c0 : Cond} : Cond.initialized RX11 ∈ c0 :: lwC := List.mem_cons_of_mem _ (List.mem_append_left _ (List.mem_of_getElem? (i := 64) rfl))
set_option maxRecDepth 100000 in
theorem ic_65 {c0 : Cond} : Cond.fieldLink RX11 145 "SpellTurner$Reform" "lawCount" "I" ∈ c0 :: lwC := List.mem_cons_of_mem _ (List.mem_append_left _ (List.mem_of_getElem? (i := 65) rfl))
set_option maxRecDepth 100000 in
theorem ic_66 {c0 : Cond} : Cond.fieldLink RX11 148 "SpellTurner$Reform" "parts" "LSpellTurner$WordRow;" ∈ c0 :: lwC := List.mem_cons_of_mem _ (List.mem_append_left _ (List.mem_of_getElem? (i := 66) rfl))
set_option maxRecDepth 100000 in
theorem ic_67 {c0 : Cond} : Cond.fieldLink RX11 151 "SpellTurner$WordRow" "count" "I" ∈ c0 :: lwC := List.mem_cons_of_mem _ (List.mem_append_left _ (List.mem_of_getElem? (i := 67) rfl))
set_option maxRecDepth 100000 in
theorem ic_68 {c0 : Cond} : Cond.fieldLink RX11 154 "SpellTurner$Reform" "keptCount" "I" ∈ c0 :: lwC := List.mem_cons_of_mem _ (List.mem_append_left _ (List.mem_of_getElem? (i := 68) rfl))
set_option maxRecDepth 100000 in
theorem ic_69 {c0 : Cond} : Cond.fieldLink RX11 157 "SpellTurner$Reform" "entries" "LSpellTurner$WordRow;" ∈ c0 :: lwC := List.mem_cons_of_mem _ (List.mem_append_left _ (List.mem_of_getElem? (i := 69) rfl))
set_option maxRecDepth 100000 in
theorem ic_71 {c0 : Cond} : Cond.fieldLink RX11 37 "SpellTurner" "reader" "LSpellTurner$Reader;" ∈ c0 :: lwC := List.mem_cons_of_mem _ (List.mem_append_left _ (List.mem_of_getElem? (i := 71) rfl))
set_option maxRecDepth 100000 in
theorem ic_72 {c0 : Cond} : Cond.fieldLink RX11 128 "SpellTurner$Reader" "faultKind" "I" ∈ c0 :: lwC := List.mem_cons_of_mem _ (List.mem_append_left _ (List.mem_of_getElem? (i := 72) rfl))
set_option maxRecDepth 100000 in
theorem ic_73 {c0 : Cond} : Cond.fieldLink RX11 135 "SpellTurner$Reader" "faultPlace" "I" ∈ c0 :: lwC := List.mem_cons_of_mem _ (List.mem_append_left _ (List.mem_of_getElem? (i := 73) rfl))
set_option maxRecDepth 100000 in
theorem ic_74 {c0 : Cond} : Cond.code yX0_formsAt cX0_formsAt 4 (some (.object "SpellTurner$WordRow")) ∈ c0 :: lwC := List.mem_cons_of_mem _ (List.mem_append_left _ (List.mem_of_getElem? (i := 74) rfl))
set_option maxRecDepth 100000 in
theorem ic_75 {c0 : Cond} : Cond.fieldLink RX0 20 "SpellTurner$Book" "forms" "[LSpellTurner$WordRow;" ∈ c0 :: lwC := List.mem_cons_of_mem _ (List.mem_append_left _ (List.mem_of_getElem? (i := 75) rfl))
set_option maxRecDepth 100000 in
theorem ic_76 {c0 : Cond} : Cond.fieldLink RX0 35 "SpellTurner$Book" "nothing" "LSpellTurner$WordRow;" ∈ c0 :: lwC := List.mem_cons_of_mem _ (List.mem_append_left _ (List.mem_of_getElem? (i := 76) rfl))
set_option maxRecDepth 100000 in
theorem ic_77 {c0 : Cond} : Cond.code yX0_collide cX0_collide 7 (some .boolean) ∈ c0 :: lwC := List.mem_cons_of_mem _ (List.mem_append_left _ (List.mem_of_getElem? (i := 77) rfl))
set_option maxRecDepth 100000 in
theorem ic_78 {c0 : Cond} : Cond.methodLink RX0 56 yX0_formsAt ∈ c0 :: lwC := List.mem_cons_of_mem _ (List.mem_append_left _ (List.mem_of_getElem? (i := 78) rfl))
set_option maxRecDepth 100000 in
theorem ic_79 {c0 : Cond} : Cond.instanceMethod yX0_formsAt ∈ c0 :: lwC := List.mem_cons_of_mem _ (List.mem_append_left _ (List.mem_of_getElem? (i := 79) rfl))
set_option maxRecDepth 100000 in
theorem ic_80 {c0 : Cond} : Cond.selects RX0 yX0_formsAt yX0_formsAt ∈ c0 :: lwC := List.mem_cons_of_mem _ (List.mem_append_left _ (List.mem_of_getElem? (i := 80) rfl))
set_option maxRecDepth 100000 in
theorem ic_81 {c0 : Cond} : Cond.initialized RX0 ∈ c0 :: lwC := List.mem_cons_of_mem _ (List.mem_append_left _ (List.mem_of_getElem? (i := 81) rfl))
set_option maxRecDepth 100000 in
theorem ic_82 {c0 : Cond} : Cond.fieldLink RX0 38 "SpellTurner$WordRow" "count" "I" ∈ c0 :: lwC := List.mem_cons_of_mem _ (List.mem_append_left _ (List.mem_of_getElem? (i := 82) rfl))
set_option maxRecDepth 100000 in
theorem ic_83 {c0 : Cond} : Cond.fieldLink RX0 42 "SpellTurner$WordRow" "letters" "[B" ∈ c0 :: lwC := List.mem_cons_of_mem _ (List.mem_append_left _ (List.mem_of_getElem? (i := 83) rfl))
set_option maxRecDepth 100000 in
theorem ic_84 {c0 : Cond} : Cond.fieldLink RX0 46 "SpellTurner$WordRow" "width" "I" ∈ c0 :: lwC := List.mem_cons_of_mem _ (List.mem_append_left _ (List.mem_of_getElem? (i := 84) rfl))
set_option maxRecDepth 100000 in
theorem ic_85 {c0 : Cond} : Cond.fieldLink RX0 49 "SpellTurner$WordRow" "lengths" "[I" ∈ c0 :: lwC := List.mem_cons_of_mem _ (List.mem_append_left _ (List.mem_of_getElem? (i := 85) rfl))
set_option maxRecDepth 100000 in
theorem ic_86 {c0 : Cond} : Cond.methodLink RX0 70 yX10_find ∈ c0 :: lwC := List.mem_cons_of_mem _ (List.mem_append_left _ (List.mem_of_getElem? (i := 86) rfl))
set_option maxRecDepth 100000 in
theorem ic_87 {c0 : Cond} : Cond.code yX0_formsRhyme cX0_formsRhyme 8 (some .boolean) ∈ c0 :: lwC := List.mem_cons_of_mem _ (List.mem_append_left _ (List.mem_of_getElem? (i := 87) rfl))
set_option maxRecDepth 100000 in
theorem ic_88 {c0 : Cond} : Cond.methodLink RX0 74 yX10_endsAlike ∈ c0 :: lwC := List.mem_cons_of_mem _ (List.mem_append_left _ (List.mem_of_getElem? (i := 88) rfl))
set_option maxRecDepth 100000 in
theorem ic_89 {c0 : Cond} : Cond.instanceMethod yX10_endsAlike ∈ c0 :: lwC := List.mem_cons_of_mem _ (List.mem_append_left _ (List.mem_of_getElem? (i := 89) rfl))
set_option maxRecDepth 100000 in
theorem ic_90 {c0 : Cond} : Cond.selects RX10 yX10_endsAlike yX10_endsAlike ∈ c0 :: lwC := List.mem_cons_of_mem _ (List.mem_append_left _ (List.mem_of_getElem? (i := 90) rfl))
set_option maxRecDepth 100000 in
theorem ic_91 {c0 : Cond} : Cond.code yX0_hasForm cX0_hasForm 6 (some .boolean) ∈ c0 :: lwC := List.mem_cons_of_mem _ (List.mem_append_left _ (List.mem_of_getElem? (i := 91) rfl))
set_option maxRecDepth 100000 in
theorem ic_92 {c0 : Cond} : Cond.fieldLink RX0 14 "SpellTurner$Book" "words" "LSpellTurner$WordRow;" ∈ c0 :: lwC := List.mem_cons_of_mem _ (List.mem_append_left _ (List.mem_of_getElem? (i := 92) rfl))
set_option maxRecDepth 100000 in
theorem ic_93 {c0 : Cond} : Cond.code yX0_isSuch cX0_isSuch 5 (some .boolean) ∈ c0 :: lwC := List.mem_cons_of_mem _ (List.mem_append_left _ (List.mem_of_getElem? (i := 93) rfl))
set_option maxRecDepth 100000 in
theorem ic_94 {c0 : Cond} : Cond.code yX0_usesLaw cX0_usesLaw 4 (some .boolean) ∈ c0 :: lwC := List.mem_cons_of_mem _ (List.mem_append_left _ (List.mem_of_getElem? (i := 94) rfl))
set_option maxRecDepth 100000 in
theorem ic_95 {c0 : Cond} : Cond.fieldLink RX0 24 "SpellTurner$Book" "lawsUsed" "[J" ∈ c0 :: lwC := List.mem_cons_of_mem _ (List.mem_append_left _ (List.mem_of_getElem? (i := 95) rfl))
set_option maxRecDepth 100000 in
theorem ic_96 {c0 : Cond} : Cond.code yX11_isStage cX11_isStage 2 (some .boolean) ∈ c0 :: lwC := List.mem_cons_of_mem _ (List.mem_append_left _ (List.mem_of_getElem? (i := 96) rfl))
set_option maxRecDepth 100000 in
theorem ic_97 {c0 : Cond} : Cond.code yX11_areStages cX11_areStages 3 (some .boolean) ∈ c0 :: lwC := List.mem_cons_of_mem _ (List.mem_append_left _ (List.mem_of_getElem? (i := 97) rfl))
set_option maxRecDepth 100000 in
theorem ic_98 {c0 : Cond} : Cond.methodLink RX11 208 yX11_isStage ∈ c0 :: lwC := List.mem_cons_of_mem _ (List.mem_append_left _ (List.mem_of_getElem? (i := 98) rfl))
set_option maxRecDepth 100000 in
theorem ic_99 {c0 : Cond} : Cond.instanceMethod yX11_isStage ∈ c0 :: lwC := List.mem_cons_of_mem _ (List.mem_append_left _ (List.mem_of_getElem? (i := 99) rfl))
set_option maxRecDepth 100000 in
theorem ic_100 {c0 : Cond} : Cond.selects RX11 yX11_isStage yX11_isStage ∈ c0 :: lwC := List.mem_cons_of_mem _ (List.mem_append_left _ (List.mem_of_getElem? (i := 100) rfl))
set_option maxRecDepth 100000 in
theorem ic_101 {c0 : Cond} : Cond.code yX2_charge cX2_charge 3 none ∈ c0 :: lwC := List.mem_cons_of_mem _ (List.mem_append_left _ (List.mem_of_getElem? (i := 101) rfl))
set_option maxRecDepth 100000 in
theorem ic_102 {c0 : Cond} : Cond.fieldLink RX2 25 "SpellTurner$Mixture" "lines" "I" ∈ c0 :: lwC := List.mem_cons_of_mem _ (List.mem_append_left _ (List.mem_of_getElem? (i := 102) rfl))
set_option maxRecDepth 100000 in
theorem ic_103 {c0 : Cond} : Cond.fieldLink RX2 28 "SpellTurner$Mixture" "stages" "I" ∈ c0 :: lwC := List.mem_cons_of_mem _ (List.mem_append_left _ (List.mem_of_getElem? (i := 103) rfl))
set_option maxRecDepth 100000 in
theorem ic_104 {c0 : Cond} : Cond.fieldLink RX2 9 "SpellTurner$Mixture" "costs" "[I" ∈ c0 :: lwC := List.mem_cons_of_mem _ (List.mem_append_left _ (List.mem_of_getElem? (i := 104) rfl))
set_option maxRecDepth 100000 in
theorem ic_105 {c0 : Cond} : Cond.code yX11_chargeWord cX11_chargeWord 2 none ∈ c0 :: lwC := List.mem_cons_of_mem _ (List.mem_append_left _ (List.mem_of_getElem? (i := 105) rfl))
set_option maxRecDepth 100000 in
theorem ic_106 {c0 : Cond} : Cond.fieldLink RX11 67 "SpellTurner" "book" "LSpellTurner$Book;" ∈ c0 :: lwC := List.mem_cons_of_mem _ (List.mem_append_left _ (List.mem_of_getElem? (i := 106) rfl))
set_option maxRecDepth 100000 in
theorem ic_107 {c0 : Cond} : Cond.fieldLink RX11 120 "SpellTurner$Tape" "bytes" "[B" ∈ c0 :: lwC := List.mem_cons_of_mem _ (List.mem_append_left _ (List.mem_of_getElem? (i := 107) rfl))
set_option maxRecDepth 100000 in
theorem ic_108 {c0 : Cond} : Cond.fieldLink RX11 87 "SpellTurner" "textWords" "LSpellTurner$TextWords;" ∈ c0 :: lwC := List.mem_cons_of_mem _ (List.mem_append_left _ (List.mem_of_getElem? (i := 108) rfl))
set_option maxRecDepth 100000 in
theorem ic_109 {c0 : Cond} : Cond.fieldLink RX11 262 "SpellTurner$TextWords" "start" "I" ∈ c0 :: lwC := List.mem_cons_of_mem _ (List.mem_append_left _ (List.mem_of_getElem? (i := 109) rfl))
set_option maxRecDepth 100000 in
theorem ic_110 {c0 : Cond} : Cond.fieldLink RX11 258 "SpellTurner$TextWords" "length" "I" ∈ c0 :: lwC := List.mem_cons_of_mem _ (List.mem_append_left _ (List.mem_of_getElem? (i := 110) rfl))
set_option maxRecDepth 100000 in
theorem ic_111 {c0 : Cond} : Cond.methodLink RX11 294 yX0_hasForm ∈ c0 :: lwC := List.mem_cons_of_mem _ (List.mem_append_left _ (List.mem_of_getElem? (i := 111) rfl))
set_option maxRecDepth 100000 in
theorem ic_112 {c0 : Cond} : Cond.instanceMethod yX0_hasForm ∈ c0 :: lwC := List.mem_cons_of_mem _ (List.mem_append_left _ (List.mem_of_getElem? (i := 112) rfl))
set_option maxRecDepth 100000 in
theorem ic_113 {c0 : Cond} : Cond.selects RX0 yX0_hasForm yX0_hasForm ∈ c0 :: lwC := List.mem_cons_of_mem _ (List.mem_append_left _ (List.mem_of_getElem? (i := 113) rfl))
set_option maxRecDepth 100000 in
theorem ic_114 {c0 : Cond} : Cond.fieldLink RX11 101 "SpellTurner" "mixture" "LSpellTurner$Mixture;" ∈ c0 :: lwC := List.mem_cons_of_mem _ (List.mem_append_left _ (List.mem_of_getElem? (i := 114) rfl))
set_option maxRecDepth 100000 in
theorem ic_115 {c0 : Cond} : Cond.fieldLink RX11 298 "SpellTurner$TextWords" "lineNumber" "I" ∈ c0 :: lwC := List.mem_cons_of_mem _ (List.mem_append_left _ (List.mem_of_getElem? (i := 115) rfl))
set_option maxRecDepth 100000 in
theorem ic_116 {c0 : Cond} : Cond.methodLink RX11 301 yX2_charge ∈ c0 :: lwC := List.mem_cons_of_mem _ (List.mem_append_left _ (List.mem_of_getElem? (i := 116) rfl))
set_option maxRecDepth 100000 in
theorem ic_117 {c0 : Cond} : Cond.instanceMethod yX2_charge ∈ c0 :: lwC := List.mem_cons_of_mem _ (List.mem_append_left _ (List.mem_of_getElem? (i := 117) rfl))
set_option maxRecDepth 100000 in
theorem ic_118 {c0 : Cond} : Cond.selects RX2 yX2_charge yX2_charge ∈ c0 :: lwC := List.mem_cons_of_mem _ (List.mem_append_left _ (List.mem_of_getElem? (i := 118) rfl))
set_option maxRecDepth 100000 in
theorem ic_119 {c0 : Cond} : Cond.initialized RX2 ∈ c0 :: lwC := List.mem_cons_of_mem _ (List.mem_append_left _ (List.mem_of_getElem? (i := 119) rfl))
set_option maxRecDepth 100000 in
theorem ic_121 {c0 : Cond} : Cond.fieldLink RX11 81 "SpellTurner" "pairCount" "I" ∈ c0 :: lwC := List.mem_cons_of_mem _ (List.mem_append_left _ (List.mem_of_getElem? (i := 121) rfl))
set_option maxRecDepth 100000 in
theorem ic_122 {c0 : Cond} : Cond.fieldLink RX11 78 "SpellTurner" "pairs" "[I" ∈ c0 :: lwC := List.mem_cons_of_mem _ (List.mem_append_left _ (List.mem_of_getElem? (i := 122) rfl))
set_option maxRecDepth 100000 in
theorem ic_124 {c0 : Cond} : Cond.fieldLink RX11 197 "SpellTurner$Book" "words" "LSpellTurner$WordRow;" ∈ c0 :: lwC := List.mem_cons_of_mem _ (List.mem_append_left _ (List.mem_of_getElem? (i := 124) rfl))
set_option maxRecDepth 100000 in
theorem ic_125 {c0 : Cond} : Cond.code yX6_tallyOf cX6_tallyOf 2 (some .int) ∈ c0 :: lwC := List.mem_cons_of_mem _ (List.mem_append_left _ (List.mem_of_getElem? (i := 125) rfl))
set_option maxRecDepth 100000 in
theorem ic_126 {c0 : Cond} : Cond.fieldLink RX6 25 "SpellTurner$Scribe" "hasTold" "Z" ∈ c0 :: lwC := List.mem_cons_of_mem _ (List.mem_append_left _ (List.mem_of_getElem? (i := 126) rfl))
set_option maxRecDepth 100000 in
theorem ic_127 {c0 : Cond} : Cond.fieldLink RX6 18 "SpellTurner$Scribe" "toldTally" "[I" ∈ c0 :: lwC := List.mem_cons_of_mem _ (List.mem_append_left _ (List.mem_of_getElem? (i := 127) rfl))
set_option maxRecDepth 100000 in
theorem ic_129 {c0 : Cond} : Cond.fieldLink RX11 94 "SpellTurner" "scribe" "LSpellTurner$Scribe;" ∈ c0 :: lwC := List.mem_cons_of_mem _ (List.mem_append_left _ (List.mem_of_getElem? (i := 129) rfl))
set_option maxRecDepth 100000 in
theorem ic_130 {c0 : Cond} : Cond.methodLink RX11 277 yX6_tallyOf ∈ c0 :: lwC := List.mem_cons_of_mem _ (List.mem_append_left _ (List.mem_of_getElem? (i := 130) rfl))
set_option maxRecDepth 100000 in
theorem ic_131 {c0 : Cond} : Cond.instanceMethod yX6_tallyOf ∈ c0 :: lwC := List.mem_cons_of_mem _ (List.mem_append_left _ (List.mem_of_getElem? (i := 131) rfl))
set_option maxRecDepth 100000 in
theorem ic_132 {c0 : Cond} : Cond.selects RX6 yX6_tallyOf yX6_tallyOf ∈ c0 :: lwC := List.mem_cons_of_mem _ (List.mem_append_left _ (List.mem_of_getElem? (i := 132) rfl))
set_option maxRecDepth 100000 in
theorem ic_133 {c0 : Cond} : Cond.initialized RX6 ∈ c0 :: lwC := List.mem_cons_of_mem _ (List.mem_append_left _ (List.mem_of_getElem? (i := 133) rfl))
set_option maxRecDepth 100000 in
theorem ic_135 {c0 : Cond} : Cond.fieldLink RX11 53 "SpellTurner" "latestForms" "LSpellTurner$WordRow;" ∈ c0 :: lwC := List.mem_cons_of_mem _ (List.mem_append_left _ (List.mem_of_getElem? (i := 135) rfl))
set_option maxRecDepth 100000 in
theorem ic_136 {c0 : Cond} : Cond.methodLink RX11 176 yX10_letterAt ∈ c0 :: lwC := List.mem_cons_of_mem _ (List.mem_append_left _ (List.mem_of_getElem? (i := 136) rfl))
set_option maxRecDepth 100000 in
theorem ic_137 {c0 : Cond} : Cond.instanceMethod yX10_letterAt ∈ c0 :: lwC := List.mem_cons_of_mem _ (List.mem_append_left _ (List.mem_of_getElem? (i := 137) rfl))
set_option maxRecDepth 100000 in
theorem ic_138 {c0 : Cond} : Cond.selects RX10 yX10_letterAt yX10_letterAt ∈ c0 :: lwC := List.mem_cons_of_mem _ (List.mem_append_left _ (List.mem_of_getElem? (i := 138) rfl))
set_option maxRecDepth 100000 in
theorem ic_140 {c0 : Cond} : Cond.methodLink RX11 112 yX7_take ∈ c0 :: lwC := List.mem_cons_of_mem _ (List.mem_append_left _ (List.mem_of_getElem? (i := 140) rfl))
set_option maxRecDepth 100000 in
theorem ic_141 {c0 : Cond} : Cond.instanceMethod yX7_take ∈ c0 :: lwC := List.mem_cons_of_mem _ (List.mem_append_left _ (List.mem_of_getElem? (i := 141) rfl))
set_option maxRecDepth 100000 in
theorem ic_142 {c0 : Cond} : Cond.selects RX7 yX7_take yX7_take ∈ c0 :: lwC := List.mem_cons_of_mem _ (List.mem_append_left _ (List.mem_of_getElem? (i := 142) rfl))
set_option maxRecDepth 100000 in
theorem ic_143 {c0 : Cond} : Cond.methodLink RX11 164 yX7_isWord ∈ c0 :: lwC := List.mem_cons_of_mem _ (List.mem_append_left _ (List.mem_of_getElem? (i := 143) rfl))
set_option maxRecDepth 100000 in
theorem ic_144 {c0 : Cond} : Cond.instanceMethod yX7_isWord ∈ c0 :: lwC := List.mem_cons_of_mem _ (List.mem_append_left _ (List.mem_of_getElem? (i := 144) rfl))
set_option maxRecDepth 100000 in
theorem ic_145 {c0 : Cond} : Cond.selects RX7 yX7_isWord yX7_isWord ∈ c0 :: lwC := List.mem_cons_of_mem _ (List.mem_append_left _ (List.mem_of_getElem? (i := 145) rfl))
set_option maxRecDepth 100000 in
theorem ic_146 {c0 : Cond} : Cond.methodLink RX11 180 yX10_find ∈ c0 :: lwC := List.mem_cons_of_mem _ (List.mem_append_left _ (List.mem_of_getElem? (i := 146) rfl))
set_option maxRecDepth 100000 in
theorem ic_147 {c0 : Cond} : Cond.methodLink RX11 200 yX10_isFull ∈ c0 :: lwC := List.mem_cons_of_mem _ (List.mem_append_left _ (List.mem_of_getElem? (i := 147) rfl))
set_option maxRecDepth 100000 in
theorem ic_148 {c0 : Cond} : Cond.methodLink RX11 204 yX10_add ∈ c0 :: lwC := List.mem_cons_of_mem _ (List.mem_append_left _ (List.mem_of_getElem? (i := 148) rfl))
set_option maxRecDepth 100000 in
theorem ic_149 {c0 : Cond} : Cond.code yX2_stageOf cX2_stageOf 2 (some .int) ∈ c0 :: lwC := List.mem_cons_of_mem _ (List.mem_append_left _ (List.mem_of_getElem? (i := 149) rfl))
set_option maxRecDepth 100000 in
theorem ic_150 {c0 : Cond} : Cond.fieldLink RX2 21 "SpellTurner$Mixture" "toldLines" "I" ∈ c0 :: lwC := List.mem_cons_of_mem _ (List.mem_append_left _ (List.mem_of_getElem? (i := 150) rfl))
set_option maxRecDepth 100000 in
theorem ic_151 {c0 : Cond} : Cond.fieldLink RX2 18 "SpellTurner$Mixture" "told" "[I" ∈ c0 :: lwC := List.mem_cons_of_mem _ (List.mem_append_left _ (List.mem_of_getElem? (i := 151) rfl))
set_option maxRecDepth 100000 in
theorem ic_153 {c0 : Cond} : Cond.methodLink RX11 291 yX2_stageOf ∈ c0 :: lwC := List.mem_cons_of_mem _ (List.mem_append_left _ (List.mem_of_getElem? (i := 153) rfl))
set_option maxRecDepth 100000 in
theorem ic_154 {c0 : Cond} : Cond.instanceMethod yX2_stageOf ∈ c0 :: lwC := List.mem_cons_of_mem _ (List.mem_append_left _ (List.mem_of_getElem? (i := 154) rfl))
set_option maxRecDepth 100000 in
theorem ic_155 {c0 : Cond} : Cond.selects RX2 yX2_stageOf yX2_stageOf ∈ c0 :: lwC := List.mem_cons_of_mem _ (List.mem_append_left _ (List.mem_of_getElem? (i := 155) rfl))
set_option maxRecDepth 100000 in
theorem ic_156 {c0 : Cond} : Cond.code yX11_notePair cX11_notePair 2 none ∈ c0 :: lwC := List.mem_cons_of_mem _ (List.mem_append_left _ (List.mem_of_getElem? (i := 156) rfl))
set_option maxRecDepth 100000 in
theorem ic_158 {c0 : Cond} : Cond.fieldLink RX11 75 "SpellTurner" "ownerCount" "I" ∈ c0 :: lwC := List.mem_cons_of_mem _ (List.mem_append_left _ (List.mem_of_getElem? (i := 158) rfl))
set_option maxRecDepth 100000 in
theorem ic_159 {c0 : Cond} : Cond.fieldLink RX11 71 "SpellTurner" "owners" "[I" ∈ c0 :: lwC := List.mem_cons_of_mem _ (List.mem_append_left _ (List.mem_of_getElem? (i := 159) rfl))
set_option maxRecDepth 100000 in
theorem ic_160 {c0 : Cond} : Cond.code yX3_pick cX3_pick 3 (some .int) ∈ c0 :: lwC := List.mem_cons_of_mem _ (List.mem_append_left _ (List.mem_of_getElem? (i := 160) rfl))
set_option maxRecDepth 100000 in
theorem ic_161 {c0 : Cond} : Cond.fieldLink RX3 9 "SpellTurner$Partings" "count" "I" ∈ c0 :: lwC := List.mem_cons_of_mem _ (List.mem_append_left _ (List.mem_of_getElem? (i := 161) rfl))
set_option maxRecDepth 100000 in
theorem ic_162 {c0 : Cond} : Cond.fieldLink RX3 15 "SpellTurner$Partings" "sizes" "[I" ∈ c0 :: lwC := List.mem_cons_of_mem _ (List.mem_append_left _ (List.mem_of_getElem? (i := 162) rfl))
set_option maxRecDepth 100000 in
theorem ic_163 {c0 : Cond} : Cond.fieldLink RX3 19 "SpellTurner$Partings" "picks" "[B" ∈ c0 :: lwC := List.mem_cons_of_mem _ (List.mem_append_left _ (List.mem_of_getElem? (i := 163) rfl))
set_option maxRecDepth 100000 in
theorem ic_164 {c0 : Cond} : Cond.code yX3_lengthOf cX3_lengthOf 4 (some .int) ∈ c0 :: lwC := List.mem_cons_of_mem _ (List.mem_append_left _ (List.mem_of_getElem? (i := 164) rfl))
set_option maxRecDepth 100000 in
theorem ic_165 {c0 : Cond} : Cond.methodLink RX3 51 yX3_pick ∈ c0 :: lwC := List.mem_cons_of_mem _ (List.mem_append_left _ (List.mem_of_getElem? (i := 165) rfl))
set_option maxRecDepth 100000 in
theorem ic_166 {c0 : Cond} : Cond.instanceMethod yX3_pick ∈ c0 :: lwC := List.mem_cons_of_mem _ (List.mem_append_left _ (List.mem_of_getElem? (i := 166) rfl))
set_option maxRecDepth 100000 in
theorem ic_167 {c0 : Cond} : Cond.selects RX3 yX3_pick yX3_pick ∈ c0 :: lwC := List.mem_cons_of_mem _ (List.mem_append_left _ (List.mem_of_getElem? (i := 167) rfl))
set_option maxRecDepth 100000 in
theorem ic_168 {c0 : Cond} : Cond.initialized RX3 ∈ c0 :: lwC := List.mem_cons_of_mem _ (List.mem_append_left _ (List.mem_of_getElem? (i := 168) rfl))
set_option maxRecDepth 100000 in
theorem ic_169 {c0 : Cond} : Cond.fieldLink RX3 38 "SpellTurner$Partings" "parts" "LSpellTurner$WordRow;" ∈ c0 :: lwC := List.mem_cons_of_mem _ (List.mem_append_left _ (List.mem_of_getElem? (i := 169) rfl))
set_option maxRecDepth 100000 in
theorem ic_170 {c0 : Cond} : Cond.fieldLink RX3 42 "SpellTurner$WordRow" "count" "I" ∈ c0 :: lwC := List.mem_cons_of_mem _ (List.mem_append_left _ (List.mem_of_getElem? (i := 170) rfl))
set_option maxRecDepth 100000 in
theorem ic_171 {c0 : Cond} : Cond.fieldLink RX3 55 "SpellTurner$WordRow" "lengths" "[I" ∈ c0 :: lwC := List.mem_cons_of_mem _ (List.mem_append_left _ (List.mem_of_getElem? (i := 171) rfl))
set_option maxRecDepth 100000 in
theorem ic_173 {c0 : Cond} : Cond.fieldLink RX11 60 "SpellTurner" "latestPartings" "LSpellTurner$Partings;" ∈ c0 :: lwC := List.mem_cons_of_mem _ (List.mem_append_left _ (List.mem_of_getElem? (i := 173) rfl))
set_option maxRecDepth 100000 in
theorem ic_174 {c0 : Cond} : Cond.fieldLink RX11 190 "SpellTurner$Partings" "count" "I" ∈ c0 :: lwC := List.mem_cons_of_mem _ (List.mem_append_left _ (List.mem_of_getElem? (i := 174) rfl))
set_option maxRecDepth 100000 in
theorem ic_175 {c0 : Cond} : Cond.methodLink RX11 194 yX3_lengthOf ∈ c0 :: lwC := List.mem_cons_of_mem _ (List.mem_append_left _ (List.mem_of_getElem? (i := 175) rfl))
set_option maxRecDepth 100000 in
theorem ic_176 {c0 : Cond} : Cond.instanceMethod yX3_lengthOf ∈ c0 :: lwC := List.mem_cons_of_mem _ (List.mem_append_left _ (List.mem_of_getElem? (i := 176) rfl))
set_option maxRecDepth 100000 in
theorem ic_177 {c0 : Cond} : Cond.selects RX3 yX3_lengthOf yX3_lengthOf ∈ c0 :: lwC := List.mem_cons_of_mem _ (List.mem_append_left _ (List.mem_of_getElem? (i := 177) rfl))
set_option maxRecDepth 100000 in
theorem ic_178 {c0 : Cond} : Cond.fieldLink RX11 191 "SpellTurner$Partings" "sizes" "[I" ∈ c0 :: lwC := List.mem_cons_of_mem _ (List.mem_append_left _ (List.mem_of_getElem? (i := 178) rfl))
set_option maxRecDepth 100000 in
theorem ic_180 {c0 : Cond} : Cond.code yX6_byteAt cX6_byteAt 2 (some .int) ∈ c0 :: lwC := List.mem_cons_of_mem _ (List.mem_append_left _ (List.mem_of_getElem? (i := 180) rfl))
set_option maxRecDepth 100000 in
theorem ic_181 {c0 : Cond} : Cond.fieldLink RX6 29 "SpellTurner$Scribe" "toldSize" "I" ∈ c0 :: lwC := List.mem_cons_of_mem _ (List.mem_append_left _ (List.mem_of_getElem? (i := 181) rfl))
set_option maxRecDepth 100000 in
theorem ic_182 {c0 : Cond} : Cond.fieldLink RX6 9 "SpellTurner$Scribe" "told" "[B" ∈ c0 :: lwC := List.mem_cons_of_mem _ (List.mem_append_left _ (List.mem_of_getElem? (i := 182) rfl))
set_option maxRecDepth 100000 in
theorem ic_184 {c0 : Cond} : Cond.methodLink RX11 273 yX6_byteAt ∈ c0 :: lwC := List.mem_cons_of_mem _ (List.mem_append_left _ (List.mem_of_getElem? (i := 184) rfl))
set_option maxRecDepth 100000 in
theorem ic_185 {c0 : Cond} : Cond.instanceMethod yX6_byteAt ∈ c0 :: lwC := List.mem_cons_of_mem _ (List.mem_append_left _ (List.mem_of_getElem? (i := 185) rfl))
set_option maxRecDepth 100000 in
theorem ic_186 {c0 : Cond} : Cond.selects RX6 yX6_byteAt yX6_byteAt ∈ c0 :: lwC := List.mem_cons_of_mem _ (List.mem_append_left _ (List.mem_of_getElem? (i := 186) rfl))
set_option maxRecDepth 100000 in
theorem ic_187 {c0 : Cond} : Cond.code yX1_standsAt cX1_standsAt 7 (some .boolean) ∈ c0 :: lwC := List.mem_cons_of_mem _ (List.mem_append_left _ (List.mem_of_getElem? (i := 187) rfl))
set_option maxRecDepth 100000 in
theorem ic_188 {c0 : Cond} : Cond.fieldLink RX1 23 "SpellTurner$Law" "first" "[B" ∈ c0 :: lwC := List.mem_cons_of_mem _ (List.mem_append_left _ (List.mem_of_getElem? (i := 188) rfl))
set_option maxRecDepth 100000 in
theorem ic_189 {c0 : Cond} : Cond.fieldLink RX1 16 "SpellTurner$Law" "atStart" "Z" ∈ c0 :: lwC := List.mem_cons_of_mem _ (List.mem_append_left _ (List.mem_of_getElem? (i := 189) rfl))
set_option maxRecDepth 100000 in
theorem ic_190 {c0 : Cond} : Cond.fieldLink RX1 20 "SpellTurner$Law" "atEnd" "Z" ∈ c0 :: lwC := List.mem_cons_of_mem _ (List.mem_append_left _ (List.mem_of_getElem? (i := 190) rfl))
set_option maxRecDepth 100000 in
theorem ic_191 {c0 : Cond} : Cond.fieldLink RX1 7 "SpellTurner$Law" "ahead" "[B" ∈ c0 :: lwC := List.mem_cons_of_mem _ (List.mem_append_left _ (List.mem_of_getElem? (i := 191) rfl))
set_option maxRecDepth 100000 in
theorem ic_192 {c0 : Cond} : Cond.fieldLink RX1 13 "SpellTurner$Law" "behind" "[B" ∈ c0 :: lwC := List.mem_cons_of_mem _ (List.mem_append_left _ (List.mem_of_getElem? (i := 192) rfl))
set_option maxRecDepth 100000 in
theorem ic_193 {c0 : Cond} : Cond.methodLink RX1 29 yX10_same ∈ c0 :: lwC := List.mem_cons_of_mem _ (List.mem_append_left _ (List.mem_of_getElem? (i := 193) rfl))
set_option maxRecDepth 100000 in
theorem ic_194 {c0 : Cond} : Cond.code yJ7_fill_53178 cJ7_fill_53178 4 none ∈ c0 :: lwC := List.mem_cons_of_mem _ (List.mem_append_left _ (List.mem_of_getElem? (i := 194) rfl))
set_option maxRecDepth 100000 in
theorem ic_195 {c0 : Cond} : Cond.code yX2_begin cX2_begin 3 none ∈ c0 :: lwC := List.mem_cons_of_mem _ (List.mem_append_left _ (List.mem_of_getElem? (i := 195) rfl))
set_option maxRecDepth 100000 in
theorem ic_196 {c0 : Cond} : Cond.methodLink RX2 31 Lib.Math.min.name ∈ c0 :: lwC := List.mem_cons_of_mem _ (List.mem_append_left _ (List.mem_of_getElem? (i := 196) rfl))
set_option maxRecDepth 100000 in
theorem ic_197 {c0 : Cond} : Cond.static Lib.Math.min.name ∈ c0 :: lwC := List.mem_cons_of_mem _ (List.mem_append_left _ (List.mem_of_getElem? (i := 197) rfl))
set_option maxRecDepth 100000 in
theorem ic_198 {c0 : Cond} : Cond.initialized "java/lang/Math" ∈ c0 :: lwC := List.mem_cons_of_mem _ (List.mem_append_left _ (List.mem_of_getElem? (i := 198) rfl))
set_option maxRecDepth 100000 in
theorem ic_199 {c0 : Cond} : Cond.code Lib.Math.min.name Lib.Math.min.code 2 (some .int) ∈ c0 :: lwC := List.mem_cons_of_mem _ (List.mem_append_left _ (List.mem_of_getElem? (i := 199) rfl))
set_option maxRecDepth 100000 in
theorem ic_200 {c0 : Cond} : Cond.methodLink RX2 37 yJ7_fill_53178 ∈ c0 :: lwC := List.mem_cons_of_mem _ (List.mem_append_left _ (List.mem_of_getElem? (i := 200) rfl))
set_option maxRecDepth 100000 in
theorem ic_201 {c0 : Cond} : Cond.static yJ7_fill_53178 ∈ c0 :: lwC := List.mem_cons_of_mem _ (List.mem_append_left _ (List.mem_of_getElem? (i := 201) rfl))
set_option maxRecDepth 100000 in
theorem ic_202 {c0 : Cond} : Cond.initialized RJ7 ∈ c0 :: lwC := List.mem_cons_of_mem _ (List.mem_append_left _ (List.mem_of_getElem? (i := 202) rfl))
set_option maxRecDepth 100000 in
theorem ic_203 {c0 : Cond} : Cond.code yX2_cost cX2_cost 6 (some .int) ∈ c0 :: lwC := List.mem_cons_of_mem _ (List.mem_append_left _ (List.mem_of_getElem? (i := 203) rfl))
set_option maxRecDepth 100000 in
theorem ic_204 {c0 : Cond} : Cond.fieldLink RX2 15 "SpellTurner$Mixture" "least" "[I" ∈ c0 :: lwC := List.mem_cons_of_mem _ (List.mem_append_left _ (List.mem_of_getElem? (i := 204) rfl))
set_option maxRecDepth 100000 in
theorem ic_205 {c0 : Cond} : Cond.code yX2_cheapest cX2_cheapest 6 (some .int) ∈ c0 :: lwC := List.mem_cons_of_mem _ (List.mem_append_left _ (List.mem_of_getElem? (i := 205) rfl))
set_option maxRecDepth 100000 in
theorem ic_206 {c0 : Cond} : Cond.methodLink RX2 47 yX2_cost ∈ c0 :: lwC := List.mem_cons_of_mem _ (List.mem_append_left _ (List.mem_of_getElem? (i := 206) rfl))
set_option maxRecDepth 100000 in
theorem ic_207 {c0 : Cond} : Cond.instanceMethod yX2_cost ∈ c0 :: lwC := List.mem_cons_of_mem _ (List.mem_append_left _ (List.mem_of_getElem? (i := 207) rfl))
set_option maxRecDepth 100000 in
theorem ic_208 {c0 : Cond} : Cond.selects RX2 yX2_cost yX2_cost ∈ c0 :: lwC := List.mem_cons_of_mem _ (List.mem_append_left _ (List.mem_of_getElem? (i := 208) rfl))
set_option maxRecDepth 100000 in
theorem ic_209 {c0 : Cond} : Cond.code yX2_settle cX2_settle 5 (some .int) ∈ c0 :: lwC := List.mem_cons_of_mem _ (List.mem_append_left _ (List.mem_of_getElem? (i := 209) rfl))
set_option maxRecDepth 100000 in
theorem ic_210 {c0 : Cond} : Cond.methodLink RX2 43 yX2_cheapest ∈ c0 :: lwC := List.mem_cons_of_mem _ (List.mem_append_left _ (List.mem_of_getElem? (i := 210) rfl))
set_option maxRecDepth 100000 in
theorem ic_211 {c0 : Cond} : Cond.instanceMethod yX2_cheapest ∈ c0 :: lwC := List.mem_cons_of_mem _ (List.mem_append_left _ (List.mem_of_getElem? (i := 211) rfl))
set_option maxRecDepth 100000 in
theorem ic_212 {c0 : Cond} : Cond.selects RX2 yX2_cheapest yX2_cheapest ∈ c0 :: lwC := List.mem_cons_of_mem _ (List.mem_append_left _ (List.mem_of_getElem? (i := 212) rfl))
set_option maxRecDepth 100000 in
theorem ic_213 {c0 : Cond} : Cond.code yJ7_rangeCheck_23922 cJ7_rangeCheck_23922 3 none ∈ c0 :: lwC := List.mem_cons_of_mem _ (List.mem_append_left _ (List.mem_of_getElem? (i := 213) rfl))
set_option maxRecDepth 100000 in
theorem ic_214 {c0 : Cond} : Cond.code yJ7_fill_eb02e cJ7_fill_eb02e 5 none ∈ c0 :: lwC := List.mem_cons_of_mem _ (List.mem_append_left _ (List.mem_of_getElem? (i := 214) rfl))
set_option maxRecDepth 100000 in
theorem ic_215 {c0 : Cond} : Cond.methodLink RJ7 13 yJ7_rangeCheck_23922 ∈ c0 :: lwC := List.mem_cons_of_mem _ (List.mem_append_left _ (List.mem_of_getElem? (i := 215) rfl))
set_option maxRecDepth 100000 in
theorem ic_216 {c0 : Cond} : Cond.static yJ7_rangeCheck_23922 ∈ c0 :: lwC := List.mem_cons_of_mem _ (List.mem_append_left _ (List.mem_of_getElem? (i := 216) rfl))
set_option maxRecDepth 100000 in
theorem ic_217 {c0 : Cond} : Cond.code yX3_markFitting cX3_markFitting 7 none ∈ c0 :: lwC := List.mem_cons_of_mem _ (List.mem_append_left _ (List.mem_of_getElem? (i := 217) rfl))
set_option maxRecDepth 100000 in
theorem ic_218 {c0 : Cond} : Cond.fieldLink RX3 26 "SpellTurner$Partings" "closes" "[Z" ∈ c0 :: lwC := List.mem_cons_of_mem _ (List.mem_append_left _ (List.mem_of_getElem? (i := 218) rfl))
set_option maxRecDepth 100000 in
theorem ic_219 {c0 : Cond} : Cond.fieldLink RX3 23 "SpellTurner$Partings" "fitting" "[B" ∈ c0 :: lwC := List.mem_cons_of_mem _ (List.mem_append_left _ (List.mem_of_getElem? (i := 219) rfl))
set_option maxRecDepth 100000 in
theorem ic_220 {c0 : Cond} : Cond.methodLink RX3 58 yJ7_fill_eb02e ∈ c0 :: lwC := List.mem_cons_of_mem _ (List.mem_append_left _ (List.mem_of_getElem? (i := 220) rfl))
set_option maxRecDepth 100000 in
theorem ic_221 {c0 : Cond} : Cond.static yJ7_fill_eb02e ∈ c0 :: lwC := List.mem_cons_of_mem _ (List.mem_append_left _ (List.mem_of_getElem? (i := 221) rfl))
set_option maxRecDepth 100000 in
theorem ic_222 {c0 : Cond} : Cond.methodLink RX3 64 yX10_standsIn ∈ c0 :: lwC := List.mem_cons_of_mem _ (List.mem_append_left _ (List.mem_of_getElem? (i := 222) rfl))
set_option maxRecDepth 100000 in
theorem ic_223 {c0 : Cond} : Cond.instanceMethod yX10_standsIn ∈ c0 :: lwC := List.mem_cons_of_mem _ (List.mem_append_left _ (List.mem_of_getElem? (i := 223) rfl))
set_option maxRecDepth 100000 in
theorem ic_224 {c0 : Cond} : Cond.selects RX10 yX10_standsIn yX10_standsIn ∈ c0 :: lwC := List.mem_cons_of_mem _ (List.mem_append_left _ (List.mem_of_getElem? (i := 224) rfl))
set_option maxRecDepth 100000 in
theorem ic_225 {c0 : Cond} : Cond.code yX3_note cX3_note 2 none ∈ c0 :: lwC := List.mem_cons_of_mem _ (List.mem_append_left _ (List.mem_of_getElem? (i := 225) rfl))
set_option maxRecDepth 100000 in
theorem ic_226 {c0 : Cond} : Cond.fieldLink RX3 30 "SpellTurner$Partings" "path" "[B" ∈ c0 :: lwC := List.mem_cons_of_mem _ (List.mem_append_left _ (List.mem_of_getElem? (i := 226) rfl))
set_option maxRecDepth 100000 in
theorem ic_227 {c0 : Cond} : Cond.methodLink RX3 72 arraycopyName ∈ c0 :: lwC := List.mem_cons_of_mem _ (List.mem_append_left _ (List.mem_of_getElem? (i := 227) rfl))
set_option maxRecDepth 100000 in
theorem ic_228 {c0 : Cond} : Cond.code yX3_walk cX3_walk 6 none ∈ c0 :: lwC := List.mem_cons_of_mem _ (List.mem_append_left _ (List.mem_of_getElem? (i := 228) rfl))
set_option maxRecDepth 100000 in
theorem ic_229 {c0 : Cond} : Cond.methodLink RX3 47 yX3_walk ∈ c0 :: lwC := List.mem_cons_of_mem _ (List.mem_append_left _ (List.mem_of_getElem? (i := 229) rfl))
set_option maxRecDepth 100000 in
theorem ic_230 {c0 : Cond} : Cond.instanceMethod yX3_walk ∈ c0 :: lwC := List.mem_cons_of_mem _ (List.mem_append_left _ (List.mem_of_getElem? (i := 230) rfl))
set_option maxRecDepth 100000 in
theorem ic_231 {c0 : Cond} : Cond.selects RX3 yX3_walk yX3_walk ∈ c0 :: lwC := List.mem_cons_of_mem _ (List.mem_append_left _ (List.mem_of_getElem? (i := 231) rfl))
set_option maxRecDepth 100000 in
theorem ic_232 {c0 : Cond} : Cond.methodLink RX3 68 yX3_note ∈ c0 :: lwC := List.mem_cons_of_mem _ (List.mem_append_left _ (List.mem_of_getElem? (i := 232) rfl))
set_option maxRecDepth 100000 in
theorem ic_233 {c0 : Cond} : Cond.instanceMethod yX3_note ∈ c0 :: lwC := List.mem_cons_of_mem _ (List.mem_append_left _ (List.mem_of_getElem? (i := 233) rfl))
set_option maxRecDepth 100000 in
theorem ic_234 {c0 : Cond} : Cond.selects RX3 yX3_note yX3_note ∈ c0 :: lwC := List.mem_cons_of_mem _ (List.mem_append_left _ (List.mem_of_getElem? (i := 234) rfl))
set_option maxRecDepth 100000 in
theorem ic_235 {c0 : Cond} : Cond.code yX3_find cX3_find 6 none ∈ c0 :: lwC := List.mem_cons_of_mem _ (List.mem_append_left _ (List.mem_of_getElem? (i := 235) rfl))
set_option maxRecDepth 100000 in
theorem ic_236 {c0 : Cond} : Cond.methodLink RX3 43 yX3_markFitting ∈ c0 :: lwC := List.mem_cons_of_mem _ (List.mem_append_left _ (List.mem_of_getElem? (i := 236) rfl))
set_option maxRecDepth 100000 in
theorem ic_237 {c0 : Cond} : Cond.instanceMethod yX3_markFitting ∈ c0 :: lwC := List.mem_cons_of_mem _ (List.mem_append_left _ (List.mem_of_getElem? (i := 237) rfl))
set_option maxRecDepth 100000 in
theorem ic_238 {c0 : Cond} : Cond.selects RX3 yX3_markFitting yX3_markFitting ∈ c0 :: lwC := List.mem_cons_of_mem _ (List.mem_append_left _ (List.mem_of_getElem? (i := 238) rfl))
set_option maxRecDepth 100000 in
theorem ic_239 {c0 : Cond} : Cond.code yX5_isKept cX5_isKept 2 (some .boolean) ∈ c0 :: lwC := List.mem_cons_of_mem _ (List.mem_append_left _ (List.mem_of_getElem? (i := 239) rfl))
set_option maxRecDepth 100000 in
theorem ic_240 {c0 : Cond} : Cond.fieldLink RX5 39 "SpellTurner$Reform" "kept" "[Z" ∈ c0 :: lwC := List.mem_cons_of_mem _ (List.mem_append_left _ (List.mem_of_getElem? (i := 240) rfl))
set_option maxRecDepth 100000 in
theorem ic_242 {c0 : Cond} : Cond.methodLink RX11 187 yX3_find ∈ c0 :: lwC := List.mem_cons_of_mem _ (List.mem_append_left _ (List.mem_of_getElem? (i := 242) rfl))
set_option maxRecDepth 100000 in
theorem ic_243 {c0 : Cond} : Cond.instanceMethod yX3_find ∈ c0 :: lwC := List.mem_cons_of_mem _ (List.mem_append_left _ (List.mem_of_getElem? (i := 243) rfl))
set_option maxRecDepth 100000 in
theorem ic_244 {c0 : Cond} : Cond.selects RX3 yX3_find yX3_find ∈ c0 :: lwC := List.mem_cons_of_mem _ (List.mem_append_left _ (List.mem_of_getElem? (i := 244) rfl))
set_option maxRecDepth 100000 in
theorem ic_245 {c0 : Cond} : Cond.methodLink RX11 184 yX5_isKept ∈ c0 :: lwC := List.mem_cons_of_mem _ (List.mem_append_left _ (List.mem_of_getElem? (i := 245) rfl))
set_option maxRecDepth 100000 in
theorem ic_246 {c0 : Cond} : Cond.instanceMethod yX5_isKept ∈ c0 :: lwC := List.mem_cons_of_mem _ (List.mem_append_left _ (List.mem_of_getElem? (i := 246) rfl))
set_option maxRecDepth 100000 in
theorem ic_247 {c0 : Cond} : Cond.selects RX5 yX5_isKept yX5_isKept ∈ c0 :: lwC := List.mem_cons_of_mem _ (List.mem_append_left _ (List.mem_of_getElem? (i := 247) rfl))
set_option maxRecDepth 100000 in
theorem ic_248 {c0 : Cond} : Cond.initialized RX5 ∈ c0 :: lwC := List.mem_cons_of_mem _ (List.mem_append_left _ (List.mem_of_getElem? (i := 248) rfl))
set_option maxRecDepth 100000 in
theorem ic_249 {c0 : Cond} : Cond.code yX5_addLaw cX5_addLaw 2 none ∈ c0 :: lwC := List.mem_cons_of_mem _ (List.mem_append_left _ (List.mem_of_getElem? (i := 249) rfl))
set_option maxRecDepth 100000 in
theorem ic_250 {c0 : Cond} : Cond.fieldLink RX5 21 "SpellTurner$Reform" "lawCount" "I" ∈ c0 :: lwC := List.mem_cons_of_mem _ (List.mem_append_left _ (List.mem_of_getElem? (i := 250) rfl))
set_option maxRecDepth 100000 in
theorem ic_251 {c0 : Cond} : Cond.fieldLink RX5 17 "SpellTurner$Reform" "laws" "[LSpellTurner$Law;" ∈ c0 :: lwC := List.mem_cons_of_mem _ (List.mem_append_left _ (List.mem_of_getElem? (i := 251) rfl))
set_option maxRecDepth 100000 in
theorem ic_252 {c0 : Cond} : Cond.code yX5_addEntry cX5_addEntry 5 none ∈ c0 :: lwC := List.mem_cons_of_mem _ (List.mem_append_left _ (List.mem_of_getElem? (i := 252) rfl))
set_option maxRecDepth 100000 in
theorem ic_253 {c0 : Cond} : Cond.fieldLink RX5 33 "SpellTurner$Reform" "entries" "LSpellTurner$WordRow;" ∈ c0 :: lwC := List.mem_cons_of_mem _ (List.mem_append_left _ (List.mem_of_getElem? (i := 253) rfl))
set_option maxRecDepth 100000 in
theorem ic_254 {c0 : Cond} : Cond.methodLink RX5 67 yX10_isFull ∈ c0 :: lwC := List.mem_cons_of_mem _ (List.mem_append_left _ (List.mem_of_getElem? (i := 254) rfl))
set_option maxRecDepth 100000 in
theorem ic_255 {c0 : Cond} : Cond.fieldLink RX5 56 "SpellTurner$WordRow" "count" "I" ∈ c0 :: lwC := List.mem_cons_of_mem _ (List.mem_append_left _ (List.mem_of_getElem? (i := 255) rfl))
set_option maxRecDepth 100000 in
theorem ic_256 {c0 : Cond} : Cond.fieldLink RX5 43 "SpellTurner$Reform" "keptCount" "I" ∈ c0 :: lwC := List.mem_cons_of_mem _ (List.mem_append_left _ (List.mem_of_getElem? (i := 256) rfl))
set_option maxRecDepth 100000 in
theorem ic_257 {c0 : Cond} : Cond.methodLink RX5 63 yX10_add ∈ c0 :: lwC := List.mem_cons_of_mem _ (List.mem_append_left _ (List.mem_of_getElem? (i := 257) rfl))
set_option maxRecDepth 100000 in
theorem ic_258 {c0 : Cond} : Cond.code yX5_addKept cX5_addKept 4 none ∈ c0 :: lwC := List.mem_cons_of_mem _ (List.mem_append_left _ (List.mem_of_getElem? (i := 258) rfl))
set_option maxRecDepth 100000 in
theorem ic_259 {c0 : Cond} : Cond.methodLink RX5 59 yX5_addEntry ∈ c0 :: lwC := List.mem_cons_of_mem _ (List.mem_append_left _ (List.mem_of_getElem? (i := 259) rfl))
set_option maxRecDepth 100000 in
theorem ic_260 {c0 : Cond} : Cond.instanceMethod yX5_addEntry ∈ c0 :: lwC := List.mem_cons_of_mem _ (List.mem_append_left _ (List.mem_of_getElem? (i := 260) rfl))
set_option maxRecDepth 100000 in
theorem ic_261 {c0 : Cond} : Cond.selects RX5 yX5_addEntry yX5_addEntry ∈ c0 :: lwC := List.mem_cons_of_mem _ (List.mem_append_left _ (List.mem_of_getElem? (i := 261) rfl))
set_option maxRecDepth 100000 in
theorem ic_262 {c0 : Cond} : Cond.fieldLink RX5 36 "SpellTurner$Reform" "becomes" "LSpellTurner$WordRow;" ∈ c0 :: lwC := List.mem_cons_of_mem _ (List.mem_append_left _ (List.mem_of_getElem? (i := 262) rfl))
set_option maxRecDepth 100000 in
theorem ic_263 {c0 : Cond} : Cond.code yX5_addListed cX5_addListed 4 none ∈ c0 :: lwC := List.mem_cons_of_mem _ (List.mem_append_left _ (List.mem_of_getElem? (i := 263) rfl))
set_option maxRecDepth 100000 in
theorem ic_264 {c0 : Cond} : Cond.code yX5_clear cX5_clear 2 none ∈ c0 :: lwC := List.mem_cons_of_mem _ (List.mem_append_left _ (List.mem_of_getElem? (i := 264) rfl))
set_option maxRecDepth 100000 in
theorem ic_265 {c0 : Cond} : Cond.fieldLink RX5 9 "SpellTurner$Reform" "day" "I" ∈ c0 :: lwC := List.mem_cons_of_mem _ (List.mem_append_left _ (List.mem_of_getElem? (i := 265) rfl))
set_option maxRecDepth 100000 in
theorem ic_266 {c0 : Cond} : Cond.fieldLink RX5 29 "SpellTurner$Reform" "parts" "LSpellTurner$WordRow;" ∈ c0 :: lwC := List.mem_cons_of_mem _ (List.mem_append_left _ (List.mem_of_getElem? (i := 266) rfl))
set_option maxRecDepth 100000 in
theorem ic_267 {c0 : Cond} : Cond.fieldLink RX5 46 "SpellTurner$Reform" "turnedParts" "LSpellTurner$WordRow;" ∈ c0 :: lwC := List.mem_cons_of_mem _ (List.mem_append_left _ (List.mem_of_getElem? (i := 267) rfl))
set_option maxRecDepth 100000 in
theorem ic_268 {c0 : Cond} : Cond.code yX9_addEntry cX9_addEntry 5 none ∈ c0 :: lwC := List.mem_cons_of_mem _ (List.mem_append_left _ (List.mem_of_getElem? (i := 268) rfl))
set_option maxRecDepth 100000 in
theorem ic_269 {c0 : Cond} : Cond.methodLink RX9 121 yX5_isKept ∈ c0 :: lwC := List.mem_cons_of_mem _ (List.mem_append_left _ (List.mem_of_getElem? (i := 269) rfl))
set_option maxRecDepth 100000 in
theorem ic_270 {c0 : Cond} : Cond.fieldLink RX9 53 "SpellTurner$WordRow" "count" "I" ∈ c0 :: lwC := List.mem_cons_of_mem _ (List.mem_append_left _ (List.mem_of_getElem? (i := 270) rfl))
set_option maxRecDepth 100000 in
theorem ic_271 {c0 : Cond} : Cond.fieldLink RX9 56 "SpellTurner$WordRow" "letters" "[B" ∈ c0 :: lwC := List.mem_cons_of_mem _ (List.mem_append_left _ (List.mem_of_getElem? (i := 271) rfl))
set_option maxRecDepth 100000 in
theorem ic_272 {c0 : Cond} : Cond.fieldLink RX9 59 "SpellTurner$WordRow" "width" "I" ∈ c0 :: lwC := List.mem_cons_of_mem _ (List.mem_append_left _ (List.mem_of_getElem? (i := 272) rfl))
set_option maxRecDepth 100000 in
theorem ic_273 {c0 : Cond} : Cond.fieldLink RX9 62 "SpellTurner$WordRow" "lengths" "[I" ∈ c0 :: lwC := List.mem_cons_of_mem _ (List.mem_append_left _ (List.mem_of_getElem? (i := 273) rfl))
set_option maxRecDepth 100000 in
theorem ic_274 {c0 : Cond} : Cond.methodLink RX9 85 yX10_addForm ∈ c0 :: lwC := List.mem_cons_of_mem _ (List.mem_append_left _ (List.mem_of_getElem? (i := 274) rfl))
set_option maxRecDepth 100000 in
theorem ic_275 {c0 : Cond} : Cond.instanceMethod yX10_addForm ∈ c0 :: lwC := List.mem_cons_of_mem _ (List.mem_append_left _ (List.mem_of_getElem? (i := 275) rfl))
set_option maxRecDepth 100000 in
theorem ic_276 {c0 : Cond} : Cond.selects RX10 yX10_addForm yX10_addForm ∈ c0 :: lwC := List.mem_cons_of_mem _ (List.mem_append_left _ (List.mem_of_getElem? (i := 276) rfl))
set_option maxRecDepth 100000 in
theorem ic_277 {c0 : Cond} : Cond.fieldLink RX9 125 "SpellTurner$Reform" "becomes" "LSpellTurner$WordRow;" ∈ c0 :: lwC := List.mem_cons_of_mem _ (List.mem_append_left _ (List.mem_of_getElem? (i := 277) rfl))
set_option maxRecDepth 100000 in
theorem ic_278 {c0 : Cond} : Cond.fieldLink RX9 102 "SpellTurner$Reform" "entries" "LSpellTurner$WordRow;" ∈ c0 :: lwC := List.mem_cons_of_mem _ (List.mem_append_left _ (List.mem_of_getElem? (i := 278) rfl))
set_option maxRecDepth 100000 in
theorem ic_279 {c0 : Cond} : Cond.code yX9_apply cX9_apply 5 (some .boolean) ∈ c0 :: lwC := List.mem_cons_of_mem _ (List.mem_append_left _ (List.mem_of_getElem? (i := 279) rfl))
set_option maxRecDepth 100000 in
theorem ic_280 {c0 : Cond} : Cond.fieldLink RX9 18 "SpellTurner$Turner" "now" "[B" ∈ c0 :: lwC := List.mem_cons_of_mem _ (List.mem_append_left _ (List.mem_of_getElem? (i := 280) rfl))
set_option maxRecDepth 100000 in
theorem ic_281 {c0 : Cond} : Cond.fieldLink RX9 22 "SpellTurner$Turner" "next" "[B" ∈ c0 :: lwC := List.mem_cons_of_mem _ (List.mem_append_left _ (List.mem_of_getElem? (i := 281) rfl))
set_option maxRecDepth 100000 in
theorem ic_282 {c0 : Cond} : Cond.fieldLink RX9 25 "SpellTurner$Turner" "length" "I" ∈ c0 :: lwC := List.mem_cons_of_mem _ (List.mem_append_left _ (List.mem_of_getElem? (i := 282) rfl))
set_option maxRecDepth 100000 in
theorem ic_283 {c0 : Cond} : Cond.methodLink RX9 154 yX1_standsAt ∈ c0 :: lwC := List.mem_cons_of_mem _ (List.mem_append_left _ (List.mem_of_getElem? (i := 283) rfl))
set_option maxRecDepth 100000 in
theorem ic_284 {c0 : Cond} : Cond.instanceMethod yX1_standsAt ∈ c0 :: lwC := List.mem_cons_of_mem _ (List.mem_append_left _ (List.mem_of_getElem? (i := 284) rfl))
set_option maxRecDepth 100000 in
theorem ic_285 {c0 : Cond} : Cond.selects RX1 yX1_standsAt yX1_standsAt ∈ c0 :: lwC := List.mem_cons_of_mem _ (List.mem_append_left _ (List.mem_of_getElem? (i := 285) rfl))
set_option maxRecDepth 100000 in
theorem ic_286 {c0 : Cond} : Cond.initialized RX1 ∈ c0 :: lwC := List.mem_cons_of_mem _ (List.mem_append_left _ (List.mem_of_getElem? (i := 286) rfl))
set_option maxRecDepth 100000 in
theorem ic_287 {c0 : Cond} : Cond.fieldLink RX9 160 "SpellTurner$Law" "second" "[B" ∈ c0 :: lwC := List.mem_cons_of_mem _ (List.mem_append_left _ (List.mem_of_getElem? (i := 287) rfl))
set_option maxRecDepth 100000 in
theorem ic_288 {c0 : Cond} : Cond.methodLink RX9 134 arraycopyName ∈ c0 :: lwC := List.mem_cons_of_mem _ (List.mem_append_left _ (List.mem_of_getElem? (i := 288) rfl))
set_option maxRecDepth 100000 in
theorem ic_289 {c0 : Cond} : Cond.fieldLink RX9 163 "SpellTurner$Law" "first" "[B" ∈ c0 :: lwC := List.mem_cons_of_mem _ (List.mem_append_left _ (List.mem_of_getElem? (i := 289) rfl))
set_option maxRecDepth 100000 in
theorem ic_290 {c0 : Cond} : Cond.methodLink RX9 88 Lib.Math.max.name ∈ c0 :: lwC := List.mem_cons_of_mem _ (List.mem_append_left _ (List.mem_of_getElem? (i := 290) rfl))
set_option maxRecDepth 100000 in
theorem ic_291 {c0 : Cond} : Cond.static Lib.Math.max.name ∈ c0 :: lwC := List.mem_cons_of_mem _ (List.mem_append_left _ (List.mem_of_getElem? (i := 291) rfl))
set_option maxRecDepth 100000 in
theorem ic_292 {c0 : Cond} : Cond.code Lib.Math.max.name Lib.Math.max.code 2 (some .int) ∈ c0 :: lwC := List.mem_cons_of_mem _ (List.mem_append_left _ (List.mem_of_getElem? (i := 292) rfl))
set_option maxRecDepth 100000 in
theorem ic_293 {c0 : Cond} : Cond.code yX9_runLaws cX9_runLaws 7 (some .boolean) ∈ c0 :: lwC := List.mem_cons_of_mem _ (List.mem_append_left _ (List.mem_of_getElem? (i := 293) rfl))
set_option maxRecDepth 100000 in
theorem ic_294 {c0 : Cond} : Cond.fieldLink RX9 29 "SpellTurner$Turner" "used" "J" ∈ c0 :: lwC := List.mem_cons_of_mem _ (List.mem_append_left _ (List.mem_of_getElem? (i := 294) rfl))
set_option maxRecDepth 100000 in
theorem ic_295 {c0 : Cond} : Cond.methodLink RX9 140 Lib.Math.min.name ∈ c0 :: lwC := List.mem_cons_of_mem _ (List.mem_append_left _ (List.mem_of_getElem? (i := 295) rfl))
set_option maxRecDepth 100000 in
theorem ic_296 {c0 : Cond} : Cond.fieldLink RX9 143 "SpellTurner$Reform" "lawCount" "I" ∈ c0 :: lwC := List.mem_cons_of_mem _ (List.mem_append_left _ (List.mem_of_getElem? (i := 296) rfl))
set_option maxRecDepth 100000 in
theorem ic_297 {c0 : Cond} : Cond.fieldLink RX9 146 "SpellTurner$Reform" "laws" "[LSpellTurner$Law;" ∈ c0 :: lwC := List.mem_cons_of_mem _ (List.mem_append_left _ (List.mem_of_getElem? (i := 297) rfl))
set_option maxRecDepth 100000 in
theorem ic_298 {c0 : Cond} : Cond.methodLink RX9 150 yX9_apply ∈ c0 :: lwC := List.mem_cons_of_mem _ (List.mem_append_left _ (List.mem_of_getElem? (i := 298) rfl))
set_option maxRecDepth 100000 in
theorem ic_299 {c0 : Cond} : Cond.instanceMethod yX9_apply ∈ c0 :: lwC := List.mem_cons_of_mem _ (List.mem_append_left _ (List.mem_of_getElem? (i := 299) rfl))
set_option maxRecDepth 100000 in
theorem ic_300 {c0 : Cond} : Cond.selects RX9 yX9_apply yX9_apply ∈ c0 :: lwC := List.mem_cons_of_mem _ (List.mem_append_left _ (List.mem_of_getElem? (i := 300) rfl))
set_option maxRecDepth 100000 in
theorem ic_301 {c0 : Cond} : Cond.initialized RX9 ∈ c0 :: lwC := List.mem_cons_of_mem _ (List.mem_append_left _ (List.mem_of_getElem? (i := 301) rfl))
set_option maxRecDepth 100000 in
theorem ic_302 {c0 : Cond} : Cond.code yX9_turnParting cX9_turnParting 10 (some .long) ∈ c0 :: lwC := List.mem_cons_of_mem _ (List.mem_append_left _ (List.mem_of_getElem? (i := 302) rfl))
set_option maxRecDepth 100000 in
theorem ic_303 {c0 : Cond} : Cond.fieldLink RX9 78 "SpellTurner$Reform" "turnedParts" "LSpellTurner$WordRow;" ∈ c0 :: lwC := List.mem_cons_of_mem _ (List.mem_append_left _ (List.mem_of_getElem? (i := 303) rfl))
set_option maxRecDepth 100000 in
theorem ic_304 {c0 : Cond} : Cond.fieldLink RX9 33 "SpellTurner$Turner" "whole" "[B" ∈ c0 :: lwC := List.mem_cons_of_mem _ (List.mem_append_left _ (List.mem_of_getElem? (i := 304) rfl))
set_option maxRecDepth 100000 in
theorem ic_305 {c0 : Cond} : Cond.fieldLink RX9 12 "SpellTurner$Turner" "partings" "LSpellTurner$Partings;" ∈ c0 :: lwC := List.mem_cons_of_mem _ (List.mem_append_left _ (List.mem_of_getElem? (i := 305) rfl))
set_option maxRecDepth 100000 in
theorem ic_306 {c0 : Cond} : Cond.fieldLink RX9 128 "SpellTurner$Partings" "sizes" "[I" ∈ c0 :: lwC := List.mem_cons_of_mem _ (List.mem_append_left _ (List.mem_of_getElem? (i := 306) rfl))
set_option maxRecDepth 100000 in
theorem ic_307 {c0 : Cond} : Cond.methodLink RX9 131 yX3_pick ∈ c0 :: lwC := List.mem_cons_of_mem _ (List.mem_append_left _ (List.mem_of_getElem? (i := 307) rfl))
set_option maxRecDepth 100000 in
theorem ic_308 {c0 : Cond} : Cond.fieldLink RX9 74 "SpellTurner$Reform" "partUses" "[J" ∈ c0 :: lwC := List.mem_cons_of_mem _ (List.mem_append_left _ (List.mem_of_getElem? (i := 308) rfl))
set_option maxRecDepth 100000 in
theorem ic_309 {c0 : Cond} : Cond.fieldLink RX9 70 "SpellTurner$Reform" "partHolds" "[Z" ∈ c0 :: lwC := List.mem_cons_of_mem _ (List.mem_append_left _ (List.mem_of_getElem? (i := 309) rfl))
set_option maxRecDepth 100000 in
theorem ic_310 {c0 : Cond} : Cond.code yX9_turnWord cX9_turnWord 11 (some .long) ∈ c0 :: lwC := List.mem_cons_of_mem _ (List.mem_append_left _ (List.mem_of_getElem? (i := 310) rfl))
set_option maxRecDepth 100000 in
theorem ic_311 {c0 : Cond} : Cond.methodLink RX9 105 yX10_find ∈ c0 :: lwC := List.mem_cons_of_mem _ (List.mem_append_left _ (List.mem_of_getElem? (i := 311) rfl))
set_option maxRecDepth 100000 in
theorem ic_312 {c0 : Cond} : Cond.fieldLink RX9 48 "SpellTurner$Reform" "parts" "LSpellTurner$WordRow;" ∈ c0 :: lwC := List.mem_cons_of_mem _ (List.mem_append_left _ (List.mem_of_getElem? (i := 312) rfl))
set_option maxRecDepth 100000 in
theorem ic_313 {c0 : Cond} : Cond.methodLink RX9 113 yX3_find ∈ c0 :: lwC := List.mem_cons_of_mem _ (List.mem_append_left _ (List.mem_of_getElem? (i := 313) rfl))
set_option maxRecDepth 100000 in
theorem ic_314 {c0 : Cond} : Cond.fieldLink RX9 116 "SpellTurner$Partings" "count" "I" ∈ c0 :: lwC := List.mem_cons_of_mem _ (List.mem_append_left _ (List.mem_of_getElem? (i := 314) rfl))
set_option maxRecDepth 100000 in
theorem ic_315 {c0 : Cond} : Cond.methodLink RX9 117 yX9_turnParting ∈ c0 :: lwC := List.mem_cons_of_mem _ (List.mem_append_left _ (List.mem_of_getElem? (i := 315) rfl))
set_option maxRecDepth 100000 in
theorem ic_316 {c0 : Cond} : Cond.instanceMethod yX9_turnParting ∈ c0 :: lwC := List.mem_cons_of_mem _ (List.mem_append_left _ (List.mem_of_getElem? (i := 316) rfl))
set_option maxRecDepth 100000 in
theorem ic_317 {c0 : Cond} : Cond.selects RX9 yX9_turnParting yX9_turnParting ∈ c0 :: lwC := List.mem_cons_of_mem _ (List.mem_append_left _ (List.mem_of_getElem? (i := 317) rfl))
set_option maxRecDepth 100000 in
theorem ic_318 {c0 : Cond} : Cond.methodLink RX9 66 yX9_runLaws ∈ c0 :: lwC := List.mem_cons_of_mem _ (List.mem_append_left _ (List.mem_of_getElem? (i := 318) rfl))
set_option maxRecDepth 100000 in
theorem ic_319 {c0 : Cond} : Cond.instanceMethod yX9_runLaws ∈ c0 :: lwC := List.mem_cons_of_mem _ (List.mem_append_left _ (List.mem_of_getElem? (i := 319) rfl))
set_option maxRecDepth 100000 in
theorem ic_320 {c0 : Cond} : Cond.selects RX9 yX9_runLaws yX9_runLaws ∈ c0 :: lwC := List.mem_cons_of_mem _ (List.mem_append_left _ (List.mem_of_getElem? (i := 320) rfl))
set_option maxRecDepth 100000 in
theorem ic_321 {c0 : Cond} : Cond.methodLink RX9 109 yX9_addEntry ∈ c0 :: lwC := List.mem_cons_of_mem _ (List.mem_append_left _ (List.mem_of_getElem? (i := 321) rfl))
set_option maxRecDepth 100000 in
theorem ic_322 {c0 : Cond} : Cond.instanceMethod yX9_addEntry ∈ c0 :: lwC := List.mem_cons_of_mem _ (List.mem_append_left _ (List.mem_of_getElem? (i := 322) rfl))
set_option maxRecDepth 100000 in
theorem ic_323 {c0 : Cond} : Cond.selects RX9 yX9_addEntry yX9_addEntry ∈ c0 :: lwC := List.mem_cons_of_mem _ (List.mem_append_left _ (List.mem_of_getElem? (i := 323) rfl))
set_option maxRecDepth 100000 in
theorem ic_324 {c0 : Cond} : Cond.code yX9_turnForms cX9_turnForms 7 (some .long) ∈ c0 :: lwC := List.mem_cons_of_mem _ (List.mem_append_left _ (List.mem_of_getElem? (i := 324) rfl))
set_option maxRecDepth 100000 in
theorem ic_325 {c0 : Cond} : Cond.methodLink RX9 98 yX9_turnWord ∈ c0 :: lwC := List.mem_cons_of_mem _ (List.mem_append_left _ (List.mem_of_getElem? (i := 325) rfl))
set_option maxRecDepth 100000 in
theorem ic_326 {c0 : Cond} : Cond.instanceMethod yX9_turnWord ∈ c0 :: lwC := List.mem_cons_of_mem _ (List.mem_append_left _ (List.mem_of_getElem? (i := 326) rfl))
set_option maxRecDepth 100000 in
theorem ic_327 {c0 : Cond} : Cond.selects RX9 yX9_turnWord yX9_turnWord ∈ c0 :: lwC := List.mem_cons_of_mem _ (List.mem_append_left _ (List.mem_of_getElem? (i := 327) rfl))
set_option maxRecDepth 100000 in
theorem ic_328 {c0 : Cond} : Cond.code yX9_through cX9_through 9 (some (.object "SpellTurner$WordRow")) ∈ c0 :: lwC := List.mem_cons_of_mem _ (List.mem_append_left _ (List.mem_of_getElem? (i := 328) rfl))
set_option maxRecDepth 100000 in
theorem ic_329 {c0 : Cond} : Cond.fieldLink RX9 45 "SpellTurner$Turner" "behind" "LSpellTurner$WordRow;" ∈ c0 :: lwC := List.mem_cons_of_mem _ (List.mem_append_left _ (List.mem_of_getElem? (i := 329) rfl))
set_option maxRecDepth 100000 in
theorem ic_330 {c0 : Cond} : Cond.fieldLink RX9 41 "SpellTurner$Turner" "ahead" "LSpellTurner$WordRow;" ∈ c0 :: lwC := List.mem_cons_of_mem _ (List.mem_append_left _ (List.mem_of_getElem? (i := 330) rfl))
set_option maxRecDepth 100000 in
theorem ic_331 {c0 : Cond} : Cond.methodLink RX9 94 yX9_turnForms ∈ c0 :: lwC := List.mem_cons_of_mem _ (List.mem_append_left _ (List.mem_of_getElem? (i := 331) rfl))
set_option maxRecDepth 100000 in
theorem ic_332 {c0 : Cond} : Cond.instanceMethod yX9_turnForms ∈ c0 :: lwC := List.mem_cons_of_mem _ (List.mem_append_left _ (List.mem_of_getElem? (i := 332) rfl))
set_option maxRecDepth 100000 in
theorem ic_333 {c0 : Cond} : Cond.selects RX9 yX9_turnForms yX9_turnForms ∈ c0 :: lwC := List.mem_cons_of_mem _ (List.mem_append_left _ (List.mem_of_getElem? (i := 333) rfl))
set_option maxRecDepth 100000 in
theorem ic_334 {c0 : Cond} : Cond.code yX9_turnParts cX9_turnParts 5 none ∈ c0 :: lwC := List.mem_cons_of_mem _ (List.mem_append_left _ (List.mem_of_getElem? (i := 334) rfl))
set_option maxRecDepth 100000 in
theorem ic_335 {c0 : Cond} : Cond.methodLink RX9 81 yX10_add ∈ c0 :: lwC := List.mem_cons_of_mem _ (List.mem_append_left _ (List.mem_of_getElem? (i := 335) rfl))
set_option maxRecDepth 100000 in
theorem ic_337 {c0 : Cond} : Cond.methodLink RX11 160 yX11_areStages ∈ c0 :: lwC := List.mem_cons_of_mem _ (List.mem_append_left _ (List.mem_of_getElem? (i := 337) rfl))
set_option maxRecDepth 100000 in
theorem ic_338 {c0 : Cond} : Cond.instanceMethod yX11_areStages ∈ c0 :: lwC := List.mem_cons_of_mem _ (List.mem_append_left _ (List.mem_of_getElem? (i := 338) rfl))
set_option maxRecDepth 100000 in
theorem ic_339 {c0 : Cond} : Cond.selects RX11 yX11_areStages yX11_areStages ∈ c0 :: lwC := List.mem_cons_of_mem _ (List.mem_append_left _ (List.mem_of_getElem? (i := 339) rfl))
set_option maxRecDepth 100000 in
theorem ic_340 {c0 : Cond} : Cond.fieldLink RX11 44 "SpellTurner" "turner" "LSpellTurner$Turner;" ∈ c0 :: lwC := List.mem_cons_of_mem _ (List.mem_append_left _ (List.mem_of_getElem? (i := 340) rfl))
set_option maxRecDepth 100000 in
theorem ic_341 {c0 : Cond} : Cond.methodLink RX11 168 yX9_through ∈ c0 :: lwC := List.mem_cons_of_mem _ (List.mem_append_left _ (List.mem_of_getElem? (i := 341) rfl))
set_option maxRecDepth 100000 in
theorem ic_342 {c0 : Cond} : Cond.instanceMethod yX9_through ∈ c0 :: lwC := List.mem_cons_of_mem _ (List.mem_append_left _ (List.mem_of_getElem? (i := 342) rfl))
set_option maxRecDepth 100000 in
theorem ic_343 {c0 : Cond} : Cond.selects RX9 yX9_through yX9_through ∈ c0 :: lwC := List.mem_cons_of_mem _ (List.mem_append_left _ (List.mem_of_getElem? (i := 343) rfl))
set_option maxRecDepth 100000 in
theorem ic_344 {c0 : Cond} : Cond.methodLink RX11 172 yX10_copy ∈ c0 :: lwC := List.mem_cons_of_mem _ (List.mem_append_left _ (List.mem_of_getElem? (i := 344) rfl))
set_option maxRecDepth 100000 in
theorem ic_345 {c0 : Cond} : Cond.instanceMethod yX10_copy ∈ c0 :: lwC := List.mem_cons_of_mem _ (List.mem_append_left _ (List.mem_of_getElem? (i := 345) rfl))
set_option maxRecDepth 100000 in
theorem ic_346 {c0 : Cond} : Cond.selects RX10 yX10_copy yX10_copy ∈ c0 :: lwC := List.mem_cons_of_mem _ (List.mem_append_left _ (List.mem_of_getElem? (i := 346) rfl))
set_option maxRecDepth 100000 in
theorem ic_347 {c0 : Cond} : Cond.code yX4_scanRun cX4_scanRun 2 none ∈ c0 :: lwC := List.mem_cons_of_mem _ (List.mem_append_left _ (List.mem_of_getElem? (i := 347) rfl))
set_option maxRecDepth 100000 in
theorem ic_348 {c0 : Cond} : Cond.fieldLink RX4 25 "SpellTurner$Reader" "at" "I" ∈ c0 :: lwC := List.mem_cons_of_mem _ (List.mem_append_left _ (List.mem_of_getElem? (i := 348) rfl))
set_option maxRecDepth 100000 in
theorem ic_349 {c0 : Cond} : Cond.fieldLink RX4 34 "SpellTurner$Reader" "start" "I" ∈ c0 :: lwC := List.mem_cons_of_mem _ (List.mem_append_left _ (List.mem_of_getElem? (i := 349) rfl))
set_option maxRecDepth 100000 in
theorem ic_350 {c0 : Cond} : Cond.fieldLink RX4 22 "SpellTurner$Reader" "size" "I" ∈ c0 :: lwC := List.mem_cons_of_mem _ (List.mem_append_left _ (List.mem_of_getElem? (i := 350) rfl))
set_option maxRecDepth 100000 in
theorem ic_351 {c0 : Cond} : Cond.fieldLink RX4 37 "SpellTurner$Reader" "length" "I" ∈ c0 :: lwC := List.mem_cons_of_mem _ (List.mem_append_left _ (List.mem_of_getElem? (i := 351) rfl))
set_option maxRecDepth 100000 in
theorem ic_352 {c0 : Cond} : Cond.fieldLink RX4 18 "SpellTurner$Reader" "text" "[B" ∈ c0 :: lwC := List.mem_cons_of_mem _ (List.mem_append_left _ (List.mem_of_getElem? (i := 352) rfl))
set_option maxRecDepth 100000 in
theorem ic_353 {c0 : Cond} : Cond.methodLink RX4 190 yX10_isSmall ∈ c0 :: lwC := List.mem_cons_of_mem _ (List.mem_append_left _ (List.mem_of_getElem? (i := 353) rfl))
set_option maxRecDepth 100000 in
theorem ic_354 {c0 : Cond} : Cond.code yX4_nextToken cX4_nextToken 1 none ∈ c0 :: lwC := List.mem_cons_of_mem _ (List.mem_append_left _ (List.mem_of_getElem? (i := 354) rfl))
set_option maxRecDepth 100000 in
theorem ic_355 {c0 : Cond} : Cond.fieldLink RX4 31 "SpellTurner$Reader" "place" "I" ∈ c0 :: lwC := List.mem_cons_of_mem _ (List.mem_append_left _ (List.mem_of_getElem? (i := 355) rfl))
set_option maxRecDepth 100000 in
theorem ic_356 {c0 : Cond} : Cond.methodLink RX4 186 yX4_scanRun ∈ c0 :: lwC := List.mem_cons_of_mem _ (List.mem_append_left _ (List.mem_of_getElem? (i := 356) rfl))
set_option maxRecDepth 100000 in
theorem ic_357 {c0 : Cond} : Cond.instanceMethod yX4_scanRun ∈ c0 :: lwC := List.mem_cons_of_mem _ (List.mem_append_left _ (List.mem_of_getElem? (i := 357) rfl))
set_option maxRecDepth 100000 in
theorem ic_358 {c0 : Cond} : Cond.selects RX4 yX4_scanRun yX4_scanRun ∈ c0 :: lwC := List.mem_cons_of_mem _ (List.mem_append_left _ (List.mem_of_getElem? (i := 358) rfl))
set_option maxRecDepth 100000 in
theorem ic_359 {c0 : Cond} : Cond.initialized RX4 ∈ c0 :: lwC := List.mem_cons_of_mem _ (List.mem_append_left _ (List.mem_of_getElem? (i := 359) rfl))
set_option maxRecDepth 100000 in
theorem ic_360 {c0 : Cond} : Cond.fieldLink RX4 28 "SpellTurner$Reader" "token" "I" ∈ c0 :: lwC := List.mem_cons_of_mem _ (List.mem_append_left _ (List.mem_of_getElem? (i := 360) rfl))
set_option maxRecDepth 100000 in
theorem ic_361 {c0 : Cond} : Cond.code yX4_wordIs cX4_wordIs 3 (some .boolean) ∈ c0 :: lwC := List.mem_cons_of_mem _ (List.mem_append_left _ (List.mem_of_getElem? (i := 361) rfl))
set_option maxRecDepth 100000 in
theorem ic_362 {c0 : Cond} : Cond.methodLink RX4 177 yJ0_length_8abf5 ∈ c0 :: lwC := List.mem_cons_of_mem _ (List.mem_append_left _ (List.mem_of_getElem? (i := 362) rfl))
set_option maxRecDepth 100000 in
theorem ic_363 {c0 : Cond} : Cond.instanceMethod yJ0_length_8abf5 ∈ c0 :: lwC := List.mem_cons_of_mem _ (List.mem_append_left _ (List.mem_of_getElem? (i := 363) rfl))
set_option maxRecDepth 100000 in
theorem ic_364 {c0 : Cond} : Cond.selects RJ0 yJ0_length_8abf5 yJ0_length_8abf5 ∈ c0 :: lwC := List.mem_cons_of_mem _ (List.mem_append_left _ (List.mem_of_getElem? (i := 364) rfl))
set_option maxRecDepth 100000 in
theorem ic_365 {c0 : Cond} : Cond.initialized RJ0 ∈ c0 :: lwC := List.mem_cons_of_mem _ (List.mem_append_left _ (List.mem_of_getElem? (i := 365) rfl))
set_option maxRecDepth 100000 in
theorem ic_366 {c0 : Cond} : Cond.methodLink RX4 182 yJ0_charAt_5068e ∈ c0 :: lwC := List.mem_cons_of_mem _ (List.mem_append_left _ (List.mem_of_getElem? (i := 366) rfl))
set_option maxRecDepth 100000 in
theorem ic_367 {c0 : Cond} : Cond.instanceMethod yJ0_charAt_5068e ∈ c0 :: lwC := List.mem_cons_of_mem _ (List.mem_append_left _ (List.mem_of_getElem? (i := 367) rfl))
set_option maxRecDepth 100000 in
theorem ic_368 {c0 : Cond} : Cond.selects RJ0 yJ0_charAt_5068e yJ0_charAt_5068e ∈ c0 :: lwC := List.mem_cons_of_mem _ (List.mem_append_left _ (List.mem_of_getElem? (i := 368) rfl))
set_option maxRecDepth 100000 in
theorem ic_369 {c0 : Cond} : Cond.code yX4_blame cX4_blame 2 (some .boolean) ∈ c0 :: lwC := List.mem_cons_of_mem _ (List.mem_append_left _ (List.mem_of_getElem? (i := 369) rfl))
set_option maxRecDepth 100000 in
theorem ic_370 {c0 : Cond} : Cond.fieldLink RX4 9 "SpellTurner$Reader" "faultKind" "I" ∈ c0 :: lwC := List.mem_cons_of_mem _ (List.mem_append_left _ (List.mem_of_getElem? (i := 370) rfl))
set_option maxRecDepth 100000 in
theorem ic_371 {c0 : Cond} : Cond.fieldLink RX4 15 "SpellTurner$Reader" "faultPlace" "I" ∈ c0 :: lwC := List.mem_cons_of_mem _ (List.mem_append_left _ (List.mem_of_getElem? (i := 371) rfl))
set_option maxRecDepth 100000 in
theorem ic_372 {c0 : Cond} : Cond.code yX4_hasRoom cX4_hasRoom 2 (some .boolean) ∈ c0 :: lwC := List.mem_cons_of_mem _ (List.mem_append_left _ (List.mem_of_getElem? (i := 372) rfl))
set_option maxRecDepth 100000 in
theorem ic_373 {c0 : Cond} : Cond.methodLink RX4 74 yX4_blame ∈ c0 :: lwC := List.mem_cons_of_mem _ (List.mem_append_left _ (List.mem_of_getElem? (i := 373) rfl))
set_option maxRecDepth 100000 in
theorem ic_374 {c0 : Cond} : Cond.instanceMethod yX4_blame ∈ c0 :: lwC := List.mem_cons_of_mem _ (List.mem_append_left _ (List.mem_of_getElem? (i := 374) rfl))
set_option maxRecDepth 100000 in
theorem ic_375 {c0 : Cond} : Cond.selects RX4 yX4_blame yX4_blame ∈ c0 :: lwC := List.mem_cons_of_mem _ (List.mem_append_left _ (List.mem_of_getElem? (i := 375) rfl))
set_option maxRecDepth 100000 in
theorem ic_376 {c0 : Cond} : Cond.code yX4_isNew cX4_isNew 2 (some .boolean) ∈ c0 :: lwC := List.mem_cons_of_mem _ (List.mem_append_left _ (List.mem_of_getElem? (i := 376) rfl))
set_option maxRecDepth 100000 in
theorem ic_377 {c0 : Cond} : Cond.code yX4_takeLetters cX4_takeLetters 2 (some .boolean) ∈ c0 :: lwC := List.mem_cons_of_mem _ (List.mem_append_left _ (List.mem_of_getElem? (i := 377) rfl))
set_option maxRecDepth 100000 in
theorem ic_378 {c0 : Cond} : Cond.methodLink RX4 46 yX4_nextToken ∈ c0 :: lwC := List.mem_cons_of_mem _ (List.mem_append_left _ (List.mem_of_getElem? (i := 378) rfl))
set_option maxRecDepth 100000 in
theorem ic_379 {c0 : Cond} : Cond.instanceMethod yX4_nextToken ∈ c0 :: lwC := List.mem_cons_of_mem _ (List.mem_append_left _ (List.mem_of_getElem? (i := 379) rfl))
set_option maxRecDepth 100000 in
theorem ic_380 {c0 : Cond} : Cond.selects RX4 yX4_nextToken yX4_nextToken ∈ c0 :: lwC := List.mem_cons_of_mem _ (List.mem_append_left _ (List.mem_of_getElem? (i := 380) rfl))
set_option maxRecDepth 100000 in
theorem ic_381 {c0 : Cond} : Cond.code yX4_takeNew cX4_takeNew 2 (some .boolean) ∈ c0 :: lwC := List.mem_cons_of_mem _ (List.mem_append_left _ (List.mem_of_getElem? (i := 381) rfl))
set_option maxRecDepth 100000 in
theorem ic_382 {c0 : Cond} : Cond.methodLink RX4 111 yX4_takeLetters ∈ c0 :: lwC := List.mem_cons_of_mem _ (List.mem_append_left _ (List.mem_of_getElem? (i := 382) rfl))
set_option maxRecDepth 100000 in
theorem ic_383 {c0 : Cond} : Cond.instanceMethod yX4_takeLetters ∈ c0 :: lwC := List.mem_cons_of_mem _ (List.mem_append_left _ (List.mem_of_getElem? (i := 383) rfl))
set_option maxRecDepth 100000 in
theorem ic_384 {c0 : Cond} : Cond.selects RX4 yX4_takeLetters yX4_takeLetters ∈ c0 :: lwC := List.mem_cons_of_mem _ (List.mem_append_left _ (List.mem_of_getElem? (i := 384) rfl))
set_option maxRecDepth 100000 in
theorem ic_385 {c0 : Cond} : Cond.methodLink RX4 165 yX10_find ∈ c0 :: lwC := List.mem_cons_of_mem _ (List.mem_append_left _ (List.mem_of_getElem? (i := 385) rfl))
set_option maxRecDepth 100000 in
theorem ic_386 {c0 : Cond} : Cond.methodLink RX4 147 yX4_isNew ∈ c0 :: lwC := List.mem_cons_of_mem _ (List.mem_append_left _ (List.mem_of_getElem? (i := 386) rfl))
set_option maxRecDepth 100000 in
theorem ic_387 {c0 : Cond} : Cond.instanceMethod yX4_isNew ∈ c0 :: lwC := List.mem_cons_of_mem _ (List.mem_append_left _ (List.mem_of_getElem? (i := 387) rfl))
set_option maxRecDepth 100000 in
theorem ic_388 {c0 : Cond} : Cond.selects RX4 yX4_isNew yX4_isNew ∈ c0 :: lwC := List.mem_cons_of_mem _ (List.mem_append_left _ (List.mem_of_getElem? (i := 388) rfl))
set_option maxRecDepth 100000 in
theorem ic_389 {c0 : Cond} : Cond.code yX4_takeTo cX4_takeTo 1 (some .boolean) ∈ c0 :: lwC := List.mem_cons_of_mem _ (List.mem_append_left _ (List.mem_of_getElem? (i := 389) rfl))
set_option maxRecDepth 100000 in
theorem ic_390 {c0 : Cond} : Cond.methodLink RX4 51 yX4_wordIs ∈ c0 :: lwC := List.mem_cons_of_mem _ (List.mem_append_left _ (List.mem_of_getElem? (i := 390) rfl))
set_option maxRecDepth 100000 in
theorem ic_391 {c0 : Cond} : Cond.instanceMethod yX4_wordIs ∈ c0 :: lwC := List.mem_cons_of_mem _ (List.mem_append_left _ (List.mem_of_getElem? (i := 391) rfl))
set_option maxRecDepth 100000 in
theorem ic_392 {c0 : Cond} : Cond.selects RX4 yX4_wordIs yX4_wordIs ∈ c0 :: lwC := List.mem_cons_of_mem _ (List.mem_append_left _ (List.mem_of_getElem? (i := 392) rfl))
set_option maxRecDepth 100000 in
theorem ic_393 {c0 : Cond} : Cond.code yX4_takeClose cX4_takeClose 1 (some .boolean) ∈ c0 :: lwC := List.mem_cons_of_mem _ (List.mem_append_left _ (List.mem_of_getElem? (i := 393) rfl))
set_option maxRecDepth 100000 in
theorem ic_394 {c0 : Cond} : Cond.code yX4_readKeep cX4_readKeep 2 none ∈ c0 :: lwC := List.mem_cons_of_mem _ (List.mem_append_left _ (List.mem_of_getElem? (i := 394) rfl))
set_option maxRecDepth 100000 in
theorem ic_395 {c0 : Cond} : Cond.fieldLink RX4 78 "SpellTurner$Reform" "entries" "LSpellTurner$WordRow;" ∈ c0 :: lwC := List.mem_cons_of_mem _ (List.mem_append_left _ (List.mem_of_getElem? (i := 395) rfl))
set_option maxRecDepth 100000 in
theorem ic_396 {c0 : Cond} : Cond.methodLink RX4 84 yX10_isFull ∈ c0 :: lwC := List.mem_cons_of_mem _ (List.mem_append_left _ (List.mem_of_getElem? (i := 396) rfl))
set_option maxRecDepth 100000 in
theorem ic_397 {c0 : Cond} : Cond.methodLink RX4 90 yX4_hasRoom ∈ c0 :: lwC := List.mem_cons_of_mem _ (List.mem_append_left _ (List.mem_of_getElem? (i := 397) rfl))
set_option maxRecDepth 100000 in
theorem ic_398 {c0 : Cond} : Cond.instanceMethod yX4_hasRoom ∈ c0 :: lwC := List.mem_cons_of_mem _ (List.mem_append_left _ (List.mem_of_getElem? (i := 398) rfl))
set_option maxRecDepth 100000 in
theorem ic_399 {c0 : Cond} : Cond.selects RX4 yX4_hasRoom yX4_hasRoom ∈ c0 :: lwC := List.mem_cons_of_mem _ (List.mem_append_left _ (List.mem_of_getElem? (i := 399) rfl))
set_option maxRecDepth 100000 in
theorem ic_400 {c0 : Cond} : Cond.methodLink RX4 94 yX4_takeNew ∈ c0 :: lwC := List.mem_cons_of_mem _ (List.mem_append_left _ (List.mem_of_getElem? (i := 400) rfl))
set_option maxRecDepth 100000 in
theorem ic_401 {c0 : Cond} : Cond.instanceMethod yX4_takeNew ∈ c0 :: lwC := List.mem_cons_of_mem _ (List.mem_append_left _ (List.mem_of_getElem? (i := 401) rfl))
set_option maxRecDepth 100000 in
theorem ic_402 {c0 : Cond} : Cond.selects RX4 yX4_takeNew yX4_takeNew ∈ c0 :: lwC := List.mem_cons_of_mem _ (List.mem_append_left _ (List.mem_of_getElem? (i := 402) rfl))
set_option maxRecDepth 100000 in
theorem ic_403 {c0 : Cond} : Cond.methodLink RX4 98 yX5_addKept ∈ c0 :: lwC := List.mem_cons_of_mem _ (List.mem_append_left _ (List.mem_of_getElem? (i := 403) rfl))
set_option maxRecDepth 100000 in
theorem ic_404 {c0 : Cond} : Cond.instanceMethod yX5_addKept ∈ c0 :: lwC := List.mem_cons_of_mem _ (List.mem_append_left _ (List.mem_of_getElem? (i := 404) rfl))
set_option maxRecDepth 100000 in
theorem ic_405 {c0 : Cond} : Cond.selects RX5 yX5_addKept yX5_addKept ∈ c0 :: lwC := List.mem_cons_of_mem _ (List.mem_append_left _ (List.mem_of_getElem? (i := 405) rfl))
set_option maxRecDepth 100000 in
theorem ic_406 {c0 : Cond} : Cond.methodLink RX4 102 yX4_takeClose ∈ c0 :: lwC := List.mem_cons_of_mem _ (List.mem_append_left _ (List.mem_of_getElem? (i := 406) rfl))
set_option maxRecDepth 100000 in
theorem ic_407 {c0 : Cond} : Cond.instanceMethod yX4_takeClose ∈ c0 :: lwC := List.mem_cons_of_mem _ (List.mem_append_left _ (List.mem_of_getElem? (i := 407) rfl))
set_option maxRecDepth 100000 in
theorem ic_408 {c0 : Cond} : Cond.selects RX4 yX4_takeClose yX4_takeClose ∈ c0 :: lwC := List.mem_cons_of_mem _ (List.mem_append_left _ (List.mem_of_getElem? (i := 408) rfl))
set_option maxRecDepth 100000 in
theorem ic_409 {c0 : Cond} : Cond.code yX4_readPart cX4_readPart 2 none ∈ c0 :: lwC := List.mem_cons_of_mem _ (List.mem_append_left _ (List.mem_of_getElem? (i := 409) rfl))
set_option maxRecDepth 100000 in
theorem ic_410 {c0 : Cond} : Cond.fieldLink RX4 120 "SpellTurner$Reform" "parts" "LSpellTurner$WordRow;" ∈ c0 :: lwC := List.mem_cons_of_mem _ (List.mem_append_left _ (List.mem_of_getElem? (i := 410) rfl))
set_option maxRecDepth 100000 in
theorem ic_411 {c0 : Cond} : Cond.methodLink RX4 117 yX10_add ∈ c0 :: lwC := List.mem_cons_of_mem _ (List.mem_append_left _ (List.mem_of_getElem? (i := 411) rfl))
set_option maxRecDepth 100000 in
theorem ic_412 {c0 : Cond} : Cond.code yX4_readList cX4_readList 2 none ∈ c0 :: lwC := List.mem_cons_of_mem _ (List.mem_append_left _ (List.mem_of_getElem? (i := 412) rfl))
set_option maxRecDepth 100000 in
theorem ic_413 {c0 : Cond} : Cond.methodLink RX4 105 yX5_addListed ∈ c0 :: lwC := List.mem_cons_of_mem _ (List.mem_append_left _ (List.mem_of_getElem? (i := 413) rfl))
set_option maxRecDepth 100000 in
theorem ic_414 {c0 : Cond} : Cond.instanceMethod yX5_addListed ∈ c0 :: lwC := List.mem_cons_of_mem _ (List.mem_append_left _ (List.mem_of_getElem? (i := 414) rfl))
set_option maxRecDepth 100000 in
theorem ic_415 {c0 : Cond} : Cond.selects RX5 yX5_addListed yX5_addListed ∈ c0 :: lwC := List.mem_cons_of_mem _ (List.mem_append_left _ (List.mem_of_getElem? (i := 415) rfl))
set_option maxRecDepth 100000 in
theorem ic_416 {c0 : Cond} : Cond.methodLink RX4 108 yX4_takeTo ∈ c0 :: lwC := List.mem_cons_of_mem _ (List.mem_append_left _ (List.mem_of_getElem? (i := 416) rfl))
set_option maxRecDepth 100000 in
theorem ic_417 {c0 : Cond} : Cond.instanceMethod yX4_takeTo ∈ c0 :: lwC := List.mem_cons_of_mem _ (List.mem_append_left _ (List.mem_of_getElem? (i := 417) rfl))
set_option maxRecDepth 100000 in
theorem ic_418 {c0 : Cond} : Cond.selects RX4 yX4_takeTo yX4_takeTo ∈ c0 :: lwC := List.mem_cons_of_mem _ (List.mem_append_left _ (List.mem_of_getElem? (i := 418) rfl))
set_option maxRecDepth 100000 in
theorem ic_419 {c0 : Cond} : Cond.fieldLink RX4 114 "SpellTurner$Reform" "becomes" "LSpellTurner$WordRow;" ∈ c0 :: lwC := List.mem_cons_of_mem _ (List.mem_append_left _ (List.mem_of_getElem? (i := 419) rfl))
set_option maxRecDepth 100000 in
theorem ic_420 {c0 : Cond} : Cond.code yX6_begin cX6_begin 1 none ∈ c0 :: lwC := List.mem_cons_of_mem _ (List.mem_append_left _ (List.mem_of_getElem? (i := 420) rfl))
set_option maxRecDepth 100000 in
theorem ic_421 {c0 : Cond} : Cond.fieldLink RX6 22 "SpellTurner$Scribe" "tally" "[I" ∈ c0 :: lwC := List.mem_cons_of_mem _ (List.mem_append_left _ (List.mem_of_getElem? (i := 421) rfl))
set_option maxRecDepth 100000 in
theorem ic_422 {c0 : Cond} : Cond.methodLink RX6 42 yJ7_fill_53178 ∈ c0 :: lwC := List.mem_cons_of_mem _ (List.mem_append_left _ (List.mem_of_getElem? (i := 422) rfl))
set_option maxRecDepth 100000 in
theorem ic_423 {c0 : Cond} : Cond.fieldLink RX6 33 "SpellTurner$Scribe" "size" "I" ∈ c0 :: lwC := List.mem_cons_of_mem _ (List.mem_append_left _ (List.mem_of_getElem? (i := 423) rfl))
set_option maxRecDepth 100000 in
theorem ic_424 {c0 : Cond} : Cond.fieldLink RX6 36 "SpellTurner$Scribe" "copied" "I" ∈ c0 :: lwC := List.mem_cons_of_mem _ (List.mem_append_left _ (List.mem_of_getElem? (i := 424) rfl))
set_option maxRecDepth 100000 in
theorem ic_425 {c0 : Cond} : Cond.fieldLink RX6 39 "SpellTurner$Scribe" "fits" "Z" ∈ c0 :: lwC := List.mem_cons_of_mem _ (List.mem_append_left _ (List.mem_of_getElem? (i := 425) rfl))
set_option maxRecDepth 100000 in
theorem ic_426 {c0 : Cond} : Cond.code yX6_leaveName cX6_leaveName 1 none ∈ c0 :: lwC := List.mem_cons_of_mem _ (List.mem_append_left _ (List.mem_of_getElem? (i := 426) rfl))
set_option maxRecDepth 100000 in
theorem ic_427 {c0 : Cond} : Cond.code yX6_leaveLost cX6_leaveLost 1 none ∈ c0 :: lwC := List.mem_cons_of_mem _ (List.mem_append_left _ (List.mem_of_getElem? (i := 427) rfl))
set_option maxRecDepth 100000 in
theorem ic_428 {c0 : Cond} : Cond.code yX6_append cX6_append 4 none ∈ c0 :: lwC := List.mem_cons_of_mem _ (List.mem_append_left _ (List.mem_of_getElem? (i := 428) rfl))
set_option maxRecDepth 100000 in
theorem ic_429 {c0 : Cond} : Cond.fieldLink RX6 15 "SpellTurner$Scribe" "page" "[B" ∈ c0 :: lwC := List.mem_cons_of_mem _ (List.mem_append_left _ (List.mem_of_getElem? (i := 429) rfl))
set_option maxRecDepth 100000 in
theorem ic_430 {c0 : Cond} : Cond.methodLink RX6 81 arraycopyName ∈ c0 :: lwC := List.mem_cons_of_mem _ (List.mem_append_left _ (List.mem_of_getElem? (i := 430) rfl))
set_option maxRecDepth 100000 in
theorem ic_431 {c0 : Cond} : Cond.code yX6_put cX6_put 3 none ∈ c0 :: lwC := List.mem_cons_of_mem _ (List.mem_append_left _ (List.mem_of_getElem? (i := 431) rfl))
set_option maxRecDepth 100000 in
theorem ic_432 {c0 : Cond} : Cond.fieldLink RX6 48 "SpellTurner$WordRow" "count" "I" ∈ c0 :: lwC := List.mem_cons_of_mem _ (List.mem_append_left _ (List.mem_of_getElem? (i := 432) rfl))
set_option maxRecDepth 100000 in
theorem ic_433 {c0 : Cond} : Cond.fieldLink RX6 56 "SpellTurner$WordRow" "lengths" "[I" ∈ c0 :: lwC := List.mem_cons_of_mem _ (List.mem_append_left _ (List.mem_of_getElem? (i := 433) rfl))
set_option maxRecDepth 100000 in
theorem ic_434 {c0 : Cond} : Cond.fieldLink RX6 59 "SpellTurner$TextWords" "length" "I" ∈ c0 :: lwC := List.mem_cons_of_mem _ (List.mem_append_left _ (List.mem_of_getElem? (i := 434) rfl))
set_option maxRecDepth 100000 in
theorem ic_435 {c0 : Cond} : Cond.fieldLink RX6 64 "SpellTurner$TextWords" "text" "[B" ∈ c0 :: lwC := List.mem_cons_of_mem _ (List.mem_append_left _ (List.mem_of_getElem? (i := 435) rfl))
set_option maxRecDepth 100000 in
theorem ic_436 {c0 : Cond} : Cond.fieldLink RX6 67 "SpellTurner$TextWords" "start" "I" ∈ c0 :: lwC := List.mem_cons_of_mem _ (List.mem_append_left _ (List.mem_of_getElem? (i := 436) rfl))
set_option maxRecDepth 100000 in
theorem ic_437 {c0 : Cond} : Cond.methodLink RX6 74 yX6_append ∈ c0 :: lwC := List.mem_cons_of_mem _ (List.mem_append_left _ (List.mem_of_getElem? (i := 437) rfl))
set_option maxRecDepth 100000 in
theorem ic_438 {c0 : Cond} : Cond.instanceMethod yX6_append ∈ c0 :: lwC := List.mem_cons_of_mem _ (List.mem_append_left _ (List.mem_of_getElem? (i := 438) rfl))
set_option maxRecDepth 100000 in
theorem ic_439 {c0 : Cond} : Cond.selects RX6 yX6_append yX6_append ∈ c0 :: lwC := List.mem_cons_of_mem _ (List.mem_append_left _ (List.mem_of_getElem? (i := 439) rfl))
set_option maxRecDepth 100000 in
theorem ic_440 {c0 : Cond} : Cond.fieldLink RX6 78 "SpellTurner$WordRow" "letters" "[B" ∈ c0 :: lwC := List.mem_cons_of_mem _ (List.mem_append_left _ (List.mem_of_getElem? (i := 440) rfl))
set_option maxRecDepth 100000 in
theorem ic_441 {c0 : Cond} : Cond.methodLink RX6 70 yX10_standsIn ∈ c0 :: lwC := List.mem_cons_of_mem _ (List.mem_append_left _ (List.mem_of_getElem? (i := 441) rfl))
set_option maxRecDepth 100000 in
theorem ic_442 {c0 : Cond} : Cond.methodLink RX6 53 yX6_leaveLost ∈ c0 :: lwC := List.mem_cons_of_mem _ (List.mem_append_left _ (List.mem_of_getElem? (i := 442) rfl))
set_option maxRecDepth 100000 in
theorem ic_443 {c0 : Cond} : Cond.instanceMethod yX6_leaveLost ∈ c0 :: lwC := List.mem_cons_of_mem _ (List.mem_append_left _ (List.mem_of_getElem? (i := 443) rfl))
set_option maxRecDepth 100000 in
theorem ic_444 {c0 : Cond} : Cond.selects RX6 yX6_leaveLost yX6_leaveLost ∈ c0 :: lwC := List.mem_cons_of_mem _ (List.mem_append_left _ (List.mem_of_getElem? (i := 444) rfl))
set_option maxRecDepth 100000 in
theorem ic_445 {c0 : Cond} : Cond.code yX6_finish cX6_finish 5 (some .int) ∈ c0 :: lwC := List.mem_cons_of_mem _ (List.mem_append_left _ (List.mem_of_getElem? (i := 445) rfl))
set_option maxRecDepth 100000 in
theorem ic_446 {c0 : Cond} : Cond.code yX8_begin cX8_begin 3 none ∈ c0 :: lwC := List.mem_cons_of_mem _ (List.mem_append_left _ (List.mem_of_getElem? (i := 446) rfl))
set_option maxRecDepth 100000 in
theorem ic_447 {c0 : Cond} : Cond.fieldLink RX8 25 "SpellTurner$TextWords" "text" "[B" ∈ c0 :: lwC := List.mem_cons_of_mem _ (List.mem_append_left _ (List.mem_of_getElem? (i := 447) rfl))
set_option maxRecDepth 100000 in
theorem ic_448 {c0 : Cond} : Cond.methodLink RX8 38 Lib.Math.min.name ∈ c0 :: lwC := List.mem_cons_of_mem _ (List.mem_append_left _ (List.mem_of_getElem? (i := 448) rfl))
set_option maxRecDepth 100000 in
theorem ic_449 {c0 : Cond} : Cond.fieldLink RX8 29 "SpellTurner$TextWords" "size" "I" ∈ c0 :: lwC := List.mem_cons_of_mem _ (List.mem_append_left _ (List.mem_of_getElem? (i := 449) rfl))
set_option maxRecDepth 100000 in
theorem ic_450 {c0 : Cond} : Cond.fieldLink RX8 32 "SpellTurner$TextWords" "at" "I" ∈ c0 :: lwC := List.mem_cons_of_mem _ (List.mem_append_left _ (List.mem_of_getElem? (i := 450) rfl))
set_option maxRecDepth 100000 in
theorem ic_451 {c0 : Cond} : Cond.fieldLink RX8 18 "SpellTurner$TextWords" "lineNumber" "I" ∈ c0 :: lwC := List.mem_cons_of_mem _ (List.mem_append_left _ (List.mem_of_getElem? (i := 451) rfl))
set_option maxRecDepth 100000 in
theorem ic_452 {c0 : Cond} : Cond.fieldLink RX8 35 "SpellTurner$TextWords" "quoted" "Z" ∈ c0 :: lwC := List.mem_cons_of_mem _ (List.mem_append_left _ (List.mem_of_getElem? (i := 452) rfl))
set_option maxRecDepth 100000 in
theorem ic_453 {c0 : Cond} : Cond.code yX8_isLetter cX8_isLetter 1 (some .boolean) ∈ c0 :: lwC := List.mem_cons_of_mem _ (List.mem_append_left _ (List.mem_of_getElem? (i := 453) rfl))
set_option maxRecDepth 100000 in
theorem ic_454 {c0 : Cond} : Cond.methodLink RX8 56 yX10_isSmall ∈ c0 :: lwC := List.mem_cons_of_mem _ (List.mem_append_left _ (List.mem_of_getElem? (i := 454) rfl))
set_option maxRecDepth 100000 in
theorem ic_455 {c0 : Cond} : Cond.methodLink RX8 51 yX10_isCapital ∈ c0 :: lwC := List.mem_cons_of_mem _ (List.mem_append_left _ (List.mem_of_getElem? (i := 455) rfl))
set_option maxRecDepth 100000 in
theorem ic_456 {c0 : Cond} : Cond.static yX10_isCapital ∈ c0 :: lwC := List.mem_cons_of_mem _ (List.mem_append_left _ (List.mem_of_getElem? (i := 456) rfl))
set_option maxRecDepth 100000 in
theorem ic_457 {c0 : Cond} : Cond.code yX8_takeWord cX8_takeWord 1 none ∈ c0 :: lwC := List.mem_cons_of_mem _ (List.mem_append_left _ (List.mem_of_getElem? (i := 457) rfl))
set_option maxRecDepth 100000 in
theorem ic_458 {c0 : Cond} : Cond.fieldLink RX8 9 "SpellTurner$TextWords" "start" "I" ∈ c0 :: lwC := List.mem_cons_of_mem _ (List.mem_append_left _ (List.mem_of_getElem? (i := 458) rfl))
set_option maxRecDepth 100000 in
theorem ic_459 {c0 : Cond} : Cond.fieldLink RX8 21 "SpellTurner$TextWords" "isName" "Z" ∈ c0 :: lwC := List.mem_cons_of_mem _ (List.mem_append_left _ (List.mem_of_getElem? (i := 459) rfl))
set_option maxRecDepth 100000 in
theorem ic_460 {c0 : Cond} : Cond.fieldLink RX8 15 "SpellTurner$TextWords" "length" "I" ∈ c0 :: lwC := List.mem_cons_of_mem _ (List.mem_append_left _ (List.mem_of_getElem? (i := 460) rfl))
set_option maxRecDepth 100000 in
theorem ic_461 {c0 : Cond} : Cond.methodLink RX8 44 yX8_isLetter ∈ c0 :: lwC := List.mem_cons_of_mem _ (List.mem_append_left _ (List.mem_of_getElem? (i := 461) rfl))
set_option maxRecDepth 100000 in
theorem ic_462 {c0 : Cond} : Cond.static yX8_isLetter ∈ c0 :: lwC := List.mem_cons_of_mem _ (List.mem_append_left _ (List.mem_of_getElem? (i := 462) rfl))
set_option maxRecDepth 100000 in
theorem ic_463 {c0 : Cond} : Cond.initialized RX8 ∈ c0 :: lwC := List.mem_cons_of_mem _ (List.mem_append_left _ (List.mem_of_getElem? (i := 463) rfl))
set_option maxRecDepth 100000 in
theorem ic_464 {c0 : Cond} : Cond.code yX8_next cX8_next 2 (some .boolean) ∈ c0 :: lwC := List.mem_cons_of_mem _ (List.mem_append_left _ (List.mem_of_getElem? (i := 464) rfl))
set_option maxRecDepth 100000 in
theorem ic_465 {c0 : Cond} : Cond.methodLink RX8 48 yX8_takeWord ∈ c0 :: lwC := List.mem_cons_of_mem _ (List.mem_append_left _ (List.mem_of_getElem? (i := 465) rfl))
set_option maxRecDepth 100000 in
theorem ic_466 {c0 : Cond} : Cond.instanceMethod yX8_takeWord ∈ c0 :: lwC := List.mem_cons_of_mem _ (List.mem_append_left _ (List.mem_of_getElem? (i := 466) rfl))
set_option maxRecDepth 100000 in
theorem ic_467 {c0 : Cond} : Cond.selects RX8 yX8_takeWord yX8_takeWord ∈ c0 :: lwC := List.mem_cons_of_mem _ (List.mem_append_left _ (List.mem_of_getElem? (i := 467) rfl))
set_option maxRecDepth 100000 in
theorem ic_469 {c0 : Cond} : Cond.methodLink RX11 239 yX7_hasZero ∈ c0 :: lwC := List.mem_cons_of_mem _ (List.mem_append_left _ (List.mem_of_getElem? (i := 469) rfl))
set_option maxRecDepth 100000 in
theorem ic_470 {c0 : Cond} : Cond.instanceMethod yX7_hasZero ∈ c0 :: lwC := List.mem_cons_of_mem _ (List.mem_append_left _ (List.mem_of_getElem? (i := 470) rfl))
set_option maxRecDepth 100000 in
theorem ic_471 {c0 : Cond} : Cond.selects RX7 yX7_hasZero yX7_hasZero ∈ c0 :: lwC := List.mem_cons_of_mem _ (List.mem_append_left _ (List.mem_of_getElem? (i := 471) rfl))
set_option maxRecDepth 100000 in
theorem ic_472 {c0 : Cond} : Cond.methodLink RX11 242 yX8_begin ∈ c0 :: lwC := List.mem_cons_of_mem _ (List.mem_append_left _ (List.mem_of_getElem? (i := 472) rfl))
set_option maxRecDepth 100000 in
theorem ic_473 {c0 : Cond} : Cond.instanceMethod yX8_begin ∈ c0 :: lwC := List.mem_cons_of_mem _ (List.mem_append_left _ (List.mem_of_getElem? (i := 473) rfl))
set_option maxRecDepth 100000 in
theorem ic_474 {c0 : Cond} : Cond.selects RX8 yX8_begin yX8_begin ∈ c0 :: lwC := List.mem_cons_of_mem _ (List.mem_append_left _ (List.mem_of_getElem? (i := 474) rfl))
set_option maxRecDepth 100000 in
theorem ic_475 {c0 : Cond} : Cond.methodLink RX11 246 yX6_begin ∈ c0 :: lwC := List.mem_cons_of_mem _ (List.mem_append_left _ (List.mem_of_getElem? (i := 475) rfl))
set_option maxRecDepth 100000 in
theorem ic_476 {c0 : Cond} : Cond.instanceMethod yX6_begin ∈ c0 :: lwC := List.mem_cons_of_mem _ (List.mem_append_left _ (List.mem_of_getElem? (i := 476) rfl))
set_option maxRecDepth 100000 in
theorem ic_477 {c0 : Cond} : Cond.selects RX6 yX6_begin yX6_begin ∈ c0 :: lwC := List.mem_cons_of_mem _ (List.mem_append_left _ (List.mem_of_getElem? (i := 477) rfl))
set_option maxRecDepth 100000 in
theorem ic_478 {c0 : Cond} : Cond.methodLink RX11 269 yX6_finish ∈ c0 :: lwC := List.mem_cons_of_mem _ (List.mem_append_left _ (List.mem_of_getElem? (i := 478) rfl))
set_option maxRecDepth 100000 in
theorem ic_479 {c0 : Cond} : Cond.instanceMethod yX6_finish ∈ c0 :: lwC := List.mem_cons_of_mem _ (List.mem_append_left _ (List.mem_of_getElem? (i := 479) rfl))
set_option maxRecDepth 100000 in
theorem ic_480 {c0 : Cond} : Cond.selects RX6 yX6_finish yX6_finish ∈ c0 :: lwC := List.mem_cons_of_mem _ (List.mem_append_left _ (List.mem_of_getElem? (i := 480) rfl))
set_option maxRecDepth 100000 in
theorem ic_481 {c0 : Cond} : Cond.methodLink RX11 248 yX8_next ∈ c0 :: lwC := List.mem_cons_of_mem _ (List.mem_append_left _ (List.mem_of_getElem? (i := 481) rfl))
set_option maxRecDepth 100000 in
theorem ic_482 {c0 : Cond} : Cond.instanceMethod yX8_next ∈ c0 :: lwC := List.mem_cons_of_mem _ (List.mem_append_left _ (List.mem_of_getElem? (i := 482) rfl))
set_option maxRecDepth 100000 in
theorem ic_483 {c0 : Cond} : Cond.selects RX8 yX8_next yX8_next ∈ c0 :: lwC := List.mem_cons_of_mem _ (List.mem_append_left _ (List.mem_of_getElem? (i := 483) rfl))
set_option maxRecDepth 100000 in
theorem ic_484 {c0 : Cond} : Cond.fieldLink RX11 251 "SpellTurner$TextWords" "isName" "Z" ∈ c0 :: lwC := List.mem_cons_of_mem _ (List.mem_append_left _ (List.mem_of_getElem? (i := 484) rfl))
set_option maxRecDepth 100000 in
theorem ic_485 {c0 : Cond} : Cond.methodLink RX11 265 yX6_put ∈ c0 :: lwC := List.mem_cons_of_mem _ (List.mem_append_left _ (List.mem_of_getElem? (i := 485) rfl))
set_option maxRecDepth 100000 in
theorem ic_486 {c0 : Cond} : Cond.instanceMethod yX6_put ∈ c0 :: lwC := List.mem_cons_of_mem _ (List.mem_append_left _ (List.mem_of_getElem? (i := 486) rfl))
set_option maxRecDepth 100000 in
theorem ic_487 {c0 : Cond} : Cond.selects RX6 yX6_put yX6_put ∈ c0 :: lwC := List.mem_cons_of_mem _ (List.mem_append_left _ (List.mem_of_getElem? (i := 487) rfl))
set_option maxRecDepth 100000 in
theorem ic_488 {c0 : Cond} : Cond.methodLink RX11 259 yX6_leaveLost ∈ c0 :: lwC := List.mem_cons_of_mem _ (List.mem_append_left _ (List.mem_of_getElem? (i := 488) rfl))
set_option maxRecDepth 100000 in
theorem ic_489 {c0 : Cond} : Cond.methodLink RX11 255 yX6_leaveName ∈ c0 :: lwC := List.mem_cons_of_mem _ (List.mem_append_left _ (List.mem_of_getElem? (i := 489) rfl))
set_option maxRecDepth 100000 in
theorem ic_490 {c0 : Cond} : Cond.instanceMethod yX6_leaveName ∈ c0 :: lwC := List.mem_cons_of_mem _ (List.mem_append_left _ (List.mem_of_getElem? (i := 490) rfl))
set_option maxRecDepth 100000 in
theorem ic_491 {c0 : Cond} : Cond.selects RX6 yX6_leaveName yX6_leaveName ∈ c0 :: lwC := List.mem_cons_of_mem _ (List.mem_append_left _ (List.mem_of_getElem? (i := 491) rfl))
set_option maxRecDepth 100000 in
theorem ic_492 {c0 : Cond} : Cond.code yX10_init cX10_init 3 none ∈ c0 :: lwC := List.mem_cons_of_mem _ (List.mem_append_left _ (List.mem_of_getElem? (i := 492) rfl))
set_option maxRecDepth 100000 in
theorem ic_493 {c0 : Cond} : Cond.methodLink RX10 3 objectInit ∈ c0 :: lwC := List.mem_cons_of_mem _ (List.mem_append_left _ (List.mem_of_getElem? (i := 493) rfl))
set_option maxRecDepth 100000 in
theorem ic_494 {c0 : Cond} : Cond.instanceMethod objectInit ∈ c0 :: lwC := List.mem_cons_of_mem _ (List.mem_append_left _ (List.mem_of_getElem? (i := 494) rfl))
set_option maxRecDepth 100000 in
theorem ic_495 {c0 : Cond} : Cond.code objectInit ⟨#[0xb1]⟩ 1 none ∈ c0 :: lwC := List.mem_cons_of_mem _ (List.mem_append_left _ (List.mem_of_getElem? (i := 495) rfl))
set_option maxRecDepth 100000 in
theorem ic_496 {c0 : Cond} : Cond.arrayClass .byte ∈ c0 :: lwC := List.mem_cons_of_mem _ (List.mem_append_left _ (List.mem_of_getElem? (i := 496) rfl))
set_option maxRecDepth 100000 in
theorem ic_497 {c0 : Cond} : Cond.arrayClass .int ∈ c0 :: lwC := List.mem_cons_of_mem _ (List.mem_append_left _ (List.mem_of_getElem? (i := 497) rfl))
set_option maxRecDepth 100000 in
theorem ic_498 {c0 : Cond} : Cond.code yX1_init cX1_init 3 none ∈ c0 :: lwC := List.mem_cons_of_mem _ (List.mem_append_left _ (List.mem_of_getElem? (i := 498) rfl))
set_option maxRecDepth 100000 in
theorem ic_499 {c0 : Cond} : Cond.methodLink RX1 1 objectInit ∈ c0 :: lwC := List.mem_cons_of_mem _ (List.mem_append_left _ (List.mem_of_getElem? (i := 499) rfl))
set_option maxRecDepth 100000 in
theorem ic_500 {c0 : Cond} : Cond.fieldLink RX1 26 "SpellTurner$Law" "second" "[B" ∈ c0 :: lwC := List.mem_cons_of_mem _ (List.mem_append_left _ (List.mem_of_getElem? (i := 500) rfl))
set_option maxRecDepth 100000 in
theorem ic_501 {c0 : Cond} : Cond.code yX5_init cX5_init 1 none ∈ c0 :: lwC := List.mem_cons_of_mem _ (List.mem_append_left _ (List.mem_of_getElem? (i := 501) rfl))
set_option maxRecDepth 100000 in
theorem ic_502 {c0 : Cond} : Cond.methodLink RX5 3 objectInit ∈ c0 :: lwC := List.mem_cons_of_mem _ (List.mem_append_left _ (List.mem_of_getElem? (i := 502) rfl))
set_option maxRecDepth 100000 in
theorem ic_503 {c0 : Cond} : Cond.classLink RX5 15 RX1 ∈ c0 :: lwC := List.mem_cons_of_mem _ (List.mem_append_left _ (List.mem_of_getElem? (i := 503) rfl))
set_option maxRecDepth 100000 in
theorem ic_504 {c0 : Cond} : Cond.classLink RX5 24 RX10 ∈ c0 :: lwC := List.mem_cons_of_mem _ (List.mem_append_left _ (List.mem_of_getElem? (i := 504) rfl))
set_option maxRecDepth 100000 in
theorem ic_505 {c0 : Cond} : Cond.instantiable RX10 4 ∈ c0 :: lwC := List.mem_cons_of_mem _ (List.mem_append_left _ (List.mem_of_getElem? (i := 505) rfl))
set_option maxRecDepth 100000 in
theorem ic_506 {c0 : Cond} : Cond.methodLink RX5 26 yX10_init ∈ c0 :: lwC := List.mem_cons_of_mem _ (List.mem_append_left _ (List.mem_of_getElem? (i := 506) rfl))
set_option maxRecDepth 100000 in
theorem ic_507 {c0 : Cond} : Cond.instanceMethod yX10_init ∈ c0 :: lwC := List.mem_cons_of_mem _ (List.mem_append_left _ (List.mem_of_getElem? (i := 507) rfl))
set_option maxRecDepth 100000 in
theorem ic_508 {c0 : Cond} : Cond.arrayClass .boolean ∈ c0 :: lwC := List.mem_cons_of_mem _ (List.mem_append_left _ (List.mem_of_getElem? (i := 508) rfl))
set_option maxRecDepth 100000 in
theorem ic_509 {c0 : Cond} : Cond.fieldLink RX5 49 "SpellTurner$Reform" "partHolds" "[Z" ∈ c0 :: lwC := List.mem_cons_of_mem _ (List.mem_append_left _ (List.mem_of_getElem? (i := 509) rfl))
set_option maxRecDepth 100000 in
theorem ic_510 {c0 : Cond} : Cond.arrayClass .long ∈ c0 :: lwC := List.mem_cons_of_mem _ (List.mem_append_left _ (List.mem_of_getElem? (i := 510) rfl))
set_option maxRecDepth 100000 in
theorem ic_511 {c0 : Cond} : Cond.fieldLink RX5 52 "SpellTurner$Reform" "partUses" "[J" ∈ c0 :: lwC := List.mem_cons_of_mem _ (List.mem_append_left _ (List.mem_of_getElem? (i := 511) rfl))
set_option maxRecDepth 100000 in
theorem ic_512 {c0 : Cond} : Cond.code yJ7_checkLength_df160 cJ7_checkLength_df160 2 none ∈ c0 :: lwC := List.mem_cons_of_mem _ (List.mem_append_left _ (List.mem_of_getElem? (i := 512) rfl))
set_option maxRecDepth 100000 in
theorem ic_513 {c0 : Cond} : Cond.code yJ7_copyOfRangeByte_39247 cJ7_copyOfRangeByte_39247 5 (some (.array .byte)) ∈ c0 :: lwC := List.mem_cons_of_mem _ (List.mem_append_left _ (List.mem_of_getElem? (i := 513) rfl))
set_option maxRecDepth 100000 in
theorem ic_514 {c0 : Cond} : Cond.methodLink RJ7 343 yJ7_checkLength_df160 ∈ c0 :: lwC := List.mem_cons_of_mem _ (List.mem_append_left _ (List.mem_of_getElem? (i := 514) rfl))
set_option maxRecDepth 100000 in
theorem ic_515 {c0 : Cond} : Cond.static yJ7_checkLength_df160 ∈ c0 :: lwC := List.mem_cons_of_mem _ (List.mem_append_left _ (List.mem_of_getElem? (i := 515) rfl))
set_option maxRecDepth 100000 in
theorem ic_516 {c0 : Cond} : Cond.methodLink RJ7 304 Lib.Math.min.name ∈ c0 :: lwC := List.mem_cons_of_mem _ (List.mem_append_left _ (List.mem_of_getElem? (i := 516) rfl))
set_option maxRecDepth 100000 in
theorem ic_517 {c0 : Cond} : Cond.methodLink RJ7 150 arraycopyName ∈ c0 :: lwC := List.mem_cons_of_mem _ (List.mem_append_left _ (List.mem_of_getElem? (i := 517) rfl))
set_option maxRecDepth 100000 in
theorem ic_518 {c0 : Cond} : Cond.code yJ7_copyOfRange_39247 cJ7_copyOfRange_39247 3 (some (.array .byte)) ∈ c0 :: lwC := List.mem_cons_of_mem _ (List.mem_append_left _ (List.mem_of_getElem? (i := 518) rfl))
set_option maxRecDepth 100000 in
theorem ic_519 {c0 : Cond} : Cond.methodLink RJ7 339 yJ7_copyOfRangeByte_39247 ∈ c0 :: lwC := List.mem_cons_of_mem _ (List.mem_append_left _ (List.mem_of_getElem? (i := 519) rfl))
set_option maxRecDepth 100000 in
theorem ic_520 {c0 : Cond} : Cond.static yJ7_copyOfRangeByte_39247 ∈ c0 :: lwC := List.mem_cons_of_mem _ (List.mem_append_left _ (List.mem_of_getElem? (i := 520) rfl))
set_option maxRecDepth 100000 in
theorem ic_521 {c0 : Cond} : Cond.code yX4_letters cX4_letters 1 (some (.array .byte)) ∈ c0 :: lwC := List.mem_cons_of_mem _ (List.mem_append_left _ (List.mem_of_getElem? (i := 521) rfl))
set_option maxRecDepth 100000 in
theorem ic_522 {c0 : Cond} : Cond.methodLink RX4 171 yJ7_copyOfRange_39247 ∈ c0 :: lwC := List.mem_cons_of_mem _ (List.mem_append_left _ (List.mem_of_getElem? (i := 522) rfl))
set_option maxRecDepth 100000 in
theorem ic_523 {c0 : Cond} : Cond.static yJ7_copyOfRange_39247 ∈ c0 :: lwC := List.mem_cons_of_mem _ (List.mem_append_left _ (List.mem_of_getElem? (i := 523) rfl))
set_option maxRecDepth 100000 in
theorem ic_524 {c0 : Cond} : Cond.code yX4_readSide cX4_readSide 2 none ∈ c0 :: lwC := List.mem_cons_of_mem _ (List.mem_append_left _ (List.mem_of_getElem? (i := 524) rfl))
set_option maxRecDepth 100000 in
theorem ic_525 {c0 : Cond} : Cond.fieldLink RX4 162 "SpellTurner$Law" "behind" "[B" ∈ c0 :: lwC := List.mem_cons_of_mem _ (List.mem_append_left _ (List.mem_of_getElem? (i := 525) rfl))
set_option maxRecDepth 100000 in
theorem ic_526 {c0 : Cond} : Cond.methodLink RX4 126 yX4_letters ∈ c0 :: lwC := List.mem_cons_of_mem _ (List.mem_append_left _ (List.mem_of_getElem? (i := 526) rfl))
set_option maxRecDepth 100000 in
theorem ic_527 {c0 : Cond} : Cond.instanceMethod yX4_letters ∈ c0 :: lwC := List.mem_cons_of_mem _ (List.mem_append_left _ (List.mem_of_getElem? (i := 527) rfl))
set_option maxRecDepth 100000 in
theorem ic_528 {c0 : Cond} : Cond.selects RX4 yX4_letters yX4_letters ∈ c0 :: lwC := List.mem_cons_of_mem _ (List.mem_append_left _ (List.mem_of_getElem? (i := 528) rfl))
set_option maxRecDepth 100000 in
theorem ic_529 {c0 : Cond} : Cond.fieldLink RX4 157 "SpellTurner$Law" "ahead" "[B" ∈ c0 :: lwC := List.mem_cons_of_mem _ (List.mem_append_left _ (List.mem_of_getElem? (i := 529) rfl))
set_option maxRecDepth 100000 in
theorem ic_530 {c0 : Cond} : Cond.fieldLink RX4 152 "SpellTurner$Law" "atEnd" "Z" ∈ c0 :: lwC := List.mem_cons_of_mem _ (List.mem_append_left _ (List.mem_of_getElem? (i := 530) rfl))
set_option maxRecDepth 100000 in
theorem ic_531 {c0 : Cond} : Cond.fieldLink RX4 143 "SpellTurner$Law" "atStart" "Z" ∈ c0 :: lwC := List.mem_cons_of_mem _ (List.mem_append_left _ (List.mem_of_getElem? (i := 531) rfl))
set_option maxRecDepth 100000 in
theorem ic_532 {c0 : Cond} : Cond.code yX4_readLaw cX4_readLaw 5 none ∈ c0 :: lwC := List.mem_cons_of_mem _ (List.mem_append_left _ (List.mem_of_getElem? (i := 532) rfl))
set_option maxRecDepth 100000 in
theorem ic_533 {c0 : Cond} : Cond.fieldLink RX4 123 "SpellTurner$Reform" "lawCount" "I" ∈ c0 :: lwC := List.mem_cons_of_mem _ (List.mem_append_left _ (List.mem_of_getElem? (i := 533) rfl))
set_option maxRecDepth 100000 in
theorem ic_534 {c0 : Cond} : Cond.classLink RX4 130 RX1 ∈ c0 :: lwC := List.mem_cons_of_mem _ (List.mem_append_left _ (List.mem_of_getElem? (i := 534) rfl))
set_option maxRecDepth 100000 in
theorem ic_535 {c0 : Cond} : Cond.instantiable RX1 6 ∈ c0 :: lwC := List.mem_cons_of_mem _ (List.mem_append_left _ (List.mem_of_getElem? (i := 535) rfl))
set_option maxRecDepth 100000 in
theorem ic_536 {c0 : Cond} : Cond.methodLink RX4 132 yX1_init ∈ c0 :: lwC := List.mem_cons_of_mem _ (List.mem_append_left _ (List.mem_of_getElem? (i := 536) rfl))
set_option maxRecDepth 100000 in
theorem ic_537 {c0 : Cond} : Cond.instanceMethod yX1_init ∈ c0 :: lwC := List.mem_cons_of_mem _ (List.mem_append_left _ (List.mem_of_getElem? (i := 537) rfl))
set_option maxRecDepth 100000 in
theorem ic_538 {c0 : Cond} : Cond.methodLink RX4 139 yX4_readSide ∈ c0 :: lwC := List.mem_cons_of_mem _ (List.mem_append_left _ (List.mem_of_getElem? (i := 538) rfl))
set_option maxRecDepth 100000 in
theorem ic_539 {c0 : Cond} : Cond.instanceMethod yX4_readSide ∈ c0 :: lwC := List.mem_cons_of_mem _ (List.mem_append_left _ (List.mem_of_getElem? (i := 539) rfl))
set_option maxRecDepth 100000 in
theorem ic_540 {c0 : Cond} : Cond.selects RX4 yX4_readSide yX4_readSide ∈ c0 :: lwC := List.mem_cons_of_mem _ (List.mem_append_left _ (List.mem_of_getElem? (i := 540) rfl))
set_option maxRecDepth 100000 in
theorem ic_541 {c0 : Cond} : Cond.methodLink RX4 135 yX5_addLaw ∈ c0 :: lwC := List.mem_cons_of_mem _ (List.mem_append_left _ (List.mem_of_getElem? (i := 541) rfl))
set_option maxRecDepth 100000 in
theorem ic_542 {c0 : Cond} : Cond.instanceMethod yX5_addLaw ∈ c0 :: lwC := List.mem_cons_of_mem _ (List.mem_append_left _ (List.mem_of_getElem? (i := 542) rfl))
set_option maxRecDepth 100000 in
theorem ic_543 {c0 : Cond} : Cond.selects RX5 yX5_addLaw yX5_addLaw ∈ c0 :: lwC := List.mem_cons_of_mem _ (List.mem_append_left _ (List.mem_of_getElem? (i := 543) rfl))
set_option maxRecDepth 100000 in
theorem ic_544 {c0 : Cond} : Cond.code yX4_read cX4_read 5 none ∈ c0 :: lwC := List.mem_cons_of_mem _ (List.mem_append_left _ (List.mem_of_getElem? (i := 544) rfl))
set_option maxRecDepth 100000 in
theorem ic_545 {c0 : Cond} : Cond.methodLink RX4 40 Lib.Math.min.name ∈ c0 :: lwC := List.mem_cons_of_mem _ (List.mem_append_left _ (List.mem_of_getElem? (i := 545) rfl))
set_option maxRecDepth 100000 in
theorem ic_546 {c0 : Cond} : Cond.methodLink RX4 71 yX4_readLaw ∈ c0 :: lwC := List.mem_cons_of_mem _ (List.mem_append_left _ (List.mem_of_getElem? (i := 546) rfl))
set_option maxRecDepth 100000 in
theorem ic_547 {c0 : Cond} : Cond.instanceMethod yX4_readLaw ∈ c0 :: lwC := List.mem_cons_of_mem _ (List.mem_append_left _ (List.mem_of_getElem? (i := 547) rfl))
set_option maxRecDepth 100000 in
theorem ic_548 {c0 : Cond} : Cond.selects RX4 yX4_readLaw yX4_readLaw ∈ c0 :: lwC := List.mem_cons_of_mem _ (List.mem_append_left _ (List.mem_of_getElem? (i := 548) rfl))
set_option maxRecDepth 100000 in
theorem ic_549 {c0 : Cond} : Cond.methodLink RX4 66 yX4_readPart ∈ c0 :: lwC := List.mem_cons_of_mem _ (List.mem_append_left _ (List.mem_of_getElem? (i := 549) rfl))
set_option maxRecDepth 100000 in
theorem ic_550 {c0 : Cond} : Cond.instanceMethod yX4_readPart ∈ c0 :: lwC := List.mem_cons_of_mem _ (List.mem_append_left _ (List.mem_of_getElem? (i := 550) rfl))
set_option maxRecDepth 100000 in
theorem ic_551 {c0 : Cond} : Cond.selects RX4 yX4_readPart yX4_readPart ∈ c0 :: lwC := List.mem_cons_of_mem _ (List.mem_append_left _ (List.mem_of_getElem? (i := 551) rfl))
set_option maxRecDepth 100000 in
theorem ic_552 {c0 : Cond} : Cond.methodLink RX4 61 yX4_readList ∈ c0 :: lwC := List.mem_cons_of_mem _ (List.mem_append_left _ (List.mem_of_getElem? (i := 552) rfl))
set_option maxRecDepth 100000 in
theorem ic_553 {c0 : Cond} : Cond.instanceMethod yX4_readList ∈ c0 :: lwC := List.mem_cons_of_mem _ (List.mem_append_left _ (List.mem_of_getElem? (i := 553) rfl))
set_option maxRecDepth 100000 in
theorem ic_554 {c0 : Cond} : Cond.selects RX4 yX4_readList yX4_readList ∈ c0 :: lwC := List.mem_cons_of_mem _ (List.mem_append_left _ (List.mem_of_getElem? (i := 554) rfl))
set_option maxRecDepth 100000 in
theorem ic_555 {c0 : Cond} : Cond.methodLink RX4 55 yX4_readKeep ∈ c0 :: lwC := List.mem_cons_of_mem _ (List.mem_append_left _ (List.mem_of_getElem? (i := 555) rfl))
set_option maxRecDepth 100000 in
theorem ic_556 {c0 : Cond} : Cond.instanceMethod yX4_readKeep ∈ c0 :: lwC := List.mem_cons_of_mem _ (List.mem_append_left _ (List.mem_of_getElem? (i := 556) rfl))
set_option maxRecDepth 100000 in
theorem ic_557 {c0 : Cond} : Cond.selects RX4 yX4_readKeep yX4_readKeep ∈ c0 :: lwC := List.mem_cons_of_mem _ (List.mem_append_left _ (List.mem_of_getElem? (i := 557) rfl))
set_option maxRecDepth 100000 in
theorem ic_559 {c0 : Cond} : Cond.fieldLink RX11 26 "SpellTurner" "latestDay" "I" ∈ c0 :: lwC := List.mem_cons_of_mem _ (List.mem_append_left _ (List.mem_of_getElem? (i := 559) rfl))
set_option maxRecDepth 100000 in
theorem ic_560 {c0 : Cond} : Cond.fieldLink RX11 30 "SpellTurner" "draft" "LSpellTurner$Reform;" ∈ c0 :: lwC := List.mem_cons_of_mem _ (List.mem_append_left _ (List.mem_of_getElem? (i := 560) rfl))
set_option maxRecDepth 100000 in
theorem ic_561 {c0 : Cond} : Cond.methodLink RX11 117 yX5_clear ∈ c0 :: lwC := List.mem_cons_of_mem _ (List.mem_append_left _ (List.mem_of_getElem? (i := 561) rfl))
set_option maxRecDepth 100000 in
theorem ic_562 {c0 : Cond} : Cond.instanceMethod yX5_clear ∈ c0 :: lwC := List.mem_cons_of_mem _ (List.mem_append_left _ (List.mem_of_getElem? (i := 562) rfl))
set_option maxRecDepth 100000 in
theorem ic_563 {c0 : Cond} : Cond.selects RX5 yX5_clear yX5_clear ∈ c0 :: lwC := List.mem_cons_of_mem _ (List.mem_append_left _ (List.mem_of_getElem? (i := 563) rfl))
set_option maxRecDepth 100000 in
theorem ic_564 {c0 : Cond} : Cond.methodLink RX11 124 yX4_read ∈ c0 :: lwC := List.mem_cons_of_mem _ (List.mem_append_left _ (List.mem_of_getElem? (i := 564) rfl))
set_option maxRecDepth 100000 in
theorem ic_565 {c0 : Cond} : Cond.instanceMethod yX4_read ∈ c0 :: lwC := List.mem_cons_of_mem _ (List.mem_append_left _ (List.mem_of_getElem? (i := 565) rfl))
set_option maxRecDepth 100000 in
theorem ic_566 {c0 : Cond} : Cond.selects RX4 yX4_read yX4_read ∈ c0 :: lwC := List.mem_cons_of_mem _ (List.mem_append_left _ (List.mem_of_getElem? (i := 566) rfl))
set_option maxRecDepth 100000 in
theorem ic_567 {c0 : Cond} : Cond.methodLink RX11 131 yX9_turnParts ∈ c0 :: lwC := List.mem_cons_of_mem _ (List.mem_append_left _ (List.mem_of_getElem? (i := 567) rfl))
set_option maxRecDepth 100000 in
theorem ic_568 {c0 : Cond} : Cond.instanceMethod yX9_turnParts ∈ c0 :: lwC := List.mem_cons_of_mem _ (List.mem_append_left _ (List.mem_of_getElem? (i := 568) rfl))
set_option maxRecDepth 100000 in
theorem ic_569 {c0 : Cond} : Cond.selects RX9 yX9_turnParts yX9_turnParts ∈ c0 :: lwC := List.mem_cons_of_mem _ (List.mem_append_left _ (List.mem_of_getElem? (i := 569) rfl))
set_option maxRecDepth 100000 in
theorem ic_570 {c0 : Cond} : Cond.classLink RX11 16 RX5 ∈ c0 :: lwC := List.mem_cons_of_mem _ (List.mem_append_left _ (List.mem_of_getElem? (i := 570) rfl))
set_option maxRecDepth 100000 in
theorem ic_571 {c0 : Cond} : Cond.instantiable RX5 11 ∈ c0 :: lwC := List.mem_cons_of_mem _ (List.mem_append_left _ (List.mem_of_getElem? (i := 571) rfl))
set_option maxRecDepth 100000 in
theorem ic_572 {c0 : Cond} : Cond.instanceMethod yX5_init ∈ c0 :: lwC := List.mem_cons_of_mem _ (List.mem_append_left _ (List.mem_of_getElem? (i := 572) rfl))
set_option maxRecDepth 100000 in
theorem ic_573 {c0 : Cond} : Cond.code yX0_fill cX0_fill 7 none ∈ c0 :: lwC := List.mem_cons_of_mem _ (List.mem_append_left _ (List.mem_of_getElem? (i := 573) rfl))
set_option maxRecDepth 100000 in
theorem ic_574 {c0 : Cond} : Cond.fieldLink RX0 28 "SpellTurner$Book" "filled" "[I" ∈ c0 :: lwC := List.mem_cons_of_mem _ (List.mem_append_left _ (List.mem_of_getElem? (i := 574) rfl))
set_option maxRecDepth 100000 in
theorem ic_575 {c0 : Cond} : Cond.fieldLink RX0 32 "SpellTurner$Book" "spare" "LSpellTurner$WordRow;" ∈ c0 :: lwC := List.mem_cons_of_mem _ (List.mem_append_left _ (List.mem_of_getElem? (i := 575) rfl))
set_option maxRecDepth 100000 in
theorem ic_576 {c0 : Cond} : Cond.classLink RX0 9 RX10 ∈ c0 :: lwC := List.mem_cons_of_mem _ (List.mem_append_left _ (List.mem_of_getElem? (i := 576) rfl))
set_option maxRecDepth 100000 in
theorem ic_577 {c0 : Cond} : Cond.methodLink RX0 11 yX10_init ∈ c0 :: lwC := List.mem_cons_of_mem _ (List.mem_append_left _ (List.mem_of_getElem? (i := 577) rfl))
set_option maxRecDepth 100000 in
theorem ic_578 {c0 : Cond} : Cond.methodLink RX0 66 yX10_copy ∈ c0 :: lwC := List.mem_cons_of_mem _ (List.mem_append_left _ (List.mem_of_getElem? (i := 578) rfl))
set_option maxRecDepth 100000 in
theorem ic_579 {c0 : Cond} : Cond.methodLink RX0 60 yX9_turnForms ∈ c0 :: lwC := List.mem_cons_of_mem _ (List.mem_append_left _ (List.mem_of_getElem? (i := 579) rfl))
set_option maxRecDepth 100000 in
theorem ic_580 {c0 : Cond} : Cond.methodLink RX0 52 yX10_add ∈ c0 :: lwC := List.mem_cons_of_mem _ (List.mem_append_left _ (List.mem_of_getElem? (i := 580) rfl))
set_option maxRecDepth 100000 in
theorem ic_582 {c0 : Cond} : Cond.methodLink RX11 211 yX0_fill ∈ c0 :: lwC := List.mem_cons_of_mem _ (List.mem_append_left _ (List.mem_of_getElem? (i := 582) rfl))
set_option maxRecDepth 100000 in
theorem ic_583 {c0 : Cond} : Cond.instanceMethod yX0_fill ∈ c0 :: lwC := List.mem_cons_of_mem _ (List.mem_append_left _ (List.mem_of_getElem? (i := 583) rfl))
set_option maxRecDepth 100000 in
theorem ic_584 {c0 : Cond} : Cond.selects RX0 yX0_fill yX0_fill ∈ c0 :: lwC := List.mem_cons_of_mem _ (List.mem_append_left _ (List.mem_of_getElem? (i := 584) rfl))
set_option maxRecDepth 100000 in
theorem ic_585 {c0 : Cond} : Cond.methodLink RX11 215 yX0_formsAt ∈ c0 :: lwC := List.mem_cons_of_mem _ (List.mem_append_left _ (List.mem_of_getElem? (i := 585) rfl))
set_option maxRecDepth 100000 in
theorem ic_587 {c0 : Cond} : Cond.methodLink RX11 219 yX0_collide ∈ c0 :: lwC := List.mem_cons_of_mem _ (List.mem_append_left _ (List.mem_of_getElem? (i := 587) rfl))
set_option maxRecDepth 100000 in
theorem ic_588 {c0 : Cond} : Cond.instanceMethod yX0_collide ∈ c0 :: lwC := List.mem_cons_of_mem _ (List.mem_append_left _ (List.mem_of_getElem? (i := 588) rfl))
set_option maxRecDepth 100000 in
theorem ic_589 {c0 : Cond} : Cond.selects RX0 yX0_collide yX0_collide ∈ c0 :: lwC := List.mem_cons_of_mem _ (List.mem_append_left _ (List.mem_of_getElem? (i := 589) rfl))
set_option maxRecDepth 100000 in
theorem ic_590 {c0 : Cond} : Cond.methodLink RX11 223 yX11_notePair ∈ c0 :: lwC := List.mem_cons_of_mem _ (List.mem_append_left _ (List.mem_of_getElem? (i := 590) rfl))
set_option maxRecDepth 100000 in
theorem ic_591 {c0 : Cond} : Cond.instanceMethod yX11_notePair ∈ c0 :: lwC := List.mem_cons_of_mem _ (List.mem_append_left _ (List.mem_of_getElem? (i := 591) rfl))
set_option maxRecDepth 100000 in
theorem ic_592 {c0 : Cond} : Cond.selects RX11 yX11_notePair yX11_notePair ∈ c0 :: lwC := List.mem_cons_of_mem _ (List.mem_append_left _ (List.mem_of_getElem? (i := 592) rfl))
set_option maxRecDepth 100000 in
theorem ic_594 {c0 : Cond} : Cond.methodLink RX11 226 yX10_endsAlike ∈ c0 :: lwC := List.mem_cons_of_mem _ (List.mem_append_left _ (List.mem_of_getElem? (i := 594) rfl))
set_option maxRecDepth 100000 in
theorem ic_595 {c0 : Cond} : Cond.methodLink RX11 230 yX0_formsRhyme ∈ c0 :: lwC := List.mem_cons_of_mem _ (List.mem_append_left _ (List.mem_of_getElem? (i := 595) rfl))
set_option maxRecDepth 100000 in
theorem ic_596 {c0 : Cond} : Cond.instanceMethod yX0_formsRhyme ∈ c0 :: lwC := List.mem_cons_of_mem _ (List.mem_append_left _ (List.mem_of_getElem? (i := 596) rfl))
set_option maxRecDepth 100000 in
theorem ic_597 {c0 : Cond} : Cond.selects RX0 yX0_formsRhyme yX0_formsRhyme ∈ c0 :: lwC := List.mem_cons_of_mem _ (List.mem_append_left _ (List.mem_of_getElem? (i := 597) rfl))
set_option maxRecDepth 100000 in
theorem ic_599 {c0 : Cond} : Cond.methodLink RX11 233 yX0_isSuch ∈ c0 :: lwC := List.mem_cons_of_mem _ (List.mem_append_left _ (List.mem_of_getElem? (i := 599) rfl))
set_option maxRecDepth 100000 in
theorem ic_600 {c0 : Cond} : Cond.instanceMethod yX0_isSuch ∈ c0 :: lwC := List.mem_cons_of_mem _ (List.mem_append_left _ (List.mem_of_getElem? (i := 600) rfl))
set_option maxRecDepth 100000 in
theorem ic_601 {c0 : Cond} : Cond.selects RX0 yX0_isSuch yX0_isSuch ∈ c0 :: lwC := List.mem_cons_of_mem _ (List.mem_append_left _ (List.mem_of_getElem? (i := 601) rfl))
set_option maxRecDepth 100000 in
theorem ic_603 {c0 : Cond} : Cond.methodLink RX11 236 yX0_usesLaw ∈ c0 :: lwC := List.mem_cons_of_mem _ (List.mem_append_left _ (List.mem_of_getElem? (i := 603) rfl))
set_option maxRecDepth 100000 in
theorem ic_604 {c0 : Cond} : Cond.instanceMethod yX0_usesLaw ∈ c0 :: lwC := List.mem_cons_of_mem _ (List.mem_append_left _ (List.mem_of_getElem? (i := 604) rfl))
set_option maxRecDepth 100000 in
theorem ic_605 {c0 : Cond} : Cond.selects RX0 yX0_usesLaw yX0_usesLaw ∈ c0 :: lwC := List.mem_cons_of_mem _ (List.mem_append_left _ (List.mem_of_getElem? (i := 605) rfl))
set_option maxRecDepth 100000 in
theorem ic_607 {c0 : Cond} : Cond.methodLink RX11 280 yX7_lines ∈ c0 :: lwC := List.mem_cons_of_mem _ (List.mem_append_left _ (List.mem_of_getElem? (i := 607) rfl))
set_option maxRecDepth 100000 in
theorem ic_608 {c0 : Cond} : Cond.instanceMethod yX7_lines ∈ c0 :: lwC := List.mem_cons_of_mem _ (List.mem_append_left _ (List.mem_of_getElem? (i := 608) rfl))
set_option maxRecDepth 100000 in
theorem ic_609 {c0 : Cond} : Cond.selects RX7 yX7_lines yX7_lines ∈ c0 :: lwC := List.mem_cons_of_mem _ (List.mem_append_left _ (List.mem_of_getElem? (i := 609) rfl))
set_option maxRecDepth 100000 in
theorem ic_610 {c0 : Cond} : Cond.methodLink RX11 283 yX2_begin ∈ c0 :: lwC := List.mem_cons_of_mem _ (List.mem_append_left _ (List.mem_of_getElem? (i := 610) rfl))
set_option maxRecDepth 100000 in
theorem ic_611 {c0 : Cond} : Cond.instanceMethod yX2_begin ∈ c0 :: lwC := List.mem_cons_of_mem _ (List.mem_append_left _ (List.mem_of_getElem? (i := 611) rfl))
set_option maxRecDepth 100000 in
theorem ic_612 {c0 : Cond} : Cond.selects RX2 yX2_begin yX2_begin ∈ c0 :: lwC := List.mem_cons_of_mem _ (List.mem_append_left _ (List.mem_of_getElem? (i := 612) rfl))
set_option maxRecDepth 100000 in
theorem ic_613 {c0 : Cond} : Cond.methodLink RX11 288 yX2_settle ∈ c0 :: lwC := List.mem_cons_of_mem _ (List.mem_append_left _ (List.mem_of_getElem? (i := 613) rfl))
set_option maxRecDepth 100000 in
theorem ic_614 {c0 : Cond} : Cond.instanceMethod yX2_settle ∈ c0 :: lwC := List.mem_cons_of_mem _ (List.mem_append_left _ (List.mem_of_getElem? (i := 614) rfl))
set_option maxRecDepth 100000 in
theorem ic_615 {c0 : Cond} : Cond.selects RX2 yX2_settle yX2_settle ∈ c0 :: lwC := List.mem_cons_of_mem _ (List.mem_append_left _ (List.mem_of_getElem? (i := 615) rfl))
set_option maxRecDepth 100000 in
theorem ic_616 {c0 : Cond} : Cond.methodLink RX11 285 yX11_chargeWord ∈ c0 :: lwC := List.mem_cons_of_mem _ (List.mem_append_left _ (List.mem_of_getElem? (i := 616) rfl))
set_option maxRecDepth 100000 in
theorem ic_617 {c0 : Cond} : Cond.instanceMethod yX11_chargeWord ∈ c0 :: lwC := List.mem_cons_of_mem _ (List.mem_append_left _ (List.mem_of_getElem? (i := 617) rfl))
set_option maxRecDepth 100000 in
theorem ic_618 {c0 : Cond} : Cond.selects RX11 yX11_chargeWord yX11_chargeWord ∈ c0 :: lwC := List.mem_cons_of_mem _ (List.mem_append_left _ (List.mem_of_getElem? (i := 618) rfl))
set_option maxRecDepth 100000 in
theorem ic_619 {c0 : Cond} : Cond.code yX7_init cX7_init 1 none ∈ c0 :: lwC := List.mem_cons_of_mem _ (List.mem_append_left _ (List.mem_of_getElem? (i := 619) rfl))
set_option maxRecDepth 100000 in
theorem ic_620 {c0 : Cond} : Cond.methodLink RX7 3 objectInit ∈ c0 :: lwC := List.mem_cons_of_mem _ (List.mem_append_left _ (List.mem_of_getElem? (i := 620) rfl))
set_option maxRecDepth 100000 in
theorem ic_621 {c0 : Cond} : Cond.code yX4_init cX4_init 1 none ∈ c0 :: lwC := List.mem_cons_of_mem _ (List.mem_append_left _ (List.mem_of_getElem? (i := 621) rfl))
set_option maxRecDepth 100000 in
theorem ic_622 {c0 : Cond} : Cond.methodLink RX4 3 objectInit ∈ c0 :: lwC := List.mem_cons_of_mem _ (List.mem_append_left _ (List.mem_of_getElem? (i := 622) rfl))
set_option maxRecDepth 100000 in
theorem ic_623 {c0 : Cond} : Cond.code yX3_init cX3_init 1 none ∈ c0 :: lwC := List.mem_cons_of_mem _ (List.mem_append_left _ (List.mem_of_getElem? (i := 623) rfl))
set_option maxRecDepth 100000 in
theorem ic_624 {c0 : Cond} : Cond.methodLink RX3 3 objectInit ∈ c0 :: lwC := List.mem_cons_of_mem _ (List.mem_append_left _ (List.mem_of_getElem? (i := 624) rfl))
set_option maxRecDepth 100000 in
theorem ic_625 {c0 : Cond} : Cond.classLink RX3 33 RX10 ∈ c0 :: lwC := List.mem_cons_of_mem _ (List.mem_append_left _ (List.mem_of_getElem? (i := 625) rfl))
set_option maxRecDepth 100000 in
theorem ic_626 {c0 : Cond} : Cond.methodLink RX3 35 yX10_init ∈ c0 :: lwC := List.mem_cons_of_mem _ (List.mem_append_left _ (List.mem_of_getElem? (i := 626) rfl))
set_option maxRecDepth 100000 in
theorem ic_627 {c0 : Cond} : Cond.code yX9_init cX9_init 1 none ∈ c0 :: lwC := List.mem_cons_of_mem _ (List.mem_append_left _ (List.mem_of_getElem? (i := 627) rfl))
set_option maxRecDepth 100000 in
theorem ic_628 {c0 : Cond} : Cond.methodLink RX9 3 objectInit ∈ c0 :: lwC := List.mem_cons_of_mem _ (List.mem_append_left _ (List.mem_of_getElem? (i := 628) rfl))
set_option maxRecDepth 100000 in
theorem ic_629 {c0 : Cond} : Cond.classLink RX9 9 RX3 ∈ c0 :: lwC := List.mem_cons_of_mem _ (List.mem_append_left _ (List.mem_of_getElem? (i := 629) rfl))
set_option maxRecDepth 100000 in
theorem ic_630 {c0 : Cond} : Cond.instantiable RX3 7 ∈ c0 :: lwC := List.mem_cons_of_mem _ (List.mem_append_left _ (List.mem_of_getElem? (i := 630) rfl))
set_option maxRecDepth 100000 in
theorem ic_631 {c0 : Cond} : Cond.instanceMethod yX3_init ∈ c0 :: lwC := List.mem_cons_of_mem _ (List.mem_append_left _ (List.mem_of_getElem? (i := 631) rfl))
set_option maxRecDepth 100000 in
theorem ic_632 {c0 : Cond} : Cond.classLink RX9 36 RX10 ∈ c0 :: lwC := List.mem_cons_of_mem _ (List.mem_append_left _ (List.mem_of_getElem? (i := 632) rfl))
set_option maxRecDepth 100000 in
theorem ic_633 {c0 : Cond} : Cond.methodLink RX9 38 yX10_init ∈ c0 :: lwC := List.mem_cons_of_mem _ (List.mem_append_left _ (List.mem_of_getElem? (i := 633) rfl))
set_option maxRecDepth 100000 in
theorem ic_634 {c0 : Cond} : Cond.code yX0_init cX0_init 1 none ∈ c0 :: lwC := List.mem_cons_of_mem _ (List.mem_append_left _ (List.mem_of_getElem? (i := 634) rfl))
set_option maxRecDepth 100000 in
theorem ic_635 {c0 : Cond} : Cond.methodLink RX0 3 objectInit ∈ c0 :: lwC := List.mem_cons_of_mem _ (List.mem_append_left _ (List.mem_of_getElem? (i := 635) rfl))
set_option maxRecDepth 100000 in
theorem ic_636 {c0 : Cond} : Cond.code yX8_init cX8_init 1 none ∈ c0 :: lwC := List.mem_cons_of_mem _ (List.mem_append_left _ (List.mem_of_getElem? (i := 636) rfl))
set_option maxRecDepth 100000 in
theorem ic_637 {c0 : Cond} : Cond.methodLink RX8 3 objectInit ∈ c0 :: lwC := List.mem_cons_of_mem _ (List.mem_append_left _ (List.mem_of_getElem? (i := 637) rfl))
set_option maxRecDepth 100000 in
theorem ic_638 {c0 : Cond} : Cond.code yX6_init cX6_init 1 none ∈ c0 :: lwC := List.mem_cons_of_mem _ (List.mem_append_left _ (List.mem_of_getElem? (i := 638) rfl))
set_option maxRecDepth 100000 in
theorem ic_639 {c0 : Cond} : Cond.methodLink RX6 3 objectInit ∈ c0 :: lwC := List.mem_cons_of_mem _ (List.mem_append_left _ (List.mem_of_getElem? (i := 639) rfl))
set_option maxRecDepth 100000 in
theorem ic_640 {c0 : Cond} : Cond.code yX2_init cX2_init 1 none ∈ c0 :: lwC := List.mem_cons_of_mem _ (List.mem_append_left _ (List.mem_of_getElem? (i := 640) rfl))
set_option maxRecDepth 100000 in
theorem ic_641 {c0 : Cond} : Cond.methodLink RX2 3 objectInit ∈ c0 :: lwC := List.mem_cons_of_mem _ (List.mem_append_left _ (List.mem_of_getElem? (i := 641) rfl))
set_option maxRecDepth 100000 in
theorem ic_643 {c0 : Cond} : Cond.methodLink RX11 3 objectInit ∈ c0 :: lwC := List.mem_cons_of_mem _ (List.mem_append_left _ (List.mem_of_getElem? (i := 643) rfl))
set_option maxRecDepth 100000 in
theorem ic_644 {c0 : Cond} : Cond.classLink RX11 9 RX7 ∈ c0 :: lwC := List.mem_cons_of_mem _ (List.mem_append_left _ (List.mem_of_getElem? (i := 644) rfl))
set_option maxRecDepth 100000 in
theorem ic_645 {c0 : Cond} : Cond.instantiable RX7 2 ∈ c0 :: lwC := List.mem_cons_of_mem _ (List.mem_append_left _ (List.mem_of_getElem? (i := 645) rfl))
set_option maxRecDepth 100000 in
theorem ic_646 {c0 : Cond} : Cond.instanceMethod yX7_init ∈ c0 :: lwC := List.mem_cons_of_mem _ (List.mem_append_left _ (List.mem_of_getElem? (i := 646) rfl))
set_option maxRecDepth 100000 in
theorem ic_647 {c0 : Cond} : Cond.classLink RX11 34 RX4 ∈ c0 :: lwC := List.mem_cons_of_mem _ (List.mem_append_left _ (List.mem_of_getElem? (i := 647) rfl))
set_option maxRecDepth 100000 in
theorem ic_648 {c0 : Cond} : Cond.instantiable RX4 9 ∈ c0 :: lwC := List.mem_cons_of_mem _ (List.mem_append_left _ (List.mem_of_getElem? (i := 648) rfl))
set_option maxRecDepth 100000 in
theorem ic_649 {c0 : Cond} : Cond.instanceMethod yX4_init ∈ c0 :: lwC := List.mem_cons_of_mem _ (List.mem_append_left _ (List.mem_of_getElem? (i := 649) rfl))
set_option maxRecDepth 100000 in
theorem ic_650 {c0 : Cond} : Cond.classLink RX11 41 RX9 ∈ c0 :: lwC := List.mem_cons_of_mem _ (List.mem_append_left _ (List.mem_of_getElem? (i := 650) rfl))
set_option maxRecDepth 100000 in
theorem ic_651 {c0 : Cond} : Cond.instantiable RX9 8 ∈ c0 :: lwC := List.mem_cons_of_mem _ (List.mem_append_left _ (List.mem_of_getElem? (i := 651) rfl))
set_option maxRecDepth 100000 in
theorem ic_652 {c0 : Cond} : Cond.instanceMethod yX9_init ∈ c0 :: lwC := List.mem_cons_of_mem _ (List.mem_append_left _ (List.mem_of_getElem? (i := 652) rfl))
set_option maxRecDepth 100000 in
theorem ic_653 {c0 : Cond} : Cond.classLink RX11 48 RX10 ∈ c0 :: lwC := List.mem_cons_of_mem _ (List.mem_append_left _ (List.mem_of_getElem? (i := 653) rfl))
set_option maxRecDepth 100000 in
theorem ic_654 {c0 : Cond} : Cond.methodLink RX11 50 yX10_init ∈ c0 :: lwC := List.mem_cons_of_mem _ (List.mem_append_left _ (List.mem_of_getElem? (i := 654) rfl))
set_option maxRecDepth 100000 in
theorem ic_655 {c0 : Cond} : Cond.classLink RX11 57 RX3 ∈ c0 :: lwC := List.mem_cons_of_mem _ (List.mem_append_left _ (List.mem_of_getElem? (i := 655) rfl))
set_option maxRecDepth 100000 in
theorem ic_656 {c0 : Cond} : Cond.classLink RX11 64 RX0 ∈ c0 :: lwC := List.mem_cons_of_mem _ (List.mem_append_left _ (List.mem_of_getElem? (i := 656) rfl))
set_option maxRecDepth 100000 in
theorem ic_657 {c0 : Cond} : Cond.instantiable RX0 6 ∈ c0 :: lwC := List.mem_cons_of_mem _ (List.mem_append_left _ (List.mem_of_getElem? (i := 657) rfl))
set_option maxRecDepth 100000 in
theorem ic_658 {c0 : Cond} : Cond.instanceMethod yX0_init ∈ c0 :: lwC := List.mem_cons_of_mem _ (List.mem_append_left _ (List.mem_of_getElem? (i := 658) rfl))
set_option maxRecDepth 100000 in
theorem ic_659 {c0 : Cond} : Cond.classLink RX11 84 RX8 ∈ c0 :: lwC := List.mem_cons_of_mem _ (List.mem_append_left _ (List.mem_of_getElem? (i := 659) rfl))
set_option maxRecDepth 100000 in
theorem ic_660 {c0 : Cond} : Cond.instantiable RX8 8 ∈ c0 :: lwC := List.mem_cons_of_mem _ (List.mem_append_left _ (List.mem_of_getElem? (i := 660) rfl))
set_option maxRecDepth 100000 in
theorem ic_661 {c0 : Cond} : Cond.instanceMethod yX8_init ∈ c0 :: lwC := List.mem_cons_of_mem _ (List.mem_append_left _ (List.mem_of_getElem? (i := 661) rfl))
set_option maxRecDepth 100000 in
theorem ic_662 {c0 : Cond} : Cond.classLink RX11 91 RX6 ∈ c0 :: lwC := List.mem_cons_of_mem _ (List.mem_append_left _ (List.mem_of_getElem? (i := 662) rfl))
set_option maxRecDepth 100000 in
theorem ic_663 {c0 : Cond} : Cond.instantiable RX6 9 ∈ c0 :: lwC := List.mem_cons_of_mem _ (List.mem_append_left _ (List.mem_of_getElem? (i := 663) rfl))
set_option maxRecDepth 100000 in
theorem ic_664 {c0 : Cond} : Cond.instanceMethod yX6_init ∈ c0 :: lwC := List.mem_cons_of_mem _ (List.mem_append_left _ (List.mem_of_getElem? (i := 664) rfl))
set_option maxRecDepth 100000 in
theorem ic_665 {c0 : Cond} : Cond.classLink RX11 98 RX2 ∈ c0 :: lwC := List.mem_cons_of_mem _ (List.mem_append_left _ (List.mem_of_getElem? (i := 665) rfl))
set_option maxRecDepth 100000 in
theorem ic_666 {c0 : Cond} : Cond.instantiable RX2 6 ∈ c0 :: lwC := List.mem_cons_of_mem _ (List.mem_append_left _ (List.mem_of_getElem? (i := 666) rfl))
set_option maxRecDepth 100000 in
theorem ic_667 {c0 : Cond} : Cond.instanceMethod yX2_init ∈ c0 :: lwC := List.mem_cons_of_mem _ (List.mem_append_left _ (List.mem_of_getElem? (i := 667) rfl))
def vmX10_isSmall : List Cond := Cond.code yX10_isSmall cX10_isSmall 1 (some .boolean) :: lwC
def vmX10_isCapital : List Cond := Cond.code yX10_isCapital cX10_isCapital 1 (some .boolean) :: lwC
def vmX10_isFull : List Cond := Cond.code yX10_isFull cX10_isFull 1 (some .boolean) :: lwC
def vmX10_same : List Cond := Cond.code yX10_same cX10_same 6 (some .boolean) :: lwC
def vmX10_add : List Cond := Cond.code yX10_add cX10_add 4 none :: lwC
def vmX10_find : List Cond := Cond.code yX10_find cX10_find 5 (some .int) :: lwC
def vmX10_addForm : List Cond := Cond.code yX10_addForm cX10_addForm 4 none :: lwC
def vmX10_copy : List Cond := Cond.code yX10_copy cX10_copy 3 none :: lwC
def vmX10_standsIn : List Cond := Cond.code yX10_standsIn cX10_standsIn 4 (some .boolean) :: lwC
def vmX10_endsAlike : List Cond := Cond.code yX10_endsAlike cX10_endsAlike 6 (some .boolean) :: lwC
def vmX10_letterAt : List Cond := Cond.code yX10_letterAt cX10_letterAt 3 (some .int) :: lwC
def vmX7_take : List Cond := Cond.code yX7_take cX7_take 2 (some .int) :: lwC
def vmX7_append : List Cond := Cond.code yX7_append cX7_append 3 none :: lwC
def vmX7_isWord : List Cond := Cond.code yX7_isWord cX7_isWord 3 (some .boolean) :: lwC
def vmX7_occurrences : List Cond := Cond.code yX7_occurrences cX7_occurrences 5 (some .int) :: lwC
def vmX7_hasZero : List Cond := Cond.code yX7_hasZero cX7_hasZero 2 (some .boolean) :: lwC
def vmX7_lines : List Cond := Cond.code yX7_lines cX7_lines 2 (some .int) :: lwC
def vmX11_feed : List Cond := Cond.code yX11_feed cX11_feed 6 (some .int) :: lwC
def vmX11_end : List Cond := Cond.code yX11_end cX11_end 2 (some .int) :: lwC
def vmX11_reformAt : List Cond := Cond.code yX11_reformAt cX11_reformAt 2 (some (.object "SpellTurner$Reform")) :: lwC
def vmX11_stage : List Cond := Cond.code yX11_stage cX11_stage 5 (some .int) :: lwC
def vmX11_about : List Cond := Cond.code yX11_about cX11_about 4 (some .int) :: lwC
def vmX11_fault : List Cond := Cond.code yX11_fault cX11_fault 2 (some .int) :: lwC
def vmX0_formsAt : List Cond := Cond.code yX0_formsAt cX0_formsAt 4 (some (.object "SpellTurner$WordRow")) :: lwC
def vmX0_collide : List Cond := Cond.code yX0_collide cX0_collide 7 (some .boolean) :: lwC
def vmX0_formsRhyme : List Cond := Cond.code yX0_formsRhyme cX0_formsRhyme 8 (some .boolean) :: lwC
def vmX0_hasForm : List Cond := Cond.code yX0_hasForm cX0_hasForm 6 (some .boolean) :: lwC
def vmX0_isSuch : List Cond := Cond.code yX0_isSuch cX0_isSuch 5 (some .boolean) :: lwC
def vmX0_usesLaw : List Cond := Cond.code yX0_usesLaw cX0_usesLaw 4 (some .boolean) :: lwC
def vmX11_isStage : List Cond := Cond.code yX11_isStage cX11_isStage 2 (some .boolean) :: lwC
def vmX11_areStages : List Cond := Cond.code yX11_areStages cX11_areStages 3 (some .boolean) :: lwC
def vmX2_charge : List Cond := Cond.code yX2_charge cX2_charge 3 none :: lwC
def vmX11_chargeWord : List Cond := Cond.code yX11_chargeWord cX11_chargeWord 2 none :: lwC
def vmX11_collision : List Cond := Cond.code yX11_collision cX11_collision 2 (some .int) :: lwC
def vmX11_count : List Cond := Cond.code yX11_count cX11_count 2 (some .int) :: lwC
def vmX6_tallyOf : List Cond := Cond.code yX6_tallyOf cX6_tallyOf 2 (some .int) :: lwC
def vmX11_counted : List Cond := Cond.code yX11_counted cX11_counted 2 (some .int) :: lwC
def vmX11_form : List Cond := Cond.code yX11_form cX11_form 3 (some .int) :: lwC
def vmX11_learn : List Cond := Cond.code yX11_learn cX11_learn 3 (some .int) :: lwC
def vmX2_stageOf : List Cond := Cond.code yX2_stageOf cX2_stageOf 2 (some .int) :: lwC
def vmX11_line : List Cond := Cond.code yX11_line cX11_line 2 (some .int) :: lwC
def vmX11_notePair : List Cond := Cond.code yX11_notePair cX11_notePair 2 none :: lwC
def vmX11_old : List Cond := Cond.code yX11_old cX11_old 2 (some .int) :: lwC
def vmX3_pick : List Cond := Cond.code yX3_pick cX3_pick 3 (some .int) :: lwC
def vmX3_lengthOf : List Cond := Cond.code yX3_lengthOf cX3_lengthOf 4 (some .int) :: lwC
def vmX11_parting : List Cond := Cond.code yX11_parting cX11_parting 3 (some .int) :: lwC
def vmX11_word : List Cond := Cond.code yX11_word cX11_word 3 (some .int) :: lwC
def vmX6_byteAt : List Cond := Cond.code yX6_byteAt cX6_byteAt 2 (some .int) :: lwC
def vmX11_written : List Cond := Cond.code yX11_written cX11_written 2 (some .int) :: lwC
def vmX1_standsAt : List Cond := Cond.code yX1_standsAt cX1_standsAt 7 (some .boolean) :: lwC
def vmJ7_fill_53178 : List Cond := Cond.code yJ7_fill_53178 cJ7_fill_53178 4 none :: lwC
def vmX2_begin : List Cond := Cond.code yX2_begin cX2_begin 3 none :: lwC
def vmX2_cost : List Cond := Cond.code yX2_cost cX2_cost 6 (some .int) :: lwC
def vmX2_cheapest : List Cond := Cond.code yX2_cheapest cX2_cheapest 6 (some .int) :: lwC
def vmX2_settle : List Cond := Cond.code yX2_settle cX2_settle 5 (some .int) :: lwC
def vmJ7_rangeCheck_23922 : List Cond := Cond.code yJ7_rangeCheck_23922 cJ7_rangeCheck_23922 3 none :: lwC
def vmJ7_fill_eb02e : List Cond := Cond.code yJ7_fill_eb02e cJ7_fill_eb02e 5 none :: lwC
def vmX3_markFitting : List Cond := Cond.code yX3_markFitting cX3_markFitting 7 none :: lwC
def vmX3_note : List Cond := Cond.code yX3_note cX3_note 2 none :: lwC
def vmX3_walk : List Cond := Cond.code yX3_walk cX3_walk 6 none :: lwC
def vmX3_find : List Cond := Cond.code yX3_find cX3_find 6 none :: lwC
def vmX5_isKept : List Cond := Cond.code yX5_isKept cX5_isKept 2 (some .boolean) :: lwC
def vmX11_partings : List Cond := Cond.code yX11_partings cX11_partings 5 (some .int) :: lwC
def vmX5_addLaw : List Cond := Cond.code yX5_addLaw cX5_addLaw 2 none :: lwC
def vmX5_addEntry : List Cond := Cond.code yX5_addEntry cX5_addEntry 5 none :: lwC
def vmX5_addKept : List Cond := Cond.code yX5_addKept cX5_addKept 4 none :: lwC
def vmX5_addListed : List Cond := Cond.code yX5_addListed cX5_addListed 4 none :: lwC
def vmX5_clear : List Cond := Cond.code yX5_clear cX5_clear 2 none :: lwC
def vmX9_addEntry : List Cond := Cond.code yX9_addEntry cX9_addEntry 5 none :: lwC
def vmX9_apply : List Cond := Cond.code yX9_apply cX9_apply 5 (some .boolean) :: lwC
def vmX9_runLaws : List Cond := Cond.code yX9_runLaws cX9_runLaws 7 (some .boolean) :: lwC
def vmX9_turnParting : List Cond := Cond.code yX9_turnParting cX9_turnParting 10 (some .long) :: lwC
def vmX9_turnWord : List Cond := Cond.code yX9_turnWord cX9_turnWord 11 (some .long) :: lwC
def vmX9_turnForms : List Cond := Cond.code yX9_turnForms cX9_turnForms 7 (some .long) :: lwC
def vmX9_through : List Cond := Cond.code yX9_through cX9_through 9 (some (.object "SpellTurner$WordRow")) :: lwC
def vmX9_turnParts : List Cond := Cond.code yX9_turnParts cX9_turnParts 5 none :: lwC
def vmX11_turn : List Cond := Cond.code yX11_turn cX11_turn 4 (some .int) :: lwC
def vmX4_scanRun : List Cond := Cond.code yX4_scanRun cX4_scanRun 2 none :: lwC
def vmX4_nextToken : List Cond := Cond.code yX4_nextToken cX4_nextToken 1 none :: lwC
def vmX4_wordIs : List Cond := Cond.code yX4_wordIs cX4_wordIs 3 (some .boolean) :: lwC
def vmX4_blame : List Cond := Cond.code yX4_blame cX4_blame 2 (some .boolean) :: lwC
def vmX4_hasRoom : List Cond := Cond.code yX4_hasRoom cX4_hasRoom 2 (some .boolean) :: lwC
def vmX4_isNew : List Cond := Cond.code yX4_isNew cX4_isNew 2 (some .boolean) :: lwC
def vmX4_takeLetters : List Cond := Cond.code yX4_takeLetters cX4_takeLetters 2 (some .boolean) :: lwC
def vmX4_takeNew : List Cond := Cond.code yX4_takeNew cX4_takeNew 2 (some .boolean) :: lwC
def vmX4_takeTo : List Cond := Cond.code yX4_takeTo cX4_takeTo 1 (some .boolean) :: lwC
def vmX4_takeClose : List Cond := Cond.code yX4_takeClose cX4_takeClose 1 (some .boolean) :: lwC
def vmX4_readKeep : List Cond := Cond.code yX4_readKeep cX4_readKeep 2 none :: lwC
def vmX4_readPart : List Cond := Cond.code yX4_readPart cX4_readPart 2 none :: lwC
def vmX4_readList : List Cond := Cond.code yX4_readList cX4_readList 2 none :: lwC
def vmX6_begin : List Cond := Cond.code yX6_begin cX6_begin 1 none :: lwC
def vmX6_leaveName : List Cond := Cond.code yX6_leaveName cX6_leaveName 1 none :: lwC
def vmX6_leaveLost : List Cond := Cond.code yX6_leaveLost cX6_leaveLost 1 none :: lwC
def vmX6_append : List Cond := Cond.code yX6_append cX6_append 4 none :: lwC
def vmX6_put : List Cond := Cond.code yX6_put cX6_put 3 none :: lwC
def vmX6_finish : List Cond := Cond.code yX6_finish cX6_finish 5 (some .int) :: lwC
def vmX8_begin : List Cond := Cond.code yX8_begin cX8_begin 3 none :: lwC
def vmX8_isLetter : List Cond := Cond.code yX8_isLetter cX8_isLetter 1 (some .boolean) :: lwC
def vmX8_takeWord : List Cond := Cond.code yX8_takeWord cX8_takeWord 1 none :: lwC
def vmX8_next : List Cond := Cond.code yX8_next cX8_next 2 (some .boolean) :: lwC
def vmX11_write : List Cond := Cond.code yX11_write cX11_write 5 (some .int) :: lwC
def vmX10_init : List Cond := Cond.code yX10_init cX10_init 3 none :: lwC
def vmX1_init : List Cond := Cond.code yX1_init cX1_init 3 none :: lwC
def vmX5_init : List Cond := Cond.code yX5_init cX5_init 1 none :: lwC
def vmJ7_checkLength_df160 : List Cond := Cond.code yJ7_checkLength_df160 cJ7_checkLength_df160 2 none :: lwC
def vmJ7_copyOfRangeByte_39247 : List Cond := Cond.code yJ7_copyOfRangeByte_39247 cJ7_copyOfRangeByte_39247 5 (some (.array .byte)) :: lwC
def vmJ7_copyOfRange_39247 : List Cond := Cond.code yJ7_copyOfRange_39247 cJ7_copyOfRange_39247 3 (some (.array .byte)) :: lwC
def vmX4_letters : List Cond := Cond.code yX4_letters cX4_letters 1 (some (.array .byte)) :: lwC
def vmX4_readSide : List Cond := Cond.code yX4_readSide cX4_readSide 2 none :: lwC
def vmX4_readLaw : List Cond := Cond.code yX4_readLaw cX4_readLaw 5 none :: lwC
def vmX4_read : List Cond := Cond.code yX4_read cX4_read 5 none :: lwC
def vmX11_reform : List Cond := Cond.code yX11_reform cX11_reform 3 (some .int) :: lwC
def vmX0_fill : List Cond := Cond.code yX0_fill cX0_fill 7 none :: lwC
def vmX11_back : List Cond := Cond.code yX11_back cX11_back 4 (some .int) :: lwC
def vmX11_collisions : List Cond := Cond.code yX11_collisions cX11_collisions 5 (some .int) :: lwC
def vmX11_rhymes : List Cond := Cond.code yX11_rhymes cX11_rhymes 5 (some .int) :: lwC
def vmX11_tell : List Cond := Cond.code yX11_tell cX11_tell 5 (some .int) :: lwC
def vmX11_uses : List Cond := Cond.code yX11_uses cX11_uses 6 (some .int) :: lwC
def vmX11_mixed : List Cond := Cond.code yX11_mixed cX11_mixed 5 (some .int) :: lwC
def vmX7_init : List Cond := Cond.code yX7_init cX7_init 1 none :: lwC
def vmX4_init : List Cond := Cond.code yX4_init cX4_init 1 none :: lwC
def vmX3_init : List Cond := Cond.code yX3_init cX3_init 1 none :: lwC
def vmX9_init : List Cond := Cond.code yX9_init cX9_init 1 none :: lwC
def vmX0_init : List Cond := Cond.code yX0_init cX0_init 1 none :: lwC
def vmX8_init : List Cond := Cond.code yX8_init cX8_init 1 none :: lwC
def vmX6_init : List Cond := Cond.code yX6_init cX6_init 1 none :: lwC
def vmX2_init : List Cond := Cond.code yX2_init cX2_init 1 none :: lwC
def vmX11_init : List Cond := Cond.code yX11_init cX11_init 1 none :: lwC
theorem gc_RJ7_J7_rangeCheck_23922_13 {c0 : Cond} : GoodIn (c0 :: lwC) (va_wsS RJ7 13 yJ7_rangeCheck_23922 vmJ7_rangeCheck_23922) := gdW ic_215 (by decide +kernel) (gdW ic_216 (by decide +kernel) (gdW ic_202 (by decide +kernel) (gdW ic_213 (by decide +kernel) lwC_in)))
theorem gc_RJ7_J7_copyOfRangeByte_39247_339 {c0 : Cond} : GoodIn (c0 :: lwC) (va_wsS RJ7 339 yJ7_copyOfRangeByte_39247 vmJ7_copyOfRangeByte_39247) := gdW ic_519 (by decide +kernel) (gdW ic_520 (by decide +kernel) (gdW ic_202 (by decide +kernel) (gdW ic_513 (by decide +kernel) lwC_in)))
theorem gc_RJ7_J7_checkLength_df160_343 {c0 : Cond} : GoodIn (c0 :: lwC) (va_wsS RJ7 343 yJ7_checkLength_df160 vmJ7_checkLength_df160) := gdW ic_514 (by decide +kernel) (gdW ic_515 (by decide +kernel) (gdW ic_202 (by decide +kernel) (gdW ic_512 (by decide +kernel) lwC_in)))
theorem gc_RX1_X10_same_29 {c0 : Cond} : GoodIn (c0 :: lwC) (va_wsS RX1 29 yX10_same vmX10_same) := gdW ic_193 (by decide +kernel) (gdW ic_21 (by decide +kernel) (gdW ic_12 (by decide +kernel) (gdW ic_7 (by decide +kernel) lwC_in)))
theorem gc_RX10_X10_same_44 {c0 : Cond} : GoodIn (c0 :: lwC) (va_wsS RX10 44 yX10_same vmX10_same) := gdW ic_20 (by decide +kernel) (gdW ic_21 (by decide +kernel) (gdW ic_12 (by decide +kernel) (gdW ic_7 (by decide +kernel) lwC_in)))
theorem gc_RX2_J7_fill_53178_37 {c0 : Cond} : GoodIn (c0 :: lwC) (va_wsS RX2 37 yJ7_fill_53178 vmJ7_fill_53178) := gdW ic_200 (by decide +kernel) (gdW ic_201 (by decide +kernel) (gdW ic_202 (by decide +kernel) (gdW ic_194 (by decide +kernel) lwC_in)))
theorem gc_RX3_J7_fill_eb02e_58 {c0 : Cond} : GoodIn (c0 :: lwC) (va_wsS RX3 58 yJ7_fill_eb02e vmJ7_fill_eb02e) := gdW ic_220 (by decide +kernel) (gdW ic_221 (by decide +kernel) (gdW ic_202 (by decide +kernel) (gdW ic_214 (by decide +kernel) lwC_in)))
theorem gc_RX4_J7_copyOfRange_39247_171 {c0 : Cond} : GoodIn (c0 :: lwC) (va_wsS RX4 171 yJ7_copyOfRange_39247 vmJ7_copyOfRange_39247) := gdW ic_522 (by decide +kernel) (gdW ic_523 (by decide +kernel) (gdW ic_202 (by decide +kernel) (gdW ic_518 (by decide +kernel) lwC_in)))
theorem gc_RX4_X10_isSmall_190 {c0 : Cond} : GoodIn (c0 :: lwC) (va_wsS RX4 190 yX10_isSmall vmX10_isSmall) := gdW ic_353 (by decide +kernel) (gdW ic_39 (by decide +kernel) (gdW ic_12 (by decide +kernel) (gdW ic_2 (by decide +kernel) lwC_in)))
theorem gc_RX6_J7_fill_53178_42 {c0 : Cond} : GoodIn (c0 :: lwC) (va_wsS RX6 42 yJ7_fill_53178 vmJ7_fill_53178) := gdW ic_422 (by decide +kernel) (gdW ic_201 (by decide +kernel) (gdW ic_202 (by decide +kernel) (gdW ic_194 (by decide +kernel) lwC_in)))
theorem gc_RX7_X10_isSmall_19 {c0 : Cond} : GoodIn (c0 :: lwC) (va_wsS RX7 19 yX10_isSmall vmX10_isSmall) := gdW ic_38 (by decide +kernel) (gdW ic_39 (by decide +kernel) (gdW ic_12 (by decide +kernel) (gdW ic_2 (by decide +kernel) lwC_in)))
theorem gc_RX8_X8_isLetter_44 {c0 : Cond} : GoodIn (c0 :: lwC) (va_wsS RX8 44 yX8_isLetter vmX8_isLetter) := gdW ic_461 (by decide +kernel) (gdW ic_462 (by decide +kernel) (gdW ic_463 (by decide +kernel) (gdW ic_453 (by decide +kernel) lwC_in)))
theorem gc_RX8_X10_isCapital_51 {c0 : Cond} : GoodIn (c0 :: lwC) (va_wsS RX8 51 yX10_isCapital vmX10_isCapital) := gdW ic_455 (by decide +kernel) (gdW ic_456 (by decide +kernel) (gdW ic_12 (by decide +kernel) (gdW ic_3 (by decide +kernel) lwC_in)))
theorem gc_RX8_X10_isSmall_56 {c0 : Cond} : GoodIn (c0 :: lwC) (va_wsS RX8 56 yX10_isSmall vmX10_isSmall) := gdW ic_454 (by decide +kernel) (gdW ic_39 (by decide +kernel) (gdW ic_12 (by decide +kernel) (gdW ic_2 (by decide +kernel) lwC_in)))
theorem gc_RX0_X10_add_52 {c0 : Cond} : GoodIn (c0 :: lwC) (wsV RX0 52 RX10 yX10_add vmX10_add) := gdW ic_580 (by decide +kernel) (gdW ic_27 (by decide +kernel) (gdW ic_28 (by decide +kernel) (gdW ic_12 (by decide +kernel) (gdW ic_8 (by decide +kernel) lwC_in))))
theorem gc_RX0_X0_formsAt_56 {c0 : Cond} : GoodIn (c0 :: lwC) (wsV RX0 56 RX0 yX0_formsAt vmX0_formsAt) := gdW ic_78 (by decide +kernel) (gdW ic_79 (by decide +kernel) (gdW ic_80 (by decide +kernel) (gdW ic_81 (by decide +kernel) (gdW ic_74 (by decide +kernel) lwC_in))))
theorem gc_RX0_X9_turnForms_60 {c0 : Cond} : GoodIn (c0 :: lwC) (wsV RX0 60 RX9 yX9_turnForms vmX9_turnForms) := gdW ic_579 (by decide +kernel) (gdW ic_332 (by decide +kernel) (gdW ic_333 (by decide +kernel) (gdW ic_301 (by decide +kernel) (gdW ic_324 (by decide +kernel) lwC_in))))
theorem gc_RX0_X10_copy_66 {c0 : Cond} : GoodIn (c0 :: lwC) (wsV RX0 66 RX10 yX10_copy vmX10_copy) := gdW ic_578 (by decide +kernel) (gdW ic_345 (by decide +kernel) (gdW ic_346 (by decide +kernel) (gdW ic_12 (by decide +kernel) (gdW ic_29 (by decide +kernel) lwC_in))))
theorem gc_RX0_X10_find_70 {c0 : Cond} : GoodIn (c0 :: lwC) (wsV RX0 70 RX10 yX10_find vmX10_find) := gdW ic_86 (by decide +kernel) (gdW ic_24 (by decide +kernel) (gdW ic_25 (by decide +kernel) (gdW ic_12 (by decide +kernel) (gdW ic_19 (by decide +kernel) lwC_in))))
theorem gc_RX0_X10_endsAlike_74 {c0 : Cond} : GoodIn (c0 :: lwC) (wsV RX0 74 RX10 yX10_endsAlike vmX10_endsAlike) := gdW ic_88 (by decide +kernel) (gdW ic_89 (by decide +kernel) (gdW ic_90 (by decide +kernel) (gdW ic_12 (by decide +kernel) (gdW ic_31 (by decide +kernel) lwC_in))))
theorem gc_RX10_X10_isFull_26 {c0 : Cond} : GoodIn (c0 :: lwC) (wsV RX10 26 RX10 yX10_isFull vmX10_isFull) := gdW ic_9 (by decide +kernel) (gdW ic_10 (by decide +kernel) (gdW ic_11 (by decide +kernel) (gdW ic_12 (by decide +kernel) (gdW ic_4 (by decide +kernel) lwC_in))))
theorem gc_RX10_X10_find_36 {c0 : Cond} : GoodIn (c0 :: lwC) (wsV RX10 36 RX10 yX10_find vmX10_find) := gdW ic_23 (by decide +kernel) (gdW ic_24 (by decide +kernel) (gdW ic_25 (by decide +kernel) (gdW ic_12 (by decide +kernel) (gdW ic_19 (by decide +kernel) lwC_in))))
theorem gc_RX10_X10_add_40 {c0 : Cond} : GoodIn (c0 :: lwC) (wsV RX10 40 RX10 yX10_add vmX10_add) := gdW ic_26 (by decide +kernel) (gdW ic_27 (by decide +kernel) (gdW ic_28 (by decide +kernel) (gdW ic_12 (by decide +kernel) (gdW ic_8 (by decide +kernel) lwC_in))))
theorem gc_RX11_X7_append_108 {c0 : Cond} : GoodIn (c0 :: lwC) (wsV RX11 108 RX7 yX7_append vmX7_append) := gdW ic_50 (by decide +kernel) (gdW ic_51 (by decide +kernel) (gdW ic_52 (by decide +kernel) (gdW ic_45 (by decide +kernel) (gdW ic_35 (by decide +kernel) lwC_in))))
theorem gc_RX11_X7_take_112 {c0 : Cond} : GoodIn (c0 :: lwC) (wsV RX11 112 RX7 yX7_take vmX7_take) := gdW ic_140 (by decide +kernel) (gdW ic_141 (by decide +kernel) (gdW ic_142 (by decide +kernel) (gdW ic_45 (by decide +kernel) (gdW ic_33 (by decide +kernel) lwC_in))))
theorem gc_RX11_X5_clear_117 {c0 : Cond} : GoodIn (c0 :: lwC) (wsV RX11 117 RX5 yX5_clear vmX5_clear) := gdW ic_561 (by decide +kernel) (gdW ic_562 (by decide +kernel) (gdW ic_563 (by decide +kernel) (gdW ic_248 (by decide +kernel) (gdW ic_264 (by decide +kernel) lwC_in))))
theorem gc_RX11_X4_read_124 {c0 : Cond} : GoodIn (c0 :: lwC) (wsV RX11 124 RX4 yX4_read vmX4_read) := gdW ic_564 (by decide +kernel) (gdW ic_565 (by decide +kernel) (gdW ic_566 (by decide +kernel) (gdW ic_359 (by decide +kernel) (gdW ic_544 (by decide +kernel) lwC_in))))
theorem gc_RX11_X9_turnParts_131 {c0 : Cond} : GoodIn (c0 :: lwC) (wsV RX11 131 RX9 yX9_turnParts vmX9_turnParts) := gdW ic_567 (by decide +kernel) (gdW ic_568 (by decide +kernel) (gdW ic_569 (by decide +kernel) (gdW ic_301 (by decide +kernel) (gdW ic_334 (by decide +kernel) lwC_in))))
theorem gc_RX11_X11_reformAt_138 {c0 : Cond} : GoodIn (c0 :: lwC) (wsV RX11 138 RX11 yX11_reformAt vmX11_reformAt) := gdW ic_61 (by decide +kernel) (gdW ic_62 (by decide +kernel) (gdW ic_63 (by decide +kernel) (gdW ic_64 (by decide +kernel) (gdW ic_54 (by decide +kernel) lwC_in))))
theorem gc_RX11_X11_areStages_160 {c0 : Cond} : GoodIn (c0 :: lwC) (wsV RX11 160 RX11 yX11_areStages vmX11_areStages) := gdW ic_337 (by decide +kernel) (gdW ic_338 (by decide +kernel) (gdW ic_339 (by decide +kernel) (gdW ic_64 (by decide +kernel) (gdW ic_97 (by decide +kernel) lwC_in))))
theorem gc_RX11_X7_isWord_164 {c0 : Cond} : GoodIn (c0 :: lwC) (wsV RX11 164 RX7 yX7_isWord vmX7_isWord) := gdW ic_143 (by decide +kernel) (gdW ic_144 (by decide +kernel) (gdW ic_145 (by decide +kernel) (gdW ic_45 (by decide +kernel) (gdW ic_37 (by decide +kernel) lwC_in))))
theorem gc_RX11_X9_through_168 {c0 : Cond} : GoodIn (c0 :: lwC) (wsV RX11 168 RX9 yX9_through vmX9_through) := gdW ic_341 (by decide +kernel) (gdW ic_342 (by decide +kernel) (gdW ic_343 (by decide +kernel) (gdW ic_301 (by decide +kernel) (gdW ic_328 (by decide +kernel) lwC_in))))
theorem gc_RX11_X10_copy_172 {c0 : Cond} : GoodIn (c0 :: lwC) (wsV RX11 172 RX10 yX10_copy vmX10_copy) := gdW ic_344 (by decide +kernel) (gdW ic_345 (by decide +kernel) (gdW ic_346 (by decide +kernel) (gdW ic_12 (by decide +kernel) (gdW ic_29 (by decide +kernel) lwC_in))))
theorem gc_RX11_X10_letterAt_176 {c0 : Cond} : GoodIn (c0 :: lwC) (wsV RX11 176 RX10 yX10_letterAt vmX10_letterAt) := gdW ic_136 (by decide +kernel) (gdW ic_137 (by decide +kernel) (gdW ic_138 (by decide +kernel) (gdW ic_12 (by decide +kernel) (gdW ic_32 (by decide +kernel) lwC_in))))
theorem gc_RX11_X10_find_180 {c0 : Cond} : GoodIn (c0 :: lwC) (wsV RX11 180 RX10 yX10_find vmX10_find) := gdW ic_146 (by decide +kernel) (gdW ic_24 (by decide +kernel) (gdW ic_25 (by decide +kernel) (gdW ic_12 (by decide +kernel) (gdW ic_19 (by decide +kernel) lwC_in))))
theorem gc_RX11_X5_isKept_184 {c0 : Cond} : GoodIn (c0 :: lwC) (wsV RX11 184 RX5 yX5_isKept vmX5_isKept) := gdW ic_245 (by decide +kernel) (gdW ic_246 (by decide +kernel) (gdW ic_247 (by decide +kernel) (gdW ic_248 (by decide +kernel) (gdW ic_239 (by decide +kernel) lwC_in))))
theorem gc_RX11_X3_find_187 {c0 : Cond} : GoodIn (c0 :: lwC) (wsV RX11 187 RX3 yX3_find vmX3_find) := gdW ic_242 (by decide +kernel) (gdW ic_243 (by decide +kernel) (gdW ic_244 (by decide +kernel) (gdW ic_168 (by decide +kernel) (gdW ic_235 (by decide +kernel) lwC_in))))
theorem gc_RX11_X3_lengthOf_194 {c0 : Cond} : GoodIn (c0 :: lwC) (wsV RX11 194 RX3 yX3_lengthOf vmX3_lengthOf) := gdW ic_175 (by decide +kernel) (gdW ic_176 (by decide +kernel) (gdW ic_177 (by decide +kernel) (gdW ic_168 (by decide +kernel) (gdW ic_164 (by decide +kernel) lwC_in))))
theorem gc_RX11_X10_isFull_200 {c0 : Cond} : GoodIn (c0 :: lwC) (wsV RX11 200 RX10 yX10_isFull vmX10_isFull) := gdW ic_147 (by decide +kernel) (gdW ic_10 (by decide +kernel) (gdW ic_11 (by decide +kernel) (gdW ic_12 (by decide +kernel) (gdW ic_4 (by decide +kernel) lwC_in))))
theorem gc_RX11_X10_add_204 {c0 : Cond} : GoodIn (c0 :: lwC) (wsV RX11 204 RX10 yX10_add vmX10_add) := gdW ic_148 (by decide +kernel) (gdW ic_27 (by decide +kernel) (gdW ic_28 (by decide +kernel) (gdW ic_12 (by decide +kernel) (gdW ic_8 (by decide +kernel) lwC_in))))
theorem gc_RX11_X11_isStage_208 {c0 : Cond} : GoodIn (c0 :: lwC) (wsV RX11 208 RX11 yX11_isStage vmX11_isStage) := gdW ic_98 (by decide +kernel) (gdW ic_99 (by decide +kernel) (gdW ic_100 (by decide +kernel) (gdW ic_64 (by decide +kernel) (gdW ic_96 (by decide +kernel) lwC_in))))
theorem gc_RX11_X0_fill_211 {c0 : Cond} : GoodIn (c0 :: lwC) (wsV RX11 211 RX0 yX0_fill vmX0_fill) := gdW ic_582 (by decide +kernel) (gdW ic_583 (by decide +kernel) (gdW ic_584 (by decide +kernel) (gdW ic_81 (by decide +kernel) (gdW ic_573 (by decide +kernel) lwC_in))))
theorem gc_RX11_X0_formsAt_215 {c0 : Cond} : GoodIn (c0 :: lwC) (wsV RX11 215 RX0 yX0_formsAt vmX0_formsAt) := gdW ic_585 (by decide +kernel) (gdW ic_79 (by decide +kernel) (gdW ic_80 (by decide +kernel) (gdW ic_81 (by decide +kernel) (gdW ic_74 (by decide +kernel) lwC_in))))
theorem gc_RX11_X0_collide_219 {c0 : Cond} : GoodIn (c0 :: lwC) (wsV RX11 219 RX0 yX0_collide vmX0_collide) := gdW ic_587 (by decide +kernel) (gdW ic_588 (by decide +kernel) (gdW ic_589 (by decide +kernel) (gdW ic_81 (by decide +kernel) (gdW ic_77 (by decide +kernel) lwC_in))))
theorem gc_RX11_X11_notePair_223 {c0 : Cond} : GoodIn (c0 :: lwC) (wsV RX11 223 RX11 yX11_notePair vmX11_notePair) := gdW ic_590 (by decide +kernel) (gdW ic_591 (by decide +kernel) (gdW ic_592 (by decide +kernel) (gdW ic_64 (by decide +kernel) (gdW ic_156 (by decide +kernel) lwC_in))))
theorem gc_RX11_X10_endsAlike_226 {c0 : Cond} : GoodIn (c0 :: lwC) (wsV RX11 226 RX10 yX10_endsAlike vmX10_endsAlike) := gdW ic_594 (by decide +kernel) (gdW ic_89 (by decide +kernel) (gdW ic_90 (by decide +kernel) (gdW ic_12 (by decide +kernel) (gdW ic_31 (by decide +kernel) lwC_in))))
theorem gc_RX11_X0_formsRhyme_230 {c0 : Cond} : GoodIn (c0 :: lwC) (wsV RX11 230 RX0 yX0_formsRhyme vmX0_formsRhyme) := gdW ic_595 (by decide +kernel) (gdW ic_596 (by decide +kernel) (gdW ic_597 (by decide +kernel) (gdW ic_81 (by decide +kernel) (gdW ic_87 (by decide +kernel) lwC_in))))
theorem gc_RX11_X0_isSuch_233 {c0 : Cond} : GoodIn (c0 :: lwC) (wsV RX11 233 RX0 yX0_isSuch vmX0_isSuch) := gdW ic_599 (by decide +kernel) (gdW ic_600 (by decide +kernel) (gdW ic_601 (by decide +kernel) (gdW ic_81 (by decide +kernel) (gdW ic_93 (by decide +kernel) lwC_in))))
theorem gc_RX11_X0_usesLaw_236 {c0 : Cond} : GoodIn (c0 :: lwC) (wsV RX11 236 RX0 yX0_usesLaw vmX0_usesLaw) := gdW ic_603 (by decide +kernel) (gdW ic_604 (by decide +kernel) (gdW ic_605 (by decide +kernel) (gdW ic_81 (by decide +kernel) (gdW ic_94 (by decide +kernel) lwC_in))))
theorem gc_RX11_X7_hasZero_239 {c0 : Cond} : GoodIn (c0 :: lwC) (wsV RX11 239 RX7 yX7_hasZero vmX7_hasZero) := gdW ic_469 (by decide +kernel) (gdW ic_470 (by decide +kernel) (gdW ic_471 (by decide +kernel) (gdW ic_45 (by decide +kernel) (gdW ic_41 (by decide +kernel) lwC_in))))
theorem gc_RX11_X8_begin_242 {c0 : Cond} : GoodIn (c0 :: lwC) (wsV RX11 242 RX8 yX8_begin vmX8_begin) := gdW ic_472 (by decide +kernel) (gdW ic_473 (by decide +kernel) (gdW ic_474 (by decide +kernel) (gdW ic_463 (by decide +kernel) (gdW ic_446 (by decide +kernel) lwC_in))))
theorem gc_RX11_X6_begin_246 {c0 : Cond} : GoodIn (c0 :: lwC) (wsV RX11 246 RX6 yX6_begin vmX6_begin) := gdW ic_475 (by decide +kernel) (gdW ic_476 (by decide +kernel) (gdW ic_477 (by decide +kernel) (gdW ic_133 (by decide +kernel) (gdW ic_420 (by decide +kernel) lwC_in))))
theorem gc_RX11_X8_next_248 {c0 : Cond} : GoodIn (c0 :: lwC) (wsV RX11 248 RX8 yX8_next vmX8_next) := gdW ic_481 (by decide +kernel) (gdW ic_482 (by decide +kernel) (gdW ic_483 (by decide +kernel) (gdW ic_463 (by decide +kernel) (gdW ic_464 (by decide +kernel) lwC_in))))
theorem gc_RX11_X6_leaveName_255 {c0 : Cond} : GoodIn (c0 :: lwC) (wsV RX11 255 RX6 yX6_leaveName vmX6_leaveName) := gdW ic_489 (by decide +kernel) (gdW ic_490 (by decide +kernel) (gdW ic_491 (by decide +kernel) (gdW ic_133 (by decide +kernel) (gdW ic_426 (by decide +kernel) lwC_in))))
theorem gc_RX11_X6_leaveLost_259 {c0 : Cond} : GoodIn (c0 :: lwC) (wsV RX11 259 RX6 yX6_leaveLost vmX6_leaveLost) := gdW ic_488 (by decide +kernel) (gdW ic_443 (by decide +kernel) (gdW ic_444 (by decide +kernel) (gdW ic_133 (by decide +kernel) (gdW ic_427 (by decide +kernel) lwC_in))))
theorem gc_RX11_X6_put_265 {c0 : Cond} : GoodIn (c0 :: lwC) (wsV RX11 265 RX6 yX6_put vmX6_put) := gdW ic_485 (by decide +kernel) (gdW ic_486 (by decide +kernel) (gdW ic_487 (by decide +kernel) (gdW ic_133 (by decide +kernel) (gdW ic_431 (by decide +kernel) lwC_in))))
theorem gc_RX11_X6_finish_269 {c0 : Cond} : GoodIn (c0 :: lwC) (wsV RX11 269 RX6 yX6_finish vmX6_finish) := gdW ic_478 (by decide +kernel) (gdW ic_479 (by decide +kernel) (gdW ic_480 (by decide +kernel) (gdW ic_133 (by decide +kernel) (gdW ic_445 (by decide +kernel) lwC_in))))
theorem gc_RX11_X6_byteAt_273 {c0 : Cond} : GoodIn (c0 :: lwC) (wsV RX11 273 RX6 yX6_byteAt vmX6_byteAt) := gdW ic_184 (by decide +kernel) (gdW ic_185 (by decide +kernel) (gdW ic_186 (by decide +kernel) (gdW ic_133 (by decide +kernel) (gdW ic_180 (by decide +kernel) lwC_in))))
theorem gc_RX11_X6_tallyOf_277 {c0 : Cond} : GoodIn (c0 :: lwC) (wsV RX11 277 RX6 yX6_tallyOf vmX6_tallyOf) := gdW ic_130 (by decide +kernel) (gdW ic_131 (by decide +kernel) (gdW ic_132 (by decide +kernel) (gdW ic_133 (by decide +kernel) (gdW ic_125 (by decide +kernel) lwC_in))))
theorem gc_RX11_X7_lines_280 {c0 : Cond} : GoodIn (c0 :: lwC) (wsV RX11 280 RX7 yX7_lines vmX7_lines) := gdW ic_607 (by decide +kernel) (gdW ic_608 (by decide +kernel) (gdW ic_609 (by decide +kernel) (gdW ic_45 (by decide +kernel) (gdW ic_46 (by decide +kernel) lwC_in))))
theorem gc_RX11_X2_begin_283 {c0 : Cond} : GoodIn (c0 :: lwC) (wsV RX11 283 RX2 yX2_begin vmX2_begin) := gdW ic_610 (by decide +kernel) (gdW ic_611 (by decide +kernel) (gdW ic_612 (by decide +kernel) (gdW ic_119 (by decide +kernel) (gdW ic_195 (by decide +kernel) lwC_in))))
theorem gc_RX11_X11_chargeWord_285 {c0 : Cond} : GoodIn (c0 :: lwC) (wsV RX11 285 RX11 yX11_chargeWord vmX11_chargeWord) := gdW ic_616 (by decide +kernel) (gdW ic_617 (by decide +kernel) (gdW ic_618 (by decide +kernel) (gdW ic_64 (by decide +kernel) (gdW ic_105 (by decide +kernel) lwC_in))))
theorem gc_RX11_X2_settle_288 {c0 : Cond} : GoodIn (c0 :: lwC) (wsV RX11 288 RX2 yX2_settle vmX2_settle) := gdW ic_613 (by decide +kernel) (gdW ic_614 (by decide +kernel) (gdW ic_615 (by decide +kernel) (gdW ic_119 (by decide +kernel) (gdW ic_209 (by decide +kernel) lwC_in))))
theorem gc_RX11_X2_stageOf_291 {c0 : Cond} : GoodIn (c0 :: lwC) (wsV RX11 291 RX2 yX2_stageOf vmX2_stageOf) := gdW ic_153 (by decide +kernel) (gdW ic_154 (by decide +kernel) (gdW ic_155 (by decide +kernel) (gdW ic_119 (by decide +kernel) (gdW ic_149 (by decide +kernel) lwC_in))))
theorem gc_RX11_X0_hasForm_294 {c0 : Cond} : GoodIn (c0 :: lwC) (wsV RX11 294 RX0 yX0_hasForm vmX0_hasForm) := gdW ic_111 (by decide +kernel) (gdW ic_112 (by decide +kernel) (gdW ic_113 (by decide +kernel) (gdW ic_81 (by decide +kernel) (gdW ic_91 (by decide +kernel) lwC_in))))
theorem gc_RX11_X2_charge_301 {c0 : Cond} : GoodIn (c0 :: lwC) (wsV RX11 301 RX2 yX2_charge vmX2_charge) := gdW ic_116 (by decide +kernel) (gdW ic_117 (by decide +kernel) (gdW ic_118 (by decide +kernel) (gdW ic_119 (by decide +kernel) (gdW ic_101 (by decide +kernel) lwC_in))))
theorem gc_RX2_X2_cheapest_43 {c0 : Cond} : GoodIn (c0 :: lwC) (wsV RX2 43 RX2 yX2_cheapest vmX2_cheapest) := gdW ic_210 (by decide +kernel) (gdW ic_211 (by decide +kernel) (gdW ic_212 (by decide +kernel) (gdW ic_119 (by decide +kernel) (gdW ic_205 (by decide +kernel) lwC_in))))
theorem gc_RX2_X2_cost_47 {c0 : Cond} : GoodIn (c0 :: lwC) (wsV RX2 47 RX2 yX2_cost vmX2_cost) := gdW ic_206 (by decide +kernel) (gdW ic_207 (by decide +kernel) (gdW ic_208 (by decide +kernel) (gdW ic_119 (by decide +kernel) (gdW ic_203 (by decide +kernel) lwC_in))))
theorem gc_RX3_X3_markFitting_43 {c0 : Cond} : GoodIn (c0 :: lwC) (wsV RX3 43 RX3 yX3_markFitting vmX3_markFitting) := gdW ic_236 (by decide +kernel) (gdW ic_237 (by decide +kernel) (gdW ic_238 (by decide +kernel) (gdW ic_168 (by decide +kernel) (gdW ic_217 (by decide +kernel) lwC_in))))
theorem gc_RX3_X3_walk_47 {c0 : Cond} : GoodIn (c0 :: lwC) (wsV RX3 47 RX3 yX3_walk vmX3_walk) := gdW ic_229 (by decide +kernel) (gdW ic_230 (by decide +kernel) (gdW ic_231 (by decide +kernel) (gdW ic_168 (by decide +kernel) (gdW ic_228 (by decide +kernel) lwC_in))))
theorem gc_RX3_X3_pick_51 {c0 : Cond} : GoodIn (c0 :: lwC) (wsV RX3 51 RX3 yX3_pick vmX3_pick) := gdW ic_165 (by decide +kernel) (gdW ic_166 (by decide +kernel) (gdW ic_167 (by decide +kernel) (gdW ic_168 (by decide +kernel) (gdW ic_160 (by decide +kernel) lwC_in))))
theorem gc_RX3_X10_standsIn_64 {c0 : Cond} : GoodIn (c0 :: lwC) (wsV RX3 64 RX10 yX10_standsIn vmX10_standsIn) := gdW ic_222 (by decide +kernel) (gdW ic_223 (by decide +kernel) (gdW ic_224 (by decide +kernel) (gdW ic_12 (by decide +kernel) (gdW ic_30 (by decide +kernel) lwC_in))))
theorem gc_RX3_X3_note_68 {c0 : Cond} : GoodIn (c0 :: lwC) (wsV RX3 68 RX3 yX3_note vmX3_note) := gdW ic_232 (by decide +kernel) (gdW ic_233 (by decide +kernel) (gdW ic_234 (by decide +kernel) (gdW ic_168 (by decide +kernel) (gdW ic_225 (by decide +kernel) lwC_in))))
theorem gc_RX4_X4_nextToken_46 {c0 : Cond} : GoodIn (c0 :: lwC) (wsV RX4 46 RX4 yX4_nextToken vmX4_nextToken) := gdW ic_378 (by decide +kernel) (gdW ic_379 (by decide +kernel) (gdW ic_380 (by decide +kernel) (gdW ic_359 (by decide +kernel) (gdW ic_354 (by decide +kernel) lwC_in))))
theorem gc_RX4_X4_wordIs_51 {c0 : Cond} : GoodIn (c0 :: lwC) (wsV RX4 51 RX4 yX4_wordIs vmX4_wordIs) := gdW ic_390 (by decide +kernel) (gdW ic_391 (by decide +kernel) (gdW ic_392 (by decide +kernel) (gdW ic_359 (by decide +kernel) (gdW ic_361 (by decide +kernel) lwC_in))))
theorem gc_RX4_X4_readKeep_55 {c0 : Cond} : GoodIn (c0 :: lwC) (wsV RX4 55 RX4 yX4_readKeep vmX4_readKeep) := gdW ic_555 (by decide +kernel) (gdW ic_556 (by decide +kernel) (gdW ic_557 (by decide +kernel) (gdW ic_359 (by decide +kernel) (gdW ic_394 (by decide +kernel) lwC_in))))
theorem gc_RX4_X4_readList_61 {c0 : Cond} : GoodIn (c0 :: lwC) (wsV RX4 61 RX4 yX4_readList vmX4_readList) := gdW ic_552 (by decide +kernel) (gdW ic_553 (by decide +kernel) (gdW ic_554 (by decide +kernel) (gdW ic_359 (by decide +kernel) (gdW ic_412 (by decide +kernel) lwC_in))))
theorem gc_RX4_X4_readPart_66 {c0 : Cond} : GoodIn (c0 :: lwC) (wsV RX4 66 RX4 yX4_readPart vmX4_readPart) := gdW ic_549 (by decide +kernel) (gdW ic_550 (by decide +kernel) (gdW ic_551 (by decide +kernel) (gdW ic_359 (by decide +kernel) (gdW ic_409 (by decide +kernel) lwC_in))))
theorem gc_RX4_X4_readLaw_71 {c0 : Cond} : GoodIn (c0 :: lwC) (wsV RX4 71 RX4 yX4_readLaw vmX4_readLaw) := gdW ic_546 (by decide +kernel) (gdW ic_547 (by decide +kernel) (gdW ic_548 (by decide +kernel) (gdW ic_359 (by decide +kernel) (gdW ic_532 (by decide +kernel) lwC_in))))
theorem gc_RX4_X4_blame_74 {c0 : Cond} : GoodIn (c0 :: lwC) (wsV RX4 74 RX4 yX4_blame vmX4_blame) := gdW ic_373 (by decide +kernel) (gdW ic_374 (by decide +kernel) (gdW ic_375 (by decide +kernel) (gdW ic_359 (by decide +kernel) (gdW ic_369 (by decide +kernel) lwC_in))))
theorem gc_RX4_X10_isFull_84 {c0 : Cond} : GoodIn (c0 :: lwC) (wsV RX4 84 RX10 yX10_isFull vmX10_isFull) := gdW ic_396 (by decide +kernel) (gdW ic_10 (by decide +kernel) (gdW ic_11 (by decide +kernel) (gdW ic_12 (by decide +kernel) (gdW ic_4 (by decide +kernel) lwC_in))))
theorem gc_RX4_X4_hasRoom_90 {c0 : Cond} : GoodIn (c0 :: lwC) (wsV RX4 90 RX4 yX4_hasRoom vmX4_hasRoom) := gdW ic_397 (by decide +kernel) (gdW ic_398 (by decide +kernel) (gdW ic_399 (by decide +kernel) (gdW ic_359 (by decide +kernel) (gdW ic_372 (by decide +kernel) lwC_in))))
theorem gc_RX4_X4_takeNew_94 {c0 : Cond} : GoodIn (c0 :: lwC) (wsV RX4 94 RX4 yX4_takeNew vmX4_takeNew) := gdW ic_400 (by decide +kernel) (gdW ic_401 (by decide +kernel) (gdW ic_402 (by decide +kernel) (gdW ic_359 (by decide +kernel) (gdW ic_381 (by decide +kernel) lwC_in))))
theorem gc_RX4_X5_addKept_98 {c0 : Cond} : GoodIn (c0 :: lwC) (wsV RX4 98 RX5 yX5_addKept vmX5_addKept) := gdW ic_403 (by decide +kernel) (gdW ic_404 (by decide +kernel) (gdW ic_405 (by decide +kernel) (gdW ic_248 (by decide +kernel) (gdW ic_258 (by decide +kernel) lwC_in))))
theorem gc_RX4_X4_takeClose_102 {c0 : Cond} : GoodIn (c0 :: lwC) (wsV RX4 102 RX4 yX4_takeClose vmX4_takeClose) := gdW ic_406 (by decide +kernel) (gdW ic_407 (by decide +kernel) (gdW ic_408 (by decide +kernel) (gdW ic_359 (by decide +kernel) (gdW ic_393 (by decide +kernel) lwC_in))))
theorem gc_RX4_X5_addListed_105 {c0 : Cond} : GoodIn (c0 :: lwC) (wsV RX4 105 RX5 yX5_addListed vmX5_addListed) := gdW ic_413 (by decide +kernel) (gdW ic_414 (by decide +kernel) (gdW ic_415 (by decide +kernel) (gdW ic_248 (by decide +kernel) (gdW ic_263 (by decide +kernel) lwC_in))))
theorem gc_RX4_X4_takeTo_108 {c0 : Cond} : GoodIn (c0 :: lwC) (wsV RX4 108 RX4 yX4_takeTo vmX4_takeTo) := gdW ic_416 (by decide +kernel) (gdW ic_417 (by decide +kernel) (gdW ic_418 (by decide +kernel) (gdW ic_359 (by decide +kernel) (gdW ic_389 (by decide +kernel) lwC_in))))
theorem gc_RX4_X4_takeLetters_111 {c0 : Cond} : GoodIn (c0 :: lwC) (wsV RX4 111 RX4 yX4_takeLetters vmX4_takeLetters) := gdW ic_382 (by decide +kernel) (gdW ic_383 (by decide +kernel) (gdW ic_384 (by decide +kernel) (gdW ic_359 (by decide +kernel) (gdW ic_377 (by decide +kernel) lwC_in))))
theorem gc_RX4_X10_add_117 {c0 : Cond} : GoodIn (c0 :: lwC) (wsV RX4 117 RX10 yX10_add vmX10_add) := gdW ic_411 (by decide +kernel) (gdW ic_27 (by decide +kernel) (gdW ic_28 (by decide +kernel) (gdW ic_12 (by decide +kernel) (gdW ic_8 (by decide +kernel) lwC_in))))
theorem gc_RX4_X4_letters_126 {c0 : Cond} : GoodIn (c0 :: lwC) (wsV RX4 126 RX4 yX4_letters vmX4_letters) := gdW ic_526 (by decide +kernel) (gdW ic_527 (by decide +kernel) (gdW ic_528 (by decide +kernel) (gdW ic_359 (by decide +kernel) (gdW ic_521 (by decide +kernel) lwC_in))))
theorem gc_RX4_X5_addLaw_135 {c0 : Cond} : GoodIn (c0 :: lwC) (wsV RX4 135 RX5 yX5_addLaw vmX5_addLaw) := gdW ic_541 (by decide +kernel) (gdW ic_542 (by decide +kernel) (gdW ic_543 (by decide +kernel) (gdW ic_248 (by decide +kernel) (gdW ic_249 (by decide +kernel) lwC_in))))
theorem gc_RX4_X4_readSide_139 {c0 : Cond} : GoodIn (c0 :: lwC) (wsV RX4 139 RX4 yX4_readSide vmX4_readSide) := gdW ic_538 (by decide +kernel) (gdW ic_539 (by decide +kernel) (gdW ic_540 (by decide +kernel) (gdW ic_359 (by decide +kernel) (gdW ic_524 (by decide +kernel) lwC_in))))
theorem gc_RX4_X4_isNew_147 {c0 : Cond} : GoodIn (c0 :: lwC) (wsV RX4 147 RX4 yX4_isNew vmX4_isNew) := gdW ic_386 (by decide +kernel) (gdW ic_387 (by decide +kernel) (gdW ic_388 (by decide +kernel) (gdW ic_359 (by decide +kernel) (gdW ic_376 (by decide +kernel) lwC_in))))
theorem gc_RX4_X10_find_165 {c0 : Cond} : GoodIn (c0 :: lwC) (wsV RX4 165 RX10 yX10_find vmX10_find) := gdW ic_385 (by decide +kernel) (gdW ic_24 (by decide +kernel) (gdW ic_25 (by decide +kernel) (gdW ic_12 (by decide +kernel) (gdW ic_19 (by decide +kernel) lwC_in))))
theorem gc_RX4_J0_length_8abf5_177 {c0 : Cond} : GoodIn (c0 :: lwC) (wsV RX4 177 RJ0 yJ0_length_8abf5 vmJ0_length_8abf5) := gdW ic_362 (by decide +kernel) (gdW ic_363 (by decide +kernel) (gdW ic_364 (by decide +kernel) (gdW ic_365 (by decide +kernel) (gdW ic_0 (by decide +kernel) lwM_inC))))
theorem gc_RX4_J0_charAt_5068e_182 {c0 : Cond} : GoodIn (c0 :: lwC) (wsV RX4 182 RJ0 yJ0_charAt_5068e vmJ0_charAt_5068e) := gdW ic_366 (by decide +kernel) (gdW ic_367 (by decide +kernel) (gdW ic_368 (by decide +kernel) (gdW ic_365 (by decide +kernel) (gdW ic_1 (by decide +kernel) lwM_inC))))
theorem gc_RX4_X4_scanRun_186 {c0 : Cond} : GoodIn (c0 :: lwC) (wsV RX4 186 RX4 yX4_scanRun vmX4_scanRun) := gdW ic_356 (by decide +kernel) (gdW ic_357 (by decide +kernel) (gdW ic_358 (by decide +kernel) (gdW ic_359 (by decide +kernel) (gdW ic_347 (by decide +kernel) lwC_in))))
theorem gc_RX5_X5_addEntry_59 {c0 : Cond} : GoodIn (c0 :: lwC) (wsV RX5 59 RX5 yX5_addEntry vmX5_addEntry) := gdW ic_259 (by decide +kernel) (gdW ic_260 (by decide +kernel) (gdW ic_261 (by decide +kernel) (gdW ic_248 (by decide +kernel) (gdW ic_252 (by decide +kernel) lwC_in))))
theorem gc_RX5_X10_add_63 {c0 : Cond} : GoodIn (c0 :: lwC) (wsV RX5 63 RX10 yX10_add vmX10_add) := gdW ic_257 (by decide +kernel) (gdW ic_27 (by decide +kernel) (gdW ic_28 (by decide +kernel) (gdW ic_12 (by decide +kernel) (gdW ic_8 (by decide +kernel) lwC_in))))
theorem gc_RX5_X10_isFull_67 {c0 : Cond} : GoodIn (c0 :: lwC) (wsV RX5 67 RX10 yX10_isFull vmX10_isFull) := gdW ic_254 (by decide +kernel) (gdW ic_10 (by decide +kernel) (gdW ic_11 (by decide +kernel) (gdW ic_12 (by decide +kernel) (gdW ic_4 (by decide +kernel) lwC_in))))
theorem gc_RX6_X6_leaveLost_53 {c0 : Cond} : GoodIn (c0 :: lwC) (wsV RX6 53 RX6 yX6_leaveLost vmX6_leaveLost) := gdW ic_442 (by decide +kernel) (gdW ic_443 (by decide +kernel) (gdW ic_444 (by decide +kernel) (gdW ic_133 (by decide +kernel) (gdW ic_427 (by decide +kernel) lwC_in))))
theorem gc_RX6_X10_standsIn_70 {c0 : Cond} : GoodIn (c0 :: lwC) (wsV RX6 70 RX10 yX10_standsIn vmX10_standsIn) := gdW ic_441 (by decide +kernel) (gdW ic_223 (by decide +kernel) (gdW ic_224 (by decide +kernel) (gdW ic_12 (by decide +kernel) (gdW ic_30 (by decide +kernel) lwC_in))))
theorem gc_RX6_X6_append_74 {c0 : Cond} : GoodIn (c0 :: lwC) (wsV RX6 74 RX6 yX6_append vmX6_append) := gdW ic_437 (by decide +kernel) (gdW ic_438 (by decide +kernel) (gdW ic_439 (by decide +kernel) (gdW ic_133 (by decide +kernel) (gdW ic_428 (by decide +kernel) lwC_in))))
theorem gc_RX7_X7_occurrences_25 {c0 : Cond} : GoodIn (c0 :: lwC) (wsV RX7 25 RX7 yX7_occurrences vmX7_occurrences) := gdW ic_42 (by decide +kernel) (gdW ic_43 (by decide +kernel) (gdW ic_44 (by decide +kernel) (gdW ic_45 (by decide +kernel) (gdW ic_40 (by decide +kernel) lwC_in))))
theorem gc_RX8_X8_takeWord_48 {c0 : Cond} : GoodIn (c0 :: lwC) (wsV RX8 48 RX8 yX8_takeWord vmX8_takeWord) := gdW ic_465 (by decide +kernel) (gdW ic_466 (by decide +kernel) (gdW ic_467 (by decide +kernel) (gdW ic_463 (by decide +kernel) (gdW ic_457 (by decide +kernel) lwC_in))))
theorem gc_RX9_X9_runLaws_66 {c0 : Cond} : GoodIn (c0 :: lwC) (wsV RX9 66 RX9 yX9_runLaws vmX9_runLaws) := gdW ic_318 (by decide +kernel) (gdW ic_319 (by decide +kernel) (gdW ic_320 (by decide +kernel) (gdW ic_301 (by decide +kernel) (gdW ic_293 (by decide +kernel) lwC_in))))
theorem gc_RX9_X10_add_81 {c0 : Cond} : GoodIn (c0 :: lwC) (wsV RX9 81 RX10 yX10_add vmX10_add) := gdW ic_335 (by decide +kernel) (gdW ic_27 (by decide +kernel) (gdW ic_28 (by decide +kernel) (gdW ic_12 (by decide +kernel) (gdW ic_8 (by decide +kernel) lwC_in))))
theorem gc_RX9_X10_addForm_85 {c0 : Cond} : GoodIn (c0 :: lwC) (wsV RX9 85 RX10 yX10_addForm vmX10_addForm) := gdW ic_274 (by decide +kernel) (gdW ic_275 (by decide +kernel) (gdW ic_276 (by decide +kernel) (gdW ic_12 (by decide +kernel) (gdW ic_22 (by decide +kernel) lwC_in))))
theorem gc_RX9_X9_turnForms_94 {c0 : Cond} : GoodIn (c0 :: lwC) (wsV RX9 94 RX9 yX9_turnForms vmX9_turnForms) := gdW ic_331 (by decide +kernel) (gdW ic_332 (by decide +kernel) (gdW ic_333 (by decide +kernel) (gdW ic_301 (by decide +kernel) (gdW ic_324 (by decide +kernel) lwC_in))))
theorem gc_RX9_X9_turnWord_98 {c0 : Cond} : GoodIn (c0 :: lwC) (wsV RX9 98 RX9 yX9_turnWord vmX9_turnWord) := gdW ic_325 (by decide +kernel) (gdW ic_326 (by decide +kernel) (gdW ic_327 (by decide +kernel) (gdW ic_301 (by decide +kernel) (gdW ic_310 (by decide +kernel) lwC_in))))
theorem gc_RX9_X10_find_105 {c0 : Cond} : GoodIn (c0 :: lwC) (wsV RX9 105 RX10 yX10_find vmX10_find) := gdW ic_311 (by decide +kernel) (gdW ic_24 (by decide +kernel) (gdW ic_25 (by decide +kernel) (gdW ic_12 (by decide +kernel) (gdW ic_19 (by decide +kernel) lwC_in))))
theorem gc_RX9_X9_addEntry_109 {c0 : Cond} : GoodIn (c0 :: lwC) (wsV RX9 109 RX9 yX9_addEntry vmX9_addEntry) := gdW ic_321 (by decide +kernel) (gdW ic_322 (by decide +kernel) (gdW ic_323 (by decide +kernel) (gdW ic_301 (by decide +kernel) (gdW ic_268 (by decide +kernel) lwC_in))))
theorem gc_RX9_X3_find_113 {c0 : Cond} : GoodIn (c0 :: lwC) (wsV RX9 113 RX3 yX3_find vmX3_find) := gdW ic_313 (by decide +kernel) (gdW ic_243 (by decide +kernel) (gdW ic_244 (by decide +kernel) (gdW ic_168 (by decide +kernel) (gdW ic_235 (by decide +kernel) lwC_in))))
theorem gc_RX9_X9_turnParting_117 {c0 : Cond} : GoodIn (c0 :: lwC) (wsV RX9 117 RX9 yX9_turnParting vmX9_turnParting) := gdW ic_315 (by decide +kernel) (gdW ic_316 (by decide +kernel) (gdW ic_317 (by decide +kernel) (gdW ic_301 (by decide +kernel) (gdW ic_302 (by decide +kernel) lwC_in))))
theorem gc_RX9_X5_isKept_121 {c0 : Cond} : GoodIn (c0 :: lwC) (wsV RX9 121 RX5 yX5_isKept vmX5_isKept) := gdW ic_269 (by decide +kernel) (gdW ic_246 (by decide +kernel) (gdW ic_247 (by decide +kernel) (gdW ic_248 (by decide +kernel) (gdW ic_239 (by decide +kernel) lwC_in))))
theorem gc_RX9_X3_pick_131 {c0 : Cond} : GoodIn (c0 :: lwC) (wsV RX9 131 RX3 yX3_pick vmX3_pick) := gdW ic_307 (by decide +kernel) (gdW ic_166 (by decide +kernel) (gdW ic_167 (by decide +kernel) (gdW ic_168 (by decide +kernel) (gdW ic_160 (by decide +kernel) lwC_in))))
theorem gc_RX9_X9_apply_150 {c0 : Cond} : GoodIn (c0 :: lwC) (wsV RX9 150 RX9 yX9_apply vmX9_apply) := gdW ic_298 (by decide +kernel) (gdW ic_299 (by decide +kernel) (gdW ic_300 (by decide +kernel) (gdW ic_301 (by decide +kernel) (gdW ic_279 (by decide +kernel) lwC_in))))
theorem gc_RX9_X1_standsAt_154 {c0 : Cond} : GoodIn (c0 :: lwC) (wsV RX9 154 RX1 yX1_standsAt vmX1_standsAt) := gdW ic_283 (by decide +kernel) (gdW ic_284 (by decide +kernel) (gdW ic_285 (by decide +kernel) (gdW ic_286 (by decide +kernel) (gdW ic_187 (by decide +kernel) lwC_in))))
