theorem dX12_reform_71 : decode cX12_reform 71 = .ok (.bipush 6, 2) := by decide +kernel
theorem dX12_reform_73 : decode cX12_reform 73 = .ok (.iconst 0, 1) := by decide +kernel
theorem dX12_reform_74 : decode cX12_reform 74 = .ok (.iastore, 1) := by decide +kernel
theorem dX12_reform_75 : decode cX12_reform 75 = .ok (.aload_n 0, 1) := by decide +kernel
theorem dX12_reform_76 : decode cX12_reform 76 = .ok (.getfield 27, 3) := by decide +kernel
theorem dX12_reform_79 : decode cX12_reform 79 = .ok (.bipush 6, 2) := by decide +kernel
theorem dX12_reform_81 : decode cX12_reform 81 = .ok (.iconst 0, 1) := by decide +kernel
theorem dX12_reform_82 : decode cX12_reform 82 = .ok (.iastore, 1) := by decide +kernel
theorem dX12_reform_83 : decode cX12_reform 83 = .ok (.aload_n 0, 1) := by decide +kernel
theorem dX12_reform_84 : decode cX12_reform 84 = .ok (.iconst 0, 1) := by decide +kernel
theorem dX12_reform_85 : decode cX12_reform 85 = .ok (.putfield 174, 3) := by decide +kernel
theorem dX12_reform_88 : decode cX12_reform 88 = .ok (.aload_n 0, 1) := by decide +kernel
theorem dX12_reform_89 : decode cX12_reform 89 = .ok (.invokevirtual 200, 3) := by decide +kernel
theorem dX12_reform_92 : decode cX12_reform 92 = .ok (.aload_n 0, 1) := by decide +kernel
theorem dX12_reform_93 : decode cX12_reform 93 = .ok (.getfield 180, 3) := by decide +kernel
theorem dX12_reform_96 : decode cX12_reform 96 = .ok (.iconst 4, 1) := by decide +kernel
theorem dX12_reform_97 : decode cX12_reform 97 = .ok (.if_icmp .eq 12, 3) := by decide +kernel
theorem dX12_reform_109 : decode cX12_reform 109 = .ok (.aload_n 0, 1) := by decide +kernel
theorem dX12_reform_110 : decode cX12_reform 110 = .ok (.getfield 222, 3) := by decide +kernel
theorem dX12_reform_113 : decode cX12_reform 113 = .ok (.bipush 6, 2) := by decide +kernel
theorem dX12_reform_115 : decode cX12_reform 115 = .ok (.if_icmp .ne 6, 3) := by decide +kernel
theorem dX12_reform_121 : decode cX12_reform 121 = .ok (.aload_n 0, 1) := by decide +kernel
theorem dX12_reform_122 : decode cX12_reform 122 = .ok (.getfield 222, 3) := by decide +kernel
theorem dX12_reform_125 : decode cX12_reform 125 = .ok (.istore_n 2, 1) := by decide +kernel
theorem dX12_reform_126 : decode cX12_reform 126 = .ok (.aload_n 0, 1) := by decide +kernel
theorem dX12_reform_127 : decode cX12_reform 127 = .ok (.getfield 17, 3) := by decide +kernel
theorem dX12_reform_130 : decode cX12_reform 130 = .ok (.iload_n 2, 1) := by decide +kernel
theorem dX12_reform_131 : decode cX12_reform 131 = .ok (.iload_n 1, 1) := by decide +kernel
theorem dX12_reform_132 : decode cX12_reform 132 = .ok (.iastore, 1) := by decide +kernel
theorem dX12_reform_133 : decode cX12_reform 133 = .ok (.aload_n 0, 1) := by decide +kernel
theorem dX12_reform_134 : decode cX12_reform 134 = .ok (.getfield 21, 3) := by decide +kernel
theorem dX12_reform_137 : decode cX12_reform 137 = .ok (.iload_n 2, 1) := by decide +kernel
theorem dX12_reform_138 : decode cX12_reform 138 = .ok (.aload_n 0, 1) := by decide +kernel
theorem dX12_reform_139 : decode cX12_reform 139 = .ok (.getfield 21, 3) := by decide +kernel
theorem dX12_reform_142 : decode cX12_reform 142 = .ok (.bipush 6, 2) := by decide +kernel
theorem dX12_reform_144 : decode cX12_reform 144 = .ok (.iaload, 1) := by decide +kernel
theorem dX12_reform_145 : decode cX12_reform 145 = .ok (.iastore, 1) := by decide +kernel
theorem dX12_reform_146 : decode cX12_reform 146 = .ok (.aload_n 0, 1) := by decide +kernel
theorem dX12_reform_147 : decode cX12_reform 147 = .ok (.getfield 24, 3) := by decide +kernel
theorem dX12_reform_150 : decode cX12_reform 150 = .ok (.iload_n 2, 1) := by decide +kernel
theorem dX12_reform_151 : decode cX12_reform 151 = .ok (.aload_n 0, 1) := by decide +kernel
theorem dX12_reform_152 : decode cX12_reform 152 = .ok (.getfield 24, 3) := by decide +kernel
theorem dX12_reform_155 : decode cX12_reform 155 = .ok (.bipush 6, 2) := by decide +kernel
theorem dX12_reform_157 : decode cX12_reform 157 = .ok (.iaload, 1) := by decide +kernel
theorem dX12_reform_158 : decode cX12_reform 158 = .ok (.iastore, 1) := by decide +kernel
theorem dX12_reform_159 : decode cX12_reform 159 = .ok (.aload_n 0, 1) := by decide +kernel
theorem dX12_reform_160 : decode cX12_reform 160 = .ok (.getfield 27, 3) := by decide +kernel
theorem dX12_reform_163 : decode cX12_reform 163 = .ok (.iload_n 2, 1) := by decide +kernel
theorem dX12_reform_164 : decode cX12_reform 164 = .ok (.aload_n 0, 1) := by decide +kernel
theorem dX12_reform_165 : decode cX12_reform 165 = .ok (.getfield 27, 3) := by decide +kernel
theorem dX12_reform_168 : decode cX12_reform 168 = .ok (.bipush 6, 2) := by decide +kernel
theorem dX12_reform_170 : decode cX12_reform 170 = .ok (.iaload, 1) := by decide +kernel
theorem dX12_reform_171 : decode cX12_reform 171 = .ok (.iastore, 1) := by decide +kernel
theorem dX12_reform_172 : decode cX12_reform 172 = .ok (.iconst 0, 1) := by decide +kernel
theorem dX12_reform_173 : decode cX12_reform 173 = .ok (.istore_n 3, 1) := by decide +kernel
theorem dX12_reform_174 : decode cX12_reform 174 = .ok (.iload_n 3, 1) := by decide +kernel
theorem dX12_reform_175 : decode cX12_reform 175 = .ok (.iconst 4, 1) := by decide +kernel
theorem dX12_reform_176 : decode cX12_reform 176 = .ok (.aload_n 0, 1) := by decide +kernel
theorem dX12_reform_177 : decode cX12_reform 177 = .ok (.getfield 21, 3) := by decide +kernel
theorem dX12_reform_180 : decode cX12_reform 180 = .ok (.iload_n 2, 1) := by decide +kernel
theorem dX12_reform_181 : decode cX12_reform 181 = .ok (.iaload, 1) := by decide +kernel
theorem dX12_reform_182 : decode cX12_reform 182 = .ok (.imul, 1) := by decide +kernel
theorem dX12_reform_183 : decode cX12_reform 183 = .ok (.if_icmp .ge 32, 3) := by decide +kernel
theorem dX12_reform_215 : decode cX12_reform 215 = .ok (.iconst 0, 1) := by decide +kernel
theorem dX12_reform_216 : decode cX12_reform 216 = .ok (.istore_n 3, 1) := by decide +kernel
theorem dX12_reform_217 : decode cX12_reform 217 = .ok (.iload_n 3, 1) := by decide +kernel
theorem dX12_reform_218 : decode cX12_reform 218 = .ok (.aload_n 0, 1) := by decide +kernel
theorem dX12_reform_219 : decode cX12_reform 219 = .ok (.getfield 21, 3) := by decide +kernel
theorem dX12_reform_222 : decode cX12_reform 222 = .ok (.iload_n 2, 1) := by decide +kernel
theorem dX12_reform_223 : decode cX12_reform 223 = .ok (.iaload, 1) := by decide +kernel
theorem dX12_reform_224 : decode cX12_reform 224 = .ok (.if_icmp .ge 51, 3) := by decide +kernel
theorem dX12_reform_275 : decode cX12_reform 275 = .ok (.iconst 0, 1) := by decide +kernel
theorem dX12_reform_276 : decode cX12_reform 276 = .ok (.istore_n 3, 1) := by decide +kernel
theorem dX12_reform_277 : decode cX12_reform 277 = .ok (.iload_n 3, 1) := by decide +kernel
theorem dX12_reform_278 : decode cX12_reform 278 = .ok (.aload_n 0, 1) := by decide +kernel
theorem dX12_reform_279 : decode cX12_reform 279 = .ok (.getfield 24, 3) := by decide +kernel
theorem dX12_reform_282 : decode cX12_reform 282 = .ok (.iload_n 2, 1) := by decide +kernel
theorem dX12_reform_283 : decode cX12_reform 283 = .ok (.iaload, 1) := by decide +kernel
theorem dX12_reform_284 : decode cX12_reform 284 = .ok (.if_icmp .ge 31, 3) := by decide +kernel
theorem dX12_reform_315 : decode cX12_reform 315 = .ok (.iconst 0, 1) := by decide +kernel
theorem dX12_reform_316 : decode cX12_reform 316 = .ok (.istore_n 3, 1) := by decide +kernel
theorem dX12_reform_317 : decode cX12_reform 317 = .ok (.iload_n 3, 1) := by decide +kernel
theorem dX12_reform_318 : decode cX12_reform 318 = .ok (.iconst 2, 1) := by decide +kernel
theorem dX12_reform_319 : decode cX12_reform 319 = .ok (.aload_n 0, 1) := by decide +kernel
theorem dX12_reform_320 : decode cX12_reform 320 = .ok (.getfield 27, 3) := by decide +kernel
theorem dX12_reform_323 : decode cX12_reform 323 = .ok (.iload_n 2, 1) := by decide +kernel
theorem dX12_reform_324 : decode cX12_reform 324 = .ok (.iaload, 1) := by decide +kernel
theorem dX12_reform_325 : decode cX12_reform 325 = .ok (.imul, 1) := by decide +kernel
theorem dX12_reform_326 : decode cX12_reform 326 = .ok (.if_icmp .ge 31, 3) := by decide +kernel
theorem dX12_reform_357 : decode cX12_reform 357 = .ok (.aload_n 0, 1) := by decide +kernel
theorem dX12_reform_358 : decode cX12_reform 358 = .ok (.dup, 1) := by decide +kernel
theorem dX12_reform_359 : decode cX12_reform 359 = .ok (.getfield 222, 3) := by decide +kernel
theorem dX12_reform_362 : decode cX12_reform 362 = .ok (.iconst 1, 1) := by decide +kernel
theorem dX12_reform_363 : decode cX12_reform 363 = .ok (.iadd, 1) := by decide +kernel
theorem dX12_reform_364 : decode cX12_reform 364 = .ok (.putfield 222, 3) := by decide +kernel
theorem dX12_reform_367 : decode cX12_reform 367 = .ok (.aload_n 0, 1) := by decide +kernel
theorem dX12_reform_368 : decode cX12_reform 368 = .ok (.iconst 0, 1) := by decide +kernel
theorem dX12_reform_369 : decode cX12_reform 369 = .ok (.putfield 237, 3) := by decide +kernel
theorem dX12_reform_372 : decode cX12_reform 372 = .ok (.iload_n 2, 1) := by decide +kernel
theorem dX12_reform_373 : decode cX12_reform 373 = .ok (.ireturn, 1) := by decide +kernel
theorem dX12_fault_0 : decode cX12_fault 0 = .ok (.iload_n 1, 1) := by decide +kernel
theorem dX12_fault_1 : decode cX12_fault 1 = .ok (.ifCond .ne 10, 3) := by decide +kernel
theorem dX12_fault_4 : decode cX12_fault 4 = .ok (.aload_n 0, 1) := by decide +kernel
theorem dX12_fault_5 : decode cX12_fault 5 = .ok (.getfield 194, 3) := by decide +kernel
theorem dX12_fault_8 : decode cX12_fault 8 = .ok (.goto 16, 3) := by decide +kernel
theorem dX12_fault_11 : decode cX12_fault 11 = .ok (.iload_n 1, 1) := by decide +kernel
theorem dX12_fault_12 : decode cX12_fault 12 = .ok (.iconst 1, 1) := by decide +kernel
theorem dX12_fault_13 : decode cX12_fault 13 = .ok (.if_icmp .ne 10, 3) := by decide +kernel
theorem dX12_fault_16 : decode cX12_fault 16 = .ok (.aload_n 0, 1) := by decide +kernel
theorem dX12_fault_17 : decode cX12_fault 17 = .ok (.getfield 13, 3) := by decide +kernel
theorem dX12_fault_20 : decode cX12_fault 20 = .ok (.goto 4, 3) := by decide +kernel
theorem dX12_fault_23 : decode cX12_fault 23 = .ok (.iconst (-1), 1) := by decide +kernel
theorem dX12_fault_24 : decode cX12_fault 24 = .ok (.ireturn, 1) := by decide +kernel
set_option maxRecDepth 20000 in
theorem ggX12_about_X12_in : GoodIn wsX12_about wsX12_in := goodIn_r _ [10] (by decide +kernel) (by decide +kernel)
set_option maxRecDepth 20000 in
theorem gX12_about_X12_in : GoodIn wsX12_about (va_wsS RX12 226 yX12_in wsX12_in) := goodIn_app (goodIn_of _ (by decide +kernel)) ggX12_about_X12_in
theorem dX12_about_0 : decode cX12_about 0 = .ok (.iload_n 1, 1) := by decide +kernel
theorem dX12_about_1 : decode cX12_about 1 = .ok (.iconst 0, 1) := by decide +kernel
theorem dX12_about_2 : decode cX12_about 2 = .ok (.aload_n 0, 1) := by decide +kernel
theorem dX12_about_3 : decode cX12_about 3 = .ok (.getfield 222, 3) := by decide +kernel
theorem dX12_about_6 : decode cX12_about 6 = .ok (.iconst 1, 1) := by decide +kernel
theorem dX12_about_7 : decode cX12_about 7 = .ok (.isub, 1) := by decide +kernel
theorem dX12_about_8 : decode cX12_about 8 = .ok (.invokestatic 226, 3) := by decide +kernel
theorem dX12_about_11 : decode cX12_about 11 = .ok (.ifCond .ne 5, 3) := by decide +kernel
theorem dX12_about_14 : decode cX12_about 14 = .ok (.iconst (-1), 1) := by decide +kernel
theorem dX12_about_15 : decode cX12_about 15 = .ok (.ireturn, 1) := by decide +kernel
set_option maxRecDepth 20000 in
theorem ggX12_stage_X12_in : GoodIn wsX12_stage wsX12_in := goodIn_r _ [7] (by decide +kernel) (by decide +kernel)
set_option maxRecDepth 20000 in
theorem gX12_stage_X12_in : GoodIn wsX12_stage (va_wsS RX12 226 yX12_in wsX12_in) := goodIn_app (goodIn_of _ (by decide +kernel)) ggX12_stage_X12_in
theorem dX12_stage_0 : decode cX12_stage 0 = .ok (.iload_n 1, 1) := by decide +kernel
theorem dX12_stage_1 : decode cX12_stage 1 = .ok (.iconst 0, 1) := by decide +kernel
theorem dX12_stage_2 : decode cX12_stage 2 = .ok (.ldc 225, 2) := by decide +kernel
theorem dX12_stage_4 : decode cX12_stage 4 = .ok (.invokestatic 226, 3) := by decide +kernel
theorem dX12_stage_7 : decode cX12_stage 7 = .ok (.ifCond .ne 6, 3) := by decide +kernel
theorem dX12_stage_10 : decode cX12_stage 10 = .ok (.bipush (-2), 2) := by decide +kernel
theorem dX12_stage_12 : decode cX12_stage 12 = .ok (.ireturn, 1) := by decide +kernel
theorem dX12_stage_13 : decode cX12_stage 13 = .ok (.iconst 0, 1) := by decide +kernel
theorem dX12_stage_14 : decode cX12_stage 14 = .ok (.istore_n 2, 1) := by decide +kernel
theorem dX12_stage_15 : decode cX12_stage 15 = .ok (.iconst 0, 1) := by decide +kernel
theorem dX12_stage_16 : decode cX12_stage 16 = .ok (.istore_n 3, 1) := by decide +kernel
theorem dX12_stage_17 : decode cX12_stage 17 = .ok (.iload_n 3, 1) := by decide +kernel
theorem dX12_stage_18 : decode cX12_stage 18 = .ok (.aload_n 0, 1) := by decide +kernel
theorem dX12_stage_19 : decode cX12_stage 19 = .ok (.getfield 222, 3) := by decide +kernel
theorem dX12_stage_22 : decode cX12_stage 22 = .ok (.if_icmp .ge 27, 3) := by decide +kernel
theorem dX12_stage_49 : decode cX12_stage 49 = .ok (.iload_n 2, 1) := by decide +kernel
theorem dX12_stage_50 : decode cX12_stage 50 = .ok (.ireturn, 1) := by decide +kernel
set_option maxRecDepth 20000 in
theorem ggX12_readWord_X12_in : GoodIn wsX12_readWord wsX12_in := goodIn_r _ [6] (by decide +kernel) (by decide +kernel)
set_option maxRecDepth 20000 in
theorem gX12_readWord_X12_in : GoodIn wsX12_readWord (va_wsS RX12 226 yX12_in wsX12_in) := goodIn_app (goodIn_of _ (by decide +kernel)) ggX12_readWord_X12_in
theorem dX12_readWord_0 : decode cX12_readWord 0 = .ok (.aload_n 0, 1) := by decide +kernel
theorem dX12_readWord_1 : decode cX12_readWord 1 = .ok (.getfield 152, 3) := by decide +kernel
theorem dX12_readWord_4 : decode cX12_readWord 4 = .ok (.istore_n 1, 1) := by decide +kernel
theorem dX12_readWord_5 : decode cX12_readWord 5 = .ok (.aload_n 0, 1) := by decide +kernel
theorem dX12_readWord_6 : decode cX12_readWord 6 = .ok (.iconst 0, 1) := by decide +kernel
theorem dX12_readWord_7 : decode cX12_readWord 7 = .ok (.putfield 152, 3) := by decide +kernel
theorem dX12_readWord_10 : decode cX12_readWord 10 = .ok (.iload_n 1, 1) := by decide +kernel
theorem dX12_readWord_11 : decode cX12_readWord 11 = .ok (.iconst 1, 1) := by decide +kernel
theorem dX12_readWord_12 : decode cX12_readWord 12 = .ok (.bipush 24, 2) := by decide +kernel
theorem dX12_readWord_14 : decode cX12_readWord 14 = .ok (.invokestatic 226, 3) := by decide +kernel
theorem dX12_readWord_17 : decode cX12_readWord 17 = .ok (.ifCond .ne 5, 3) := by decide +kernel
theorem dX12_readWord_20 : decode cX12_readWord 20 = .ok (.iconst 0, 1) := by decide +kernel
theorem dX12_readWord_21 : decode cX12_readWord 21 = .ok (.ireturn, 1) := by decide +kernel
set_option maxRecDepth 20000 in
theorem ggX12_isStage_X12_in : GoodIn wsX12_isStage wsX12_in := goodIn_r _ [5] (by decide +kernel) (by decide +kernel)
set_option maxRecDepth 20000 in
theorem gX12_isStage_X12_in : GoodIn wsX12_isStage (va_wsS RX12 226 yX12_in wsX12_in) := goodIn_app (goodIn_of _ (by decide +kernel)) ggX12_isStage_X12_in
theorem dX12_isStage_0 : decode cX12_isStage 0 = .ok (.iload_n 1, 1) := by decide +kernel
theorem dX12_isStage_1 : decode cX12_isStage 1 = .ok (.iconst 0, 1) := by decide +kernel
theorem dX12_isStage_2 : decode cX12_isStage 2 = .ok (.aload_n 0, 1) := by decide +kernel
theorem dX12_isStage_3 : decode cX12_isStage 3 = .ok (.getfield 222, 3) := by decide +kernel
theorem dX12_isStage_6 : decode cX12_isStage 6 = .ok (.invokestatic 226, 3) := by decide +kernel
theorem dX12_isStage_9 : decode cX12_isStage 9 = .ok (.ireturn, 1) := by decide +kernel
set_option maxRecDepth 20000 in
theorem ggX12_turn_X12_readWord : GoodIn wsX12_turn wsX12_readWord := goodIn_r _ [11, 12, 13, 14, 15, 10, 16, 17, 18, 19, 20, 21, 22, 23, 24, 25, 96, 97, 98, 99, 100, 101, 102, 103, 104, 105, 106, 107, 108, 109, 110, 111, 112, 113, 114, 115, 116, 117, 118, 119, 120, 121, 122, 123, 124, 125, 126, 127, 128, 129, 130, 131, 132, 133, 134, 135, 136, 137, 138, 139, 140, 141, 142, 143, 144, 145, 146, 147, 148, 149, 150, 151, 152, 153, 154, 155, 156, 157, 158, 159, 160, 161, 162, 163, 164, 165, 166] (by decide +kernel) (by decide +kernel)
set_option maxRecDepth 20000 in
theorem gX12_turn_X12_readWord : GoodIn wsX12_turn (wsV RX12 297 RX12 yX12_readWord wsX12_readWord) := goodIn_app (goodIn_of _ (by decide +kernel)) ggX12_turn_X12_readWord
theorem dX12_turn_0 : decode cX12_turn 0 = .ok (.aload_n 0, 1) := by decide +kernel
theorem dX12_turn_1 : decode cX12_turn 1 = .ok (.invokevirtual 297, 3) := by decide +kernel
theorem dX12_turn_4 : decode cX12_turn 4 = .ok (.ifCond .eq 24, 3) := by decide +kernel
theorem dX12_turn_28 : decode cX12_turn 28 = .ok (.bipush (-2), 2) := by decide +kernel
theorem dX12_turn_30 : decode cX12_turn 30 = .ok (.ireturn, 1) := by decide +kernel
set_option maxRecDepth 20000 in
theorem ggX12_form_X12_in : GoodIn wsX12_form wsX12_in := goodIn_r _ [7] (by decide +kernel) (by decide +kernel)
set_option maxRecDepth 20000 in
theorem gX12_form_X12_in : GoodIn wsX12_form (va_wsS RX12 226 yX12_in wsX12_in) := goodIn_app (goodIn_of _ (by decide +kernel)) ggX12_form_X12_in
theorem dX12_form_0 : decode cX12_form 0 = .ok (.iload_n 1, 1) := by decide +kernel
theorem dX12_form_1 : decode cX12_form 1 = .ok (.iconst 0, 1) := by decide +kernel
theorem dX12_form_2 : decode cX12_form 2 = .ok (.aload_n 0, 1) := by decide +kernel
theorem dX12_form_3 : decode cX12_form 3 = .ok (.getfield 306, 3) := by decide +kernel
theorem dX12_form_6 : decode cX12_form 6 = .ok (.iconst 1, 1) := by decide +kernel
theorem dX12_form_7 : decode cX12_form 7 = .ok (.isub, 1) := by decide +kernel
theorem dX12_form_8 : decode cX12_form 8 = .ok (.invokestatic 226, 3) := by decide +kernel
theorem dX12_form_11 : decode cX12_form 11 = .ok (.ifCond .eq 33, 3) := by decide +kernel
theorem dX12_form_44 : decode cX12_form 44 = .ok (.iconst (-1), 1) := by decide +kernel
theorem dX12_form_45 : decode cX12_form 45 = .ok (.ireturn, 1) := by decide +kernel
set_option maxRecDepth 20000 in
theorem ggX12_partings_X12_readWord : GoodIn wsX12_partings wsX12_readWord := goodIn_r _ [13, 14, 15, 16, 17, 12, 18, 19, 20, 21, 22, 23, 24, 25, 26, 27, 54, 55, 56, 57, 58, 59, 60, 61, 62, 63, 64, 65, 66, 67, 68, 69, 70, 71, 72, 73, 74, 75, 76, 77, 78, 79, 80, 81, 82, 83, 84, 85, 86, 87, 88, 89, 90, 91, 92, 93, 94, 95, 96, 97, 98, 99, 100, 101, 102, 103, 104, 105, 106, 107, 108, 109, 110, 111, 112, 113, 114, 115, 116, 117, 118, 119, 120, 121, 122, 123, 124] (by decide +kernel) (by decide +kernel)
set_option maxRecDepth 20000 in
theorem gX12_partings_X12_readWord : GoodIn wsX12_partings (wsV RX12 297 RX12 yX12_readWord wsX12_readWord) := goodIn_app (goodIn_of _ (by decide +kernel)) ggX12_partings_X12_readWord
theorem dX12_partings_0 : decode cX12_partings 0 = .ok (.aload_n 0, 1) := by decide +kernel
theorem dX12_partings_1 : decode cX12_partings 1 = .ok (.invokevirtual 297, 3) := by decide +kernel
theorem dX12_partings_4 : decode cX12_partings 4 = .ok (.ifCond .eq 17, 3) := by decide +kernel
theorem dX12_partings_21 : decode cX12_partings 21 = .ok (.bipush (-2), 2) := by decide +kernel
theorem dX12_partings_23 : decode cX12_partings 23 = .ok (.ireturn, 1) := by decide +kernel
set_option maxRecDepth 20000 in
theorem ggX12_parting_X12_in : GoodIn wsX12_parting wsX12_in := goodIn_r _ [7] (by decide +kernel) (by decide +kernel)
set_option maxRecDepth 20000 in
theorem gX12_parting_X12_in : GoodIn wsX12_parting (va_wsS RX12 226 yX12_in wsX12_in) := goodIn_app (goodIn_of _ (by decide +kernel)) ggX12_parting_X12_in
theorem dX12_parting_0 : decode cX12_parting 0 = .ok (.iload_n 1, 1) := by decide +kernel
theorem dX12_parting_1 : decode cX12_parting 1 = .ok (.iconst 0, 1) := by decide +kernel
theorem dX12_parting_2 : decode cX12_parting 2 = .ok (.aload_n 0, 1) := by decide +kernel
theorem dX12_parting_3 : decode cX12_parting 3 = .ok (.getfield 309, 3) := by decide +kernel
theorem dX12_parting_6 : decode cX12_parting 6 = .ok (.iconst 1, 1) := by decide +kernel
theorem dX12_parting_7 : decode cX12_parting 7 = .ok (.isub, 1) := by decide +kernel
theorem dX12_parting_8 : decode cX12_parting 8 = .ok (.invokestatic 226, 3) := by decide +kernel
theorem dX12_parting_11 : decode cX12_parting 11 = .ok (.ifCond .ne 5, 3) := by decide +kernel
theorem dX12_parting_14 : decode cX12_parting 14 = .ok (.iconst (-1), 1) := by decide +kernel
theorem dX12_parting_15 : decode cX12_parting 15 = .ok (.ireturn, 1) := by decide +kernel
set_option maxRecDepth 20000 in
theorem ggX12_learn_X12_readWord : GoodIn wsX12_learn wsX12_readWord := goodIn_r _ [11, 12, 13, 14, 15, 10, 16, 17, 18, 19, 20, 21, 22, 23, 4, 5, 27, 28, 29, 30, 31, 32, 33, 34, 35, 36, 37, 38, 39, 40, 41, 42, 43, 44, 45, 46, 47, 48, 49, 50, 51, 52, 53, 54, 55, 56, 57, 58, 59, 60, 61, 62, 63, 64, 65, 66, 67, 68, 69, 70, 71, 72, 73, 74, 75, 76, 77, 78, 79, 80, 81, 82, 83, 84, 85, 86, 87, 88, 89, 90, 91, 92, 93, 94, 95, 96, 97] (by decide +kernel) (by decide +kernel)
set_option maxRecDepth 20000 in
theorem gX12_learn_X12_readWord : GoodIn wsX12_learn (wsV RX12 297 RX12 yX12_readWord wsX12_readWord) := goodIn_app (goodIn_of _ (by decide +kernel)) ggX12_learn_X12_readWord
theorem dX12_learn_0 : decode cX12_learn 0 = .ok (.aload_n 0, 1) := by decide +kernel
theorem dX12_learn_1 : decode cX12_learn 1 = .ok (.invokevirtual 297, 3) := by decide +kernel
theorem dX12_learn_4 : decode cX12_learn 4 = .ok (.ifCond .ne 6, 3) := by decide +kernel
theorem dX12_learn_7 : decode cX12_learn 7 = .ok (.bipush (-2), 2) := by decide +kernel
theorem dX12_learn_9 : decode cX12_learn 9 = .ok (.ireturn, 1) := by decide +kernel
set_option maxRecDepth 20000 in
theorem ggX12_word_X12_in : GoodIn wsX12_word wsX12_in := goodIn_r _ [7] (by decide +kernel) (by decide +kernel)
set_option maxRecDepth 20000 in
theorem gX12_word_X12_in : GoodIn wsX12_word (va_wsS RX12 226 yX12_in wsX12_in) := goodIn_app (goodIn_of _ (by decide +kernel)) ggX12_word_X12_in
theorem dX12_word_0 : decode cX12_word 0 = .ok (.iload_n 1, 1) := by decide +kernel
theorem dX12_word_1 : decode cX12_word 1 = .ok (.iconst 0, 1) := by decide +kernel
theorem dX12_word_2 : decode cX12_word 2 = .ok (.aload_n 0, 1) := by decide +kernel
theorem dX12_word_3 : decode cX12_word 3 = .ok (.getfield 312, 3) := by decide +kernel
theorem dX12_word_6 : decode cX12_word 6 = .ok (.iconst 1, 1) := by decide +kernel
theorem dX12_word_7 : decode cX12_word 7 = .ok (.isub, 1) := by decide +kernel
theorem dX12_word_8 : decode cX12_word 8 = .ok (.invokestatic 226, 3) := by decide +kernel
theorem dX12_word_11 : decode cX12_word 11 = .ok (.ifCond .eq 33, 3) := by decide +kernel
theorem dX12_word_44 : decode cX12_word 44 = .ok (.iconst (-1), 1) := by decide +kernel
theorem dX12_word_45 : decode cX12_word 45 = .ok (.ireturn, 1) := by decide +kernel
theorem dX12_make_0 : decode cX12_make 0 = .ok (.aload_n 0, 1) := by decide +kernel
theorem dX12_make_1 : decode cX12_make 1 = .ok (.getfield 237, 3) := by decide +kernel
theorem dX12_make_4 : decode cX12_make 4 = .ok (.ifCond .eq 4, 3) := by decide +kernel
theorem dX12_make_8 : decode cX12_make 8 = .ok (.aload_n 0, 1) := by decide +kernel
theorem dX12_make_9 : decode cX12_make 9 = .ok (.iconst 1, 1) := by decide +kernel
theorem dX12_make_10 : decode cX12_make 10 = .ok (.putfield 237, 3) := by decide +kernel
theorem dX12_make_13 : decode cX12_make 13 = .ok (.iconst 0, 1) := by decide +kernel
theorem dX12_make_14 : decode cX12_make 14 = .ok (.istore_n 1, 1) := by decide +kernel
theorem dX12_make_15 : decode cX12_make 15 = .ok (.iload_n 1, 1) := by decide +kernel
theorem dX12_make_16 : decode cX12_make 16 = .ok (.aload_n 0, 1) := by decide +kernel
theorem dX12_make_17 : decode cX12_make 17 = .ok (.getfield 312, 3) := by decide +kernel
theorem dX12_make_20 : decode cX12_make 20 = .ok (.if_icmp .ge 155, 3) := by decide +kernel
theorem dX12_make_175 : decode cX12_make 175 = .ok (.return_, 1) := by decide +kernel
set_option maxRecDepth 20000 in
theorem ggX12_back_X12_readWord : GoodIn wsX12_back wsX12_readWord := goodIn_r _ [11, 12, 13, 14, 15, 10, 16, 17, 18, 19, 20, 21, 22, 23, 3, 1, 111, 112, 113, 114, 115, 116, 117, 118, 119, 120, 121, 122, 123, 124, 125, 126, 127, 128, 129, 130, 131, 132, 133, 134, 135, 136, 137, 138, 139, 140, 141, 142, 143, 144, 145, 146, 147, 148, 149, 150, 151, 152, 153, 154, 155, 156, 157, 158, 159, 160, 161, 162, 163, 164, 165, 166, 167, 168, 169, 170, 171, 172, 173, 174, 175, 176, 177, 178, 179, 180, 181] (by decide +kernel) (by decide +kernel)
set_option maxRecDepth 20000 in
theorem gX12_back_X12_readWord : GoodIn wsX12_back (wsV RX12 297 RX12 yX12_readWord wsX12_readWord) := goodIn_app (goodIn_of _ (by decide +kernel)) ggX12_back_X12_readWord
theorem dX12_back_0 : decode cX12_back 0 = .ok (.aload_n 0, 1) := by decide +kernel
theorem dX12_back_1 : decode cX12_back 1 = .ok (.invokevirtual 297, 3) := by decide +kernel
theorem dX12_back_4 : decode cX12_back 4 = .ok (.ifCond .eq 11, 3) := by decide +kernel
theorem dX12_back_15 : decode cX12_back 15 = .ok (.bipush (-2), 2) := by decide +kernel
theorem dX12_back_17 : decode cX12_back 17 = .ok (.ireturn, 1) := by decide +kernel
set_option maxRecDepth 20000 in
theorem ggX12_old_X12_in : GoodIn wsX12_old wsX12_in := goodIn_r _ [6] (by decide +kernel) (by decide +kernel)
set_option maxRecDepth 20000 in
theorem gX12_old_X12_in : GoodIn wsX12_old (va_wsS RX12 226 yX12_in wsX12_in) := goodIn_app (goodIn_of _ (by decide +kernel)) ggX12_old_X12_in
theorem dX12_old_0 : decode cX12_old 0 = .ok (.iload_n 1, 1) := by decide +kernel
theorem dX12_old_1 : decode cX12_old 1 = .ok (.iconst 0, 1) := by decide +kernel
theorem dX12_old_2 : decode cX12_old 2 = .ok (.aload_n 0, 1) := by decide +kernel
theorem dX12_old_3 : decode cX12_old 3 = .ok (.getfield 318, 3) := by decide +kernel
theorem dX12_old_6 : decode cX12_old 6 = .ok (.iconst 1, 1) := by decide +kernel
theorem dX12_old_7 : decode cX12_old 7 = .ok (.isub, 1) := by decide +kernel
theorem dX12_old_8 : decode cX12_old 8 = .ok (.invokestatic 226, 3) := by decide +kernel
theorem dX12_old_11 : decode cX12_old 11 = .ok (.ifCond .eq 12, 3) := by decide +kernel
theorem dX12_old_23 : decode cX12_old 23 = .ok (.iconst (-1), 1) := by decide +kernel
theorem dX12_old_24 : decode cX12_old 24 = .ok (.ireturn, 1) := by decide +kernel
set_option maxRecDepth 20000 in
theorem ggX12_collisions_X12_isStage : GoodIn wsX12_collisions wsX12_isStage := goodIn_r _ [8, 9, 10, 11, 7, 12, 105, 106, 107, 108, 109, 110, 111, 112, 113, 114, 115, 116, 117, 118, 119, 120, 121, 122, 123, 124, 125, 126, 127, 128, 129, 130, 131, 132, 133, 134, 135, 136, 137, 138, 139, 140, 141, 142, 143, 144, 145, 146, 147, 148, 149, 150, 151, 152, 153, 154, 155, 156, 157, 158, 159, 160, 161, 162, 163, 164, 165, 166, 167, 168, 169, 170, 171, 172, 173, 174, 175] (by decide +kernel) (by decide +kernel)
set_option maxRecDepth 20000 in
theorem gX12_collisions_X12_isStage : GoodIn wsX12_collisions (wsV RX12 300 RX12 yX12_isStage wsX12_isStage) := goodIn_app (goodIn_of _ (by decide +kernel)) ggX12_collisions_X12_isStage
set_option maxRecDepth 20000 in
theorem ggX12_collisions_X12_make : GoodIn wsX12_collisions wsX12_make := goodIn_r _ [16, 17, 2, 9, 18, 19, 20, 21, 22, 23, 24, 25, 26, 27, 28, 7, 29, 30, 31, 32, 33, 34, 35, 36, 37, 38, 39, 40, 41, 42, 43, 44, 45, 46, 47, 48, 49, 50, 51, 52, 53, 54, 55, 56, 57, 58, 59, 60, 61, 62, 63, 64, 65, 66, 67, 68, 69, 70, 71, 72, 73, 74, 75, 76, 77, 78, 79, 80, 81, 82, 83, 84, 85, 86, 87, 88, 89, 90, 91, 92, 93, 94, 95, 96, 105, 106, 107, 108, 109, 110, 111, 112, 113, 114, 115, 116, 117, 118, 119, 120, 121, 122, 123, 124, 125, 126, 127, 128, 129, 130, 131, 132, 133, 134, 135, 136, 137, 138, 139, 140, 141, 142, 143, 144, 145, 146, 147, 148, 149, 150, 151, 152, 153, 154, 155, 156, 157, 158, 159, 160, 161, 162, 163, 164, 165, 166, 167, 168, 169, 170, 171, 172, 173, 174, 175] (by decide +kernel) (by decide +kernel)
set_option maxRecDepth 20000 in
theorem gX12_collisions_X12_make : GoodIn wsX12_collisions (wsV RX12 315 RX12 yX12_make wsX12_make) := goodIn_app (goodIn_of _ (by decide +kernel)) ggX12_collisions_X12_make
theorem dX12_collisions_0 : decode cX12_collisions 0 = .ok (.aload_n 0, 1) := by decide +kernel
theorem dX12_collisions_1 : decode cX12_collisions 1 = .ok (.iload_n 1, 1) := by decide +kernel
theorem dX12_collisions_2 : decode cX12_collisions 2 = .ok (.invokevirtual 300, 3) := by decide +kernel
theorem dX12_collisions_5 : decode cX12_collisions 5 = .ok (.ifCond .ne 6, 3) := by decide +kernel
theorem dX12_collisions_8 : decode cX12_collisions 8 = .ok (.bipush (-2), 2) := by decide +kernel
theorem dX12_collisions_10 : decode cX12_collisions 10 = .ok (.ireturn, 1) := by decide +kernel
theorem dX12_collisions_11 : decode cX12_collisions 11 = .ok (.aload_n 0, 1) := by decide +kernel
theorem dX12_collisions_12 : decode cX12_collisions 12 = .ok (.invokevirtual 315, 3) := by decide +kernel
theorem dX12_collisions_15 : decode cX12_collisions 15 = .ok (.aload_n 0, 1) := by decide +kernel
theorem dX12_collisions_16 : decode cX12_collisions 16 = .ok (.iconst 0, 1) := by decide +kernel
theorem dX12_collisions_17 : decode cX12_collisions 17 = .ok (.putfield 325, 3) := by decide +kernel
theorem dX12_collisions_20 : decode cX12_collisions 20 = .ok (.iconst 0, 1) := by decide +kernel
theorem dX12_collisions_21 : decode cX12_collisions 21 = .ok (.istore_n 2, 1) := by decide +kernel
theorem dX12_collisions_22 : decode cX12_collisions 22 = .ok (.iconst 0, 1) := by decide +kernel
theorem dX12_collisions_23 : decode cX12_collisions 23 = .ok (.istore_n 3, 1) := by decide +kernel
theorem dX12_collisions_24 : decode cX12_collisions 24 = .ok (.iload_n 3, 1) := by decide +kernel
theorem dX12_collisions_25 : decode cX12_collisions 25 = .ok (.aload_n 0, 1) := by decide +kernel
theorem dX12_collisions_26 : decode cX12_collisions 26 = .ok (.getfield 312, 3) := by decide +kernel
theorem dX12_collisions_29 : decode cX12_collisions 29 = .ok (.if_icmp .ge 86, 3) := by decide +kernel
theorem dX12_collisions_115 : decode cX12_collisions 115 = .ok (.iload_n 2, 1) := by decide +kernel
theorem dX12_collisions_116 : decode cX12_collisions 116 = .ok (.ireturn, 1) := by decide +kernel
set_option maxRecDepth 20000 in
theorem ggX12_collision_X12_in : GoodIn wsX12_collision wsX12_in := goodIn_r _ [6] (by decide +kernel) (by decide +kernel)
set_option maxRecDepth 20000 in
theorem gX12_collision_X12_in : GoodIn wsX12_collision (va_wsS RX12 226 yX12_in wsX12_in) := goodIn_app (goodIn_of _ (by decide +kernel)) ggX12_collision_X12_in
theorem dX12_collision_0 : decode cX12_collision 0 = .ok (.iload_n 1, 1) := by decide +kernel
theorem dX12_collision_1 : decode cX12_collision 1 = .ok (.iconst 0, 1) := by decide +kernel
theorem dX12_collision_2 : decode cX12_collision 2 = .ok (.aload_n 0, 1) := by decide +kernel
theorem dX12_collision_3 : decode cX12_collision 3 = .ok (.getfield 325, 3) := by decide +kernel
theorem dX12_collision_6 : decode cX12_collision 6 = .ok (.iconst 1, 1) := by decide +kernel
theorem dX12_collision_7 : decode cX12_collision 7 = .ok (.isub, 1) := by decide +kernel
theorem dX12_collision_8 : decode cX12_collision 8 = .ok (.invokestatic 226, 3) := by decide +kernel
theorem dX12_collision_11 : decode cX12_collision 11 = .ok (.ifCond .eq 12, 3) := by decide +kernel
theorem dX12_collision_23 : decode cX12_collision 23 = .ok (.iconst (-1), 1) := by decide +kernel
theorem dX12_collision_24 : decode cX12_collision 24 = .ok (.ireturn, 1) := by decide +kernel
set_option maxRecDepth 20000 in
theorem ggX12_rhymes_X12_isStage : GoodIn wsX12_rhymes wsX12_isStage := goodIn_r _ [8, 9, 10, 11, 7, 12, 102, 103, 104, 105, 106, 107, 108, 109, 110, 111, 112, 113, 114, 115, 116, 117, 118, 119, 120, 121, 122, 123, 124, 125, 126, 127, 128, 129, 130, 131, 132, 133, 134, 135, 136, 137, 138, 139, 140, 141, 142, 143, 144, 145, 146, 147, 148, 149, 150, 151, 152, 153, 154, 155, 156, 157, 158, 159, 160, 161, 162, 163, 164, 165, 166, 167, 168, 169, 170, 171, 172] (by decide +kernel) (by decide +kernel)
set_option maxRecDepth 20000 in
theorem gX12_rhymes_X12_isStage : GoodIn wsX12_rhymes (wsV RX12 300 RX12 yX12_isStage wsX12_isStage) := goodIn_app (goodIn_of _ (by decide +kernel)) ggX12_rhymes_X12_isStage
set_option maxRecDepth 20000 in
theorem ggX12_rhymes_X12_make : GoodIn wsX12_rhymes wsX12_make := goodIn_r _ [16, 17, 1, 9, 2, 3, 18, 19, 20, 21, 22, 23, 24, 25, 26, 7, 27, 28, 29, 30, 31, 32, 33, 34, 35, 36, 37, 38, 39, 40, 41, 42, 43, 44, 45, 46, 47, 48, 49, 50, 51, 52, 53, 54, 55, 56, 57, 58, 59, 60, 61, 62, 63, 64, 65, 66, 67, 68, 69, 70, 71, 72, 73, 74, 75, 76, 77, 78, 79, 80, 81, 82, 83, 84, 85, 86, 87, 88, 89, 90, 91, 92, 93, 94, 102, 103, 104, 105, 106, 107, 108, 109, 110, 111, 112, 113, 114, 115, 116, 117, 118, 119, 120, 121, 122, 123, 124, 125, 126, 127, 128, 129, 130, 131, 132, 133, 134, 135, 136, 137, 138, 139, 140, 141, 142, 143, 144, 145, 146, 147, 148, 149, 150, 151, 152, 153, 154, 155, 156, 157, 158, 159, 160, 161, 162, 163, 164, 165, 166, 167, 168, 169, 170, 171, 172] (by decide +kernel) (by decide +kernel)
set_option maxRecDepth 20000 in
theorem gX12_rhymes_X12_make : GoodIn wsX12_rhymes (wsV RX12 315 RX12 yX12_make wsX12_make) := goodIn_app (goodIn_of _ (by decide +kernel)) ggX12_rhymes_X12_make
theorem dX12_rhymes_0 : decode cX12_rhymes 0 = .ok (.aload_n 0, 1) := by decide +kernel
theorem dX12_rhymes_1 : decode cX12_rhymes 1 = .ok (.iload_n 1, 1) := by decide +kernel
theorem dX12_rhymes_2 : decode cX12_rhymes 2 = .ok (.invokevirtual 300, 3) := by decide +kernel
