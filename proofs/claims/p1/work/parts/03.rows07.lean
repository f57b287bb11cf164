theorem dX12_rhymes_5 : decode cX12_rhymes 5 = .ok (.ifCond .ne 6, 3) := by decide +kernel
theorem dX12_rhymes_8 : decode cX12_rhymes 8 = .ok (.bipush (-2), 2) := by decide +kernel
theorem dX12_rhymes_10 : decode cX12_rhymes 10 = .ok (.ireturn, 1) := by decide +kernel
theorem dX12_rhymes_11 : decode cX12_rhymes 11 = .ok (.aload_n 0, 1) := by decide +kernel
theorem dX12_rhymes_12 : decode cX12_rhymes 12 = .ok (.invokevirtual 315, 3) := by decide +kernel
theorem dX12_rhymes_15 : decode cX12_rhymes 15 = .ok (.iconst 0, 1) := by decide +kernel
theorem dX12_rhymes_16 : decode cX12_rhymes 16 = .ok (.istore_n 2, 1) := by decide +kernel
theorem dX12_rhymes_17 : decode cX12_rhymes 17 = .ok (.iconst 0, 1) := by decide +kernel
theorem dX12_rhymes_18 : decode cX12_rhymes 18 = .ok (.istore_n 3, 1) := by decide +kernel
theorem dX12_rhymes_19 : decode cX12_rhymes 19 = .ok (.iload_n 3, 1) := by decide +kernel
theorem dX12_rhymes_20 : decode cX12_rhymes 20 = .ok (.aload_n 0, 1) := by decide +kernel
theorem dX12_rhymes_21 : decode cX12_rhymes 21 = .ok (.getfield 312, 3) := by decide +kernel
theorem dX12_rhymes_24 : decode cX12_rhymes 24 = .ok (.if_icmp .ge 84, 3) := by decide +kernel
theorem dX12_rhymes_108 : decode cX12_rhymes 108 = .ok (.iload_n 2, 1) := by decide +kernel
theorem dX12_rhymes_109 : decode cX12_rhymes 109 = .ok (.ireturn, 1) := by decide +kernel
set_option maxRecDepth 20000 in
theorem ggX12_tell_X12_isStage : GoodIn wsX12_tell wsX12_isStage := goodIn_r _ [9, 10, 11, 12, 8, 13, 99, 100, 101, 102, 103, 104, 105, 106, 107, 108, 109, 110, 111, 112, 113, 114, 115, 116, 117, 118, 119, 120, 121, 122, 123, 124, 125, 126, 127, 128, 129, 130, 131, 132, 133, 134, 135, 136, 137, 138, 139, 140, 141, 142, 143, 144, 145, 146, 147, 148, 149, 150, 151, 152, 153, 154, 155, 156, 157, 158, 159, 160, 161, 162, 163, 164, 165, 166, 167, 168, 169] (by decide +kernel) (by decide +kernel)
set_option maxRecDepth 20000 in
theorem gX12_tell_X12_isStage : GoodIn wsX12_tell (wsV RX12 300 RX12 yX12_isStage wsX12_isStage) := goodIn_app (goodIn_of _ (by decide +kernel)) ggX12_tell_X12_isStage
set_option maxRecDepth 20000 in
theorem ggX12_tell_X12_in : GoodIn wsX12_tell wsX12_in := goodIn_r _ [13] (by decide +kernel) (by decide +kernel)
set_option maxRecDepth 20000 in
theorem gX12_tell_X12_in : GoodIn wsX12_tell (va_wsS RX12 226 yX12_in wsX12_in) := goodIn_app (goodIn_of _ (by decide +kernel)) ggX12_tell_X12_in
set_option maxRecDepth 20000 in
theorem ggX12_tell_X12_make : GoodIn wsX12_tell wsX12_make := goodIn_r _ [17, 18, 1, 10, 3, 4, 2, 19, 20, 21, 22, 23, 24, 25, 26, 8, 27, 28, 29, 30, 31, 32, 33, 34, 35, 36, 37, 38, 39, 40, 41, 42, 43, 44, 45, 46, 47, 48, 49, 50, 51, 52, 53, 54, 55, 56, 57, 58, 59, 60, 61, 62, 63, 64, 65, 66, 67, 68, 69, 70, 71, 72, 73, 74, 75, 76, 77, 78, 79, 80, 81, 82, 83, 84, 85, 86, 87, 88, 89, 90, 91, 92, 93, 94, 99, 100, 101, 102, 103, 104, 105, 106, 107, 108, 109, 110, 111, 112, 113, 114, 115, 116, 117, 118, 119, 120, 121, 122, 123, 124, 125, 126, 127, 128, 129, 130, 131, 132, 133, 134, 135, 136, 137, 138, 139, 140, 141, 142, 143, 144, 145, 146, 147, 148, 149, 150, 151, 152, 153, 154, 155, 156, 157, 158, 159, 160, 161, 162, 163, 164, 165, 166, 167, 168, 169] (by decide +kernel) (by decide +kernel)
set_option maxRecDepth 20000 in
theorem gX12_tell_X12_make : GoodIn wsX12_tell (wsV RX12 315 RX12 yX12_make wsX12_make) := goodIn_app (goodIn_of _ (by decide +kernel)) ggX12_tell_X12_make
theorem dX12_tell_0 : decode cX12_tell 0 = .ok (.aload_n 0, 1) := by decide +kernel
theorem dX12_tell_1 : decode cX12_tell 1 = .ok (.iload_n 1, 1) := by decide +kernel
theorem dX12_tell_2 : decode cX12_tell 2 = .ok (.invokevirtual 300, 3) := by decide +kernel
theorem dX12_tell_5 : decode cX12_tell 5 = .ok (.ifCond .eq 12, 3) := by decide +kernel
theorem dX12_tell_8 : decode cX12_tell 8 = .ok (.iload_n 2, 1) := by decide +kernel
theorem dX12_tell_9 : decode cX12_tell 9 = .ok (.iconst 0, 1) := by decide +kernel
theorem dX12_tell_10 : decode cX12_tell 10 = .ok (.iconst 2, 1) := by decide +kernel
theorem dX12_tell_11 : decode cX12_tell 11 = .ok (.invokestatic 226, 3) := by decide +kernel
theorem dX12_tell_14 : decode cX12_tell 14 = .ok (.ifCond .ne 6, 3) := by decide +kernel
theorem dX12_tell_17 : decode cX12_tell 17 = .ok (.bipush (-2), 2) := by decide +kernel
theorem dX12_tell_19 : decode cX12_tell 19 = .ok (.ireturn, 1) := by decide +kernel
theorem dX12_tell_20 : decode cX12_tell 20 = .ok (.aload_n 0, 1) := by decide +kernel
theorem dX12_tell_21 : decode cX12_tell 21 = .ok (.invokevirtual 315, 3) := by decide +kernel
theorem dX12_tell_24 : decode cX12_tell 24 = .ok (.iconst 0, 1) := by decide +kernel
theorem dX12_tell_25 : decode cX12_tell 25 = .ok (.istore_n 3, 1) := by decide +kernel
theorem dX12_tell_26 : decode cX12_tell 26 = .ok (.iconst 0, 1) := by decide +kernel
theorem dX12_tell_27 : decode cX12_tell 27 = .ok (.istore 4, 2) := by decide +kernel
theorem dX12_tell_29 : decode cX12_tell 29 = .ok (.iload 4, 2) := by decide +kernel
theorem dX12_tell_31 : decode cX12_tell 31 = .ok (.aload_n 0, 1) := by decide +kernel
theorem dX12_tell_32 : decode cX12_tell 32 = .ok (.getfield 312, 3) := by decide +kernel
theorem dX12_tell_35 : decode cX12_tell 35 = .ok (.if_icmp .ge 111, 3) := by decide +kernel
theorem dX12_tell_146 : decode cX12_tell 146 = .ok (.iload_n 3, 1) := by decide +kernel
theorem dX12_tell_147 : decode cX12_tell 147 = .ok (.ireturn, 1) := by decide +kernel
set_option maxRecDepth 20000 in
theorem ggX12_uses_X12_in : GoodIn wsX12_uses wsX12_in := goodIn_r _ [12] (by decide +kernel) (by decide +kernel)
set_option maxRecDepth 20000 in
theorem gX12_uses_X12_in : GoodIn wsX12_uses (va_wsS RX12 226 yX12_in wsX12_in) := goodIn_app (goodIn_of _ (by decide +kernel)) ggX12_uses_X12_in
theorem dX12_uses_0 : decode cX12_uses 0 = .ok (.iload_n 1, 1) := by decide +kernel
theorem dX12_uses_1 : decode cX12_uses 1 = .ok (.iconst 0, 1) := by decide +kernel
theorem dX12_uses_2 : decode cX12_uses 2 = .ok (.aload_n 0, 1) := by decide +kernel
theorem dX12_uses_3 : decode cX12_uses 3 = .ok (.getfield 222, 3) := by decide +kernel
theorem dX12_uses_6 : decode cX12_uses 6 = .ok (.iconst 1, 1) := by decide +kernel
theorem dX12_uses_7 : decode cX12_uses 7 = .ok (.isub, 1) := by decide +kernel
theorem dX12_uses_8 : decode cX12_uses 8 = .ok (.invokestatic 226, 3) := by decide +kernel
theorem dX12_uses_11 : decode cX12_uses 11 = .ok (.ifCond .eq 19, 3) := by decide +kernel
theorem dX12_uses_30 : decode cX12_uses 30 = .ok (.bipush (-2), 2) := by decide +kernel
theorem dX12_uses_32 : decode cX12_uses 32 = .ok (.ireturn, 1) := by decide +kernel
theorem dX12_hasNought_0 : decode cX12_hasNought 0 = .ok (.iconst 0, 1) := by decide +kernel
theorem dX12_hasNought_1 : decode cX12_hasNought 1 = .ok (.istore_n 2, 1) := by decide +kernel
theorem dX12_hasNought_2 : decode cX12_hasNought 2 = .ok (.iload_n 2, 1) := by decide +kernel
theorem dX12_hasNought_3 : decode cX12_hasNought 3 = .ok (.iload_n 1, 1) := by decide +kernel
theorem dX12_hasNought_4 : decode cX12_hasNought 4 = .ok (.if_icmp .ge 20, 3) := by decide +kernel
theorem dX12_hasNought_24 : decode cX12_hasNought 24 = .ok (.iconst 0, 1) := by decide +kernel
theorem dX12_hasNought_25 : decode cX12_hasNought 25 = .ok (.ireturn, 1) := by decide +kernel
set_option maxRecDepth 20000 in
theorem ggX12_write_X12_isStage : GoodIn wsX12_write wsX12_isStage := goodIn_r _ [14, 15, 16, 17, 13, 18, 119, 120, 121, 122, 123, 124, 125, 126, 127, 128, 129, 130, 131, 132, 133, 134, 135, 136, 137, 138, 139, 140, 141, 142, 143, 144, 145, 146, 147, 148, 149, 150, 151, 152, 153, 154, 155, 156, 157, 158, 159, 160, 161, 162, 163, 164, 165, 166, 167, 168, 169, 170, 171, 172, 173, 174, 175, 176, 177, 178, 179, 180, 181, 182, 183, 184, 185, 186, 187, 188, 189] (by decide +kernel) (by decide +kernel)
set_option maxRecDepth 20000 in
theorem gX12_write_X12_isStage : GoodIn wsX12_write (wsV RX12 300 RX12 yX12_isStage wsX12_isStage) := goodIn_app (goodIn_of _ (by decide +kernel)) ggX12_write_X12_isStage
set_option maxRecDepth 20000 in
theorem ggX12_write_X12_hasNought : GoodIn wsX12_write wsX12_hasNought := goodIn_r _ [22, 4, 119, 120, 121, 122, 123, 124, 125, 126, 127, 128, 129, 130, 131, 132, 133, 134, 135, 136, 137, 138, 139, 140, 141, 142, 143, 144, 145, 146, 147, 148, 149, 150, 151, 152, 153, 154, 155, 156, 157, 158, 159, 160, 161, 162, 163, 164, 165, 166, 167, 168, 169, 170, 171, 172, 173, 174, 175, 176, 177, 178, 179, 180, 181, 182, 183, 184, 185, 186, 187, 188, 189] (by decide +kernel) (by decide +kernel)
set_option maxRecDepth 20000 in
theorem gX12_write_X12_hasNought : GoodIn wsX12_write (wsV RX12 348 RX12 yX12_hasNought wsX12_hasNought) := goodIn_app (goodIn_of _ (by decide +kernel)) ggX12_write_X12_hasNought
theorem dX12_write_0 : decode cX12_write 0 = .ok (.aload_n 0, 1) := by decide +kernel
theorem dX12_write_1 : decode cX12_write 1 = .ok (.getfield 152, 3) := by decide +kernel
theorem dX12_write_4 : decode cX12_write 4 = .ok (.istore_n 3, 1) := by decide +kernel
theorem dX12_write_5 : decode cX12_write 5 = .ok (.aload_n 0, 1) := by decide +kernel
theorem dX12_write_6 : decode cX12_write 6 = .ok (.iconst 0, 1) := by decide +kernel
theorem dX12_write_7 : decode cX12_write 7 = .ok (.putfield 152, 3) := by decide +kernel
theorem dX12_write_10 : decode cX12_write 10 = .ok (.aload_n 0, 1) := by decide +kernel
theorem dX12_write_11 : decode cX12_write 11 = .ok (.iload_n 1, 1) := by decide +kernel
theorem dX12_write_12 : decode cX12_write 12 = .ok (.invokevirtual 300, 3) := by decide +kernel
theorem dX12_write_15 : decode cX12_write 15 = .ok (.ifCond .eq 16, 3) := by decide +kernel
theorem dX12_write_18 : decode cX12_write 18 = .ok (.aload_n 0, 1) := by decide +kernel
theorem dX12_write_19 : decode cX12_write 19 = .ok (.iload_n 2, 1) := by decide +kernel
theorem dX12_write_20 : decode cX12_write 20 = .ok (.invokevirtual 300, 3) := by decide +kernel
theorem dX12_write_23 : decode cX12_write 23 = .ok (.ifCond .eq 8, 3) := by decide +kernel
theorem dX12_write_26 : decode cX12_write 26 = .ok (.iload_n 1, 1) := by decide +kernel
theorem dX12_write_27 : decode cX12_write 27 = .ok (.iload_n 2, 1) := by decide +kernel
theorem dX12_write_28 : decode cX12_write 28 = .ok (.if_icmp .le 6, 3) := by decide +kernel
theorem dX12_write_31 : decode cX12_write 31 = .ok (.bipush (-2), 2) := by decide +kernel
theorem dX12_write_33 : decode cX12_write 33 = .ok (.ireturn, 1) := by decide +kernel
theorem dX12_write_34 : decode cX12_write 34 = .ok (.aload_n 0, 1) := by decide +kernel
theorem dX12_write_35 : decode cX12_write 35 = .ok (.iload_n 3, 1) := by decide +kernel
theorem dX12_write_36 : decode cX12_write 36 = .ok (.invokevirtual 348, 3) := by decide +kernel
theorem dX12_write_39 : decode cX12_write 39 = .ok (.ifCond .eq 5, 3) := by decide +kernel
theorem dX12_write_44 : decode cX12_write 44 = .ok (.aload_n 0, 1) := by decide +kernel
theorem dX12_write_45 : decode cX12_write 45 = .ok (.iconst 0, 1) := by decide +kernel
theorem dX12_write_46 : decode cX12_write 46 = .ok (.putfield 337, 3) := by decide +kernel
theorem dX12_write_49 : decode cX12_write 49 = .ok (.iconst 0, 1) := by decide +kernel
theorem dX12_write_50 : decode cX12_write 50 = .ok (.istore 4, 2) := by decide +kernel
theorem dX12_write_52 : decode cX12_write 52 = .ok (.iload 4, 2) := by decide +kernel
theorem dX12_write_54 : decode cX12_write 54 = .ok (.iconst 5, 1) := by decide +kernel
theorem dX12_write_55 : decode cX12_write 55 = .ok (.if_icmp .ge 17, 3) := by decide +kernel
theorem dX12_write_58 : decode cX12_write 58 = .ok (.aload_n 0, 1) := by decide +kernel
theorem dX12_write_59 : decode cX12_write 59 = .ok (.getfield 140, 3) := by decide +kernel
theorem dX12_write_62 : decode cX12_write 62 = .ok (.iload 4, 2) := by decide +kernel
theorem dX12_write_64 : decode cX12_write 64 = .ok (.iconst 0, 1) := by decide +kernel
theorem dX12_write_65 : decode cX12_write 65 = .ok (.iastore, 1) := by decide +kernel
theorem dX12_write_66 : decode cX12_write 66 = .ok (.iinc 4 1, 3) := by decide +kernel
theorem dX12_write_69 : decode cX12_write 69 = .ok (.goto (-17), 3) := by decide +kernel
theorem dX12_write_72 : decode cX12_write 72 = .ok (.iconst 0, 1) := by decide +kernel
theorem dX12_write_73 : decode cX12_write 73 = .ok (.istore 4, 2) := by decide +kernel
theorem dX12_write_75 : decode cX12_write 75 = .ok (.iload 4, 2) := by decide +kernel
theorem dX12_write_77 : decode cX12_write 77 = .ok (.iload_n 3, 1) := by decide +kernel
theorem dX12_write_78 : decode cX12_write 78 = .ok (.if_icmp .ge 130, 3) := by decide +kernel
theorem dX12_write_208 : decode cX12_write 208 = .ok (.aload_n 0, 1) := by decide +kernel
theorem dX12_write_209 : decode cX12_write 209 = .ok (.aload_n 0, 1) := by decide +kernel
theorem dX12_write_210 : decode cX12_write 210 = .ok (.getfield 337, 3) := by decide +kernel
theorem dX12_write_213 : decode cX12_write 213 = .ok (.putfield 361, 3) := by decide +kernel
theorem dX12_write_216 : decode cX12_write 216 = .ok (.aload_n 0, 1) := by decide +kernel
theorem dX12_write_217 : decode cX12_write 217 = .ok (.iconst 1, 1) := by decide +kernel
theorem dX12_write_218 : decode cX12_write 218 = .ok (.putfield 364, 3) := by decide +kernel
theorem dX12_write_221 : decode cX12_write 221 = .ok (.iconst 0, 1) := by decide +kernel
theorem dX12_write_222 : decode cX12_write 222 = .ok (.istore 5, 2) := by decide +kernel
theorem dX12_write_224 : decode cX12_write 224 = .ok (.iload 5, 2) := by decide +kernel
theorem dX12_write_226 : decode cX12_write 226 = .ok (.aload_n 0, 1) := by decide +kernel
theorem dX12_write_227 : decode cX12_write 227 = .ok (.getfield 337, 3) := by decide +kernel
theorem dX12_write_230 : decode cX12_write 230 = .ok (.if_icmp .ge 23, 3) := by decide +kernel
theorem dX12_write_253 : decode cX12_write 253 = .ok (.iconst 0, 1) := by decide +kernel
theorem dX12_write_254 : decode cX12_write 254 = .ok (.istore 5, 2) := by decide +kernel
theorem dX12_write_256 : decode cX12_write 256 = .ok (.iload 5, 2) := by decide +kernel
theorem dX12_write_258 : decode cX12_write 258 = .ok (.iconst 5, 1) := by decide +kernel
theorem dX12_write_259 : decode cX12_write 259 = .ok (.if_icmp .ge 23, 3) := by decide +kernel
theorem dX12_write_262 : decode cX12_write 262 = .ok (.aload_n 0, 1) := by decide +kernel
theorem dX12_write_263 : decode cX12_write 263 = .ok (.getfield 137, 3) := by decide +kernel
theorem dX12_write_266 : decode cX12_write 266 = .ok (.iload 5, 2) := by decide +kernel
theorem dX12_write_268 : decode cX12_write 268 = .ok (.aload_n 0, 1) := by decide +kernel
theorem dX12_write_269 : decode cX12_write 269 = .ok (.getfield 140, 3) := by decide +kernel
theorem dX12_write_272 : decode cX12_write 272 = .ok (.iload 5, 2) := by decide +kernel
theorem dX12_write_274 : decode cX12_write 274 = .ok (.iaload, 1) := by decide +kernel
theorem dX12_write_275 : decode cX12_write 275 = .ok (.iastore, 1) := by decide +kernel
theorem dX12_write_276 : decode cX12_write 276 = .ok (.iinc 5 1, 3) := by decide +kernel
theorem dX12_write_279 : decode cX12_write 279 = .ok (.goto (-23), 3) := by decide +kernel
theorem dX12_write_282 : decode cX12_write 282 = .ok (.aload_n 0, 1) := by decide +kernel
theorem dX12_write_283 : decode cX12_write 283 = .ok (.getfield 361, 3) := by decide +kernel
theorem dX12_write_286 : decode cX12_write 286 = .ok (.ireturn, 1) := by decide +kernel
set_option maxRecDepth 20000 in
theorem ggX12_written_X12_in : GoodIn wsX12_written wsX12_in := goodIn_r _ [6] (by decide +kernel) (by decide +kernel)
set_option maxRecDepth 20000 in
theorem gX12_written_X12_in : GoodIn wsX12_written (va_wsS RX12 226 yX12_in wsX12_in) := goodIn_app (goodIn_of _ (by decide +kernel)) ggX12_written_X12_in
theorem dX12_written_0 : decode cX12_written 0 = .ok (.iload_n 1, 1) := by decide +kernel
theorem dX12_written_1 : decode cX12_written 1 = .ok (.iconst 0, 1) := by decide +kernel
theorem dX12_written_2 : decode cX12_written 2 = .ok (.aload_n 0, 1) := by decide +kernel
theorem dX12_written_3 : decode cX12_written 3 = .ok (.getfield 361, 3) := by decide +kernel
theorem dX12_written_6 : decode cX12_written 6 = .ok (.iconst 1, 1) := by decide +kernel
theorem dX12_written_7 : decode cX12_written 7 = .ok (.isub, 1) := by decide +kernel
theorem dX12_written_8 : decode cX12_written 8 = .ok (.invokestatic 226, 3) := by decide +kernel
theorem dX12_written_11 : decode cX12_written 11 = .ok (.ifCond .eq 16, 3) := by decide +kernel
theorem dX12_written_27 : decode cX12_written 27 = .ok (.iconst (-1), 1) := by decide +kernel
theorem dX12_written_28 : decode cX12_written 28 = .ok (.ireturn, 1) := by decide +kernel
theorem dX12_counted_0 : decode cX12_counted 0 = .ok (.aload_n 0, 1) := by decide +kernel
theorem dX12_counted_1 : decode cX12_counted 1 = .ok (.getfield 364, 3) := by decide +kernel
theorem dX12_counted_4 : decode cX12_counted 4 = .ok (.ifCond .eq 21, 3) := by decide +kernel
theorem dX12_counted_25 : decode cX12_counted 25 = .ok (.iconst (-1), 1) := by decide +kernel
theorem dX12_counted_26 : decode cX12_counted 26 = .ok (.ireturn, 1) := by decide +kernel
set_option maxRecDepth 20000 in
theorem ggX12_mixed_X12_in : GoodIn wsX12_mixed wsX12_in := goodIn_r _ [11] (by decide +kernel) (by decide +kernel)
set_option maxRecDepth 20000 in
theorem gX12_mixed_X12_in : GoodIn wsX12_mixed (va_wsS RX12 226 yX12_in wsX12_in) := goodIn_app (goodIn_of _ (by decide +kernel)) ggX12_mixed_X12_in
set_option maxRecDepth 20000 in
theorem ggX12_mixed_X12_hasNought : GoodIn wsX12_mixed wsX12_hasNought := goodIn_r _ [15, 2, 128, 129, 130, 131, 132, 133, 134, 135, 136, 137, 138, 139, 140, 141, 142, 143, 144, 145, 146, 147, 148, 149, 150, 151, 152, 153, 154, 155, 156, 157, 158, 159, 160, 161, 162, 163, 164, 165, 166, 167, 168, 169, 170, 171, 172, 173, 174, 175, 176, 177, 178, 179, 180, 181, 182, 183, 184, 185, 186, 187, 188, 189, 190, 191, 192, 193, 194, 195, 196, 197, 198] (by decide +kernel) (by decide +kernel)
set_option maxRecDepth 20000 in
theorem gX12_mixed_X12_hasNought : GoodIn wsX12_mixed (wsV RX12 348 RX12 yX12_hasNought wsX12_hasNought) := goodIn_app (goodIn_of _ (by decide +kernel)) ggX12_mixed_X12_hasNought
set_option maxRecDepth 20000 in
theorem ggX12_mixed_X12_make : GoodIn wsX12_mixed wsX12_make := goodIn_r _ [19, 20, 21, 4, 22, 23, 24, 25, 26, 27, 28, 29, 30, 31, 32, 10, 33, 34, 35, 36, 37, 38, 39, 40, 41, 42, 43, 44, 45, 46, 47, 48, 49, 50, 51, 52, 53, 54, 55, 56, 57, 58, 59, 60, 61, 62, 63, 64, 65, 66, 67, 68, 69, 70, 71, 72, 73, 74, 75, 76, 77, 78, 79, 80, 81, 82, 83, 84, 85, 86, 87, 88, 89, 90, 91, 92, 93, 94, 95, 96, 97, 98, 99, 100, 128, 129, 130, 131, 132, 133, 134, 135, 136, 137, 138, 139, 140, 141, 142, 143, 144, 145, 146, 147, 148, 149, 150, 151, 152, 153, 154, 155, 156, 157, 158, 159, 160, 161, 162, 163, 164, 165, 166, 167, 168, 169, 170, 171, 172, 173, 174, 175, 176, 177, 178, 179, 180, 181, 182, 183, 184, 185, 186, 187, 188, 189, 190, 191, 192, 193, 194, 195, 196, 197, 198] (by decide +kernel) (by decide +kernel)
set_option maxRecDepth 20000 in
theorem gX12_mixed_X12_make : GoodIn wsX12_mixed (wsV RX12 315 RX12 yX12_make wsX12_make) := goodIn_app (goodIn_of _ (by decide +kernel)) ggX12_mixed_X12_make
set_option maxRecDepth 20000 in
theorem ggX12_mixed_X12_onward : GoodIn wsX12_mixed wsX12_onward := goodIn_r _ [126, 127, 4, 5, 128, 129, 130, 131, 132, 133, 134, 135, 136, 137, 138, 139, 140, 141, 142, 143, 144, 145, 146, 147, 148, 149, 150, 151, 152, 153, 154, 155, 156, 157, 158, 159, 160, 161, 162, 163, 164, 165, 166, 167, 168, 169, 170, 171, 172, 173, 174, 175, 176, 177, 178, 179, 180, 181, 182, 183, 184, 185, 186, 187, 188, 189, 190, 191, 192, 193, 194, 195, 196, 197, 198] (by decide +kernel) (by decide +kernel)
set_option maxRecDepth 20000 in
theorem gX12_mixed_X12_onward : GoodIn wsX12_mixed (wsV RX12 370 RX12 yX12_onward wsX12_onward) := goodIn_app (goodIn_of _ (by decide +kernel)) ggX12_mixed_X12_onward
theorem dX12_mixed_0 : decode cX12_mixed 0 = .ok (.aload_n 0, 1) := by decide +kernel
theorem dX12_mixed_1 : decode cX12_mixed 1 = .ok (.getfield 152, 3) := by decide +kernel
theorem dX12_mixed_4 : decode cX12_mixed 4 = .ok (.istore_n 2, 1) := by decide +kernel
theorem dX12_mixed_5 : decode cX12_mixed 5 = .ok (.aload_n 0, 1) := by decide +kernel
theorem dX12_mixed_6 : decode cX12_mixed 6 = .ok (.iconst 0, 1) := by decide +kernel
theorem dX12_mixed_7 : decode cX12_mixed 7 = .ok (.putfield 152, 3) := by decide +kernel
theorem dX12_mixed_10 : decode cX12_mixed 10 = .ok (.iload_n 1, 1) := by decide +kernel
theorem dX12_mixed_11 : decode cX12_mixed 11 = .ok (.iconst 0, 1) := by decide +kernel
theorem dX12_mixed_12 : decode cX12_mixed 12 = .ok (.bipush 50, 2) := by decide +kernel
theorem dX12_mixed_14 : decode cX12_mixed 14 = .ok (.invokestatic 226, 3) := by decide +kernel
theorem dX12_mixed_17 : decode cX12_mixed 17 = .ok (.ifCond .ne 6, 3) := by decide +kernel
theorem dX12_mixed_20 : decode cX12_mixed 20 = .ok (.bipush (-2), 2) := by decide +kernel
theorem dX12_mixed_22 : decode cX12_mixed 22 = .ok (.ireturn, 1) := by decide +kernel
theorem dX12_mixed_23 : decode cX12_mixed 23 = .ok (.aload_n 0, 1) := by decide +kernel
theorem dX12_mixed_24 : decode cX12_mixed 24 = .ok (.iload_n 2, 1) := by decide +kernel
theorem dX12_mixed_25 : decode cX12_mixed 25 = .ok (.invokevirtual 348, 3) := by decide +kernel
theorem dX12_mixed_28 : decode cX12_mixed 28 = .ok (.ifCond .eq 5, 3) := by decide +kernel
theorem dX12_mixed_33 : decode cX12_mixed 33 = .ok (.iconst 1, 1) := by decide +kernel
theorem dX12_mixed_34 : decode cX12_mixed 34 = .ok (.istore_n 3, 1) := by decide +kernel
theorem dX12_mixed_35 : decode cX12_mixed 35 = .ok (.iconst 0, 1) := by decide +kernel
theorem dX12_mixed_36 : decode cX12_mixed 36 = .ok (.istore 4, 2) := by decide +kernel
theorem dX12_mixed_38 : decode cX12_mixed 38 = .ok (.iload 4, 2) := by decide +kernel
theorem dX12_mixed_40 : decode cX12_mixed 40 = .ok (.iload_n 2, 1) := by decide +kernel
theorem dX12_mixed_41 : decode cX12_mixed 41 = .ok (.if_icmp .ge 29, 3) := by decide +kernel
theorem dX12_mixed_70 : decode cX12_mixed 70 = .ok (.iload_n 3, 1) := by decide +kernel
theorem dX12_mixed_71 : decode cX12_mixed 71 = .ok (.bipush 40, 2) := by decide +kernel
theorem dX12_mixed_73 : decode cX12_mixed 73 = .ok (.if_icmp .le 5, 3) := by decide +kernel
theorem dX12_mixed_78 : decode cX12_mixed 78 = .ok (.aload_n 0, 1) := by decide +kernel
theorem dX12_mixed_79 : decode cX12_mixed 79 = .ok (.invokevirtual 315, 3) := by decide +kernel
theorem dX12_mixed_82 : decode cX12_mixed 82 = .ok (.iconst 0, 1) := by decide +kernel
theorem dX12_mixed_83 : decode cX12_mixed 83 = .ok (.istore 4, 2) := by decide +kernel
theorem dX12_mixed_85 : decode cX12_mixed 85 = .ok (.iload 4, 2) := by decide +kernel
theorem dX12_mixed_87 : decode cX12_mixed 87 = .ok (.sipush 280, 3) := by decide +kernel
theorem dX12_mixed_90 : decode cX12_mixed 90 = .ok (.if_icmp .ge 17, 3) := by decide +kernel
theorem dX12_mixed_93 : decode cX12_mixed 93 = .ok (.aload_n 0, 1) := by decide +kernel
theorem dX12_mixed_94 : decode cX12_mixed 94 = .ok (.getfield 143, 3) := by decide +kernel
theorem dX12_mixed_97 : decode cX12_mixed 97 = .ok (.iload 4, 2) := by decide +kernel
theorem dX12_mixed_99 : decode cX12_mixed 99 = .ok (.iconst 0, 1) := by decide +kernel
theorem dX12_mixed_100 : decode cX12_mixed 100 = .ok (.iastore, 1) := by decide +kernel
theorem dX12_mixed_101 : decode cX12_mixed 101 = .ok (.iinc 4 1, 3) := by decide +kernel
theorem dX12_mixed_104 : decode cX12_mixed 104 = .ok (.goto (-19), 3) := by decide +kernel
theorem dX12_mixed_107 : decode cX12_mixed 107 = .ok (.iconst 0, 1) := by decide +kernel
theorem dX12_mixed_108 : decode cX12_mixed 108 = .ok (.istore 4, 2) := by decide +kernel
theorem dX12_mixed_110 : decode cX12_mixed 110 = .ok (.iconst 0, 1) := by decide +kernel
theorem dX12_mixed_111 : decode cX12_mixed 111 = .ok (.istore 5, 2) := by decide +kernel
theorem dX12_mixed_113 : decode cX12_mixed 113 = .ok (.iload 5, 2) := by decide +kernel
theorem dX12_mixed_115 : decode cX12_mixed 115 = .ok (.iload_n 2, 1) := by decide +kernel
theorem dX12_mixed_116 : decode cX12_mixed 116 = .ok (.if_icmp .ge 198, 3) := by decide +kernel
theorem dX12_mixed_314 : decode cX12_mixed 314 = .ok (.iconst 0, 1) := by decide +kernel
theorem dX12_mixed_315 : decode cX12_mixed 315 = .ok (.istore 6, 2) := by decide +kernel
theorem dX12_mixed_317 : decode cX12_mixed 317 = .ok (.iload 6, 2) := by decide +kernel
theorem dX12_mixed_319 : decode cX12_mixed 319 = .ok (.aload_n 0, 1) := by decide +kernel
theorem dX12_mixed_320 : decode cX12_mixed 320 = .ok (.getfield 222, 3) := by decide +kernel
theorem dX12_mixed_323 : decode cX12_mixed 323 = .ok (.if_icmp .gt 22, 3) := by decide +kernel
theorem dX12_mixed_326 : decode cX12_mixed 326 = .ok (.aload_n 0, 1) := by decide +kernel
theorem dX12_mixed_327 : decode cX12_mixed 327 = .ok (.getfield 146, 3) := by decide +kernel
theorem dX12_mixed_330 : decode cX12_mixed 330 = .ok (.bipush 7, 2) := by decide +kernel
theorem dX12_mixed_332 : decode cX12_mixed 332 = .ok (.iload_n 3, 1) := by decide +kernel
theorem dX12_mixed_333 : decode cX12_mixed 333 = .ok (.imul, 1) := by decide +kernel
theorem dX12_mixed_334 : decode cX12_mixed 334 = .ok (.iload 6, 2) := by decide +kernel
theorem dX12_mixed_336 : decode cX12_mixed 336 = .ok (.iadd, 1) := by decide +kernel
theorem dX12_mixed_337 : decode cX12_mixed 337 = .ok (.iconst 0, 1) := by decide +kernel
theorem dX12_mixed_338 : decode cX12_mixed 338 = .ok (.iastore, 1) := by decide +kernel
theorem dX12_mixed_339 : decode cX12_mixed 339 = .ok (.iinc 6 1, 3) := by decide +kernel
theorem dX12_mixed_342 : decode cX12_mixed 342 = .ok (.goto (-25), 3) := by decide +kernel
theorem dX12_mixed_345 : decode cX12_mixed 345 = .ok (.iload_n 3, 1) := by decide +kernel
theorem dX12_mixed_346 : decode cX12_mixed 346 = .ok (.iconst 1, 1) := by decide +kernel
theorem dX12_mixed_347 : decode cX12_mixed 347 = .ok (.isub, 1) := by decide +kernel
theorem dX12_mixed_348 : decode cX12_mixed 348 = .ok (.istore 6, 2) := by decide +kernel
theorem dX12_mixed_350 : decode cX12_mixed 350 = .ok (.iload 6, 2) := by decide +kernel
theorem dX12_mixed_352 : decode cX12_mixed 352 = .ok (.ifCond .lt 77, 3) := by decide +kernel
theorem dX12_mixed_355 : decode cX12_mixed 355 = .ok (.iconst 0, 1) := by decide +kernel
theorem dX12_mixed_356 : decode cX12_mixed 356 = .ok (.istore 7, 2) := by decide +kernel
theorem dX12_mixed_358 : decode cX12_mixed 358 = .ok (.iload 7, 2) := by decide +kernel
theorem dX12_mixed_360 : decode cX12_mixed 360 = .ok (.aload_n 0, 1) := by decide +kernel
theorem dX12_mixed_361 : decode cX12_mixed 361 = .ok (.getfield 222, 3) := by decide +kernel
theorem dX12_mixed_364 : decode cX12_mixed 364 = .ok (.if_icmp .gt 59, 3) := by decide +kernel
theorem dX12_mixed_367 : decode cX12_mixed 367 = .ok (.aload_n 0, 1) := by decide +kernel
theorem dX12_mixed_368 : decode cX12_mixed 368 = .ok (.getfield 146, 3) := by decide +kernel
theorem dX12_mixed_371 : decode cX12_mixed 371 = .ok (.bipush 7, 2) := by decide +kernel
theorem dX12_mixed_373 : decode cX12_mixed 373 = .ok (.iload 6, 2) := by decide +kernel
theorem dX12_mixed_375 : decode cX12_mixed 375 = .ok (.imul, 1) := by decide +kernel
theorem dX12_mixed_376 : decode cX12_mixed 376 = .ok (.iload 7, 2) := by decide +kernel
theorem dX12_mixed_378 : decode cX12_mixed 378 = .ok (.iadd, 1) := by decide +kernel
theorem dX12_mixed_379 : decode cX12_mixed 379 = .ok (.aload_n 0, 1) := by decide +kernel
theorem dX12_mixed_380 : decode cX12_mixed 380 = .ok (.getfield 143, 3) := by decide +kernel
theorem dX12_mixed_383 : decode cX12_mixed 383 = .ok (.bipush 7, 2) := by decide +kernel
theorem dX12_mixed_385 : decode cX12_mixed 385 = .ok (.iload 6, 2) := by decide +kernel
theorem dX12_mixed_387 : decode cX12_mixed 387 = .ok (.imul, 1) := by decide +kernel
theorem dX12_mixed_388 : decode cX12_mixed 388 = .ok (.iload 7, 2) := by decide +kernel
theorem dX12_mixed_390 : decode cX12_mixed 390 = .ok (.iadd, 1) := by decide +kernel
theorem dX12_mixed_391 : decode cX12_mixed 391 = .ok (.iaload, 1) := by decide +kernel
theorem dX12_mixed_392 : decode cX12_mixed 392 = .ok (.iload 6, 2) := by decide +kernel
theorem dX12_mixed_394 : decode cX12_mixed 394 = .ok (.iconst 1, 1) := by decide +kernel
theorem dX12_mixed_395 : decode cX12_mixed 395 = .ok (.iadd, 1) := by decide +kernel
theorem dX12_mixed_396 : decode cX12_mixed 396 = .ok (.iload_n 3, 1) := by decide +kernel
theorem dX12_mixed_397 : decode cX12_mixed 397 = .ok (.if_icmp .ge 17, 3) := by decide +kernel
theorem dX12_mixed_414 : decode cX12_mixed 414 = .ok (.iconst 0, 1) := by decide +kernel
theorem dX12_mixed_415 : decode cX12_mixed 415 = .ok (.iadd, 1) := by decide +kernel
theorem dX12_mixed_416 : decode cX12_mixed 416 = .ok (.iastore, 1) := by decide +kernel
theorem dX12_mixed_417 : decode cX12_mixed 417 = .ok (.iinc 7 1, 3) := by decide +kernel
theorem dX12_mixed_420 : decode cX12_mixed 420 = .ok (.goto (-62), 3) := by decide +kernel
theorem dX12_mixed_423 : decode cX12_mixed 423 = .ok (.iinc 6 (-1), 3) := by decide +kernel
theorem dX12_mixed_426 : decode cX12_mixed 426 = .ok (.goto (-76), 3) := by decide +kernel
theorem dX12_mixed_429 : decode cX12_mixed 429 = .ok (.aload_n 0, 1) := by decide +kernel
theorem dX12_mixed_430 : decode cX12_mixed 430 = .ok (.iload_n 3, 1) := by decide +kernel
theorem dX12_mixed_431 : decode cX12_mixed 431 = .ok (.putfield 374, 3) := by decide +kernel
theorem dX12_mixed_434 : decode cX12_mixed 434 = .ok (.aload_n 0, 1) := by decide +kernel
theorem dX12_mixed_435 : decode cX12_mixed 435 = .ok (.iconst 0, 1) := by decide +kernel
theorem dX12_mixed_436 : decode cX12_mixed 436 = .ok (.iconst (-1), 1) := by decide +kernel
theorem dX12_mixed_437 : decode cX12_mixed 437 = .ok (.iload_n 1, 1) := by decide +kernel
theorem dX12_mixed_438 : decode cX12_mixed 438 = .ok (.invokevirtual 370, 3) := by decide +kernel
theorem dX12_mixed_441 : decode cX12_mixed 441 = .ok (.istore 6, 2) := by decide +kernel
theorem dX12_mixed_443 : decode cX12_mixed 443 = .ok (.iconst (-1), 1) := by decide +kernel
theorem dX12_mixed_444 : decode cX12_mixed 444 = .ok (.istore 7, 2) := by decide +kernel
theorem dX12_mixed_446 : decode cX12_mixed 446 = .ok (.iconst 0, 1) := by decide +kernel
theorem dX12_mixed_447 : decode cX12_mixed 447 = .ok (.istore 8, 2) := by decide +kernel
theorem dX12_mixed_449 : decode cX12_mixed 449 = .ok (.iload 8, 2) := by decide +kernel
theorem dX12_mixed_451 : decode cX12_mixed 451 = .ok (.iload_n 3, 1) := by decide +kernel
theorem dX12_mixed_452 : decode cX12_mixed 452 = .ok (.if_icmp .ge 79, 3) := by decide +kernel
theorem dX12_mixed_455 : decode cX12_mixed 455 = .ok (.aload_n 0, 1) := by decide +kernel
theorem dX12_mixed_456 : decode cX12_mixed 456 = .ok (.iload 8, 2) := by decide +kernel
theorem dX12_mixed_458 : decode cX12_mixed 458 = .ok (.iload 7, 2) := by decide +kernel
theorem dX12_mixed_460 : decode cX12_mixed 460 = .ok (.iload_n 1, 1) := by decide +kernel
theorem dX12_mixed_461 : decode cX12_mixed 461 = .ok (.invokevirtual 370, 3) := by decide +kernel
theorem dX12_mixed_464 : decode cX12_mixed 464 = .ok (.istore 9, 2) := by decide +kernel
theorem dX12_mixed_466 : decode cX12_mixed 466 = .ok (.iconst 0, 1) := by decide +kernel
theorem dX12_mixed_467 : decode cX12_mixed 467 = .ok (.istore 10, 2) := by decide +kernel
theorem dX12_mixed_469 : decode cX12_mixed 469 = .ok (.aload_n 0, 1) := by decide +kernel
theorem dX12_mixed_470 : decode cX12_mixed 470 = .ok (.getfield 146, 3) := by decide +kernel
theorem dX12_mixed_473 : decode cX12_mixed 473 = .ok (.bipush 7, 2) := by decide +kernel
theorem dX12_mixed_475 : decode cX12_mixed 475 = .ok (.iload 8, 2) := by decide +kernel
theorem dX12_mixed_477 : decode cX12_mixed 477 = .ok (.imul, 1) := by decide +kernel
theorem dX12_mixed_478 : decode cX12_mixed 478 = .ok (.iload 10, 2) := by decide +kernel
