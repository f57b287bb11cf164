theorem dX11_rhymes_27 : decode cX11_rhymes 27 = .ok (.iconst 0, 1) := by decide +kernel
theorem dX11_rhymes_28 : decode cX11_rhymes 28 = .ok (.istore_n 2, 1) := by decide +kernel
theorem dX11_rhymes_29 : decode cX11_rhymes 29 = .ok (.iconst 0, 1) := by decide +kernel
theorem dX11_rhymes_30 : decode cX11_rhymes 30 = .ok (.istore_n 3, 1) := by decide +kernel
theorem dX11_rhymes_31 : decode cX11_rhymes 31 = .ok (.iload_n 3, 1) := by decide +kernel
theorem dX11_rhymes_32 : decode cX11_rhymes 32 = .ok (.aload_n 0, 1) := by decide +kernel
theorem dX11_rhymes_33 : decode cX11_rhymes 33 = .ok (.getfield 67, 3) := by decide +kernel
theorem dX11_rhymes_36 : decode cX11_rhymes 36 = .ok (.getfield 197, 3) := by decide +kernel
theorem dX11_rhymes_39 : decode cX11_rhymes 39 = .ok (.getfield 151, 3) := by decide +kernel
theorem dX11_rhymes_42 : decode cX11_rhymes 42 = .ok (.if_icmp .ge 75, 3) := by decide +kernel
theorem dX11_rhymes_117 : decode cX11_rhymes 117 = .ok (.iload_n 2, 1) := by decide +kernel
theorem dX11_rhymes_118 : decode cX11_rhymes 118 = .ok (.ireturn, 1) := by decide +kernel
set_option maxRecDepth 20000 in
theorem ggX11_tell_X11_isStage : GoodIn wsX11_tell wsX11_isStage := goodIn_r _ [10, 11, 194, 195, 196, 197, 198, 199, 200, 201, 202, 203, 204, 205, 206, 207, 208, 209, 210] (by decide +kernel) (by decide +kernel)
set_option maxRecDepth 20000 in
theorem gX11_tell_X11_isStage : GoodIn wsX11_tell (wsV RX11 208 RX11 yX11_isStage wsX11_isStage) := goodIn_app (goodIn_of _ (by decide +kernel)) ggX11_tell_X11_isStage
set_option maxRecDepth 20000 in
theorem ggX11_tell_X0_fill : GoodIn wsX11_tell wsX0_fill := goodIn_r _ [16, 17, 18, 19, 20, 21, 22, 23, 24, 25, 26, 27, 28, 29, 30, 31, 32, 33, 34, 35, 36, 37, 38, 39, 40, 41, 42, 43, 44, 45, 46, 47, 15, 48, 49, 50, 51, 52, 53, 54, 55, 56, 57, 58, 59, 60, 61, 62, 63, 64, 65, 66, 67, 68, 69, 70, 71, 72, 73, 74, 75, 76, 77, 78, 79, 80, 81, 82, 83, 84, 85, 86, 87, 88, 89, 90, 91, 92, 93, 94, 95, 96, 97, 98, 99, 100, 101, 102, 103, 104, 105, 106, 107, 108, 109, 110, 111, 112, 113, 114, 115, 116, 117, 118, 119, 120, 121, 122, 123, 124, 125, 126, 127, 128, 129, 130, 131, 132, 133, 134, 135, 136, 137, 138, 139, 140, 141, 142, 143, 144, 145, 146, 147, 148, 149, 150, 151, 152, 153, 154, 155, 156, 157, 158, 159, 160, 161, 162, 163, 164, 165, 166, 167, 168, 169, 170, 171, 172, 173, 174, 175, 176, 177, 178, 179, 180, 181, 182, 183, 184, 185, 186, 187, 188, 211, 212, 213, 214, 215, 216, 217, 218, 219, 220, 221, 222, 223, 224, 225, 226, 227, 228, 229, 230, 231, 232, 233, 234, 235, 236, 237, 238, 239, 240, 241, 242, 243, 244, 245, 246, 247, 248, 249, 250, 251, 252] (by decide +kernel) (by decide +kernel)
set_option maxRecDepth 20000 in
theorem gX11_tell_X0_fill : GoodIn wsX11_tell (wsV RX11 211 RX0 yX0_fill wsX0_fill) := goodIn_app (goodIn_of _ (by decide +kernel)) ggX11_tell_X0_fill
theorem dX11_tell_0 : decode cX11_tell 0 = .ok (.aload_n 0, 1) := by decide +kernel
theorem dX11_tell_1 : decode cX11_tell 1 = .ok (.iload_n 1, 1) := by decide +kernel
theorem dX11_tell_2 : decode cX11_tell 2 = .ok (.invokevirtual 208, 3) := by decide +kernel
theorem dX11_tell_5 : decode cX11_tell 5 = .ok (.ifCond .eq 12, 3) := by decide +kernel
theorem dX11_tell_8 : decode cX11_tell 8 = .ok (.iload_n 2, 1) := by decide +kernel
theorem dX11_tell_9 : decode cX11_tell 9 = .ok (.ifCond .lt 8, 3) := by decide +kernel
theorem dX11_tell_12 : decode cX11_tell 12 = .ok (.iload_n 2, 1) := by decide +kernel
theorem dX11_tell_13 : decode cX11_tell 13 = .ok (.iconst 2, 1) := by decide +kernel
theorem dX11_tell_14 : decode cX11_tell 14 = .ok (.if_icmp .le 6, 3) := by decide +kernel
theorem dX11_tell_17 : decode cX11_tell 17 = .ok (.bipush (-2), 2) := by decide +kernel
theorem dX11_tell_19 : decode cX11_tell 19 = .ok (.ireturn, 1) := by decide +kernel
theorem dX11_tell_20 : decode cX11_tell 20 = .ok (.aload_n 0, 1) := by decide +kernel
theorem dX11_tell_21 : decode cX11_tell 21 = .ok (.getfield 67, 3) := by decide +kernel
theorem dX11_tell_24 : decode cX11_tell 24 = .ok (.iload_n 1, 1) := by decide +kernel
theorem dX11_tell_25 : decode cX11_tell 25 = .ok (.aload_n 0, 1) := by decide +kernel
theorem dX11_tell_26 : decode cX11_tell 26 = .ok (.getfield 18, 3) := by decide +kernel
theorem dX11_tell_29 : decode cX11_tell 29 = .ok (.aload_n 0, 1) := by decide +kernel
theorem dX11_tell_30 : decode cX11_tell 30 = .ok (.getfield 44, 3) := by decide +kernel
theorem dX11_tell_33 : decode cX11_tell 33 = .ok (.invokevirtual 211, 3) := by decide +kernel
theorem dX11_tell_36 : decode cX11_tell 36 = .ok (.iconst 0, 1) := by decide +kernel
theorem dX11_tell_37 : decode cX11_tell 37 = .ok (.istore_n 3, 1) := by decide +kernel
theorem dX11_tell_38 : decode cX11_tell 38 = .ok (.iconst 0, 1) := by decide +kernel
theorem dX11_tell_39 : decode cX11_tell 39 = .ok (.istore 4, 2) := by decide +kernel
theorem dX11_tell_41 : decode cX11_tell 41 = .ok (.iload 4, 2) := by decide +kernel
theorem dX11_tell_43 : decode cX11_tell 43 = .ok (.aload_n 0, 1) := by decide +kernel
theorem dX11_tell_44 : decode cX11_tell 44 = .ok (.getfield 67, 3) := by decide +kernel
theorem dX11_tell_47 : decode cX11_tell 47 = .ok (.getfield 197, 3) := by decide +kernel
theorem dX11_tell_50 : decode cX11_tell 50 = .ok (.getfield 151, 3) := by decide +kernel
theorem dX11_tell_53 : decode cX11_tell 53 = .ok (.if_icmp .ge 26, 3) := by decide +kernel
theorem dX11_tell_79 : decode cX11_tell 79 = .ok (.iload_n 3, 1) := by decide +kernel
theorem dX11_tell_80 : decode cX11_tell 80 = .ok (.ireturn, 1) := by decide +kernel
set_option maxRecDepth 20000 in
theorem ggX11_uses_X11_reformAt : GoodIn wsX11_uses wsX11_reformAt := goodIn_r _ [11, 12, 3, 205, 206, 207, 208, 209, 210, 211, 212, 213, 214, 215, 216, 217, 218, 219, 220, 221] (by decide +kernel) (by decide +kernel)
set_option maxRecDepth 20000 in
theorem gX11_uses_X11_reformAt : GoodIn wsX11_uses (wsV RX11 138 RX11 yX11_reformAt wsX11_reformAt) := goodIn_app (goodIn_of _ (by decide +kernel)) ggX11_uses_X11_reformAt
theorem dX11_uses_0 : decode cX11_uses 0 = .ok (.aload_n 0, 1) := by decide +kernel
theorem dX11_uses_1 : decode cX11_uses 1 = .ok (.iload_n 1, 1) := by decide +kernel
theorem dX11_uses_2 : decode cX11_uses 2 = .ok (.invokevirtual 138, 3) := by decide +kernel
theorem dX11_uses_5 : decode cX11_uses 5 = .ok (.astore_n 3, 1) := by decide +kernel
theorem dX11_uses_6 : decode cX11_uses 6 = .ok (.aload_n 3, 1) := by decide +kernel
theorem dX11_uses_7 : decode cX11_uses 7 = .ok (.ifnull 15, 3) := by decide +kernel
theorem dX11_uses_22 : decode cX11_uses 22 = .ok (.bipush (-2), 2) := by decide +kernel
theorem dX11_uses_24 : decode cX11_uses 24 = .ok (.ireturn, 1) := by decide +kernel
set_option maxRecDepth 20000 in
theorem ggX11_write_X7_take : GoodIn wsX11_write wsX7_take := goodIn_r _ [14, 15, 278, 279] (by decide +kernel) (by decide +kernel)
set_option maxRecDepth 20000 in
theorem gX11_write_X7_take : GoodIn wsX11_write (wsV RX11 112 RX7 yX7_take wsX7_take) := goodIn_app (goodIn_of _ (by decide +kernel)) ggX11_write_X7_take
set_option maxRecDepth 20000 in
theorem ggX11_write_X11_areStages : GoodIn wsX11_write wsX11_areStages := goodIn_r _ [20, 21, 22, 23, 19, 24, 25, 261, 262, 263, 264, 265, 266, 267, 268, 269, 270, 271, 272, 273, 274, 275, 276, 277] (by decide +kernel) (by decide +kernel)
set_option maxRecDepth 20000 in
theorem gX11_write_X11_areStages : GoodIn wsX11_write (wsV RX11 160 RX11 yX11_areStages wsX11_areStages) := goodIn_app (goodIn_of _ (by decide +kernel)) ggX11_write_X11_areStages
set_option maxRecDepth 20000 in
theorem ggX11_write_X7_hasZero : GoodIn wsX11_write wsX7_hasZero := goodIn_r _ [29, 30, 31, 32, 13, 33, 34, 278, 279] (by decide +kernel) (by decide +kernel)
set_option maxRecDepth 20000 in
theorem gX11_write_X7_hasZero : GoodIn wsX11_write (wsV RX11 239 RX7 yX7_hasZero wsX7_hasZero) := goodIn_app (goodIn_of _ (by decide +kernel)) ggX11_write_X7_hasZero
set_option maxRecDepth 20000 in
theorem ggX11_write_X8_begin : GoodIn wsX11_write wsX8_begin := goodIn_r _ [39, 40, 41, 42, 43, 44, 45, 46, 47, 48, 280, 281, 282, 283, 284, 285, 286, 287] (by decide +kernel) (by decide +kernel)
set_option maxRecDepth 20000 in
theorem gX11_write_X8_begin : GoodIn wsX11_write (wsV RX11 242 RX8 yX8_begin wsX8_begin) := goodIn_app (goodIn_of _ (by decide +kernel)) ggX11_write_X8_begin
set_option maxRecDepth 20000 in
theorem ggX11_write_X6_begin : GoodIn wsX11_write wsX6_begin := goodIn_r _ [53, 54, 55, 56, 57, 58, 59, 60, 61, 288, 289, 290, 291, 292, 293, 294, 295, 296] (by decide +kernel) (by decide +kernel)
set_option maxRecDepth 20000 in
theorem gX11_write_X6_begin : GoodIn wsX11_write (wsV RX11 246 RX6 yX6_begin wsX6_begin) := goodIn_app (goodIn_of _ (by decide +kernel)) ggX11_write_X6_begin
set_option maxRecDepth 20000 in
theorem ggX11_write_X6_finish : GoodIn wsX11_write wsX6_finish := goodIn_r _ [256, 56, 57, 257, 251, 258, 54, 259, 55, 260, 247, 248, 249, 52, 250, 252, 122, 123, 124, 288, 289, 290, 291, 292, 293, 294, 295, 296] (by decide +kernel) (by decide +kernel)
set_option maxRecDepth 20000 in
theorem gX11_write_X6_finish : GoodIn wsX11_write (wsV RX11 269 RX6 yX6_finish wsX6_finish) := goodIn_app (goodIn_of _ (by decide +kernel)) ggX11_write_X6_finish
theorem dX11_write_0 : decode cX11_write 0 = .ok (.aload_n 0, 1) := by decide +kernel
theorem dX11_write_1 : decode cX11_write 1 = .ok (.getfield 12, 3) := by decide +kernel
theorem dX11_write_4 : decode cX11_write 4 = .ok (.invokevirtual 112, 3) := by decide +kernel
theorem dX11_write_7 : decode cX11_write 7 = .ok (.istore_n 3, 1) := by decide +kernel
theorem dX11_write_8 : decode cX11_write 8 = .ok (.aload_n 0, 1) := by decide +kernel
theorem dX11_write_9 : decode cX11_write 9 = .ok (.iload_n 1, 1) := by decide +kernel
theorem dX11_write_10 : decode cX11_write 10 = .ok (.iload_n 2, 1) := by decide +kernel
theorem dX11_write_11 : decode cX11_write 11 = .ok (.invokevirtual 160, 3) := by decide +kernel
theorem dX11_write_14 : decode cX11_write 14 = .ok (.ifCond .ne 6, 3) := by decide +kernel
theorem dX11_write_17 : decode cX11_write 17 = .ok (.bipush (-2), 2) := by decide +kernel
theorem dX11_write_19 : decode cX11_write 19 = .ok (.ireturn, 1) := by decide +kernel
theorem dX11_write_20 : decode cX11_write 20 = .ok (.aload_n 0, 1) := by decide +kernel
theorem dX11_write_21 : decode cX11_write 21 = .ok (.getfield 12, 3) := by decide +kernel
theorem dX11_write_24 : decode cX11_write 24 = .ok (.iload_n 3, 1) := by decide +kernel
theorem dX11_write_25 : decode cX11_write 25 = .ok (.invokevirtual 239, 3) := by decide +kernel
theorem dX11_write_28 : decode cX11_write 28 = .ok (.ifCond .eq 5, 3) := by decide +kernel
theorem dX11_write_33 : decode cX11_write 33 = .ok (.aload_n 0, 1) := by decide +kernel
theorem dX11_write_34 : decode cX11_write 34 = .ok (.getfield 87, 3) := by decide +kernel
theorem dX11_write_37 : decode cX11_write 37 = .ok (.aload_n 0, 1) := by decide +kernel
theorem dX11_write_38 : decode cX11_write 38 = .ok (.getfield 12, 3) := by decide +kernel
theorem dX11_write_41 : decode cX11_write 41 = .ok (.getfield 120, 3) := by decide +kernel
theorem dX11_write_44 : decode cX11_write 44 = .ok (.iload_n 3, 1) := by decide +kernel
theorem dX11_write_45 : decode cX11_write 45 = .ok (.invokevirtual 242, 3) := by decide +kernel
theorem dX11_write_48 : decode cX11_write 48 = .ok (.aload_n 0, 1) := by decide +kernel
theorem dX11_write_49 : decode cX11_write 49 = .ok (.getfield 94, 3) := by decide +kernel
theorem dX11_write_52 : decode cX11_write 52 = .ok (.invokevirtual 246, 3) := by decide +kernel
theorem dX11_write_55 : decode cX11_write 55 = .ok (.iconst 0, 1) := by decide +kernel
theorem dX11_write_56 : decode cX11_write 56 = .ok (.istore 4, 2) := by decide +kernel
theorem dX11_write_58 : decode cX11_write 58 = .ok (.iload 4, 2) := by decide +kernel
theorem dX11_write_60 : decode cX11_write 60 = .ok (.iload_n 3, 1) := by decide +kernel
theorem dX11_write_61 : decode cX11_write 61 = .ok (.if_icmp .ge 106, 3) := by decide +kernel
theorem dX11_write_167 : decode cX11_write 167 = .ok (.aload_n 0, 1) := by decide +kernel
theorem dX11_write_168 : decode cX11_write 168 = .ok (.getfield 94, 3) := by decide +kernel
theorem dX11_write_171 : decode cX11_write 171 = .ok (.aload_n 0, 1) := by decide +kernel
theorem dX11_write_172 : decode cX11_write 172 = .ok (.getfield 12, 3) := by decide +kernel
theorem dX11_write_175 : decode cX11_write 175 = .ok (.getfield 120, 3) := by decide +kernel
theorem dX11_write_178 : decode cX11_write 178 = .ok (.iload_n 3, 1) := by decide +kernel
theorem dX11_write_179 : decode cX11_write 179 = .ok (.invokevirtual 269, 3) := by decide +kernel
theorem dX11_write_182 : decode cX11_write 182 = .ok (.ireturn, 1) := by decide +kernel
set_option maxRecDepth 20000 in
theorem ggX11_written_X6_byteAt : GoodIn wsX11_written wsX6_byteAt := goodIn_r _ [6, 7, 8, 26, 27, 28, 29, 30, 31, 32, 33, 34] (by decide +kernel) (by decide +kernel)
set_option maxRecDepth 20000 in
theorem gX11_written_X6_byteAt : GoodIn wsX11_written (wsV RX11 273 RX6 yX6_byteAt wsX6_byteAt) := goodIn_app (goodIn_of _ (by decide +kernel)) ggX11_written_X6_byteAt
theorem dX11_written_0 : decode cX11_written 0 = .ok (.aload_n 0, 1) := by decide +kernel
theorem dX11_written_1 : decode cX11_written 1 = .ok (.getfield 94, 3) := by decide +kernel
theorem dX11_written_4 : decode cX11_written 4 = .ok (.iload_n 1, 1) := by decide +kernel
theorem dX11_written_5 : decode cX11_written 5 = .ok (.invokevirtual 273, 3) := by decide +kernel
theorem dX11_written_8 : decode cX11_written 8 = .ok (.ireturn, 1) := by decide +kernel
set_option maxRecDepth 20000 in
theorem ggX11_counted_X6_tallyOf : GoodIn wsX11_counted wsX6_tallyOf := goodIn_r _ [6, 7, 8, 26, 27, 28, 29, 30, 31, 32, 33, 34] (by decide +kernel) (by decide +kernel)
set_option maxRecDepth 20000 in
theorem gX11_counted_X6_tallyOf : GoodIn wsX11_counted (wsV RX11 277 RX6 yX6_tallyOf wsX6_tallyOf) := goodIn_app (goodIn_of _ (by decide +kernel)) ggX11_counted_X6_tallyOf
theorem dX11_counted_0 : decode cX11_counted 0 = .ok (.aload_n 0, 1) := by decide +kernel
theorem dX11_counted_1 : decode cX11_counted 1 = .ok (.getfield 94, 3) := by decide +kernel
theorem dX11_counted_4 : decode cX11_counted 4 = .ok (.iload_n 1, 1) := by decide +kernel
theorem dX11_counted_5 : decode cX11_counted 5 = .ok (.invokevirtual 277, 3) := by decide +kernel
theorem dX11_counted_8 : decode cX11_counted 8 = .ok (.ireturn, 1) := by decide +kernel
set_option maxRecDepth 20000 in
theorem ggX11_mixed_X7_take : GoodIn wsX11_mixed wsX7_take := goodIn_r _ [14, 15, 298, 299] (by decide +kernel) (by decide +kernel)
set_option maxRecDepth 20000 in
theorem gX11_mixed_X7_take : GoodIn wsX11_mixed (wsV RX11 112 RX7 yX7_take wsX7_take) := goodIn_app (goodIn_of _ (by decide +kernel)) ggX11_mixed_X7_take
set_option maxRecDepth 20000 in
theorem ggX11_mixed_X7_lines : GoodIn wsX11_mixed wsX7_lines := goodIn_r _ [19, 20, 21, 22, 13, 23, 24, 298, 299] (by decide +kernel) (by decide +kernel)
set_option maxRecDepth 20000 in
theorem gX11_mixed_X7_lines : GoodIn wsX11_mixed (wsV RX11 280 RX7 yX7_lines wsX7_lines) := goodIn_app (goodIn_of _ (by decide +kernel)) ggX11_mixed_X7_lines
set_option maxRecDepth 20000 in
theorem ggX11_mixed_X7_hasZero : GoodIn wsX11_mixed wsX7_hasZero := goodIn_r _ [28, 20, 21, 22, 13, 23, 24, 298, 299] (by decide +kernel) (by decide +kernel)
set_option maxRecDepth 20000 in
theorem gX11_mixed_X7_hasZero : GoodIn wsX11_mixed (wsV RX11 239 RX7 yX7_hasZero wsX7_hasZero) := goodIn_app (goodIn_of _ (by decide +kernel)) ggX11_mixed_X7_hasZero
set_option maxRecDepth 20000 in
theorem ggX11_mixed_X0_fill : GoodIn wsX11_mixed wsX0_fill := goodIn_r _ [33, 34, 35, 36, 37, 38, 39, 40, 41, 42, 43, 44, 45, 46, 47, 48, 49, 50, 51, 52, 53, 54, 55, 56, 57, 58, 59, 60, 61, 62, 63, 64, 32, 65, 66, 67, 68, 69, 70, 71, 72, 73, 74, 75, 76, 77, 78, 79, 80, 81, 82, 83, 84, 85, 86, 87, 88, 89, 90, 91, 92, 93, 94, 95, 96, 97, 98, 99, 100, 101, 102, 103, 104, 105, 106, 107, 108, 109, 110, 111, 112, 113, 114, 115, 116, 117, 118, 119, 120, 121, 122, 123, 124, 125, 126, 127, 128, 129, 130, 131, 132, 133, 134, 135, 136, 137, 138, 139, 140, 141, 142, 143, 144, 145, 146, 147, 148, 149, 150, 151, 152, 153, 154, 155, 156, 157, 158, 159, 160, 161, 162, 163, 164, 165, 166, 167, 168, 169, 170, 171, 172, 173, 174, 175, 176, 177, 178, 179, 180, 181, 182, 183, 184, 185, 186, 187, 188, 189, 190, 191, 192, 193, 194, 195, 196, 197, 198, 199, 200, 201, 202, 203, 204, 205, 308, 309, 310, 311, 312, 313, 314, 315, 316, 317, 318, 319, 320, 321, 322, 323, 324, 325, 326, 327, 328, 329, 330, 331, 332, 333, 334, 335, 336, 337, 338, 339, 340, 341, 342, 343, 344, 345, 346, 347, 348, 349] (by decide +kernel) (by decide +kernel)
set_option maxRecDepth 20000 in
theorem gX11_mixed_X0_fill : GoodIn wsX11_mixed (wsV RX11 211 RX0 yX0_fill wsX0_fill) := goodIn_app (goodIn_of _ (by decide +kernel)) ggX11_mixed_X0_fill
set_option maxRecDepth 20000 in
theorem ggX11_mixed_X2_begin : GoodIn wsX11_mixed wsX2_begin := goodIn_r _ [210, 211, 154, 155, 156, 212, 213, 214, 215, 216, 128, 217, 350, 351, 352, 353, 354, 355] (by decide +kernel) (by decide +kernel)
set_option maxRecDepth 20000 in
theorem gX11_mixed_X2_begin : GoodIn wsX11_mixed (wsV RX11 283 RX2 yX2_begin wsX2_begin) := goodIn_app (goodIn_of _ (by decide +kernel)) ggX11_mixed_X2_begin
set_option maxRecDepth 20000 in
theorem ggX11_mixed_X8_begin : GoodIn wsX11_mixed wsX8_begin := goodIn_r _ [222, 223, 224, 154, 155, 156, 225, 226, 227, 228, 300, 301, 302, 303, 304, 305, 306, 307] (by decide +kernel) (by decide +kernel)
set_option maxRecDepth 20000 in
theorem gX11_mixed_X8_begin : GoodIn wsX11_mixed (wsV RX11 242 RX8 yX8_begin wsX8_begin) := goodIn_app (goodIn_of _ (by decide +kernel)) ggX11_mixed_X8_begin
set_option maxRecDepth 20000 in
theorem ggX11_mixed_X2_settle : GoodIn wsX11_mixed wsX2_settle := goodIn_r _ [269, 212, 213, 270, 214, 271, 272, 273, 274, 275, 209, 276, 277, 278, 279, 280, 350, 351, 352, 353, 354, 355] (by decide +kernel) (by decide +kernel)
set_option maxRecDepth 20000 in
theorem gX11_mixed_X2_settle : GoodIn wsX11_mixed (wsV RX11 288 RX2 yX2_settle wsX2_settle) := goodIn_app (goodIn_of _ (by decide +kernel)) ggX11_mixed_X2_settle
theorem dX11_mixed_0 : decode cX11_mixed 0 = .ok (.aload_n 0, 1) := by decide +kernel
theorem dX11_mixed_1 : decode cX11_mixed 1 = .ok (.getfield 12, 3) := by decide +kernel
theorem dX11_mixed_4 : decode cX11_mixed 4 = .ok (.invokevirtual 112, 3) := by decide +kernel
theorem dX11_mixed_7 : decode cX11_mixed 7 = .ok (.istore_n 2, 1) := by decide +kernel
theorem dX11_mixed_8 : decode cX11_mixed 8 = .ok (.iload_n 1, 1) := by decide +kernel
theorem dX11_mixed_9 : decode cX11_mixed 9 = .ok (.ifCond .lt 9, 3) := by decide +kernel
theorem dX11_mixed_12 : decode cX11_mixed 12 = .ok (.iload_n 1, 1) := by decide +kernel
theorem dX11_mixed_13 : decode cX11_mixed 13 = .ok (.bipush 50, 2) := by decide +kernel
theorem dX11_mixed_15 : decode cX11_mixed 15 = .ok (.if_icmp .le 6, 3) := by decide +kernel
theorem dX11_mixed_18 : decode cX11_mixed 18 = .ok (.bipush (-2), 2) := by decide +kernel
theorem dX11_mixed_20 : decode cX11_mixed 20 = .ok (.ireturn, 1) := by decide +kernel
theorem dX11_mixed_21 : decode cX11_mixed 21 = .ok (.aload_n 0, 1) := by decide +kernel
theorem dX11_mixed_22 : decode cX11_mixed 22 = .ok (.getfield 12, 3) := by decide +kernel
theorem dX11_mixed_25 : decode cX11_mixed 25 = .ok (.iload_n 2, 1) := by decide +kernel
theorem dX11_mixed_26 : decode cX11_mixed 26 = .ok (.invokevirtual 280, 3) := by decide +kernel
theorem dX11_mixed_29 : decode cX11_mixed 29 = .ok (.istore_n 3, 1) := by decide +kernel
theorem dX11_mixed_30 : decode cX11_mixed 30 = .ok (.aload_n 0, 1) := by decide +kernel
theorem dX11_mixed_31 : decode cX11_mixed 31 = .ok (.getfield 12, 3) := by decide +kernel
theorem dX11_mixed_34 : decode cX11_mixed 34 = .ok (.iload_n 2, 1) := by decide +kernel
theorem dX11_mixed_35 : decode cX11_mixed 35 = .ok (.invokevirtual 239, 3) := by decide +kernel
theorem dX11_mixed_38 : decode cX11_mixed 38 = .ok (.ifCond .ne 9, 3) := by decide +kernel
theorem dX11_mixed_41 : decode cX11_mixed 41 = .ok (.iload_n 3, 1) := by decide +kernel
theorem dX11_mixed_42 : decode cX11_mixed 42 = .ok (.bipush 40, 2) := by decide +kernel
theorem dX11_mixed_44 : decode cX11_mixed 44 = .ok (.if_icmp .le 5, 3) := by decide +kernel
theorem dX11_mixed_49 : decode cX11_mixed 49 = .ok (.aload_n 0, 1) := by decide +kernel
theorem dX11_mixed_50 : decode cX11_mixed 50 = .ok (.getfield 67, 3) := by decide +kernel
theorem dX11_mixed_53 : decode cX11_mixed 53 = .ok (.aload_n 0, 1) := by decide +kernel
theorem dX11_mixed_54 : decode cX11_mixed 54 = .ok (.getfield 22, 3) := by decide +kernel
theorem dX11_mixed_57 : decode cX11_mixed 57 = .ok (.aload_n 0, 1) := by decide +kernel
theorem dX11_mixed_58 : decode cX11_mixed 58 = .ok (.getfield 18, 3) := by decide +kernel
theorem dX11_mixed_61 : decode cX11_mixed 61 = .ok (.aload_n 0, 1) := by decide +kernel
theorem dX11_mixed_62 : decode cX11_mixed 62 = .ok (.getfield 44, 3) := by decide +kernel
theorem dX11_mixed_65 : decode cX11_mixed 65 = .ok (.invokevirtual 211, 3) := by decide +kernel
theorem dX11_mixed_68 : decode cX11_mixed 68 = .ok (.aload_n 0, 1) := by decide +kernel
theorem dX11_mixed_69 : decode cX11_mixed 69 = .ok (.getfield 101, 3) := by decide +kernel
theorem dX11_mixed_72 : decode cX11_mixed 72 = .ok (.iload_n 3, 1) := by decide +kernel
theorem dX11_mixed_73 : decode cX11_mixed 73 = .ok (.aload_n 0, 1) := by decide +kernel
theorem dX11_mixed_74 : decode cX11_mixed 74 = .ok (.getfield 22, 3) := by decide +kernel
theorem dX11_mixed_77 : decode cX11_mixed 77 = .ok (.iconst 1, 1) := by decide +kernel
theorem dX11_mixed_78 : decode cX11_mixed 78 = .ok (.iadd, 1) := by decide +kernel
theorem dX11_mixed_79 : decode cX11_mixed 79 = .ok (.invokevirtual 283, 3) := by decide +kernel
theorem dX11_mixed_82 : decode cX11_mixed 82 = .ok (.aload_n 0, 1) := by decide +kernel
theorem dX11_mixed_83 : decode cX11_mixed 83 = .ok (.getfield 87, 3) := by decide +kernel
theorem dX11_mixed_86 : decode cX11_mixed 86 = .ok (.aload_n 0, 1) := by decide +kernel
theorem dX11_mixed_87 : decode cX11_mixed 87 = .ok (.getfield 12, 3) := by decide +kernel
theorem dX11_mixed_90 : decode cX11_mixed 90 = .ok (.getfield 120, 3) := by decide +kernel
theorem dX11_mixed_93 : decode cX11_mixed 93 = .ok (.iload_n 2, 1) := by decide +kernel
theorem dX11_mixed_94 : decode cX11_mixed 94 = .ok (.invokevirtual 242, 3) := by decide +kernel
theorem dX11_mixed_97 : decode cX11_mixed 97 = .ok (.iconst 0, 1) := by decide +kernel
theorem dX11_mixed_98 : decode cX11_mixed 98 = .ok (.istore 4, 2) := by decide +kernel
theorem dX11_mixed_100 : decode cX11_mixed 100 = .ok (.iload 4, 2) := by decide +kernel
theorem dX11_mixed_102 : decode cX11_mixed 102 = .ok (.iload_n 2, 1) := by decide +kernel
theorem dX11_mixed_103 : decode cX11_mixed 103 = .ok (.if_icmp .ge 33, 3) := by decide +kernel
theorem dX11_mixed_136 : decode cX11_mixed 136 = .ok (.aload_n 0, 1) := by decide +kernel
theorem dX11_mixed_137 : decode cX11_mixed 137 = .ok (.getfield 101, 3) := by decide +kernel
theorem dX11_mixed_140 : decode cX11_mixed 140 = .ok (.iload_n 1, 1) := by decide +kernel
theorem dX11_mixed_141 : decode cX11_mixed 141 = .ok (.invokevirtual 288, 3) := by decide +kernel
theorem dX11_mixed_144 : decode cX11_mixed 144 = .ok (.ireturn, 1) := by decide +kernel
set_option maxRecDepth 20000 in
theorem ggX11_line_X2_stageOf : GoodIn wsX11_line wsX2_stageOf := goodIn_r _ [6, 7, 8, 26, 27, 28, 29, 30, 31] (by decide +kernel) (by decide +kernel)
set_option maxRecDepth 20000 in
theorem gX11_line_X2_stageOf : GoodIn wsX11_line (wsV RX11 291 RX2 yX2_stageOf wsX2_stageOf) := goodIn_app (goodIn_of _ (by decide +kernel)) ggX11_line_X2_stageOf
theorem dX11_line_0 : decode cX11_line 0 = .ok (.aload_n 0, 1) := by decide +kernel
theorem dX11_line_1 : decode cX11_line 1 = .ok (.getfield 101, 3) := by decide +kernel
theorem dX11_line_4 : decode cX11_line 4 = .ok (.iload_n 1, 1) := by decide +kernel
theorem dX11_line_5 : decode cX11_line 5 = .ok (.invokevirtual 291, 3) := by decide +kernel
theorem dX11_line_8 : decode cX11_line 8 = .ok (.ireturn, 1) := by decide +kernel
theorem dX11_count_0 : decode cX11_count 0 = .ok (.iload_n 1, 1) := by decide +kernel
theorem dX11_count_1 : decode cX11_count 1 = .ok (.tableswitch 51 0 2 #[27, 32, 43], 27) := by decide +kernel
theorem dX11_count_28 : decode cX11_count 28 = .ok (.aload_n 0, 1) := by decide +kernel
theorem dX11_count_29 : decode cX11_count 29 = .ok (.getfield 22, 3) := by decide +kernel
theorem dX11_count_32 : decode cX11_count 32 = .ok (.ireturn, 1) := by decide +kernel
theorem dX11_count_33 : decode cX11_count 33 = .ok (.aload_n 0, 1) := by decide +kernel
theorem dX11_count_34 : decode cX11_count 34 = .ok (.getfield 67, 3) := by decide +kernel
theorem dX11_count_37 : decode cX11_count 37 = .ok (.getfield 197, 3) := by decide +kernel
theorem dX11_count_40 : decode cX11_count 40 = .ok (.getfield 151, 3) := by decide +kernel
theorem dX11_count_43 : decode cX11_count 43 = .ok (.ireturn, 1) := by decide +kernel
theorem dX11_count_44 : decode cX11_count 44 = .ok (.aload_n 0, 1) := by decide +kernel
theorem dX11_count_45 : decode cX11_count 45 = .ok (.getfield 12, 3) := by decide +kernel
theorem dX11_count_48 : decode cX11_count 48 = .ok (.getfield 105, 3) := by decide +kernel
theorem dX11_count_51 : decode cX11_count 51 = .ok (.ireturn, 1) := by decide +kernel
theorem dX11_count_52 : decode cX11_count 52 = .ok (.iconst (-1), 1) := by decide +kernel
theorem dX11_count_53 : decode cX11_count 53 = .ok (.ireturn, 1) := by decide +kernel
theorem dX11_reformAt_0 : decode cX11_reformAt 0 = .ok (.iload_n 1, 1) := by decide +kernel
theorem dX11_reformAt_1 : decode cX11_reformAt 1 = .ok (.ifCond .lt 11, 3) := by decide +kernel
theorem dX11_reformAt_4 : decode cX11_reformAt 4 = .ok (.iload_n 1, 1) := by decide +kernel
theorem dX11_reformAt_5 : decode cX11_reformAt 5 = .ok (.aload_n 0, 1) := by decide +kernel
theorem dX11_reformAt_6 : decode cX11_reformAt 6 = .ok (.getfield 22, 3) := by decide +kernel
theorem dX11_reformAt_9 : decode cX11_reformAt 9 = .ok (.if_icmp .lt 7, 3) := by decide +kernel
theorem dX11_reformAt_12 : decode cX11_reformAt 12 = .ok (.aconst_null, 1) := by decide +kernel
theorem dX11_reformAt_13 : decode cX11_reformAt 13 = .ok (.goto 9, 3) := by decide +kernel
theorem dX11_reformAt_22 : decode cX11_reformAt 22 = .ok (.areturn, 1) := by decide +kernel
theorem dX11_isStage_0 : decode cX11_isStage 0 = .ok (.iload_n 1, 1) := by decide +kernel
theorem dX11_isStage_1 : decode cX11_isStage 1 = .ok (.ifCond .lt 15, 3) := by decide +kernel
theorem dX11_isStage_4 : decode cX11_isStage 4 = .ok (.iload_n 1, 1) := by decide +kernel
theorem dX11_isStage_5 : decode cX11_isStage 5 = .ok (.aload_n 0, 1) := by decide +kernel
theorem dX11_isStage_6 : decode cX11_isStage 6 = .ok (.getfield 22, 3) := by decide +kernel
theorem dX11_isStage_9 : decode cX11_isStage 9 = .ok (.if_icmp .gt 7, 3) := by decide +kernel
theorem dX11_isStage_12 : decode cX11_isStage 12 = .ok (.iconst 1, 1) := by decide +kernel
theorem dX11_isStage_13 : decode cX11_isStage 13 = .ok (.goto 4, 3) := by decide +kernel
theorem dX11_isStage_16 : decode cX11_isStage 16 = .ok (.iconst 0, 1) := by decide +kernel
theorem dX11_isStage_17 : decode cX11_isStage 17 = .ok (.ireturn, 1) := by decide +kernel
set_option maxRecDepth 20000 in
theorem ggX11_areStages_X11_isStage : GoodIn wsX11_areStages wsX11_isStage := goodIn_r _ [5, 6, 7, 8, 9, 10, 11, 12, 13, 14, 15, 16, 17, 18, 19, 20, 21, 22, 23] (by decide +kernel) (by decide +kernel)
set_option maxRecDepth 20000 in
theorem gX11_areStages_X11_isStage : GoodIn wsX11_areStages (wsV RX11 208 RX11 yX11_isStage wsX11_isStage) := goodIn_app (goodIn_of _ (by decide +kernel)) ggX11_areStages_X11_isStage
theorem dX11_areStages_0 : decode cX11_areStages 0 = .ok (.aload_n 0, 1) := by decide +kernel
theorem dX11_areStages_1 : decode cX11_areStages 1 = .ok (.iload_n 1, 1) := by decide +kernel
theorem dX11_areStages_2 : decode cX11_areStages 2 = .ok (.invokevirtual 208, 3) := by decide +kernel
theorem dX11_areStages_5 : decode cX11_areStages 5 = .ok (.ifCond .eq 20, 3) := by decide +kernel
theorem dX11_areStages_8 : decode cX11_areStages 8 = .ok (.aload_n 0, 1) := by decide +kernel
theorem dX11_areStages_9 : decode cX11_areStages 9 = .ok (.iload_n 2, 1) := by decide +kernel
theorem dX11_areStages_10 : decode cX11_areStages 10 = .ok (.invokevirtual 208, 3) := by decide +kernel
theorem dX11_areStages_13 : decode cX11_areStages 13 = .ok (.ifCond .eq 12, 3) := by decide +kernel
theorem dX11_areStages_16 : decode cX11_areStages 16 = .ok (.iload_n 1, 1) := by decide +kernel
theorem dX11_areStages_17 : decode cX11_areStages 17 = .ok (.iload_n 2, 1) := by decide +kernel
theorem dX11_areStages_18 : decode cX11_areStages 18 = .ok (.if_icmp .gt 7, 3) := by decide +kernel
theorem dX11_areStages_21 : decode cX11_areStages 21 = .ok (.iconst 1, 1) := by decide +kernel
theorem dX11_areStages_22 : decode cX11_areStages 22 = .ok (.goto 4, 3) := by decide +kernel
theorem dX11_areStages_25 : decode cX11_areStages 25 = .ok (.iconst 0, 1) := by decide +kernel
theorem dX11_areStages_26 : decode cX11_areStages 26 = .ok (.ireturn, 1) := by decide +kernel
theorem dX12_init_0 : decode cX12_init 0 = .ok (.aload_n 0, 1) := by decide +kernel
theorem dX12_init_1 : decode cX12_init 1 = .ok (.invokespecial 1, 3) := by decide +kernel
theorem dX12_init_4 : decode cX12_init 4 = .ok (.aload_n 0, 1) := by decide +kernel
theorem dX12_init_5 : decode cX12_init 5 = .ok (.sipush 2000, 3) := by decide +kernel
theorem dX12_init_8 : decode cX12_init 8 = .ok (.newarray .byte, 2) := by decide +kernel
theorem dX12_init_10 : decode cX12_init 10 = .ok (.putfield 7, 3) := by decide +kernel
theorem dX12_init_13 : decode cX12_init 13 = .ok (.aload_n 0, 1) := by decide +kernel
theorem dX12_init_14 : decode cX12_init 14 = .ok (.iconst (-1), 1) := by decide +kernel
theorem dX12_init_15 : decode cX12_init 15 = .ok (.putfield 13, 3) := by decide +kernel
theorem dX12_init_18 : decode cX12_init 18 = .ok (.aload_n 0, 1) := by decide +kernel
theorem dX12_init_19 : decode cX12_init 19 = .ok (.bipush 7, 2) := by decide +kernel
theorem dX12_init_21 : decode cX12_init 21 = .ok (.newarray .int, 2) := by decide +kernel
theorem dX12_init_23 : decode cX12_init 23 = .ok (.putfield 17, 3) := by decide +kernel
theorem dX12_init_26 : decode cX12_init 26 = .ok (.aload_n 0, 1) := by decide +kernel
theorem dX12_init_27 : decode cX12_init 27 = .ok (.bipush 7, 2) := by decide +kernel
theorem dX12_init_29 : decode cX12_init 29 = .ok (.newarray .int, 2) := by decide +kernel
theorem dX12_init_31 : decode cX12_init 31 = .ok (.putfield 21, 3) := by decide +kernel
theorem dX12_init_34 : decode cX12_init 34 = .ok (.aload_n 0, 1) := by decide +kernel
theorem dX12_init_35 : decode cX12_init 35 = .ok (.bipush 7, 2) := by decide +kernel
theorem dX12_init_37 : decode cX12_init 37 = .ok (.newarray .int, 2) := by decide +kernel
theorem dX12_init_39 : decode cX12_init 39 = .ok (.putfield 24, 3) := by decide +kernel
theorem dX12_init_42 : decode cX12_init 42 = .ok (.aload_n 0, 1) := by decide +kernel
theorem dX12_init_43 : decode cX12_init 43 = .ok (.bipush 7, 2) := by decide +kernel
theorem dX12_init_45 : decode cX12_init 45 = .ok (.newarray .int, 2) := by decide +kernel
theorem dX12_init_47 : decode cX12_init 47 = .ok (.putfield 27, 3) := by decide +kernel
theorem dX12_init_50 : decode cX12_init 50 = .ok (.aload_n 0, 1) := by decide +kernel
theorem dX12_init_51 : decode cX12_init 51 = .ok (.sipush 17920, 3) := by decide +kernel
theorem dX12_init_54 : decode cX12_init 54 = .ok (.newarray .byte, 2) := by decide +kernel
theorem dX12_init_56 : decode cX12_init 56 = .ok (.putfield 30, 3) := by decide +kernel
theorem dX12_init_59 : decode cX12_init 59 = .ok (.aload_n 0, 1) := by decide +kernel
theorem dX12_init_60 : decode cX12_init 60 = .ok (.sipush 1120, 3) := by decide +kernel
theorem dX12_init_63 : decode cX12_init 63 = .ok (.newarray .int, 2) := by decide +kernel
theorem dX12_init_65 : decode cX12_init 65 = .ok (.putfield 33, 3) := by decide +kernel
theorem dX12_init_68 : decode cX12_init 68 = .ok (.aload_n 0, 1) := by decide +kernel
theorem dX12_init_69 : decode cX12_init 69 = .ok (.sipush 280, 3) := by decide +kernel
theorem dX12_init_72 : decode cX12_init 72 = .ok (.newarray .boolean, 2) := by decide +kernel
theorem dX12_init_74 : decode cX12_init 74 = .ok (.putfield 36, 3) := by decide +kernel
theorem dX12_init_77 : decode cX12_init 77 = .ok (.aload_n 0, 1) := by decide +kernel
theorem dX12_init_78 : decode cX12_init 78 = .ok (.sipush 280, 3) := by decide +kernel
theorem dX12_init_81 : decode cX12_init 81 = .ok (.newarray .boolean, 2) := by decide +kernel
theorem dX12_init_83 : decode cX12_init 83 = .ok (.putfield 40, 3) := by decide +kernel
theorem dX12_init_86 : decode cX12_init 86 = .ok (.aload_n 0, 1) := by decide +kernel
theorem dX12_init_87 : decode cX12_init 87 = .ok (.sipush 4480, 3) := by decide +kernel
theorem dX12_init_90 : decode cX12_init 90 = .ok (.newarray .byte, 2) := by decide +kernel
theorem dX12_init_92 : decode cX12_init 92 = .ok (.putfield 43, 3) := by decide +kernel
theorem dX12_init_95 : decode cX12_init 95 = .ok (.aload_n 0, 1) := by decide +kernel
theorem dX12_init_96 : decode cX12_init 96 = .ok (.sipush 280, 3) := by decide +kernel
