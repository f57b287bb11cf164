theorem dX11_feed_65 : decode cX11_feed 65 = .ok (.getfield 105, 3) := by decide +kernel
theorem dX11_feed_68 : decode cX11_feed 68 = .ok (.ireturn, 1) := by decide +kernel
theorem dX11_end_0 : decode cX11_end 0 = .ok (.iload_n 1, 1) := by decide +kernel
theorem dX11_end_1 : decode cX11_end 1 = .ok (.ifCond .lt 14, 3) := by decide +kernel
theorem dX11_end_4 : decode cX11_end 4 = .ok (.iload_n 1, 1) := by decide +kernel
theorem dX11_end_5 : decode cX11_end 5 = .ok (.aload_n 0, 1) := by decide +kernel
theorem dX11_end_6 : decode cX11_end 6 = .ok (.getfield 12, 3) := by decide +kernel
theorem dX11_end_9 : decode cX11_end 9 = .ok (.getfield 105, 3) := by decide +kernel
theorem dX11_end_12 : decode cX11_end 12 = .ok (.if_icmp .le 5, 3) := by decide +kernel
theorem dX11_end_15 : decode cX11_end 15 = .ok (.iconst (-1), 1) := by decide +kernel
theorem dX11_end_16 : decode cX11_end 16 = .ok (.ireturn, 1) := by decide +kernel
theorem dX11_end_17 : decode cX11_end 17 = .ok (.aload_n 0, 1) := by decide +kernel
theorem dX11_end_18 : decode cX11_end 18 = .ok (.getfield 12, 3) := by decide +kernel
theorem dX11_end_21 : decode cX11_end 21 = .ok (.iload_n 1, 1) := by decide +kernel
theorem dX11_end_22 : decode cX11_end 22 = .ok (.putfield 105, 3) := by decide +kernel
theorem dX11_end_25 : decode cX11_end 25 = .ok (.iload_n 1, 1) := by decide +kernel
theorem dX11_end_26 : decode cX11_end 26 = .ok (.ireturn, 1) := by decide +kernel
set_option maxRecDepth 20000 in
theorem ggX11_reform_X7_take : GoodIn wsX11_reform wsX7_take := goodIn_r _ [18, 19, 325, 326] (by decide +kernel) (by decide +kernel)
set_option maxRecDepth 20000 in
theorem gX11_reform_X7_take : GoodIn wsX11_reform (wsV RX11 112 RX7 yX7_take wsX7_take) := goodIn_app (goodIn_of _ (by decide +kernel)) ggX11_reform_X7_take
set_option maxRecDepth 20000 in
theorem ggX11_reform_X5_clear : GoodIn wsX11_reform wsX5_clear := goodIn_r _ [23, 24, 25, 26, 27, 28, 29, 30, 31, 336, 337, 338, 339, 340, 341, 342, 343, 344, 345, 346, 347, 348, 349, 350] (by decide +kernel) (by decide +kernel)
set_option maxRecDepth 20000 in
theorem gX11_reform_X5_clear : GoodIn wsX11_reform (wsV RX11 117 RX5 yX5_clear wsX5_clear) := goodIn_app (goodIn_of _ (by decide +kernel)) ggX11_reform_X5_clear
set_option maxRecDepth 20000 in
theorem ggX11_reform_X4_read : GoodIn wsX11_reform wsX4_read := goodIn_r _ [36, 37, 38, 39, 40, 41, 42, 43, 44, 45, 46, 47, 48, 49, 35, 50, 51, 52, 53, 54, 55, 56, 57, 58, 59, 60, 61, 62, 63, 64, 65, 66, 67, 68, 69, 70, 71, 72, 73, 74, 75, 76, 77, 78, 79, 80, 81, 82, 83, 84, 85, 86, 87, 88, 89, 90, 91, 92, 93, 94, 95, 96, 97, 98, 99, 100, 101, 102, 103, 104, 105, 106, 107, 108, 109, 110, 111, 112, 113, 114, 115, 116, 117, 118, 119, 120, 121, 122, 123, 124, 125, 126, 127, 128, 129, 130, 131, 132, 133, 134, 135, 136, 137, 138, 139, 140, 141, 142, 143, 144, 145, 146, 147, 148, 149, 150, 151, 152, 153, 154, 155, 156, 157, 13, 158, 29, 159, 160, 161, 162, 28, 163, 27, 30, 164, 165, 166, 167, 168, 169, 170, 171, 172, 173, 174, 175, 176, 177, 178, 179, 180, 181, 182, 183, 184, 185, 186, 187, 188, 189, 190, 191, 192, 193, 194, 195, 196, 197, 198, 199, 200, 201, 202, 203, 204, 205, 206, 207, 208, 209, 210, 211, 212, 213, 214, 215, 216, 217, 218, 219, 220, 221, 222, 223, 224, 225, 226, 227, 228, 229, 230, 231, 232, 233, 234, 235, 236, 237, 238, 239, 240, 241, 242, 243, 25, 244, 245, 246, 247, 248, 249, 250, 251, 252, 327, 328, 329, 330, 331, 332, 333, 334, 335, 336, 337, 338, 339, 340, 341, 342, 343, 344, 345, 346, 347, 348, 349, 350, 351, 352, 353, 354, 355, 356] (by decide +kernel) (by decide +kernel)
set_option maxRecDepth 20000 in
theorem gX11_reform_X4_read : GoodIn wsX11_reform (wsV RX11 124 RX4 yX4_read wsX4_read) := goodIn_app (goodIn_of _ (by decide +kernel)) ggX11_reform_X4_read
set_option maxRecDepth 20000 in
theorem ggX11_reform_X9_turnParts : GoodIn wsX11_reform wsX9_turnParts := goodIn_r _ [257, 258, 259, 260, 261, 262, 263, 264, 265, 266, 267, 268, 269, 270, 271, 256, 272, 273, 39, 40, 41, 274, 170, 171, 172, 275, 276, 277, 278, 279, 280, 281, 282, 283, 284, 285, 286, 287, 288, 289, 204, 290, 238, 236, 237, 234, 235, 291, 149, 60, 150, 292, 166, 167, 168, 147, 146, 124, 169, 125, 173, 121, 122, 123, 336, 337, 338, 339, 340, 341, 342, 343, 344, 345, 346, 347, 348, 349, 350, 357, 358, 359, 360, 361, 362, 363, 364, 351, 352, 353, 354, 355, 356] (by decide +kernel) (by decide +kernel)
set_option maxRecDepth 20000 in
theorem gX11_reform_X9_turnParts : GoodIn wsX11_reform (wsV RX11 131 RX9 yX9_turnParts wsX9_turnParts) := goodIn_app (goodIn_of _ (by decide +kernel)) ggX11_reform_X9_turnParts
set_option maxRecDepth 20000 in
theorem ggX11_reform_X5_init : GoodIn wsX11_reform wsX5_init := goodIn_r _ [294, 295, 232, 233, 24, 296, 244, 25, 297, 298, 60, 26, 28, 29, 299, 163, 30, 31, 300, 301, 302, 303, 304, 305, 306, 124, 147, 222, 146, 307, 125, 336, 337, 338, 339, 340, 341, 342, 343, 344, 345, 346, 347, 348, 349, 350] (by decide +kernel) (by decide +kernel)
set_option maxRecDepth 20000 in
theorem gX11_reform_X5_init_n29 : GoodIn wsX11_reform (wsX5_init) := ggX11_reform_X5_init
theorem dX11_reform_0 : decode cX11_reform 0 = .ok (.aload_n 0, 1) := by decide +kernel
theorem dX11_reform_1 : decode cX11_reform 1 = .ok (.getfield 12, 3) := by decide +kernel
theorem dX11_reform_4 : decode cX11_reform 4 = .ok (.invokevirtual 112, 3) := by decide +kernel
theorem dX11_reform_7 : decode cX11_reform 7 = .ok (.istore_n 2, 1) := by decide +kernel
theorem dX11_reform_8 : decode cX11_reform 8 = .ok (.iload_n 1, 1) := by decide +kernel
theorem dX11_reform_9 : decode cX11_reform 9 = .ok (.aload_n 0, 1) := by decide +kernel
theorem dX11_reform_10 : decode cX11_reform 10 = .ok (.getfield 26, 3) := by decide +kernel
theorem dX11_reform_13 : decode cX11_reform 13 = .ok (.if_icmp .le 9, 3) := by decide +kernel
theorem dX11_reform_16 : decode cX11_reform 16 = .ok (.iload_n 1, 1) := by decide +kernel
theorem dX11_reform_17 : decode cX11_reform 17 = .ok (.ldc 116, 2) := by decide +kernel
theorem dX11_reform_19 : decode cX11_reform 19 = .ok (.if_icmp .le 6, 3) := by decide +kernel
theorem dX11_reform_22 : decode cX11_reform 22 = .ok (.bipush (-2), 2) := by decide +kernel
theorem dX11_reform_24 : decode cX11_reform 24 = .ok (.ireturn, 1) := by decide +kernel
theorem dX11_reform_25 : decode cX11_reform 25 = .ok (.aload_n 0, 1) := by decide +kernel
theorem dX11_reform_26 : decode cX11_reform 26 = .ok (.getfield 30, 3) := by decide +kernel
theorem dX11_reform_29 : decode cX11_reform 29 = .ok (.iload_n 1, 1) := by decide +kernel
theorem dX11_reform_30 : decode cX11_reform 30 = .ok (.invokevirtual 117, 3) := by decide +kernel
theorem dX11_reform_33 : decode cX11_reform 33 = .ok (.aload_n 0, 1) := by decide +kernel
theorem dX11_reform_34 : decode cX11_reform 34 = .ok (.getfield 37, 3) := by decide +kernel
theorem dX11_reform_37 : decode cX11_reform 37 = .ok (.aload_n 0, 1) := by decide +kernel
theorem dX11_reform_38 : decode cX11_reform 38 = .ok (.getfield 12, 3) := by decide +kernel
theorem dX11_reform_41 : decode cX11_reform 41 = .ok (.getfield 120, 3) := by decide +kernel
theorem dX11_reform_44 : decode cX11_reform 44 = .ok (.iload_n 2, 1) := by decide +kernel
theorem dX11_reform_45 : decode cX11_reform 45 = .ok (.aload_n 0, 1) := by decide +kernel
theorem dX11_reform_46 : decode cX11_reform 46 = .ok (.getfield 30, 3) := by decide +kernel
theorem dX11_reform_49 : decode cX11_reform 49 = .ok (.invokevirtual 124, 3) := by decide +kernel
theorem dX11_reform_52 : decode cX11_reform 52 = .ok (.aload_n 0, 1) := by decide +kernel
theorem dX11_reform_53 : decode cX11_reform 53 = .ok (.getfield 37, 3) := by decide +kernel
theorem dX11_reform_56 : decode cX11_reform 56 = .ok (.getfield 128, 3) := by decide +kernel
theorem dX11_reform_59 : decode cX11_reform 59 = .ok (.ifCond .eq 5, 3) := by decide +kernel
theorem dX11_reform_64 : decode cX11_reform 64 = .ok (.aload_n 0, 1) := by decide +kernel
theorem dX11_reform_65 : decode cX11_reform 65 = .ok (.getfield 22, 3) := by decide +kernel
theorem dX11_reform_68 : decode cX11_reform 68 = .ok (.bipush 6, 2) := by decide +kernel
theorem dX11_reform_70 : decode cX11_reform 70 = .ok (.if_icmp .lt 6, 3) := by decide +kernel
theorem dX11_reform_76 : decode cX11_reform 76 = .ok (.aload_n 0, 1) := by decide +kernel
theorem dX11_reform_77 : decode cX11_reform 77 = .ok (.getfield 44, 3) := by decide +kernel
theorem dX11_reform_80 : decode cX11_reform 80 = .ok (.aload_n 0, 1) := by decide +kernel
theorem dX11_reform_81 : decode cX11_reform 81 = .ok (.getfield 30, 3) := by decide +kernel
theorem dX11_reform_84 : decode cX11_reform 84 = .ok (.invokevirtual 131, 3) := by decide +kernel
theorem dX11_reform_87 : decode cX11_reform 87 = .ok (.aload_n 0, 1) := by decide +kernel
theorem dX11_reform_88 : decode cX11_reform 88 = .ok (.getfield 18, 3) := by decide +kernel
theorem dX11_reform_91 : decode cX11_reform 91 = .ok (.aload_n 0, 1) := by decide +kernel
theorem dX11_reform_92 : decode cX11_reform 92 = .ok (.getfield 22, 3) := by decide +kernel
theorem dX11_reform_95 : decode cX11_reform 95 = .ok (.aload_n 0, 1) := by decide +kernel
theorem dX11_reform_96 : decode cX11_reform 96 = .ok (.getfield 30, 3) := by decide +kernel
theorem dX11_reform_99 : decode cX11_reform 99 = .ok (.aastore, 1) := by decide +kernel
theorem dX11_reform_100 : decode cX11_reform 100 = .ok (.aload_n 0, 1) := by decide +kernel
theorem dX11_reform_101 : decode cX11_reform 101 = .ok (.new 16, 3) := by decide +kernel
theorem dX11_reform_104 : decode cX11_reform 104 = .ok (.dup, 1) := by decide +kernel
theorem dX11_reform_105 : decode cX11_reform 105 = .ok (.invokespecial 29, 3) := by decide +kernel
theorem dX11_reform_108 : decode cX11_reform 108 = .ok (.putfield 30, 3) := by decide +kernel
theorem dX11_reform_111 : decode cX11_reform 111 = .ok (.aload_n 0, 1) := by decide +kernel
theorem dX11_reform_112 : decode cX11_reform 112 = .ok (.iload_n 1, 1) := by decide +kernel
theorem dX11_reform_113 : decode cX11_reform 113 = .ok (.putfield 26, 3) := by decide +kernel
theorem dX11_reform_116 : decode cX11_reform 116 = .ok (.aload_n 0, 1) := by decide +kernel
theorem dX11_reform_117 : decode cX11_reform 117 = .ok (.dup, 1) := by decide +kernel
theorem dX11_reform_118 : decode cX11_reform 118 = .ok (.getfield 22, 3) := by decide +kernel
theorem dX11_reform_121 : decode cX11_reform 121 = .ok (.iconst 1, 1) := by decide +kernel
theorem dX11_reform_122 : decode cX11_reform 122 = .ok (.iadd, 1) := by decide +kernel
theorem dX11_reform_123 : decode cX11_reform 123 = .ok (.putfield 22, 3) := by decide +kernel
theorem dX11_reform_126 : decode cX11_reform 126 = .ok (.aload_n 0, 1) := by decide +kernel
theorem dX11_reform_127 : decode cX11_reform 127 = .ok (.getfield 22, 3) := by decide +kernel
theorem dX11_reform_130 : decode cX11_reform 130 = .ok (.iconst 1, 1) := by decide +kernel
theorem dX11_reform_131 : decode cX11_reform 131 = .ok (.isub, 1) := by decide +kernel
theorem dX11_reform_132 : decode cX11_reform 132 = .ok (.ireturn, 1) := by decide +kernel
theorem dX11_fault_0 : decode cX11_fault 0 = .ok (.iload_n 1, 1) := by decide +kernel
theorem dX11_fault_1 : decode cX11_fault 1 = .ok (.lookupswitch 43 #[(0, 27), (1, 35)], 27) := by decide +kernel
theorem dX11_fault_28 : decode cX11_fault 28 = .ok (.aload_n 0, 1) := by decide +kernel
theorem dX11_fault_29 : decode cX11_fault 29 = .ok (.getfield 37, 3) := by decide +kernel
theorem dX11_fault_32 : decode cX11_fault 32 = .ok (.getfield 128, 3) := by decide +kernel
theorem dX11_fault_35 : decode cX11_fault 35 = .ok (.ireturn, 1) := by decide +kernel
theorem dX11_fault_36 : decode cX11_fault 36 = .ok (.aload_n 0, 1) := by decide +kernel
theorem dX11_fault_37 : decode cX11_fault 37 = .ok (.getfield 37, 3) := by decide +kernel
theorem dX11_fault_40 : decode cX11_fault 40 = .ok (.getfield 135, 3) := by decide +kernel
theorem dX11_fault_43 : decode cX11_fault 43 = .ok (.ireturn, 1) := by decide +kernel
theorem dX11_fault_44 : decode cX11_fault 44 = .ok (.iconst (-1), 1) := by decide +kernel
theorem dX11_fault_45 : decode cX11_fault 45 = .ok (.ireturn, 1) := by decide +kernel
set_option maxRecDepth 20000 in
theorem ggX11_about_X11_reformAt : GoodIn wsX11_about wsX11_reformAt := goodIn_r _ [11, 12, 13, 29, 30, 31, 32, 33, 34, 35, 36, 37, 38, 39, 40, 41, 42, 43, 44, 45] (by decide +kernel) (by decide +kernel)
set_option maxRecDepth 20000 in
theorem gX11_about_X11_reformAt : GoodIn wsX11_about (wsV RX11 138 RX11 yX11_reformAt wsX11_reformAt) := goodIn_app (goodIn_of _ (by decide +kernel)) ggX11_about_X11_reformAt
theorem dX11_about_0 : decode cX11_about 0 = .ok (.aload_n 0, 1) := by decide +kernel
theorem dX11_about_1 : decode cX11_about 1 = .ok (.iload_n 1, 1) := by decide +kernel
theorem dX11_about_2 : decode cX11_about 2 = .ok (.invokevirtual 138, 3) := by decide +kernel
theorem dX11_about_5 : decode cX11_about 5 = .ok (.astore_n 3, 1) := by decide +kernel
theorem dX11_about_6 : decode cX11_about 6 = .ok (.aload_n 3, 1) := by decide +kernel
theorem dX11_about_7 : decode cX11_about 7 = .ok (.ifnonnull 5, 3) := by decide +kernel
theorem dX11_about_10 : decode cX11_about 10 = .ok (.iconst (-1), 1) := by decide +kernel
theorem dX11_about_11 : decode cX11_about 11 = .ok (.ireturn, 1) := by decide +kernel
theorem dX11_stage_0 : decode cX11_stage 0 = .ok (.iload_n 1, 1) := by decide +kernel
theorem dX11_stage_1 : decode cX11_stage 1 = .ok (.ifCond .lt 9, 3) := by decide +kernel
theorem dX11_stage_4 : decode cX11_stage 4 = .ok (.iload_n 1, 1) := by decide +kernel
theorem dX11_stage_5 : decode cX11_stage 5 = .ok (.ldc 116, 2) := by decide +kernel
theorem dX11_stage_7 : decode cX11_stage 7 = .ok (.if_icmp .le 6, 3) := by decide +kernel
theorem dX11_stage_10 : decode cX11_stage 10 = .ok (.bipush (-2), 2) := by decide +kernel
theorem dX11_stage_12 : decode cX11_stage 12 = .ok (.ireturn, 1) := by decide +kernel
theorem dX11_stage_13 : decode cX11_stage 13 = .ok (.iconst 0, 1) := by decide +kernel
theorem dX11_stage_14 : decode cX11_stage 14 = .ok (.istore_n 2, 1) := by decide +kernel
theorem dX11_stage_15 : decode cX11_stage 15 = .ok (.iconst 0, 1) := by decide +kernel
theorem dX11_stage_16 : decode cX11_stage 16 = .ok (.istore_n 3, 1) := by decide +kernel
theorem dX11_stage_17 : decode cX11_stage 17 = .ok (.iload_n 3, 1) := by decide +kernel
theorem dX11_stage_18 : decode cX11_stage 18 = .ok (.aload_n 0, 1) := by decide +kernel
theorem dX11_stage_19 : decode cX11_stage 19 = .ok (.getfield 22, 3) := by decide +kernel
theorem dX11_stage_22 : decode cX11_stage 22 = .ok (.if_icmp .ge 34, 3) := by decide +kernel
theorem dX11_stage_56 : decode cX11_stage 56 = .ok (.iload_n 2, 1) := by decide +kernel
theorem dX11_stage_57 : decode cX11_stage 57 = .ok (.ireturn, 1) := by decide +kernel
set_option maxRecDepth 20000 in
theorem ggX11_turn_X7_take : GoodIn wsX11_turn wsX7_take := goodIn_r _ [11, 12, 201, 202] (by decide +kernel) (by decide +kernel)
set_option maxRecDepth 20000 in
theorem gX11_turn_X7_take : GoodIn wsX11_turn (wsV RX11 112 RX7 yX7_take wsX7_take) := goodIn_app (goodIn_of _ (by decide +kernel)) ggX11_turn_X7_take
set_option maxRecDepth 20000 in
theorem ggX11_turn_X11_areStages : GoodIn wsX11_turn wsX11_areStages := goodIn_r _ [17, 18, 19, 20, 16, 21, 22, 184, 185, 186, 187, 188, 189, 190, 191, 192, 193, 194, 195, 196, 197, 198, 199, 200] (by decide +kernel) (by decide +kernel)
set_option maxRecDepth 20000 in
theorem gX11_turn_X11_areStages : GoodIn wsX11_turn (wsV RX11 160 RX11 yX11_areStages wsX11_areStages) := goodIn_app (goodIn_of _ (by decide +kernel)) ggX11_turn_X11_areStages
set_option maxRecDepth 20000 in
theorem ggX11_turn_X7_isWord : GoodIn wsX11_turn wsX7_isWord := goodIn_r _ [26, 27, 28, 29, 30, 31, 201, 202] (by decide +kernel) (by decide +kernel)
set_option maxRecDepth 20000 in
theorem gX11_turn_X7_isWord : GoodIn wsX11_turn (wsV RX11 164 RX7 yX7_isWord wsX7_isWord) := goodIn_app (goodIn_of _ (by decide +kernel)) ggX11_turn_X7_isWord
theorem dX11_turn_0 : decode cX11_turn 0 = .ok (.aload_n 0, 1) := by decide +kernel
theorem dX11_turn_1 : decode cX11_turn 1 = .ok (.getfield 12, 3) := by decide +kernel
theorem dX11_turn_4 : decode cX11_turn 4 = .ok (.invokevirtual 112, 3) := by decide +kernel
theorem dX11_turn_7 : decode cX11_turn 7 = .ok (.istore_n 3, 1) := by decide +kernel
theorem dX11_turn_8 : decode cX11_turn 8 = .ok (.aload_n 0, 1) := by decide +kernel
theorem dX11_turn_9 : decode cX11_turn 9 = .ok (.iload_n 1, 1) := by decide +kernel
theorem dX11_turn_10 : decode cX11_turn 10 = .ok (.iload_n 2, 1) := by decide +kernel
theorem dX11_turn_11 : decode cX11_turn 11 = .ok (.invokevirtual 160, 3) := by decide +kernel
theorem dX11_turn_14 : decode cX11_turn 14 = .ok (.ifCond .eq 14, 3) := by decide +kernel
theorem dX11_turn_17 : decode cX11_turn 17 = .ok (.aload_n 0, 1) := by decide +kernel
theorem dX11_turn_18 : decode cX11_turn 18 = .ok (.getfield 12, 3) := by decide +kernel
theorem dX11_turn_21 : decode cX11_turn 21 = .ok (.iload_n 3, 1) := by decide +kernel
theorem dX11_turn_22 : decode cX11_turn 22 = .ok (.invokevirtual 164, 3) := by decide +kernel
theorem dX11_turn_25 : decode cX11_turn 25 = .ok (.ifCond .ne 6, 3) := by decide +kernel
theorem dX11_turn_28 : decode cX11_turn 28 = .ok (.bipush (-2), 2) := by decide +kernel
theorem dX11_turn_30 : decode cX11_turn 30 = .ok (.ireturn, 1) := by decide +kernel
set_option maxRecDepth 20000 in
theorem ggX11_form_X10_letterAt : GoodIn wsX11_form wsX10_letterAt := goodIn_r _ [6, 7, 8, 9, 10, 28, 29, 30, 31] (by decide +kernel) (by decide +kernel)
set_option maxRecDepth 20000 in
theorem gX11_form_X10_letterAt : GoodIn wsX11_form (wsV RX11 176 RX10 yX10_letterAt wsX10_letterAt) := goodIn_app (goodIn_of _ (by decide +kernel)) ggX11_form_X10_letterAt
theorem dX11_form_0 : decode cX11_form 0 = .ok (.aload_n 0, 1) := by decide +kernel
theorem dX11_form_1 : decode cX11_form 1 = .ok (.getfield 53, 3) := by decide +kernel
theorem dX11_form_4 : decode cX11_form 4 = .ok (.iload_n 1, 1) := by decide +kernel
theorem dX11_form_5 : decode cX11_form 5 = .ok (.iload_n 2, 1) := by decide +kernel
theorem dX11_form_6 : decode cX11_form 6 = .ok (.invokevirtual 176, 3) := by decide +kernel
theorem dX11_form_9 : decode cX11_form 9 = .ok (.ireturn, 1) := by decide +kernel
set_option maxRecDepth 20000 in
theorem ggX11_partings_X7_take : GoodIn wsX11_partings wsX7_take := goodIn_r _ [11, 12, 115, 116] (by decide +kernel) (by decide +kernel)
set_option maxRecDepth 20000 in
theorem gX11_partings_X7_take : GoodIn wsX11_partings (wsV RX11 112 RX7 yX7_take wsX7_take) := goodIn_app (goodIn_of _ (by decide +kernel)) ggX11_partings_X7_take
set_option maxRecDepth 20000 in
theorem ggX11_partings_X11_reformAt : GoodIn wsX11_partings wsX11_reformAt := goodIn_r _ [17, 18, 19, 87, 88, 89, 90, 91, 92, 93, 94, 95, 96, 97, 98, 99, 100, 101, 102, 103] (by decide +kernel) (by decide +kernel)
set_option maxRecDepth 20000 in
theorem gX11_partings_X11_reformAt : GoodIn wsX11_partings (wsV RX11 138 RX11 yX11_reformAt wsX11_reformAt) := goodIn_app (goodIn_of _ (by decide +kernel)) ggX11_partings_X11_reformAt
theorem dX11_partings_0 : decode cX11_partings 0 = .ok (.aload_n 0, 1) := by decide +kernel
theorem dX11_partings_1 : decode cX11_partings 1 = .ok (.getfield 12, 3) := by decide +kernel
theorem dX11_partings_4 : decode cX11_partings 4 = .ok (.invokevirtual 112, 3) := by decide +kernel
theorem dX11_partings_7 : decode cX11_partings 7 = .ok (.istore_n 2, 1) := by decide +kernel
theorem dX11_partings_8 : decode cX11_partings 8 = .ok (.aload_n 0, 1) := by decide +kernel
theorem dX11_partings_9 : decode cX11_partings 9 = .ok (.iload_n 1, 1) := by decide +kernel
theorem dX11_partings_10 : decode cX11_partings 10 = .ok (.invokevirtual 138, 3) := by decide +kernel
theorem dX11_partings_13 : decode cX11_partings 13 = .ok (.astore_n 3, 1) := by decide +kernel
theorem dX11_partings_14 : decode cX11_partings 14 = .ok (.aload_n 3, 1) := by decide +kernel
theorem dX11_partings_15 : decode cX11_partings 15 = .ok (.ifnull 14, 3) := by decide +kernel
theorem dX11_partings_29 : decode cX11_partings 29 = .ok (.bipush (-2), 2) := by decide +kernel
theorem dX11_partings_31 : decode cX11_partings 31 = .ok (.ireturn, 1) := by decide +kernel
theorem dX11_parting_0 : decode cX11_parting 0 = .ok (.iload_n 1, 1) := by decide +kernel
theorem dX11_parting_1 : decode cX11_parting 1 = .ok (.ifCond .lt 18, 3) := by decide +kernel
theorem dX11_parting_4 : decode cX11_parting 4 = .ok (.iload_n 1, 1) := by decide +kernel
theorem dX11_parting_5 : decode cX11_parting 5 = .ok (.aload_n 0, 1) := by decide +kernel
theorem dX11_parting_6 : decode cX11_parting 6 = .ok (.getfield 60, 3) := by decide +kernel
theorem dX11_parting_9 : decode cX11_parting 9 = .ok (.getfield 190, 3) := by decide +kernel
theorem dX11_parting_12 : decode cX11_parting 12 = .ok (.if_icmp .ge 7, 3) := by decide +kernel
theorem dX11_parting_19 : decode cX11_parting 19 = .ok (.iconst (-1), 1) := by decide +kernel
theorem dX11_parting_20 : decode cX11_parting 20 = .ok (.ireturn, 1) := by decide +kernel
set_option maxRecDepth 20000 in
theorem ggX11_learn_X7_take : GoodIn wsX11_learn wsX7_take := goodIn_r _ [10, 11, 68, 69] (by decide +kernel) (by decide +kernel)
set_option maxRecDepth 20000 in
theorem gX11_learn_X7_take : GoodIn wsX11_learn (wsV RX11 112 RX7 yX7_take wsX7_take) := goodIn_app (goodIn_of _ (by decide +kernel)) ggX11_learn_X7_take
set_option maxRecDepth 20000 in
theorem ggX11_learn_X7_isWord : GoodIn wsX11_learn wsX7_isWord := goodIn_r _ [15, 16, 17, 18, 19, 20, 68, 69] (by decide +kernel) (by decide +kernel)
set_option maxRecDepth 20000 in
theorem gX11_learn_X7_isWord : GoodIn wsX11_learn (wsV RX11 164 RX7 yX7_isWord wsX7_isWord) := goodIn_app (goodIn_of _ (by decide +kernel)) ggX11_learn_X7_isWord
theorem dX11_learn_0 : decode cX11_learn 0 = .ok (.aload_n 0, 1) := by decide +kernel
theorem dX11_learn_1 : decode cX11_learn 1 = .ok (.getfield 12, 3) := by decide +kernel
theorem dX11_learn_4 : decode cX11_learn 4 = .ok (.invokevirtual 112, 3) := by decide +kernel
theorem dX11_learn_7 : decode cX11_learn 7 = .ok (.istore_n 1, 1) := by decide +kernel
theorem dX11_learn_8 : decode cX11_learn 8 = .ok (.aload_n 0, 1) := by decide +kernel
theorem dX11_learn_9 : decode cX11_learn 9 = .ok (.getfield 12, 3) := by decide +kernel
theorem dX11_learn_12 : decode cX11_learn 12 = .ok (.iload_n 1, 1) := by decide +kernel
theorem dX11_learn_13 : decode cX11_learn 13 = .ok (.invokevirtual 164, 3) := by decide +kernel
theorem dX11_learn_16 : decode cX11_learn 16 = .ok (.ifCond .ne 6, 3) := by decide +kernel
theorem dX11_learn_19 : decode cX11_learn 19 = .ok (.bipush (-2), 2) := by decide +kernel
theorem dX11_learn_21 : decode cX11_learn 21 = .ok (.ireturn, 1) := by decide +kernel
set_option maxRecDepth 20000 in
theorem ggX11_word_X10_letterAt : GoodIn wsX11_word wsX10_letterAt := goodIn_r _ [7, 8, 9, 10, 11, 35, 36, 37, 38] (by decide +kernel) (by decide +kernel)
set_option maxRecDepth 20000 in
theorem gX11_word_X10_letterAt : GoodIn wsX11_word (wsV RX11 176 RX10 yX10_letterAt wsX10_letterAt) := goodIn_app (goodIn_of _ (by decide +kernel)) ggX11_word_X10_letterAt
theorem dX11_word_0 : decode cX11_word 0 = .ok (.aload_n 0, 1) := by decide +kernel
theorem dX11_word_1 : decode cX11_word 1 = .ok (.getfield 67, 3) := by decide +kernel
theorem dX11_word_4 : decode cX11_word 4 = .ok (.getfield 197, 3) := by decide +kernel
theorem dX11_word_7 : decode cX11_word 7 = .ok (.iload_n 1, 1) := by decide +kernel
theorem dX11_word_8 : decode cX11_word 8 = .ok (.iload_n 2, 1) := by decide +kernel
theorem dX11_word_9 : decode cX11_word 9 = .ok (.invokevirtual 176, 3) := by decide +kernel
theorem dX11_word_12 : decode cX11_word 12 = .ok (.ireturn, 1) := by decide +kernel
set_option maxRecDepth 20000 in
theorem ggX11_back_X7_take : GoodIn wsX11_back wsX7_take := goodIn_r _ [14, 15, 236, 237] (by decide +kernel) (by decide +kernel)
set_option maxRecDepth 20000 in
theorem gX11_back_X7_take : GoodIn wsX11_back (wsV RX11 112 RX7 yX7_take wsX7_take) := goodIn_app (goodIn_of _ (by decide +kernel)) ggX11_back_X7_take
set_option maxRecDepth 20000 in
theorem ggX11_back_X11_isStage : GoodIn wsX11_back wsX11_isStage := goodIn_r _ [20, 21, 209, 210, 211, 212, 213, 214, 215, 216, 217, 218, 219, 220, 221, 222, 223, 224, 225] (by decide +kernel) (by decide +kernel)
set_option maxRecDepth 20000 in
theorem gX11_back_X11_isStage : GoodIn wsX11_back (wsV RX11 208 RX11 yX11_isStage wsX11_isStage) := goodIn_app (goodIn_of _ (by decide +kernel)) ggX11_back_X11_isStage
set_option maxRecDepth 20000 in
theorem ggX11_back_X7_isWord : GoodIn wsX11_back wsX7_isWord := goodIn_r _ [25, 26, 27, 28, 29, 30, 236, 237] (by decide +kernel) (by decide +kernel)
set_option maxRecDepth 20000 in
theorem gX11_back_X7_isWord : GoodIn wsX11_back (wsV RX11 164 RX7 yX7_isWord wsX7_isWord) := goodIn_app (goodIn_of _ (by decide +kernel)) ggX11_back_X7_isWord
theorem dX11_back_0 : decode cX11_back 0 = .ok (.aload_n 0, 1) := by decide +kernel
theorem dX11_back_1 : decode cX11_back 1 = .ok (.getfield 12, 3) := by decide +kernel
theorem dX11_back_4 : decode cX11_back 4 = .ok (.invokevirtual 112, 3) := by decide +kernel
theorem dX11_back_7 : decode cX11_back 7 = .ok (.istore_n 2, 1) := by decide +kernel
theorem dX11_back_8 : decode cX11_back 8 = .ok (.aload_n 0, 1) := by decide +kernel
theorem dX11_back_9 : decode cX11_back 9 = .ok (.iload_n 1, 1) := by decide +kernel
theorem dX11_back_10 : decode cX11_back 10 = .ok (.invokevirtual 208, 3) := by decide +kernel
theorem dX11_back_13 : decode cX11_back 13 = .ok (.ifCond .eq 14, 3) := by decide +kernel
theorem dX11_back_16 : decode cX11_back 16 = .ok (.aload_n 0, 1) := by decide +kernel
theorem dX11_back_17 : decode cX11_back 17 = .ok (.getfield 12, 3) := by decide +kernel
theorem dX11_back_20 : decode cX11_back 20 = .ok (.iload_n 2, 1) := by decide +kernel
theorem dX11_back_21 : decode cX11_back 21 = .ok (.invokevirtual 164, 3) := by decide +kernel
theorem dX11_back_24 : decode cX11_back 24 = .ok (.ifCond .ne 6, 3) := by decide +kernel
theorem dX11_back_27 : decode cX11_back 27 = .ok (.bipush (-2), 2) := by decide +kernel
theorem dX11_back_29 : decode cX11_back 29 = .ok (.ireturn, 1) := by decide +kernel
theorem dX11_old_0 : decode cX11_old 0 = .ok (.iload_n 1, 1) := by decide +kernel
theorem dX11_old_1 : decode cX11_old 1 = .ok (.ifCond .lt 11, 3) := by decide +kernel
theorem dX11_old_4 : decode cX11_old 4 = .ok (.iload_n 1, 1) := by decide +kernel
theorem dX11_old_5 : decode cX11_old 5 = .ok (.aload_n 0, 1) := by decide +kernel
theorem dX11_old_6 : decode cX11_old 6 = .ok (.getfield 75, 3) := by decide +kernel
theorem dX11_old_9 : decode cX11_old 9 = .ok (.if_icmp .lt 7, 3) := by decide +kernel
theorem dX11_old_12 : decode cX11_old 12 = .ok (.iconst (-1), 1) := by decide +kernel
theorem dX11_old_13 : decode cX11_old 13 = .ok (.goto 9, 3) := by decide +kernel
theorem dX11_old_22 : decode cX11_old 22 = .ok (.ireturn, 1) := by decide +kernel
set_option maxRecDepth 20000 in
theorem ggX11_collisions_X11_isStage : GoodIn wsX11_collisions wsX11_isStage := goodIn_r _ [11, 12, 200, 201, 202, 203, 204, 205, 206, 207, 208, 209, 210, 211, 212, 213, 214, 215, 216] (by decide +kernel) (by decide +kernel)
set_option maxRecDepth 20000 in
theorem gX11_collisions_X11_isStage : GoodIn wsX11_collisions (wsV RX11 208 RX11 yX11_isStage wsX11_isStage) := goodIn_app (goodIn_of _ (by decide +kernel)) ggX11_collisions_X11_isStage
set_option maxRecDepth 20000 in
theorem ggX11_collisions_X0_fill : GoodIn wsX11_collisions wsX0_fill := goodIn_r _ [17, 18, 19, 20, 21, 22, 23, 24, 25, 26, 27, 28, 29, 30, 31, 32, 33, 34, 35, 36, 37, 38, 39, 40, 41, 42, 43, 44, 45, 46, 47, 48, 16, 49, 50, 51, 52, 53, 54, 55, 56, 57, 58, 59, 60, 61, 62, 63, 64, 65, 66, 67, 68, 69, 70, 71, 72, 73, 74, 75, 76, 77, 78, 79, 80, 81, 82, 83, 84, 85, 86, 87, 88, 89, 90, 91, 92, 93, 94, 95, 96, 97, 98, 99, 100, 101, 102, 103, 104, 105, 106, 107, 108, 109, 110, 111, 112, 113, 114, 115, 116, 117, 118, 119, 120, 121, 122, 123, 124, 125, 126, 127, 128, 129, 130, 131, 132, 133, 134, 135, 136, 137, 138, 139, 140, 141, 142, 143, 144, 145, 146, 147, 148, 149, 150, 151, 152, 153, 154, 155, 156, 157, 158, 159, 160, 161, 162, 163, 164, 165, 166, 167, 168, 169, 170, 171, 172, 173, 174, 175, 176, 177, 178, 179, 180, 181, 182, 183, 184, 185, 186, 187, 188, 189, 217, 218, 219, 220, 221, 222, 223, 224, 225, 226, 227, 228, 229, 230, 231, 232, 233, 234, 235, 236, 237, 238, 239, 240, 241, 242, 243, 244, 245, 246, 247, 248, 249, 250, 251, 252, 253, 254, 255, 256, 257, 258] (by decide +kernel) (by decide +kernel)
set_option maxRecDepth 20000 in
theorem gX11_collisions_X0_fill : GoodIn wsX11_collisions (wsV RX11 211 RX0 yX0_fill wsX0_fill) := goodIn_app (goodIn_of _ (by decide +kernel)) ggX11_collisions_X0_fill
theorem dX11_collisions_0 : decode cX11_collisions 0 = .ok (.aload_n 0, 1) := by decide +kernel
theorem dX11_collisions_1 : decode cX11_collisions 1 = .ok (.iconst 0, 1) := by decide +kernel
theorem dX11_collisions_2 : decode cX11_collisions 2 = .ok (.putfield 81, 3) := by decide +kernel
theorem dX11_collisions_5 : decode cX11_collisions 5 = .ok (.aload_n 0, 1) := by decide +kernel
theorem dX11_collisions_6 : decode cX11_collisions 6 = .ok (.iload_n 1, 1) := by decide +kernel
theorem dX11_collisions_7 : decode cX11_collisions 7 = .ok (.invokevirtual 208, 3) := by decide +kernel
theorem dX11_collisions_10 : decode cX11_collisions 10 = .ok (.ifCond .ne 6, 3) := by decide +kernel
theorem dX11_collisions_13 : decode cX11_collisions 13 = .ok (.bipush (-2), 2) := by decide +kernel
theorem dX11_collisions_15 : decode cX11_collisions 15 = .ok (.ireturn, 1) := by decide +kernel
theorem dX11_collisions_16 : decode cX11_collisions 16 = .ok (.aload_n 0, 1) := by decide +kernel
theorem dX11_collisions_17 : decode cX11_collisions 17 = .ok (.getfield 67, 3) := by decide +kernel
theorem dX11_collisions_20 : decode cX11_collisions 20 = .ok (.iload_n 1, 1) := by decide +kernel
theorem dX11_collisions_21 : decode cX11_collisions 21 = .ok (.aload_n 0, 1) := by decide +kernel
theorem dX11_collisions_22 : decode cX11_collisions 22 = .ok (.getfield 18, 3) := by decide +kernel
theorem dX11_collisions_25 : decode cX11_collisions 25 = .ok (.aload_n 0, 1) := by decide +kernel
theorem dX11_collisions_26 : decode cX11_collisions 26 = .ok (.getfield 44, 3) := by decide +kernel
theorem dX11_collisions_29 : decode cX11_collisions 29 = .ok (.invokevirtual 211, 3) := by decide +kernel
theorem dX11_collisions_32 : decode cX11_collisions 32 = .ok (.iconst 0, 1) := by decide +kernel
theorem dX11_collisions_33 : decode cX11_collisions 33 = .ok (.istore_n 2, 1) := by decide +kernel
theorem dX11_collisions_34 : decode cX11_collisions 34 = .ok (.iconst 0, 1) := by decide +kernel
theorem dX11_collisions_35 : decode cX11_collisions 35 = .ok (.istore_n 3, 1) := by decide +kernel
theorem dX11_collisions_36 : decode cX11_collisions 36 = .ok (.iload_n 3, 1) := by decide +kernel
theorem dX11_collisions_37 : decode cX11_collisions 37 = .ok (.aload_n 0, 1) := by decide +kernel
theorem dX11_collisions_38 : decode cX11_collisions 38 = .ok (.getfield 67, 3) := by decide +kernel
theorem dX11_collisions_41 : decode cX11_collisions 41 = .ok (.getfield 197, 3) := by decide +kernel
theorem dX11_collisions_44 : decode cX11_collisions 44 = .ok (.getfield 151, 3) := by decide +kernel
theorem dX11_collisions_47 : decode cX11_collisions 47 = .ok (.if_icmp .ge 64, 3) := by decide +kernel
theorem dX11_collisions_111 : decode cX11_collisions 111 = .ok (.iload_n 2, 1) := by decide +kernel
theorem dX11_collisions_112 : decode cX11_collisions 112 = .ok (.ireturn, 1) := by decide +kernel
theorem dX11_collision_0 : decode cX11_collision 0 = .ok (.iload_n 1, 1) := by decide +kernel
theorem dX11_collision_1 : decode cX11_collision 1 = .ok (.ifCond .lt 11, 3) := by decide +kernel
theorem dX11_collision_4 : decode cX11_collision 4 = .ok (.iload_n 1, 1) := by decide +kernel
theorem dX11_collision_5 : decode cX11_collision 5 = .ok (.aload_n 0, 1) := by decide +kernel
theorem dX11_collision_6 : decode cX11_collision 6 = .ok (.getfield 81, 3) := by decide +kernel
theorem dX11_collision_9 : decode cX11_collision 9 = .ok (.if_icmp .lt 7, 3) := by decide +kernel
theorem dX11_collision_12 : decode cX11_collision 12 = .ok (.iconst (-1), 1) := by decide +kernel
theorem dX11_collision_13 : decode cX11_collision 13 = .ok (.goto 9, 3) := by decide +kernel
theorem dX11_collision_22 : decode cX11_collision 22 = .ok (.ireturn, 1) := by decide +kernel
set_option maxRecDepth 20000 in
theorem ggX11_rhymes_X11_isStage : GoodIn wsX11_rhymes wsX11_isStage := goodIn_r _ [10, 11, 198, 199, 200, 201, 202, 203, 204, 205, 206, 207, 208, 209, 210, 211, 212, 213, 214] (by decide +kernel) (by decide +kernel)
set_option maxRecDepth 20000 in
theorem gX11_rhymes_X11_isStage : GoodIn wsX11_rhymes (wsV RX11 208 RX11 yX11_isStage wsX11_isStage) := goodIn_app (goodIn_of _ (by decide +kernel)) ggX11_rhymes_X11_isStage
set_option maxRecDepth 20000 in
theorem ggX11_rhymes_X0_fill : GoodIn wsX11_rhymes wsX0_fill := goodIn_r _ [16, 17, 18, 19, 20, 21, 22, 23, 24, 25, 26, 27, 28, 29, 30, 31, 32, 33, 34, 35, 36, 37, 38, 39, 40, 41, 42, 43, 44, 45, 46, 47, 15, 48, 49, 50, 51, 52, 53, 54, 55, 56, 57, 58, 59, 60, 61, 62, 63, 64, 65, 66, 67, 68, 69, 70, 71, 72, 73, 74, 75, 76, 77, 78, 79, 80, 81, 82, 83, 84, 85, 86, 87, 88, 89, 90, 91, 92, 93, 94, 95, 96, 97, 98, 99, 100, 101, 102, 103, 104, 105, 106, 107, 108, 109, 110, 111, 112, 113, 114, 115, 116, 117, 118, 119, 120, 121, 122, 123, 124, 125, 126, 127, 128, 129, 130, 131, 132, 133, 134, 135, 136, 137, 138, 139, 140, 141, 142, 143, 144, 145, 146, 147, 148, 149, 150, 151, 152, 153, 154, 155, 156, 157, 158, 159, 160, 161, 162, 163, 164, 165, 166, 167, 168, 169, 170, 171, 172, 173, 174, 175, 176, 177, 178, 179, 180, 181, 182, 183, 184, 185, 186, 187, 188, 215, 216, 217, 218, 219, 220, 221, 222, 223, 224, 225, 226, 227, 228, 229, 230, 231, 232, 233, 234, 235, 236, 237, 238, 239, 240, 241, 242, 243, 244, 245, 246, 247, 248, 249, 250, 251, 252, 253, 254, 255, 256] (by decide +kernel) (by decide +kernel)
set_option maxRecDepth 20000 in
theorem gX11_rhymes_X0_fill : GoodIn wsX11_rhymes (wsV RX11 211 RX0 yX0_fill wsX0_fill) := goodIn_app (goodIn_of _ (by decide +kernel)) ggX11_rhymes_X0_fill
theorem dX11_rhymes_0 : decode cX11_rhymes 0 = .ok (.aload_n 0, 1) := by decide +kernel
theorem dX11_rhymes_1 : decode cX11_rhymes 1 = .ok (.iload_n 1, 1) := by decide +kernel
theorem dX11_rhymes_2 : decode cX11_rhymes 2 = .ok (.invokevirtual 208, 3) := by decide +kernel
theorem dX11_rhymes_5 : decode cX11_rhymes 5 = .ok (.ifCond .ne 6, 3) := by decide +kernel
theorem dX11_rhymes_8 : decode cX11_rhymes 8 = .ok (.bipush (-2), 2) := by decide +kernel
theorem dX11_rhymes_10 : decode cX11_rhymes 10 = .ok (.ireturn, 1) := by decide +kernel
theorem dX11_rhymes_11 : decode cX11_rhymes 11 = .ok (.aload_n 0, 1) := by decide +kernel
theorem dX11_rhymes_12 : decode cX11_rhymes 12 = .ok (.getfield 67, 3) := by decide +kernel
theorem dX11_rhymes_15 : decode cX11_rhymes 15 = .ok (.iload_n 1, 1) := by decide +kernel
theorem dX11_rhymes_16 : decode cX11_rhymes 16 = .ok (.aload_n 0, 1) := by decide +kernel
theorem dX11_rhymes_17 : decode cX11_rhymes 17 = .ok (.getfield 18, 3) := by decide +kernel
theorem dX11_rhymes_20 : decode cX11_rhymes 20 = .ok (.aload_n 0, 1) := by decide +kernel
theorem dX11_rhymes_21 : decode cX11_rhymes 21 = .ok (.getfield 44, 3) := by decide +kernel
theorem dX11_rhymes_24 : decode cX11_rhymes 24 = .ok (.invokevirtual 211, 3) := by decide +kernel
