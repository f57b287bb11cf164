set_option maxRecDepth 100000 in
theorem gm_X5_init_X10_init : GoodIn wmX5_init wmX10_init := goodIn_app (goodIn_r (big := wmX5_init) weX10_init [23, 24, 2, 3, 25, 26, 27, 28, 29, 30] (by decide +kernel) (by decide +kernel)) (gb_X10 (fun _ h => List.mem_append_left _ (List.mem_append_right _ h)))
set_option maxRecDepth 100000 in
theorem gm_X3_init_X10_init : GoodIn wmX3_init wmX10_init := goodIn_app (goodIn_r (big := wmX3_init) weX10_init [19, 20, 2, 3, 5, 4, 21, 22, 23, 24] (by decide +kernel) (by decide +kernel)) (gb_X10 (fun _ h => List.mem_append_left _ (List.mem_append_right _ h)))
set_option maxRecDepth 100000 in
theorem gm_X9_init_X3_init : GoodIn wmX9_init wmX3_init := goodIn_app (goodIn_app (goodIn_r (big := wmX9_init) weX3_init [22, 23, 2, 3, 24, 8, 25, 26, 10, 11, 27, 13, 28, 29, 30, 31, 32, 33, 34, 35, 36, 37, 38, 39, 40] (by decide +kernel) (by decide +kernel)) (gb_X10 (fun _ h => List.mem_append_left _ (List.mem_append_right _ h)))) (gb_X3 (fun _ h => List.mem_append_left _ (List.mem_append_left _ (List.mem_append_right _ h))))
set_option maxRecDepth 100000 in
theorem gm_X9_init_X10_init : GoodIn wmX9_init wmX10_init := goodIn_app (goodIn_r (big := wmX9_init) weX10_init [35, 36, 2, 3, 8, 24, 37, 38, 39, 40] (by decide +kernel) (by decide +kernel)) (gb_X10 (fun _ h => List.mem_append_left _ (List.mem_append_right _ h)))
set_option maxRecDepth 100000 in
theorem gm_X0_init_X10_init : GoodIn wmX0_init wmX10_init := goodIn_app (goodIn_r (big := wmX0_init) weX10_init [17, 18, 2, 3, 19, 10, 20, 21, 22, 23] (by decide +kernel) (by decide +kernel)) (gb_X10 (fun _ h => List.mem_append_left _ (List.mem_append_right _ h)))
set_option maxRecDepth 100000 in
theorem gm_X11_init_X7_init : GoodIn wmX11_init wmX7_init := goodIn_app (goodIn_r (big := wmX11_init) weX7_init [63, 64, 2, 3, 65, 66, 67] (by decide +kernel) (by decide +kernel)) (gb_X7 (fun _ h => List.mem_append_left _ (List.mem_append_left _ (List.mem_append_left _ (List.mem_append_left _ (List.mem_append_left _ (List.mem_append_left _ (List.mem_append_left _ (List.mem_append_left _ (List.mem_append_left _ (List.mem_append_left _ (List.mem_append_right _ h))))))))))))
set_option maxRecDepth 100000 in
theorem gm_X11_init_X5_init : GoodIn wmX11_init wmX5_init := goodIn_app (goodIn_app (goodIn_r (big := wmX11_init) weX5_init [68, 69, 2, 3, 70, 71, 21, 22, 72, 24, 73, 74, 75, 76, 77, 78, 79, 80, 81, 82, 83, 84, 85, 86, 87, 65, 33, 88, 89, 90, 91] (by decide +kernel) (by decide +kernel)) (gb_X10 (fun _ h => List.mem_append_left _ (List.mem_append_left _ (List.mem_append_left _ (List.mem_append_left _ (List.mem_append_left _ (List.mem_append_left _ (List.mem_append_right _ h))))))))) (gb_X5 (fun _ h => List.mem_append_left _ (List.mem_append_left _ (List.mem_append_left _ (List.mem_append_left _ (List.mem_append_left _ (List.mem_append_left _ (List.mem_append_left _ (List.mem_append_left _ (List.mem_append_left _ (List.mem_append_right _ h)))))))))))
set_option maxRecDepth 100000 in
theorem gm_X11_init_X4_init : GoodIn wmX11_init wmX4_init := goodIn_app (goodIn_r (big := wmX11_init) weX4_init [92, 93, 2, 3, 65, 94, 95, 96, 97, 98, 99, 100, 101, 102] (by decide +kernel) (by decide +kernel)) (gb_X4 (fun _ h => List.mem_append_left _ (List.mem_append_left _ (List.mem_append_left _ (List.mem_append_left _ (List.mem_append_left _ (List.mem_append_left _ (List.mem_append_left _ (List.mem_append_left _ (List.mem_append_right _ h))))))))))
set_option maxRecDepth 100000 in
theorem gm_X11_init_X9_init : GoodIn wmX11_init wmX9_init := goodIn_app (goodIn_app (goodIn_app (goodIn_r (big := wmX11_init) weX9_init [103, 104, 2, 3, 105, 26, 27, 28, 65, 106, 21, 22, 107, 24, 108, 109, 110, 111, 112, 113, 114, 115, 116, 117, 33, 73, 118, 119, 120, 121, 122, 123, 124, 125, 126, 86, 87, 88, 89, 90, 91] (by decide +kernel) (by decide +kernel)) (gb_X3 (fun _ h => List.mem_append_left _ (List.mem_append_left _ (List.mem_append_left _ (List.mem_append_left _ (List.mem_append_left _ (List.mem_append_right _ h)))))))) (gb_X10 (fun _ h => List.mem_append_left _ (List.mem_append_left _ (List.mem_append_left _ (List.mem_append_left _ (List.mem_append_left _ (List.mem_append_left _ (List.mem_append_right _ h))))))))) (gb_X9 (fun _ h => List.mem_append_left _ (List.mem_append_left _ (List.mem_append_left _ (List.mem_append_left _ (List.mem_append_left _ (List.mem_append_left _ (List.mem_append_left _ (List.mem_append_right _ h)))))))))
set_option maxRecDepth 100000 in
theorem gm_X11_init_X10_init : GoodIn wmX11_init wmX10_init := goodIn_app (goodIn_r (big := wmX11_init) weX10_init [86, 87, 2, 3, 65, 33, 88, 89, 90, 91] (by decide +kernel) (by decide +kernel)) (gb_X10 (fun _ h => List.mem_append_left _ (List.mem_append_left _ (List.mem_append_left _ (List.mem_append_left _ (List.mem_append_left _ (List.mem_append_left _ (List.mem_append_right _ h))))))))
set_option maxRecDepth 100000 in
theorem gm_X11_init_X3_init : GoodIn wmX11_init wmX3_init := goodIn_app (goodIn_app (goodIn_r (big := wmX11_init) weX3_init [116, 117, 2, 3, 33, 65, 73, 118, 21, 22, 119, 24, 120, 121, 122, 123, 124, 125, 126, 86, 87, 88, 89, 90, 91] (by decide +kernel) (by decide +kernel)) (gb_X10 (fun _ h => List.mem_append_left _ (List.mem_append_left _ (List.mem_append_left _ (List.mem_append_left _ (List.mem_append_left _ (List.mem_append_left _ (List.mem_append_right _ h))))))))) (gb_X3 (fun _ h => List.mem_append_left _ (List.mem_append_left _ (List.mem_append_left _ (List.mem_append_left _ (List.mem_append_left _ (List.mem_append_right _ h)))))))
set_option maxRecDepth 100000 in
theorem gm_X11_init_X0_init : GoodIn wmX11_init wmX0_init := goodIn_app (goodIn_app (goodIn_r (big := wmX11_init) weX0_init [127, 128, 2, 3, 129, 21, 22, 130, 24, 74, 33, 131, 132, 133, 134, 135, 136, 86, 87, 65, 88, 89, 90, 91] (by decide +kernel) (by decide +kernel)) (gb_X10 (fun _ h => List.mem_append_left _ (List.mem_append_left _ (List.mem_append_left _ (List.mem_append_left _ (List.mem_append_left _ (List.mem_append_left _ (List.mem_append_right _ h))))))))) (gb_X0 (fun _ h => List.mem_append_left _ (List.mem_append_left _ (List.mem_append_left _ (List.mem_append_left _ (List.mem_append_right _ h))))))
set_option maxRecDepth 100000 in
theorem gm_X11_init_X8_init : GoodIn wmX11_init wmX8_init := goodIn_app (goodIn_r (big := wmX11_init) weX8_init [137, 138, 2, 3, 65, 139, 140, 141, 142, 143, 144, 145, 146] (by decide +kernel) (by decide +kernel)) (gb_X8 (fun _ h => List.mem_append_left _ (List.mem_append_left _ (List.mem_append_left _ (List.mem_append_right _ h)))))
set_option maxRecDepth 100000 in
theorem gm_X11_init_X6_init : GoodIn wmX11_init wmX6_init := goodIn_app (goodIn_r (big := wmX11_init) weX6_init [147, 148, 2, 3, 65, 33, 149, 150, 151, 152, 153, 154, 155, 156, 157] (by decide +kernel) (by decide +kernel)) (gb_X6 (fun _ h => List.mem_append_left _ (List.mem_append_left _ (List.mem_append_right _ h))))
set_option maxRecDepth 100000 in
theorem gm_X11_init_X2_init : GoodIn wmX11_init wmX2_init := goodIn_app (goodIn_r (big := wmX11_init) weX2_init [158, 159, 2, 3, 33, 160, 161, 162, 163, 164, 165] (by decide +kernel) (by decide +kernel)) (gb_X2 (fun _ h => List.mem_append_left _ (List.mem_append_right _ h)))
set_option maxRecDepth 100000 in
theorem gm_X11_feed_X7_append : GoodIn wmX11_feed wmX7_append := goodIn_app (goodIn_r (big := wmX11_feed) weX7_append [7, 8, 9] (by decide +kernel) (by decide +kernel)) (gb_X7 (fun _ h => List.mem_append_right _ h))
theorem gv_X11_feed_X7_append_108 : GoodIn wmX11_feed (wsV RX11 108 RX7 yX7_append wmX7_append) := goodIn_app (goodIn_r (big := wmX11_feed) _ [1, 2, 3, 4] (by decide +kernel) (by decide +kernel)) gm_X11_feed_X7_append
set_option maxRecDepth 100000 in
theorem gm_X4_read_X4_nextToken : GoodIn wmX4_read wmX4_nextToken := goodIn_app (goodIn_r (big := wmX4_read) weX4_nextToken [15, 11, 10, 16, 17, 14] (by decide +kernel) (by decide +kernel)) (gb_X4 (fun _ h => List.mem_append_right _ h))
theorem gv_X4_read_X4_nextToken_46 : GoodIn wmX4_read (wsV RX4 46 RX4 yX4_nextToken wmX4_nextToken) := goodIn_app (goodIn_r (big := wmX4_read) _ [5, 6, 7, 8] (by decide +kernel) (by decide +kernel)) gm_X4_read_X4_nextToken
set_option maxRecDepth 100000 in
theorem gm_X11_reform_X7_take : GoodIn wmX11_reform wmX7_take := goodIn_app (goodIn_r (big := wmX11_reform) weX7_take [30, 31] (by decide +kernel) (by decide +kernel)) (gb_X7 (fun _ h => List.mem_append_left _ (List.mem_append_left _ (List.mem_append_right _ h))))
theorem gv_X11_reform_X7_take_112 : GoodIn wmX11_reform (wsV RX11 112 RX7 yX7_take wmX7_take) := goodIn_app (goodIn_r (big := wmX11_reform) _ [1, 2, 3, 4] (by decide +kernel) (by decide +kernel)) gm_X11_reform_X7_take
set_option maxRecDepth 100000 in
theorem gm_X11_reform_X5_clear : GoodIn wmX11_reform wmX5_clear := goodIn_app (goodIn_app (goodIn_r (big := wmX11_reform) weX5_clear [32, 33, 34, 35, 36, 37, 38, 39, 40] (by decide +kernel) (by decide +kernel)) (gb_X5 (fun _ h => List.mem_append_left _ (List.mem_append_left _ (List.mem_append_left _ (List.mem_append_left _ (List.mem_append_right _ h))))))) (gb_X10 (fun _ h => List.mem_append_right _ h))
theorem gv_X11_reform_X5_clear_117 : GoodIn wmX11_reform (wsV RX11 117 RX5 yX5_clear wmX5_clear) := goodIn_app (goodIn_r (big := wmX11_reform) _ [6, 7, 8, 9] (by decide +kernel) (by decide +kernel)) gm_X11_reform_X5_clear
set_option maxRecDepth 100000 in
theorem gm_X11_reform_X4_read : GoodIn wmX11_reform wmX4_read := goodIn_app (goodIn_r (big := wmX11_reform) weX4_read [41, 42, 43, 44, 45, 46, 47, 48, 13, 49, 50, 51, 52, 53, 54, 55, 56, 57] (by decide +kernel) (by decide +kernel)) (gb_X4 (fun _ h => List.mem_append_left _ (List.mem_append_right _ h)))
theorem gv_X11_reform_X4_read_124 : GoodIn wmX11_reform (wsV RX11 124 RX4 yX4_read wmX4_read) := goodIn_app (goodIn_r (big := wmX11_reform) _ [10, 11, 12, 13] (by decide +kernel) (by decide +kernel)) gm_X11_reform_X4_read
set_option maxRecDepth 100000 in
theorem gm_X11_reform_X9_turnParts : GoodIn wmX11_reform wmX9_turnParts := goodIn_app (goodIn_app (goodIn_r (big := wmX11_reform) weX9_turnParts [58, 59, 60] (by decide +kernel) (by decide +kernel)) (gb_X5 (fun _ h => List.mem_append_left _ (List.mem_append_left _ (List.mem_append_left _ (List.mem_append_left _ (List.mem_append_right _ h))))))) (gb_X10 (fun _ h => List.mem_append_right _ h))
theorem gv_X11_reform_X9_turnParts_131 : GoodIn wmX11_reform (wsV RX11 131 RX9 yX9_turnParts wmX9_turnParts) := goodIn_app (goodIn_r (big := wmX11_reform) _ [14, 15, 16, 17] (by decide +kernel) (by decide +kernel)) gm_X11_reform_X9_turnParts
set_option maxRecDepth 100000 in
theorem gm_X11_reform_X5_init : GoodIn wmX11_reform wmX5_init := goodIn_app (goodIn_app (goodIn_r (big := wmX11_reform) weX5_init [61, 62, 63, 64, 65, 66, 67, 68, 69, 70, 71, 72, 33, 73, 34, 35, 37, 38, 74, 39, 40, 75, 76, 77, 78, 79, 80, 81, 82, 83, 84] (by decide +kernel) (by decide +kernel)) (gb_X10 (fun _ h => List.mem_append_right _ h))) (gb_X5 (fun _ h => List.mem_append_left _ (List.mem_append_left _ (List.mem_append_left _ (List.mem_append_left _ (List.mem_append_right _ h))))))
set_option maxRecDepth 100000 in
theorem gm_X11_about_X11_reformAt : GoodIn wmX11_about wmX11_reformAt := goodIn_app (goodIn_r (big := wmX11_about) weX11_reformAt [5, 6] (by decide +kernel) (by decide +kernel)) (gb_X11 (fun _ h => List.mem_append_right _ h))
theorem gv_X11_about_X11_reformAt_138 : GoodIn wmX11_about (wsV RX11 138 RX11 yX11_reformAt wmX11_reformAt) := goodIn_app (goodIn_r (big := wmX11_about) _ [1, 2, 3, 4] (by decide +kernel) (by decide +kernel)) gm_X11_about_X11_reformAt
set_option maxRecDepth 100000 in
theorem gm_X11_areStages_X11_isStage : GoodIn wmX11_areStages wmX11_isStage := goodIn_app (goodIn_r (big := wmX11_areStages) weX11_isStage [5, 6] (by decide +kernel) (by decide +kernel)) (gb_X11 (fun _ h => List.mem_append_right _ h))
theorem gv_X11_areStages_X11_isStage_208 : GoodIn wmX11_areStages (wsV RX11 208 RX11 yX11_isStage wmX11_isStage) := goodIn_app (goodIn_r (big := wmX11_areStages) _ [1, 2, 3, 4] (by decide +kernel) (by decide +kernel)) gm_X11_areStages_X11_isStage
set_option maxRecDepth 100000 in
theorem gm_X11_turn_X7_take : GoodIn wmX11_turn wmX7_take := goodIn_app (goodIn_r (big := wmX11_turn) weX7_take [13, 14] (by decide +kernel) (by decide +kernel)) (gb_X7 (fun _ h => List.mem_append_right _ h))
theorem gv_X11_turn_X7_take_112 : GoodIn wmX11_turn (wsV RX11 112 RX7 yX7_take wmX7_take) := goodIn_app (goodIn_r (big := wmX11_turn) _ [1, 2, 3, 4] (by decide +kernel) (by decide +kernel)) gm_X11_turn_X7_take
set_option maxRecDepth 100000 in
theorem gm_X11_turn_X11_areStages : GoodIn wmX11_turn wmX11_areStages := goodIn_app (goodIn_r (big := wmX11_turn) weX11_areStages [15, 16, 17, 18, 8, 19, 20] (by decide +kernel) (by decide +kernel)) (gb_X11 (fun _ h => List.mem_append_left _ (List.mem_append_right _ h)))
theorem gv_X11_turn_X11_areStages_160 : GoodIn wmX11_turn (wsV RX11 160 RX11 yX11_areStages wmX11_areStages) := goodIn_app (goodIn_r (big := wmX11_turn) _ [5, 6, 7, 8] (by decide +kernel) (by decide +kernel)) gm_X11_turn_X11_areStages
set_option maxRecDepth 100000 in
theorem gm_X11_turn_X7_isWord : GoodIn wmX11_turn wmX7_isWord := goodIn_r (big := wmX11_turn) weX7_isWord [21] (by decide +kernel) (by decide +kernel)
theorem gv_X11_turn_X7_isWord_164 : GoodIn wmX11_turn (wsV RX11 164 RX7 yX7_isWord wmX7_isWord) := goodIn_app (goodIn_r (big := wmX11_turn) _ [9, 10, 11, 4] (by decide +kernel) (by decide +kernel)) gm_X11_turn_X7_isWord
set_option maxRecDepth 100000 in
theorem gm_X11_form_X10_letterAt : GoodIn wmX11_form wmX10_letterAt := goodIn_app (goodIn_r (big := wmX11_form) weX10_letterAt [6, 7] (by decide +kernel) (by decide +kernel)) (gb_X10 (fun _ h => List.mem_append_right _ h))
theorem gv_X11_form_X10_letterAt_176 : GoodIn wmX11_form (wsV RX11 176 RX10 yX10_letterAt wmX10_letterAt) := goodIn_app (goodIn_r (big := wmX11_form) _ [1, 2, 3, 4] (by decide +kernel) (by decide +kernel)) gm_X11_form_X10_letterAt
set_option maxRecDepth 100000 in
theorem gm_X11_partings_X7_take : GoodIn wmX11_partings wmX7_take := goodIn_app (goodIn_r (big := wmX11_partings) weX7_take [10, 11] (by decide +kernel) (by decide +kernel)) (gb_X7 (fun _ h => List.mem_append_right _ h))
theorem gv_X11_partings_X7_take_112 : GoodIn wmX11_partings (wsV RX11 112 RX7 yX7_take wmX7_take) := goodIn_app (goodIn_r (big := wmX11_partings) _ [1, 2, 3, 4] (by decide +kernel) (by decide +kernel)) gm_X11_partings_X7_take
set_option maxRecDepth 100000 in
theorem gm_X11_partings_X11_reformAt : GoodIn wmX11_partings wmX11_reformAt := goodIn_app (goodIn_r (big := wmX11_partings) weX11_reformAt [12, 13] (by decide +kernel) (by decide +kernel)) (gb_X11 (fun _ h => List.mem_append_left _ (List.mem_append_right _ h)))
theorem gv_X11_partings_X11_reformAt_138 : GoodIn wmX11_partings (wsV RX11 138 RX11 yX11_reformAt wmX11_reformAt) := goodIn_app (goodIn_r (big := wmX11_partings) _ [5, 6, 7, 8] (by decide +kernel) (by decide +kernel)) gm_X11_partings_X11_reformAt
set_option maxRecDepth 100000 in
theorem gm_X11_learn_X7_take : GoodIn wmX11_learn wmX7_take := goodIn_app (goodIn_r (big := wmX11_learn) weX7_take [9, 10] (by decide +kernel) (by decide +kernel)) (gb_X7 (fun _ h => List.mem_append_right _ h))
theorem gv_X11_learn_X7_take_112 : GoodIn wmX11_learn (wsV RX11 112 RX7 yX7_take wmX7_take) := goodIn_app (goodIn_r (big := wmX11_learn) _ [1, 2, 3, 4] (by decide +kernel) (by decide +kernel)) gm_X11_learn_X7_take
set_option maxRecDepth 100000 in
theorem gm_X11_learn_X7_isWord : GoodIn wmX11_learn wmX7_isWord := goodIn_r (big := wmX11_learn) weX7_isWord [11] (by decide +kernel) (by decide +kernel)
theorem gv_X11_learn_X7_isWord_164 : GoodIn wmX11_learn (wsV RX11 164 RX7 yX7_isWord wmX7_isWord) := goodIn_app (goodIn_r (big := wmX11_learn) _ [5, 6, 7, 4] (by decide +kernel) (by decide +kernel)) gm_X11_learn_X7_isWord
set_option maxRecDepth 100000 in
theorem gm_X11_word_X10_letterAt : GoodIn wmX11_word wmX10_letterAt := goodIn_app (goodIn_r (big := wmX11_word) weX10_letterAt [7, 8] (by decide +kernel) (by decide +kernel)) (gb_X10 (fun _ h => List.mem_append_right _ h))
theorem gv_X11_word_X10_letterAt_176 : GoodIn wmX11_word (wsV RX11 176 RX10 yX10_letterAt wmX10_letterAt) := goodIn_app (goodIn_r (big := wmX11_word) _ [1, 2, 3, 4] (by decide +kernel) (by decide +kernel)) gm_X11_word_X10_letterAt
set_option maxRecDepth 100000 in
theorem gm_X11_back_X7_take : GoodIn wmX11_back wmX7_take := goodIn_app (goodIn_r (big := wmX11_back) weX7_take [13, 14] (by decide +kernel) (by decide +kernel)) (gb_X7 (fun _ h => List.mem_append_right _ h))
theorem gv_X11_back_X7_take_112 : GoodIn wmX11_back (wsV RX11 112 RX7 yX7_take wmX7_take) := goodIn_app (goodIn_r (big := wmX11_back) _ [1, 2, 3, 4] (by decide +kernel) (by decide +kernel)) gm_X11_back_X7_take
set_option maxRecDepth 100000 in
theorem gm_X11_back_X11_isStage : GoodIn wmX11_back wmX11_isStage := goodIn_app (goodIn_r (big := wmX11_back) weX11_isStage [15, 16] (by decide +kernel) (by decide +kernel)) (gb_X11 (fun _ h => List.mem_append_left _ (List.mem_append_right _ h)))
theorem gv_X11_back_X11_isStage_208 : GoodIn wmX11_back (wsV RX11 208 RX11 yX11_isStage wmX11_isStage) := goodIn_app (goodIn_r (big := wmX11_back) _ [5, 6, 7, 8] (by decide +kernel) (by decide +kernel)) gm_X11_back_X11_isStage
set_option maxRecDepth 100000 in
theorem gm_X11_back_X7_isWord : GoodIn wmX11_back wmX7_isWord := goodIn_r (big := wmX11_back) weX7_isWord [17] (by decide +kernel) (by decide +kernel)
theorem gv_X11_back_X7_isWord_164 : GoodIn wmX11_back (wsV RX11 164 RX7 yX7_isWord wmX7_isWord) := goodIn_app (goodIn_r (big := wmX11_back) _ [9, 10, 11, 4] (by decide +kernel) (by decide +kernel)) gm_X11_back_X7_isWord
set_option maxRecDepth 100000 in
theorem gm_X11_collisions_X11_isStage : GoodIn wmX11_collisions wmX11_isStage := goodIn_app (goodIn_r (big := wmX11_collisions) weX11_isStage [15, 16] (by decide +kernel) (by decide +kernel)) (gb_X11 (fun _ h => List.mem_append_left _ (List.mem_append_left _ (List.mem_append_right _ h))))
theorem gv_X11_collisions_X11_isStage_208 : GoodIn wmX11_collisions (wsV RX11 208 RX11 yX11_isStage wmX11_isStage) := goodIn_app (goodIn_r (big := wmX11_collisions) _ [1, 2, 3, 4] (by decide +kernel) (by decide +kernel)) gm_X11_collisions_X11_isStage
set_option maxRecDepth 100000 in
theorem gm_X11_collisions_X0_fill : GoodIn wmX11_collisions wmX0_fill := goodIn_app (goodIn_app (goodIn_r (big := wmX11_collisions) weX0_fill [17, 18, 19, 20] (by decide +kernel) (by decide +kernel)) (gb_X0 (fun _ h => List.mem_append_left _ (List.mem_append_right _ h)))) (gb_X10 (fun _ h => List.mem_append_right _ h))
theorem gv_X11_collisions_X0_fill_211 : GoodIn wmX11_collisions (wsV RX11 211 RX0 yX0_fill wmX0_fill) := goodIn_app (goodIn_r (big := wmX11_collisions) _ [5, 6, 7, 8] (by decide +kernel) (by decide +kernel)) gm_X11_collisions_X0_fill
set_option maxRecDepth 100000 in
theorem gm_X11_rhymes_X11_isStage : GoodIn wmX11_rhymes wmX11_isStage := goodIn_app (goodIn_r (big := wmX11_rhymes) weX11_isStage [14, 15] (by decide +kernel) (by decide +kernel)) (gb_X11 (fun _ h => List.mem_append_left _ (List.mem_append_left _ (List.mem_append_right _ h))))
theorem gv_X11_rhymes_X11_isStage_208 : GoodIn wmX11_rhymes (wsV RX11 208 RX11 yX11_isStage wmX11_isStage) := goodIn_app (goodIn_r (big := wmX11_rhymes) _ [1, 2, 3, 4] (by decide +kernel) (by decide +kernel)) gm_X11_rhymes_X11_isStage
set_option maxRecDepth 100000 in
theorem gm_X11_rhymes_X0_fill : GoodIn wmX11_rhymes wmX0_fill := goodIn_app (goodIn_app (goodIn_r (big := wmX11_rhymes) weX0_fill [16, 17, 18, 19] (by decide +kernel) (by decide +kernel)) (gb_X0 (fun _ h => List.mem_append_left _ (List.mem_append_right _ h)))) (gb_X10 (fun _ h => List.mem_append_right _ h))
theorem gv_X11_rhymes_X0_fill_211 : GoodIn wmX11_rhymes (wsV RX11 211 RX0 yX0_fill wmX0_fill) := goodIn_app (goodIn_r (big := wmX11_rhymes) _ [5, 6, 7, 8] (by decide +kernel) (by decide +kernel)) gm_X11_rhymes_X0_fill
set_option maxRecDepth 100000 in
theorem gm_X11_tell_X11_isStage : GoodIn wmX11_tell wmX11_isStage := goodIn_app (goodIn_r (big := wmX11_tell) weX11_isStage [14, 15] (by decide +kernel) (by decide +kernel)) (gb_X11 (fun _ h => List.mem_append_left _ (List.mem_append_left _ (List.mem_append_right _ h))))
theorem gv_X11_tell_X11_isStage_208 : GoodIn wmX11_tell (wsV RX11 208 RX11 yX11_isStage wmX11_isStage) := goodIn_app (goodIn_r (big := wmX11_tell) _ [1, 2, 3, 4] (by decide +kernel) (by decide +kernel)) gm_X11_tell_X11_isStage
set_option maxRecDepth 100000 in
theorem gm_X11_tell_X0_fill : GoodIn wmX11_tell wmX0_fill := goodIn_app (goodIn_app (goodIn_r (big := wmX11_tell) weX0_fill [16, 17, 18, 19] (by decide +kernel) (by decide +kernel)) (gb_X0 (fun _ h => List.mem_append_left _ (List.mem_append_right _ h)))) (gb_X10 (fun _ h => List.mem_append_right _ h))
theorem gv_X11_tell_X0_fill_211 : GoodIn wmX11_tell (wsV RX11 211 RX0 yX0_fill wmX0_fill) := goodIn_app (goodIn_r (big := wmX11_tell) _ [5, 6, 7, 8] (by decide +kernel) (by decide +kernel)) gm_X11_tell_X0_fill
set_option maxRecDepth 100000 in
theorem gm_X11_uses_X11_reformAt : GoodIn wmX11_uses wmX11_reformAt := goodIn_app (goodIn_r (big := wmX11_uses) weX11_reformAt [5, 6] (by decide +kernel) (by decide +kernel)) (gb_X11 (fun _ h => List.mem_append_right _ h))
theorem gv_X11_uses_X11_reformAt_138 : GoodIn wmX11_uses (wsV RX11 138 RX11 yX11_reformAt wmX11_reformAt) := goodIn_app (goodIn_r (big := wmX11_uses) _ [1, 2, 3, 4] (by decide +kernel) (by decide +kernel)) gm_X11_uses_X11_reformAt
set_option maxRecDepth 100000 in
theorem gm_X7_hasZero_X7_occurrences : GoodIn wmX7_hasZero wmX7_occurrences := goodIn_r (big := wmX7_hasZero) weX7_occurrences [5] (by decide +kernel) (by decide +kernel)
theorem gv_X7_hasZero_X7_occurrences_25 : GoodIn wmX7_hasZero (wsV RX7 25 RX7 yX7_occurrences wmX7_occurrences) := goodIn_app (goodIn_r (big := wmX7_hasZero) _ [1, 2, 3, 4] (by decide +kernel) (by decide +kernel)) gm_X7_hasZero_X7_occurrences
set_option maxRecDepth 100000 in
theorem gm_X6_begin_J7_fill_53178 : GoodIn wmX6_begin wmJ7_fill_53178 := goodIn_r (big := wmX6_begin) weJ7_fill_53178 [8] (by decide +kernel) (by decide +kernel)
theorem gv_X6_begin_J7_fill_53178_42 : GoodIn wmX6_begin (va_wsS RX6 42 yJ7_fill_53178 wmJ7_fill_53178) := goodIn_app (goodIn_r (big := wmX6_begin) _ [1, 2, 3] (by decide +kernel) (by decide +kernel)) gm_X6_begin_J7_fill_53178
set_option maxRecDepth 100000 in
theorem gm_X6_finish_X6_append : GoodIn wmX6_finish wmX6_append := goodIn_app (goodIn_r (big := wmX6_finish) weX6_append [14, 6, 12, 8, 15, 16, 17, 18] (by decide +kernel) (by decide +kernel)) (gb_X6 (fun _ h => List.mem_append_right _ h))
theorem gv_X6_finish_X6_append_74 : GoodIn wmX6_finish (wsV RX6 74 RX6 yX6_append wmX6_append) := goodIn_app (goodIn_r (big := wmX6_finish) _ [1, 2, 3, 4] (by decide +kernel) (by decide +kernel)) gm_X6_finish_X6_append
set_option maxRecDepth 100000 in
theorem gm_X11_write_X7_take : GoodIn wmX11_write wmX7_take := goodIn_app (goodIn_r (big := wmX11_write) weX7_take [27, 28] (by decide +kernel) (by decide +kernel)) (gb_X7 (fun _ h => List.mem_append_left _ (List.mem_append_left _ (List.mem_append_right _ h))))
theorem gv_X11_write_X7_take_112 : GoodIn wmX11_write (wsV RX11 112 RX7 yX7_take wmX7_take) := goodIn_app (goodIn_r (big := wmX11_write) _ [1, 2, 3, 4] (by decide +kernel) (by decide +kernel)) gm_X11_write_X7_take
set_option maxRecDepth 100000 in
theorem gm_X11_write_X11_areStages : GoodIn wmX11_write wmX11_areStages := goodIn_app (goodIn_r (big := wmX11_write) weX11_areStages [29, 30, 31, 32, 8, 33, 34] (by decide +kernel) (by decide +kernel)) (gb_X11 (fun _ h => List.mem_append_left _ (List.mem_append_left _ (List.mem_append_left _ (List.mem_append_right _ h)))))
theorem gv_X11_write_X11_areStages_160 : GoodIn wmX11_write (wsV RX11 160 RX11 yX11_areStages wmX11_areStages) := goodIn_app (goodIn_r (big := wmX11_write) _ [5, 6, 7, 8] (by decide +kernel) (by decide +kernel)) gm_X11_write_X11_areStages
set_option maxRecDepth 100000 in
theorem gm_X11_write_X7_hasZero : GoodIn wmX11_write wmX7_hasZero := goodIn_r (big := wmX11_write) weX7_hasZero [35, 36, 37, 38, 4, 39] (by decide +kernel) (by decide +kernel)
theorem gv_X11_write_X7_hasZero_239 : GoodIn wmX11_write (wsV RX11 239 RX7 yX7_hasZero wmX7_hasZero) := goodIn_app (goodIn_r (big := wmX11_write) _ [9, 10, 11, 4] (by decide +kernel) (by decide +kernel)) gm_X11_write_X7_hasZero
set_option maxRecDepth 100000 in
theorem gm_X11_write_X8_begin : GoodIn wmX11_write wmX8_begin := goodIn_app (goodIn_r (big := wmX11_write) weX8_begin [40, 41, 42, 43, 44, 45, 46, 47, 48, 49] (by decide +kernel) (by decide +kernel)) (gb_X8 (fun _ h => List.mem_append_left _ (List.mem_append_right _ h)))
theorem gv_X11_write_X8_begin_242 : GoodIn wmX11_write (wsV RX11 242 RX8 yX8_begin wmX8_begin) := goodIn_app (goodIn_r (big := wmX11_write) _ [12, 13, 14, 15] (by decide +kernel) (by decide +kernel)) gm_X11_write_X8_begin
set_option maxRecDepth 100000 in
theorem gm_X11_write_X6_begin : GoodIn wmX11_write wmX6_begin := goodIn_app (goodIn_r (big := wmX11_write) weX6_begin [50, 51, 52, 53, 54, 55, 56, 57, 58] (by decide +kernel) (by decide +kernel)) (gb_X6 (fun _ h => List.mem_append_right _ h))
theorem gv_X11_write_X6_begin_246 : GoodIn wmX11_write (wsV RX11 246 RX6 yX6_begin wmX6_begin) := goodIn_app (goodIn_r (big := wmX11_write) _ [16, 17, 18, 19] (by decide +kernel) (by decide +kernel)) gm_X11_write_X6_begin
set_option maxRecDepth 100000 in
theorem gm_X11_write_X6_finish : GoodIn wmX11_write wmX6_finish := goodIn_app (goodIn_r (big := wmX11_write) weX6_finish [59, 60, 61, 62, 19, 56, 57, 63, 64, 65, 54, 66, 55, 67, 68, 69, 70, 71, 72] (by decide +kernel) (by decide +kernel)) (gb_X6 (fun _ h => List.mem_append_right _ h))
theorem gv_X11_write_X6_finish_269 : GoodIn wmX11_write (wsV RX11 269 RX6 yX6_finish wmX6_finish) := goodIn_app (goodIn_r (big := wmX11_write) _ [20, 21, 22, 19] (by decide +kernel) (by decide +kernel)) gm_X11_write_X6_finish
set_option maxRecDepth 100000 in
theorem gm_X11_written_X6_byteAt : GoodIn wmX11_written wmX6_byteAt := goodIn_app (goodIn_r (big := wmX11_written) weX6_byteAt [6, 7] (by decide +kernel) (by decide +kernel)) (gb_X6 (fun _ h => List.mem_append_right _ h))
theorem gv_X11_written_X6_byteAt_273 : GoodIn wmX11_written (wsV RX11 273 RX6 yX6_byteAt wmX6_byteAt) := goodIn_app (goodIn_r (big := wmX11_written) _ [1, 2, 3, 4] (by decide +kernel) (by decide +kernel)) gm_X11_written_X6_byteAt
set_option maxRecDepth 100000 in
theorem gm_X11_counted_X6_tallyOf : GoodIn wmX11_counted wmX6_tallyOf := goodIn_app (goodIn_r (big := wmX11_counted) weX6_tallyOf [6, 7] (by decide +kernel) (by decide +kernel)) (gb_X6 (fun _ h => List.mem_append_right _ h))
theorem gv_X11_counted_X6_tallyOf_277 : GoodIn wmX11_counted (wsV RX11 277 RX6 yX6_tallyOf wmX6_tallyOf) := goodIn_app (goodIn_r (big := wmX11_counted) _ [1, 2, 3, 4] (by decide +kernel) (by decide +kernel)) gm_X11_counted_X6_tallyOf
set_option maxRecDepth 100000 in
theorem gm_X7_lines_X7_occurrences : GoodIn wmX7_lines wmX7_occurrences := goodIn_r (big := wmX7_lines) weX7_occurrences [5] (by decide +kernel) (by decide +kernel)
theorem gv_X7_lines_X7_occurrences_25 : GoodIn wmX7_lines (wsV RX7 25 RX7 yX7_occurrences wmX7_occurrences) := goodIn_app (goodIn_r (big := wmX7_lines) _ [1, 2, 3, 4] (by decide +kernel) (by decide +kernel)) gm_X7_lines_X7_occurrences
set_option maxRecDepth 100000 in
theorem gm_X2_begin_J7_fill_53178 : GoodIn wmX2_begin wmJ7_fill_53178 := goodIn_r (big := wmX2_begin) weJ7_fill_53178 [11] (by decide +kernel) (by decide +kernel)
theorem gv_X2_begin_J7_fill_53178_37 : GoodIn wmX2_begin (va_wsS RX2 37 yJ7_fill_53178 wmJ7_fill_53178) := goodIn_app (goodIn_r (big := wmX2_begin) _ [5, 6, 7] (by decide +kernel) (by decide +kernel)) gm_X2_begin_J7_fill_53178
set_option maxRecDepth 100000 in
theorem gm_X2_settle_X2_cheapest : GoodIn wmX2_settle wmX2_cheapest := goodIn_app (goodIn_r (big := wmX2_settle) weX2_cheapest [14, 9] (by decide +kernel) (by decide +kernel)) (gb_X2 (fun _ h => List.mem_append_right _ h))
theorem gv_X2_settle_X2_cheapest_43 : GoodIn wmX2_settle (wsV RX2 43 RX2 yX2_cheapest wmX2_cheapest) := goodIn_app (goodIn_r (big := wmX2_settle) _ [1, 2, 3, 4] (by decide +kernel) (by decide +kernel)) gm_X2_settle_X2_cheapest
set_option maxRecDepth 100000 in
theorem gm_X2_settle_X2_cost : GoodIn wmX2_settle wmX2_cost := goodIn_app (goodIn_r (big := wmX2_settle) weX2_cost [15, 10] (by decide +kernel) (by decide +kernel)) (gb_X2 (fun _ h => List.mem_append_right _ h))
theorem gv_X2_settle_X2_cost_47 : GoodIn wmX2_settle (wsV RX2 47 RX2 yX2_cost wmX2_cost) := goodIn_app (goodIn_r (big := wmX2_settle) _ [5, 6, 7, 4] (by decide +kernel) (by decide +kernel)) gm_X2_settle_X2_cost
set_option maxRecDepth 100000 in
theorem gm_X11_mixed_X7_take : GoodIn wmX11_mixed wmX7_take := goodIn_app (goodIn_r (big := wmX11_mixed) weX7_take [34, 35] (by decide +kernel) (by decide +kernel)) (gb_X7 (fun _ h => List.mem_append_left _ (List.mem_append_left _ (List.mem_append_left _ (List.mem_append_left _ (List.mem_append_right _ h))))))
theorem gv_X11_mixed_X7_take_112 : GoodIn wmX11_mixed (wsV RX11 112 RX7 yX7_take wmX7_take) := goodIn_app (goodIn_r (big := wmX11_mixed) _ [1, 2, 3, 4] (by decide +kernel) (by decide +kernel)) gm_X11_mixed_X7_take
set_option maxRecDepth 100000 in
theorem gm_X11_mixed_X7_lines : GoodIn wmX11_mixed wmX7_lines := goodIn_r (big := wmX11_mixed) weX7_lines [36, 37, 38, 39, 4, 40] (by decide +kernel) (by decide +kernel)
theorem gv_X11_mixed_X7_lines_280 : GoodIn wmX11_mixed (wsV RX11 280 RX7 yX7_lines wmX7_lines) := goodIn_app (goodIn_r (big := wmX11_mixed) _ [5, 6, 7, 4] (by decide +kernel) (by decide +kernel)) gm_X11_mixed_X7_lines
set_option maxRecDepth 100000 in
theorem gm_X11_mixed_X7_hasZero : GoodIn wmX11_mixed wmX7_hasZero := goodIn_r (big := wmX11_mixed) weX7_hasZero [41, 37, 38, 39, 4, 40] (by decide +kernel) (by decide +kernel)
theorem gv_X11_mixed_X7_hasZero_239 : GoodIn wmX11_mixed (wsV RX11 239 RX7 yX7_hasZero wmX7_hasZero) := goodIn_app (goodIn_r (big := wmX11_mixed) _ [8, 9, 10, 4] (by decide +kernel) (by decide +kernel)) gm_X11_mixed_X7_hasZero
set_option maxRecDepth 100000 in
theorem gm_X11_mixed_X0_fill : GoodIn wmX11_mixed wmX0_fill := goodIn_app (goodIn_app (goodIn_r (big := wmX11_mixed) weX0_fill [42, 43, 44, 45] (by decide +kernel) (by decide +kernel)) (gb_X0 (fun _ h => List.mem_append_left _ (List.mem_append_left _ (List.mem_append_left _ (List.mem_append_right _ h)))))) (gb_X10 (fun _ h => List.mem_append_left _ (List.mem_append_left _ (List.mem_append_right _ h))))
theorem gv_X11_mixed_X0_fill_211 : GoodIn wmX11_mixed (wsV RX11 211 RX0 yX0_fill wmX0_fill) := goodIn_app (goodIn_r (big := wmX11_mixed) _ [11, 12, 13, 14] (by decide +kernel) (by decide +kernel)) gm_X11_mixed_X0_fill
set_option maxRecDepth 100000 in
theorem gm_X11_mixed_X2_begin : GoodIn wmX11_mixed wmX2_begin := goodIn_app (goodIn_r (big := wmX11_mixed) weX2_begin [46, 47, 48, 49, 50, 51, 52, 53, 54, 55, 56, 57] (by decide +kernel) (by decide +kernel)) (gb_X2 (fun _ h => List.mem_append_left _ (List.mem_append_right _ h)))
theorem gv_X11_mixed_X2_begin_283 : GoodIn wmX11_mixed (wsV RX11 283 RX2 yX2_begin wmX2_begin) := goodIn_app (goodIn_r (big := wmX11_mixed) _ [15, 16, 17, 18] (by decide +kernel) (by decide +kernel)) gm_X11_mixed_X2_begin
set_option maxRecDepth 100000 in
theorem gm_X11_mixed_X8_begin : GoodIn wmX11_mixed wmX8_begin := goodIn_app (goodIn_r (big := wmX11_mixed) weX8_begin [58, 59, 48, 49, 50, 60, 61, 62, 63, 64] (by decide +kernel) (by decide +kernel)) (gb_X8 (fun _ h => List.mem_append_right _ h))
theorem gv_X11_mixed_X8_begin_242 : GoodIn wmX11_mixed (wsV RX11 242 RX8 yX8_begin wmX8_begin) := goodIn_app (goodIn_r (big := wmX11_mixed) _ [19, 20, 21, 22] (by decide +kernel) (by decide +kernel)) gm_X11_mixed_X8_begin
set_option maxRecDepth 100000 in
theorem gm_X11_mixed_X2_settle : GoodIn wmX11_mixed wmX2_settle := goodIn_app (goodIn_r (big := wmX11_mixed) weX2_settle [65, 66, 67, 68, 18, 69, 70, 71, 54, 55, 72, 56, 73, 74, 75, 76] (by decide +kernel) (by decide +kernel)) (gb_X2 (fun _ h => List.mem_append_left _ (List.mem_append_right _ h)))
theorem gv_X11_mixed_X2_settle_288 : GoodIn wmX11_mixed (wsV RX11 288 RX2 yX2_settle wmX2_settle) := goodIn_app (goodIn_r (big := wmX11_mixed) _ [23, 24, 25, 18] (by decide +kernel) (by decide +kernel)) gm_X11_mixed_X2_settle
set_option maxRecDepth 100000 in
theorem gm_X11_line_X2_stageOf : GoodIn wmX11_line wmX2_stageOf := goodIn_app (goodIn_r (big := wmX11_line) weX2_stageOf [6, 7] (by decide +kernel) (by decide +kernel)) (gb_X2 (fun _ h => List.mem_append_right _ h))
theorem gv_X11_line_X2_stageOf_291 : GoodIn wmX11_line (wsV RX11 291 RX2 yX2_stageOf wmX2_stageOf) := goodIn_app (goodIn_r (big := wmX11_line) _ [1, 2, 3, 4] (by decide +kernel) (by decide +kernel)) gm_X11_line_X2_stageOf
set_option maxRecDepth 100000 in
theorem gm_X12_scan_X12_see : GoodIn wmX12_scan wmX12_see := goodIn_app (goodIn_r (big := wmX12_scan) weX12_see [8, 9] (by decide +kernel) (by decide +kernel)) (gb_X12 (fun _ h => List.mem_append_right _ h))
theorem gv_X12_scan_X12_see_170 : GoodIn wmX12_scan (wsV RX12 170 RX12 yX12_see wmX12_see) := goodIn_app (goodIn_r (big := wmX12_scan) _ [1, 2, 3, 4] (by decide +kernel) (by decide +kernel)) gm_X12_scan_X12_see
set_option maxRecDepth 100000 in
theorem gm_X12_reform_X12_in : GoodIn wmX12_reform wmX12_in := goodIn_r (big := wmX12_reform) weX12_in [20] (by decide +kernel) (by decide +kernel)
theorem gv_X12_reform_X12_in_226 : GoodIn wmX12_reform (va_wsS RX12 226 yX12_in wmX12_in) := goodIn_app (goodIn_r (big := wmX12_reform) _ [2, 3, 4] (by decide +kernel) (by decide +kernel)) gm_X12_reform_X12_in
set_option maxRecDepth 100000 in
theorem gm_X12_reform_X12_scan : GoodIn wmX12_reform wmX12_scan := goodIn_app (goodIn_r (big := wmX12_reform) weX12_scan [21, 22, 23, 24, 4, 16, 25, 17, 26, 9] (by decide +kernel) (by decide +kernel)) (gb_X12 (fun _ h => List.mem_append_right _ h))
theorem gv_X12_reform_X12_scan_200 : GoodIn wmX12_reform (wsV RX12 200 RX12 yX12_scan wmX12_scan) := goodIn_app (goodIn_r (big := wmX12_reform) _ [5, 6, 7, 4] (by decide +kernel) (by decide +kernel)) gm_X12_reform_X12_scan
set_option maxRecDepth 100000 in
theorem gm_X12_about_X12_in : GoodIn wmX12_about wmX12_in := goodIn_r (big := wmX12_about) weX12_in [5] (by decide +kernel) (by decide +kernel)
theorem gv_X12_about_X12_in_226 : GoodIn wmX12_about (va_wsS RX12 226 yX12_in wmX12_in) := goodIn_app (goodIn_r (big := wmX12_about) _ [1, 2, 3] (by decide +kernel) (by decide +kernel)) gm_X12_about_X12_in
set_option maxRecDepth 100000 in
theorem gm_X12_stage_X12_in : GoodIn wmX12_stage wmX12_in := goodIn_r (big := wmX12_stage) weX12_in [6] (by decide +kernel) (by decide +kernel)
theorem gv_X12_stage_X12_in_226 : GoodIn wmX12_stage (va_wsS RX12 226 yX12_in wmX12_in) := goodIn_app (goodIn_r (big := wmX12_stage) _ [2, 3, 4] (by decide +kernel) (by decide +kernel)) gm_X12_stage_X12_in
set_option maxRecDepth 100000 in
theorem gm_X12_readWord_X12_in : GoodIn wmX12_readWord wmX12_in := goodIn_r (big := wmX12_readWord) weX12_in [5] (by decide +kernel) (by decide +kernel)
theorem gv_X12_readWord_X12_in_226 : GoodIn wmX12_readWord (va_wsS RX12 226 yX12_in wmX12_in) := goodIn_app (goodIn_r (big := wmX12_readWord) _ [1, 2, 3] (by decide +kernel) (by decide +kernel)) gm_X12_readWord_X12_in
set_option maxRecDepth 100000 in
theorem gm_X12_turn_X12_readWord : GoodIn wmX12_turn wmX12_readWord := goodIn_app (goodIn_r (big := wmX12_turn) weX12_readWord [5, 6, 7, 4, 8, 9] (by decide +kernel) (by decide +kernel)) (gb_X12 (fun _ h => List.mem_append_right _ h))
theorem gv_X12_turn_X12_readWord_297 : GoodIn wmX12_turn (wsV RX12 297 RX12 yX12_readWord wmX12_readWord) := goodIn_app (goodIn_r (big := wmX12_turn) _ [1, 2, 3, 4] (by decide +kernel) (by decide +kernel)) gm_X12_turn_X12_readWord
set_option maxRecDepth 100000 in
theorem gm_X12_form_X12_in : GoodIn wmX12_form wmX12_in := goodIn_r (big := wmX12_form) weX12_in [5] (by decide +kernel) (by decide +kernel)
theorem gv_X12_form_X12_in_226 : GoodIn wmX12_form (va_wsS RX12 226 yX12_in wmX12_in) := goodIn_app (goodIn_r (big := wmX12_form) _ [1, 2, 3] (by decide +kernel) (by decide +kernel)) gm_X12_form_X12_in
set_option maxRecDepth 100000 in
theorem gm_X12_partings_X12_readWord : GoodIn wmX12_partings wmX12_readWord := goodIn_app (goodIn_r (big := wmX12_partings) weX12_readWord [5, 6, 7, 4, 8, 9] (by decide +kernel) (by decide +kernel)) (gb_X12 (fun _ h => List.mem_append_right _ h))
theorem gv_X12_partings_X12_readWord_297 : GoodIn wmX12_partings (wsV RX12 297 RX12 yX12_readWord wmX12_readWord) := goodIn_app (goodIn_r (big := wmX12_partings) _ [1, 2, 3, 4] (by decide +kernel) (by decide +kernel)) gm_X12_partings_X12_readWord
set_option maxRecDepth 100000 in
theorem gm_X12_parting_X12_in : GoodIn wmX12_parting wmX12_in := goodIn_r (big := wmX12_parting) weX12_in [5] (by decide +kernel) (by decide +kernel)
theorem gv_X12_parting_X12_in_226 : GoodIn wmX12_parting (va_wsS RX12 226 yX12_in wmX12_in) := goodIn_app (goodIn_r (big := wmX12_parting) _ [1, 2, 3] (by decide +kernel) (by decide +kernel)) gm_X12_parting_X12_in
set_option maxRecDepth 100000 in
theorem gm_X12_learn_X12_readWord : GoodIn wmX12_learn wmX12_readWord := goodIn_app (goodIn_r (big := wmX12_learn) weX12_readWord [5, 6, 7, 4, 8, 9] (by decide +kernel) (by decide +kernel)) (gb_X12 (fun _ h => List.mem_append_right _ h))
theorem gv_X12_learn_X12_readWord_297 : GoodIn wmX12_learn (wsV RX12 297 RX12 yX12_readWord wmX12_readWord) := goodIn_app (goodIn_r (big := wmX12_learn) _ [1, 2, 3, 4] (by decide +kernel) (by decide +kernel)) gm_X12_learn_X12_readWord
set_option maxRecDepth 100000 in
theorem gm_X12_word_X12_in : GoodIn wmX12_word wmX12_in := goodIn_r (big := wmX12_word) weX12_in [5] (by decide +kernel) (by decide +kernel)
theorem gv_X12_word_X12_in_226 : GoodIn wmX12_word (va_wsS RX12 226 yX12_in wmX12_in) := goodIn_app (goodIn_r (big := wmX12_word) _ [1, 2, 3] (by decide +kernel) (by decide +kernel)) gm_X12_word_X12_in
set_option maxRecDepth 100000 in
theorem gm_X12_back_X12_readWord : GoodIn wmX12_back wmX12_readWord := goodIn_app (goodIn_r (big := wmX12_back) weX12_readWord [5, 6, 7, 4, 8, 9] (by decide +kernel) (by decide +kernel)) (gb_X12 (fun _ h => List.mem_append_right _ h))
theorem gv_X12_back_X12_readWord_297 : GoodIn wmX12_back (wsV RX12 297 RX12 yX12_readWord wmX12_readWord) := goodIn_app (goodIn_r (big := wmX12_back) _ [1, 2, 3, 4] (by decide +kernel) (by decide +kernel)) gm_X12_back_X12_readWord
set_option maxRecDepth 100000 in
theorem gm_X12_old_X12_in : GoodIn wmX12_old wmX12_in := goodIn_r (big := wmX12_old) weX12_in [5] (by decide +kernel) (by decide +kernel)
theorem gv_X12_old_X12_in_226 : GoodIn wmX12_old (va_wsS RX12 226 yX12_in wmX12_in) := goodIn_app (goodIn_r (big := wmX12_old) _ [1, 2, 3] (by decide +kernel) (by decide +kernel)) gm_X12_old_X12_in
set_option maxRecDepth 100000 in
theorem gm_X12_isStage_X12_in : GoodIn wmX12_isStage wmX12_in := goodIn_r (big := wmX12_isStage) weX12_in [5] (by decide +kernel) (by decide +kernel)
theorem gv_X12_isStage_X12_in_226 : GoodIn wmX12_isStage (va_wsS RX12 226 yX12_in wmX12_in) := goodIn_app (goodIn_r (big := wmX12_isStage) _ [1, 2, 3] (by decide +kernel) (by decide +kernel)) gm_X12_isStage_X12_in
set_option maxRecDepth 100000 in
theorem gm_X12_collisions_X12_isStage : GoodIn wmX12_collisions wmX12_isStage := goodIn_app (goodIn_r (big := wmX12_collisions) weX12_isStage [10, 11, 12, 4, 13, 14] (by decide +kernel) (by decide +kernel)) (gb_X12 (fun _ h => List.mem_append_right _ h))
theorem gv_X12_collisions_X12_isStage_300 : GoodIn wmX12_collisions (wsV RX12 300 RX12 yX12_isStage wmX12_isStage) := goodIn_app (goodIn_r (big := wmX12_collisions) _ [1, 2, 3, 4] (by decide +kernel) (by decide +kernel)) gm_X12_collisions_X12_isStage
set_option maxRecDepth 100000 in
theorem gm_X12_collisions_X12_make : GoodIn wmX12_collisions wmX12_make := goodIn_app (goodIn_r (big := wmX12_collisions) weX12_make [15, 16, 9] (by decide +kernel) (by decide +kernel)) (gb_X12 (fun _ h => List.mem_append_right _ h))
theorem gv_X12_collisions_X12_make_315 : GoodIn wmX12_collisions (wsV RX12 315 RX12 yX12_make wmX12_make) := goodIn_app (goodIn_r (big := wmX12_collisions) _ [5, 6, 7, 4] (by decide +kernel) (by decide +kernel)) gm_X12_collisions_X12_make
set_option maxRecDepth 100000 in
theorem gm_X12_collision_X12_in : GoodIn wmX12_collision wmX12_in := goodIn_r (big := wmX12_collision) weX12_in [5] (by decide +kernel) (by decide +kernel)
theorem gv_X12_collision_X12_in_226 : GoodIn wmX12_collision (va_wsS RX12 226 yX12_in wmX12_in) := goodIn_app (goodIn_r (big := wmX12_collision) _ [1, 2, 3] (by decide +kernel) (by decide +kernel)) gm_X12_collision_X12_in
set_option maxRecDepth 100000 in
theorem gm_X12_rhymes_X12_isStage : GoodIn wmX12_rhymes wmX12_isStage := goodIn_app (goodIn_r (big := wmX12_rhymes) weX12_isStage [9, 10, 11, 4, 12, 13] (by decide +kernel) (by decide +kernel)) (gb_X12 (fun _ h => List.mem_append_right _ h))
theorem gv_X12_rhymes_X12_isStage_300 : GoodIn wmX12_rhymes (wsV RX12 300 RX12 yX12_isStage wmX12_isStage) := goodIn_app (goodIn_r (big := wmX12_rhymes) _ [1, 2, 3, 4] (by decide +kernel) (by decide +kernel)) gm_X12_rhymes_X12_isStage
set_option maxRecDepth 100000 in
theorem gm_X12_rhymes_X12_make : GoodIn wmX12_rhymes wmX12_make := goodIn_app (goodIn_r (big := wmX12_rhymes) weX12_make [14, 15, 8] (by decide +kernel) (by decide +kernel)) (gb_X12 (fun _ h => List.mem_append_right _ h))
theorem gv_X12_rhymes_X12_make_315 : GoodIn wmX12_rhymes (wsV RX12 315 RX12 yX12_make wmX12_make) := goodIn_app (goodIn_r (big := wmX12_rhymes) _ [5, 6, 7, 4] (by decide +kernel) (by decide +kernel)) gm_X12_rhymes_X12_make
set_option maxRecDepth 100000 in
theorem gm_X12_tell_X12_isStage : GoodIn wmX12_tell wmX12_isStage := goodIn_app (goodIn_r (big := wmX12_tell) weX12_isStage [11, 5, 6, 4, 12, 13] (by decide +kernel) (by decide +kernel)) (gb_X12 (fun _ h => List.mem_append_right _ h))
theorem gv_X12_tell_X12_isStage_300 : GoodIn wmX12_tell (wsV RX12 300 RX12 yX12_isStage wmX12_isStage) := goodIn_app (goodIn_r (big := wmX12_tell) _ [1, 2, 3, 4] (by decide +kernel) (by decide +kernel)) gm_X12_tell_X12_isStage
set_option maxRecDepth 100000 in
theorem gm_X12_tell_X12_in : GoodIn wmX12_tell wmX12_in := goodIn_r (big := wmX12_tell) weX12_in [13] (by decide +kernel) (by decide +kernel)
theorem gv_X12_tell_X12_in_226 : GoodIn wmX12_tell (va_wsS RX12 226 yX12_in wmX12_in) := goodIn_app (goodIn_r (big := wmX12_tell) _ [5, 6, 4] (by decide +kernel) (by decide +kernel)) gm_X12_tell_X12_in
set_option maxRecDepth 100000 in
theorem gm_X12_tell_X12_make : GoodIn wmX12_tell wmX12_make := goodIn_app (goodIn_r (big := wmX12_tell) weX12_make [14, 15, 10] (by decide +kernel) (by decide +kernel)) (gb_X12 (fun _ h => List.mem_append_right _ h))
theorem gv_X12_tell_X12_make_315 : GoodIn wmX12_tell (wsV RX12 315 RX12 yX12_make wmX12_make) := goodIn_app (goodIn_r (big := wmX12_tell) _ [7, 8, 9, 4] (by decide +kernel) (by decide +kernel)) gm_X12_tell_X12_make
set_option maxRecDepth 100000 in
theorem gm_X12_uses_X12_in : GoodIn wmX12_uses wmX12_in := goodIn_r (big := wmX12_uses) weX12_in [5] (by decide +kernel) (by decide +kernel)
theorem gv_X12_uses_X12_in_226 : GoodIn wmX12_uses (va_wsS RX12 226 yX12_in wmX12_in) := goodIn_app (goodIn_r (big := wmX12_uses) _ [1, 2, 3] (by decide +kernel) (by decide +kernel)) gm_X12_uses_X12_in
set_option maxRecDepth 100000 in
theorem gm_X12_write_X12_isStage : GoodIn wmX12_write wmX12_isStage := goodIn_app (goodIn_r (big := wmX12_write) weX12_isStage [14, 15, 16, 4, 17, 18] (by decide +kernel) (by decide +kernel)) (gb_X12 (fun _ h => List.mem_append_right _ h))
theorem gv_X12_write_X12_isStage_300 : GoodIn wmX12_write (wsV RX12 300 RX12 yX12_isStage wmX12_isStage) := goodIn_app (goodIn_r (big := wmX12_write) _ [1, 2, 3, 4] (by decide +kernel) (by decide +kernel)) gm_X12_write_X12_isStage
set_option maxRecDepth 100000 in
theorem gm_X12_write_X12_hasNought : GoodIn wmX12_write wmX12_hasNought := goodIn_r (big := wmX12_write) weX12_hasNought [19] (by decide +kernel) (by decide +kernel)
theorem gv_X12_write_X12_hasNought_348 : GoodIn wmX12_write (wsV RX12 348 RX12 yX12_hasNought wmX12_hasNought) := goodIn_app (goodIn_r (big := wmX12_write) _ [5, 6, 7, 4] (by decide +kernel) (by decide +kernel)) gm_X12_write_X12_hasNought
set_option maxRecDepth 100000 in
theorem gm_X12_written_X12_in : GoodIn wmX12_written wmX12_in := goodIn_r (big := wmX12_written) weX12_in [5] (by decide +kernel) (by decide +kernel)
theorem gv_X12_written_X12_in_226 : GoodIn wmX12_written (va_wsS RX12 226 yX12_in wmX12_in) := goodIn_app (goodIn_r (big := wmX12_written) _ [1, 2, 3] (by decide +kernel) (by decide +kernel)) gm_X12_written_X12_in
set_option maxRecDepth 100000 in
theorem gm_X12_mixed_X12_in : GoodIn wmX12_mixed wmX12_in := goodIn_r (big := wmX12_mixed) weX12_in [19] (by decide +kernel) (by decide +kernel)
theorem gv_X12_mixed_X12_in_226 : GoodIn wmX12_mixed (va_wsS RX12 226 yX12_in wmX12_in) := goodIn_app (goodIn_r (big := wmX12_mixed) _ [1, 2, 3] (by decide +kernel) (by decide +kernel)) gm_X12_mixed_X12_in
set_option maxRecDepth 100000 in
theorem gm_X12_mixed_X12_hasNought : GoodIn wmX12_mixed wmX12_hasNought := goodIn_r (big := wmX12_mixed) weX12_hasNought [20] (by decide +kernel) (by decide +kernel)
theorem gv_X12_mixed_X12_hasNought_348 : GoodIn wmX12_mixed (wsV RX12 348 RX12 yX12_hasNought wmX12_hasNought) := goodIn_app (goodIn_r (big := wmX12_mixed) _ [4, 5, 6, 3] (by decide +kernel) (by decide +kernel)) gm_X12_mixed_X12_hasNought
set_option maxRecDepth 100000 in
theorem gm_X12_mixed_X12_make : GoodIn wmX12_mixed wmX12_make := goodIn_app (goodIn_r (big := wmX12_mixed) weX12_make [21, 22, 23] (by decide +kernel) (by decide +kernel)) (gb_X12 (fun _ h => List.mem_append_right _ h))
theorem gv_X12_mixed_X12_make_315 : GoodIn wmX12_mixed (wsV RX12 315 RX12 yX12_make wmX12_make) := goodIn_app (goodIn_r (big := wmX12_mixed) _ [7, 8, 9, 3] (by decide +kernel) (by decide +kernel)) gm_X12_mixed_X12_make
set_option maxRecDepth 100000 in
theorem gm_X12_mixed_X12_onward : GoodIn wmX12_mixed wmX12_onward := goodIn_app (goodIn_r (big := wmX12_mixed) weX12_onward [24, 25, 15, 16] (by decide +kernel) (by decide +kernel)) (gb_X12 (fun _ h => List.mem_append_right _ h))
theorem gv_X12_mixed_X12_onward_370 : GoodIn wmX12_mixed (wsV RX12 370 RX12 yX12_onward wmX12_onward) := goodIn_app (goodIn_r (big := wmX12_mixed) _ [10, 11, 12, 3] (by decide +kernel) (by decide +kernel)) gm_X12_mixed_X12_onward
set_option maxRecDepth 100000 in
theorem gm_X12_line_X12_in : GoodIn wmX12_line wmX12_in := goodIn_r (big := wmX12_line) weX12_in [5] (by decide +kernel) (by decide +kernel)
theorem gv_X12_line_X12_in_226 : GoodIn wmX12_line (va_wsS RX12 226 yX12_in wmX12_in) := goodIn_app (goodIn_r (big := wmX12_line) _ [1, 2, 3] (by decide +kernel) (by decide +kernel)) gm_X12_line_X12_in
