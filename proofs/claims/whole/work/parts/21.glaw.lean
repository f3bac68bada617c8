set_option maxRecDepth 20000 in
theorem ggL_law_X0_init : GoodIn wsL_law wsX0_init := goodIn_r _ [9, 10, 11, 12, 13, 14, 15, 16, 2, 17, 18, 19, 489, 490, 491, 492] (by decide +kernel) (by decide +kernel)
set_option maxRecDepth 20000 in
theorem gL_law_X0_init : GoodIn wsL_law (wsX0_init) := ggL_law_X0_init
set_option maxRecDepth 20000 in
theorem ggL_law_X1_init : GoodIn wsL_law wsX1_init := goodIn_r _ [22, 23, 11, 12, 24, 25, 26, 27, 493, 494, 495, 496, 497] (by decide +kernel) (by decide +kernel)
set_option maxRecDepth 20000 in
theorem gL_law_X1_init : GoodIn wsL_law (wsX1_init) := ggL_law_X1_init
set_option maxRecDepth 20000 in
theorem ggL_law_L_put : GoodIn wsL_law wsL_put := goodIn_ca (goodIn_ca (goodIn_r _ [31, 32, 33, 34, 35, 36, 2, 37, 38, 39, 40, 41, 42, 43, 44, 45, 46, 47, 48, 49, 50, 51, 52, 53, 54, 13, 14, 55, 56, 57, 18, 58, 59, 60, 15, 16, 17, 19, 61, 62, 63, 64, 489, 490, 491, 492] (by decide +kernel) (by decide +kernel)) (goodIn_sub (fun _ h => List.mem_append_left _ (List.mem_append_left _ (List.mem_append_right _ h))) (by decide +kernel))) (goodIn_sub (fun _ h => List.mem_append_left _ (List.mem_append_right _ h)) (by decide +kernel))
set_option maxRecDepth 20000 in
theorem gL_law_L_put : GoodIn wsL_law (va_wsS RL 98 yL_put wsL_put) := goodIn_app (goodIn_of _ (by decide +kernel)) ggL_law_L_put
set_option maxRecDepth 20000 in
theorem ggL_law_X1_put : GoodIn wsL_law wsX1_put := goodIn_r _ [68, 25, 69, 70, 5, 71, 72, 73, 74, 75, 76, 77, 78, 79, 80, 81, 82, 83, 84, 85, 86, 493, 494, 495, 496, 497] (by decide +kernel) (by decide +kernel)
set_option maxRecDepth 20000 in
theorem gL_law_X1_put : GoodIn wsL_law (wsV RL 103 RX1 yX1_put wsX1_put) := goodIn_app (goodIn_of _ (by decide +kernel)) ggL_law_X1_put
set_option maxRecDepth 20000 in
theorem ggL_law_X1_thrown : GoodIn wsL_law wsX1_thrown := goodIn_r _ [90, 82, 493, 494, 495, 496, 497] (by decide +kernel) (by decide +kernel)
set_option maxRecDepth 20000 in
theorem gL_law_X1_thrown : GoodIn wsL_law (wsV RL 104 RX1 yX1_thrown wsX1_thrown) := goodIn_app (goodIn_of _ (by decide +kernel)) ggL_law_X1_thrown
set_option maxRecDepth 20000 in
theorem ggL_law_L_take : GoodIn wsL_law wsL_take := goodIn_ca (goodIn_ca (goodIn_r _ [93, 32, 33, 94, 95, 96, 2, 97, 38, 39, 40, 41, 42, 98, 99, 100, 46, 47, 48, 49, 50, 51, 52, 53, 54, 13, 14, 101, 102, 103, 104, 105, 106, 55, 56, 57, 18, 107, 108, 109, 110, 111, 112, 113, 15, 16, 17, 19, 114, 115, 116, 117, 61, 62, 63, 64, 489, 490, 491, 492] (by decide +kernel) (by decide +kernel)) (goodIn_sub (fun _ h => List.mem_append_left _ (List.mem_append_left _ (List.mem_append_right _ h))) (by decide +kernel))) (goodIn_sub (fun _ h => List.mem_append_left _ (List.mem_append_right _ h)) (by decide +kernel))
set_option maxRecDepth 20000 in
theorem gL_law_L_take : GoodIn wsL_law (va_wsS RL 108 yL_take wsL_take) := goodIn_app (goodIn_of _ (by decide +kernel)) ggL_law_L_take
set_option maxRecDepth 20000 in
theorem ggL_law_X1_take : GoodIn wsL_law wsX1_take := goodIn_r _ [121, 26, 69, 70, 5, 71, 122, 123, 124, 75, 76, 77, 72, 73, 74, 78, 79, 80, 81, 82, 125, 126, 127, 128, 129, 130, 131, 83, 84, 85, 86, 25, 132, 133, 134, 135, 136, 137, 138, 493, 494, 495, 496, 497] (by decide +kernel) (by decide +kernel)
set_option maxRecDepth 20000 in
theorem gL_law_X1_take : GoodIn wsL_law (wsV RL 111 RX1 yX1_take wsX1_take) := goodIn_app (goodIn_of _ (by decide +kernel)) ggL_law_X1_take
set_option maxRecDepth 20000 in
theorem ggL_law_L_multiply : GoodIn wsL_law wsL_multiply := goodIn_ca (goodIn_ca (goodIn_r _ [141, 32, 33, 142, 143, 144, 2, 145, 38, 39, 40, 41, 42, 146, 147, 148, 49, 50, 51, 52, 53, 54, 13, 14, 55, 56, 57, 18, 107, 108, 109, 110, 111, 112, 113, 15, 16, 17, 19, 114, 115, 116, 117, 61, 62, 63, 64, 489, 490, 491, 492] (by decide +kernel) (by decide +kernel)) (goodIn_sub (fun _ h => List.mem_append_left _ (List.mem_append_left _ (List.mem_append_right _ h))) (by decide +kernel))) (goodIn_sub (fun _ h => List.mem_append_left _ (List.mem_append_right _ h)) (by decide +kernel))
set_option maxRecDepth 20000 in
theorem gL_law_L_multiply : GoodIn wsL_law (va_wsS RL 112 yL_multiply wsL_multiply) := goodIn_app (goodIn_of _ (by decide +kernel)) ggL_law_L_multiply
set_option maxRecDepth 20000 in
theorem ggL_law_X1_multiply : GoodIn wsL_law wsX1_multiply := goodIn_r _ [152, 26, 69, 70, 5, 71, 78, 79, 80, 81, 82, 83, 84, 85, 86, 25, 135, 136, 137, 138, 493, 494, 495, 496, 497] (by decide +kernel) (by decide +kernel)
set_option maxRecDepth 20000 in
theorem gL_law_X1_multiply : GoodIn wsL_law (wsV RL 115 RX1 yX1_multiply wsX1_multiply) := goodIn_app (goodIn_of _ (by decide +kernel)) ggL_law_X1_multiply
set_option maxRecDepth 20000 in
theorem ggL_law_L_rotate : GoodIn wsL_law wsL_rotate := goodIn_ca (goodIn_ca (goodIn_r _ [155, 32, 33, 156, 157, 158, 2, 159, 38, 39, 40, 41, 42, 46, 47, 48, 49, 50, 51, 52, 53, 54, 13, 14, 107, 108, 109, 110, 111, 112, 113, 55, 56, 57, 18, 15, 16, 17, 19, 114, 115, 116, 117, 61, 62, 63, 64, 489, 490, 491, 492] (by decide +kernel) (by decide +kernel)) (goodIn_sub (fun _ h => List.mem_append_left _ (List.mem_append_left _ (List.mem_append_right _ h))) (by decide +kernel))) (goodIn_sub (fun _ h => List.mem_append_left _ (List.mem_append_right _ h)) (by decide +kernel))
set_option maxRecDepth 20000 in
theorem gL_law_L_rotate : GoodIn wsL_law (va_wsS RL 116 yL_rotate wsL_rotate) := goodIn_app (goodIn_of _ (by decide +kernel)) ggL_law_L_rotate
set_option maxRecDepth 20000 in
theorem ggL_law_X1_rotate : GoodIn wsL_law wsX1_rotate := goodIn_r _ [163, 26, 69, 70, 5, 71, 72, 73, 74, 75, 76, 77, 78, 79, 80, 81, 82, 83, 84, 85, 86, 25, 135, 136, 137, 138, 493, 494, 495, 496, 497] (by decide +kernel) (by decide +kernel)
set_option maxRecDepth 20000 in
theorem gL_law_X1_rotate : GoodIn wsL_law (wsV RL 118 RX1 yX1_rotate wsX1_rotate) := goodIn_app (goodIn_of _ (by decide +kernel)) ggL_law_X1_rotate
set_option maxRecDepth 20000 in
theorem ggL_law_L_tone : GoodIn wsL_law wsL_tone := goodIn_ca (goodIn_r _ [166, 32, 167, 168, 169, 2, 170, 38, 39, 40, 41, 42, 43, 44, 45, 51, 52, 53, 54, 13, 14, 55, 56, 57, 18, 489, 490, 491, 492] (by decide +kernel) (by decide +kernel)) (goodIn_sub (fun _ h => List.mem_append_left _ (List.mem_append_left _ (List.mem_append_right _ h))) (by decide +kernel))
set_option maxRecDepth 20000 in
theorem gL_law_L_tone : GoodIn wsL_law (va_wsS RL 119 yL_tone wsL_tone) := goodIn_app (goodIn_of _ (by decide +kernel)) ggL_law_L_tone
set_option maxRecDepth 20000 in
theorem ggL_law_X1_tone : GoodIn wsL_law wsX1_tone := goodIn_r _ [174, 69, 70, 5, 71, 72, 73, 74, 75, 76, 77, 78, 79, 80, 81, 82, 83, 84, 85, 86, 25, 493, 494, 495, 496, 497] (by decide +kernel) (by decide +kernel)
set_option maxRecDepth 20000 in
theorem gL_law_X1_tone : GoodIn wsL_law (wsV RL 121 RX1 yX1_tone wsX1_tone) := goodIn_app (goodIn_of _ (by decide +kernel)) ggL_law_X1_tone
set_option maxRecDepth 20000 in
theorem ggL_law_L_interval : GoodIn wsL_law wsL_interval := goodIn_ca (goodIn_r _ [177, 32, 178, 179, 180, 2, 181, 38, 39, 40, 41, 42, 43, 44, 45, 51, 52, 53, 54, 13, 14, 182, 183, 184, 55, 56, 57, 18, 107, 108, 109, 110, 111, 112, 113, 489, 490, 491, 492] (by decide +kernel) (by decide +kernel)) (goodIn_sub (fun _ h => List.mem_append_left _ (List.mem_append_left _ (List.mem_append_right _ h))) (by decide +kernel))
set_option maxRecDepth 20000 in
theorem gL_law_L_interval : GoodIn wsL_law (va_wsS RL 122 yL_interval wsL_interval) := goodIn_app (goodIn_of _ (by decide +kernel)) ggL_law_L_interval
set_option maxRecDepth 20000 in
theorem ggL_law_X1_interval : GoodIn wsL_law wsX1_interval := goodIn_r _ [188, 69, 70, 5, 71, 75, 76, 77, 78, 79, 80, 81, 82, 189, 190, 191, 192, 83, 84, 85, 86, 25, 132, 133, 134, 493, 494, 495, 496, 497] (by decide +kernel) (by decide +kernel)
set_option maxRecDepth 20000 in
theorem gL_law_X1_interval : GoodIn wsL_law (wsV RL 124 RX1 yX1_interval wsX1_interval) := goodIn_app (goodIn_of _ (by decide +kernel)) ggL_law_X1_interval
set_option maxRecDepth 20000 in
theorem ggL_law_L_hasAllIntervals : GoodIn wsL_law wsL_hasAllIntervals := goodIn_ca (goodIn_r _ [195, 32, 196, 197, 198, 2, 199, 38, 39, 40, 41, 42, 51, 52, 53, 54, 13, 14, 182, 183, 184, 55, 56, 57, 18, 107, 108, 109, 110, 111, 112, 113, 200, 201, 202, 203, 204, 205, 206, 489, 490, 491, 492] (by decide +kernel) (by decide +kernel)) (goodIn_sub (fun _ h => List.mem_append_left _ (List.mem_append_left _ (List.mem_append_right _ h))) (by decide +kernel))
set_option maxRecDepth 20000 in
theorem gL_law_L_hasAllIntervals : GoodIn wsL_law (va_wsS RL 125 yL_hasAllIntervals wsL_hasAllIntervals) := goodIn_app (goodIn_of _ (by decide +kernel)) ggL_law_L_hasAllIntervals
set_option maxRecDepth 20000 in
theorem ggL_law_X1_hasAllIntervals : GoodIn wsL_law wsX1_hasAllIntervals := goodIn_r _ [210, 69, 70, 5, 71, 78, 79, 80, 81, 82, 189, 190, 191, 192, 83, 84, 85, 86, 25, 132, 133, 134, 493, 494, 495, 496, 497] (by decide +kernel) (by decide +kernel)
set_option maxRecDepth 20000 in
theorem gL_law_X1_hasAllIntervals : GoodIn wsL_law (wsV RL 128 RX1 yX1_hasAllIntervals wsX1_hasAllIntervals) := goodIn_app (goodIn_of _ (by decide +kernel)) ggL_law_X1_hasAllIntervals
set_option maxRecDepth 20000 in
theorem ggL_law_L_toneOf : GoodIn wsL_law wsL_toneOf := goodIn_ca (goodIn_ca (goodIn_r _ [213, 32, 33, 214, 215, 216, 2, 217, 38, 39, 40, 41, 42, 43, 44, 45, 98, 99, 100, 46, 47, 48, 49, 50, 51, 52, 53, 54, 13, 14, 101, 102, 103, 104, 105, 106, 55, 56, 57, 18, 107, 108, 109, 110, 111, 112, 113, 15, 16, 17, 19, 489, 490, 491, 492] (by decide +kernel) (by decide +kernel)) (goodIn_sub (fun _ h => List.mem_append_left _ (List.mem_append_left _ (List.mem_append_right _ h))) (by decide +kernel))) (goodIn_sub (fun _ h => List.mem_append_left _ (List.mem_append_right _ h)) (by decide +kernel))
set_option maxRecDepth 20000 in
theorem gL_law_L_toneOf : GoodIn wsL_law (va_wsS RL 129 yL_toneOf wsL_toneOf) := goodIn_app (goodIn_of _ (by decide +kernel)) ggL_law_L_toneOf
set_option maxRecDepth 20000 in
theorem ggL_law_X1_toneOf : GoodIn wsL_law wsX1_toneOf := goodIn_r _ [221, 69, 70, 5, 71, 72, 73, 74, 75, 76, 77, 122, 123, 124, 78, 79, 80, 81, 82, 125, 126, 127, 128, 129, 130, 131, 83, 84, 85, 86, 25, 132, 133, 134, 493, 494, 495, 496, 497] (by decide +kernel) (by decide +kernel)
set_option maxRecDepth 20000 in
theorem gL_law_X1_toneOf : GoodIn wsL_law (wsV RL 131 RX1 yX1_toneOf wsX1_toneOf) := goodIn_app (goodIn_of _ (by decide +kernel)) ggL_law_X1_toneOf
set_option maxRecDepth 20000 in
theorem ggL_law_L_matrix : GoodIn wsL_law wsL_matrix := goodIn_ca (goodIn_r _ [224, 32, 225, 226, 227, 2, 228, 38, 39, 40, 41, 42, 43, 44, 45, 51, 52, 53, 54, 13, 14, 55, 56, 57, 18, 107, 108, 109, 110, 111, 112, 113, 489, 490, 491, 492] (by decide +kernel) (by decide +kernel)) (goodIn_sub (fun _ h => List.mem_append_left _ (List.mem_append_left _ (List.mem_append_right _ h))) (by decide +kernel))
set_option maxRecDepth 20000 in
theorem gL_law_L_matrix : GoodIn wsL_law (va_wsS RL 132 yL_matrix wsL_matrix) := goodIn_app (goodIn_of _ (by decide +kernel)) ggL_law_L_matrix
set_option maxRecDepth 20000 in
theorem ggL_law_X1_matrix : GoodIn wsL_law wsX1_matrix := goodIn_r _ [232, 69, 70, 5, 71, 72, 73, 74, 75, 76, 77, 78, 79, 80, 81, 82, 83, 84, 85, 86, 25, 125, 126, 127, 128, 129, 130, 131, 132, 133, 134, 493, 494, 495, 496, 497] (by decide +kernel) (by decide +kernel)
set_option maxRecDepth 20000 in
theorem gL_law_X1_matrix : GoodIn wsL_law (wsV RL 134 RX1 yX1_matrix wsX1_matrix) := goodIn_app (goodIn_of _ (by decide +kernel)) ggL_law_X1_matrix
set_option maxRecDepth 20000 in
theorem ggL_law_L_differentForms : GoodIn wsL_law wsL_differentForms := goodIn_ca (goodIn_r _ [235, 32, 236, 237, 238, 2, 239, 38, 39, 40, 41, 42, 51, 52, 53, 54, 13, 14, 101, 102, 103, 104, 105, 106, 55, 56, 57, 18, 107, 108, 109, 110, 111, 112, 113, 15, 16, 17, 19, 489, 490, 491, 492] (by decide +kernel) (by decide +kernel)) (goodIn_sub (fun _ h => List.mem_append_left _ (List.mem_append_left _ (List.mem_append_right _ h))) (by decide +kernel))
set_option maxRecDepth 20000 in
theorem gL_law_L_differentForms : GoodIn wsL_law (va_wsS RL 135 yL_differentForms wsL_differentForms) := goodIn_app (goodIn_of _ (by decide +kernel)) ggL_law_L_differentForms
set_option maxRecDepth 20000 in
theorem ggL_law_X1_differentForms : GoodIn wsL_law wsX1_differentForms := goodIn_r _ [243, 69, 70, 5, 71, 78, 79, 80, 81, 82, 244, 245, 246, 247, 128, 129, 130, 131, 83, 84, 85, 86, 25, 132, 133, 134, 493, 494, 495, 496, 497] (by decide +kernel) (by decide +kernel)
set_option maxRecDepth 20000 in
theorem gL_law_X1_differentForms : GoodIn wsL_law (wsV RL 137 RX1 yX1_differentForms wsX1_differentForms) := goodIn_app (goodIn_of _ (by decide +kernel)) ggL_law_X1_differentForms
set_option maxRecDepth 20000 in
theorem ggL_law_L_formOfOther : GoodIn wsL_law wsL_formOfOther := goodIn_ca (goodIn_r _ [250, 32, 251, 252, 253, 2, 254, 38, 39, 40, 41, 42, 51, 52, 53, 54, 13, 14, 104, 105, 106, 55, 56, 57, 18, 107, 108, 109, 110, 111, 112, 113, 15, 16, 17, 19, 489, 490, 491, 492] (by decide +kernel) (by decide +kernel)) (goodIn_sub (fun _ h => List.mem_append_left _ (List.mem_append_left _ (List.mem_append_right _ h))) (by decide +kernel))
set_option maxRecDepth 20000 in
theorem gL_law_L_formOfOther : GoodIn wsL_law (va_wsS RL 138 yL_formOfOther wsL_formOfOther) := goodIn_app (goodIn_of _ (by decide +kernel)) ggL_law_L_formOfOther
set_option maxRecDepth 20000 in
theorem ggL_law_X1_formOfOther : GoodIn wsL_law wsX1_formOfOther := goodIn_r _ [258, 69, 70, 5, 71, 78, 79, 80, 81, 82, 128, 129, 130, 131, 83, 84, 85, 86, 25, 132, 133, 134, 493, 494, 495, 496, 497] (by decide +kernel) (by decide +kernel)
set_option maxRecDepth 20000 in
theorem gL_law_X1_formOfOther : GoodIn wsL_law (wsV RL 140 RX1 yX1_formOfOther wsX1_formOfOther) := goodIn_app (goodIn_of _ (by decide +kernel)) ggL_law_X1_formOfOther
set_option maxRecDepth 20000 in
theorem ggL_law_L_segment : GoodIn wsL_law wsL_segment := goodIn_ca (goodIn_ca (goodIn_r _ [261, 32, 33, 262, 263, 264, 2, 265, 38, 39, 40, 41, 42, 43, 44, 45, 46, 47, 48, 49, 50, 51, 52, 53, 54, 13, 14, 266, 267, 268, 55, 56, 57, 18, 489, 490, 491, 492] (by decide +kernel) (by decide +kernel)) (goodIn_sub (fun _ h => List.mem_append_left _ (List.mem_append_left _ (List.mem_append_right _ h))) (by decide +kernel))) (goodIn_sub (fun _ h => List.mem_append_left _ (List.mem_append_right _ h)) (by decide +kernel))
set_option maxRecDepth 20000 in
theorem gL_law_L_segment : GoodIn wsL_law (va_wsS RL 141 yL_segment wsL_segment) := goodIn_app (goodIn_of _ (by decide +kernel)) ggL_law_L_segment
set_option maxRecDepth 20000 in
theorem ggL_law_X1_segment : GoodIn wsL_law wsX1_segment := goodIn_r _ [272, 75, 76, 5, 77, 69, 70, 71, 72, 73, 74, 78, 79, 80, 81, 82, 273, 274, 275, 276, 83, 84, 85, 86, 25, 125, 126, 127, 277, 278, 279, 280, 128, 129, 130, 131, 132, 133, 134, 493, 494, 495, 496, 497] (by decide +kernel) (by decide +kernel)
set_option maxRecDepth 20000 in
theorem gL_law_X1_segment : GoodIn wsL_law (wsV RL 143 RX1 yX1_segment wsX1_segment) := goodIn_app (goodIn_of _ (by decide +kernel)) ggL_law_X1_segment
set_option maxRecDepth 20000 in
theorem ggL_law_L_classOf : GoodIn wsL_law wsL_classOf := goodIn_ca (goodIn_r _ [283, 33, 284, 285, 286, 2, 287, 46, 47, 48, 49, 50, 288, 289, 290, 291, 292, 293, 294, 295, 296, 297, 107, 108, 109, 110, 111, 112, 113, 298, 299, 300] (by decide +kernel) (by decide +kernel)) (goodIn_sub (fun _ h => List.mem_append_left _ (List.mem_append_right _ h)) (by decide +kernel))
set_option maxRecDepth 20000 in
theorem gL_law_L_classOf : GoodIn wsL_law (va_wsS RL 144 yL_classOf wsL_classOf) := goodIn_app (goodIn_of _ (by decide +kernel)) ggL_law_L_classOf
set_option maxRecDepth 20000 in
theorem ggL_law_X1_classOf : GoodIn wsL_law wsX1_classOf := goodIn_r _ [304, 75, 76, 5, 77, 78, 79, 80, 81, 82, 305, 306, 307, 308, 309, 310, 132, 133, 134, 493, 494, 495, 496, 497] (by decide +kernel) (by decide +kernel)
set_option maxRecDepth 20000 in
theorem gL_law_X1_classOf : GoodIn wsL_law (wsV RL 146 RX1 yX1_classOf wsX1_classOf) := goodIn_app (goodIn_of _ (by decide +kernel)) ggL_law_X1_classOf
set_option maxRecDepth 20000 in
theorem ggL_law_L_pairs : GoodIn wsL_law wsL_pairs := goodIn_ca (goodIn_r _ [313, 33, 314, 315, 316, 2, 317, 46, 47, 48, 49, 50, 298, 299, 300, 200, 201, 202, 203, 204, 205, 206] (by decide +kernel) (by decide +kernel)) (goodIn_sub (fun _ h => List.mem_append_left _ (List.mem_append_right _ h)) (by decide +kernel))
set_option maxRecDepth 20000 in
theorem gL_law_L_pairs : GoodIn wsL_law (va_wsS RL 147 yL_pairs wsL_pairs) := goodIn_app (goodIn_of _ (by decide +kernel)) ggL_law_L_pairs
set_option maxRecDepth 20000 in
theorem ggL_law_X1_pairs : GoodIn wsL_law wsX1_pairs := goodIn_r _ [321, 75, 76, 5, 77, 78, 79, 80, 81, 82, 493, 494, 495, 496, 497] (by decide +kernel) (by decide +kernel)
set_option maxRecDepth 20000 in
theorem gL_law_X1_pairs : GoodIn wsL_law (wsV RL 149 RX1 yX1_pairs wsX1_pairs) := goodIn_app (goodIn_of _ (by decide +kernel)) ggL_law_X1_pairs
set_option maxRecDepth 20000 in
theorem ggL_law_L_combining : GoodIn wsL_law wsL_combining := goodIn_ca (goodIn_r _ [324, 32, 325, 326, 327, 2, 328, 38, 39, 40, 41, 42, 51, 52, 53, 54, 13, 14, 266, 267, 268, 55, 56, 57, 18, 104, 105, 106, 107, 108, 109, 110, 111, 112, 113, 15, 16, 17, 19, 489, 490, 491, 492] (by decide +kernel) (by decide +kernel)) (goodIn_sub (fun _ h => List.mem_append_left _ (List.mem_append_left _ (List.mem_append_right _ h))) (by decide +kernel))
set_option maxRecDepth 20000 in
theorem gL_law_L_combining : GoodIn wsL_law (va_wsS RL 150 yL_combining wsL_combining) := goodIn_app (goodIn_of _ (by decide +kernel)) ggL_law_L_combining
set_option maxRecDepth 20000 in
theorem ggL_law_X1_combining : GoodIn wsL_law wsX1_combining := goodIn_r _ [332, 69, 70, 5, 71, 78, 79, 80, 81, 82, 273, 274, 275, 276, 83, 84, 85, 86, 25, 125, 126, 127, 277, 278, 279, 280, 128, 129, 130, 131, 132, 133, 134, 493, 494, 495, 496, 497] (by decide +kernel) (by decide +kernel)
set_option maxRecDepth 20000 in
theorem gL_law_X1_combining : GoodIn wsL_law (wsV RL 152 RX1 yX1_combining wsX1_combining) := goodIn_app (goodIn_of _ (by decide +kernel)) ggL_law_X1_combining
set_option maxRecDepth 20000 in
theorem ggL_law_L_isDerived : GoodIn wsL_law wsL_isDerived := goodIn_ca (goodIn_ca (goodIn_r _ [335, 32, 33, 336, 337, 338, 2, 339, 38, 39, 40, 41, 42, 340, 341, 342, 49, 50, 51, 52, 53, 54, 13, 14, 266, 267, 268, 55, 56, 57, 18, 288, 289, 290, 291, 292, 293, 294, 295, 296, 297, 107, 108, 109, 110, 111, 112, 113, 298, 299, 300, 489, 490, 491, 492] (by decide +kernel) (by decide +kernel)) (goodIn_sub (fun _ h => List.mem_append_left _ (List.mem_append_left _ (List.mem_append_right _ h))) (by decide +kernel))) (goodIn_sub (fun _ h => List.mem_append_left _ (List.mem_append_right _ h)) (by decide +kernel))
set_option maxRecDepth 20000 in
theorem gL_law_L_isDerived : GoodIn wsL_law (va_wsS RL 153 yL_isDerived wsL_isDerived) := goodIn_app (goodIn_of _ (by decide +kernel)) ggL_law_L_isDerived
set_option maxRecDepth 20000 in
theorem ggL_law_X1_isDerived : GoodIn wsL_law wsX1_isDerived := goodIn_r _ [346, 75, 76, 5, 77, 69, 70, 71, 78, 79, 80, 81, 82, 273, 274, 275, 276, 83, 84, 85, 86, 25, 125, 126, 127, 277, 278, 279, 280, 128, 129, 130, 131, 132, 133, 134, 305, 306, 307, 308, 309, 310, 493, 494, 495, 496, 497] (by decide +kernel) (by decide +kernel)
set_option maxRecDepth 20000 in
theorem gL_law_X1_isDerived : GoodIn wsL_law (wsV RL 155 RX1 yX1_isDerived wsX1_isDerived) := goodIn_app (goodIn_of _ (by decide +kernel)) ggL_law_X1_isDerived
set_option maxRecDepth 20000 in
theorem ggL_law_L_keptSets : GoodIn wsL_law wsL_keptSets := goodIn_ca (goodIn_ca (goodIn_r _ [349, 32, 33, 350, 351, 352, 2, 353, 38, 39, 40, 41, 42, 98, 99, 100, 46, 47, 48, 49, 50, 51, 52, 53, 54, 13, 14, 101, 102, 103, 104, 105, 106, 55, 56, 57, 18, 107, 108, 109, 110, 111, 112, 113, 15, 16, 17, 19, 354, 355, 356, 357, 358, 359, 58, 59, 60, 360, 361, 362, 291, 292, 293, 294, 363, 364, 365, 489, 490, 491, 492] (by decide +kernel) (by decide +kernel)) (goodIn_sub (fun _ h => List.mem_append_left _ (List.mem_append_left _ (List.mem_append_right _ h))) (by decide +kernel))) (goodIn_sub (fun _ h => List.mem_append_left _ (List.mem_append_right _ h)) (by decide +kernel))
set_option maxRecDepth 20000 in
theorem gL_law_L_keptSets : GoodIn wsL_law (va_wsS RL 156 yL_keptSets wsL_keptSets) := goodIn_app (goodIn_of _ (by decide +kernel)) ggL_law_L_keptSets
set_option maxRecDepth 20000 in
theorem ggL_law_X1_keptSets : GoodIn wsL_law wsX1_keptSets := goodIn_r _ [369, 122, 123, 5, 124, 75, 76, 77, 72, 73, 74, 69, 70, 71, 78, 79, 80, 81, 82, 125, 126, 127, 370, 371, 372, 373, 277, 278, 279, 280, 128, 129, 130, 131, 83, 84, 85, 86, 25, 132, 133, 134, 273, 274, 275, 276, 493, 494, 495, 496, 497] (by decide +kernel) (by decide +kernel)
set_option maxRecDepth 20000 in
theorem gL_law_X1_keptSets : GoodIn wsL_law (wsV RL 158 RX1 yX1_keptSets wsX1_keptSets) := goodIn_app (goodIn_of _ (by decide +kernel)) ggL_law_X1_keptSets
set_option maxRecDepth 20000 in
theorem ggL_law_L_longestKept : GoodIn wsL_law wsL_longestKept := goodIn_ca (goodIn_ca (goodIn_r _ [376, 32, 33, 377, 378, 379, 2, 380, 363, 364, 293, 365, 38, 39, 40, 41, 42, 98, 99, 100, 46, 47, 48, 49, 50, 51, 52, 53, 54, 13, 14, 101, 102, 103, 104, 105, 106, 55, 56, 57, 18, 107, 108, 109, 110, 111, 112, 113, 15, 16, 17, 19, 357, 358, 359, 58, 59, 60, 489, 490, 491, 492] (by decide +kernel) (by decide +kernel)) (goodIn_sub (fun _ h => List.mem_append_left _ (List.mem_append_left _ (List.mem_append_right _ h))) (by decide +kernel))) (goodIn_sub (fun _ h => List.mem_append_left _ (List.mem_append_right _ h)) (by decide +kernel))
set_option maxRecDepth 20000 in
theorem gL_law_L_longestKept : GoodIn wsL_law (va_wsS RL 159 yL_longestKept wsL_longestKept) := goodIn_app (goodIn_of _ (by decide +kernel)) ggL_law_L_longestKept
set_option maxRecDepth 20000 in
theorem ggL_law_X1_longestKept : GoodIn wsL_law wsX1_longestKept := goodIn_r _ [384, 69, 70, 5, 71, 122, 123, 124, 75, 76, 77, 72, 73, 74, 78, 79, 80, 81, 82, 125, 126, 127, 385, 386, 387, 388, 83, 84, 85, 86, 25, 128, 129, 130, 131, 132, 133, 134, 493, 494, 495, 496, 497] (by decide +kernel) (by decide +kernel)
set_option maxRecDepth 20000 in
theorem gL_law_X1_longestKept : GoodIn wsL_law (wsV RL 161 RX1 yX1_longestKept wsX1_longestKept) := goodIn_app (goodIn_of _ (by decide +kernel)) ggL_law_X1_longestKept
set_option maxRecDepth 20000 in
theorem ggL_law_L_mostKept : GoodIn wsL_law wsL_mostKept := goodIn_ca (goodIn_ca (goodIn_r _ [391, 32, 33, 392, 393, 394, 2, 395, 38, 39, 40, 41, 42, 46, 47, 48, 49, 50, 51, 52, 53, 54, 13, 14, 55, 56, 57, 18, 101, 102, 103, 104, 105, 106, 107, 108, 109, 110, 111, 112, 113, 15, 16, 17, 19, 354, 355, 356, 357, 358, 359, 58, 59, 60, 360, 361, 362, 291, 292, 293, 294, 363, 364, 365, 489, 490, 491, 492] (by decide +kernel) (by decide +kernel)) (goodIn_sub (fun _ h => List.mem_append_left _ (List.mem_append_left _ (List.mem_append_right _ h))) (by decide +kernel))) (goodIn_sub (fun _ h => List.mem_append_left _ (List.mem_append_right _ h)) (by decide +kernel))
set_option maxRecDepth 20000 in
theorem gL_law_L_mostKept : GoodIn wsL_law (va_wsS RL 162 yL_mostKept wsL_mostKept) := goodIn_app (goodIn_of _ (by decide +kernel)) ggL_law_L_mostKept
set_option maxRecDepth 20000 in
theorem ggL_law_X1_mostKept : GoodIn wsL_law wsX1_mostKept := goodIn_r _ [399, 69, 70, 5, 71, 75, 76, 77, 78, 79, 80, 81, 82, 273, 274, 275, 276, 83, 84, 85, 86, 25, 125, 126, 127, 370, 371, 372, 373, 277, 278, 279, 280, 128, 129, 130, 131, 132, 133, 134, 493, 494, 495, 496, 497] (by decide +kernel) (by decide +kernel)
set_option maxRecDepth 20000 in
theorem gL_law_X1_mostKept : GoodIn wsL_law (wsV RL 164 RX1 yX1_mostKept wsX1_mostKept) := goodIn_app (goodIn_of _ (by decide +kernel)) ggL_law_X1_mostKept
set_option maxRecDepth 20000 in
theorem ggL_law_L_cuts : GoodIn wsL_law wsL_cuts := goodIn_ca (goodIn_r _ [402, 33, 403, 404, 405, 2, 406, 13, 14, 46, 47, 48, 49, 50, 104, 105, 106, 55, 56, 57, 18, 107, 108, 109, 110, 111, 112, 113, 15, 16, 17, 19, 266, 267, 268, 489, 490, 491, 492] (by decide +kernel) (by decide +kernel)) (goodIn_sub (fun _ h => List.mem_append_left _ (List.mem_append_right _ h)) (by decide +kernel))
set_option maxRecDepth 20000 in
theorem gL_law_L_cuts : GoodIn wsL_law (va_wsS RL 165 yL_cuts wsL_cuts) := goodIn_app (goodIn_of _ (by decide +kernel)) ggL_law_L_cuts
set_option maxRecDepth 20000 in
theorem ggL_law_X1_cuts : GoodIn wsL_law wsX1_cuts := goodIn_r _ [410, 411, 412, 5, 413, 75, 76, 77, 78, 79, 80, 81, 82, 277, 278, 279, 280, 128, 129, 130, 131, 83, 84, 85, 86, 25, 132, 133, 134, 493, 494, 495, 496, 497] (by decide +kernel) (by decide +kernel)
set_option maxRecDepth 20000 in
theorem gL_law_X1_cuts : GoodIn wsL_law (wsV RL 167 RX1 yX1_cuts wsX1_cuts) := goodIn_app (goodIn_of _ (by decide +kernel)) ggL_law_X1_cuts
set_option maxRecDepth 20000 in
theorem ggL_law_L_write : GoodIn wsL_law wsL_write := goodIn_ca (goodIn_ca (goodIn_r _ [416, 33, 417, 418, 419, 420, 2, 421, 422, 423, 424, 425, 46, 47, 48, 49, 50, 426, 427, 428, 429, 266, 267, 268, 55, 56, 57, 18, 15, 16, 17, 19, 489, 490, 491, 492] (by decide +kernel) (by decide +kernel)) (goodIn_sub (fun _ h => List.mem_append_right _ h) (by decide +kernel))) (goodIn_sub (fun _ h => List.mem_append_left _ (List.mem_append_right _ h)) (by decide +kernel))
set_option maxRecDepth 20000 in
theorem gL_law_L_write : GoodIn wsL_law (va_wsS RL 168 yL_write wsL_write) := goodIn_app (goodIn_of _ (by decide +kernel)) ggL_law_L_write
set_option maxRecDepth 20000 in
theorem ggL_law_X1_write : GoodIn wsL_law wsX1_write := goodIn_r _ [433, 27, 434, 72, 73, 5, 74, 75, 76, 77, 435, 436, 437, 438, 78, 79, 80, 81, 82, 493, 494, 495, 496, 497] (by decide +kernel) (by decide +kernel)
set_option maxRecDepth 20000 in
theorem gL_law_X1_write : GoodIn wsL_law (wsV RL 170 RX1 yX1_write wsX1_write) := goodIn_app (goodIn_of _ (by decide +kernel)) ggL_law_X1_write
set_option maxRecDepth 20000 in
theorem ggL_law_X0_erase : GoodIn wsL_law wsX0_erase := goodIn_r _ [442, 425, 424, 489, 490, 491, 492] (by decide +kernel) (by decide +kernel)
set_option maxRecDepth 20000 in
theorem gL_law_X0_erase : GoodIn wsL_law (wsV RL 171 RX0 yX0_erase wsX0_erase) := goodIn_app (goodIn_of _ (by decide +kernel)) ggL_law_X0_erase
set_option maxRecDepth 20000 in
theorem ggL_law_X1_erase : GoodIn wsL_law wsX1_erase := goodIn_r _ [446, 82, 434, 493, 494, 495, 496, 497] (by decide +kernel) (by decide +kernel)
set_option maxRecDepth 20000 in
theorem gL_law_X1_erase : GoodIn wsL_law (wsV RL 174 RX1 yX1_erase wsX1_erase) := goodIn_app (goodIn_of _ (by decide +kernel)) ggL_law_X1_erase
set_option maxRecDepth 20000 in
theorem ggL_law_L_formsWithPhrase : GoodIn wsL_law wsL_formsWithPhrase := goodIn_ca (goodIn_r _ [449, 32, 450, 451, 452, 2, 453, 425, 454, 38, 39, 40, 41, 42, 51, 52, 53, 54, 13, 14, 104, 105, 106, 55, 56, 57, 18, 107, 108, 109, 110, 111, 112, 113, 15, 16, 17, 19, 455, 456, 457, 458, 424, 58, 59, 60, 489, 490, 491, 492] (by decide +kernel) (by decide +kernel)) (goodIn_sub (fun _ h => List.mem_append_left _ (List.mem_append_left _ (List.mem_append_right _ h))) (by decide +kernel))
set_option maxRecDepth 20000 in
theorem gL_law_L_formsWithPhrase : GoodIn wsL_law (va_wsS RL 175 yL_formsWithPhrase wsL_formsWithPhrase) := goodIn_app (goodIn_of _ (by decide +kernel)) ggL_law_L_formsWithPhrase
set_option maxRecDepth 20000 in
theorem ggL_law_X1_formsWithPhrase : GoodIn wsL_law wsX1_formsWithPhrase := goodIn_r _ [462, 69, 70, 5, 71, 78, 79, 80, 81, 82, 463, 464, 465, 466, 434, 27, 128, 129, 130, 131, 83, 84, 85, 86, 25, 132, 133, 134, 493, 494, 495, 496, 497] (by decide +kernel) (by decide +kernel)
set_option maxRecDepth 20000 in
theorem gL_law_X1_formsWithPhrase : GoodIn wsL_law (wsV RL 177 RX1 yX1_formsWithPhrase wsX1_formsWithPhrase) := goodIn_app (goodIn_of _ (by decide +kernel)) ggL_law_X1_formsWithPhrase
set_option maxRecDepth 20000 in
theorem ggL_law_L_placeOfPhrase : GoodIn wsL_law wsL_placeOfPhrase := goodIn_ca (goodIn_ca (goodIn_r _ [469, 32, 33, 470, 471, 472, 2, 473, 425, 38, 39, 40, 41, 42, 46, 47, 48, 49, 50, 51, 52, 53, 54, 13, 14, 104, 105, 106, 55, 56, 57, 18, 107, 108, 109, 110, 111, 112, 113, 15, 16, 17, 19, 455, 456, 457, 458, 424, 58, 59, 60, 489, 490, 491, 492] (by decide +kernel) (by decide +kernel)) (goodIn_sub (fun _ h => List.mem_append_left _ (List.mem_append_left _ (List.mem_append_right _ h))) (by decide +kernel))) (goodIn_sub (fun _ h => List.mem_append_left _ (List.mem_append_right _ h)) (by decide +kernel))
set_option maxRecDepth 20000 in
theorem gL_law_L_placeOfPhrase : GoodIn wsL_law (va_wsS RL 178 yL_placeOfPhrase wsL_placeOfPhrase) := goodIn_app (goodIn_of _ (by decide +kernel)) ggL_law_L_placeOfPhrase
set_option maxRecDepth 20000 in
theorem ggL_law_X1_placeOfPhrase : GoodIn wsL_law wsX1_placeOfPhrase := goodIn_r _ [477, 434, 69, 70, 5, 71, 411, 412, 413, 75, 76, 77, 78, 79, 80, 81, 82, 463, 464, 465, 466, 27, 128, 129, 130, 131, 83, 84, 85, 86, 25, 132, 133, 134, 493, 494, 495, 496, 497] (by decide +kernel) (by decide +kernel)
set_option maxRecDepth 20000 in
theorem gL_law_X1_placeOfPhrase : GoodIn wsL_law (wsV RL 180 RX1 yX1_placeOfPhrase wsX1_placeOfPhrase) := goodIn_app (goodIn_of _ (by decide +kernel)) ggL_law_X1_placeOfPhrase
set_option maxRecDepth 20000 in
theorem ggL_law_L_complete : GoodIn wsL_law wsL_complete := goodIn_ca (goodIn_r _ [480, 32, 481, 482, 483, 2, 484, 424, 425, 38, 39, 40, 41, 42, 51, 52, 53, 54, 13, 14, 55, 56, 57, 18, 426, 427, 428, 429, 266, 267, 268, 15, 16, 17, 19, 114, 115, 116, 117, 61, 62, 63, 64, 489, 490, 491, 492] (by decide +kernel) (by decide +kernel)) (goodIn_sub (fun _ h => List.mem_append_left _ (List.mem_append_left _ (List.mem_append_right _ h))) (by decide +kernel))
set_option maxRecDepth 20000 in
theorem gL_law_L_complete : GoodIn wsL_law (va_wsS RL 181 yL_complete wsL_complete) := goodIn_app (goodIn_of _ (by decide +kernel)) ggL_law_L_complete
set_option maxRecDepth 20000 in
theorem ggL_law_X1_complete : GoodIn wsL_law wsX1_complete := goodIn_r _ [488, 434, 26, 27, 69, 70, 5, 71, 78, 79, 80, 81, 82, 83, 84, 85, 86, 25, 435, 436, 437, 438, 135, 136, 137, 138, 493, 494, 495, 496, 497] (by decide +kernel) (by decide +kernel)
set_option maxRecDepth 20000 in
theorem gL_law_X1_complete : GoodIn wsL_law (wsV RL 183 RX1 yX1_complete wsX1_complete) := goodIn_app (goodIn_of _ (by decide +kernel)) ggL_law_X1_complete
