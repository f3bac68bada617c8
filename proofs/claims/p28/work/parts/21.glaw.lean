set_option maxRecDepth 20000 in
theorem ggL_law_X0_init : GoodIn wsL_law wsX0_init := goodIn_r _ [6, 7, 8, 9, 10, 11, 12, 13, 2, 14, 15, 16, 257, 258, 259, 260] (by decide +kernel) (by decide +kernel)
set_option maxRecDepth 20000 in
theorem gL_law_X0_init : GoodIn wsL_law (wsX0_init) := ggL_law_X0_init
set_option maxRecDepth 20000 in
theorem ggL_law_L_cell : GoodIn wsL_law wsL_cell := goodIn_r _ [20] (by decide +kernel) (by decide +kernel)
set_option maxRecDepth 20000 in
theorem gL_law_L_cell : GoodIn wsL_law (va_wsS RL 115 yL_cell wsL_cell) := goodIn_app (goodIn_of _ (by decide +kernel)) ggL_law_L_cell
set_option maxRecDepth 20000 in
theorem ggL_law_L_act : GoodIn wsL_law wsL_act := goodIn_ca (goodIn_ca (goodIn_ca (goodIn_r _ [23, 24, 25, 19, 26, 27, 28, 29, 30, 31, 32, 3, 33, 34, 35, 2, 36, 37, 38, 39, 40, 41, 42, 43, 44, 45, 46, 47, 48, 49, 50, 51, 52, 53, 10, 11, 54, 55, 56, 57, 58, 59, 60, 61, 62, 15, 63, 64, 65, 66, 67, 68, 69, 12, 13, 14, 16, 70, 71, 72, 73, 74, 75, 76, 77, 78, 79, 80, 81, 82, 83, 84, 85, 86, 87, 88, 89, 90, 91, 92, 93, 94, 95, 96, 97, 98, 99, 100, 101, 102, 103, 104, 105, 106, 107, 108, 109, 110, 111, 112, 113, 114, 115, 116, 117, 118, 119, 120, 121, 122, 123, 124, 125, 126, 127, 128, 129, 130, 131, 132, 133, 134, 135, 136, 137, 257, 258, 259, 260] (by decide +kernel) (by decide +kernel)) (goodIn_sub (fun _ h => List.mem_append_left _ (List.mem_append_left _ (List.mem_append_right _ h))) (by decide +kernel))) (goodIn_sub (fun _ h => List.mem_append_left _ (List.mem_append_right _ h)) (by decide +kernel))) (goodIn_sub (fun _ h => List.mem_append_right _ h) (by decide +kernel))
set_option maxRecDepth 20000 in
theorem gL_law_L_act : GoodIn wsL_law (va_wsS RL 119 yL_act wsL_act) := goodIn_app (goodIn_of _ (by decide +kernel)) ggL_law_L_act
set_option maxRecDepth 20000 in
theorem ggL_law_L_areAlike : GoodIn wsL_law wsL_areAlike := goodIn_ca (goodIn_r _ [140, 141, 142, 143, 2, 144, 106, 145, 37, 38, 39, 40, 41, 50, 51, 52, 53, 10, 11, 57, 58, 59, 60, 61, 62, 15, 63, 64, 65, 66, 67, 68, 69, 12, 13, 14, 16, 146, 147, 148, 149, 105, 135, 136, 137, 150, 151, 152, 153, 132, 133, 134, 257, 258, 259, 260] (by decide +kernel) (by decide +kernel)) (goodIn_sub (fun _ h => List.mem_append_left _ (List.mem_append_left _ (List.mem_append_right _ h))) (by decide +kernel))
set_option maxRecDepth 20000 in
theorem gL_law_L_areAlike : GoodIn wsL_law (va_wsS RL 122 yL_areAlike wsL_areAlike) := goodIn_app (goodIn_of _ (by decide +kernel)) ggL_law_L_areAlike
set_option maxRecDepth 20000 in
theorem ggL_law_L_low : GoodIn wsL_law wsL_low := goodIn_r _ [26, 27] (by decide +kernel) (by decide +kernel)
set_option maxRecDepth 20000 in
theorem gL_law_L_low : GoodIn wsL_law (va_wsS RL 39 yL_low wsL_low) := goodIn_app (goodIn_of _ (by decide +kernel)) ggL_law_L_low
set_option maxRecDepth 20000 in
theorem ggL_law_L_isRowSo : GoodIn wsL_law wsL_isRowSo := goodIn_ca (goodIn_ca (goodIn_r _ [156, 150, 151, 152, 2, 153, 37, 38, 39, 40, 41, 132, 133, 134, 50, 51, 52, 53, 10, 11, 60, 61, 62, 15, 157, 158, 159, 160, 42, 43, 44, 45, 46, 47, 48, 49, 54, 55, 56, 57, 58, 59, 63, 64, 65, 66, 67, 68, 69, 12, 13, 14, 16, 161, 162, 163, 164, 165, 166, 167, 168, 169, 170, 171, 172, 173, 174, 175, 111, 112, 113, 176, 177, 178, 179, 180, 181, 182, 183, 184, 185, 186, 187, 188, 189, 190, 191, 192, 193, 194, 195, 196, 197, 198, 199, 200, 201, 202, 203, 257, 258, 259, 260] (by decide +kernel) (by decide +kernel)) (goodIn_sub (fun _ h => List.mem_append_left _ (List.mem_append_left _ (List.mem_append_right _ h))) (by decide +kernel))) (goodIn_sub (fun _ h => List.mem_append_left _ (List.mem_append_right _ h)) (by decide +kernel))
set_option maxRecDepth 20000 in
theorem gL_law_L_isRowSo : GoodIn wsL_law (va_wsS RL 126 yL_isRowSo wsL_isRowSo) := goodIn_app (goodIn_of _ (by decide +kernel)) ggL_law_L_isRowSo
set_option maxRecDepth 20000 in
theorem ggL_law_L_isSetSo : GoodIn wsL_law wsL_isSetSo := goodIn_ca (goodIn_r _ [206, 207, 208, 209, 2, 210, 45, 46, 47, 48, 49, 197, 198, 199, 211, 212, 213, 214, 215, 216, 217, 218, 219, 220, 221, 187, 188, 189, 190, 191, 192, 193, 194, 195, 196, 63, 64, 65, 66, 67, 68, 69] (by decide +kernel) (by decide +kernel)) (goodIn_sub (fun _ h => List.mem_append_left _ (List.mem_append_right _ h)) (by decide +kernel))
set_option maxRecDepth 20000 in
theorem gL_law_L_isSetSo : GoodIn wsL_law (va_wsS RL 130 yL_isSetSo wsL_isSetSo) := goodIn_app (goodIn_of _ (by decide +kernel)) ggL_law_L_isSetSo
set_option maxRecDepth 20000 in
theorem ggL_law_L_areKeptSo : GoodIn wsL_law wsL_areKeptSo := goodIn_ca (goodIn_ca (goodIn_r _ [224, 225, 226, 227, 2, 228, 37, 38, 39, 40, 41, 42, 43, 44, 45, 46, 47, 48, 49, 50, 51, 52, 53, 10, 11, 54, 55, 56, 57, 58, 59, 60, 61, 62, 15, 63, 64, 65, 66, 67, 68, 69, 12, 13, 14, 16, 229, 230, 231, 232, 233, 234, 135, 136, 137, 235, 236, 237, 190, 191, 192, 193, 238, 239, 240, 241, 242, 243, 244, 245, 246, 247, 248, 150, 151, 152, 153, 132, 133, 134, 249, 250, 251, 252, 111, 112, 113, 141, 142, 143, 144, 106, 145, 146, 147, 148, 149, 105, 253, 254, 255, 256, 257, 258, 259, 260] (by decide +kernel) (by decide +kernel)) (goodIn_sub (fun _ h => List.mem_append_left _ (List.mem_append_left _ (List.mem_append_right _ h))) (by decide +kernel))) (goodIn_sub (fun _ h => List.mem_append_left _ (List.mem_append_right _ h)) (by decide +kernel))
set_option maxRecDepth 20000 in
theorem gL_law_L_areKeptSo : GoodIn wsL_law (va_wsS RL 134 yL_areKeptSo wsL_areKeptSo) := goodIn_app (goodIn_of _ (by decide +kernel)) ggL_law_L_areKeptSo
