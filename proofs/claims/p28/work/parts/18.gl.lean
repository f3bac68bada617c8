set_option maxRecDepth 20000 in
theorem ggL_put_X0_put : GoodIn wsL_put wsX0_put := goodIn_ca (goodIn_ca (goodIn_r _ [8, 9, 10, 7, 11, 12, 13, 14, 15, 16, 17, 18, 19, 20, 21, 22, 23, 24, 25, 26, 27, 28, 29, 30, 31, 32, 33, 34, 35, 36, 37, 38, 39, 40, 41, 42, 43, 44, 45, 46] (by decide +kernel) (by decide +kernel)) (goodIn_sub (fun _ h => List.mem_cons_of_mem _ (List.mem_append_left _ (List.mem_append_right _ h))) (by decide +kernel))) (goodIn_sub (fun _ h => List.mem_cons_of_mem _ (List.mem_append_right _ h)) (by decide +kernel))
set_option maxRecDepth 20000 in
theorem gL_put_X0_put : GoodIn wsL_put (wsV RL 8 RX0 yX0_put wsX0_put) := goodIn_app (goodIn_of _ (by decide +kernel)) ggL_put_X0_put
set_option maxRecDepth 20000 in
theorem ggL_take_X0_take : GoodIn wsL_take wsX0_take := goodIn_ca (goodIn_ca (goodIn_r _ [8, 9, 10, 7, 11, 12, 13, 14, 15, 16, 17, 18, 19, 20, 21, 22, 23, 24, 25, 26, 27, 28, 29, 30, 31, 32, 33, 34, 35, 36, 37, 38, 39, 40, 41, 42, 43, 44, 45, 46, 47, 48, 49, 50, 51, 52, 53, 54, 55, 56, 57, 58, 59, 60] (by decide +kernel) (by decide +kernel)) (goodIn_sub (fun _ h => List.mem_cons_of_mem _ (List.mem_append_left _ (List.mem_append_right _ h))) (by decide +kernel))) (goodIn_sub (fun _ h => List.mem_cons_of_mem _ (List.mem_append_right _ h)) (by decide +kernel))
set_option maxRecDepth 20000 in
theorem gL_take_X0_take : GoodIn wsL_take (wsV RL 19 RX0 yX0_take wsX0_take) := goodIn_app (goodIn_of _ (by decide +kernel)) ggL_take_X0_take
set_option maxRecDepth 20000 in
theorem ggL_multiply_X0_multiply : GoodIn wsL_multiply wsX0_multiply := goodIn_ca (goodIn_ca (goodIn_r _ [8, 9, 10, 7, 11, 12, 13, 14, 15, 16, 17, 18, 19, 20, 21, 22, 23, 24, 25, 26, 27, 28, 29, 30, 31, 32, 33, 34, 35, 36, 37, 38, 39, 40, 41, 42, 43, 44, 45, 46, 47, 48, 49, 50, 51] (by decide +kernel) (by decide +kernel)) (goodIn_sub (fun _ h => List.mem_cons_of_mem _ (List.mem_append_left _ (List.mem_append_right _ h))) (by decide +kernel))) (goodIn_sub (fun _ h => List.mem_cons_of_mem _ (List.mem_append_right _ h)) (by decide +kernel))
set_option maxRecDepth 20000 in
theorem gL_multiply_X0_multiply : GoodIn wsL_multiply (wsV RL 23 RX0 yX0_multiply wsX0_multiply) := goodIn_app (goodIn_of _ (by decide +kernel)) ggL_multiply_X0_multiply
set_option maxRecDepth 20000 in
theorem ggL_rotate_X0_rotate : GoodIn wsL_rotate wsX0_rotate := goodIn_ca (goodIn_ca (goodIn_r _ [8, 9, 10, 7, 11, 12, 13, 14, 15, 16, 17, 18, 19, 20, 21, 22, 23, 24, 25, 26, 27, 28, 29, 30, 31, 32, 33, 34, 35, 36, 37, 38, 39, 40, 41, 42, 43, 44, 45, 46, 47, 48, 49, 50, 51] (by decide +kernel) (by decide +kernel)) (goodIn_sub (fun _ h => List.mem_cons_of_mem _ (List.mem_append_left _ (List.mem_append_right _ h))) (by decide +kernel))) (goodIn_sub (fun _ h => List.mem_cons_of_mem _ (List.mem_append_right _ h)) (by decide +kernel))
set_option maxRecDepth 20000 in
theorem gL_rotate_X0_rotate : GoodIn wsL_rotate (wsV RL 27 RX0 yX0_rotate wsX0_rotate) := goodIn_app (goodIn_of _ (by decide +kernel)) ggL_rotate_X0_rotate
set_option maxRecDepth 20000 in
theorem ggL_write_X0_write : GoodIn wsL_write wsX0_write := goodIn_ca (goodIn_ca (goodIn_r _ [8, 9, 10, 11, 12, 13, 14, 7, 15, 16, 17, 18, 19, 20, 21, 22, 23, 24, 25, 26, 27, 28, 29, 30, 31, 32, 33, 34, 35, 36] (by decide +kernel) (by decide +kernel)) (goodIn_sub (fun _ h => List.mem_cons_of_mem _ (List.mem_append_left _ (List.mem_append_right _ h))) (by decide +kernel))) (goodIn_sub (fun _ h => List.mem_cons_of_mem _ (List.mem_append_right _ h)) (by decide +kernel))
set_option maxRecDepth 20000 in
theorem gL_write_X0_write : GoodIn wsL_write (wsV RL 30 RX0 yX0_write wsX0_write) := goodIn_app (goodIn_of _ (by decide +kernel)) ggL_write_X0_write
set_option maxRecDepth 20000 in
theorem ggL_complete_X0_complete : GoodIn wsL_complete wsX0_complete := goodIn_ca (goodIn_r _ [7, 8, 9, 10, 11, 6, 12, 13, 14, 15, 16, 17, 18, 19, 20, 21, 22, 23, 24, 25, 26, 27, 28, 29, 30, 31, 32, 33, 34, 35, 36, 37, 38, 39, 40, 41, 42, 43, 44, 45, 46, 47] (by decide +kernel) (by decide +kernel)) (goodIn_sub (fun _ h => List.mem_cons_of_mem _ (List.mem_append_right _ h)) (by decide +kernel))
set_option maxRecDepth 20000 in
theorem gL_complete_X0_complete : GoodIn wsL_complete (wsV RL 36 RX0 yX0_complete wsX0_complete) := goodIn_app (goodIn_of _ (by decide +kernel)) ggL_complete_X0_complete
set_option maxRecDepth 20000 in
theorem ggL_act_L_low : GoodIn wsL_act wsL_low := goodIn_r _ [4, 5] (by decide +kernel) (by decide +kernel)
set_option maxRecDepth 20000 in
theorem gL_act_L_low : GoodIn wsL_act (va_wsS RL 39 yL_low wsL_low) := goodIn_app (goodIn_of _ (by decide +kernel)) ggL_act_L_low
set_option maxRecDepth 20000 in
theorem ggL_act_L_take : GoodIn wsL_act wsL_take := goodIn_ca (goodIn_ca (goodIn_r _ [8, 9, 10, 11, 12, 13, 14, 15, 16, 17, 18, 19, 20, 21, 22, 23, 24, 25, 26, 27, 28, 29, 30, 31, 32, 33, 34, 35, 36, 37, 38, 39, 40, 41, 42, 43, 44, 45, 46, 47, 48, 49, 50, 51, 52, 53, 54, 55, 56, 57, 58, 59, 60, 61, 62, 63, 64, 125, 126, 127, 128] (by decide +kernel) (by decide +kernel)) (goodIn_sub (fun _ h => List.mem_cons_of_mem _ (List.mem_append_left _ (List.mem_append_left _ (List.mem_append_right _ h)))) (by decide +kernel))) (goodIn_sub (fun _ h => List.mem_cons_of_mem _ (List.mem_append_left _ (List.mem_append_right _ h))) (by decide +kernel))
set_option maxRecDepth 20000 in
theorem gL_act_L_take : GoodIn wsL_act (va_wsS RL 44 yL_take wsL_take) := goodIn_app (goodIn_of _ (by decide +kernel)) ggL_act_L_take
set_option maxRecDepth 20000 in
theorem ggL_act_L_multiply : GoodIn wsL_act wsL_multiply := goodIn_ca (goodIn_ca (goodIn_r _ [67, 9, 10, 11, 68, 69, 70, 15, 71, 17, 18, 19, 20, 21, 72, 73, 74, 28, 29, 30, 31, 32, 33, 34, 35, 42, 43, 44, 45, 46, 47, 48, 49, 50, 51, 52, 53, 54, 55, 56, 57, 58, 59, 60, 61, 62, 63, 64, 125, 126, 127, 128] (by decide +kernel) (by decide +kernel)) (goodIn_sub (fun _ h => List.mem_cons_of_mem _ (List.mem_append_left _ (List.mem_append_left _ (List.mem_append_right _ h)))) (by decide +kernel))) (goodIn_sub (fun _ h => List.mem_cons_of_mem _ (List.mem_append_left _ (List.mem_append_right _ h))) (by decide +kernel))
set_option maxRecDepth 20000 in
theorem gL_act_L_multiply : GoodIn wsL_act (va_wsS RL 47 yL_multiply wsL_multiply) := goodIn_app (goodIn_of _ (by decide +kernel)) ggL_act_L_multiply
set_option maxRecDepth 20000 in
theorem ggL_act_L_rotate : GoodIn wsL_act wsL_rotate := goodIn_ca (goodIn_ca (goodIn_r _ [77, 9, 10, 11, 78, 79, 80, 15, 81, 17, 18, 19, 20, 21, 25, 26, 27, 28, 29, 30, 31, 32, 33, 34, 35, 46, 47, 48, 49, 50, 51, 52, 42, 43, 44, 45, 53, 54, 55, 56, 57, 58, 59, 60, 61, 62, 63, 64, 125, 126, 127, 128] (by decide +kernel) (by decide +kernel)) (goodIn_sub (fun _ h => List.mem_cons_of_mem _ (List.mem_append_left _ (List.mem_append_left _ (List.mem_append_right _ h)))) (by decide +kernel))) (goodIn_sub (fun _ h => List.mem_cons_of_mem _ (List.mem_append_left _ (List.mem_append_right _ h))) (by decide +kernel))
set_option maxRecDepth 20000 in
theorem gL_act_L_rotate : GoodIn wsL_act (va_wsS RL 50 yL_rotate wsL_rotate) := goodIn_app (goodIn_of _ (by decide +kernel)) ggL_act_L_rotate
set_option maxRecDepth 20000 in
theorem ggL_act_L_write : GoodIn wsL_act wsL_write := goodIn_ca (goodIn_ca (goodIn_r _ [84, 10, 85, 11, 86, 87, 88, 15, 89, 90, 91, 92, 93, 25, 26, 27, 28, 29, 94, 95, 96, 97, 98, 99, 100, 42, 43, 44, 45, 53, 54, 55, 56, 125, 126, 127, 128] (by decide +kernel) (by decide +kernel)) (goodIn_sub (fun _ h => List.mem_cons_of_mem _ (List.mem_append_right _ h)) (by decide +kernel))) (goodIn_sub (fun _ h => List.mem_cons_of_mem _ (List.mem_append_left _ (List.mem_append_right _ h))) (by decide +kernel))
set_option maxRecDepth 20000 in
theorem gL_act_L_write : GoodIn wsL_act (va_wsS RL 52 yL_write wsL_write) := goodIn_app (goodIn_of _ (by decide +kernel)) ggL_act_L_write
set_option maxRecDepth 20000 in
theorem ggL_act_L_complete : GoodIn wsL_act wsL_complete := goodIn_ca (goodIn_r _ [103, 9, 11, 104, 105, 106, 15, 107, 92, 93, 17, 18, 19, 20, 21, 30, 31, 32, 33, 34, 35, 42, 43, 44, 45, 94, 95, 96, 97, 98, 99, 100, 53, 54, 55, 56, 57, 58, 59, 60, 61, 62, 63, 64, 125, 126, 127, 128] (by decide +kernel) (by decide +kernel)) (goodIn_sub (fun _ h => List.mem_cons_of_mem _ (List.mem_append_left _ (List.mem_append_left _ (List.mem_append_right _ h)))) (by decide +kernel))
set_option maxRecDepth 20000 in
theorem gL_act_L_complete : GoodIn wsL_act (va_wsS RL 55 yL_complete wsL_complete) := goodIn_app (goodIn_of _ (by decide +kernel)) ggL_act_L_complete
set_option maxRecDepth 20000 in
theorem ggL_act_X0_erase : GoodIn wsL_act wsX0_erase := goodIn_r _ [111, 93, 92, 125, 126, 127, 128] (by decide +kernel) (by decide +kernel)
set_option maxRecDepth 20000 in
theorem gL_act_X0_erase : GoodIn wsL_act (wsV RL 57 RX0 yX0_erase wsX0_erase) := goodIn_app (goodIn_of _ (by decide +kernel)) ggL_act_X0_erase
set_option maxRecDepth 20000 in
theorem ggL_act_L_put : GoodIn wsL_act wsL_put := goodIn_ca (goodIn_ca (goodIn_r _ [114, 9, 10, 11, 115, 116, 117, 15, 118, 17, 18, 19, 20, 21, 119, 120, 121, 25, 26, 27, 28, 29, 30, 31, 32, 33, 34, 35, 42, 43, 44, 45, 122, 123, 124, 53, 54, 55, 56, 61, 62, 63, 64, 125, 126, 127, 128] (by decide +kernel) (by decide +kernel)) (goodIn_sub (fun _ h => List.mem_cons_of_mem _ (List.mem_append_left _ (List.mem_append_left _ (List.mem_append_right _ h)))) (by decide +kernel))) (goodIn_sub (fun _ h => List.mem_cons_of_mem _ (List.mem_append_left _ (List.mem_append_right _ h))) (by decide +kernel))
set_option maxRecDepth 20000 in
theorem gL_act_L_put : GoodIn wsL_act (va_wsS RL 61 yL_put wsL_put) := goodIn_app (goodIn_of _ (by decide +kernel)) ggL_act_L_put
set_option maxRecDepth 20000 in
theorem ggL_areAlike_X0_formsWithPhrase : GoodIn wsL_areAlike wsX0_formsWithPhrase := goodIn_ca (goodIn_r _ [5, 6, 7, 8, 9, 4, 10, 11, 12, 13, 14, 15, 16, 17, 18, 19, 20, 21, 22, 23, 24, 25, 26, 27, 28, 29, 30, 31, 32, 33, 34, 35, 36, 37, 38, 39, 40, 41, 42, 43, 44, 52, 53, 54, 55] (by decide +kernel) (by decide +kernel)) (goodIn_sub (fun _ h => List.mem_cons_of_mem _ (List.mem_append_right _ h)) (by decide +kernel))
set_option maxRecDepth 20000 in
theorem gL_areAlike_X0_formsWithPhrase : GoodIn wsL_areAlike (wsV RL 64 RX0 yX0_formsWithPhrase wsX0_formsWithPhrase) := goodIn_app (goodIn_of _ (by decide +kernel)) ggL_areAlike_X0_formsWithPhrase
set_option maxRecDepth 20000 in
theorem ggL_areAlike_X0_tone : GoodIn wsL_areAlike wsX0_tone := goodIn_ca (goodIn_r _ [48, 8, 9, 4, 10, 11, 12, 49, 50, 51, 13, 14, 15, 16, 17, 18, 22, 23, 24, 25, 52, 53, 54, 55] (by decide +kernel) (by decide +kernel)) (goodIn_sub (fun _ h => List.mem_cons_of_mem _ (List.mem_append_right _ h)) (by decide +kernel))
set_option maxRecDepth 20000 in
theorem gL_areAlike_X0_tone : GoodIn wsL_areAlike (wsV RL 68 RX0 yX0_tone wsX0_tone) := goodIn_app (goodIn_of _ (by decide +kernel)) ggL_areAlike_X0_tone
set_option maxRecDepth 20000 in
theorem ggL_isRowSo_X0_tone : GoodIn wsL_isRowSo wsX0_tone := goodIn_ca (goodIn_r _ [5, 6, 7, 4, 8, 9, 10, 11, 12, 13, 14, 15, 16, 17, 18, 19, 20, 21, 22, 23, 99, 100, 101, 102] (by decide +kernel) (by decide +kernel)) (goodIn_sub (fun _ h => List.mem_cons_of_mem _ (List.mem_append_left _ (List.mem_append_right _ h))) (by decide +kernel))
set_option maxRecDepth 20000 in
theorem gL_isRowSo_X0_tone : GoodIn wsL_isRowSo (wsV RL 68 RX0 yX0_tone wsX0_tone) := goodIn_app (goodIn_of _ (by decide +kernel)) ggL_isRowSo_X0_tone
set_option maxRecDepth 20000 in
theorem ggL_isRowSo_X0_toneOf : GoodIn wsL_isRowSo wsX0_toneOf := goodIn_ca (goodIn_ca (goodIn_r _ [27, 6, 7, 4, 8, 9, 10, 11, 12, 13, 28, 29, 30, 31, 32, 33, 34, 35, 14, 15, 16, 17, 18, 19, 36, 37, 38, 39, 40, 41, 20, 21, 22, 23, 42, 43, 44, 45, 46, 47, 48, 49, 50, 51, 52, 99, 100, 101, 102] (by decide +kernel) (by decide +kernel)) (goodIn_sub (fun _ h => List.mem_cons_of_mem _ (List.mem_append_left _ (List.mem_append_right _ h))) (by decide +kernel))) (goodIn_sub (fun _ h => List.mem_cons_of_mem _ (List.mem_append_right _ h)) (by decide +kernel))
set_option maxRecDepth 20000 in
theorem gL_isRowSo_X0_toneOf : GoodIn wsL_isRowSo (wsV RL 71 RX0 yX0_toneOf wsX0_toneOf) := goodIn_app (goodIn_of _ (by decide +kernel)) ggL_isRowSo_X0_toneOf
set_option maxRecDepth 20000 in
theorem ggL_isRowSo_X0_matrix : GoodIn wsL_isRowSo wsX0_matrix := goodIn_ca (goodIn_r _ [56, 6, 7, 4, 8, 9, 10, 11, 12, 13, 14, 15, 16, 17, 18, 19, 20, 21, 22, 23, 42, 43, 44, 45, 46, 47, 48, 99, 100, 101, 102] (by decide +kernel) (by decide +kernel)) (goodIn_sub (fun _ h => List.mem_cons_of_mem _ (List.mem_append_left _ (List.mem_append_right _ h))) (by decide +kernel))
set_option maxRecDepth 20000 in
theorem gL_isRowSo_X0_matrix : GoodIn wsL_isRowSo (wsV RL 74 RX0 yX0_matrix wsX0_matrix) := goodIn_app (goodIn_of _ (by decide +kernel)) ggL_isRowSo_X0_matrix
set_option maxRecDepth 20000 in
theorem ggL_isRowSo_X0_interval : GoodIn wsL_isRowSo wsX0_interval := goodIn_ca (goodIn_r _ [60, 6, 7, 4, 8, 9, 10, 11, 12, 13, 14, 15, 16, 17, 18, 19, 61, 62, 63, 20, 21, 22, 23, 42, 43, 44, 45, 46, 47, 48, 99, 100, 101, 102] (by decide +kernel) (by decide +kernel)) (goodIn_sub (fun _ h => List.mem_cons_of_mem _ (List.mem_append_left _ (List.mem_append_right _ h))) (by decide +kernel))
set_option maxRecDepth 20000 in
theorem gL_isRowSo_X0_interval : GoodIn wsL_isRowSo (wsV RL 77 RX0 yX0_interval wsX0_interval) := goodIn_app (goodIn_of _ (by decide +kernel)) ggL_isRowSo_X0_interval
set_option maxRecDepth 20000 in
theorem ggL_isRowSo_X0_segment : GoodIn wsL_isRowSo wsX0_segment := goodIn_ca (goodIn_ca (goodIn_r _ [67, 6, 7, 4, 8, 9, 10, 11, 12, 13, 31, 32, 33, 34, 35, 14, 15, 16, 17, 18, 19, 68, 69, 70, 20, 21, 22, 23, 99, 100, 101, 102] (by decide +kernel) (by decide +kernel)) (goodIn_sub (fun _ h => List.mem_cons_of_mem _ (List.mem_append_left _ (List.mem_append_right _ h))) (by decide +kernel))) (goodIn_sub (fun _ h => List.mem_cons_of_mem _ (List.mem_append_right _ h)) (by decide +kernel))
set_option maxRecDepth 20000 in
theorem gL_isRowSo_X0_segment : GoodIn wsL_isRowSo (wsV RL 80 RX0 yX0_segment wsX0_segment) := goodIn_app (goodIn_of _ (by decide +kernel)) ggL_isRowSo_X0_segment
set_option maxRecDepth 20000 in
theorem ggL_isRowSo_X0_differentForms : GoodIn wsL_isRowSo wsX0_differentForms := goodIn_ca (goodIn_r _ [74, 6, 7, 4, 8, 9, 10, 14, 15, 16, 17, 18, 19, 36, 37, 38, 39, 40, 41, 20, 21, 22, 23, 42, 43, 44, 45, 46, 47, 48, 49, 50, 51, 52, 99, 100, 101, 102] (by decide +kernel) (by decide +kernel)) (goodIn_sub (fun _ h => List.mem_cons_of_mem _ (List.mem_append_left _ (List.mem_append_right _ h))) (by decide +kernel))
set_option maxRecDepth 20000 in
theorem gL_isRowSo_X0_differentForms : GoodIn wsL_isRowSo (wsV RL 83 RX0 yX0_differentForms wsX0_differentForms) := goodIn_app (goodIn_of _ (by decide +kernel)) ggL_isRowSo_X0_differentForms
set_option maxRecDepth 20000 in
theorem ggL_isRowSo_X0_isDerived : GoodIn wsL_isRowSo wsX0_isDerived := goodIn_ca (goodIn_ca (goodIn_r _ [78, 6, 7, 4, 8, 9, 10, 79, 80, 81, 34, 35, 14, 15, 16, 17, 18, 19, 68, 69, 70, 20, 21, 22, 23, 82, 83, 84, 85, 86, 87, 88, 89, 90, 91, 42, 43, 44, 45, 46, 47, 48, 92, 93, 94, 99, 100, 101, 102] (by decide +kernel) (by decide +kernel)) (goodIn_sub (fun _ h => List.mem_cons_of_mem _ (List.mem_append_left _ (List.mem_append_right _ h))) (by decide +kernel))) (goodIn_sub (fun _ h => List.mem_cons_of_mem _ (List.mem_append_right _ h)) (by decide +kernel))
set_option maxRecDepth 20000 in
theorem gL_isRowSo_X0_isDerived : GoodIn wsL_isRowSo (wsV RL 86 RX0 yX0_isDerived wsX0_isDerived) := goodIn_app (goodIn_of _ (by decide +kernel)) ggL_isRowSo_X0_isDerived
set_option maxRecDepth 20000 in
theorem ggL_isRowSo_X0_combining : GoodIn wsL_isRowSo wsX0_combining := goodIn_ca (goodIn_r _ [98, 6, 7, 4, 8, 9, 10, 14, 15, 16, 17, 18, 19, 68, 69, 70, 20, 21, 22, 23, 39, 40, 41, 42, 43, 44, 45, 46, 47, 48, 49, 50, 51, 52, 99, 100, 101, 102] (by decide +kernel) (by decide +kernel)) (goodIn_sub (fun _ h => List.mem_cons_of_mem _ (List.mem_append_left _ (List.mem_append_right _ h))) (by decide +kernel))
set_option maxRecDepth 20000 in
theorem gL_isRowSo_X0_combining : GoodIn wsL_isRowSo (wsV RL 90 RX0 yX0_combining wsX0_combining) := goodIn_app (goodIn_of _ (by decide +kernel)) ggL_isRowSo_X0_combining
set_option maxRecDepth 20000 in
theorem ggL_isSetSo_X0_pairs : GoodIn wsL_isSetSo wsX0_pairs := goodIn_ca (goodIn_r _ [5, 6, 7, 4, 8, 9, 10, 11, 12, 13, 14, 15, 16, 17, 18, 19, 20] (by decide +kernel) (by decide +kernel)) (goodIn_sub (fun _ h => List.mem_cons_of_mem _ (List.mem_append_right _ h)) (by decide +kernel))
set_option maxRecDepth 20000 in
theorem gL_isSetSo_X0_pairs : GoodIn wsL_isSetSo (wsV RL 93 RX0 yX0_pairs wsX0_pairs) := goodIn_app (goodIn_of _ (by decide +kernel)) ggL_isSetSo_X0_pairs
set_option maxRecDepth 20000 in
theorem ggL_isSetSo_X0_classOf : GoodIn wsL_isSetSo wsX0_classOf := goodIn_ca (goodIn_r _ [24, 6, 7, 4, 8, 9, 10, 25, 26, 27, 28, 29, 30, 31, 32, 33, 34, 35, 36, 37, 38, 39, 40, 41, 11, 12, 13] (by decide +kernel) (by decide +kernel)) (goodIn_sub (fun _ h => List.mem_cons_of_mem _ (List.mem_append_right _ h)) (by decide +kernel))
set_option maxRecDepth 20000 in
theorem gL_isSetSo_X0_classOf : GoodIn wsL_isSetSo (wsV RL 96 RX0 yX0_classOf wsX0_classOf) := goodIn_app (goodIn_of _ (by decide +kernel)) ggL_isSetSo_X0_classOf
set_option maxRecDepth 20000 in
theorem ggL_areKeptSo_X0_keptSets : GoodIn wsL_areKeptSo wsX0_keptSets := goodIn_ca (goodIn_ca (goodIn_r _ [5, 6, 7, 4, 8, 9, 10, 11, 12, 13, 14, 15, 16, 17, 18, 19, 20, 21, 22, 23, 24, 25, 26, 27, 28, 29, 30, 31, 32, 33, 34, 35, 36, 37, 38, 39, 40, 41, 42, 43, 44, 45, 46, 47, 48, 49, 50, 51, 52, 53, 54, 55, 56, 57, 58, 59, 60, 61, 62, 63, 64, 102, 103, 104, 105] (by decide +kernel) (by decide +kernel)) (goodIn_sub (fun _ h => List.mem_cons_of_mem _ (List.mem_append_left _ (List.mem_append_right _ h))) (by decide +kernel))) (goodIn_sub (fun _ h => List.mem_cons_of_mem _ (List.mem_append_right _ h)) (by decide +kernel))
set_option maxRecDepth 20000 in
theorem gL_areKeptSo_X0_keptSets : GoodIn wsL_areKeptSo (wsV RL 99 RX0 yX0_keptSets wsX0_keptSets) := goodIn_app (goodIn_of _ (by decide +kernel)) ggL_areKeptSo_X0_keptSets
set_option maxRecDepth 20000 in
theorem ggL_areKeptSo_X0_longestKept : GoodIn wsL_areKeptSo wsX0_longestKept := goodIn_ca (goodIn_ca (goodIn_r _ [68, 62, 63, 60, 64, 6, 7, 4, 8, 9, 10, 11, 12, 13, 14, 15, 16, 17, 18, 19, 20, 21, 22, 23, 24, 25, 26, 27, 28, 29, 30, 31, 32, 33, 34, 35, 36, 37, 38, 39, 40, 41, 42, 43, 44, 45, 49, 50, 51, 52, 53, 54, 102, 103, 104, 105] (by decide +kernel) (by decide +kernel)) (goodIn_sub (fun _ h => List.mem_cons_of_mem _ (List.mem_append_left _ (List.mem_append_right _ h))) (by decide +kernel))) (goodIn_sub (fun _ h => List.mem_cons_of_mem _ (List.mem_append_right _ h)) (by decide +kernel))
set_option maxRecDepth 20000 in
theorem gL_areKeptSo_X0_longestKept : GoodIn wsL_areKeptSo (wsV RL 102 RX0 yX0_longestKept wsX0_longestKept) := goodIn_app (goodIn_of _ (by decide +kernel)) ggL_areKeptSo_X0_longestKept
set_option maxRecDepth 20000 in
theorem ggL_areKeptSo_X0_mostKept : GoodIn wsL_areKeptSo wsX0_mostKept := goodIn_ca (goodIn_ca (goodIn_r _ [72, 6, 7, 4, 8, 9, 10, 14, 15, 16, 17, 18, 19, 20, 21, 22, 23, 24, 31, 32, 33, 34, 25, 26, 27, 28, 29, 30, 35, 36, 37, 38, 39, 40, 41, 42, 43, 44, 45, 46, 47, 48, 49, 50, 51, 52, 53, 54, 55, 56, 57, 58, 59, 60, 61, 62, 63, 64, 102, 103, 104, 105] (by decide +kernel) (by decide +kernel)) (goodIn_sub (fun _ h => List.mem_cons_of_mem _ (List.mem_append_left _ (List.mem_append_right _ h))) (by decide +kernel))) (goodIn_sub (fun _ h => List.mem_cons_of_mem _ (List.mem_append_right _ h)) (by decide +kernel))
set_option maxRecDepth 20000 in
theorem gL_areKeptSo_X0_mostKept : GoodIn wsL_areKeptSo (wsV RL 105 RX0 yX0_mostKept wsX0_mostKept) := goodIn_app (goodIn_of _ (by decide +kernel)) ggL_areKeptSo_X0_mostKept
set_option maxRecDepth 20000 in
theorem ggL_areKeptSo_X0_tone : GoodIn wsL_areKeptSo wsX0_tone := goodIn_ca (goodIn_r _ [76, 6, 7, 4, 8, 9, 10, 77, 78, 79, 19, 20, 21, 22, 23, 24, 31, 32, 33, 34, 102, 103, 104, 105] (by decide +kernel) (by decide +kernel)) (goodIn_sub (fun _ h => List.mem_cons_of_mem _ (List.mem_append_left _ (List.mem_append_right _ h))) (by decide +kernel))
set_option maxRecDepth 20000 in
theorem gL_areKeptSo_X0_tone : GoodIn wsL_areKeptSo (wsV RL 68 RX0 yX0_tone wsX0_tone) := goodIn_app (goodIn_of _ (by decide +kernel)) ggL_areKeptSo_X0_tone
set_option maxRecDepth 20000 in
theorem ggL_areKeptSo_X0_cuts : GoodIn wsL_areKeptSo wsX0_cuts := goodIn_ca (goodIn_r _ [83, 23, 24, 14, 15, 4, 16, 17, 18, 28, 29, 30, 31, 32, 33, 34, 35, 36, 37, 38, 39, 40, 41, 42, 43, 44, 45, 84, 85, 86, 102, 103, 104, 105] (by decide +kernel) (by decide +kernel)) (goodIn_sub (fun _ h => List.mem_cons_of_mem _ (List.mem_append_right _ h)) (by decide +kernel))
set_option maxRecDepth 20000 in
theorem gL_areKeptSo_X0_cuts : GoodIn wsL_areKeptSo (wsV RL 108 RX0 yX0_cuts wsX0_cuts) := goodIn_app (goodIn_of _ (by decide +kernel)) ggL_areKeptSo_X0_cuts
set_option maxRecDepth 20000 in
theorem ggL_areKeptSo_X0_formsWithPhrase : GoodIn wsL_areKeptSo wsX0_formsWithPhrase := goodIn_ca (goodIn_r _ [90, 91, 92, 6, 7, 4, 8, 9, 10, 19, 20, 21, 22, 23, 24, 28, 29, 30, 31, 32, 33, 34, 35, 36, 37, 38, 39, 40, 41, 42, 43, 44, 45, 93, 94, 95, 96, 97, 52, 53, 54, 102, 103, 104, 105] (by decide +kernel) (by decide +kernel)) (goodIn_sub (fun _ h => List.mem_cons_of_mem _ (List.mem_append_left _ (List.mem_append_right _ h))) (by decide +kernel))
set_option maxRecDepth 20000 in
theorem gL_areKeptSo_X0_formsWithPhrase : GoodIn wsL_areKeptSo (wsV RL 64 RX0 yX0_formsWithPhrase wsX0_formsWithPhrase) := goodIn_app (goodIn_of _ (by decide +kernel)) ggL_areKeptSo_X0_formsWithPhrase
set_option maxRecDepth 20000 in
theorem ggL_areKeptSo_X0_placeOfPhrase : GoodIn wsL_areKeptSo wsX0_placeOfPhrase := goodIn_ca (goodIn_ca (goodIn_r _ [101, 91, 6, 7, 4, 8, 9, 10, 14, 15, 16, 17, 18, 19, 20, 21, 22, 23, 24, 28, 29, 30, 31, 32, 33, 34, 35, 36, 37, 38, 39, 40, 41, 42, 43, 44, 45, 93, 94, 95, 96, 97, 52, 53, 54, 102, 103, 104, 105] (by decide +kernel) (by decide +kernel)) (goodIn_sub (fun _ h => List.mem_cons_of_mem _ (List.mem_append_left _ (List.mem_append_right _ h))) (by decide +kernel))) (goodIn_sub (fun _ h => List.mem_cons_of_mem _ (List.mem_append_right _ h)) (by decide +kernel))
set_option maxRecDepth 20000 in
theorem gL_areKeptSo_X0_placeOfPhrase : GoodIn wsL_areKeptSo (wsV RL 111 RX0 yX0_placeOfPhrase wsX0_placeOfPhrase) := goodIn_app (goodIn_of _ (by decide +kernel)) ggL_areKeptSo_X0_placeOfPhrase
