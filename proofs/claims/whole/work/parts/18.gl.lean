set_option maxRecDepth 20000 in
theorem ggL_put_X0_put : GoodIn wsL_put wsX0_put := goodIn_ca (goodIn_ca (goodIn_r _ [7, 8, 9, 6, 10, 11, 12, 13, 14, 15, 16, 17, 18, 19, 20, 21, 22, 23, 24, 25, 26, 27, 28, 29, 30, 31, 32, 33, 34, 35, 36, 37, 38, 39, 40, 41, 42, 43, 44, 45] (by decide +kernel) (by decide +kernel)) (goodIn_sub (fun _ h => List.mem_cons_of_mem _ (List.mem_append_left _ (List.mem_append_right _ h))) (by decide +kernel))) (goodIn_sub (fun _ h => List.mem_cons_of_mem _ (List.mem_append_right _ h)) (by decide +kernel))
set_option maxRecDepth 20000 in
theorem gL_put_X0_put : GoodIn wsL_put (wsV RL 7 RX0 yX0_put wsX0_put) := goodIn_app (goodIn_of _ (by decide +kernel)) ggL_put_X0_put
set_option maxRecDepth 20000 in
theorem ggL_take_X0_take : GoodIn wsL_take wsX0_take := goodIn_ca (goodIn_ca (goodIn_r _ [7, 8, 9, 6, 10, 11, 12, 13, 14, 15, 16, 17, 18, 19, 20, 21, 22, 23, 24, 25, 26, 27, 28, 29, 30, 31, 32, 33, 34, 35, 36, 37, 38, 39, 40, 41, 42, 43, 44, 45, 46, 47, 48, 49, 50, 51, 52, 53, 54, 55, 56, 57, 58, 59] (by decide +kernel) (by decide +kernel)) (goodIn_sub (fun _ h => List.mem_cons_of_mem _ (List.mem_append_left _ (List.mem_append_right _ h))) (by decide +kernel))) (goodIn_sub (fun _ h => List.mem_cons_of_mem _ (List.mem_append_right _ h)) (by decide +kernel))
set_option maxRecDepth 20000 in
theorem gL_take_X0_take : GoodIn wsL_take (wsV RL 17 RX0 yX0_take wsX0_take) := goodIn_app (goodIn_of _ (by decide +kernel)) ggL_take_X0_take
set_option maxRecDepth 20000 in
theorem ggL_multiply_X0_multiply : GoodIn wsL_multiply wsX0_multiply := goodIn_ca (goodIn_ca (goodIn_r _ [7, 8, 9, 6, 10, 11, 12, 13, 14, 15, 16, 17, 18, 19, 20, 21, 22, 23, 24, 25, 26, 27, 28, 29, 30, 31, 32, 33, 34, 35, 36, 37, 38, 39, 40, 41, 42, 43, 44, 45, 46, 47, 48, 49, 50] (by decide +kernel) (by decide +kernel)) (goodIn_sub (fun _ h => List.mem_cons_of_mem _ (List.mem_append_left _ (List.mem_append_right _ h))) (by decide +kernel))) (goodIn_sub (fun _ h => List.mem_cons_of_mem _ (List.mem_append_right _ h)) (by decide +kernel))
set_option maxRecDepth 20000 in
theorem gL_multiply_X0_multiply : GoodIn wsL_multiply (wsV RL 21 RX0 yX0_multiply wsX0_multiply) := goodIn_app (goodIn_of _ (by decide +kernel)) ggL_multiply_X0_multiply
set_option maxRecDepth 20000 in
theorem ggL_rotate_X0_rotate : GoodIn wsL_rotate wsX0_rotate := goodIn_ca (goodIn_ca (goodIn_r _ [7, 8, 9, 6, 10, 11, 12, 13, 14, 15, 16, 17, 18, 19, 20, 21, 22, 23, 24, 25, 26, 27, 28, 29, 30, 31, 32, 33, 34, 35, 36, 37, 38, 39, 40, 41, 42, 43, 44, 45, 46, 47, 48, 49, 50] (by decide +kernel) (by decide +kernel)) (goodIn_sub (fun _ h => List.mem_cons_of_mem _ (List.mem_append_left _ (List.mem_append_right _ h))) (by decide +kernel))) (goodIn_sub (fun _ h => List.mem_cons_of_mem _ (List.mem_append_right _ h)) (by decide +kernel))
set_option maxRecDepth 20000 in
theorem gL_rotate_X0_rotate : GoodIn wsL_rotate (wsV RL 25 RX0 yX0_rotate wsX0_rotate) := goodIn_app (goodIn_of _ (by decide +kernel)) ggL_rotate_X0_rotate
set_option maxRecDepth 20000 in
theorem ggL_tone_X0_tone : GoodIn wsL_tone wsX0_tone := goodIn_ca (goodIn_r _ [6, 7, 8, 5, 9, 10, 11, 12, 13, 14, 15, 16, 17, 18, 19, 20, 21, 22, 23, 24, 25, 26, 27, 28] (by decide +kernel) (by decide +kernel)) (goodIn_sub (fun _ h => List.mem_cons_of_mem _ (List.mem_append_right _ h)) (by decide +kernel))
set_option maxRecDepth 20000 in
theorem gL_tone_X0_tone : GoodIn wsL_tone (wsV RL 28 RX0 yX0_tone wsX0_tone) := goodIn_app (goodIn_of _ (by decide +kernel)) ggL_tone_X0_tone
set_option maxRecDepth 20000 in
theorem ggL_interval_X0_interval : GoodIn wsL_interval wsX0_interval := goodIn_ca (goodIn_r _ [6, 7, 8, 5, 9, 10, 11, 12, 13, 14, 15, 16, 17, 18, 19, 20, 21, 22, 23, 24, 25, 26, 27, 28, 29, 30, 31, 32, 33, 34, 35, 36, 37, 38] (by decide +kernel) (by decide +kernel)) (goodIn_sub (fun _ h => List.mem_cons_of_mem _ (List.mem_append_right _ h)) (by decide +kernel))
set_option maxRecDepth 20000 in
theorem gL_interval_X0_interval : GoodIn wsL_interval (wsV RL 31 RX0 yX0_interval wsX0_interval) := goodIn_app (goodIn_of _ (by decide +kernel)) ggL_interval_X0_interval
set_option maxRecDepth 20000 in
theorem ggL_hasAllIntervals_X0_hasAllIntervals : GoodIn wsL_hasAllIntervals wsX0_hasAllIntervals := goodIn_ca (goodIn_r _ [6, 7, 8, 5, 9, 10, 11, 12, 13, 14, 15, 16, 17, 18, 19, 20, 21, 22, 23, 24, 25, 26, 27, 28, 29, 30, 31, 32, 33, 34, 35, 36, 37, 38, 39, 40, 41, 42] (by decide +kernel) (by decide +kernel)) (goodIn_sub (fun _ h => List.mem_cons_of_mem _ (List.mem_append_right _ h)) (by decide +kernel))
set_option maxRecDepth 20000 in
theorem gL_hasAllIntervals_X0_hasAllIntervals : GoodIn wsL_hasAllIntervals (wsV RL 34 RX0 yX0_hasAllIntervals wsX0_hasAllIntervals) := goodIn_app (goodIn_of _ (by decide +kernel)) ggL_hasAllIntervals_X0_hasAllIntervals
set_option maxRecDepth 20000 in
theorem ggL_toneOf_X0_toneOf : GoodIn wsL_toneOf wsX0_toneOf := goodIn_ca (goodIn_ca (goodIn_r _ [7, 8, 9, 6, 10, 11, 12, 13, 14, 15, 16, 17, 18, 19, 20, 21, 22, 23, 24, 25, 26, 27, 28, 29, 30, 31, 32, 33, 34, 35, 36, 37, 38, 39, 40, 41, 42, 43, 44, 45, 46, 47, 48, 49, 50, 51, 52, 53, 54] (by decide +kernel) (by decide +kernel)) (goodIn_sub (fun _ h => List.mem_cons_of_mem _ (List.mem_append_left _ (List.mem_append_right _ h))) (by decide +kernel))) (goodIn_sub (fun _ h => List.mem_cons_of_mem _ (List.mem_append_right _ h)) (by decide +kernel))
set_option maxRecDepth 20000 in
theorem gL_toneOf_X0_toneOf : GoodIn wsL_toneOf (wsV RL 38 RX0 yX0_toneOf wsX0_toneOf) := goodIn_app (goodIn_of _ (by decide +kernel)) ggL_toneOf_X0_toneOf
set_option maxRecDepth 20000 in
theorem ggL_matrix_X0_matrix : GoodIn wsL_matrix wsX0_matrix := goodIn_ca (goodIn_r _ [6, 7, 8, 5, 9, 10, 11, 12, 13, 14, 15, 16, 17, 18, 19, 20, 21, 22, 23, 24, 25, 26, 27, 28, 29, 30, 31, 32, 33, 34, 35] (by decide +kernel) (by decide +kernel)) (goodIn_sub (fun _ h => List.mem_cons_of_mem _ (List.mem_append_right _ h)) (by decide +kernel))
set_option maxRecDepth 20000 in
theorem gL_matrix_X0_matrix : GoodIn wsL_matrix (wsV RL 41 RX0 yX0_matrix wsX0_matrix) := goodIn_app (goodIn_of _ (by decide +kernel)) ggL_matrix_X0_matrix
set_option maxRecDepth 20000 in
theorem ggL_differentForms_X0_differentForms : GoodIn wsL_differentForms wsX0_differentForms := goodIn_ca (goodIn_r _ [6, 7, 8, 5, 9, 10, 11, 12, 13, 14, 15, 16, 17, 18, 19, 20, 21, 22, 23, 24, 25, 26, 27, 28, 29, 30, 31, 32, 33, 34, 35, 36, 37, 38, 39, 40, 41, 42] (by decide +kernel) (by decide +kernel)) (goodIn_sub (fun _ h => List.mem_cons_of_mem _ (List.mem_append_right _ h)) (by decide +kernel))
set_option maxRecDepth 20000 in
theorem gL_differentForms_X0_differentForms : GoodIn wsL_differentForms (wsV RL 44 RX0 yX0_differentForms wsX0_differentForms) := goodIn_app (goodIn_of _ (by decide +kernel)) ggL_differentForms_X0_differentForms
set_option maxRecDepth 20000 in
theorem ggL_formOfOther_X0_formOfOther : GoodIn wsL_formOfOther wsX0_formOfOther := goodIn_ca (goodIn_r _ [6, 7, 8, 5, 9, 10, 11, 12, 13, 14, 15, 16, 17, 18, 19, 20, 21, 22, 23, 24, 25, 26, 27, 28, 29, 30, 31, 32, 33, 34, 35, 36, 37, 38, 39] (by decide +kernel) (by decide +kernel)) (goodIn_sub (fun _ h => List.mem_cons_of_mem _ (List.mem_append_right _ h)) (by decide +kernel))
set_option maxRecDepth 20000 in
theorem gL_formOfOther_X0_formOfOther : GoodIn wsL_formOfOther (wsV RL 48 RX0 yX0_formOfOther wsX0_formOfOther) := goodIn_app (goodIn_of _ (by decide +kernel)) ggL_formOfOther_X0_formOfOther
set_option maxRecDepth 20000 in
theorem ggL_segment_X0_segment : GoodIn wsL_segment wsX0_segment := goodIn_ca (goodIn_ca (goodIn_r _ [7, 8, 9, 6, 10, 11, 12, 13, 14, 15, 16, 17, 18, 19, 20, 21, 22, 23, 24, 25, 26, 27, 28, 29, 30, 31, 32, 33, 34, 35, 36, 37] (by decide +kernel) (by decide +kernel)) (goodIn_sub (fun _ h => List.mem_cons_of_mem _ (List.mem_append_left _ (List.mem_append_right _ h))) (by decide +kernel))) (goodIn_sub (fun _ h => List.mem_cons_of_mem _ (List.mem_append_right _ h)) (by decide +kernel))
set_option maxRecDepth 20000 in
theorem gL_segment_X0_segment : GoodIn wsL_segment (wsV RL 51 RX0 yX0_segment wsX0_segment) := goodIn_app (goodIn_of _ (by decide +kernel)) ggL_segment_X0_segment
set_option maxRecDepth 20000 in
theorem ggL_classOf_X0_classOf : GoodIn wsL_classOf wsX0_classOf := goodIn_ca (goodIn_r _ [6, 7, 8, 5, 9, 10, 11, 12, 13, 14, 15, 16, 17, 18, 19, 20, 21, 22, 23, 24, 25, 26, 27, 28, 29, 30, 31] (by decide +kernel) (by decide +kernel)) (goodIn_sub (fun _ h => List.mem_cons_of_mem _ (List.mem_append_right _ h)) (by decide +kernel))
set_option maxRecDepth 20000 in
theorem gL_classOf_X0_classOf : GoodIn wsL_classOf (wsV RL 54 RX0 yX0_classOf wsX0_classOf) := goodIn_app (goodIn_of _ (by decide +kernel)) ggL_classOf_X0_classOf
set_option maxRecDepth 20000 in
theorem ggL_pairs_X0_pairs : GoodIn wsL_pairs wsX0_pairs := goodIn_ca (goodIn_r _ [6, 7, 8, 5, 9, 10, 11, 12, 13, 14, 15, 16, 17, 18, 19, 20, 21] (by decide +kernel) (by decide +kernel)) (goodIn_sub (fun _ h => List.mem_cons_of_mem _ (List.mem_append_right _ h)) (by decide +kernel))
set_option maxRecDepth 20000 in
theorem gL_pairs_X0_pairs : GoodIn wsL_pairs (wsV RL 57 RX0 yX0_pairs wsX0_pairs) := goodIn_app (goodIn_of _ (by decide +kernel)) ggL_pairs_X0_pairs
set_option maxRecDepth 20000 in
theorem ggL_combining_X0_combining : GoodIn wsL_combining wsX0_combining := goodIn_ca (goodIn_r _ [6, 7, 8, 5, 9, 10, 11, 12, 13, 14, 15, 16, 17, 18, 19, 20, 21, 22, 23, 24, 25, 26, 27, 28, 29, 30, 31, 32, 33, 34, 35, 36, 37, 38, 39, 40, 41, 42] (by decide +kernel) (by decide +kernel)) (goodIn_sub (fun _ h => List.mem_cons_of_mem _ (List.mem_append_right _ h)) (by decide +kernel))
set_option maxRecDepth 20000 in
theorem gL_combining_X0_combining : GoodIn wsL_combining (wsV RL 60 RX0 yX0_combining wsX0_combining) := goodIn_app (goodIn_of _ (by decide +kernel)) ggL_combining_X0_combining
set_option maxRecDepth 20000 in
theorem ggL_isDerived_X0_isDerived : GoodIn wsL_isDerived wsX0_isDerived := goodIn_ca (goodIn_ca (goodIn_r _ [7, 8, 9, 6, 10, 11, 12, 13, 14, 15, 16, 17, 18, 19, 20, 21, 22, 23, 24, 25, 26, 27, 28, 29, 30, 31, 32, 33, 34, 35, 36, 37, 38, 39, 40, 41, 42, 43, 44, 45, 46, 47, 48, 49, 50, 51, 52, 53, 54] (by decide +kernel) (by decide +kernel)) (goodIn_sub (fun _ h => List.mem_cons_of_mem _ (List.mem_append_left _ (List.mem_append_right _ h))) (by decide +kernel))) (goodIn_sub (fun _ h => List.mem_cons_of_mem _ (List.mem_append_right _ h)) (by decide +kernel))
set_option maxRecDepth 20000 in
theorem gL_isDerived_X0_isDerived : GoodIn wsL_isDerived (wsV RL 64 RX0 yX0_isDerived wsX0_isDerived) := goodIn_app (goodIn_of _ (by decide +kernel)) ggL_isDerived_X0_isDerived
set_option maxRecDepth 20000 in
theorem ggL_keptSets_X0_keptSets : GoodIn wsL_keptSets wsX0_keptSets := goodIn_ca (goodIn_ca (goodIn_r _ [7, 8, 9, 6, 10, 11, 12, 13, 14, 15, 16, 17, 18, 19, 20, 21, 22, 23, 24, 25, 26, 27, 28, 29, 30, 31, 32, 33, 34, 35, 36, 37, 38, 39, 40, 41, 42, 43, 44, 45, 46, 47, 48, 49, 50, 51, 52, 53, 54, 55, 56, 57, 58, 59, 60, 61, 62, 63, 64, 65, 66, 67, 68, 69, 70] (by decide +kernel) (by decide +kernel)) (goodIn_sub (fun _ h => List.mem_cons_of_mem _ (List.mem_append_left _ (List.mem_append_right _ h))) (by decide +kernel))) (goodIn_sub (fun _ h => List.mem_cons_of_mem _ (List.mem_append_right _ h)) (by decide +kernel))
set_option maxRecDepth 20000 in
theorem gL_keptSets_X0_keptSets : GoodIn wsL_keptSets (wsV RL 68 RX0 yX0_keptSets wsX0_keptSets) := goodIn_app (goodIn_of _ (by decide +kernel)) ggL_keptSets_X0_keptSets
set_option maxRecDepth 20000 in
theorem ggL_longestKept_X0_longestKept : GoodIn wsL_longestKept wsX0_longestKept := goodIn_ca (goodIn_ca (goodIn_r _ [7, 8, 9, 10, 11, 12, 13, 6, 14, 15, 16, 17, 18, 19, 20, 21, 22, 23, 24, 25, 26, 27, 28, 29, 30, 31, 32, 33, 34, 35, 36, 37, 38, 39, 40, 41, 42, 43, 44, 45, 46, 47, 48, 49, 50, 51, 52, 53, 54, 55, 56, 57, 58, 59, 60, 61] (by decide +kernel) (by decide +kernel)) (goodIn_sub (fun _ h => List.mem_cons_of_mem _ (List.mem_append_left _ (List.mem_append_right _ h))) (by decide +kernel))) (goodIn_sub (fun _ h => List.mem_cons_of_mem _ (List.mem_append_right _ h)) (by decide +kernel))
set_option maxRecDepth 20000 in
theorem gL_longestKept_X0_longestKept : GoodIn wsL_longestKept (wsV RL 71 RX0 yX0_longestKept wsX0_longestKept) := goodIn_app (goodIn_of _ (by decide +kernel)) ggL_longestKept_X0_longestKept
set_option maxRecDepth 20000 in
theorem ggL_mostKept_X0_mostKept : GoodIn wsL_mostKept wsX0_mostKept := goodIn_ca (goodIn_ca (goodIn_r _ [7, 8, 9, 6, 10, 11, 12, 13, 14, 15, 16, 17, 18, 19, 20, 21, 22, 23, 24, 25, 26, 27, 28, 29, 30, 31, 32, 33, 34, 35, 36, 37, 38, 39, 40, 41, 42, 43, 44, 45, 46, 47, 48, 49, 50, 51, 52, 53, 54, 55, 56, 57, 58, 59, 60, 61, 62, 63, 64, 65, 66, 67] (by decide +kernel) (by decide +kernel)) (goodIn_sub (fun _ h => List.mem_cons_of_mem _ (List.mem_append_left _ (List.mem_append_right _ h))) (by decide +kernel))) (goodIn_sub (fun _ h => List.mem_cons_of_mem _ (List.mem_append_right _ h)) (by decide +kernel))
set_option maxRecDepth 20000 in
theorem gL_mostKept_X0_mostKept : GoodIn wsL_mostKept (wsV RL 74 RX0 yX0_mostKept wsX0_mostKept) := goodIn_app (goodIn_of _ (by decide +kernel)) ggL_mostKept_X0_mostKept
set_option maxRecDepth 20000 in
theorem ggL_cuts_X0_cuts : GoodIn wsL_cuts wsX0_cuts := goodIn_ca (goodIn_r _ [6, 7, 8, 9, 10, 5, 11, 12, 13, 14, 15, 16, 17, 18, 19, 20, 21, 22, 23, 24, 25, 26, 27, 28, 29, 30, 31, 32, 33, 34, 35, 36, 37, 38] (by decide +kernel) (by decide +kernel)) (goodIn_sub (fun _ h => List.mem_cons_of_mem _ (List.mem_append_right _ h)) (by decide +kernel))
set_option maxRecDepth 20000 in
theorem gL_cuts_X0_cuts : GoodIn wsL_cuts (wsV RL 77 RX0 yX0_cuts wsX0_cuts) := goodIn_app (goodIn_of _ (by decide +kernel)) ggL_cuts_X0_cuts
set_option maxRecDepth 20000 in
theorem ggL_write_X0_write : GoodIn wsL_write wsX0_write := goodIn_ca (goodIn_ca (goodIn_r _ [7, 8, 9, 10, 11, 12, 13, 6, 14, 15, 16, 17, 18, 19, 20, 21, 22, 23, 24, 25, 26, 27, 28, 29, 30, 31, 32, 33, 34, 35] (by decide +kernel) (by decide +kernel)) (goodIn_sub (fun _ h => List.mem_cons_of_mem _ (List.mem_append_left _ (List.mem_append_right _ h))) (by decide +kernel))) (goodIn_sub (fun _ h => List.mem_cons_of_mem _ (List.mem_append_right _ h)) (by decide +kernel))
set_option maxRecDepth 20000 in
theorem gL_write_X0_write : GoodIn wsL_write (wsV RL 80 RX0 yX0_write wsX0_write) := goodIn_app (goodIn_of _ (by decide +kernel)) ggL_write_X0_write
set_option maxRecDepth 20000 in
theorem ggL_formsWithPhrase_X0_formsWithPhrase : GoodIn wsL_formsWithPhrase wsX0_formsWithPhrase := goodIn_ca (goodIn_r _ [6, 7, 8, 9, 10, 5, 11, 12, 13, 14, 15, 16, 17, 18, 19, 20, 21, 22, 23, 24, 25, 26, 27, 28, 29, 30, 31, 32, 33, 34, 35, 36, 37, 38, 39, 40, 41, 42, 43, 44, 45, 46, 47, 48, 49] (by decide +kernel) (by decide +kernel)) (goodIn_sub (fun _ h => List.mem_cons_of_mem _ (List.mem_append_right _ h)) (by decide +kernel))
set_option maxRecDepth 20000 in
theorem gL_formsWithPhrase_X0_formsWithPhrase : GoodIn wsL_formsWithPhrase (wsV RL 85 RX0 yX0_formsWithPhrase wsX0_formsWithPhrase) := goodIn_app (goodIn_of _ (by decide +kernel)) ggL_formsWithPhrase_X0_formsWithPhrase
set_option maxRecDepth 20000 in
theorem ggL_placeOfPhrase_X0_placeOfPhrase : GoodIn wsL_placeOfPhrase wsX0_placeOfPhrase := goodIn_ca (goodIn_ca (goodIn_r _ [7, 8, 9, 10, 6, 11, 12, 13, 14, 15, 16, 17, 18, 19, 20, 21, 22, 23, 24, 25, 26, 27, 28, 29, 30, 31, 32, 33, 34, 35, 36, 37, 38, 39, 40, 41, 42, 43, 44, 45, 46, 47, 48, 49, 50, 51, 52, 53, 54] (by decide +kernel) (by decide +kernel)) (goodIn_sub (fun _ h => List.mem_cons_of_mem _ (List.mem_append_left _ (List.mem_append_right _ h))) (by decide +kernel))) (goodIn_sub (fun _ h => List.mem_cons_of_mem _ (List.mem_append_right _ h)) (by decide +kernel))
set_option maxRecDepth 20000 in
theorem gL_placeOfPhrase_X0_placeOfPhrase : GoodIn wsL_placeOfPhrase (wsV RL 88 RX0 yX0_placeOfPhrase wsX0_placeOfPhrase) := goodIn_app (goodIn_of _ (by decide +kernel)) ggL_placeOfPhrase_X0_placeOfPhrase
set_option maxRecDepth 20000 in
theorem ggL_complete_X0_complete : GoodIn wsL_complete wsX0_complete := goodIn_ca (goodIn_r _ [6, 7, 8, 9, 10, 5, 11, 12, 13, 14, 15, 16, 17, 18, 19, 20, 21, 22, 23, 24, 25, 26, 27, 28, 29, 30, 31, 32, 33, 34, 35, 36, 37, 38, 39, 40, 41, 42, 43, 44, 45, 46] (by decide +kernel) (by decide +kernel)) (goodIn_sub (fun _ h => List.mem_cons_of_mem _ (List.mem_append_right _ h)) (by decide +kernel))
set_option maxRecDepth 20000 in
theorem gL_complete_X0_complete : GoodIn wsL_complete (wsV RL 91 RX0 yX0_complete wsX0_complete) := goodIn_app (goodIn_of _ (by decide +kernel)) ggL_complete_X0_complete
