set_option maxRecDepth 20000 in
theorem ggX0_init_X0_withEntry : GoodIn wsX0_init wsX0_withEntry := goodIn_r _ [9, 10, 11] (by decide +kernel) (by decide +kernel)
set_option maxRecDepth 20000 in
theorem gX0_init_X0_withEntry : GoodIn wsX0_init (va_wsS RX0 9 yX0_withEntry wsX0_withEntry) := goodIn_app (goodIn_of _ (by decide +kernel)) ggX0_init_X0_withEntry
set_option maxRecDepth 20000 in
theorem ggX0_put_X0_requireRow : GoodIn wsX0_put wsX0_requireRow := goodIn_ca (goodIn_r _ [4, 5, 6] (by decide +kernel) (by decide +kernel)) (goodIn_sub (fun _ h => List.mem_cons_of_mem _ (List.mem_append_left _ (List.mem_append_right _ h))) (by decide +kernel))
set_option maxRecDepth 20000 in
theorem gX0_put_X0_requireRow : GoodIn wsX0_put (va_wsS RX0 20 yX0_requireRow wsX0_requireRow) := goodIn_app (goodIn_of _ (by decide +kernel)) ggX0_put_X0_requireRow
set_option maxRecDepth 20000 in
theorem ggX0_put_X0_requirePlace : GoodIn wsX0_put wsX0_requirePlace := goodIn_ca (goodIn_r _ [9, 5, 6] (by decide +kernel) (by decide +kernel)) (goodIn_sub (fun _ h => List.mem_cons_of_mem _ (List.mem_append_left _ (List.mem_append_right _ h))) (by decide +kernel))
set_option maxRecDepth 20000 in
theorem gX0_put_X0_requirePlace : GoodIn wsX0_put (va_wsS RX0 24 yX0_requirePlace wsX0_requirePlace) := goodIn_app (goodIn_of _ (by decide +kernel)) ggX0_put_X0_requirePlace
set_option maxRecDepth 20000 in
theorem ggX0_put_X0_requireRange : GoodIn wsX0_put wsX0_requireRange := goodIn_ca (goodIn_r _ [12, 13, 14] (by decide +kernel) (by decide +kernel)) (goodIn_sub (fun _ h => List.mem_cons_of_mem _ (List.mem_append_right _ h)) (by decide +kernel))
set_option maxRecDepth 20000 in
theorem gX0_put_X0_requireRange : GoodIn wsX0_put (va_wsS RX0 28 yX0_requireRange wsX0_requireRange) := goodIn_app (goodIn_of _ (by decide +kernel)) ggX0_put_X0_requireRange
set_option maxRecDepth 20000 in
theorem ggX0_put_X0_rowAt : GoodIn wsX0_put wsX0_rowAt := goodIn_r _ [18, 19, 20, 36, 37, 38, 39] (by decide +kernel) (by decide +kernel)
set_option maxRecDepth 20000 in
theorem gX0_put_X0_rowAt : GoodIn wsX0_put (wsV RX0 32 RX0 yX0_rowAt wsX0_rowAt) := goodIn_app (goodIn_of _ (by decide +kernel)) ggX0_put_X0_rowAt
set_option maxRecDepth 20000 in
theorem ggX0_put_X0_entryAt : GoodIn wsX0_put wsX0_entryAt := goodIn_r _ [23, 24] (by decide +kernel) (by decide +kernel)
set_option maxRecDepth 20000 in
theorem gX0_put_X0_entryAt : GoodIn wsX0_put (va_wsS RX0 36 yX0_entryAt wsX0_entryAt) := goodIn_app (goodIn_of _ (by decide +kernel)) ggX0_put_X0_entryAt
set_option maxRecDepth 20000 in
theorem ggX0_put_X0_placeIn : GoodIn wsX0_put wsX0_placeIn := goodIn_r _ [27, 21, 22, 3, 23, 24] (by decide +kernel) (by decide +kernel)
set_option maxRecDepth 20000 in
theorem gX0_put_X0_placeIn : GoodIn wsX0_put (va_wsS RX0 40 yX0_placeIn wsX0_placeIn) := goodIn_app (goodIn_of _ (by decide +kernel)) ggX0_put_X0_placeIn
set_option maxRecDepth 20000 in
theorem ggX0_put_X0_withEntry : GoodIn wsX0_put wsX0_withEntry := goodIn_r _ [30, 24, 31] (by decide +kernel) (by decide +kernel)
set_option maxRecDepth 20000 in
theorem gX0_put_X0_withEntry : GoodIn wsX0_put (va_wsS RX0 9 yX0_withEntry wsX0_withEntry) := goodIn_app (goodIn_of _ (by decide +kernel)) ggX0_put_X0_withEntry
set_option maxRecDepth 20000 in
theorem ggX0_put_X0_setRow : GoodIn wsX0_put wsX0_setRow := goodIn_r _ [35, 19, 20, 36, 37, 38, 39] (by decide +kernel) (by decide +kernel)
set_option maxRecDepth 20000 in
theorem gX0_put_X0_setRow : GoodIn wsX0_put (wsV RX0 43 RX0 yX0_setRow wsX0_setRow) := goodIn_app (goodIn_of _ (by decide +kernel)) ggX0_put_X0_setRow
set_option maxRecDepth 20000 in
theorem ggX0_take_X0_requireRow : GoodIn wsX0_take wsX0_requireRow := goodIn_ca (goodIn_r _ [4, 5, 6] (by decide +kernel) (by decide +kernel)) (goodIn_sub (fun _ h => List.mem_cons_of_mem _ (List.mem_append_left _ (List.mem_append_right _ h))) (by decide +kernel))
set_option maxRecDepth 20000 in
theorem gX0_take_X0_requireRow : GoodIn wsX0_take (va_wsS RX0 20 yX0_requireRow wsX0_requireRow) := goodIn_app (goodIn_of _ (by decide +kernel)) ggX0_take_X0_requireRow
set_option maxRecDepth 20000 in
theorem ggX0_take_X0_requireForm : GoodIn wsX0_take wsX0_requireForm := goodIn_ca (goodIn_r _ [9, 10, 11, 3, 12, 13, 14] (by decide +kernel) (by decide +kernel)) (goodIn_sub (fun _ h => List.mem_cons_of_mem _ (List.mem_append_right _ h)) (by decide +kernel))
set_option maxRecDepth 20000 in
theorem gX0_take_X0_requireForm : GoodIn wsX0_take (va_wsS RX0 47 yX0_requireForm wsX0_requireForm) := goodIn_app (goodIn_of _ (by decide +kernel)) ggX0_take_X0_requireForm
set_option maxRecDepth 20000 in
theorem ggX0_take_X0_rowAt : GoodIn wsX0_take wsX0_rowAt := goodIn_r _ [18, 19, 20, 50, 51, 52, 53] (by decide +kernel) (by decide +kernel)
set_option maxRecDepth 20000 in
theorem gX0_take_X0_rowAt : GoodIn wsX0_take (wsV RX0 32 RX0 yX0_rowAt wsX0_rowAt) := goodIn_app (goodIn_of _ (by decide +kernel)) ggX0_take_X0_rowAt
set_option maxRecDepth 20000 in
theorem ggX0_take_X0_codeOf : GoodIn wsX0_take wsX0_codeOf := goodIn_r _ [23] (by decide +kernel) (by decide +kernel)
set_option maxRecDepth 20000 in
theorem gX0_take_X0_codeOf : GoodIn wsX0_take (va_wsS RX0 50 yX0_codeOf wsX0_codeOf) := goodIn_app (goodIn_of _ (by decide +kernel)) ggX0_take_X0_codeOf
set_option maxRecDepth 20000 in
theorem ggX0_take_X0_formWith : GoodIn wsX0_take wsX0_formWith := goodIn_r _ [26, 27, 28, 3, 29, 30, 31, 32, 33, 34, 35, 36, 37, 38, 39, 40, 41] (by decide +kernel) (by decide +kernel)
set_option maxRecDepth 20000 in
theorem gX0_take_X0_formWith : GoodIn wsX0_take (va_wsS RX0 54 yX0_formWith wsX0_formWith) := goodIn_app (goodIn_of _ (by decide +kernel)) ggX0_take_X0_formWith
set_option maxRecDepth 20000 in
theorem ggX0_take_X0_replaceRow : GoodIn wsX0_take wsX0_replaceRow := goodIn_r _ [45, 46, 47, 48, 3, 49, 19, 20, 27, 28, 29, 30, 50, 51, 52, 53] (by decide +kernel) (by decide +kernel)
set_option maxRecDepth 20000 in
theorem gX0_take_X0_replaceRow : GoodIn wsX0_take (wsV RX0 58 RX0 yX0_replaceRow wsX0_replaceRow) := goodIn_app (goodIn_of _ (by decide +kernel)) ggX0_take_X0_replaceRow
set_option maxRecDepth 20000 in
theorem ggX0_multiply_X0_requireRow : GoodIn wsX0_multiply wsX0_requireRow := goodIn_ca (goodIn_r _ [4, 5, 6] (by decide +kernel) (by decide +kernel)) (goodIn_sub (fun _ h => List.mem_cons_of_mem _ (List.mem_append_left _ (List.mem_append_right _ h))) (by decide +kernel))
set_option maxRecDepth 20000 in
theorem gX0_multiply_X0_requireRow : GoodIn wsX0_multiply (va_wsS RX0 20 yX0_requireRow wsX0_requireRow) := goodIn_app (goodIn_of _ (by decide +kernel)) ggX0_multiply_X0_requireRow
set_option maxRecDepth 20000 in
theorem ggX0_multiply_X0_requireFactor : GoodIn wsX0_multiply wsX0_requireFactor := goodIn_ca (goodIn_r _ [9, 10, 11] (by decide +kernel) (by decide +kernel)) (goodIn_sub (fun _ h => List.mem_cons_of_mem _ (List.mem_append_right _ h)) (by decide +kernel))
set_option maxRecDepth 20000 in
theorem gX0_multiply_X0_requireFactor : GoodIn wsX0_multiply (va_wsS RX0 62 yX0_requireFactor wsX0_requireFactor) := goodIn_app (goodIn_of _ (by decide +kernel)) ggX0_multiply_X0_requireFactor
set_option maxRecDepth 20000 in
theorem ggX0_multiply_X0_rowAt : GoodIn wsX0_multiply wsX0_rowAt := goodIn_r _ [15, 16, 17, 41, 42, 43, 44] (by decide +kernel) (by decide +kernel)
set_option maxRecDepth 20000 in
theorem gX0_multiply_X0_rowAt : GoodIn wsX0_multiply (wsV RX0 32 RX0 yX0_rowAt wsX0_rowAt) := goodIn_app (goodIn_of _ (by decide +kernel)) ggX0_multiply_X0_rowAt
set_option maxRecDepth 20000 in
theorem ggX0_multiply_X0_entryAt : GoodIn wsX0_multiply wsX0_entryAt := goodIn_r _ [20, 21] (by decide +kernel) (by decide +kernel)
set_option maxRecDepth 20000 in
theorem gX0_multiply_X0_entryAt : GoodIn wsX0_multiply (va_wsS RX0 36 yX0_entryAt wsX0_entryAt) := goodIn_app (goodIn_of _ (by decide +kernel)) ggX0_multiply_X0_entryAt
set_option maxRecDepth 20000 in
theorem ggX0_multiply_X0_wrap : GoodIn wsX0_multiply wsX0_wrap := goodIn_r _ [24, 25, 26, 27, 28] (by decide +kernel) (by decide +kernel)
set_option maxRecDepth 20000 in
theorem gX0_multiply_X0_wrap : GoodIn wsX0_multiply (va_wsS RX0 65 yX0_wrap wsX0_wrap) := goodIn_app (goodIn_of _ (by decide +kernel)) ggX0_multiply_X0_wrap
set_option maxRecDepth 20000 in
theorem ggX0_multiply_X0_withEntry : GoodIn wsX0_multiply wsX0_withEntry := goodIn_r _ [31, 21, 32] (by decide +kernel) (by decide +kernel)
set_option maxRecDepth 20000 in
theorem gX0_multiply_X0_withEntry : GoodIn wsX0_multiply (va_wsS RX0 9 yX0_withEntry wsX0_withEntry) := goodIn_app (goodIn_of _ (by decide +kernel)) ggX0_multiply_X0_withEntry
set_option maxRecDepth 20000 in
theorem ggX0_multiply_X0_replaceRow : GoodIn wsX0_multiply wsX0_replaceRow := goodIn_r _ [36, 37, 38, 39, 3, 40, 16, 17, 18, 19, 20, 21, 41, 42, 43, 44] (by decide +kernel) (by decide +kernel)
set_option maxRecDepth 20000 in
theorem gX0_multiply_X0_replaceRow : GoodIn wsX0_multiply (wsV RX0 58 RX0 yX0_replaceRow wsX0_replaceRow) := goodIn_app (goodIn_of _ (by decide +kernel)) ggX0_multiply_X0_replaceRow
set_option maxRecDepth 20000 in
theorem ggX0_rotate_X0_requireRow : GoodIn wsX0_rotate wsX0_requireRow := goodIn_ca (goodIn_r _ [4, 5, 6] (by decide +kernel) (by decide +kernel)) (goodIn_sub (fun _ h => List.mem_cons_of_mem _ (List.mem_append_left _ (List.mem_append_right _ h))) (by decide +kernel))
set_option maxRecDepth 20000 in
theorem gX0_rotate_X0_requireRow : GoodIn wsX0_rotate (va_wsS RX0 20 yX0_requireRow wsX0_requireRow) := goodIn_app (goodIn_of _ (by decide +kernel)) ggX0_rotate_X0_requireRow
set_option maxRecDepth 20000 in
theorem ggX0_rotate_X0_requireRange : GoodIn wsX0_rotate wsX0_requireRange := goodIn_ca (goodIn_r _ [9, 10, 11] (by decide +kernel) (by decide +kernel)) (goodIn_sub (fun _ h => List.mem_cons_of_mem _ (List.mem_append_right _ h)) (by decide +kernel))
set_option maxRecDepth 20000 in
theorem gX0_rotate_X0_requireRange : GoodIn wsX0_rotate (va_wsS RX0 28 yX0_requireRange wsX0_requireRange) := goodIn_app (goodIn_of _ (by decide +kernel)) ggX0_rotate_X0_requireRange
set_option maxRecDepth 20000 in
theorem ggX0_rotate_X0_rowAt : GoodIn wsX0_rotate wsX0_rowAt := goodIn_r _ [15, 16, 17, 41, 42, 43, 44] (by decide +kernel) (by decide +kernel)
set_option maxRecDepth 20000 in
theorem gX0_rotate_X0_rowAt : GoodIn wsX0_rotate (wsV RX0 32 RX0 yX0_rowAt wsX0_rowAt) := goodIn_app (goodIn_of _ (by decide +kernel)) ggX0_rotate_X0_rowAt
set_option maxRecDepth 20000 in
theorem ggX0_rotate_X0_wrap : GoodIn wsX0_rotate wsX0_wrap := goodIn_r _ [20, 21, 22, 23, 24] (by decide +kernel) (by decide +kernel)
set_option maxRecDepth 20000 in
theorem gX0_rotate_X0_wrap : GoodIn wsX0_rotate (va_wsS RX0 65 yX0_wrap wsX0_wrap) := goodIn_app (goodIn_of _ (by decide +kernel)) ggX0_rotate_X0_wrap
set_option maxRecDepth 20000 in
theorem ggX0_rotate_X0_entryAt : GoodIn wsX0_rotate wsX0_entryAt := goodIn_r _ [27, 28] (by decide +kernel) (by decide +kernel)
set_option maxRecDepth 20000 in
theorem gX0_rotate_X0_entryAt : GoodIn wsX0_rotate (va_wsS RX0 36 yX0_entryAt wsX0_entryAt) := goodIn_app (goodIn_of _ (by decide +kernel)) ggX0_rotate_X0_entryAt
set_option maxRecDepth 20000 in
theorem ggX0_rotate_X0_withEntry : GoodIn wsX0_rotate wsX0_withEntry := goodIn_r _ [31, 28, 32] (by decide +kernel) (by decide +kernel)
set_option maxRecDepth 20000 in
theorem gX0_rotate_X0_withEntry : GoodIn wsX0_rotate (va_wsS RX0 9 yX0_withEntry wsX0_withEntry) := goodIn_app (goodIn_of _ (by decide +kernel)) ggX0_rotate_X0_withEntry
set_option maxRecDepth 20000 in
theorem ggX0_rotate_X0_replaceRow : GoodIn wsX0_rotate wsX0_replaceRow := goodIn_r _ [36, 37, 38, 39, 3, 40, 16, 17, 25, 26, 27, 28, 41, 42, 43, 44] (by decide +kernel) (by decide +kernel)
set_option maxRecDepth 20000 in
theorem gX0_rotate_X0_replaceRow : GoodIn wsX0_rotate (wsV RX0 58 RX0 yX0_replaceRow wsX0_replaceRow) := goodIn_app (goodIn_of _ (by decide +kernel)) ggX0_rotate_X0_replaceRow
set_option maxRecDepth 20000 in
theorem ggX0_tone_X0_requireRow : GoodIn wsX0_tone wsX0_requireRow := goodIn_ca (goodIn_r _ [4, 5, 6] (by decide +kernel) (by decide +kernel)) (goodIn_sub (fun _ h => List.mem_cons_of_mem _ (List.mem_append_right _ h)) (by decide +kernel))
set_option maxRecDepth 20000 in
theorem gX0_tone_X0_requireRow : GoodIn wsX0_tone (va_wsS RX0 20 yX0_requireRow wsX0_requireRow) := goodIn_app (goodIn_of _ (by decide +kernel)) ggX0_tone_X0_requireRow
set_option maxRecDepth 20000 in
theorem ggX0_tone_X0_requirePlace : GoodIn wsX0_tone wsX0_requirePlace := goodIn_ca (goodIn_r _ [9, 5, 6] (by decide +kernel) (by decide +kernel)) (goodIn_sub (fun _ h => List.mem_cons_of_mem _ (List.mem_append_right _ h)) (by decide +kernel))
set_option maxRecDepth 20000 in
theorem gX0_tone_X0_requirePlace : GoodIn wsX0_tone (va_wsS RX0 24 yX0_requirePlace wsX0_requirePlace) := goodIn_app (goodIn_of _ (by decide +kernel)) ggX0_tone_X0_requirePlace
set_option maxRecDepth 20000 in
theorem ggX0_tone_X0_rowAt : GoodIn wsX0_tone wsX0_rowAt := goodIn_r _ [13, 14, 15, 20, 21, 22, 23] (by decide +kernel) (by decide +kernel)
set_option maxRecDepth 20000 in
theorem gX0_tone_X0_rowAt : GoodIn wsX0_tone (wsV RX0 32 RX0 yX0_rowAt wsX0_rowAt) := goodIn_app (goodIn_of _ (by decide +kernel)) ggX0_tone_X0_rowAt
set_option maxRecDepth 20000 in
theorem ggX0_tone_X0_entryAt : GoodIn wsX0_tone wsX0_entryAt := goodIn_r _ [18, 19] (by decide +kernel) (by decide +kernel)
set_option maxRecDepth 20000 in
theorem gX0_tone_X0_entryAt : GoodIn wsX0_tone (va_wsS RX0 36 yX0_entryAt wsX0_entryAt) := goodIn_app (goodIn_of _ (by decide +kernel)) ggX0_tone_X0_entryAt
set_option maxRecDepth 20000 in
theorem ggX0_interval_X0_requireRow : GoodIn wsX0_interval wsX0_requireRow := goodIn_ca (goodIn_r _ [4, 5, 6] (by decide +kernel) (by decide +kernel)) (goodIn_sub (fun _ h => List.mem_cons_of_mem _ (List.mem_append_right _ h)) (by decide +kernel))
set_option maxRecDepth 20000 in
theorem gX0_interval_X0_requireRow : GoodIn wsX0_interval (va_wsS RX0 20 yX0_requireRow wsX0_requireRow) := goodIn_app (goodIn_of _ (by decide +kernel)) ggX0_interval_X0_requireRow
set_option maxRecDepth 20000 in
theorem ggX0_interval_X0_requirePlace : GoodIn wsX0_interval wsX0_requirePlace := goodIn_ca (goodIn_r _ [9, 5, 6] (by decide +kernel) (by decide +kernel)) (goodIn_sub (fun _ h => List.mem_cons_of_mem _ (List.mem_append_right _ h)) (by decide +kernel))
set_option maxRecDepth 20000 in
theorem gX0_interval_X0_requirePlace : GoodIn wsX0_interval (va_wsS RX0 24 yX0_requirePlace wsX0_requirePlace) := goodIn_app (goodIn_of _ (by decide +kernel)) ggX0_interval_X0_requirePlace
set_option maxRecDepth 20000 in
theorem ggX0_interval_X0_rowAt : GoodIn wsX0_interval wsX0_rowAt := goodIn_r _ [13, 14, 15, 30, 31, 32, 33] (by decide +kernel) (by decide +kernel)
set_option maxRecDepth 20000 in
theorem gX0_interval_X0_rowAt : GoodIn wsX0_interval (wsV RX0 32 RX0 yX0_rowAt wsX0_rowAt) := goodIn_app (goodIn_of _ (by decide +kernel)) ggX0_interval_X0_rowAt
set_option maxRecDepth 20000 in
theorem ggX0_interval_X0_intervalAt : GoodIn wsX0_interval wsX0_intervalAt := goodIn_r _ [18, 19, 20, 3, 21, 22, 23, 24, 25, 26, 27, 28, 29] (by decide +kernel) (by decide +kernel)
set_option maxRecDepth 20000 in
theorem gX0_interval_X0_intervalAt : GoodIn wsX0_interval (va_wsS RX0 69 yX0_intervalAt wsX0_intervalAt) := goodIn_app (goodIn_of _ (by decide +kernel)) ggX0_interval_X0_intervalAt
set_option maxRecDepth 20000 in
theorem ggX0_toneOf_X0_requireRow : GoodIn wsX0_toneOf wsX0_requireRow := goodIn_ca (goodIn_r _ [4, 5, 6] (by decide +kernel) (by decide +kernel)) (goodIn_sub (fun _ h => List.mem_cons_of_mem _ (List.mem_append_left _ (List.mem_append_right _ h))) (by decide +kernel))
set_option maxRecDepth 20000 in
theorem gX0_toneOf_X0_requireRow : GoodIn wsX0_toneOf (va_wsS RX0 20 yX0_requireRow wsX0_requireRow) := goodIn_app (goodIn_of _ (by decide +kernel)) ggX0_toneOf_X0_requireRow
set_option maxRecDepth 20000 in
theorem ggX0_toneOf_X0_requirePlace : GoodIn wsX0_toneOf wsX0_requirePlace := goodIn_ca (goodIn_r _ [9, 5, 6] (by decide +kernel) (by decide +kernel)) (goodIn_sub (fun _ h => List.mem_cons_of_mem _ (List.mem_append_left _ (List.mem_append_right _ h))) (by decide +kernel))
set_option maxRecDepth 20000 in
theorem gX0_toneOf_X0_requirePlace : GoodIn wsX0_toneOf (va_wsS RX0 24 yX0_requirePlace wsX0_requirePlace) := goodIn_app (goodIn_of _ (by decide +kernel)) ggX0_toneOf_X0_requirePlace
set_option maxRecDepth 20000 in
theorem ggX0_toneOf_X0_requireForm : GoodIn wsX0_toneOf wsX0_requireForm := goodIn_ca (goodIn_r _ [12, 13, 14, 3, 15, 16, 17] (by decide +kernel) (by decide +kernel)) (goodIn_sub (fun _ h => List.mem_cons_of_mem _ (List.mem_append_right _ h)) (by decide +kernel))
set_option maxRecDepth 20000 in
theorem gX0_toneOf_X0_requireForm : GoodIn wsX0_toneOf (va_wsS RX0 47 yX0_requireForm wsX0_requireForm) := goodIn_app (goodIn_of _ (by decide +kernel)) ggX0_toneOf_X0_requireForm
set_option maxRecDepth 20000 in
theorem ggX0_toneOf_X0_rowAt : GoodIn wsX0_toneOf wsX0_rowAt := goodIn_r _ [21, 22, 23, 45, 46, 47, 48] (by decide +kernel) (by decide +kernel)
set_option maxRecDepth 20000 in
theorem gX0_toneOf_X0_rowAt : GoodIn wsX0_toneOf (wsV RX0 32 RX0 yX0_rowAt wsX0_rowAt) := goodIn_app (goodIn_of _ (by decide +kernel)) ggX0_toneOf_X0_rowAt
set_option maxRecDepth 20000 in
theorem ggX0_toneOf_X0_codeOf : GoodIn wsX0_toneOf wsX0_codeOf := goodIn_r _ [26] (by decide +kernel) (by decide +kernel)
set_option maxRecDepth 20000 in
theorem gX0_toneOf_X0_codeOf : GoodIn wsX0_toneOf (va_wsS RX0 50 yX0_codeOf wsX0_codeOf) := goodIn_app (goodIn_of _ (by decide +kernel)) ggX0_toneOf_X0_codeOf
set_option maxRecDepth 20000 in
theorem ggX0_toneOf_X0_formWith : GoodIn wsX0_toneOf wsX0_formWith := goodIn_r _ [29, 30, 31, 3, 32, 33, 34, 35, 36, 37, 38, 39, 40, 41, 42, 43, 44] (by decide +kernel) (by decide +kernel)
set_option maxRecDepth 20000 in
theorem gX0_toneOf_X0_formWith : GoodIn wsX0_toneOf (va_wsS RX0 54 yX0_formWith wsX0_formWith) := goodIn_app (goodIn_of _ (by decide +kernel)) ggX0_toneOf_X0_formWith
set_option maxRecDepth 20000 in
theorem ggX0_toneOf_X0_entryAt : GoodIn wsX0_toneOf wsX0_entryAt := goodIn_r _ [32, 33] (by decide +kernel) (by decide +kernel)
set_option maxRecDepth 20000 in
theorem gX0_toneOf_X0_entryAt : GoodIn wsX0_toneOf (va_wsS RX0 36 yX0_entryAt wsX0_entryAt) := goodIn_app (goodIn_of _ (by decide +kernel)) ggX0_toneOf_X0_entryAt
set_option maxRecDepth 20000 in
theorem ggX0_matrix_X0_requireRow : GoodIn wsX0_matrix wsX0_requireRow := goodIn_ca (goodIn_r _ [4, 5, 6] (by decide +kernel) (by decide +kernel)) (goodIn_sub (fun _ h => List.mem_cons_of_mem _ (List.mem_append_right _ h)) (by decide +kernel))
set_option maxRecDepth 20000 in
theorem gX0_matrix_X0_requireRow : GoodIn wsX0_matrix (va_wsS RX0 20 yX0_requireRow wsX0_requireRow) := goodIn_app (goodIn_of _ (by decide +kernel)) ggX0_matrix_X0_requireRow
set_option maxRecDepth 20000 in
theorem ggX0_matrix_X0_requirePlace : GoodIn wsX0_matrix wsX0_requirePlace := goodIn_ca (goodIn_r _ [9, 5, 6] (by decide +kernel) (by decide +kernel)) (goodIn_sub (fun _ h => List.mem_cons_of_mem _ (List.mem_append_right _ h)) (by decide +kernel))
set_option maxRecDepth 20000 in
theorem gX0_matrix_X0_requirePlace : GoodIn wsX0_matrix (va_wsS RX0 24 yX0_requirePlace wsX0_requirePlace) := goodIn_app (goodIn_of _ (by decide +kernel)) ggX0_matrix_X0_requirePlace
set_option maxRecDepth 20000 in
theorem ggX0_matrix_X0_rowAt : GoodIn wsX0_matrix wsX0_rowAt := goodIn_r _ [13, 14, 15, 27, 28, 29, 30] (by decide +kernel) (by decide +kernel)
set_option maxRecDepth 20000 in
theorem gX0_matrix_X0_rowAt : GoodIn wsX0_matrix (wsV RX0 32 RX0 yX0_rowAt wsX0_rowAt) := goodIn_app (goodIn_of _ (by decide +kernel)) ggX0_matrix_X0_rowAt
set_option maxRecDepth 20000 in
theorem ggX0_matrix_X0_entryAt : GoodIn wsX0_matrix wsX0_entryAt := goodIn_r _ [18, 19] (by decide +kernel) (by decide +kernel)
set_option maxRecDepth 20000 in
theorem gX0_matrix_X0_entryAt : GoodIn wsX0_matrix (va_wsS RX0 36 yX0_entryAt wsX0_entryAt) := goodIn_app (goodIn_of _ (by decide +kernel)) ggX0_matrix_X0_entryAt
set_option maxRecDepth 20000 in
theorem ggX0_matrix_X0_wrap : GoodIn wsX0_matrix wsX0_wrap := goodIn_r _ [22, 23, 24, 25, 26] (by decide +kernel) (by decide +kernel)
set_option maxRecDepth 20000 in
theorem gX0_matrix_X0_wrap : GoodIn wsX0_matrix (va_wsS RX0 65 yX0_wrap wsX0_wrap) := goodIn_app (goodIn_of _ (by decide +kernel)) ggX0_matrix_X0_wrap
set_option maxRecDepth 20000 in
theorem ggX0_differentForms_X0_requireRow : GoodIn wsX0_differentForms wsX0_requireRow := goodIn_ca (goodIn_r _ [4, 5, 6] (by decide +kernel) (by decide +kernel)) (goodIn_sub (fun _ h => List.mem_cons_of_mem _ (List.mem_append_right _ h)) (by decide +kernel))
set_option maxRecDepth 20000 in
theorem gX0_differentForms_X0_requireRow : GoodIn wsX0_differentForms (va_wsS RX0 20 yX0_requireRow wsX0_requireRow) := goodIn_app (goodIn_of _ (by decide +kernel)) ggX0_differentForms_X0_requireRow
set_option maxRecDepth 20000 in
theorem ggX0_differentForms_X0_rowAt : GoodIn wsX0_differentForms wsX0_rowAt := goodIn_r _ [10, 11, 12, 34, 35, 36, 37] (by decide +kernel) (by decide +kernel)
set_option maxRecDepth 20000 in
theorem gX0_differentForms_X0_rowAt : GoodIn wsX0_differentForms (wsV RX0 32 RX0 yX0_rowAt wsX0_rowAt) := goodIn_app (goodIn_of _ (by decide +kernel)) ggX0_differentForms_X0_rowAt
set_option maxRecDepth 20000 in
theorem ggX0_differentForms_X0_codeOf : GoodIn wsX0_differentForms wsX0_codeOf := goodIn_r _ [15] (by decide +kernel) (by decide +kernel)
set_option maxRecDepth 20000 in
theorem gX0_differentForms_X0_codeOf : GoodIn wsX0_differentForms (va_wsS RX0 50 yX0_codeOf wsX0_codeOf) := goodIn_app (goodIn_of _ (by decide +kernel)) ggX0_differentForms_X0_codeOf
set_option maxRecDepth 20000 in
theorem ggX0_differentForms_X0_formWith : GoodIn wsX0_differentForms wsX0_formWith := goodIn_r _ [18, 19, 20, 3, 21, 22, 23, 24, 25, 26, 27, 28, 29, 30, 31, 32, 33] (by decide +kernel) (by decide +kernel)
set_option maxRecDepth 20000 in
theorem gX0_differentForms_X0_formWith : GoodIn wsX0_differentForms (va_wsS RX0 54 yX0_formWith wsX0_formWith) := goodIn_app (goodIn_of _ (by decide +kernel)) ggX0_differentForms_X0_formWith
set_option maxRecDepth 20000 in
theorem ggX0_segment_X0_requireRow : GoodIn wsX0_segment wsX0_requireRow := goodIn_ca (goodIn_r _ [4, 5, 6] (by decide +kernel) (by decide +kernel)) (goodIn_sub (fun _ h => List.mem_cons_of_mem _ (List.mem_append_left _ (List.mem_append_right _ h))) (by decide +kernel))
set_option maxRecDepth 20000 in
theorem gX0_segment_X0_requireRow : GoodIn wsX0_segment (va_wsS RX0 20 yX0_requireRow wsX0_requireRow) := goodIn_app (goodIn_of _ (by decide +kernel)) ggX0_segment_X0_requireRow
set_option maxRecDepth 20000 in
theorem ggX0_segment_X0_requirePlace : GoodIn wsX0_segment wsX0_requirePlace := goodIn_ca (goodIn_r _ [9, 5, 6] (by decide +kernel) (by decide +kernel)) (goodIn_sub (fun _ h => List.mem_cons_of_mem _ (List.mem_append_left _ (List.mem_append_right _ h))) (by decide +kernel))
set_option maxRecDepth 20000 in
theorem gX0_segment_X0_requirePlace : GoodIn wsX0_segment (va_wsS RX0 24 yX0_requirePlace wsX0_requirePlace) := goodIn_app (goodIn_of _ (by decide +kernel)) ggX0_segment_X0_requirePlace
set_option maxRecDepth 20000 in
theorem ggX0_segment_X0_requireRange : GoodIn wsX0_segment wsX0_requireRange := goodIn_ca (goodIn_r _ [12, 13, 14] (by decide +kernel) (by decide +kernel)) (goodIn_sub (fun _ h => List.mem_cons_of_mem _ (List.mem_append_right _ h)) (by decide +kernel))
set_option maxRecDepth 20000 in
theorem gX0_segment_X0_requireRange : GoodIn wsX0_segment (va_wsS RX0 28 yX0_requireRange wsX0_requireRange) := goodIn_app (goodIn_of _ (by decide +kernel)) ggX0_segment_X0_requireRange
set_option maxRecDepth 20000 in
theorem ggX0_segment_X0_rowAt : GoodIn wsX0_segment wsX0_rowAt := goodIn_r _ [18, 19, 20, 28, 29, 30, 31] (by decide +kernel) (by decide +kernel)
set_option maxRecDepth 20000 in
theorem gX0_segment_X0_rowAt : GoodIn wsX0_segment (wsV RX0 32 RX0 yX0_rowAt wsX0_rowAt) := goodIn_app (goodIn_of _ (by decide +kernel)) ggX0_segment_X0_rowAt
set_option maxRecDepth 20000 in
theorem ggX0_segment_X0_setOf : GoodIn wsX0_segment wsX0_setOf := goodIn_r _ [23, 24, 25, 3, 26, 27] (by decide +kernel) (by decide +kernel)
set_option maxRecDepth 20000 in
theorem gX0_segment_X0_setOf : GoodIn wsX0_segment (va_wsS RX0 77 yX0_setOf wsX0_setOf) := goodIn_app (goodIn_of _ (by decide +kernel)) ggX0_segment_X0_setOf
set_option maxRecDepth 20000 in
theorem ggX0_classOf_X0_requireRange : GoodIn wsX0_classOf wsX0_requireRange := goodIn_ca (goodIn_r _ [4, 5, 6] (by decide +kernel) (by decide +kernel)) (goodIn_sub (fun _ h => List.mem_cons_of_mem _ (List.mem_append_right _ h)) (by decide +kernel))
set_option maxRecDepth 20000 in
theorem gX0_classOf_X0_requireRange : GoodIn wsX0_classOf (va_wsS RX0 28 yX0_requireRange wsX0_requireRange) := goodIn_app (goodIn_of _ (by decide +kernel)) ggX0_classOf_X0_requireRange
set_option maxRecDepth 20000 in
theorem ggX0_classOf_X0_leastLike : GoodIn wsX0_classOf wsX0_leastLike := goodIn_r _ [9, 10, 11, 12, 13, 14, 15, 3, 16, 17, 18, 19, 20, 21, 22, 23, 24, 25, 26] (by decide +kernel) (by decide +kernel)
set_option maxRecDepth 20000 in
theorem gX0_classOf_X0_leastLike : GoodIn wsX0_classOf (va_wsS RX0 81 yX0_leastLike wsX0_leastLike) := goodIn_app (goodIn_of _ (by decide +kernel)) ggX0_classOf_X0_leastLike
set_option maxRecDepth 20000 in
theorem ggX0_pairs_X0_requireRange : GoodIn wsX0_pairs wsX0_requireRange := goodIn_ca (goodIn_r _ [4, 5, 6] (by decide +kernel) (by decide +kernel)) (goodIn_sub (fun _ h => List.mem_cons_of_mem _ (List.mem_append_right _ h)) (by decide +kernel))
set_option maxRecDepth 20000 in
theorem gX0_pairs_X0_requireRange : GoodIn wsX0_pairs (va_wsS RX0 28 yX0_requireRange wsX0_requireRange) := goodIn_app (goodIn_of _ (by decide +kernel)) ggX0_pairs_X0_requireRange
set_option maxRecDepth 20000 in
theorem ggX0_pairs_X0_transposed : GoodIn wsX0_pairs wsX0_transposed := goodIn_r _ [9] (by decide +kernel) (by decide +kernel)
set_option maxRecDepth 20000 in
theorem gX0_pairs_X0_transposed : GoodIn wsX0_pairs (va_wsS RX0 84 yX0_transposed wsX0_transposed) := goodIn_app (goodIn_of _ (by decide +kernel)) ggX0_pairs_X0_transposed
set_option maxRecDepth 20000 in
theorem ggX0_pairs_J6_bitCount_0f7a4 : GoodIn wsX0_pairs wsJ6_bitCount_0f7a4 := goodIn_r _ [13, 14, 15, 16] (by decide +kernel) (by decide +kernel)
set_option maxRecDepth 20000 in
theorem gX0_pairs_J6_bitCount_0f7a4 : GoodIn wsX0_pairs (va_wsS RX0 72 yJ6_bitCount_0f7a4 wsJ6_bitCount_0f7a4) := goodIn_app (goodIn_of _ (by decide +kernel)) ggX0_pairs_J6_bitCount_0f7a4
set_option maxRecDepth 20000 in
theorem ggX0_combining_X0_requireRow : GoodIn wsX0_combining wsX0_requireRow := goodIn_ca (goodIn_r _ [4, 5, 6] (by decide +kernel) (by decide +kernel)) (goodIn_sub (fun _ h => List.mem_cons_of_mem _ (List.mem_append_right _ h)) (by decide +kernel))
set_option maxRecDepth 20000 in
theorem gX0_combining_X0_requireRow : GoodIn wsX0_combining (va_wsS RX0 20 yX0_requireRow wsX0_requireRow) := goodIn_app (goodIn_of _ (by decide +kernel)) ggX0_combining_X0_requireRow
set_option maxRecDepth 20000 in
theorem ggX0_combining_X0_rowAt : GoodIn wsX0_combining wsX0_rowAt := goodIn_r _ [10, 11, 12, 34, 35, 36, 37] (by decide +kernel) (by decide +kernel)
set_option maxRecDepth 20000 in
theorem gX0_combining_X0_rowAt : GoodIn wsX0_combining (wsV RX0 32 RX0 yX0_rowAt wsX0_rowAt) := goodIn_app (goodIn_of _ (by decide +kernel)) ggX0_combining_X0_rowAt
set_option maxRecDepth 20000 in
theorem ggX0_combining_X0_setOf : GoodIn wsX0_combining wsX0_setOf := goodIn_r _ [15, 16, 17, 3, 18, 19] (by decide +kernel) (by decide +kernel)
set_option maxRecDepth 20000 in
theorem gX0_combining_X0_setOf : GoodIn wsX0_combining (va_wsS RX0 77 yX0_setOf wsX0_setOf) := goodIn_app (goodIn_of _ (by decide +kernel)) ggX0_combining_X0_setOf
set_option maxRecDepth 20000 in
theorem ggX0_combining_X0_formWith : GoodIn wsX0_combining wsX0_formWith := goodIn_r _ [22, 16, 17, 3, 18, 19, 23, 24, 25, 26, 27, 28, 29, 30, 31, 32, 33] (by decide +kernel) (by decide +kernel)
set_option maxRecDepth 20000 in
theorem gX0_combining_X0_formWith : GoodIn wsX0_combining (va_wsS RX0 54 yX0_formWith wsX0_formWith) := goodIn_app (goodIn_of _ (by decide +kernel)) ggX0_combining_X0_formWith
set_option maxRecDepth 20000 in
theorem ggX0_isDerived_X0_requireRow : GoodIn wsX0_isDerived wsX0_requireRow := goodIn_ca (goodIn_r _ [4, 5, 6] (by decide +kernel) (by decide +kernel)) (goodIn_sub (fun _ h => List.mem_cons_of_mem _ (List.mem_append_left _ (List.mem_append_right _ h))) (by decide +kernel))
set_option maxRecDepth 20000 in
theorem gX0_isDerived_X0_requireRow : GoodIn wsX0_isDerived (va_wsS RX0 20 yX0_requireRow wsX0_requireRow) := goodIn_app (goodIn_of _ (by decide +kernel)) ggX0_isDerived_X0_requireRow
set_option maxRecDepth 20000 in
theorem ggX0_isDerived_X0_requireSize : GoodIn wsX0_isDerived wsX0_requireSize := goodIn_ca (goodIn_r _ [9, 10, 11] (by decide +kernel) (by decide +kernel)) (goodIn_sub (fun _ h => List.mem_cons_of_mem _ (List.mem_append_right _ h)) (by decide +kernel))
set_option maxRecDepth 20000 in
theorem gX0_isDerived_X0_requireSize : GoodIn wsX0_isDerived (va_wsS RX0 87 yX0_requireSize wsX0_requireSize) := goodIn_app (goodIn_of _ (by decide +kernel)) ggX0_isDerived_X0_requireSize
set_option maxRecDepth 20000 in
theorem ggX0_isDerived_X0_rowAt : GoodIn wsX0_isDerived wsX0_rowAt := goodIn_r _ [15, 16, 17, 45, 46, 47, 48] (by decide +kernel) (by decide +kernel)
set_option maxRecDepth 20000 in
theorem gX0_isDerived_X0_rowAt : GoodIn wsX0_isDerived (wsV RX0 32 RX0 yX0_rowAt wsX0_rowAt) := goodIn_app (goodIn_of _ (by decide +kernel)) ggX0_isDerived_X0_rowAt
set_option maxRecDepth 20000 in
theorem ggX0_isDerived_X0_setOf : GoodIn wsX0_isDerived wsX0_setOf := goodIn_r _ [20, 21, 22, 3, 23, 24] (by decide +kernel) (by decide +kernel)
set_option maxRecDepth 20000 in
theorem gX0_isDerived_X0_setOf : GoodIn wsX0_isDerived (va_wsS RX0 77 yX0_setOf wsX0_setOf) := goodIn_app (goodIn_of _ (by decide +kernel)) ggX0_isDerived_X0_setOf
set_option maxRecDepth 20000 in
theorem ggX0_isDerived_X0_leastLike : GoodIn wsX0_isDerived wsX0_leastLike := goodIn_r _ [27, 28, 29, 30, 31, 32, 33, 3, 34, 35, 36, 37, 38, 39, 40, 41, 42, 43, 44] (by decide +kernel) (by decide +kernel)
set_option maxRecDepth 20000 in
theorem gX0_isDerived_X0_leastLike : GoodIn wsX0_isDerived (va_wsS RX0 81 yX0_leastLike wsX0_leastLike) := goodIn_app (goodIn_of _ (by decide +kernel)) ggX0_isDerived_X0_leastLike
set_option maxRecDepth 20000 in
theorem ggX0_keptSets_X0_requireRow : GoodIn wsX0_keptSets wsX0_requireRow := goodIn_ca (goodIn_r _ [4, 5, 6] (by decide +kernel) (by decide +kernel)) (goodIn_sub (fun _ h => List.mem_cons_of_mem _ (List.mem_append_left _ (List.mem_append_right _ h))) (by decide +kernel))
set_option maxRecDepth 20000 in
theorem gX0_keptSets_X0_requireRow : GoodIn wsX0_keptSets (va_wsS RX0 20 yX0_requireRow wsX0_requireRow) := goodIn_app (goodIn_of _ (by decide +kernel)) ggX0_keptSets_X0_requireRow
set_option maxRecDepth 20000 in
theorem ggX0_keptSets_X0_requireForm : GoodIn wsX0_keptSets wsX0_requireForm := goodIn_ca (goodIn_r _ [9, 10, 11, 3, 12, 13, 14] (by decide +kernel) (by decide +kernel)) (goodIn_sub (fun _ h => List.mem_cons_of_mem _ (List.mem_append_right _ h)) (by decide +kernel))
set_option maxRecDepth 20000 in
theorem gX0_keptSets_X0_requireForm : GoodIn wsX0_keptSets (va_wsS RX0 47 yX0_requireForm wsX0_requireForm) := goodIn_app (goodIn_of _ (by decide +kernel)) ggX0_keptSets_X0_requireForm
set_option maxRecDepth 20000 in
theorem ggX0_keptSets_X0_requireRange : GoodIn wsX0_keptSets wsX0_requireRange := goodIn_ca (goodIn_r _ [12, 13, 14] (by decide +kernel) (by decide +kernel)) (goodIn_sub (fun _ h => List.mem_cons_of_mem _ (List.mem_append_right _ h)) (by decide +kernel))
set_option maxRecDepth 20000 in
theorem gX0_keptSets_X0_requireRange : GoodIn wsX0_keptSets (va_wsS RX0 28 yX0_requireRange wsX0_requireRange) := goodIn_app (goodIn_of _ (by decide +kernel)) ggX0_keptSets_X0_requireRange
set_option maxRecDepth 20000 in
theorem ggX0_keptSets_X0_rowAt : GoodIn wsX0_keptSets wsX0_rowAt := goodIn_r _ [18, 19, 20, 61, 62, 63, 64] (by decide +kernel) (by decide +kernel)
set_option maxRecDepth 20000 in
theorem gX0_keptSets_X0_rowAt : GoodIn wsX0_keptSets (wsV RX0 32 RX0 yX0_rowAt wsX0_rowAt) := goodIn_app (goodIn_of _ (by decide +kernel)) ggX0_keptSets_X0_rowAt
set_option maxRecDepth 20000 in
theorem ggX0_keptSets_X0_codeOf : GoodIn wsX0_keptSets wsX0_codeOf := goodIn_r _ [23] (by decide +kernel) (by decide +kernel)
set_option maxRecDepth 20000 in
theorem gX0_keptSets_X0_codeOf : GoodIn wsX0_keptSets (va_wsS RX0 50 yX0_codeOf wsX0_codeOf) := goodIn_app (goodIn_of _ (by decide +kernel)) ggX0_keptSets_X0_codeOf
set_option maxRecDepth 20000 in
theorem ggX0_keptSets_X0_formWith : GoodIn wsX0_keptSets wsX0_formWith := goodIn_r _ [26, 27, 28, 3, 29, 30, 31, 32, 33, 34, 35, 36, 37, 38, 39, 40, 41] (by decide +kernel) (by decide +kernel)
set_option maxRecDepth 20000 in
theorem gX0_keptSets_X0_formWith : GoodIn wsX0_keptSets (va_wsS RX0 54 yX0_formWith wsX0_formWith) := goodIn_app (goodIn_of _ (by decide +kernel)) ggX0_keptSets_X0_formWith
set_option maxRecDepth 20000 in
theorem ggX0_keptSets_X0_countKept : GoodIn wsX0_keptSets wsX0_countKept := goodIn_r _ [44, 45, 46, 3, 47, 27, 28, 29, 30, 48, 49, 50, 38, 39, 40, 41, 51, 52, 53, 54, 55, 56, 57, 58, 59, 60] (by decide +kernel) (by decide +kernel)
set_option maxRecDepth 20000 in
theorem gX0_keptSets_X0_countKept : GoodIn wsX0_keptSets (va_wsS RX0 90 yX0_countKept wsX0_countKept) := goodIn_app (goodIn_of _ (by decide +kernel)) ggX0_keptSets_X0_countKept
set_option maxRecDepth 20000 in
theorem ggX0_longestKept_X0_requireRow : GoodIn wsX0_longestKept wsX0_requireRow := goodIn_ca (goodIn_r _ [8, 9, 10] (by decide +kernel) (by decide +kernel)) (goodIn_sub (fun _ h => List.mem_cons_of_mem _ (List.mem_append_left _ (List.mem_append_right _ h))) (by decide +kernel))
set_option maxRecDepth 20000 in
theorem gX0_longestKept_X0_requireRow : GoodIn wsX0_longestKept (va_wsS RX0 20 yX0_requireRow wsX0_requireRow) := goodIn_app (goodIn_of _ (by decide +kernel)) ggX0_longestKept_X0_requireRow
set_option maxRecDepth 20000 in
theorem ggX0_longestKept_X0_requireForm : GoodIn wsX0_longestKept wsX0_requireForm := goodIn_ca (goodIn_r _ [13, 14, 15, 7, 16, 17, 18] (by decide +kernel) (by decide +kernel)) (goodIn_sub (fun _ h => List.mem_cons_of_mem _ (List.mem_append_right _ h)) (by decide +kernel))
set_option maxRecDepth 20000 in
theorem gX0_longestKept_X0_requireForm : GoodIn wsX0_longestKept (va_wsS RX0 47 yX0_requireForm wsX0_requireForm) := goodIn_app (goodIn_of _ (by decide +kernel)) ggX0_longestKept_X0_requireForm
set_option maxRecDepth 20000 in
theorem ggX0_longestKept_X0_rowAt : GoodIn wsX0_longestKept wsX0_rowAt := goodIn_r _ [22, 23, 24, 52, 53, 54, 55] (by decide +kernel) (by decide +kernel)
set_option maxRecDepth 20000 in
theorem gX0_longestKept_X0_rowAt : GoodIn wsX0_longestKept (wsV RX0 32 RX0 yX0_rowAt wsX0_rowAt) := goodIn_app (goodIn_of _ (by decide +kernel)) ggX0_longestKept_X0_rowAt
set_option maxRecDepth 20000 in
theorem ggX0_longestKept_X0_codeOf : GoodIn wsX0_longestKept wsX0_codeOf := goodIn_r _ [27] (by decide +kernel) (by decide +kernel)
set_option maxRecDepth 20000 in
theorem gX0_longestKept_X0_codeOf : GoodIn wsX0_longestKept (va_wsS RX0 50 yX0_codeOf wsX0_codeOf) := goodIn_app (goodIn_of _ (by decide +kernel)) ggX0_longestKept_X0_codeOf
set_option maxRecDepth 20000 in
theorem ggX0_longestKept_X0_formWith : GoodIn wsX0_longestKept wsX0_formWith := goodIn_r _ [30, 31, 32, 7, 33, 34, 35, 36, 37, 38, 39, 40, 41, 42, 43, 44, 45] (by decide +kernel) (by decide +kernel)
set_option maxRecDepth 20000 in
theorem gX0_longestKept_X0_formWith : GoodIn wsX0_longestKept (va_wsS RX0 54 yX0_formWith wsX0_formWith) := goodIn_app (goodIn_of _ (by decide +kernel)) ggX0_longestKept_X0_formWith
set_option maxRecDepth 20000 in
theorem ggX0_longestKept_X0_placesOf : GoodIn wsX0_longestKept wsX0_placesOf := goodIn_r _ [48, 31, 32, 7, 33, 34, 49, 50, 51, 42, 43, 44, 45] (by decide +kernel) (by decide +kernel)
set_option maxRecDepth 20000 in
theorem gX0_longestKept_X0_placesOf : GoodIn wsX0_longestKept (va_wsS RX0 94 yX0_placesOf wsX0_placesOf) := goodIn_app (goodIn_of _ (by decide +kernel)) ggX0_longestKept_X0_placesOf
set_option maxRecDepth 20000 in
theorem ggX0_longestKept_X0_entryAt : GoodIn wsX0_longestKept wsX0_entryAt := goodIn_r _ [33, 34] (by decide +kernel) (by decide +kernel)
set_option maxRecDepth 20000 in
theorem gX0_longestKept_X0_entryAt : GoodIn wsX0_longestKept (va_wsS RX0 36 yX0_entryAt wsX0_entryAt) := goodIn_app (goodIn_of _ (by decide +kernel)) ggX0_longestKept_X0_entryAt
set_option maxRecDepth 20000 in
theorem ggX0_mostKept_X0_requireRow : GoodIn wsX0_mostKept wsX0_requireRow := goodIn_ca (goodIn_r _ [4, 5, 6] (by decide +kernel) (by decide +kernel)) (goodIn_sub (fun _ h => List.mem_cons_of_mem _ (List.mem_append_left _ (List.mem_append_right _ h))) (by decide +kernel))
set_option maxRecDepth 20000 in
theorem gX0_mostKept_X0_requireRow : GoodIn wsX0_mostKept (va_wsS RX0 20 yX0_requireRow wsX0_requireRow) := goodIn_app (goodIn_of _ (by decide +kernel)) ggX0_mostKept_X0_requireRow
set_option maxRecDepth 20000 in
theorem ggX0_mostKept_X0_requireRange : GoodIn wsX0_mostKept wsX0_requireRange := goodIn_ca (goodIn_r _ [9, 10, 11] (by decide +kernel) (by decide +kernel)) (goodIn_sub (fun _ h => List.mem_cons_of_mem _ (List.mem_append_right _ h)) (by decide +kernel))
set_option maxRecDepth 20000 in
theorem gX0_mostKept_X0_requireRange : GoodIn wsX0_mostKept (va_wsS RX0 28 yX0_requireRange wsX0_requireRange) := goodIn_app (goodIn_of _ (by decide +kernel)) ggX0_mostKept_X0_requireRange
set_option maxRecDepth 20000 in
theorem ggX0_mostKept_X0_rowAt : GoodIn wsX0_mostKept wsX0_rowAt := goodIn_r _ [15, 16, 17, 58, 59, 60, 61] (by decide +kernel) (by decide +kernel)
set_option maxRecDepth 20000 in
theorem gX0_mostKept_X0_rowAt : GoodIn wsX0_mostKept (wsV RX0 32 RX0 yX0_rowAt wsX0_rowAt) := goodIn_app (goodIn_of _ (by decide +kernel)) ggX0_mostKept_X0_rowAt
set_option maxRecDepth 20000 in
theorem ggX0_mostKept_X0_entryAt : GoodIn wsX0_mostKept wsX0_entryAt := goodIn_r _ [20, 21] (by decide +kernel) (by decide +kernel)
set_option maxRecDepth 20000 in
theorem gX0_mostKept_X0_entryAt : GoodIn wsX0_mostKept (va_wsS RX0 36 yX0_entryAt wsX0_entryAt) := goodIn_app (goodIn_of _ (by decide +kernel)) ggX0_mostKept_X0_entryAt
set_option maxRecDepth 20000 in
theorem ggX0_mostKept_X0_codeOf : GoodIn wsX0_mostKept wsX0_codeOf := goodIn_r _ [24] (by decide +kernel) (by decide +kernel)
set_option maxRecDepth 20000 in
theorem gX0_mostKept_X0_codeOf : GoodIn wsX0_mostKept (va_wsS RX0 50 yX0_codeOf wsX0_codeOf) := goodIn_app (goodIn_of _ (by decide +kernel)) ggX0_mostKept_X0_codeOf
set_option maxRecDepth 20000 in
theorem ggX0_mostKept_X0_formWith : GoodIn wsX0_mostKept wsX0_formWith := goodIn_r _ [27, 18, 19, 3, 20, 21, 28, 29, 30, 31, 32, 33, 34, 35, 36, 37, 38] (by decide +kernel) (by decide +kernel)
set_option maxRecDepth 20000 in
theorem gX0_mostKept_X0_formWith : GoodIn wsX0_mostKept (va_wsS RX0 54 yX0_formWith wsX0_formWith) := goodIn_app (goodIn_of _ (by decide +kernel)) ggX0_mostKept_X0_formWith
set_option maxRecDepth 20000 in
theorem ggX0_mostKept_X0_countKept : GoodIn wsX0_mostKept wsX0_countKept := goodIn_r _ [41, 42, 43, 3, 44, 18, 19, 20, 21, 45, 46, 47, 35, 36, 37, 38, 48, 49, 50, 51, 52, 53, 54, 55, 56, 57] (by decide +kernel) (by decide +kernel)
set_option maxRecDepth 20000 in
theorem gX0_mostKept_X0_countKept : GoodIn wsX0_mostKept (va_wsS RX0 90 yX0_countKept wsX0_countKept) := goodIn_app (goodIn_of _ (by decide +kernel)) ggX0_mostKept_X0_countKept
set_option maxRecDepth 20000 in
theorem ggX0_cuts_X0_requireRange : GoodIn wsX0_cuts wsX0_requireRange := goodIn_ca (goodIn_r _ [6, 7, 8] (by decide +kernel) (by decide +kernel)) (goodIn_sub (fun _ h => List.mem_cons_of_mem _ (List.mem_append_right _ h)) (by decide +kernel))
set_option maxRecDepth 20000 in
theorem gX0_cuts_X0_requireRange : GoodIn wsX0_cuts (va_wsS RX0 28 yX0_requireRange wsX0_requireRange) := goodIn_app (goodIn_of _ (by decide +kernel)) ggX0_cuts_X0_requireRange
set_option maxRecDepth 20000 in
theorem ggX0_cuts_X0_formWith : GoodIn wsX0_cuts wsX0_formWith := goodIn_r _ [11, 12, 13, 5, 14, 15, 16, 17, 18, 19, 20, 21, 22, 23, 24, 25, 26] (by decide +kernel) (by decide +kernel)
set_option maxRecDepth 20000 in
theorem gX0_cuts_X0_formWith : GoodIn wsX0_cuts (va_wsS RX0 54 yX0_formWith wsX0_formWith) := goodIn_app (goodIn_of _ (by decide +kernel)) ggX0_cuts_X0_formWith
set_option maxRecDepth 20000 in
theorem ggX0_cuts_X0_setOf : GoodIn wsX0_cuts wsX0_setOf := goodIn_r _ [29, 12, 13, 5, 14, 15] (by decide +kernel) (by decide +kernel)
set_option maxRecDepth 20000 in
theorem gX0_cuts_X0_setOf : GoodIn wsX0_cuts (va_wsS RX0 77 yX0_setOf wsX0_setOf) := goodIn_app (goodIn_of _ (by decide +kernel)) ggX0_cuts_X0_setOf
set_option maxRecDepth 20000 in
theorem ggX0_write_X0_requireRange : GoodIn wsX0_write wsX0_requireRange := goodIn_ca (goodIn_r _ [8, 9, 10] (by decide +kernel) (by decide +kernel)) (goodIn_sub (fun _ h => List.mem_cons_of_mem _ (List.mem_append_right _ h)) (by decide +kernel))
set_option maxRecDepth 20000 in
theorem gX0_write_X0_requireRange : GoodIn wsX0_write (va_wsS RX0 28 yX0_requireRange wsX0_requireRange) := goodIn_app (goodIn_of _ (by decide +kernel)) ggX0_write_X0_requireRange
set_option maxRecDepth 20000 in
theorem ggX0_write_X0_phraseHas : GoodIn wsX0_write wsX0_phraseHas := goodIn_r _ [14, 3, 4, 15, 16, 7, 17, 18, 19, 20, 21, 26, 27, 28, 29] (by decide +kernel) (by decide +kernel)
set_option maxRecDepth 20000 in
theorem gX0_write_X0_phraseHas : GoodIn wsX0_write (wsV RX0 103 RX0 yX0_phraseHas wsX0_phraseHas) := goodIn_app (goodIn_of _ (by decide +kernel)) ggX0_write_X0_phraseHas
set_option maxRecDepth 20000 in
theorem ggX0_write_X0_withEntry : GoodIn wsX0_write wsX0_withEntry := goodIn_r _ [24, 21, 25] (by decide +kernel) (by decide +kernel)
set_option maxRecDepth 20000 in
theorem gX0_write_X0_withEntry : GoodIn wsX0_write (va_wsS RX0 9 yX0_withEntry wsX0_withEntry) := goodIn_app (goodIn_of _ (by decide +kernel)) ggX0_write_X0_withEntry
set_option maxRecDepth 20000 in
theorem ggX0_formsWithPhrase_X0_requireRow : GoodIn wsX0_formsWithPhrase wsX0_requireRow := goodIn_ca (goodIn_r _ [6, 7, 8] (by decide +kernel) (by decide +kernel)) (goodIn_sub (fun _ h => List.mem_cons_of_mem _ (List.mem_append_right _ h)) (by decide +kernel))
set_option maxRecDepth 20000 in
theorem gX0_formsWithPhrase_X0_requireRow : GoodIn wsX0_formsWithPhrase (va_wsS RX0 20 yX0_requireRow wsX0_requireRow) := goodIn_app (goodIn_of _ (by decide +kernel)) ggX0_formsWithPhrase_X0_requireRow
set_option maxRecDepth 20000 in
theorem ggX0_formsWithPhrase_X0_rowAt : GoodIn wsX0_formsWithPhrase wsX0_rowAt := goodIn_r _ [12, 13, 14, 41, 42, 43, 44] (by decide +kernel) (by decide +kernel)
set_option maxRecDepth 20000 in
theorem gX0_formsWithPhrase_X0_rowAt : GoodIn wsX0_formsWithPhrase (wsV RX0 32 RX0 yX0_rowAt wsX0_rowAt) := goodIn_app (goodIn_of _ (by decide +kernel)) ggX0_formsWithPhrase_X0_rowAt
set_option maxRecDepth 20000 in
theorem ggX0_formsWithPhrase_X0_formWith : GoodIn wsX0_formsWithPhrase wsX0_formWith := goodIn_r _ [17, 18, 19, 5, 20, 21, 22, 23, 24, 25, 26, 27, 28, 29, 30, 31, 32] (by decide +kernel) (by decide +kernel)
set_option maxRecDepth 20000 in
theorem gX0_formsWithPhrase_X0_formWith : GoodIn wsX0_formsWithPhrase (va_wsS RX0 54 yX0_formWith wsX0_formWith) := goodIn_app (goodIn_of _ (by decide +kernel)) ggX0_formsWithPhrase_X0_formWith
set_option maxRecDepth 20000 in
theorem ggX0_formsWithPhrase_X0_phraseBegin : GoodIn wsX0_formsWithPhrase wsX0_phraseBegin := goodIn_r _ [36, 37, 1, 18, 19, 5, 20, 21, 38, 39, 40, 41, 42, 43, 44] (by decide +kernel) (by decide +kernel)
set_option maxRecDepth 20000 in
theorem gX0_formsWithPhrase_X0_phraseBegin : GoodIn wsX0_formsWithPhrase (wsV RX0 123 RX0 yX0_phraseBegin wsX0_phraseBegin) := goodIn_app (goodIn_of _ (by decide +kernel)) ggX0_formsWithPhrase_X0_phraseBegin
set_option maxRecDepth 20000 in
theorem ggX0_placeOfPhrase_X0_requireRow : GoodIn wsX0_placeOfPhrase wsX0_requireRow := goodIn_ca (goodIn_r _ [5, 6, 7] (by decide +kernel) (by decide +kernel)) (goodIn_sub (fun _ h => List.mem_cons_of_mem _ (List.mem_append_left _ (List.mem_append_right _ h))) (by decide +kernel))
set_option maxRecDepth 20000 in
theorem gX0_placeOfPhrase_X0_requireRow : GoodIn wsX0_placeOfPhrase (va_wsS RX0 20 yX0_requireRow wsX0_requireRow) := goodIn_app (goodIn_of _ (by decide +kernel)) ggX0_placeOfPhrase_X0_requireRow
set_option maxRecDepth 20000 in
theorem ggX0_placeOfPhrase_X0_requireRange : GoodIn wsX0_placeOfPhrase wsX0_requireRange := goodIn_ca (goodIn_r _ [10, 11, 12] (by decide +kernel) (by decide +kernel)) (goodIn_sub (fun _ h => List.mem_cons_of_mem _ (List.mem_append_right _ h)) (by decide +kernel))
set_option maxRecDepth 20000 in
theorem gX0_placeOfPhrase_X0_requireRange : GoodIn wsX0_placeOfPhrase (va_wsS RX0 28 yX0_requireRange wsX0_requireRange) := goodIn_app (goodIn_of _ (by decide +kernel)) ggX0_placeOfPhrase_X0_requireRange
set_option maxRecDepth 20000 in
theorem ggX0_placeOfPhrase_X0_rowAt : GoodIn wsX0_placeOfPhrase wsX0_rowAt := goodIn_r _ [16, 17, 18, 45, 46, 47, 48] (by decide +kernel) (by decide +kernel)
set_option maxRecDepth 20000 in
theorem gX0_placeOfPhrase_X0_rowAt : GoodIn wsX0_placeOfPhrase (wsV RX0 32 RX0 yX0_rowAt wsX0_rowAt) := goodIn_app (goodIn_of _ (by decide +kernel)) ggX0_placeOfPhrase_X0_rowAt
set_option maxRecDepth 20000 in
theorem ggX0_placeOfPhrase_X0_formWith : GoodIn wsX0_placeOfPhrase wsX0_formWith := goodIn_r _ [21, 22, 23, 4, 24, 25, 26, 27, 28, 29, 30, 31, 32, 33, 34, 35, 36] (by decide +kernel) (by decide +kernel)
set_option maxRecDepth 20000 in
theorem gX0_placeOfPhrase_X0_formWith : GoodIn wsX0_placeOfPhrase (va_wsS RX0 54 yX0_formWith wsX0_formWith) := goodIn_app (goodIn_of _ (by decide +kernel)) ggX0_placeOfPhrase_X0_formWith
set_option maxRecDepth 20000 in
theorem ggX0_placeOfPhrase_X0_phraseBegin : GoodIn wsX0_placeOfPhrase wsX0_phraseBegin := goodIn_r _ [40, 41, 1, 22, 23, 4, 24, 25, 42, 43, 44, 45, 46, 47, 48] (by decide +kernel) (by decide +kernel)
set_option maxRecDepth 20000 in
theorem gX0_placeOfPhrase_X0_phraseBegin : GoodIn wsX0_placeOfPhrase (wsV RX0 123 RX0 yX0_phraseBegin wsX0_phraseBegin) := goodIn_app (goodIn_of _ (by decide +kernel)) ggX0_placeOfPhrase_X0_phraseBegin
set_option maxRecDepth 20000 in
theorem ggX0_complete_X0_requireRow : GoodIn wsX0_complete wsX0_requireRow := goodIn_ca (goodIn_r _ [6, 7, 8] (by decide +kernel) (by decide +kernel)) (goodIn_sub (fun _ h => List.mem_cons_of_mem _ (List.mem_append_right _ h)) (by decide +kernel))
set_option maxRecDepth 20000 in
theorem gX0_complete_X0_requireRow : GoodIn wsX0_complete (va_wsS RX0 20 yX0_requireRow wsX0_requireRow) := goodIn_app (goodIn_of _ (by decide +kernel)) ggX0_complete_X0_requireRow
set_option maxRecDepth 20000 in
theorem ggX0_complete_X0_rowAt : GoodIn wsX0_complete wsX0_rowAt := goodIn_r _ [12, 13, 14, 38, 39, 40, 41] (by decide +kernel) (by decide +kernel)
set_option maxRecDepth 20000 in
theorem gX0_complete_X0_rowAt : GoodIn wsX0_complete (wsV RX0 32 RX0 yX0_rowAt wsX0_rowAt) := goodIn_app (goodIn_of _ (by decide +kernel)) ggX0_complete_X0_rowAt
set_option maxRecDepth 20000 in
theorem ggX0_complete_X0_entryAt : GoodIn wsX0_complete wsX0_entryAt := goodIn_r _ [17, 18] (by decide +kernel) (by decide +kernel)
set_option maxRecDepth 20000 in
theorem gX0_complete_X0_entryAt : GoodIn wsX0_complete (va_wsS RX0 36 yX0_entryAt wsX0_entryAt) := goodIn_app (goodIn_of _ (by decide +kernel)) ggX0_complete_X0_entryAt
set_option maxRecDepth 20000 in
theorem ggX0_complete_X0_phraseHas : GoodIn wsX0_complete wsX0_phraseHas := goodIn_r _ [22, 1, 2, 23, 24, 5, 25, 15, 16, 17, 18, 38, 39, 40, 41] (by decide +kernel) (by decide +kernel)
set_option maxRecDepth 20000 in
theorem gX0_complete_X0_phraseHas : GoodIn wsX0_complete (wsV RX0 103 RX0 yX0_phraseHas wsX0_phraseHas) := goodIn_app (goodIn_of _ (by decide +kernel)) ggX0_complete_X0_phraseHas
set_option maxRecDepth 20000 in
theorem ggX0_complete_X0_withEntry : GoodIn wsX0_complete wsX0_withEntry := goodIn_r _ [28, 18, 29] (by decide +kernel) (by decide +kernel)
set_option maxRecDepth 20000 in
theorem gX0_complete_X0_withEntry : GoodIn wsX0_complete (va_wsS RX0 9 yX0_withEntry wsX0_withEntry) := goodIn_app (goodIn_of _ (by decide +kernel)) ggX0_complete_X0_withEntry
set_option maxRecDepth 20000 in
theorem ggX0_complete_X0_replaceRow : GoodIn wsX0_complete wsX0_replaceRow := goodIn_r _ [33, 34, 35, 36, 5, 37, 13, 14, 15, 16, 17, 18, 38, 39, 40, 41] (by decide +kernel) (by decide +kernel)
set_option maxRecDepth 20000 in
theorem gX0_complete_X0_replaceRow : GoodIn wsX0_complete (wsV RX0 58 RX0 yX0_replaceRow wsX0_replaceRow) := goodIn_app (goodIn_of _ (by decide +kernel)) ggX0_complete_X0_replaceRow
set_option maxRecDepth 20000 in
theorem ggX0_requireForm_X0_requireRange : GoodIn wsX0_requireForm wsX0_requireRange := goodIn_ca (goodIn_r _ [4, 5, 6] (by decide +kernel) (by decide +kernel)) (goodIn_sub (fun _ h => List.mem_cons_of_mem _ (List.mem_append_right _ h)) (by decide +kernel))
set_option maxRecDepth 20000 in
theorem gX0_requireForm_X0_requireRange : GoodIn wsX0_requireForm (va_wsS RX0 28 yX0_requireRange wsX0_requireRange) := goodIn_app (goodIn_of _ (by decide +kernel)) ggX0_requireForm_X0_requireRange
set_option maxRecDepth 20000 in
theorem ggX0_replaceRow_X0_setRow : GoodIn wsX0_replaceRow wsX0_setRow := goodIn_r _ [5, 6, 7, 12, 13, 14, 15] (by decide +kernel) (by decide +kernel)
set_option maxRecDepth 20000 in
theorem gX0_replaceRow_X0_setRow : GoodIn wsX0_replaceRow (wsV RX0 43 RX0 yX0_setRow wsX0_setRow) := goodIn_app (goodIn_of _ (by decide +kernel)) ggX0_replaceRow_X0_setRow
set_option maxRecDepth 20000 in
theorem ggX0_replaceRow_X0_entryAt : GoodIn wsX0_replaceRow wsX0_entryAt := goodIn_r _ [10, 11] (by decide +kernel) (by decide +kernel)
set_option maxRecDepth 20000 in
theorem gX0_replaceRow_X0_entryAt : GoodIn wsX0_replaceRow (va_wsS RX0 36 yX0_entryAt wsX0_entryAt) := goodIn_app (goodIn_of _ (by decide +kernel)) ggX0_replaceRow_X0_entryAt
set_option maxRecDepth 20000 in
theorem ggX0_phraseHas_X0_setOf : GoodIn wsX0_phraseHas wsX0_setOf := goodIn_r _ [6, 7, 8, 5, 9, 10] (by decide +kernel) (by decide +kernel)
set_option maxRecDepth 20000 in
theorem gX0_phraseHas_X0_setOf : GoodIn wsX0_phraseHas (va_wsS RX0 77 yX0_setOf wsX0_setOf) := goodIn_app (goodIn_of _ (by decide +kernel)) ggX0_phraseHas_X0_setOf
set_option maxRecDepth 20000 in
theorem ggX0_phraseBegin_X0_entryAt : GoodIn wsX0_phraseBegin wsX0_entryAt := goodIn_r _ [6, 7] (by decide +kernel) (by decide +kernel)
set_option maxRecDepth 20000 in
theorem gX0_phraseBegin_X0_entryAt : GoodIn wsX0_phraseBegin (va_wsS RX0 36 yX0_entryAt wsX0_entryAt) := goodIn_app (goodIn_of _ (by decide +kernel)) ggX0_phraseBegin_X0_entryAt
set_option maxRecDepth 20000 in
theorem ggX0_phraseBegin_X0_placeIn : GoodIn wsX0_phraseBegin wsX0_placeIn := goodIn_r _ [10, 3, 4, 5, 6, 7] (by decide +kernel) (by decide +kernel)
set_option maxRecDepth 20000 in
theorem gX0_phraseBegin_X0_placeIn : GoodIn wsX0_phraseBegin (va_wsS RX0 40 yX0_placeIn wsX0_placeIn) := goodIn_app (goodIn_of _ (by decide +kernel)) ggX0_phraseBegin_X0_placeIn
set_option maxRecDepth 20000 in
theorem ggX0_wrap_J9_floorMod_7cf53 : GoodIn wsX0_wrap wsJ9_floorMod_7cf53 := goodIn_r _ [4] (by decide +kernel) (by decide +kernel)
set_option maxRecDepth 20000 in
theorem gX0_wrap_J9_floorMod_7cf53 : GoodIn wsX0_wrap (va_wsS RX0 147 yJ9_floorMod_7cf53 wsJ9_floorMod_7cf53) := goodIn_app (goodIn_of _ (by decide +kernel)) ggX0_wrap_J9_floorMod_7cf53
set_option maxRecDepth 20000 in
theorem ggX0_intervalAt_X0_entryAt : GoodIn wsX0_intervalAt wsX0_entryAt := goodIn_r _ [4, 5] (by decide +kernel) (by decide +kernel)
set_option maxRecDepth 20000 in
theorem gX0_intervalAt_X0_entryAt : GoodIn wsX0_intervalAt (va_wsS RX0 36 yX0_entryAt wsX0_entryAt) := goodIn_app (goodIn_of _ (by decide +kernel)) ggX0_intervalAt_X0_entryAt
set_option maxRecDepth 20000 in
theorem ggX0_intervalAt_X0_wrap : GoodIn wsX0_intervalAt wsX0_wrap := goodIn_r _ [8, 9, 10, 11, 12] (by decide +kernel) (by decide +kernel)
set_option maxRecDepth 20000 in
theorem gX0_intervalAt_X0_wrap : GoodIn wsX0_intervalAt (va_wsS RX0 65 yX0_wrap wsX0_wrap) := goodIn_app (goodIn_of _ (by decide +kernel)) ggX0_intervalAt_X0_wrap
set_option maxRecDepth 20000 in
theorem ggX0_placeIn_X0_entryAt : GoodIn wsX0_placeIn wsX0_entryAt := goodIn_r _ [4, 5] (by decide +kernel) (by decide +kernel)
set_option maxRecDepth 20000 in
theorem gX0_placeIn_X0_entryAt : GoodIn wsX0_placeIn (va_wsS RX0 36 yX0_entryAt wsX0_entryAt) := goodIn_app (goodIn_of _ (by decide +kernel)) ggX0_placeIn_X0_entryAt
set_option maxRecDepth 20000 in
theorem ggX0_formWith_X0_entryAt : GoodIn wsX0_formWith wsX0_entryAt := goodIn_r _ [4, 5] (by decide +kernel) (by decide +kernel)
set_option maxRecDepth 20000 in
theorem gX0_formWith_X0_entryAt : GoodIn wsX0_formWith (va_wsS RX0 36 yX0_entryAt wsX0_entryAt) := goodIn_app (goodIn_of _ (by decide +kernel)) ggX0_formWith_X0_entryAt
set_option maxRecDepth 20000 in
theorem ggX0_formWith_X0_wrap : GoodIn wsX0_formWith wsX0_wrap := goodIn_r _ [8, 9, 10, 11, 12] (by decide +kernel) (by decide +kernel)
set_option maxRecDepth 20000 in
theorem gX0_formWith_X0_wrap : GoodIn wsX0_formWith (va_wsS RX0 65 yX0_wrap wsX0_wrap) := goodIn_app (goodIn_of _ (by decide +kernel)) ggX0_formWith_X0_wrap
set_option maxRecDepth 20000 in
theorem ggX0_formWith_X0_withEntry : GoodIn wsX0_formWith wsX0_withEntry := goodIn_r _ [15, 5, 16] (by decide +kernel) (by decide +kernel)
set_option maxRecDepth 20000 in
theorem gX0_formWith_X0_withEntry : GoodIn wsX0_formWith (va_wsS RX0 9 yX0_withEntry wsX0_withEntry) := goodIn_app (goodIn_of _ (by decide +kernel)) ggX0_formWith_X0_withEntry
set_option maxRecDepth 20000 in
theorem ggX0_setOf_X0_entryAt : GoodIn wsX0_setOf wsX0_entryAt := goodIn_r _ [4, 5] (by decide +kernel) (by decide +kernel)
set_option maxRecDepth 20000 in
theorem gX0_setOf_X0_entryAt : GoodIn wsX0_setOf (va_wsS RX0 36 yX0_entryAt wsX0_entryAt) := goodIn_app (goodIn_of _ (by decide +kernel)) ggX0_setOf_X0_entryAt
set_option maxRecDepth 20000 in
theorem ggX0_inverted_X0_wrap : GoodIn wsX0_inverted wsX0_wrap := goodIn_r _ [4, 5, 6, 7, 8] (by decide +kernel) (by decide +kernel)
set_option maxRecDepth 20000 in
theorem gX0_inverted_X0_wrap : GoodIn wsX0_inverted (va_wsS RX0 65 yX0_wrap wsX0_wrap) := goodIn_app (goodIn_of _ (by decide +kernel)) ggX0_inverted_X0_wrap
set_option maxRecDepth 20000 in
theorem ggX0_leastLike_X0_inverted : GoodIn wsX0_leastLike wsX0_inverted := goodIn_r _ [8, 9, 10, 7, 11, 12, 13, 14, 15] (by decide +kernel) (by decide +kernel)
set_option maxRecDepth 20000 in
theorem gX0_leastLike_X0_inverted : GoodIn wsX0_leastLike (va_wsS RX0 150 yX0_inverted wsX0_inverted) := goodIn_app (goodIn_of _ (by decide +kernel)) ggX0_leastLike_X0_inverted
set_option maxRecDepth 20000 in
theorem ggX0_leastLike_X0_transposed : GoodIn wsX0_leastLike wsX0_transposed := goodIn_r _ [18] (by decide +kernel) (by decide +kernel)
set_option maxRecDepth 20000 in
theorem gX0_leastLike_X0_transposed : GoodIn wsX0_leastLike (va_wsS RX0 84 yX0_transposed wsX0_transposed) := goodIn_app (goodIn_of _ (by decide +kernel)) ggX0_leastLike_X0_transposed
set_option maxRecDepth 20000 in
theorem ggX0_placesOf_X0_entryAt : GoodIn wsX0_placesOf wsX0_entryAt := goodIn_r _ [4, 5] (by decide +kernel) (by decide +kernel)
set_option maxRecDepth 20000 in
theorem gX0_placesOf_X0_entryAt : GoodIn wsX0_placesOf (va_wsS RX0 36 yX0_entryAt wsX0_entryAt) := goodIn_app (goodIn_of _ (by decide +kernel)) ggX0_placesOf_X0_entryAt
set_option maxRecDepth 20000 in
theorem ggX0_placesOf_X0_placeIn : GoodIn wsX0_placesOf wsX0_placeIn := goodIn_r _ [8, 1, 2, 3, 4, 5] (by decide +kernel) (by decide +kernel)
set_option maxRecDepth 20000 in
theorem gX0_placesOf_X0_placeIn : GoodIn wsX0_placesOf (va_wsS RX0 40 yX0_placeIn wsX0_placeIn) := goodIn_app (goodIn_of _ (by decide +kernel)) ggX0_placesOf_X0_placeIn
set_option maxRecDepth 20000 in
theorem ggX0_placesOf_X0_withEntry : GoodIn wsX0_placesOf wsX0_withEntry := goodIn_r _ [11, 5, 12] (by decide +kernel) (by decide +kernel)
set_option maxRecDepth 20000 in
theorem gX0_placesOf_X0_withEntry : GoodIn wsX0_placesOf (va_wsS RX0 9 yX0_withEntry wsX0_withEntry) := goodIn_app (goodIn_of _ (by decide +kernel)) ggX0_placesOf_X0_withEntry
set_option maxRecDepth 20000 in
theorem ggX0_countKept_X0_placesOf : GoodIn wsX0_countKept wsX0_placesOf := goodIn_r _ [4, 5, 6, 3, 7, 8, 9, 10, 11, 12, 13, 14, 15] (by decide +kernel) (by decide +kernel)
set_option maxRecDepth 20000 in
theorem gX0_countKept_X0_placesOf : GoodIn wsX0_countKept (va_wsS RX0 94 yX0_placesOf wsX0_placesOf) := goodIn_app (goodIn_of _ (by decide +kernel)) ggX0_countKept_X0_placesOf
set_option maxRecDepth 20000 in
theorem ggX0_countKept_X0_areNeighbours : GoodIn wsX0_countKept wsX0_areNeighbours := goodIn_r _ [18, 19, 20, 21, 22, 23, 24, 25, 5, 6, 3, 7, 8] (by decide +kernel) (by decide +kernel)
set_option maxRecDepth 20000 in
theorem gX0_countKept_X0_areNeighbours : GoodIn wsX0_countKept (va_wsS RX0 156 yX0_areNeighbours wsX0_areNeighbours) := goodIn_app (goodIn_of _ (by decide +kernel)) ggX0_countKept_X0_areNeighbours
set_option maxRecDepth 20000 in
theorem ggX0_areNeighbours_X0_entryAt : GoodIn wsX0_areNeighbours wsX0_entryAt := goodIn_r _ [11, 12] (by decide +kernel) (by decide +kernel)
set_option maxRecDepth 20000 in
theorem gX0_areNeighbours_X0_entryAt : GoodIn wsX0_areNeighbours (va_wsS RX0 36 yX0_entryAt wsX0_entryAt) := goodIn_app (goodIn_of _ (by decide +kernel)) ggX0_areNeighbours_X0_entryAt
