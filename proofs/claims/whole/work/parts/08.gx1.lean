set_option maxRecDepth 20000 in
theorem ggX1_isTone_X1_in : GoodIn wsX1_isTone wsX1_in := goodIn_r _ [4] (by decide +kernel) (by decide +kernel)
set_option maxRecDepth 20000 in
theorem gX1_isTone_X1_in : GoodIn wsX1_isTone (va_wsS RX1 23 yX1_in wsX1_in) := goodIn_app (goodIn_of _ (by decide +kernel)) ggX1_isTone_X1_in
set_option maxRecDepth 20000 in
theorem ggX1_isForm_X1_in : GoodIn wsX1_isForm wsX1_in := goodIn_r _ [4] (by decide +kernel) (by decide +kernel)
set_option maxRecDepth 20000 in
theorem gX1_isForm_X1_in : GoodIn wsX1_isForm (va_wsS RX1 23 yX1_in wsX1_in) := goodIn_app (goodIn_of _ (by decide +kernel)) ggX1_isForm_X1_in
set_option maxRecDepth 20000 in
theorem ggX1_isForm_X1_isTone : GoodIn wsX1_isForm wsX1_isTone := goodIn_r _ [7, 1, 2, 3, 4] (by decide +kernel) (by decide +kernel)
set_option maxRecDepth 20000 in
theorem gX1_isForm_X1_isTone : GoodIn wsX1_isForm (va_wsS RX1 27 yX1_isTone wsX1_isTone) := goodIn_app (goodIn_of _ (by decide +kernel)) ggX1_isForm_X1_isTone
set_option maxRecDepth 20000 in
theorem ggX1_formAt_X1_at : GoodIn wsX1_formAt wsX1_at := goodIn_r _ [5, 6, 10, 11, 12, 13, 14] (by decide +kernel) (by decide +kernel)
set_option maxRecDepth 20000 in
theorem gX1_formAt_X1_at : GoodIn wsX1_formAt (wsV RX1 31 RX1 yX1_at wsX1_at) := goodIn_app (goodIn_of _ (by decide +kernel)) ggX1_formAt_X1_at
set_option maxRecDepth 20000 in
theorem ggX1_formAt_X1_modulo : GoodIn wsX1_formAt wsX1_modulo := goodIn_r _ [9] (by decide +kernel) (by decide +kernel)
set_option maxRecDepth 20000 in
theorem gX1_formAt_X1_modulo : GoodIn wsX1_formAt (va_wsS RX1 35 yX1_modulo wsX1_modulo) := goodIn_app (goodIn_of _ (by decide +kernel)) ggX1_formAt_X1_modulo
set_option maxRecDepth 20000 in
theorem ggX1_put_X1_isRow : GoodIn wsX1_put wsX1_isRow := goodIn_r _ [5] (by decide +kernel) (by decide +kernel)
set_option maxRecDepth 20000 in
theorem gX1_put_X1_isRow : GoodIn wsX1_put (va_wsS RX1 39 yX1_isRow wsX1_isRow) := goodIn_app (goodIn_of _ (by decide +kernel)) ggX1_put_X1_isRow
set_option maxRecDepth 20000 in
theorem ggX1_put_X1_isTone : GoodIn wsX1_put wsX1_isTone := goodIn_r _ [8, 9, 10, 4, 11] (by decide +kernel) (by decide +kernel)
set_option maxRecDepth 20000 in
theorem gX1_put_X1_isTone : GoodIn wsX1_put (va_wsS RX1 27 yX1_isTone wsX1_isTone) := goodIn_app (goodIn_of _ (by decide +kernel)) ggX1_put_X1_isTone
set_option maxRecDepth 20000 in
theorem ggX1_put_X1_goesWell : GoodIn wsX1_put wsX1_goesWell := goodIn_r _ [15, 16, 21, 22, 23, 24, 25] (by decide +kernel) (by decide +kernel)
set_option maxRecDepth 20000 in
theorem gX1_put_X1_goesWell : GoodIn wsX1_put (wsV RX1 42 RX1 yX1_goesWell wsX1_goesWell) := goodIn_app (goodIn_of _ (by decide +kernel)) ggX1_put_X1_goesWell
set_option maxRecDepth 20000 in
theorem ggX1_put_X1_at : GoodIn wsX1_put wsX1_at := goodIn_r _ [20, 1, 21, 22, 23, 24, 25] (by decide +kernel) (by decide +kernel)
set_option maxRecDepth 20000 in
theorem gX1_put_X1_at : GoodIn wsX1_put (wsV RX1 31 RX1 yX1_at wsX1_at) := goodIn_app (goodIn_of _ (by decide +kernel)) ggX1_put_X1_at
set_option maxRecDepth 20000 in
theorem ggX1_lay_X1_at : GoodIn wsX1_lay wsX1_at := goodIn_r _ [7, 1, 8, 9, 10, 11, 12] (by decide +kernel) (by decide +kernel)
set_option maxRecDepth 20000 in
theorem gX1_lay_X1_at : GoodIn wsX1_lay (wsV RX1 31 RX1 yX1_at wsX1_at) := goodIn_app (goodIn_of _ (by decide +kernel)) ggX1_lay_X1_at
set_option maxRecDepth 20000 in
theorem ggX1_take_X1_isRow : GoodIn wsX1_take wsX1_isRow := goodIn_r _ [5] (by decide +kernel) (by decide +kernel)
set_option maxRecDepth 20000 in
theorem gX1_take_X1_isRow : GoodIn wsX1_take (va_wsS RX1 39 yX1_isRow wsX1_isRow) := goodIn_app (goodIn_of _ (by decide +kernel)) ggX1_take_X1_isRow
set_option maxRecDepth 20000 in
theorem ggX1_take_X1_isForm : GoodIn wsX1_take wsX1_isForm := goodIn_r _ [8, 9, 10, 4, 11, 12, 13, 14] (by decide +kernel) (by decide +kernel)
set_option maxRecDepth 20000 in
theorem gX1_take_X1_isForm : GoodIn wsX1_take (va_wsS RX1 45 yX1_isForm wsX1_isForm) := goodIn_app (goodIn_of _ (by decide +kernel)) ggX1_take_X1_isForm
set_option maxRecDepth 20000 in
theorem ggX1_take_X1_goesWell : GoodIn wsX1_take wsX1_goesWell := goodIn_r _ [18, 19, 39, 40, 41, 42, 43] (by decide +kernel) (by decide +kernel)
set_option maxRecDepth 20000 in
theorem gX1_take_X1_goesWell : GoodIn wsX1_take (wsV RX1 42 RX1 yX1_goesWell wsX1_goesWell) := goodIn_app (goodIn_of _ (by decide +kernel)) ggX1_take_X1_goesWell
set_option maxRecDepth 20000 in
theorem ggX1_take_X1_codeOf : GoodIn wsX1_take wsX1_codeOf := goodIn_r _ [22] (by decide +kernel) (by decide +kernel)
set_option maxRecDepth 20000 in
theorem gX1_take_X1_codeOf : GoodIn wsX1_take (va_wsS RX1 49 yX1_codeOf wsX1_codeOf) := goodIn_app (goodIn_of _ (by decide +kernel)) ggX1_take_X1_codeOf
set_option maxRecDepth 20000 in
theorem ggX1_take_X1_formAt : GoodIn wsX1_take wsX1_formAt := goodIn_r _ [26, 27, 28, 29, 4, 30, 31, 32, 33, 34, 39, 40, 41, 42, 43] (by decide +kernel) (by decide +kernel)
set_option maxRecDepth 20000 in
theorem gX1_take_X1_formAt : GoodIn wsX1_take (wsV RX1 52 RX1 yX1_formAt wsX1_formAt) := goodIn_app (goodIn_of _ (by decide +kernel)) ggX1_take_X1_formAt
set_option maxRecDepth 20000 in
theorem ggX1_take_X1_lay : GoodIn wsX1_take wsX1_lay := goodIn_r _ [38, 31, 1, 27, 28, 29, 4, 30, 39, 40, 41, 42, 43] (by decide +kernel) (by decide +kernel)
set_option maxRecDepth 20000 in
theorem gX1_take_X1_lay : GoodIn wsX1_take (wsV RX1 56 RX1 yX1_lay wsX1_lay) := goodIn_app (goodIn_of _ (by decide +kernel)) ggX1_take_X1_lay
set_option maxRecDepth 20000 in
theorem ggX1_multiply_X1_isRow : GoodIn wsX1_multiply wsX1_isRow := goodIn_r _ [5] (by decide +kernel) (by decide +kernel)
set_option maxRecDepth 20000 in
theorem gX1_multiply_X1_isRow : GoodIn wsX1_multiply (va_wsS RX1 39 yX1_isRow wsX1_isRow) := goodIn_app (goodIn_of _ (by decide +kernel)) ggX1_multiply_X1_isRow
set_option maxRecDepth 20000 in
theorem ggX1_multiply_X1_goesWell : GoodIn wsX1_multiply wsX1_goesWell := goodIn_r _ [9, 10, 20, 21, 22, 23, 24] (by decide +kernel) (by decide +kernel)
set_option maxRecDepth 20000 in
theorem gX1_multiply_X1_goesWell : GoodIn wsX1_multiply (wsV RX1 42 RX1 yX1_goesWell wsX1_goesWell) := goodIn_app (goodIn_of _ (by decide +kernel)) ggX1_multiply_X1_goesWell
set_option maxRecDepth 20000 in
theorem ggX1_multiply_X1_at : GoodIn wsX1_multiply wsX1_at := goodIn_r _ [14, 15, 20, 21, 22, 23, 24] (by decide +kernel) (by decide +kernel)
set_option maxRecDepth 20000 in
theorem gX1_multiply_X1_at : GoodIn wsX1_multiply (wsV RX1 31 RX1 yX1_at wsX1_at) := goodIn_app (goodIn_of _ (by decide +kernel)) ggX1_multiply_X1_at
set_option maxRecDepth 20000 in
theorem ggX1_multiply_X1_lay : GoodIn wsX1_multiply wsX1_lay := goodIn_r _ [19, 15, 1, 11, 12, 13, 4, 14, 20, 21, 22, 23, 24] (by decide +kernel) (by decide +kernel)
set_option maxRecDepth 20000 in
theorem gX1_multiply_X1_lay : GoodIn wsX1_multiply (wsV RX1 56 RX1 yX1_lay wsX1_lay) := goodIn_app (goodIn_of _ (by decide +kernel)) ggX1_multiply_X1_lay
set_option maxRecDepth 20000 in
theorem ggX1_rotate_X1_isRow : GoodIn wsX1_rotate wsX1_isRow := goodIn_r _ [5] (by decide +kernel) (by decide +kernel)
set_option maxRecDepth 20000 in
theorem gX1_rotate_X1_isRow : GoodIn wsX1_rotate (va_wsS RX1 39 yX1_isRow wsX1_isRow) := goodIn_app (goodIn_of _ (by decide +kernel)) ggX1_rotate_X1_isRow
set_option maxRecDepth 20000 in
theorem ggX1_rotate_X1_isTone : GoodIn wsX1_rotate wsX1_isTone := goodIn_r _ [8, 9, 10, 4, 11] (by decide +kernel) (by decide +kernel)
set_option maxRecDepth 20000 in
theorem gX1_rotate_X1_isTone : GoodIn wsX1_rotate (va_wsS RX1 27 yX1_isTone wsX1_isTone) := goodIn_app (goodIn_of _ (by decide +kernel)) ggX1_rotate_X1_isTone
set_option maxRecDepth 20000 in
theorem ggX1_rotate_X1_goesWell : GoodIn wsX1_rotate wsX1_goesWell := goodIn_r _ [15, 16, 26, 27, 28, 29, 30] (by decide +kernel) (by decide +kernel)
set_option maxRecDepth 20000 in
theorem gX1_rotate_X1_goesWell : GoodIn wsX1_rotate (wsV RX1 42 RX1 yX1_goesWell wsX1_goesWell) := goodIn_app (goodIn_of _ (by decide +kernel)) ggX1_rotate_X1_goesWell
set_option maxRecDepth 20000 in
theorem ggX1_rotate_X1_at : GoodIn wsX1_rotate wsX1_at := goodIn_r _ [20, 21, 26, 27, 28, 29, 30] (by decide +kernel) (by decide +kernel)
set_option maxRecDepth 20000 in
theorem gX1_rotate_X1_at : GoodIn wsX1_rotate (wsV RX1 31 RX1 yX1_at wsX1_at) := goodIn_app (goodIn_of _ (by decide +kernel)) ggX1_rotate_X1_at
set_option maxRecDepth 20000 in
theorem ggX1_rotate_X1_lay : GoodIn wsX1_rotate wsX1_lay := goodIn_r _ [25, 21, 1, 17, 18, 19, 4, 20, 26, 27, 28, 29, 30] (by decide +kernel) (by decide +kernel)
set_option maxRecDepth 20000 in
theorem gX1_rotate_X1_lay : GoodIn wsX1_rotate (wsV RX1 56 RX1 yX1_lay wsX1_lay) := goodIn_app (goodIn_of _ (by decide +kernel)) ggX1_rotate_X1_lay
set_option maxRecDepth 20000 in
theorem ggX1_tone_X1_isRow : GoodIn wsX1_tone wsX1_isRow := goodIn_r _ [4] (by decide +kernel) (by decide +kernel)
set_option maxRecDepth 20000 in
theorem gX1_tone_X1_isRow : GoodIn wsX1_tone (va_wsS RX1 39 yX1_isRow wsX1_isRow) := goodIn_app (goodIn_of _ (by decide +kernel)) ggX1_tone_X1_isRow
set_option maxRecDepth 20000 in
theorem ggX1_tone_X1_isTone : GoodIn wsX1_tone wsX1_isTone := goodIn_r _ [7, 8, 9, 3, 10] (by decide +kernel) (by decide +kernel)
set_option maxRecDepth 20000 in
theorem gX1_tone_X1_isTone : GoodIn wsX1_tone (va_wsS RX1 27 yX1_isTone wsX1_isTone) := goodIn_app (goodIn_of _ (by decide +kernel)) ggX1_tone_X1_isTone
set_option maxRecDepth 20000 in
theorem ggX1_tone_X1_goesWell : GoodIn wsX1_tone wsX1_goesWell := goodIn_r _ [14, 15, 21, 22, 23, 24, 25] (by decide +kernel) (by decide +kernel)
set_option maxRecDepth 20000 in
theorem gX1_tone_X1_goesWell : GoodIn wsX1_tone (wsV RX1 42 RX1 yX1_goesWell wsX1_goesWell) := goodIn_app (goodIn_of _ (by decide +kernel)) ggX1_tone_X1_goesWell
set_option maxRecDepth 20000 in
theorem ggX1_tone_X1_at : GoodIn wsX1_tone wsX1_at := goodIn_r _ [19, 20, 21, 22, 23, 24, 25] (by decide +kernel) (by decide +kernel)
set_option maxRecDepth 20000 in
theorem gX1_tone_X1_at : GoodIn wsX1_tone (wsV RX1 31 RX1 yX1_at wsX1_at) := goodIn_app (goodIn_of _ (by decide +kernel)) ggX1_tone_X1_at
set_option maxRecDepth 20000 in
theorem ggX1_step_X1_at : GoodIn wsX1_step wsX1_at := goodIn_r _ [5, 6, 10, 11, 12, 13, 14] (by decide +kernel) (by decide +kernel)
set_option maxRecDepth 20000 in
theorem gX1_step_X1_at : GoodIn wsX1_step (wsV RX1 31 RX1 yX1_at wsX1_at) := goodIn_app (goodIn_of _ (by decide +kernel)) ggX1_step_X1_at
set_option maxRecDepth 20000 in
theorem ggX1_step_X1_modulo : GoodIn wsX1_step wsX1_modulo := goodIn_r _ [9] (by decide +kernel) (by decide +kernel)
set_option maxRecDepth 20000 in
theorem gX1_step_X1_modulo : GoodIn wsX1_step (va_wsS RX1 35 yX1_modulo wsX1_modulo) := goodIn_app (goodIn_of _ (by decide +kernel)) ggX1_step_X1_modulo
set_option maxRecDepth 20000 in
theorem ggX1_interval_X1_isRow : GoodIn wsX1_interval wsX1_isRow := goodIn_r _ [4] (by decide +kernel) (by decide +kernel)
set_option maxRecDepth 20000 in
theorem gX1_interval_X1_isRow : GoodIn wsX1_interval (va_wsS RX1 39 yX1_isRow wsX1_isRow) := goodIn_app (goodIn_of _ (by decide +kernel)) ggX1_interval_X1_isRow
set_option maxRecDepth 20000 in
theorem ggX1_interval_X1_in : GoodIn wsX1_interval wsX1_in := goodIn_r _ [7] (by decide +kernel) (by decide +kernel)
set_option maxRecDepth 20000 in
theorem gX1_interval_X1_in : GoodIn wsX1_interval (va_wsS RX1 23 yX1_in wsX1_in) := goodIn_app (goodIn_of _ (by decide +kernel)) ggX1_interval_X1_in
set_option maxRecDepth 20000 in
theorem ggX1_interval_X1_goesWell : GoodIn wsX1_interval wsX1_goesWell := goodIn_r _ [11, 12, 25, 26, 27, 28, 29] (by decide +kernel) (by decide +kernel)
set_option maxRecDepth 20000 in
theorem gX1_interval_X1_goesWell : GoodIn wsX1_interval (wsV RX1 42 RX1 yX1_goesWell wsX1_goesWell) := goodIn_app (goodIn_of _ (by decide +kernel)) ggX1_interval_X1_goesWell
set_option maxRecDepth 20000 in
theorem ggX1_interval_X1_step : GoodIn wsX1_interval wsX1_step := goodIn_r _ [16, 17, 18, 19, 3, 20, 21, 22, 23, 24, 25, 26, 27, 28, 29] (by decide +kernel) (by decide +kernel)
set_option maxRecDepth 20000 in
theorem gX1_interval_X1_step : GoodIn wsX1_interval (wsV RX1 59 RX1 yX1_step wsX1_step) := goodIn_app (goodIn_of _ (by decide +kernel)) ggX1_interval_X1_step
set_option maxRecDepth 20000 in
theorem ggX1_hasAllIntervals_X1_isRow : GoodIn wsX1_hasAllIntervals wsX1_isRow := goodIn_r _ [4] (by decide +kernel) (by decide +kernel)
set_option maxRecDepth 20000 in
theorem gX1_hasAllIntervals_X1_isRow : GoodIn wsX1_hasAllIntervals (va_wsS RX1 39 yX1_isRow wsX1_isRow) := goodIn_app (goodIn_of _ (by decide +kernel)) ggX1_hasAllIntervals_X1_isRow
set_option maxRecDepth 20000 in
theorem ggX1_hasAllIntervals_X1_goesWell : GoodIn wsX1_hasAllIntervals wsX1_goesWell := goodIn_r _ [8, 9, 22, 23, 24, 25, 26] (by decide +kernel) (by decide +kernel)
set_option maxRecDepth 20000 in
theorem gX1_hasAllIntervals_X1_goesWell : GoodIn wsX1_hasAllIntervals (wsV RX1 42 RX1 yX1_goesWell wsX1_goesWell) := goodIn_app (goodIn_of _ (by decide +kernel)) ggX1_hasAllIntervals_X1_goesWell
set_option maxRecDepth 20000 in
theorem ggX1_hasAllIntervals_X1_step : GoodIn wsX1_hasAllIntervals wsX1_step := goodIn_r _ [13, 14, 15, 16, 3, 17, 18, 19, 20, 21, 22, 23, 24, 25, 26] (by decide +kernel) (by decide +kernel)
set_option maxRecDepth 20000 in
theorem gX1_hasAllIntervals_X1_step : GoodIn wsX1_hasAllIntervals (wsV RX1 59 RX1 yX1_step wsX1_step) := goodIn_app (goodIn_of _ (by decide +kernel)) ggX1_hasAllIntervals_X1_step
set_option maxRecDepth 20000 in
theorem ggX1_toneOf_X1_isRow : GoodIn wsX1_toneOf wsX1_isRow := goodIn_r _ [4] (by decide +kernel) (by decide +kernel)
set_option maxRecDepth 20000 in
theorem gX1_toneOf_X1_isRow : GoodIn wsX1_toneOf (va_wsS RX1 39 yX1_isRow wsX1_isRow) := goodIn_app (goodIn_of _ (by decide +kernel)) ggX1_toneOf_X1_isRow
set_option maxRecDepth 20000 in
theorem ggX1_toneOf_X1_isTone : GoodIn wsX1_toneOf wsX1_isTone := goodIn_r _ [7, 8, 9, 3, 10] (by decide +kernel) (by decide +kernel)
set_option maxRecDepth 20000 in
theorem gX1_toneOf_X1_isTone : GoodIn wsX1_toneOf (va_wsS RX1 27 yX1_isTone wsX1_isTone) := goodIn_app (goodIn_of _ (by decide +kernel)) ggX1_toneOf_X1_isTone
set_option maxRecDepth 20000 in
theorem ggX1_toneOf_X1_isForm : GoodIn wsX1_toneOf wsX1_isForm := goodIn_r _ [13, 8, 9, 3, 10, 5, 6, 7] (by decide +kernel) (by decide +kernel)
set_option maxRecDepth 20000 in
theorem gX1_toneOf_X1_isForm : GoodIn wsX1_toneOf (va_wsS RX1 45 yX1_isForm wsX1_isForm) := goodIn_app (goodIn_of _ (by decide +kernel)) ggX1_toneOf_X1_isForm
set_option maxRecDepth 20000 in
theorem ggX1_toneOf_X1_goesWell : GoodIn wsX1_toneOf wsX1_goesWell := goodIn_r _ [17, 18, 34, 35, 36, 37, 38] (by decide +kernel) (by decide +kernel)
set_option maxRecDepth 20000 in
theorem gX1_toneOf_X1_goesWell : GoodIn wsX1_toneOf (wsV RX1 42 RX1 yX1_goesWell wsX1_goesWell) := goodIn_app (goodIn_of _ (by decide +kernel)) ggX1_toneOf_X1_goesWell
set_option maxRecDepth 20000 in
theorem ggX1_toneOf_X1_codeOf : GoodIn wsX1_toneOf wsX1_codeOf := goodIn_r _ [21] (by decide +kernel) (by decide +kernel)
set_option maxRecDepth 20000 in
theorem gX1_toneOf_X1_codeOf : GoodIn wsX1_toneOf (va_wsS RX1 49 yX1_codeOf wsX1_codeOf) := goodIn_app (goodIn_of _ (by decide +kernel)) ggX1_toneOf_X1_codeOf
set_option maxRecDepth 20000 in
theorem ggX1_toneOf_X1_formAt : GoodIn wsX1_toneOf wsX1_formAt := goodIn_r _ [25, 26, 27, 28, 3, 29, 30, 31, 32, 33, 34, 35, 36, 37, 38] (by decide +kernel) (by decide +kernel)
set_option maxRecDepth 20000 in
theorem gX1_toneOf_X1_formAt : GoodIn wsX1_toneOf (wsV RX1 52 RX1 yX1_formAt wsX1_formAt) := goodIn_app (goodIn_of _ (by decide +kernel)) ggX1_toneOf_X1_formAt
set_option maxRecDepth 20000 in
theorem ggX1_matrix_X1_isRow : GoodIn wsX1_matrix wsX1_isRow := goodIn_r _ [4] (by decide +kernel) (by decide +kernel)
set_option maxRecDepth 20000 in
theorem gX1_matrix_X1_isRow : GoodIn wsX1_matrix (va_wsS RX1 39 yX1_isRow wsX1_isRow) := goodIn_app (goodIn_of _ (by decide +kernel)) ggX1_matrix_X1_isRow
set_option maxRecDepth 20000 in
theorem ggX1_matrix_X1_isTone : GoodIn wsX1_matrix wsX1_isTone := goodIn_r _ [7, 8, 9, 3, 10] (by decide +kernel) (by decide +kernel)
set_option maxRecDepth 20000 in
theorem gX1_matrix_X1_isTone : GoodIn wsX1_matrix (va_wsS RX1 27 yX1_isTone wsX1_isTone) := goodIn_app (goodIn_of _ (by decide +kernel)) ggX1_matrix_X1_isTone
set_option maxRecDepth 20000 in
theorem ggX1_matrix_X1_goesWell : GoodIn wsX1_matrix wsX1_goesWell := goodIn_r _ [14, 15, 31, 32, 33, 34, 35] (by decide +kernel) (by decide +kernel)
set_option maxRecDepth 20000 in
theorem gX1_matrix_X1_goesWell : GoodIn wsX1_matrix (wsV RX1 42 RX1 yX1_goesWell wsX1_goesWell) := goodIn_app (goodIn_of _ (by decide +kernel)) ggX1_matrix_X1_goesWell
set_option maxRecDepth 20000 in
theorem ggX1_matrix_X1_at : GoodIn wsX1_matrix wsX1_at := goodIn_r _ [19, 20, 31, 32, 33, 34, 35] (by decide +kernel) (by decide +kernel)
set_option maxRecDepth 20000 in
theorem gX1_matrix_X1_at : GoodIn wsX1_matrix (wsV RX1 31 RX1 yX1_at wsX1_at) := goodIn_app (goodIn_of _ (by decide +kernel)) ggX1_matrix_X1_at
set_option maxRecDepth 20000 in
theorem ggX1_matrix_X1_codeOf : GoodIn wsX1_matrix wsX1_codeOf := goodIn_r _ [23] (by decide +kernel) (by decide +kernel)
set_option maxRecDepth 20000 in
theorem gX1_matrix_X1_codeOf : GoodIn wsX1_matrix (va_wsS RX1 49 yX1_codeOf wsX1_codeOf) := goodIn_app (goodIn_of _ (by decide +kernel)) ggX1_matrix_X1_codeOf
set_option maxRecDepth 20000 in
theorem ggX1_matrix_X1_formAt : GoodIn wsX1_matrix wsX1_formAt := goodIn_r _ [27, 16, 17, 18, 3, 19, 20, 28, 29, 30, 31, 32, 33, 34, 35] (by decide +kernel) (by decide +kernel)
set_option maxRecDepth 20000 in
theorem gX1_matrix_X1_formAt : GoodIn wsX1_matrix (wsV RX1 52 RX1 yX1_formAt wsX1_formAt) := goodIn_app (goodIn_of _ (by decide +kernel)) ggX1_matrix_X1_formAt
set_option maxRecDepth 20000 in
theorem ggX1_areSame_X1_formAt : GoodIn wsX1_areSame wsX1_formAt := goodIn_r _ [5, 6, 7, 8, 4, 9, 10, 11, 12, 13, 14, 15, 16, 17, 18] (by decide +kernel) (by decide +kernel)
set_option maxRecDepth 20000 in
theorem gX1_areSame_X1_formAt : GoodIn wsX1_areSame (wsV RX1 52 RX1 yX1_formAt wsX1_formAt) := goodIn_app (goodIn_of _ (by decide +kernel)) ggX1_areSame_X1_formAt
set_option maxRecDepth 20000 in
theorem ggX1_differentForms_X1_isRow : GoodIn wsX1_differentForms wsX1_isRow := goodIn_r _ [4] (by decide +kernel) (by decide +kernel)
set_option maxRecDepth 20000 in
theorem gX1_differentForms_X1_isRow : GoodIn wsX1_differentForms (va_wsS RX1 39 yX1_isRow wsX1_isRow) := goodIn_app (goodIn_of _ (by decide +kernel)) ggX1_differentForms_X1_isRow
set_option maxRecDepth 20000 in
theorem ggX1_differentForms_X1_goesWell : GoodIn wsX1_differentForms wsX1_goesWell := goodIn_r _ [8, 9, 26, 27, 28, 29, 30] (by decide +kernel) (by decide +kernel)
set_option maxRecDepth 20000 in
theorem gX1_differentForms_X1_goesWell : GoodIn wsX1_differentForms (wsV RX1 42 RX1 yX1_goesWell wsX1_goesWell) := goodIn_app (goodIn_of _ (by decide +kernel)) ggX1_differentForms_X1_goesWell
set_option maxRecDepth 20000 in
theorem ggX1_differentForms_X1_areSame : GoodIn wsX1_differentForms wsX1_areSame := goodIn_r _ [13, 14, 15, 16, 3, 17, 18, 19, 20, 21, 22, 23, 24, 25, 26, 27, 28, 29, 30] (by decide +kernel) (by decide +kernel)
set_option maxRecDepth 20000 in
theorem gX1_differentForms_X1_areSame : GoodIn wsX1_differentForms (wsV RX1 62 RX1 yX1_areSame wsX1_areSame) := goodIn_app (goodIn_of _ (by decide +kernel)) ggX1_differentForms_X1_areSame
set_option maxRecDepth 20000 in
theorem ggX1_formOfOther_X1_isRow : GoodIn wsX1_formOfOther wsX1_isRow := goodIn_r _ [4] (by decide +kernel) (by decide +kernel)
set_option maxRecDepth 20000 in
theorem gX1_formOfOther_X1_isRow : GoodIn wsX1_formOfOther (va_wsS RX1 39 yX1_isRow wsX1_isRow) := goodIn_app (goodIn_of _ (by decide +kernel)) ggX1_formOfOther_X1_isRow
set_option maxRecDepth 20000 in
theorem ggX1_formOfOther_X1_goesWell : GoodIn wsX1_formOfOther wsX1_goesWell := goodIn_r _ [8, 9, 22, 23, 24, 25, 26] (by decide +kernel) (by decide +kernel)
set_option maxRecDepth 20000 in
theorem gX1_formOfOther_X1_goesWell : GoodIn wsX1_formOfOther (wsV RX1 42 RX1 yX1_goesWell wsX1_goesWell) := goodIn_app (goodIn_of _ (by decide +kernel)) ggX1_formOfOther_X1_goesWell
set_option maxRecDepth 20000 in
theorem ggX1_formOfOther_X1_formAt : GoodIn wsX1_formOfOther wsX1_formAt := goodIn_r _ [13, 14, 15, 16, 3, 17, 18, 19, 20, 21, 22, 23, 24, 25, 26] (by decide +kernel) (by decide +kernel)
set_option maxRecDepth 20000 in
theorem gX1_formOfOther_X1_formAt : GoodIn wsX1_formOfOther (wsV RX1 52 RX1 yX1_formAt wsX1_formAt) := goodIn_app (goodIn_of _ (by decide +kernel)) ggX1_formOfOther_X1_formAt
set_option maxRecDepth 20000 in
theorem ggX1_formOfOther_X1_at : GoodIn wsX1_formOfOther wsX1_at := goodIn_r _ [17, 18, 22, 23, 24, 25, 26] (by decide +kernel) (by decide +kernel)
set_option maxRecDepth 20000 in
theorem gX1_formOfOther_X1_at : GoodIn wsX1_formOfOther (wsV RX1 31 RX1 yX1_at wsX1_at) := goodIn_app (goodIn_of _ (by decide +kernel)) ggX1_formOfOther_X1_at
set_option maxRecDepth 20000 in
theorem ggX1_setOf_X1_formAt : GoodIn wsX1_setOf wsX1_formAt := goodIn_r _ [5, 6, 7, 8, 4, 9, 10, 11, 12, 13, 14, 15, 16, 17, 18] (by decide +kernel) (by decide +kernel)
set_option maxRecDepth 20000 in
theorem gX1_setOf_X1_formAt : GoodIn wsX1_setOf (wsV RX1 52 RX1 yX1_formAt wsX1_formAt) := goodIn_app (goodIn_of _ (by decide +kernel)) ggX1_setOf_X1_formAt
set_option maxRecDepth 20000 in
theorem ggX1_itself_X1_at : GoodIn wsX1_itself wsX1_at := goodIn_r _ [5, 6, 10, 11, 12, 13, 14] (by decide +kernel) (by decide +kernel)
set_option maxRecDepth 20000 in
theorem gX1_itself_X1_at : GoodIn wsX1_itself (wsV RX1 31 RX1 yX1_at wsX1_at) := goodIn_app (goodIn_of _ (by decide +kernel)) ggX1_itself_X1_at
set_option maxRecDepth 20000 in
theorem ggX1_itself_X1_codeOf : GoodIn wsX1_itself wsX1_codeOf := goodIn_r _ [9] (by decide +kernel) (by decide +kernel)
set_option maxRecDepth 20000 in
theorem gX1_itself_X1_codeOf : GoodIn wsX1_itself (va_wsS RX1 49 yX1_codeOf wsX1_codeOf) := goodIn_app (goodIn_of _ (by decide +kernel)) ggX1_itself_X1_codeOf
set_option maxRecDepth 20000 in
theorem ggX1_segment_X1_in : GoodIn wsX1_segment wsX1_in := goodIn_r _ [4] (by decide +kernel) (by decide +kernel)
set_option maxRecDepth 20000 in
theorem gX1_segment_X1_in : GoodIn wsX1_segment (va_wsS RX1 23 yX1_in wsX1_in) := goodIn_app (goodIn_of _ (by decide +kernel)) ggX1_segment_X1_in
set_option maxRecDepth 20000 in
theorem ggX1_segment_X1_isRow : GoodIn wsX1_segment wsX1_isRow := goodIn_r _ [7] (by decide +kernel) (by decide +kernel)
set_option maxRecDepth 20000 in
theorem gX1_segment_X1_isRow : GoodIn wsX1_segment (va_wsS RX1 39 yX1_isRow wsX1_isRow) := goodIn_app (goodIn_of _ (by decide +kernel)) ggX1_segment_X1_isRow
set_option maxRecDepth 20000 in
theorem ggX1_segment_X1_isTone : GoodIn wsX1_segment wsX1_isTone := goodIn_r _ [10, 1, 2, 3, 4] (by decide +kernel) (by decide +kernel)
set_option maxRecDepth 20000 in
theorem gX1_segment_X1_isTone : GoodIn wsX1_segment (va_wsS RX1 27 yX1_isTone wsX1_isTone) := goodIn_app (goodIn_of _ (by decide +kernel)) ggX1_segment_X1_isTone
set_option maxRecDepth 20000 in
theorem ggX1_segment_X1_goesWell : GoodIn wsX1_segment wsX1_goesWell := goodIn_r _ [14, 15, 39, 40, 41, 42, 43] (by decide +kernel) (by decide +kernel)
set_option maxRecDepth 20000 in
theorem gX1_segment_X1_goesWell : GoodIn wsX1_segment (wsV RX1 42 RX1 yX1_goesWell wsX1_goesWell) := goodIn_app (goodIn_of _ (by decide +kernel)) ggX1_segment_X1_goesWell
set_option maxRecDepth 20000 in
theorem ggX1_segment_X1_itself : GoodIn wsX1_segment wsX1_itself := goodIn_r _ [19, 20, 21, 22, 3, 23, 24, 25, 26, 27, 39, 40, 41, 42, 43] (by decide +kernel) (by decide +kernel)
set_option maxRecDepth 20000 in
theorem gX1_segment_X1_itself : GoodIn wsX1_segment (wsV RX1 65 RX1 yX1_itself wsX1_itself) := goodIn_app (goodIn_of _ (by decide +kernel)) ggX1_segment_X1_itself
set_option maxRecDepth 20000 in
theorem ggX1_segment_X1_setOf : GoodIn wsX1_segment wsX1_setOf := goodIn_r _ [31, 32, 33, 34, 3, 35, 20, 21, 22, 23, 24, 36, 37, 38, 39, 40, 41, 42, 43] (by decide +kernel) (by decide +kernel)
set_option maxRecDepth 20000 in
theorem gX1_segment_X1_setOf : GoodIn wsX1_segment (wsV RX1 68 RX1 yX1_setOf wsX1_setOf) := goodIn_app (goodIn_of _ (by decide +kernel)) ggX1_segment_X1_setOf
set_option maxRecDepth 20000 in
theorem ggX1_moved_X1_modulo : GoodIn wsX1_moved wsX1_modulo := goodIn_r _ [4] (by decide +kernel) (by decide +kernel)
set_option maxRecDepth 20000 in
theorem gX1_moved_X1_modulo : GoodIn wsX1_moved (va_wsS RX1 35 yX1_modulo wsX1_modulo) := goodIn_app (goodIn_of _ (by decide +kernel)) ggX1_moved_X1_modulo
set_option maxRecDepth 20000 in
theorem ggX1_least_X1_moved : GoodIn wsX1_least wsX1_moved := goodIn_r _ [4, 5, 6, 3, 7] (by decide +kernel) (by decide +kernel)
set_option maxRecDepth 20000 in
theorem gX1_least_X1_moved : GoodIn wsX1_least (va_wsS RX1 72 yX1_moved wsX1_moved) := goodIn_app (goodIn_of _ (by decide +kernel)) ggX1_least_X1_moved
set_option maxRecDepth 20000 in
theorem ggX1_classOf_X1_in : GoodIn wsX1_classOf wsX1_in := goodIn_r _ [4] (by decide +kernel) (by decide +kernel)
set_option maxRecDepth 20000 in
theorem gX1_classOf_X1_in : GoodIn wsX1_classOf (va_wsS RX1 23 yX1_in wsX1_in) := goodIn_app (goodIn_of _ (by decide +kernel)) ggX1_classOf_X1_in
set_option maxRecDepth 20000 in
theorem ggX1_classOf_X1_goesWell : GoodIn wsX1_classOf wsX1_goesWell := goodIn_r _ [8, 9, 19, 20, 21, 22, 23] (by decide +kernel) (by decide +kernel)
set_option maxRecDepth 20000 in
theorem gX1_classOf_X1_goesWell : GoodIn wsX1_classOf (wsV RX1 42 RX1 yX1_goesWell wsX1_goesWell) := goodIn_app (goodIn_of _ (by decide +kernel)) ggX1_classOf_X1_goesWell
set_option maxRecDepth 20000 in
theorem ggX1_classOf_X1_least : GoodIn wsX1_classOf wsX1_least := goodIn_r _ [12, 13, 14, 3, 15, 16, 17, 18] (by decide +kernel) (by decide +kernel)
set_option maxRecDepth 20000 in
theorem gX1_classOf_X1_least : GoodIn wsX1_classOf (va_wsS RX1 76 yX1_least wsX1_least) := goodIn_app (goodIn_of _ (by decide +kernel)) ggX1_classOf_X1_least
set_option maxRecDepth 20000 in
theorem ggX1_pairs_X1_in : GoodIn wsX1_pairs wsX1_in := goodIn_r _ [4] (by decide +kernel) (by decide +kernel)
set_option maxRecDepth 20000 in
theorem gX1_pairs_X1_in : GoodIn wsX1_pairs (va_wsS RX1 23 yX1_in wsX1_in) := goodIn_app (goodIn_of _ (by decide +kernel)) ggX1_pairs_X1_in
set_option maxRecDepth 20000 in
theorem ggX1_pairs_X1_goesWell : GoodIn wsX1_pairs wsX1_goesWell := goodIn_r _ [8, 9, 10, 11, 12, 13, 14] (by decide +kernel) (by decide +kernel)
set_option maxRecDepth 20000 in
theorem gX1_pairs_X1_goesWell : GoodIn wsX1_pairs (wsV RX1 42 RX1 yX1_goesWell wsX1_goesWell) := goodIn_app (goodIn_of _ (by decide +kernel)) ggX1_pairs_X1_goesWell
set_option maxRecDepth 20000 in
theorem ggX1_combining_X1_isRow : GoodIn wsX1_combining wsX1_isRow := goodIn_r _ [4] (by decide +kernel) (by decide +kernel)
set_option maxRecDepth 20000 in
theorem gX1_combining_X1_isRow : GoodIn wsX1_combining (va_wsS RX1 39 yX1_isRow wsX1_isRow) := goodIn_app (goodIn_of _ (by decide +kernel)) ggX1_combining_X1_isRow
set_option maxRecDepth 20000 in
theorem ggX1_combining_X1_goesWell : GoodIn wsX1_combining wsX1_goesWell := goodIn_r _ [8, 9, 33, 34, 35, 36, 37] (by decide +kernel) (by decide +kernel)
set_option maxRecDepth 20000 in
theorem gX1_combining_X1_goesWell : GoodIn wsX1_combining (wsV RX1 42 RX1 yX1_goesWell wsX1_goesWell) := goodIn_app (goodIn_of _ (by decide +kernel)) ggX1_combining_X1_goesWell
set_option maxRecDepth 20000 in
theorem ggX1_combining_X1_itself : GoodIn wsX1_combining wsX1_itself := goodIn_r _ [13, 14, 15, 16, 3, 17, 18, 19, 20, 21, 33, 34, 35, 36, 37] (by decide +kernel) (by decide +kernel)
set_option maxRecDepth 20000 in
theorem gX1_combining_X1_itself : GoodIn wsX1_combining (wsV RX1 65 RX1 yX1_itself wsX1_itself) := goodIn_app (goodIn_of _ (by decide +kernel)) ggX1_combining_X1_itself
set_option maxRecDepth 20000 in
theorem ggX1_combining_X1_setOf : GoodIn wsX1_combining wsX1_setOf := goodIn_r _ [25, 26, 27, 28, 3, 29, 14, 15, 16, 17, 18, 30, 31, 32, 33, 34, 35, 36, 37] (by decide +kernel) (by decide +kernel)
set_option maxRecDepth 20000 in
theorem gX1_combining_X1_setOf : GoodIn wsX1_combining (wsV RX1 68 RX1 yX1_setOf wsX1_setOf) := goodIn_app (goodIn_of _ (by decide +kernel)) ggX1_combining_X1_setOf
set_option maxRecDepth 20000 in
theorem ggX1_isDerived_X1_in : GoodIn wsX1_isDerived wsX1_in := goodIn_r _ [4] (by decide +kernel) (by decide +kernel)
set_option maxRecDepth 20000 in
theorem gX1_isDerived_X1_in : GoodIn wsX1_isDerived (va_wsS RX1 23 yX1_in wsX1_in) := goodIn_app (goodIn_of _ (by decide +kernel)) ggX1_isDerived_X1_in
set_option maxRecDepth 20000 in
theorem ggX1_isDerived_X1_isRow : GoodIn wsX1_isDerived wsX1_isRow := goodIn_r _ [7] (by decide +kernel) (by decide +kernel)
set_option maxRecDepth 20000 in
theorem gX1_isDerived_X1_isRow : GoodIn wsX1_isDerived (va_wsS RX1 39 yX1_isRow wsX1_isRow) := goodIn_app (goodIn_of _ (by decide +kernel)) ggX1_isDerived_X1_isRow
set_option maxRecDepth 20000 in
theorem ggX1_isDerived_X1_goesWell : GoodIn wsX1_isDerived wsX1_goesWell := goodIn_r _ [11, 12, 42, 43, 44, 45, 46] (by decide +kernel) (by decide +kernel)
set_option maxRecDepth 20000 in
theorem gX1_isDerived_X1_goesWell : GoodIn wsX1_isDerived (wsV RX1 42 RX1 yX1_goesWell wsX1_goesWell) := goodIn_app (goodIn_of _ (by decide +kernel)) ggX1_isDerived_X1_goesWell
set_option maxRecDepth 20000 in
theorem ggX1_isDerived_X1_itself : GoodIn wsX1_isDerived wsX1_itself := goodIn_r _ [16, 17, 18, 19, 3, 20, 21, 22, 23, 24, 42, 43, 44, 45, 46] (by decide +kernel) (by decide +kernel)
set_option maxRecDepth 20000 in
theorem gX1_isDerived_X1_itself : GoodIn wsX1_isDerived (wsV RX1 65 RX1 yX1_itself wsX1_itself) := goodIn_app (goodIn_of _ (by decide +kernel)) ggX1_isDerived_X1_itself
set_option maxRecDepth 20000 in
theorem ggX1_isDerived_X1_setOf : GoodIn wsX1_isDerived wsX1_setOf := goodIn_r _ [28, 29, 30, 31, 3, 32, 17, 18, 19, 20, 21, 33, 34, 35, 42, 43, 44, 45, 46] (by decide +kernel) (by decide +kernel)
set_option maxRecDepth 20000 in
theorem gX1_isDerived_X1_setOf : GoodIn wsX1_isDerived (wsV RX1 68 RX1 yX1_setOf wsX1_setOf) := goodIn_app (goodIn_of _ (by decide +kernel)) ggX1_isDerived_X1_setOf
set_option maxRecDepth 20000 in
theorem ggX1_isDerived_X1_least : GoodIn wsX1_isDerived wsX1_least := goodIn_r _ [38, 39, 40, 3, 41, 33, 34, 35] (by decide +kernel) (by decide +kernel)
set_option maxRecDepth 20000 in
theorem gX1_isDerived_X1_least : GoodIn wsX1_isDerived (va_wsS RX1 76 yX1_least wsX1_least) := goodIn_app (goodIn_of _ (by decide +kernel)) ggX1_isDerived_X1_least
set_option maxRecDepth 20000 in
theorem ggX1_setsKept_X1_setOf : GoodIn wsX1_setsKept wsX1_setOf := goodIn_r _ [5, 6, 7, 8, 4, 9, 10, 11, 12, 13, 14, 15, 16, 17, 25, 26, 27, 28, 29] (by decide +kernel) (by decide +kernel)
set_option maxRecDepth 20000 in
theorem gX1_setsKept_X1_setOf : GoodIn wsX1_setsKept (wsV RX1 68 RX1 yX1_setOf wsX1_setOf) := goodIn_app (goodIn_of _ (by decide +kernel)) ggX1_setsKept_X1_setOf
set_option maxRecDepth 20000 in
theorem ggX1_setsKept_X1_itself : GoodIn wsX1_setsKept wsX1_itself := goodIn_r _ [21, 10, 11, 12, 4, 13, 14, 22, 23, 24, 25, 26, 27, 28, 29] (by decide +kernel) (by decide +kernel)
set_option maxRecDepth 20000 in
theorem gX1_setsKept_X1_itself : GoodIn wsX1_setsKept (wsV RX1 65 RX1 yX1_itself wsX1_itself) := goodIn_app (goodIn_of _ (by decide +kernel)) ggX1_setsKept_X1_itself
set_option maxRecDepth 20000 in
theorem ggX1_keptSets_X1_isForm : GoodIn wsX1_keptSets wsX1_isForm := goodIn_r _ [4, 5, 6, 3, 7, 8, 9, 10] (by decide +kernel) (by decide +kernel)
set_option maxRecDepth 20000 in
theorem gX1_keptSets_X1_isForm : GoodIn wsX1_keptSets (va_wsS RX1 45 yX1_isForm wsX1_isForm) := goodIn_app (goodIn_of _ (by decide +kernel)) ggX1_keptSets_X1_isForm
set_option maxRecDepth 20000 in
theorem ggX1_keptSets_X1_in : GoodIn wsX1_keptSets wsX1_in := goodIn_r _ [7] (by decide +kernel) (by decide +kernel)
set_option maxRecDepth 20000 in
theorem gX1_keptSets_X1_in : GoodIn wsX1_keptSets (va_wsS RX1 23 yX1_in wsX1_in) := goodIn_app (goodIn_of _ (by decide +kernel)) ggX1_keptSets_X1_in
set_option maxRecDepth 20000 in
theorem ggX1_keptSets_X1_isRow : GoodIn wsX1_keptSets wsX1_isRow := goodIn_r _ [13] (by decide +kernel) (by decide +kernel)
set_option maxRecDepth 20000 in
theorem gX1_keptSets_X1_isRow : GoodIn wsX1_keptSets (va_wsS RX1 39 yX1_isRow wsX1_isRow) := goodIn_app (goodIn_of _ (by decide +kernel)) ggX1_keptSets_X1_isRow
set_option maxRecDepth 20000 in
theorem ggX1_keptSets_X1_goesWell : GoodIn wsX1_keptSets wsX1_goesWell := goodIn_r _ [17, 18, 46, 47, 48, 49, 50] (by decide +kernel) (by decide +kernel)
set_option maxRecDepth 20000 in
theorem gX1_keptSets_X1_goesWell : GoodIn wsX1_keptSets (wsV RX1 42 RX1 yX1_goesWell wsX1_goesWell) := goodIn_app (goodIn_of _ (by decide +kernel)) ggX1_keptSets_X1_goesWell
set_option maxRecDepth 20000 in
theorem ggX1_keptSets_X1_codeOf : GoodIn wsX1_keptSets wsX1_codeOf := goodIn_r _ [21] (by decide +kernel) (by decide +kernel)
set_option maxRecDepth 20000 in
theorem gX1_keptSets_X1_codeOf : GoodIn wsX1_keptSets (va_wsS RX1 49 yX1_codeOf wsX1_codeOf) := goodIn_app (goodIn_of _ (by decide +kernel)) ggX1_keptSets_X1_codeOf
set_option maxRecDepth 20000 in
theorem ggX1_keptSets_X1_setsKept : GoodIn wsX1_keptSets wsX1_setsKept := goodIn_r _ [25, 26, 27, 28, 3, 29, 30, 31, 32, 33, 34, 35, 36, 37, 38, 39, 40, 41, 42, 43, 44, 45, 19, 20, 21, 46, 47, 48, 49, 50] (by decide +kernel) (by decide +kernel)
set_option maxRecDepth 20000 in
theorem gX1_keptSets_X1_setsKept : GoodIn wsX1_keptSets (wsV RX1 79 RX1 yX1_setsKept wsX1_setsKept) := goodIn_app (goodIn_of _ (by decide +kernel)) ggX1_keptSets_X1_setsKept
set_option maxRecDepth 20000 in
theorem ggX1_same_X1_at : GoodIn wsX1_same wsX1_at := goodIn_r _ [5, 6, 14, 15, 16, 17, 18] (by decide +kernel) (by decide +kernel)
set_option maxRecDepth 20000 in
theorem gX1_same_X1_at : GoodIn wsX1_same (wsV RX1 31 RX1 yX1_at wsX1_at) := goodIn_app (goodIn_of _ (by decide +kernel)) ggX1_same_X1_at
set_option maxRecDepth 20000 in
theorem ggX1_same_X1_formAt : GoodIn wsX1_same wsX1_formAt := goodIn_r _ [10, 1, 2, 3, 4, 5, 6, 11, 12, 13, 14, 15, 16, 17, 18] (by decide +kernel) (by decide +kernel)
set_option maxRecDepth 20000 in
theorem gX1_same_X1_formAt : GoodIn wsX1_same (wsV RX1 52 RX1 yX1_formAt wsX1_formAt) := goodIn_app (goodIn_of _ (by decide +kernel)) ggX1_same_X1_formAt
set_option maxRecDepth 20000 in
theorem ggX1_longestKept_X1_isRow : GoodIn wsX1_longestKept wsX1_isRow := goodIn_r _ [4] (by decide +kernel) (by decide +kernel)
set_option maxRecDepth 20000 in
theorem gX1_longestKept_X1_isRow : GoodIn wsX1_longestKept (va_wsS RX1 39 yX1_isRow wsX1_isRow) := goodIn_app (goodIn_of _ (by decide +kernel)) ggX1_longestKept_X1_isRow
set_option maxRecDepth 20000 in
theorem ggX1_longestKept_X1_isForm : GoodIn wsX1_longestKept wsX1_isForm := goodIn_r _ [7, 8, 9, 3, 10, 11, 12, 13] (by decide +kernel) (by decide +kernel)
set_option maxRecDepth 20000 in
theorem gX1_longestKept_X1_isForm : GoodIn wsX1_longestKept (va_wsS RX1 45 yX1_isForm wsX1_isForm) := goodIn_app (goodIn_of _ (by decide +kernel)) ggX1_longestKept_X1_isForm
set_option maxRecDepth 20000 in
theorem ggX1_longestKept_X1_goesWell : GoodIn wsX1_longestKept wsX1_goesWell := goodIn_r _ [17, 18, 38, 39, 40, 41, 42] (by decide +kernel) (by decide +kernel)
set_option maxRecDepth 20000 in
theorem gX1_longestKept_X1_goesWell : GoodIn wsX1_longestKept (wsV RX1 42 RX1 yX1_goesWell wsX1_goesWell) := goodIn_app (goodIn_of _ (by decide +kernel)) ggX1_longestKept_X1_goesWell
set_option maxRecDepth 20000 in
theorem ggX1_longestKept_X1_codeOf : GoodIn wsX1_longestKept wsX1_codeOf := goodIn_r _ [21] (by decide +kernel) (by decide +kernel)
set_option maxRecDepth 20000 in
theorem gX1_longestKept_X1_codeOf : GoodIn wsX1_longestKept (va_wsS RX1 49 yX1_codeOf wsX1_codeOf) := goodIn_app (goodIn_of _ (by decide +kernel)) ggX1_longestKept_X1_codeOf
set_option maxRecDepth 20000 in
theorem ggX1_longestKept_X1_same : GoodIn wsX1_longestKept wsX1_same := goodIn_r _ [25, 26, 27, 28, 3, 29, 30, 31, 32, 33, 34, 35, 36, 37, 38, 39, 40, 41, 42] (by decide +kernel) (by decide +kernel)
set_option maxRecDepth 20000 in
theorem gX1_longestKept_X1_same : GoodIn wsX1_longestKept (wsV RX1 82 RX1 yX1_same wsX1_same) := goodIn_app (goodIn_of _ (by decide +kernel)) ggX1_longestKept_X1_same
set_option maxRecDepth 20000 in
theorem ggX1_mostKept_X1_isRow : GoodIn wsX1_mostKept wsX1_isRow := goodIn_r _ [4] (by decide +kernel) (by decide +kernel)
set_option maxRecDepth 20000 in
theorem gX1_mostKept_X1_isRow : GoodIn wsX1_mostKept (va_wsS RX1 39 yX1_isRow wsX1_isRow) := goodIn_app (goodIn_of _ (by decide +kernel)) ggX1_mostKept_X1_isRow
set_option maxRecDepth 20000 in
theorem ggX1_mostKept_X1_in : GoodIn wsX1_mostKept wsX1_in := goodIn_r _ [7] (by decide +kernel) (by decide +kernel)
set_option maxRecDepth 20000 in
theorem gX1_mostKept_X1_in : GoodIn wsX1_mostKept (va_wsS RX1 23 yX1_in wsX1_in) := goodIn_app (goodIn_of _ (by decide +kernel)) ggX1_mostKept_X1_in
set_option maxRecDepth 20000 in
theorem ggX1_mostKept_X1_goesWell : GoodIn wsX1_mostKept wsX1_goesWell := goodIn_r _ [11, 12, 40, 41, 42, 43, 44] (by decide +kernel) (by decide +kernel)
set_option maxRecDepth 20000 in
theorem gX1_mostKept_X1_goesWell : GoodIn wsX1_mostKept (wsV RX1 42 RX1 yX1_goesWell wsX1_goesWell) := goodIn_app (goodIn_of _ (by decide +kernel)) ggX1_mostKept_X1_goesWell
set_option maxRecDepth 20000 in
theorem ggX1_mostKept_X1_itself : GoodIn wsX1_mostKept wsX1_itself := goodIn_r _ [16, 17, 18, 19, 3, 20, 21, 22, 23, 24, 40, 41, 42, 43, 44] (by decide +kernel) (by decide +kernel)
set_option maxRecDepth 20000 in
theorem gX1_mostKept_X1_itself : GoodIn wsX1_mostKept (wsV RX1 65 RX1 yX1_itself wsX1_itself) := goodIn_app (goodIn_of _ (by decide +kernel)) ggX1_mostKept_X1_itself
set_option maxRecDepth 20000 in
theorem ggX1_mostKept_X1_setsKept : GoodIn wsX1_mostKept wsX1_setsKept := goodIn_r _ [28, 29, 30, 31, 3, 32, 33, 34, 35, 36, 17, 18, 19, 20, 21, 37, 38, 39, 13, 14, 15, 16, 22, 23, 24, 40, 41, 42, 43, 44] (by decide +kernel) (by decide +kernel)
set_option maxRecDepth 20000 in
theorem gX1_mostKept_X1_setsKept : GoodIn wsX1_mostKept (wsV RX1 79 RX1 yX1_setsKept wsX1_setsKept) := goodIn_app (goodIn_of _ (by decide +kernel)) ggX1_mostKept_X1_setsKept
set_option maxRecDepth 20000 in
theorem ggX1_isCode_X1_in : GoodIn wsX1_isCode wsX1_in := goodIn_r _ [4] (by decide +kernel) (by decide +kernel)
set_option maxRecDepth 20000 in
theorem gX1_isCode_X1_in : GoodIn wsX1_isCode (va_wsS RX1 23 yX1_in wsX1_in) := goodIn_app (goodIn_of _ (by decide +kernel)) ggX1_isCode_X1_in
set_option maxRecDepth 20000 in
theorem ggX1_cuts_X1_isCode : GoodIn wsX1_cuts wsX1_isCode := goodIn_r _ [4, 5, 6, 3, 7] (by decide +kernel) (by decide +kernel)
set_option maxRecDepth 20000 in
theorem gX1_cuts_X1_isCode : GoodIn wsX1_cuts (va_wsS RX1 85 yX1_isCode wsX1_isCode) := goodIn_app (goodIn_of _ (by decide +kernel)) ggX1_cuts_X1_isCode
set_option maxRecDepth 20000 in
theorem ggX1_cuts_X1_goesWell : GoodIn wsX1_cuts wsX1_goesWell := goodIn_r _ [11, 12, 29, 30, 31, 32, 33] (by decide +kernel) (by decide +kernel)
set_option maxRecDepth 20000 in
theorem gX1_cuts_X1_goesWell : GoodIn wsX1_cuts (wsV RX1 42 RX1 yX1_goesWell wsX1_goesWell) := goodIn_app (goodIn_of _ (by decide +kernel)) ggX1_cuts_X1_goesWell
set_option maxRecDepth 20000 in
theorem ggX1_cuts_X1_setOf : GoodIn wsX1_cuts wsX1_setOf := goodIn_r _ [16, 17, 18, 19, 3, 20, 21, 22, 23, 24, 25, 26, 27, 28, 29, 30, 31, 32, 33] (by decide +kernel) (by decide +kernel)
set_option maxRecDepth 20000 in
theorem gX1_cuts_X1_setOf : GoodIn wsX1_cuts (wsV RX1 68 RX1 yX1_setOf wsX1_setOf) := goodIn_app (goodIn_of _ (by decide +kernel)) ggX1_cuts_X1_setOf
set_option maxRecDepth 20000 in
theorem ggX1_write_X1_isTone : GoodIn wsX1_write wsX1_isTone := goodIn_r _ [6, 7, 8, 5, 9] (by decide +kernel) (by decide +kernel)
set_option maxRecDepth 20000 in
theorem gX1_write_X1_isTone : GoodIn wsX1_write (va_wsS RX1 27 yX1_isTone wsX1_isTone) := goodIn_app (goodIn_of _ (by decide +kernel)) ggX1_write_X1_isTone
set_option maxRecDepth 20000 in
theorem ggX1_write_X1_isWritten : GoodIn wsX1_write wsX1_isWritten := goodIn_r _ [13, 2, 1, 19, 20, 21, 22, 23] (by decide +kernel) (by decide +kernel)
set_option maxRecDepth 20000 in
theorem gX1_write_X1_isWritten : GoodIn wsX1_write (wsV RX1 91 RX1 yX1_isWritten wsX1_isWritten) := goodIn_app (goodIn_of _ (by decide +kernel)) ggX1_write_X1_isWritten
set_option maxRecDepth 20000 in
theorem ggX1_write_X1_goesWell : GoodIn wsX1_write wsX1_goesWell := goodIn_r _ [17, 18, 19, 20, 21, 22, 23] (by decide +kernel) (by decide +kernel)
set_option maxRecDepth 20000 in
theorem gX1_write_X1_goesWell : GoodIn wsX1_write (wsV RX1 42 RX1 yX1_goesWell wsX1_goesWell) := goodIn_app (goodIn_of _ (by decide +kernel)) ggX1_write_X1_goesWell
set_option maxRecDepth 20000 in
theorem ggX1_placeIn_X1_formAt : GoodIn wsX1_placeIn wsX1_formAt := goodIn_r _ [7, 8, 9, 10, 6, 11, 12, 13, 14, 15, 16, 17, 18, 19, 20] (by decide +kernel) (by decide +kernel)
set_option maxRecDepth 20000 in
theorem gX1_placeIn_X1_formAt : GoodIn wsX1_placeIn (wsV RX1 52 RX1 yX1_formAt wsX1_formAt) := goodIn_app (goodIn_of _ (by decide +kernel)) ggX1_placeIn_X1_formAt
set_option maxRecDepth 20000 in
theorem ggX1_formsWithPhrase_X1_isRow : GoodIn wsX1_formsWithPhrase wsX1_isRow := goodIn_r _ [4] (by decide +kernel) (by decide +kernel)
set_option maxRecDepth 20000 in
theorem gX1_formsWithPhrase_X1_isRow : GoodIn wsX1_formsWithPhrase (va_wsS RX1 39 yX1_isRow wsX1_isRow) := goodIn_app (goodIn_of _ (by decide +kernel)) ggX1_formsWithPhrase_X1_isRow
set_option maxRecDepth 20000 in
theorem ggX1_formsWithPhrase_X1_goesWell : GoodIn wsX1_formsWithPhrase wsX1_goesWell := goodIn_r _ [8, 9, 28, 29, 30, 31, 32] (by decide +kernel) (by decide +kernel)
set_option maxRecDepth 20000 in
theorem gX1_formsWithPhrase_X1_goesWell : GoodIn wsX1_formsWithPhrase (wsV RX1 42 RX1 yX1_goesWell wsX1_goesWell) := goodIn_app (goodIn_of _ (by decide +kernel)) ggX1_formsWithPhrase_X1_goesWell
set_option maxRecDepth 20000 in
theorem ggX1_formsWithPhrase_X1_placeIn : GoodIn wsX1_formsWithPhrase wsX1_placeIn := goodIn_r _ [13, 14, 15, 16, 17, 18, 3, 19, 20, 21, 22, 23, 24, 25, 26, 27, 28, 29, 30, 31, 32] (by decide +kernel) (by decide +kernel)
set_option maxRecDepth 20000 in
theorem gX1_formsWithPhrase_X1_placeIn : GoodIn wsX1_formsWithPhrase (wsV RX1 94 RX1 yX1_placeIn wsX1_placeIn) := goodIn_app (goodIn_of _ (by decide +kernel)) ggX1_formsWithPhrase_X1_placeIn
set_option maxRecDepth 20000 in
theorem ggX1_placeOfPhrase_X1_isRow : GoodIn wsX1_placeOfPhrase wsX1_isRow := goodIn_r _ [5] (by decide +kernel) (by decide +kernel)
set_option maxRecDepth 20000 in
theorem gX1_placeOfPhrase_X1_isRow : GoodIn wsX1_placeOfPhrase (va_wsS RX1 39 yX1_isRow wsX1_isRow) := goodIn_app (goodIn_of _ (by decide +kernel)) ggX1_placeOfPhrase_X1_isRow
set_option maxRecDepth 20000 in
theorem ggX1_placeOfPhrase_X1_isCode : GoodIn wsX1_placeOfPhrase wsX1_isCode := goodIn_r _ [8, 9, 10, 4, 11] (by decide +kernel) (by decide +kernel)
set_option maxRecDepth 20000 in
theorem gX1_placeOfPhrase_X1_isCode : GoodIn wsX1_placeOfPhrase (va_wsS RX1 85 yX1_isCode wsX1_isCode) := goodIn_app (goodIn_of _ (by decide +kernel)) ggX1_placeOfPhrase_X1_isCode
set_option maxRecDepth 20000 in
theorem ggX1_placeOfPhrase_X1_goesWell : GoodIn wsX1_placeOfPhrase wsX1_goesWell := goodIn_r _ [15, 16, 34, 35, 36, 37, 38] (by decide +kernel) (by decide +kernel)
set_option maxRecDepth 20000 in
theorem gX1_placeOfPhrase_X1_goesWell : GoodIn wsX1_placeOfPhrase (wsV RX1 42 RX1 yX1_goesWell wsX1_goesWell) := goodIn_app (goodIn_of _ (by decide +kernel)) ggX1_placeOfPhrase_X1_goesWell
set_option maxRecDepth 20000 in
theorem ggX1_placeOfPhrase_X1_placeIn : GoodIn wsX1_placeOfPhrase wsX1_placeIn := goodIn_r _ [20, 1, 21, 22, 23, 24, 4, 25, 26, 27, 28, 29, 30, 31, 32, 33, 34, 35, 36, 37, 38] (by decide +kernel) (by decide +kernel)
set_option maxRecDepth 20000 in
theorem gX1_placeOfPhrase_X1_placeIn : GoodIn wsX1_placeOfPhrase (wsV RX1 94 RX1 yX1_placeIn wsX1_placeIn) := goodIn_app (goodIn_of _ (by decide +kernel)) ggX1_placeOfPhrase_X1_placeIn
set_option maxRecDepth 20000 in
theorem ggX1_complete_X1_isRow : GoodIn wsX1_complete wsX1_isRow := goodIn_r _ [7] (by decide +kernel) (by decide +kernel)
set_option maxRecDepth 20000 in
theorem gX1_complete_X1_isRow : GoodIn wsX1_complete (va_wsS RX1 39 yX1_isRow wsX1_isRow) := goodIn_app (goodIn_of _ (by decide +kernel)) ggX1_complete_X1_isRow
set_option maxRecDepth 20000 in
theorem ggX1_complete_X1_goesWell : GoodIn wsX1_complete wsX1_goesWell := goodIn_r _ [11, 12, 26, 27, 28, 29, 30] (by decide +kernel) (by decide +kernel)
set_option maxRecDepth 20000 in
theorem gX1_complete_X1_goesWell : GoodIn wsX1_complete (wsV RX1 42 RX1 yX1_goesWell wsX1_goesWell) := goodIn_app (goodIn_of _ (by decide +kernel)) ggX1_complete_X1_goesWell
set_option maxRecDepth 20000 in
theorem ggX1_complete_X1_at : GoodIn wsX1_complete wsX1_at := goodIn_r _ [16, 17, 26, 27, 28, 29, 30] (by decide +kernel) (by decide +kernel)
set_option maxRecDepth 20000 in
theorem gX1_complete_X1_at : GoodIn wsX1_complete (wsV RX1 31 RX1 yX1_at wsX1_at) := goodIn_app (goodIn_of _ (by decide +kernel)) ggX1_complete_X1_at
set_option maxRecDepth 20000 in
theorem ggX1_complete_X1_isWritten : GoodIn wsX1_complete wsX1_isWritten := goodIn_r _ [21, 1, 3, 26, 27, 28, 29, 30] (by decide +kernel) (by decide +kernel)
set_option maxRecDepth 20000 in
theorem gX1_complete_X1_isWritten : GoodIn wsX1_complete (wsV RX1 91 RX1 yX1_isWritten wsX1_isWritten) := goodIn_app (goodIn_of _ (by decide +kernel)) ggX1_complete_X1_isWritten
set_option maxRecDepth 20000 in
theorem ggX1_complete_X1_lay : GoodIn wsX1_complete wsX1_lay := goodIn_r _ [25, 17, 2, 13, 14, 15, 6, 16, 26, 27, 28, 29, 30] (by decide +kernel) (by decide +kernel)
set_option maxRecDepth 20000 in
theorem gX1_complete_X1_lay : GoodIn wsX1_complete (wsV RX1 56 RX1 yX1_lay wsX1_lay) := goodIn_app (goodIn_of _ (by decide +kernel)) ggX1_complete_X1_lay
