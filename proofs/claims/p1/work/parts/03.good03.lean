set_option maxRecDepth 20000 in
theorem ggX7_judge_X1_clear : GoodIn wsX7_judge wsX1_clear := goodIn_r _ [48, 49, 62, 63] (by decide +kernel) (by decide +kernel)
set_option maxRecDepth 20000 in
theorem gX7_judge_X1_clear : GoodIn wsX7_judge (wsV RX7 92 RX1 yX1_clear wsX1_clear) := goodIn_app (goodIn_of _ (by decide +kernel)) ggX7_judge_X1_clear
set_option maxRecDepth 20000 in
theorem ggX7_seeds_X7_refuse : GoodIn wsX7_seeds wsX7_refuse := goodIn_r _ [8, 9, 124, 125, 126, 127, 128, 129, 130, 131, 132, 133, 134, 135] (by decide +kernel) (by decide +kernel)
set_option maxRecDepth 20000 in
theorem gX7_seeds_X7_refuse : GoodIn wsX7_seeds (wsV RX7 69 RX7 yX7_refuse wsX7_refuse) := goodIn_app (goodIn_of _ (by decide +kernel)) ggX7_seeds_X7_refuse
set_option maxRecDepth 20000 in
theorem ggX7_image_X3_copyFrom : GoodIn wsX7_image wsX3_copyFrom := goodIn_r _ [13, 14, 15, 16, 17, 18, 19, 20, 21, 22, 23, 24, 25, 26, 27, 28, 29, 30, 31, 32, 57, 58, 59, 60, 61, 62, 63, 64, 65, 66, 67, 68, 69, 70, 71, 72] (by decide +kernel) (by decide +kernel)
set_option maxRecDepth 20000 in
theorem gX7_image_X3_copyFrom : GoodIn wsX7_image (wsV RX7 84 RX3 yX3_copyFrom wsX3_copyFrom) := goodIn_app (goodIn_of _ (by decide +kernel)) ggX7_image_X3_copyFrom
set_option maxRecDepth 20000 in
theorem ggX7_image_X1_copyFrom : GoodIn wsX7_image wsX1_copyFrom := goodIn_r _ [37, 38, 39, 40, 41, 42, 43, 44, 22, 23, 24, 73, 74] (by decide +kernel) (by decide +kernel)
set_option maxRecDepth 20000 in
theorem gX7_image_X1_copyFrom : GoodIn wsX7_image (wsV RX7 240 RX1 yX1_copyFrom wsX1_copyFrom) := goodIn_app (goodIn_of _ (by decide +kernel)) ggX7_image_X1_copyFrom
set_option maxRecDepth 20000 in
theorem ggX7_on_X7_refuse : GoodIn wsX7_on wsX7_refuse := goodIn_r _ [13, 14, 51, 52, 53, 54, 55, 56, 57, 58, 59, 60, 61, 62] (by decide +kernel) (by decide +kernel)
set_option maxRecDepth 20000 in
theorem gX7_on_X7_refuse : GoodIn wsX7_on (wsV RX7 69 RX7 yX7_refuse wsX7_refuse) := goodIn_app (goodIn_of _ (by decide +kernel)) ggX7_on_X7_refuse
set_option maxRecDepth 20000 in
theorem ggX7_mendsWith_X0_passedBits : GoodIn wsX7_mendsWith wsX0_passedBits := goodIn_r _ [5, 6, 7, 8, 9, 4, 10, 11, 12, 13, 14, 15, 16, 17, 18, 19, 20, 21, 22, 23, 24, 25, 26, 27, 28, 29, 30, 31, 32, 33, 34, 35, 36, 37, 58, 59, 60, 61, 62, 63, 64, 65, 66, 67, 68, 69, 70, 71, 72, 73] (by decide +kernel) (by decide +kernel)
set_option maxRecDepth 20000 in
theorem gX7_mendsWith_X0_passedBits : GoodIn wsX7_mendsWith (va_wsS RX7 159 yX0_passedBits wsX0_passedBits) := goodIn_app (goodIn_of _ (by decide +kernel)) ggX7_mendsWith_X0_passedBits
set_option maxRecDepth 20000 in
theorem ggX8_image_X8_move : GoodIn wsX8_image wsX8_move := goodIn_r _ [7] (by decide +kernel) (by decide +kernel)
set_option maxRecDepth 20000 in
theorem gX8_image_X8_move : GoodIn wsX8_image (va_wsS RX8 67 yX8_move wsX8_move) := goodIn_app (goodIn_of _ (by decide +kernel)) ggX8_image_X8_move
set_option maxRecDepth 20000 in
theorem ggX8_on_X8_no : GoodIn wsX8_on wsX8_no := goodIn_r _ [8, 9, 13, 14, 15, 16, 17, 18, 19, 20, 21, 22, 23, 24, 25, 26, 27, 28, 29, 30, 31, 32, 33, 34, 35, 36, 37, 38, 39, 40, 41, 42, 43, 44, 45] (by decide +kernel) (by decide +kernel)
set_option maxRecDepth 20000 in
theorem gX8_on_X8_no : GoodIn wsX8_on (wsV RX8 71 RX8 yX8_no wsX8_no) := goodIn_app (goodIn_of _ (by decide +kernel)) ggX8_on_X8_no
set_option maxRecDepth 20000 in
theorem ggX8_letter_X8_no : GoodIn wsX8_letter wsX8_no := goodIn_r _ [7, 8, 9, 10, 11, 12, 13, 14, 15, 16, 17, 18, 19, 20, 21, 22, 23, 24, 25, 26, 27, 28, 29, 30, 31, 32, 33, 34, 35, 36, 37, 38, 39, 40, 41] (by decide +kernel) (by decide +kernel)
set_option maxRecDepth 20000 in
theorem gX8_letter_X8_no : GoodIn wsX8_letter (wsV RX8 71 RX8 yX8_no wsX8_no) := goodIn_app (goodIn_of _ (by decide +kernel)) ggX8_letter_X8_no
set_option maxRecDepth 20000 in
theorem ggX8_statement_X8_oneOf : GoodIn wsX8_statement wsX8_oneOf := goodIn_r _ [13, 5, 6, 7, 8, 18, 19, 20, 21, 22, 23, 24, 25, 26, 27, 28, 29, 30, 31, 32, 33, 34, 35, 36, 37, 38, 39, 40, 41, 42, 43, 44, 45, 46, 47, 48, 49, 50] (by decide +kernel) (by decide +kernel)
set_option maxRecDepth 20000 in
theorem gX8_statement_X8_oneOf : GoodIn wsX8_statement (wsV RX8 85 RX8 yX8_oneOf wsX8_oneOf) := goodIn_app (goodIn_of _ (by decide +kernel)) ggX8_statement_X8_oneOf
set_option maxRecDepth 20000 in
theorem ggX8_statement_X8_figures : GoodIn wsX8_statement wsX8_figures := goodIn_r _ [17, 5, 6, 7, 8, 18, 19, 20, 21, 22, 23, 24, 25, 26, 27, 28, 29, 30, 31, 32, 33, 34, 35, 36, 37, 38, 39, 40, 41, 42, 43, 44, 45, 46, 47, 48, 49, 50] (by decide +kernel) (by decide +kernel)
set_option maxRecDepth 20000 in
theorem gX8_statement_X8_figures : GoodIn wsX8_statement (wsV RX8 92 RX8 yX8_figures wsX8_figures) := goodIn_app (goodIn_of _ (by decide +kernel)) ggX8_statement_X8_figures
set_option maxRecDepth 20000 in
theorem ggX8_read_X8_statement : GoodIn wsX8_read wsX8_statement := goodIn_r _ [10, 11, 5, 12, 13, 2, 1, 3, 14, 15, 16, 17, 9, 18, 19, 20, 21, 22, 39, 40, 41, 42, 43, 44, 45, 46, 47, 48, 49, 50, 51, 52, 53, 54, 55, 56, 57, 58, 59, 60, 61, 62, 63, 64, 65, 66, 67, 68, 69, 70, 71] (by decide +kernel) (by decide +kernel)
set_option maxRecDepth 20000 in
theorem gX8_read_X8_statement : GoodIn wsX8_read (wsV RX8 99 RX8 yX8_statement wsX8_statement) := goodIn_app (goodIn_of _ (by decide +kernel)) ggX8_read_X8_statement
set_option maxRecDepth 20000 in
theorem ggX8_school_X8_read : GoodIn wsX8_school wsX8_read := goodIn_r _ [6, 7, 8, 1, 9, 10, 11, 12, 13, 5, 14, 15, 16, 17, 18, 19, 20, 21, 22, 23, 24, 25, 26, 27, 28, 29, 30, 31, 32, 33, 34, 35, 36, 37, 38, 39, 40, 41, 42, 43, 44, 45, 46, 47, 48, 49, 50, 51, 52, 53, 54, 55, 56, 57, 58, 59, 60, 61, 62, 63, 64, 65, 66, 67, 68, 69, 70, 71, 72, 73, 74, 75] (by decide +kernel) (by decide +kernel)
set_option maxRecDepth 20000 in
theorem gX8_school_X8_read : GoodIn wsX8_school (wsV RX8 109 RX8 yX8_read wsX8_read) := goodIn_app (goodIn_of _ (by decide +kernel)) ggX8_school_X8_read
set_option maxRecDepth 20000 in
theorem ggX8_pupil_X8_isNobody : GoodIn wsX8_pupil wsX8_isNobody := goodIn_r _ [6, 1, 20, 21, 22, 23, 24, 25, 26, 27, 28, 29, 30, 31, 32, 33, 34, 35, 36, 37, 38, 39, 40, 41, 42, 43, 44, 45, 46, 47, 48, 49, 50, 51, 52] (by decide +kernel) (by decide +kernel)
set_option maxRecDepth 20000 in
theorem gX8_pupil_X8_isNobody : GoodIn wsX8_pupil (wsV RX8 129 RX8 yX8_isNobody wsX8_isNobody) := goodIn_app (goodIn_of _ (by decide +kernel)) ggX8_pupil_X8_isNobody
set_option maxRecDepth 20000 in
theorem ggX8_pupil_X8_no : GoodIn wsX8_pupil wsX8_no := goodIn_r _ [10, 11, 20, 21, 22, 23, 24, 25, 26, 27, 28, 29, 30, 31, 32, 33, 34, 35, 36, 37, 38, 39, 40, 41, 42, 43, 44, 45, 46, 47, 48, 49, 50, 51, 52] (by decide +kernel) (by decide +kernel)
set_option maxRecDepth 20000 in
theorem gX8_pupil_X8_no : GoodIn wsX8_pupil (wsV RX8 71 RX8 yX8_no wsX8_no) := goodIn_app (goodIn_of _ (by decide +kernel)) ggX8_pupil_X8_no
set_option maxRecDepth 20000 in
theorem ggX8_sick_X8_isNobody : GoodIn wsX8_sick wsX8_isNobody := goodIn_r _ [6, 1, 12, 13, 14, 15, 16, 17, 18, 19, 20, 21, 22, 23, 24, 25, 26, 27, 28, 29, 30, 31, 32, 33, 34, 35, 36, 37, 38, 39, 40, 41, 42, 43, 44] (by decide +kernel) (by decide +kernel)
set_option maxRecDepth 20000 in
theorem gX8_sick_X8_isNobody : GoodIn wsX8_sick (wsV RX8 129 RX8 yX8_isNobody wsX8_isNobody) := goodIn_app (goodIn_of _ (by decide +kernel)) ggX8_sick_X8_isNobody
set_option maxRecDepth 20000 in
theorem ggX8_sick_X8_no : GoodIn wsX8_sick wsX8_no := goodIn_r _ [10, 11, 12, 13, 14, 15, 16, 17, 18, 19, 20, 21, 22, 23, 24, 25, 26, 27, 28, 29, 30, 31, 32, 33, 34, 35, 36, 37, 38, 39, 40, 41, 42, 43, 44] (by decide +kernel) (by decide +kernel)
set_option maxRecDepth 20000 in
theorem gX8_sick_X8_no : GoodIn wsX8_sick (wsV RX8 71 RX8 yX8_no wsX8_no) := goodIn_app (goodIn_of _ (by decide +kernel)) ggX8_sick_X8_no
set_option maxRecDepth 20000 in
theorem ggX8_learn_X8_isNobody : GoodIn wsX8_learn wsX8_isNobody := goodIn_r _ [6, 1, 16, 17, 18, 19, 20, 21, 22, 23, 24, 25, 26, 27, 28, 29, 30, 31, 32, 33, 34, 35, 36, 37, 38, 39, 40, 41, 42, 43, 44, 45, 46, 47, 48] (by decide +kernel) (by decide +kernel)
set_option maxRecDepth 20000 in
theorem gX8_learn_X8_isNobody : GoodIn wsX8_learn (wsV RX8 129 RX8 yX8_isNobody wsX8_isNobody) := goodIn_app (goodIn_of _ (by decide +kernel)) ggX8_learn_X8_isNobody
set_option maxRecDepth 20000 in
theorem ggX8_learn_X8_no : GoodIn wsX8_learn wsX8_no := goodIn_r _ [10, 11, 16, 17, 18, 19, 20, 21, 22, 23, 24, 25, 26, 27, 28, 29, 30, 31, 32, 33, 34, 35, 36, 37, 38, 39, 40, 41, 42, 43, 44, 45, 46, 47, 48] (by decide +kernel) (by decide +kernel)
set_option maxRecDepth 20000 in
theorem gX8_learn_X8_no : GoodIn wsX8_learn (wsV RX8 71 RX8 yX8_no wsX8_no) := goodIn_app (goodIn_of _ (by decide +kernel)) ggX8_learn_X8_no
set_option maxRecDepth 20000 in
theorem ggX8_swap_X8_isNobody : GoodIn wsX8_swap wsX8_isNobody := goodIn_r _ [5, 6, 20, 21, 22, 23, 24, 25, 26, 27, 28, 29, 30, 31, 32, 33, 34, 35, 36, 37, 38, 39, 40, 41, 42, 43, 44, 45, 46, 47, 48, 49, 50, 51, 52] (by decide +kernel) (by decide +kernel)
set_option maxRecDepth 20000 in
theorem gX8_swap_X8_isNobody : GoodIn wsX8_swap (wsV RX8 129 RX8 yX8_isNobody wsX8_isNobody) := goodIn_app (goodIn_of _ (by decide +kernel)) ggX8_swap_X8_isNobody
set_option maxRecDepth 20000 in
theorem ggX8_swap_X8_no : GoodIn wsX8_swap wsX8_no := goodIn_r _ [10, 11, 20, 21, 22, 23, 24, 25, 26, 27, 28, 29, 30, 31, 32, 33, 34, 35, 36, 37, 38, 39, 40, 41, 42, 43, 44, 45, 46, 47, 48, 49, 50, 51, 52] (by decide +kernel) (by decide +kernel)
set_option maxRecDepth 20000 in
theorem gX8_swap_X8_no : GoodIn wsX8_swap (wsV RX8 71 RX8 yX8_no wsX8_no) := goodIn_app (goodIn_of _ (by decide +kernel)) ggX8_swap_X8_no
set_option maxRecDepth 20000 in
theorem ggX8_law_X8_no : GoodIn wsX8_law wsX8_no := goodIn_r _ [6, 7, 8, 9, 10, 11, 12, 13, 14, 15, 16, 17, 18, 19, 20, 21, 22, 23, 24, 25, 26, 27, 28, 29, 30, 31, 32, 33, 34, 35, 36, 37, 38, 39, 40] (by decide +kernel) (by decide +kernel)
set_option maxRecDepth 20000 in
theorem gX8_law_X8_no : GoodIn wsX8_law (wsV RX8 71 RX8 yX8_no wsX8_no) := goodIn_app (goodIn_of _ (by decide +kernel)) ggX8_law_X8_no
set_option maxRecDepth 20000 in
theorem ggX8_pass_X8_no : GoodIn wsX8_pass wsX8_no := goodIn_r _ [6, 7, 8, 9, 10, 11, 12, 13, 14, 15, 16, 17, 18, 19, 20, 21, 22, 23, 24, 25, 26, 27, 28, 29, 30, 31, 32, 33, 34, 35, 36, 37, 38, 39, 40] (by decide +kernel) (by decide +kernel)
set_option maxRecDepth 20000 in
theorem gX8_pass_X8_no : GoodIn wsX8_pass (wsV RX8 71 RX8 yX8_no wsX8_no) := goodIn_app (goodIn_of _ (by decide +kernel)) ggX8_pass_X8_no
set_option maxRecDepth 20000 in
theorem ggX8_week_X8_goBy : GoodIn wsX8_week wsX8_goBy := goodIn_r _ [11, 1, 12, 13, 14, 15, 5, 16, 17, 18, 19, 20, 21, 22, 23, 24, 25, 26, 27, 28, 29, 30, 31, 32, 33, 34, 35, 36, 37, 38, 39, 40, 41, 42, 43, 44, 45, 46, 47, 48, 49, 50, 51, 52, 53, 54, 55, 56, 57, 58, 59, 60, 61, 62, 63, 64, 65, 66, 67, 68, 69, 70, 71, 72, 73, 74, 75, 76, 77] (by decide +kernel) (by decide +kernel)
set_option maxRecDepth 20000 in
theorem gX8_week_X8_goBy : GoodIn wsX8_week (wsV RX8 141 RX8 yX8_goBy wsX8_goBy) := goodIn_app (goodIn_of _ (by decide +kernel)) ggX8_week_X8_goBy
set_option maxRecDepth 20000 in
theorem ggX8_knows_X8_isNobody : GoodIn wsX8_knows wsX8_isNobody := goodIn_r _ [5, 6, 24, 25, 26, 27, 28, 29, 30, 31, 32, 33, 34, 35, 36, 37, 38, 39, 40, 41, 42, 43, 44, 45, 46, 47, 48, 49, 50, 51, 52, 53, 54, 55, 56] (by decide +kernel) (by decide +kernel)
set_option maxRecDepth 20000 in
theorem gX8_knows_X8_isNobody : GoodIn wsX8_knows (wsV RX8 129 RX8 yX8_isNobody wsX8_isNobody) := goodIn_app (goodIn_of _ (by decide +kernel)) ggX8_knows_X8_isNobody
set_option maxRecDepth 20000 in
theorem ggX8_knows_X8_no : GoodIn wsX8_knows wsX8_no := goodIn_r _ [10, 11, 24, 25, 26, 27, 28, 29, 30, 31, 32, 33, 34, 35, 36, 37, 38, 39, 40, 41, 42, 43, 44, 45, 46, 47, 48, 49, 50, 51, 52, 53, 54, 55, 56] (by decide +kernel) (by decide +kernel)
set_option maxRecDepth 20000 in
theorem gX8_knows_X8_no : GoodIn wsX8_knows (wsV RX8 71 RX8 yX8_no wsX8_no) := goodIn_app (goodIn_of _ (by decide +kernel)) ggX8_knows_X8_no
set_option maxRecDepth 20000 in
theorem ggX8_mark_X8_isNobody : GoodIn wsX8_mark wsX8_isNobody := goodIn_r _ [6, 1, 32, 33, 34, 35, 36, 37, 38, 39, 40, 41, 42, 43, 44, 45, 46, 47, 48, 49, 50, 51, 52, 53, 54, 55, 56, 57, 58, 59, 60, 61, 62, 63, 64] (by decide +kernel) (by decide +kernel)
set_option maxRecDepth 20000 in
theorem gX8_mark_X8_isNobody : GoodIn wsX8_mark (wsV RX8 129 RX8 yX8_isNobody wsX8_isNobody) := goodIn_app (goodIn_of _ (by decide +kernel)) ggX8_mark_X8_isNobody
set_option maxRecDepth 20000 in
theorem ggX8_mark_X8_no : GoodIn wsX8_mark wsX8_no := goodIn_r _ [10, 11, 32, 33, 34, 35, 36, 37, 38, 39, 40, 41, 42, 43, 44, 45, 46, 47, 48, 49, 50, 51, 52, 53, 54, 55, 56, 57, 58, 59, 60, 61, 62, 63, 64] (by decide +kernel) (by decide +kernel)
set_option maxRecDepth 20000 in
theorem gX8_mark_X8_no : GoodIn wsX8_mark (wsV RX8 71 RX8 yX8_no wsX8_no) := goodIn_app (goodIn_of _ (by decide +kernel)) ggX8_mark_X8_no
set_option maxRecDepth 20000 in
theorem ggX8_passed_X8_whoPass : GoodIn wsX8_passed wsX8_whoPass := goodIn_r _ [5, 6, 7, 8, 9, 4, 10, 11, 12, 13, 14, 15, 16, 17, 18, 19, 20, 21, 22, 23, 24, 25, 26, 27, 28, 29, 30, 31, 32, 33, 34, 35, 36, 37, 38, 39, 40, 41, 42, 43, 44, 45, 46, 47, 48, 49, 50, 51, 52, 53, 54, 55, 56, 57, 58, 59] (by decide +kernel) (by decide +kernel)
set_option maxRecDepth 20000 in
theorem gX8_passed_X8_whoPass : GoodIn wsX8_passed (wsV RX8 144 RX8 yX8_whoPass wsX8_whoPass) := goodIn_app (goodIn_of _ (by decide +kernel)) ggX8_passed_X8_whoPass
set_option maxRecDepth 20000 in
theorem ggX8_all_X8_together : GoodIn wsX8_all wsX8_together := goodIn_r _ [6, 1, 7, 8, 9, 5, 10, 11, 12, 13, 14, 15, 16, 17, 18, 19, 20, 21, 22, 23, 24, 25, 26, 27, 28, 29, 30, 31, 32, 33, 34, 35, 36, 37, 38, 39, 40, 41, 42, 43, 44, 45, 46, 47, 48, 49, 50, 51, 52, 53, 54, 55, 56, 57, 58, 59] (by decide +kernel) (by decide +kernel)
set_option maxRecDepth 20000 in
theorem gX8_all_X8_together : GoodIn wsX8_all (wsV RX8 147 RX8 yX8_together wsX8_together) := goodIn_app (goodIn_of _ (by decide +kernel)) ggX8_all_X8_together
