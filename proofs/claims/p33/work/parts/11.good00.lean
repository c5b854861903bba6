set_option maxRecDepth 20000 in
theorem ggX8_image_X8_move : GoodIn wsX8_image wsX8_move := goodIn_r _ [7] (by decide +kernel) (by decide +kernel)
set_option maxRecDepth 20000 in
theorem gX8_image_X8_move : GoodIn wsX8_image (va_wsS RX8 67 yX8_move wsX8_move) := goodIn_app (goodIn_of _ (by decide +kernel)) ggX8_image_X8_move
set_option maxRecDepth 20000 in
theorem ggX8_on_X8_no : GoodIn wsX8_on wsX8_no := goodIn_r _ [8, 9, 13, 14, 15, 16, 17, 18, 19, 20, 21, 22, 23, 24, 25, 26, 27, 28, 29, 30, 31, 32, 33, 34, 35, 36, 37, 38, 39, 40, 41, 42, 43, 44, 45] (by decide +kernel) (by decide +kernel)
set_option maxRecDepth 20000 in
theorem gX8_on_X8_no : GoodIn wsX8_on (wsV RX8 71 RX8 yX8_no wsX8_no) := goodIn_app (goodIn_of _ (by decide +kernel)) ggX8_on_X8_no
set_option maxRecDepth 20000 in
theorem ggX8_on_X8_move : GoodIn wsX8_on wsX8_move := goodIn_r _ [12] (by decide +kernel) (by decide +kernel)
set_option maxRecDepth 20000 in
theorem gX8_on_X8_move : GoodIn wsX8_on (va_wsS RX8 67 yX8_move wsX8_move) := goodIn_app (goodIn_of _ (by decide +kernel)) ggX8_on_X8_move
set_option maxRecDepth 20000 in
theorem ggX8_letter_X8_no : GoodIn wsX8_letter wsX8_no := goodIn_r _ [7, 8, 9, 10, 11, 12, 13, 14, 15, 16, 17, 18, 19, 20, 21, 22, 23, 24, 25, 26, 27, 28, 29, 30, 31, 32, 33, 34, 35, 36, 37, 38, 39, 40, 41] (by decide +kernel) (by decide +kernel)
set_option maxRecDepth 20000 in
theorem gX8_letter_X8_no : GoodIn wsX8_letter (wsV RX8 71 RX8 yX8_no wsX8_no) := goodIn_app (goodIn_of _ (by decide +kernel)) ggX8_letter_X8_no
set_option maxRecDepth 20000 in
theorem ggX8_statement_X8_oneOf : GoodIn wsX8_statement wsX8_oneOf := goodIn_r _ [13, 5, 6, 7, 8, 18, 19, 20, 21, 22, 23, 24, 25, 26, 27, 28, 29, 30, 31, 32, 33, 34, 35, 36, 37, 38, 39, 40, 41, 42, 43, 44, 45, 46, 47, 48, 49, 50] (by decide +kernel) (by decide +kernel)
set_option maxRecDepth 20000 in
theorem gX8_statement_X8_oneOf : GoodIn wsX8_statement (wsV RX8 85 RX8 yX8_oneOf wsX8_oneOf) := goodIn_app (goodIn_of _ (by decide +kernel)) ggX8_statement_X8_oneOf
set_option maxRecDepth 20000 in
theorem ggX8_statement_X8_figures : GoodIn wsX8_statement wsX8_figures := goodIn_r _ [17, 5, 6, 7, 8, 18, 19, 20, 21, 22, 23, 24, 25, 26, 27, 28, 29, 30, 31, 32, 33, 34, 35, 36, 37, 38, 39, 40, 41, 42, 43, 44, 45, 46, 47, 48, 49, 50] (by decide +kernel) (by decide +kernel)
set_option maxRecDepth 20000 in
theorem gX8_statement_X8_figures : GoodIn wsX8_statement (wsV RX8 92 RX8 yX8_figures wsX8_figures) := goodIn_app (goodIn_of _ (by decide +kernel)) ggX8_statement_X8_figures
set_option maxRecDepth 20000 in
theorem ggX8_come_X8_change : GoodIn wsX8_come wsX8_change := goodIn_r _ [8, 1, 9, 10, 11, 7, 12, 13, 14, 15, 16, 17, 18, 19, 20, 21, 22, 23, 24, 25, 26, 27, 28, 29, 30, 31, 32, 33, 34, 35, 36, 37, 38, 39, 40, 41, 42, 43, 44, 45] (by decide +kernel) (by decide +kernel)
set_option maxRecDepth 20000 in
theorem gX8_come_X8_change : GoodIn wsX8_come (wsV RX8 95 RX8 yX8_change wsX8_change) := goodIn_app (goodIn_of _ (by decide +kernel)) ggX8_come_X8_change
set_option maxRecDepth 20000 in
theorem ggX8_read_X8_statement : GoodIn wsX8_read wsX8_statement := goodIn_r _ [10, 11, 5, 12, 13, 2, 1, 3, 14, 15, 16, 17, 9, 18, 19, 20, 21, 22, 39, 40, 41, 42, 43, 44, 45, 46, 47, 48, 49, 50, 51, 52, 53, 54, 55, 56, 57, 58, 59, 60, 61, 62, 63, 64, 65, 66, 67, 68, 69, 70, 71] (by decide +kernel) (by decide +kernel)
set_option maxRecDepth 20000 in
theorem gX8_read_X8_statement : GoodIn wsX8_read (wsV RX8 99 RX8 yX8_statement wsX8_statement) := goodIn_app (goodIn_of _ (by decide +kernel)) ggX8_read_X8_statement
set_option maxRecDepth 20000 in
theorem ggX8_read_X8_isAsItMustBe : GoodIn wsX8_read wsX8_isAsItMustBe := goodIn_r _ [26, 5, 12, 39, 40, 41, 42, 43, 44, 45, 46, 47, 48, 49, 50, 51, 52, 53, 54, 55, 56, 57, 58, 59, 60, 61, 62, 63, 64, 65, 66, 67, 68, 69, 70, 71] (by decide +kernel) (by decide +kernel)
set_option maxRecDepth 20000 in
theorem gX8_read_X8_isAsItMustBe : GoodIn wsX8_read (wsV RX8 102 RX8 yX8_isAsItMustBe wsX8_isAsItMustBe) := goodIn_app (goodIn_of _ (by decide +kernel)) ggX8_read_X8_isAsItMustBe
set_option maxRecDepth 20000 in
theorem ggX8_read_X8_come : GoodIn wsX8_read wsX8_come := goodIn_r _ [30, 4, 5, 12, 31, 32, 33, 9, 34, 35, 36, 37, 38, 39, 40, 41, 42, 43, 44, 45, 46, 47, 48, 49, 50, 51, 52, 53, 54, 55, 56, 57, 58, 59, 60, 61, 62, 63, 64, 65, 66, 67, 68, 69, 70, 71] (by decide +kernel) (by decide +kernel)
set_option maxRecDepth 20000 in
theorem gX8_read_X8_come : GoodIn wsX8_read (wsV RX8 106 RX8 yX8_come wsX8_come) := goodIn_app (goodIn_of _ (by decide +kernel)) ggX8_read_X8_come
set_option maxRecDepth 20000 in
theorem ggX8_school_X8_read : GoodIn wsX8_school wsX8_read := goodIn_r _ [6, 7, 8, 1, 9, 10, 11, 12, 13, 5, 14, 15, 16, 17, 18, 19, 20, 21, 22, 23, 24, 25, 26, 27, 28, 29, 30, 31, 32, 33, 34, 35, 36, 37, 38, 39, 40, 41, 42, 43, 44, 45, 46, 47, 48, 49, 50, 51, 52, 53, 54, 55, 56, 57, 58, 59, 60, 61, 62, 63, 64, 65, 66, 67, 68, 69, 70, 71, 72, 73, 74, 75] (by decide +kernel) (by decide +kernel)
set_option maxRecDepth 20000 in
theorem gX8_school_X8_read : GoodIn wsX8_school (wsV RX8 109 RX8 yX8_read wsX8_read) := goodIn_app (goodIn_of _ (by decide +kernel)) ggX8_school_X8_read
set_option maxRecDepth 20000 in
theorem ggX8_change_X8_seatOf : GoodIn wsX8_change wsX8_seatOf := goodIn_r _ [6, 1, 7, 8, 9, 10, 11, 12, 13, 14, 15, 16, 17, 18, 19, 20, 21, 22, 23, 24, 25, 26, 27, 28, 29, 30, 31, 32, 33, 34, 35, 36, 37, 38, 39] (by decide +kernel) (by decide +kernel)
set_option maxRecDepth 20000 in
theorem gX8_change_X8_seatOf : GoodIn wsX8_change (wsV RX8 113 RX8 yX8_seatOf wsX8_seatOf) := goodIn_app (goodIn_of _ (by decide +kernel)) ggX8_change_X8_seatOf
set_option maxRecDepth 20000 in
theorem ggX8_beside_X8_seatOf : GoodIn wsX8_beside wsX8_seatOf := goodIn_r _ [6, 1, 7, 8, 9, 10, 11, 12, 13, 14, 15, 16, 17, 18, 19, 20, 21, 22, 23, 24, 25, 26, 27, 28, 29, 30, 31, 32, 33, 34, 35, 36, 37, 38, 39] (by decide +kernel) (by decide +kernel)
set_option maxRecDepth 20000 in
theorem gX8_beside_X8_seatOf : GoodIn wsX8_beside (wsV RX8 113 RX8 yX8_seatOf wsX8_seatOf) := goodIn_app (goodIn_of _ (by decide +kernel)) ggX8_beside_X8_seatOf
set_option maxRecDepth 20000 in
theorem ggX8_known_X8_beside : GoodIn wsX8_known wsX8_beside := goodIn_r _ [6, 1, 7, 8, 9, 5, 10, 11, 12, 13, 14, 15, 16, 17, 18, 19, 20, 21, 22, 23, 24, 25, 26, 27, 28, 29, 30, 31, 32, 33, 34, 35, 36, 37, 38, 39, 40, 41, 42, 43] (by decide +kernel) (by decide +kernel)
set_option maxRecDepth 20000 in
theorem gX8_known_X8_beside : GoodIn wsX8_known (wsV RX8 116 RX8 yX8_beside wsX8_beside) := goodIn_app (goodIn_of _ (by decide +kernel)) ggX8_known_X8_beside
set_option maxRecDepth 20000 in
theorem ggX8_knownBeside_X8_beside : GoodIn wsX8_knownBeside wsX8_beside := goodIn_r _ [5, 6, 7, 8, 9, 4, 10, 15, 16, 17, 18, 19, 20, 21, 22, 23, 24, 25, 26, 27, 28, 29, 30, 31, 32, 33, 34, 35, 36, 37, 38, 39, 40, 41, 42, 43, 44, 45, 46, 47] (by decide +kernel) (by decide +kernel)
set_option maxRecDepth 20000 in
theorem gX8_knownBeside_X8_beside : GoodIn wsX8_knownBeside (wsV RX8 116 RX8 yX8_beside wsX8_beside) := goodIn_app (goodIn_of _ (by decide +kernel)) ggX8_knownBeside_X8_beside
set_option maxRecDepth 20000 in
theorem ggX8_knownBeside_X8_known : GoodIn wsX8_knownBeside wsX8_known := goodIn_r _ [14, 6, 1, 2, 3, 4, 5, 7, 8, 9, 10, 15, 16, 17, 18, 19, 20, 21, 22, 23, 24, 25, 26, 27, 28, 29, 30, 31, 32, 33, 34, 35, 36, 37, 38, 39, 40, 41, 42, 43, 44, 45, 46, 47] (by decide +kernel) (by decide +kernel)
set_option maxRecDepth 20000 in
theorem gX8_knownBeside_X8_known : GoodIn wsX8_knownBeside (wsV RX8 120 RX8 yX8_known wsX8_known) := goodIn_app (goodIn_of _ (by decide +kernel)) ggX8_knownBeside_X8_known
set_option maxRecDepth 20000 in
theorem ggX8_marked_X8_known : GoodIn wsX8_marked wsX8_known := goodIn_r _ [6, 1, 7, 8, 9, 5, 10, 11, 12, 13, 14, 19, 20, 21, 22, 23, 24, 25, 26, 27, 28, 29, 30, 31, 32, 33, 34, 35, 36, 37, 38, 39, 40, 41, 42, 43, 44, 45, 46, 47, 48, 49, 50, 51] (by decide +kernel) (by decide +kernel)
set_option maxRecDepth 20000 in
theorem gX8_marked_X8_known : GoodIn wsX8_marked (wsV RX8 120 RX8 yX8_known wsX8_known) := goodIn_app (goodIn_of _ (by decide +kernel)) ggX8_marked_X8_known
set_option maxRecDepth 20000 in
theorem ggX8_marked_X8_knownBeside : GoodIn wsX8_marked wsX8_knownBeside := goodIn_r _ [18, 7, 8, 9, 5, 10, 1, 11, 12, 13, 14, 2, 3, 4, 6, 19, 20, 21, 22, 23, 24, 25, 26, 27, 28, 29, 30, 31, 32, 33, 34, 35, 36, 37, 38, 39, 40, 41, 42, 43, 44, 45, 46, 47, 48, 49, 50, 51] (by decide +kernel) (by decide +kernel)
set_option maxRecDepth 20000 in
theorem gX8_marked_X8_knownBeside : GoodIn wsX8_marked (wsV RX8 123 RX8 yX8_knownBeside wsX8_knownBeside) := goodIn_app (goodIn_of _ (by decide +kernel)) ggX8_marked_X8_knownBeside
set_option maxRecDepth 20000 in
theorem ggX8_together_X8_marked : GoodIn wsX8_together wsX8_marked := goodIn_r _ [6, 1, 7, 8, 9, 5, 10, 11, 12, 13, 14, 15, 16, 17, 18, 19, 20, 21, 22, 23, 24, 25, 26, 27, 28, 29, 30, 31, 32, 33, 34, 35, 36, 37, 38, 39, 40, 41, 42, 43, 44, 45, 46, 47, 48, 49, 50, 51, 52, 53, 54, 55] (by decide +kernel) (by decide +kernel)
set_option maxRecDepth 20000 in
theorem gX8_together_X8_marked : GoodIn wsX8_together (wsV RX8 126 RX8 yX8_marked wsX8_marked) := goodIn_app (goodIn_of _ (by decide +kernel)) ggX8_together_X8_marked
set_option maxRecDepth 20000 in
theorem ggX8_whoPass_X8_marked : GoodIn wsX8_whoPass wsX8_marked := goodIn_r _ [6, 1, 7, 8, 9, 5, 10, 11, 12, 13, 14, 15, 16, 17, 18, 19, 20, 21, 22, 23, 24, 25, 26, 27, 28, 29, 30, 31, 32, 33, 34, 35, 36, 37, 38, 39, 40, 41, 42, 43, 44, 45, 46, 47, 48, 49, 50, 51, 52, 53, 54, 55] (by decide +kernel) (by decide +kernel)
set_option maxRecDepth 20000 in
theorem gX8_whoPass_X8_marked : GoodIn wsX8_whoPass (wsV RX8 126 RX8 yX8_marked wsX8_marked) := goodIn_app (goodIn_of _ (by decide +kernel)) ggX8_whoPass_X8_marked
set_option maxRecDepth 20000 in
theorem ggX8_pupil_X8_isNobody : GoodIn wsX8_pupil wsX8_isNobody := goodIn_r _ [6, 1, 20, 21, 22, 23, 24, 25, 26, 27, 28, 29, 30, 31, 32, 33, 34, 35, 36, 37, 38, 39, 40, 41, 42, 43, 44, 45, 46, 47, 48, 49, 50, 51, 52] (by decide +kernel) (by decide +kernel)
set_option maxRecDepth 20000 in
theorem gX8_pupil_X8_isNobody : GoodIn wsX8_pupil (wsV RX8 129 RX8 yX8_isNobody wsX8_isNobody) := goodIn_app (goodIn_of _ (by decide +kernel)) ggX8_pupil_X8_isNobody
set_option maxRecDepth 20000 in
theorem ggX8_pupil_X8_no : GoodIn wsX8_pupil wsX8_no := goodIn_r _ [10, 11, 20, 21, 22, 23, 24, 25, 26, 27, 28, 29, 30, 31, 32, 33, 34, 35, 36, 37, 38, 39, 40, 41, 42, 43, 44, 45, 46, 47, 48, 49, 50, 51, 52] (by decide +kernel) (by decide +kernel)
set_option maxRecDepth 20000 in
theorem gX8_pupil_X8_no : GoodIn wsX8_pupil (wsV RX8 71 RX8 yX8_no wsX8_no) := goodIn_app (goodIn_of _ (by decide +kernel)) ggX8_pupil_X8_no
set_option maxRecDepth 20000 in
theorem ggX8_pupil_X8_seatOf : GoodIn wsX8_pupil wsX8_seatOf := goodIn_r _ [15, 1, 20, 21, 22, 23, 24, 25, 26, 27, 28, 29, 30, 31, 32, 33, 34, 35, 36, 37, 38, 39, 40, 41, 42, 43, 44, 45, 46, 47, 48, 49, 50, 51, 52] (by decide +kernel) (by decide +kernel)
set_option maxRecDepth 20000 in
theorem gX8_pupil_X8_seatOf : GoodIn wsX8_pupil (wsV RX8 113 RX8 yX8_seatOf wsX8_seatOf) := goodIn_app (goodIn_of _ (by decide +kernel)) ggX8_pupil_X8_seatOf
set_option maxRecDepth 20000 in
theorem ggX8_pupil_X8_beside : GoodIn wsX8_pupil wsX8_beside := goodIn_r _ [19, 1, 12, 13, 14, 5, 15, 20, 21, 22, 23, 24, 25, 26, 27, 28, 29, 30, 31, 32, 33, 34, 35, 36, 37, 38, 39, 40, 41, 42, 43, 44, 45, 46, 47, 48, 49, 50, 51, 52] (by decide +kernel) (by decide +kernel)
set_option maxRecDepth 20000 in
theorem gX8_pupil_X8_beside : GoodIn wsX8_pupil (wsV RX8 116 RX8 yX8_beside wsX8_beside) := goodIn_app (goodIn_of _ (by decide +kernel)) ggX8_pupil_X8_beside
set_option maxRecDepth 20000 in
theorem ggX8_sick_X8_isNobody : GoodIn wsX8_sick wsX8_isNobody := goodIn_r _ [6, 1, 12, 13, 14, 15, 16, 17, 18, 19, 20, 21, 22, 23, 24, 25, 26, 27, 28, 29, 30, 31, 32, 33, 34, 35, 36, 37, 38, 39, 40, 41, 42, 43, 44] (by decide +kernel) (by decide +kernel)
set_option maxRecDepth 20000 in
theorem gX8_sick_X8_isNobody : GoodIn wsX8_sick (wsV RX8 129 RX8 yX8_isNobody wsX8_isNobody) := goodIn_app (goodIn_of _ (by decide +kernel)) ggX8_sick_X8_isNobody
set_option maxRecDepth 20000 in
theorem ggX8_sick_X8_no : GoodIn wsX8_sick wsX8_no := goodIn_r _ [10, 11, 12, 13, 14, 15, 16, 17, 18, 19, 20, 21, 22, 23, 24, 25, 26, 27, 28, 29, 30, 31, 32, 33, 34, 35, 36, 37, 38, 39, 40, 41, 42, 43, 44] (by decide +kernel) (by decide +kernel)
set_option maxRecDepth 20000 in
theorem gX8_sick_X8_no : GoodIn wsX8_sick (wsV RX8 71 RX8 yX8_no wsX8_no) := goodIn_app (goodIn_of _ (by decide +kernel)) ggX8_sick_X8_no
set_option maxRecDepth 20000 in
theorem ggX8_learn_X8_isNobody : GoodIn wsX8_learn wsX8_isNobody := goodIn_r _ [6, 1, 16, 17, 18, 19, 20, 21, 22, 23, 24, 25, 26, 27, 28, 29, 30, 31, 32, 33, 34, 35, 36, 37, 38, 39, 40, 41, 42, 43, 44, 45, 46, 47, 48] (by decide +kernel) (by decide +kernel)
set_option maxRecDepth 20000 in
theorem gX8_learn_X8_isNobody : GoodIn wsX8_learn (wsV RX8 129 RX8 yX8_isNobody wsX8_isNobody) := goodIn_app (goodIn_of _ (by decide +kernel)) ggX8_learn_X8_isNobody
set_option maxRecDepth 20000 in
theorem ggX8_learn_X8_no : GoodIn wsX8_learn wsX8_no := goodIn_r _ [10, 11, 16, 17, 18, 19, 20, 21, 22, 23, 24, 25, 26, 27, 28, 29, 30, 31, 32, 33, 34, 35, 36, 37, 38, 39, 40, 41, 42, 43, 44, 45, 46, 47, 48] (by decide +kernel) (by decide +kernel)
set_option maxRecDepth 20000 in
theorem gX8_learn_X8_no : GoodIn wsX8_learn (wsV RX8 71 RX8 yX8_no wsX8_no) := goodIn_app (goodIn_of _ (by decide +kernel)) ggX8_learn_X8_no
set_option maxRecDepth 20000 in
theorem ggX8_learn_X8_teach : GoodIn wsX8_learn wsX8_teach := goodIn_r _ [15, 1, 16, 17, 18, 19, 20, 21, 22, 23, 24, 25, 26, 27, 28, 29, 30, 31, 32, 33, 34, 35, 36, 37, 38, 39, 40, 41, 42, 43, 44, 45, 46, 47, 48] (by decide +kernel) (by decide +kernel)
set_option maxRecDepth 20000 in
theorem gX8_learn_X8_teach : GoodIn wsX8_learn (wsV RX8 132 RX8 yX8_teach wsX8_teach) := goodIn_app (goodIn_of _ (by decide +kernel)) ggX8_learn_X8_teach
set_option maxRecDepth 20000 in
theorem ggX8_swap_X8_isNobody : GoodIn wsX8_swap wsX8_isNobody := goodIn_r _ [5, 6, 20, 21, 22, 23, 24, 25, 26, 27, 28, 29, 30, 31, 32, 33, 34, 35, 36, 37, 38, 39, 40, 41, 42, 43, 44, 45, 46, 47, 48, 49, 50, 51, 52] (by decide +kernel) (by decide +kernel)
set_option maxRecDepth 20000 in
theorem gX8_swap_X8_isNobody : GoodIn wsX8_swap (wsV RX8 129 RX8 yX8_isNobody wsX8_isNobody) := goodIn_app (goodIn_of _ (by decide +kernel)) ggX8_swap_X8_isNobody
