set_option maxRecDepth 20000 in
theorem ggX7_letter_X7_refuse : GoodIn wsX7_letter wsX7_refuse := goodIn_r _ [7, 8, 21, 22, 23, 24, 25, 26, 27, 28, 29, 30, 31, 32] (by decide +kernel) (by decide +kernel)
set_option maxRecDepth 20000 in
theorem gX7_letter_X7_refuse : GoodIn wsX7_letter (wsV RX7 69 RX7 yX7_refuse wsX7_refuse) := goodIn_app (goodIn_of _ (by decide +kernel)) ggX7_letter_X7_refuse
set_option maxRecDepth 20000 in
theorem ggX7_letter_X1_isFull : GoodIn wsX7_letter wsX1_isFull := goodIn_r _ [13, 14, 15, 33, 34] (by decide +kernel) (by decide +kernel)
set_option maxRecDepth 20000 in
theorem gX7_letter_X1_isFull : GoodIn wsX7_letter (wsV RX7 73 RX1 yX1_isFull wsX1_isFull) := goodIn_app (goodIn_of _ (by decide +kernel)) ggX7_letter_X1_isFull
set_option maxRecDepth 20000 in
theorem ggX7_letter_X1_add : GoodIn wsX7_letter wsX1_add := goodIn_r _ [19, 15, 14, 20, 10, 11, 12, 13, 33, 34] (by decide +kernel) (by decide +kernel)
set_option maxRecDepth 20000 in
theorem gX7_letter_X1_add : GoodIn wsX7_letter (wsV RX7 77 RX1 yX1_add wsX1_add) := goodIn_app (goodIn_of _ (by decide +kernel)) ggX7_letter_X1_add
set_option maxRecDepth 20000 in
theorem ggX7_school_X3_copyFrom : GoodIn wsX7_school wsX3_copyFrom := goodIn_r _ [9, 10, 11, 12, 13, 14, 15, 16, 17, 18, 19, 20, 21, 22, 23, 24, 25, 26, 27, 28, 125, 126, 127, 128, 129, 130, 131, 132, 133, 134, 135, 136, 137, 138, 139, 140] (by decide +kernel) (by decide +kernel)
set_option maxRecDepth 20000 in
theorem gX7_school_X3_copyFrom : GoodIn wsX7_school (wsV RX7 84 RX3 yX3_copyFrom wsX3_copyFrom) := goodIn_app (goodIn_of _ (by decide +kernel)) ggX7_school_X3_copyFrom
set_option maxRecDepth 20000 in
theorem ggX7_school_X2_read : GoodIn wsX7_school wsX2_read := goodIn_r _ [33, 34, 35, 36, 37, 38, 39, 32, 40, 41, 42, 43, 44, 45, 46, 47, 48, 49, 50, 51, 52, 53, 54, 55, 56, 57, 58, 59, 60, 61, 62, 63, 64, 65, 66, 67, 68, 8, 69, 10, 16, 21, 22, 23, 11, 26, 70, 71, 72, 73, 24, 25, 74, 75, 76, 77, 78, 79, 80, 81, 15, 27, 28, 82, 83, 84, 85, 86, 87, 88, 89, 90, 91, 92, 93, 94, 95, 96, 97, 98, 99, 100, 101, 102, 103, 104, 105, 106, 107, 108, 141, 142, 143, 144, 125, 126, 127, 128, 129, 130, 131, 132, 133, 134, 135, 136, 137, 138, 139, 140] (by decide +kernel) (by decide +kernel)
set_option maxRecDepth 20000 in
theorem gX7_school_X2_read : GoodIn wsX7_school (wsV RX7 88 RX2 yX2_read wsX2_read) := goodIn_app (goodIn_of _ (by decide +kernel)) ggX7_school_X2_read
set_option maxRecDepth 20000 in
theorem ggX7_school_X1_clear : GoodIn wsX7_school wsX1_clear := goodIn_r _ [112, 46, 143, 144] (by decide +kernel) (by decide +kernel)
set_option maxRecDepth 20000 in
theorem gX7_school_X1_clear : GoodIn wsX7_school (wsV RX7 92 RX1 yX1_clear wsX1_clear) := goodIn_app (goodIn_of _ (by decide +kernel)) ggX7_school_X1_clear
set_option maxRecDepth 20000 in
theorem ggX7_pupil_X3_has : GoodIn wsX7_pupil wsX3_has := goodIn_r _ [13, 14, 38, 39, 40, 41, 42, 43, 44, 45, 46, 47, 48, 49, 50, 51, 52, 53] (by decide +kernel) (by decide +kernel)
set_option maxRecDepth 20000 in
theorem gX7_pupil_X3_has : GoodIn wsX7_pupil (wsV RX7 95 RX3 yX3_has wsX3_has) := goodIn_app (goodIn_of _ (by decide +kernel)) ggX7_pupil_X3_has
set_option maxRecDepth 20000 in
theorem ggX7_pupil_X7_refuse : GoodIn wsX7_pupil wsX7_refuse := goodIn_r _ [19, 20, 26, 27, 28, 29, 30, 31, 32, 33, 34, 35, 36, 37] (by decide +kernel) (by decide +kernel)
set_option maxRecDepth 20000 in
theorem gX7_pupil_X7_refuse : GoodIn wsX7_pupil (wsV RX7 69 RX7 yX7_refuse wsX7_refuse) := goodIn_app (goodIn_of _ (by decide +kernel)) ggX7_pupil_X7_refuse
set_option maxRecDepth 20000 in
theorem ggX7_pupil_X3_seatOf : GoodIn wsX7_pupil wsX3_seatOf := goodIn_r _ [24, 14, 25, 38, 39, 40, 41, 42, 43, 44, 45, 46, 47, 48, 49, 50, 51, 52, 53] (by decide +kernel) (by decide +kernel)
set_option maxRecDepth 20000 in
theorem gX7_pupil_X3_seatOf : GoodIn wsX7_pupil (wsV RX7 117 RX3 yX3_seatOf wsX3_seatOf) := goodIn_app (goodIn_of _ (by decide +kernel)) ggX7_pupil_X3_seatOf
set_option maxRecDepth 20000 in
theorem ggX7_sick_X3_has : GoodIn wsX7_sick wsX3_has := goodIn_r _ [7, 8, 27, 28, 29, 30, 31, 32, 33, 34, 35, 36, 37, 38, 39, 40, 41, 42] (by decide +kernel) (by decide +kernel)
set_option maxRecDepth 20000 in
theorem gX7_sick_X3_has : GoodIn wsX7_sick (wsV RX7 95 RX3 yX3_has wsX3_has) := goodIn_app (goodIn_of _ (by decide +kernel)) ggX7_sick_X3_has
set_option maxRecDepth 20000 in
theorem ggX7_sick_X7_refuse : GoodIn wsX7_sick wsX7_refuse := goodIn_r _ [13, 14, 15, 16, 17, 18, 19, 20, 21, 22, 23, 24, 25, 26] (by decide +kernel) (by decide +kernel)
set_option maxRecDepth 20000 in
theorem gX7_sick_X7_refuse : GoodIn wsX7_sick (wsV RX7 69 RX7 yX7_refuse wsX7_refuse) := goodIn_app (goodIn_of _ (by decide +kernel)) ggX7_sick_X7_refuse
set_option maxRecDepth 20000 in
theorem ggX7_learn_X3_has : GoodIn wsX7_learn wsX3_has := goodIn_r _ [8, 9, 36, 37, 38, 39, 40, 41, 42, 43, 44, 45, 46, 47, 48, 49, 50, 51] (by decide +kernel) (by decide +kernel)
set_option maxRecDepth 20000 in
theorem gX7_learn_X3_has : GoodIn wsX7_learn (wsV RX7 95 RX3 yX3_has wsX3_has) := goodIn_app (goodIn_of _ (by decide +kernel)) ggX7_learn_X3_has
set_option maxRecDepth 20000 in
theorem ggX7_learn_X7_refuse : GoodIn wsX7_learn wsX7_refuse := goodIn_r _ [14, 15, 24, 25, 26, 27, 28, 29, 30, 31, 32, 33, 34, 35] (by decide +kernel) (by decide +kernel)
set_option maxRecDepth 20000 in
theorem gX7_learn_X7_refuse : GoodIn wsX7_learn (wsV RX7 69 RX7 yX7_refuse wsX7_refuse) := goodIn_app (goodIn_of _ (by decide +kernel)) ggX7_learn_X7_refuse
set_option maxRecDepth 20000 in
theorem ggX7_learn_X3_setLearn : GoodIn wsX7_learn wsX3_setLearn := goodIn_r _ [19, 20, 21, 22, 23, 5, 6, 7, 8, 9, 36, 37, 38, 39, 40, 41, 42, 43, 44, 45, 46, 47, 48, 49, 50, 51] (by decide +kernel) (by decide +kernel)
set_option maxRecDepth 20000 in
theorem gX7_learn_X3_setLearn : GoodIn wsX7_learn (wsV RX7 126 RX3 yX3_setLearn wsX3_setLearn) := goodIn_app (goodIn_of _ (by decide +kernel)) ggX7_learn_X3_setLearn
set_option maxRecDepth 20000 in
theorem ggX7_swap_X3_has : GoodIn wsX7_swap wsX3_has := goodIn_r _ [6, 7, 43, 44, 45, 46, 47, 48, 49, 50, 51, 52, 53, 54, 55, 56, 57, 58] (by decide +kernel) (by decide +kernel)
set_option maxRecDepth 20000 in
theorem gX7_swap_X3_has : GoodIn wsX7_swap (wsV RX7 95 RX3 yX3_has wsX3_has) := goodIn_app (goodIn_of _ (by decide +kernel)) ggX7_swap_X3_has
set_option maxRecDepth 20000 in
theorem ggX7_swap_X7_refuse : GoodIn wsX7_swap wsX7_refuse := goodIn_r _ [12, 13, 31, 32, 33, 34, 35, 36, 37, 38, 39, 40, 41, 42] (by decide +kernel) (by decide +kernel)
set_option maxRecDepth 20000 in
theorem gX7_swap_X7_refuse : GoodIn wsX7_swap (wsV RX7 69 RX7 yX7_refuse wsX7_refuse) := goodIn_app (goodIn_of _ (by decide +kernel)) ggX7_swap_X7_refuse
set_option maxRecDepth 20000 in
theorem ggX7_swap_X3_changeSeats : GoodIn wsX7_swap wsX3_changeSeats := goodIn_r _ [17, 18, 19, 20, 21, 5, 22, 7, 23, 24, 25, 26, 27, 28, 29, 30, 3, 4, 6, 43, 44, 45, 46, 47, 48, 49, 50, 51, 52, 53, 54, 55, 56, 57, 58] (by decide +kernel) (by decide +kernel)
set_option maxRecDepth 20000 in
theorem gX7_swap_X3_changeSeats : GoodIn wsX7_swap (wsV RX7 130 RX3 yX3_changeSeats wsX3_changeSeats) := goodIn_app (goodIn_of _ (by decide +kernel)) ggX7_swap_X3_changeSeats
set_option maxRecDepth 20000 in
theorem ggX7_law_X7_isLaw : GoodIn wsX7_law wsX7_isLaw := goodIn_r _ [6] (by decide +kernel) (by decide +kernel)
set_option maxRecDepth 20000 in
theorem gX7_law_X7_isLaw : GoodIn wsX7_law (va_wsS RX7 133 yX7_isLaw wsX7_isLaw) := goodIn_app (goodIn_of _ (by decide +kernel)) ggX7_law_X7_isLaw
set_option maxRecDepth 20000 in
theorem ggX7_law_X7_refuse : GoodIn wsX7_law wsX7_refuse := goodIn_r _ [10, 11, 12, 13, 14, 15, 16, 17, 18, 19, 20, 21, 22, 23] (by decide +kernel) (by decide +kernel)
set_option maxRecDepth 20000 in
theorem gX7_law_X7_refuse : GoodIn wsX7_law (wsV RX7 69 RX7 yX7_refuse wsX7_refuse) := goodIn_app (goodIn_of _ (by decide +kernel)) ggX7_law_X7_refuse
set_option maxRecDepth 20000 in
theorem ggX7_pass_X7_refuse : GoodIn wsX7_pass wsX7_refuse := goodIn_r _ [7, 8, 9, 10, 11, 12, 13, 14, 15, 16, 17, 18, 19, 20] (by decide +kernel) (by decide +kernel)
set_option maxRecDepth 20000 in
theorem gX7_pass_X7_refuse : GoodIn wsX7_pass (wsV RX7 69 RX7 yX7_refuse wsX7_refuse) := goodIn_app (goodIn_of _ (by decide +kernel)) ggX7_pass_X7_refuse
set_option maxRecDepth 20000 in
theorem ggX7_week_X7_refuse : GoodIn wsX7_week wsX7_refuse := goodIn_r _ [7, 8, 71, 72, 73, 74, 75, 76, 77, 78, 79, 80, 81, 82] (by decide +kernel) (by decide +kernel)
set_option maxRecDepth 20000 in
theorem gX7_week_X7_refuse : GoodIn wsX7_week (wsV RX7 69 RX7 yX7_refuse wsX7_refuse) := goodIn_app (goodIn_of _ (by decide +kernel)) ggX7_week_X7_refuse
set_option maxRecDepth 20000 in
theorem ggX7_week_X6_goBy : GoodIn wsX7_week wsX6_goBy := goodIn_r _ [12, 13, 14, 15, 16, 17, 18, 11, 19, 20, 21, 22, 23, 24, 25, 26, 27, 28, 29, 30, 31, 32, 33, 34, 35, 36, 37, 38, 39, 40, 41, 42, 43, 44, 45, 46, 47, 48, 49, 50, 51, 52, 53, 54, 55, 56, 57, 58, 59, 60, 61, 62, 63, 64, 65, 66, 67, 68, 69, 70, 83, 84, 85, 86, 87, 88, 89, 90, 91, 92, 93, 94, 95, 96, 97, 98] (by decide +kernel) (by decide +kernel)
set_option maxRecDepth 20000 in
theorem gX7_week_X6_goBy : GoodIn wsX7_week (va_wsS RX7 145 yX6_goBy wsX6_goBy) := goodIn_app (goodIn_of _ (by decide +kernel)) ggX7_week_X6_goBy
set_option maxRecDepth 20000 in
theorem ggX7_knows_X3_has : GoodIn wsX7_knows wsX3_has := goodIn_r _ [6, 7, 37, 38, 39, 40, 41, 42, 43, 44, 45, 46, 47, 48, 49, 50, 51, 52] (by decide +kernel) (by decide +kernel)
set_option maxRecDepth 20000 in
theorem gX7_knows_X3_has : GoodIn wsX7_knows (wsV RX7 95 RX3 yX3_has wsX3_has) := goodIn_app (goodIn_of _ (by decide +kernel)) ggX7_knows_X3_has
set_option maxRecDepth 20000 in
theorem ggX7_knows_X7_refuse : GoodIn wsX7_knows wsX7_refuse := goodIn_r _ [12, 13, 25, 26, 27, 28, 29, 30, 31, 32, 33, 34, 35, 36] (by decide +kernel) (by decide +kernel)
set_option maxRecDepth 20000 in
theorem gX7_knows_X7_refuse : GoodIn wsX7_knows (wsV RX7 69 RX7 yX7_refuse wsX7_refuse) := goodIn_app (goodIn_of _ (by decide +kernel)) ggX7_knows_X7_refuse
set_option maxRecDepth 20000 in
theorem ggX7_knows_X0_knowsOf : GoodIn wsX7_knows wsX0_knowsOf := goodIn_r _ [17, 18, 19, 20, 21, 22, 23, 24, 37, 38, 39, 40, 41, 42, 43, 44, 45, 46, 47, 48, 49, 50, 51, 52] (by decide +kernel) (by decide +kernel)
set_option maxRecDepth 20000 in
theorem gX7_knows_X0_knowsOf : GoodIn wsX7_knows (va_wsS RX7 150 yX0_knowsOf wsX0_knowsOf) := goodIn_app (goodIn_of _ (by decide +kernel)) ggX7_knows_X0_knowsOf
set_option maxRecDepth 20000 in
theorem ggX7_mark_X3_has : GoodIn wsX7_mark wsX3_has := goodIn_r _ [6, 7, 53, 54, 55, 56, 57, 58, 59, 60, 61, 62, 63, 64, 65, 66, 67, 68] (by decide +kernel) (by decide +kernel)
set_option maxRecDepth 20000 in
theorem gX7_mark_X3_has : GoodIn wsX7_mark (wsV RX7 95 RX3 yX3_has wsX3_has) := goodIn_app (goodIn_of _ (by decide +kernel)) ggX7_mark_X3_has
set_option maxRecDepth 20000 in
theorem ggX7_mark_X7_refuse : GoodIn wsX7_mark wsX7_refuse := goodIn_r _ [12, 13, 41, 42, 43, 44, 45, 46, 47, 48, 49, 50, 51, 52] (by decide +kernel) (by decide +kernel)
set_option maxRecDepth 20000 in
theorem gX7_mark_X7_refuse : GoodIn wsX7_mark (wsV RX7 69 RX7 yX7_refuse wsX7_refuse) := goodIn_app (goodIn_of _ (by decide +kernel)) ggX7_mark_X7_refuse
set_option maxRecDepth 20000 in
theorem ggX7_mark_X0_markOf : GoodIn wsX7_mark wsX0_markOf := goodIn_r _ [17, 18, 19, 20, 21, 3, 4, 5, 6, 7, 22, 23, 16, 24, 25, 26, 27, 28, 29, 30, 31, 32, 33, 34, 35, 36, 37, 38, 39, 40, 53, 54, 55, 56, 57, 58, 59, 60, 61, 62, 63, 64, 65, 66, 67, 68] (by decide +kernel) (by decide +kernel)
set_option maxRecDepth 20000 in
theorem gX7_mark_X0_markOf : GoodIn wsX7_mark (va_wsS RX7 156 yX0_markOf wsX0_markOf) := goodIn_app (goodIn_of _ (by decide +kernel)) ggX7_mark_X0_markOf
set_option maxRecDepth 20000 in
theorem ggX7_passed_X0_passedBits : GoodIn wsX7_passed wsX0_passedBits := goodIn_r _ [5, 6, 7, 8, 9, 4, 10, 11, 12, 13, 14, 15, 16, 17, 18, 19, 20, 21, 22, 23, 24, 25, 26, 27, 28, 29, 30, 31, 32, 33, 34, 35, 36, 37, 50, 51, 52, 53, 54, 55, 56, 57, 58, 59, 60, 61, 62, 63, 64, 65] (by decide +kernel) (by decide +kernel)
set_option maxRecDepth 20000 in
theorem gX7_passed_X0_passedBits : GoodIn wsX7_passed (va_wsS RX7 159 yX0_passedBits wsX0_passedBits) := goodIn_app (goodIn_of _ (by decide +kernel)) ggX7_passed_X0_passedBits
set_option maxRecDepth 20000 in
theorem ggX7_all_X0_sumOfMarks : GoodIn wsX7_all wsX0_sumOfMarks := goodIn_r _ [5, 6, 7, 8, 9, 4, 10, 11, 12, 13, 14, 15, 16, 17, 18, 19, 20, 21, 22, 23, 24, 25, 26, 27, 28, 29, 30, 31, 32, 33, 34, 35, 36, 49, 50, 51, 52, 53, 54, 55, 56, 57, 58, 59, 60, 61, 62, 63, 64] (by decide +kernel) (by decide +kernel)
set_option maxRecDepth 20000 in
theorem gX7_all_X0_sumOfMarks : GoodIn wsX7_all (va_wsS RX7 163 yX0_sumOfMarks wsX0_sumOfMarks) := goodIn_app (goodIn_of _ (by decide +kernel)) ggX7_all_X0_sumOfMarks
