set_option maxRecDepth 20000 in
theorem ggX8_swap_X8_no : GoodIn wsX8_swap wsX8_no := goodIn_r _ [10, 11, 20, 21, 22, 23, 24, 25, 26, 27, 28, 29, 30, 31, 32, 33, 34, 35, 36, 37, 38, 39, 40, 41, 42, 43, 44, 45, 46, 47, 48, 49, 50, 51, 52] (by decide +kernel) (by decide +kernel)
set_option maxRecDepth 20000 in
theorem gX8_swap_X8_no : GoodIn wsX8_swap (wsV RX8 71 RX8 yX8_no wsX8_no) := goodIn_app (goodIn_of _ (by decide +kernel)) ggX8_swap_X8_no
set_option maxRecDepth 20000 in
theorem ggX8_swap_X8_change : GoodIn wsX8_swap wsX8_change := goodIn_r _ [15, 6, 16, 17, 18, 4, 19, 20, 21, 22, 23, 24, 25, 26, 27, 28, 29, 30, 31, 32, 33, 34, 35, 36, 37, 38, 39, 40, 41, 42, 43, 44, 45, 46, 47, 48, 49, 50, 51, 52] (by decide +kernel) (by decide +kernel)
set_option maxRecDepth 20000 in
theorem gX8_swap_X8_change : GoodIn wsX8_swap (wsV RX8 95 RX8 yX8_change wsX8_change) := goodIn_app (goodIn_of _ (by decide +kernel)) ggX8_swap_X8_change
set_option maxRecDepth 20000 in
theorem ggX8_law_X8_no : GoodIn wsX8_law wsX8_no := goodIn_r _ [6, 7, 8, 9, 10, 11, 12, 13, 14, 15, 16, 17, 18, 19, 20, 21, 22, 23, 24, 25, 26, 27, 28, 29, 30, 31, 32, 33, 34, 35, 36, 37, 38, 39, 40] (by decide +kernel) (by decide +kernel)
set_option maxRecDepth 20000 in
theorem gX8_law_X8_no : GoodIn wsX8_law (wsV RX8 71 RX8 yX8_no wsX8_no) := goodIn_app (goodIn_of _ (by decide +kernel)) ggX8_law_X8_no
set_option maxRecDepth 20000 in
theorem ggX8_pass_X8_no : GoodIn wsX8_pass wsX8_no := goodIn_r _ [6, 7, 8, 9, 10, 11, 12, 13, 14, 15, 16, 17, 18, 19, 20, 21, 22, 23, 24, 25, 26, 27, 28, 29, 30, 31, 32, 33, 34, 35, 36, 37, 38, 39, 40] (by decide +kernel) (by decide +kernel)
set_option maxRecDepth 20000 in
theorem gX8_pass_X8_no : GoodIn wsX8_pass (wsV RX8 71 RX8 yX8_no wsX8_no) := goodIn_app (goodIn_of _ (by decide +kernel)) ggX8_pass_X8_no
set_option maxRecDepth 20000 in
theorem ggX8_bestTeach_X8_teach : GoodIn wsX8_bestTeach wsX8_teach := goodIn_r _ [6, 1, 27, 28, 29, 30, 31, 32, 33, 34, 35, 36, 37, 38, 39, 40, 41, 42, 43, 44, 45, 46, 47, 48, 49, 50, 51, 52, 53, 54, 55, 56, 57, 58, 59] (by decide +kernel) (by decide +kernel)
set_option maxRecDepth 20000 in
theorem gX8_bestTeach_X8_teach : GoodIn wsX8_bestTeach (wsV RX8 132 RX8 yX8_teach wsX8_teach) := goodIn_app (goodIn_of _ (by decide +kernel)) ggX8_bestTeach_X8_teach
set_option maxRecDepth 20000 in
theorem ggX8_bestTeach_X8_marked : GoodIn wsX8_bestTeach wsX8_marked := goodIn_r _ [10, 1, 11, 12, 13, 5, 14, 15, 16, 17, 18, 19, 20, 21, 22, 23, 24, 25, 26, 27, 28, 29, 30, 31, 32, 33, 34, 35, 36, 37, 38, 39, 40, 41, 42, 43, 44, 45, 46, 47, 48, 49, 50, 51, 52, 53, 54, 55, 56, 57, 58, 59] (by decide +kernel) (by decide +kernel)
set_option maxRecDepth 20000 in
theorem gX8_bestTeach_X8_marked : GoodIn wsX8_bestTeach (wsV RX8 126 RX8 yX8_marked wsX8_marked) := goodIn_app (goodIn_of _ (by decide +kernel)) ggX8_bestTeach_X8_marked
set_option maxRecDepth 20000 in
theorem ggX8_nextTeach_X8_beside : GoodIn wsX8_nextTeach wsX8_beside := goodIn_r _ [6, 1, 7, 8, 9, 5, 10, 31, 32, 33, 34, 35, 36, 37, 38, 39, 40, 41, 42, 43, 44, 45, 46, 47, 48, 49, 50, 51, 52, 53, 54, 55, 56, 57, 58, 59, 60, 61, 62, 63] (by decide +kernel) (by decide +kernel)
set_option maxRecDepth 20000 in
theorem gX8_nextTeach_X8_beside : GoodIn wsX8_nextTeach (wsV RX8 116 RX8 yX8_beside wsX8_beside) := goodIn_app (goodIn_of _ (by decide +kernel)) ggX8_nextTeach_X8_beside
set_option maxRecDepth 20000 in
theorem ggX8_nextTeach_X8_bestTeach : GoodIn wsX8_nextTeach wsX8_bestTeach := goodIn_r _ [14, 1, 15, 16, 17, 5, 18, 19, 20, 21, 22, 23, 24, 25, 26, 2, 3, 4, 6, 7, 8, 9, 10, 27, 28, 29, 30, 31, 32, 33, 34, 35, 36, 37, 38, 39, 40, 41, 42, 43, 44, 45, 46, 47, 48, 49, 50, 51, 52, 53, 54, 55, 56, 57, 58, 59, 60, 61, 62, 63] (by decide +kernel) (by decide +kernel)
set_option maxRecDepth 20000 in
theorem gX8_nextTeach_X8_bestTeach : GoodIn wsX8_nextTeach (wsV RX8 135 RX8 yX8_bestTeach wsX8_bestTeach) := goodIn_app (goodIn_of _ (by decide +kernel)) ggX8_nextTeach_X8_bestTeach
set_option maxRecDepth 20000 in
theorem ggX8_goBy_X8_nextTeach : GoodIn wsX8_goBy wsX8_nextTeach := goodIn_r _ [7, 1, 8, 9, 10, 6, 11, 12, 13, 14, 15, 16, 17, 18, 19, 20, 21, 22, 23, 24, 25, 26, 27, 28, 29, 30, 31, 32, 33, 34, 35, 36, 37, 38, 39, 40, 41, 42, 43, 44, 45, 46, 47, 48, 49, 50, 51, 52, 53, 54, 55, 56, 57, 58, 59, 60, 61, 62, 63, 64, 65, 66, 67, 68] (by decide +kernel) (by decide +kernel)
set_option maxRecDepth 20000 in
theorem gX8_goBy_X8_nextTeach : GoodIn wsX8_goBy (wsV RX8 138 RX8 yX8_nextTeach wsX8_nextTeach) := goodIn_app (goodIn_of _ (by decide +kernel)) ggX8_goBy_X8_nextTeach
set_option maxRecDepth 20000 in
theorem ggX8_goBy_X8_teach : GoodIn wsX8_goBy wsX8_teach := goodIn_r _ [23, 1, 36, 37, 38, 39, 40, 41, 42, 43, 44, 45, 46, 47, 48, 49, 50, 51, 52, 53, 54, 55, 56, 57, 58, 59, 60, 61, 62, 63, 64, 65, 66, 67, 68] (by decide +kernel) (by decide +kernel)
set_option maxRecDepth 20000 in
theorem gX8_goBy_X8_teach : GoodIn wsX8_goBy (wsV RX8 132 RX8 yX8_teach wsX8_teach) := goodIn_app (goodIn_of _ (by decide +kernel)) ggX8_goBy_X8_teach
set_option maxRecDepth 20000 in
theorem ggX8_week_X8_no : GoodIn wsX8_week wsX8_no := goodIn_r _ [6, 7, 45, 46, 47, 48, 49, 50, 51, 52, 53, 54, 55, 56, 57, 58, 59, 60, 61, 62, 63, 64, 65, 66, 67, 68, 69, 70, 71, 72, 73, 74, 75, 76, 77] (by decide +kernel) (by decide +kernel)
set_option maxRecDepth 20000 in
theorem gX8_week_X8_no : GoodIn wsX8_week (wsV RX8 71 RX8 yX8_no wsX8_no) := goodIn_app (goodIn_of _ (by decide +kernel)) ggX8_week_X8_no
set_option maxRecDepth 20000 in
theorem ggX8_week_X8_goBy : GoodIn wsX8_week wsX8_goBy := goodIn_r _ [11, 1, 12, 13, 14, 15, 5, 16, 17, 18, 19, 20, 21, 22, 23, 24, 25, 26, 27, 28, 29, 30, 31, 32, 33, 34, 35, 36, 37, 38, 39, 40, 41, 42, 43, 44, 45, 46, 47, 48, 49, 50, 51, 52, 53, 54, 55, 56, 57, 58, 59, 60, 61, 62, 63, 64, 65, 66, 67, 68, 69, 70, 71, 72, 73, 74, 75, 76, 77] (by decide +kernel) (by decide +kernel)
set_option maxRecDepth 20000 in
theorem gX8_week_X8_goBy : GoodIn wsX8_week (wsV RX8 141 RX8 yX8_goBy wsX8_goBy) := goodIn_app (goodIn_of _ (by decide +kernel)) ggX8_week_X8_goBy
set_option maxRecDepth 20000 in
theorem ggX8_knows_X8_isNobody : GoodIn wsX8_knows wsX8_isNobody := goodIn_r _ [5, 6, 24, 25, 26, 27, 28, 29, 30, 31, 32, 33, 34, 35, 36, 37, 38, 39, 40, 41, 42, 43, 44, 45, 46, 47, 48, 49, 50, 51, 52, 53, 54, 55, 56] (by decide +kernel) (by decide +kernel)
set_option maxRecDepth 20000 in
theorem gX8_knows_X8_isNobody : GoodIn wsX8_knows (wsV RX8 129 RX8 yX8_isNobody wsX8_isNobody) := goodIn_app (goodIn_of _ (by decide +kernel)) ggX8_knows_X8_isNobody
set_option maxRecDepth 20000 in
theorem ggX8_knows_X8_no : GoodIn wsX8_knows wsX8_no := goodIn_r _ [10, 11, 24, 25, 26, 27, 28, 29, 30, 31, 32, 33, 34, 35, 36, 37, 38, 39, 40, 41, 42, 43, 44, 45, 46, 47, 48, 49, 50, 51, 52, 53, 54, 55, 56] (by decide +kernel) (by decide +kernel)
set_option maxRecDepth 20000 in
theorem gX8_knows_X8_no : GoodIn wsX8_knows (wsV RX8 71 RX8 yX8_no wsX8_no) := goodIn_app (goodIn_of _ (by decide +kernel)) ggX8_knows_X8_no
set_option maxRecDepth 20000 in
theorem ggX8_knows_X8_known : GoodIn wsX8_knows wsX8_known := goodIn_r _ [15, 6, 16, 17, 18, 4, 19, 20, 21, 22, 23, 24, 25, 26, 27, 28, 29, 30, 31, 32, 33, 34, 35, 36, 37, 38, 39, 40, 41, 42, 43, 44, 45, 46, 47, 48, 49, 50, 51, 52, 53, 54, 55, 56] (by decide +kernel) (by decide +kernel)
set_option maxRecDepth 20000 in
theorem gX8_knows_X8_known : GoodIn wsX8_knows (wsV RX8 120 RX8 yX8_known wsX8_known) := goodIn_app (goodIn_of _ (by decide +kernel)) ggX8_knows_X8_known
set_option maxRecDepth 20000 in
theorem ggX8_mark_X8_isNobody : GoodIn wsX8_mark wsX8_isNobody := goodIn_r _ [6, 1, 32, 33, 34, 35, 36, 37, 38, 39, 40, 41, 42, 43, 44, 45, 46, 47, 48, 49, 50, 51, 52, 53, 54, 55, 56, 57, 58, 59, 60, 61, 62, 63, 64] (by decide +kernel) (by decide +kernel)
set_option maxRecDepth 20000 in
theorem gX8_mark_X8_isNobody : GoodIn wsX8_mark (wsV RX8 129 RX8 yX8_isNobody wsX8_isNobody) := goodIn_app (goodIn_of _ (by decide +kernel)) ggX8_mark_X8_isNobody
set_option maxRecDepth 20000 in
theorem ggX8_mark_X8_no : GoodIn wsX8_mark wsX8_no := goodIn_r _ [10, 11, 32, 33, 34, 35, 36, 37, 38, 39, 40, 41, 42, 43, 44, 45, 46, 47, 48, 49, 50, 51, 52, 53, 54, 55, 56, 57, 58, 59, 60, 61, 62, 63, 64] (by decide +kernel) (by decide +kernel)
set_option maxRecDepth 20000 in
theorem gX8_mark_X8_no : GoodIn wsX8_mark (wsV RX8 71 RX8 yX8_no wsX8_no) := goodIn_app (goodIn_of _ (by decide +kernel)) ggX8_mark_X8_no
set_option maxRecDepth 20000 in
theorem ggX8_mark_X8_marked : GoodIn wsX8_mark wsX8_marked := goodIn_r _ [15, 1, 16, 17, 18, 5, 19, 20, 21, 22, 23, 24, 25, 26, 27, 28, 29, 30, 31, 32, 33, 34, 35, 36, 37, 38, 39, 40, 41, 42, 43, 44, 45, 46, 47, 48, 49, 50, 51, 52, 53, 54, 55, 56, 57, 58, 59, 60, 61, 62, 63, 64] (by decide +kernel) (by decide +kernel)
set_option maxRecDepth 20000 in
theorem gX8_mark_X8_marked : GoodIn wsX8_mark (wsV RX8 126 RX8 yX8_marked wsX8_marked) := goodIn_app (goodIn_of _ (by decide +kernel)) ggX8_mark_X8_marked
set_option maxRecDepth 20000 in
theorem ggX8_passed_X8_whoPass : GoodIn wsX8_passed wsX8_whoPass := goodIn_r _ [5, 6, 7, 8, 9, 4, 10, 11, 12, 13, 14, 15, 16, 17, 18, 19, 20, 21, 22, 23, 24, 25, 26, 27, 28, 29, 30, 31, 32, 33, 34, 35, 36, 37, 38, 39, 40, 41, 42, 43, 44, 45, 46, 47, 48, 49, 50, 51, 52, 53, 54, 55, 56, 57, 58, 59] (by decide +kernel) (by decide +kernel)
set_option maxRecDepth 20000 in
theorem gX8_passed_X8_whoPass : GoodIn wsX8_passed (wsV RX8 144 RX8 yX8_whoPass wsX8_whoPass) := goodIn_app (goodIn_of _ (by decide +kernel)) ggX8_passed_X8_whoPass
set_option maxRecDepth 20000 in
theorem ggX8_all_X8_together : GoodIn wsX8_all wsX8_together := goodIn_r _ [6, 1, 7, 8, 9, 5, 10, 11, 12, 13, 14, 15, 16, 17, 18, 19, 20, 21, 22, 23, 24, 25, 26, 27, 28, 29, 30, 31, 32, 33, 34, 35, 36, 37, 38, 39, 40, 41, 42, 43, 44, 45, 46, 47, 48, 49, 50, 51, 52, 53, 54, 55, 56, 57, 58, 59] (by decide +kernel) (by decide +kernel)
set_option maxRecDepth 20000 in
theorem gX8_all_X8_together : GoodIn wsX8_all (wsV RX8 147 RX8 yX8_together wsX8_together) := goodIn_app (goodIn_of _ (by decide +kernel)) ggX8_all_X8_together
set_option maxRecDepth 20000 in
theorem ggX8_after_X8_no : GoodIn wsX8_after wsX8_no := goodIn_r _ [7, 8, 53, 54, 55, 56, 57, 58, 59, 60, 61, 62, 63, 64, 65, 66, 67, 68, 69, 70, 71, 72, 73, 74, 75, 76, 77, 78, 79, 80, 81, 82, 83, 84, 85] (by decide +kernel) (by decide +kernel)
set_option maxRecDepth 20000 in
theorem gX8_after_X8_no : GoodIn wsX8_after (wsV RX8 71 RX8 yX8_no wsX8_no) := goodIn_app (goodIn_of _ (by decide +kernel)) ggX8_after_X8_no
set_option maxRecDepth 20000 in
theorem ggX8_after_X8_move : GoodIn wsX8_after wsX8_move := goodIn_r _ [11] (by decide +kernel) (by decide +kernel)
set_option maxRecDepth 20000 in
theorem gX8_after_X8_move : GoodIn wsX8_after (va_wsS RX8 67 yX8_move wsX8_move) := goodIn_app (goodIn_of _ (by decide +kernel)) ggX8_after_X8_move
set_option maxRecDepth 20000 in
theorem ggX8_after_X8_goBy : GoodIn wsX8_after wsX8_goBy := goodIn_r _ [15, 1, 16, 17, 18, 19, 6, 20, 21, 22, 23, 24, 25, 26, 27, 28, 29, 30, 31, 32, 33, 34, 35, 36, 37, 38, 39, 40, 41, 42, 43, 44, 45, 46, 47, 48, 53, 54, 55, 56, 57, 58, 59, 60, 61, 62, 63, 64, 65, 66, 67, 68, 69, 70, 71, 72, 73, 74, 75, 76, 77, 78, 79, 80, 81, 82, 83, 84, 85] (by decide +kernel) (by decide +kernel)
set_option maxRecDepth 20000 in
theorem gX8_after_X8_goBy : GoodIn wsX8_after (wsV RX8 141 RX8 yX8_goBy wsX8_goBy) := goodIn_app (goodIn_of _ (by decide +kernel)) ggX8_after_X8_goBy
set_option maxRecDepth 20000 in
theorem ggX8_after_X8_together : GoodIn wsX8_after wsX8_together := goodIn_r _ [52, 1, 37, 38, 39, 6, 40, 41, 42, 43, 44, 21, 22, 23, 24, 25, 26, 27, 28, 45, 46, 47, 48, 53, 54, 55, 56, 57, 58, 59, 60, 61, 62, 63, 64, 65, 66, 67, 68, 69, 70, 71, 72, 73, 74, 75, 76, 77, 78, 79, 80, 81, 82, 83, 84, 85] (by decide +kernel) (by decide +kernel)
set_option maxRecDepth 20000 in
theorem gX8_after_X8_together : GoodIn wsX8_after (wsV RX8 147 RX8 yX8_together wsX8_together) := goodIn_app (goodIn_of _ (by decide +kernel)) ggX8_after_X8_together
set_option maxRecDepth 20000 in
theorem ggX8_after_X8_marked : GoodIn wsX8_after wsX8_marked := goodIn_r _ [40, 1, 41, 42, 43, 6, 44, 21, 22, 23, 24, 25, 26, 27, 28, 45, 46, 47, 48, 53, 54, 55, 56, 57, 58, 59, 60, 61, 62, 63, 64, 65, 66, 67, 68, 69, 70, 71, 72, 73, 74, 75, 76, 77, 78, 79, 80, 81, 82, 83, 84, 85] (by decide +kernel) (by decide +kernel)
set_option maxRecDepth 20000 in
theorem gX8_after_X8_marked : GoodIn wsX8_after (wsV RX8 126 RX8 yX8_marked wsX8_marked) := goodIn_app (goodIn_of _ (by decide +kernel)) ggX8_after_X8_marked
set_option maxRecDepth 20000 in
theorem ggX8_again_X8_move : GoodIn wsX8_again wsX8_move := goodIn_r _ [7] (by decide +kernel) (by decide +kernel)
set_option maxRecDepth 20000 in
theorem gX8_again_X8_move : GoodIn wsX8_again (va_wsS RX8 67 yX8_move wsX8_move) := goodIn_app (goodIn_of _ (by decide +kernel)) ggX8_again_X8_move
set_option maxRecDepth 20000 in
theorem ggX8_again_X8_goBy : GoodIn wsX8_again wsX8_goBy := goodIn_r _ [11, 1, 12, 13, 14, 15, 6, 16, 17, 18, 19, 20, 21, 22, 23, 24, 25, 26, 27, 28, 29, 30, 31, 32, 33, 34, 35, 36, 37, 38, 39, 40, 41, 42, 43, 44, 49, 50, 51, 52, 53, 54, 55, 56, 57, 58, 59, 60, 61, 62, 63, 64, 65, 66, 67, 68, 69, 70, 71, 72, 73, 74, 75, 76, 77, 78, 79, 80, 81] (by decide +kernel) (by decide +kernel)
set_option maxRecDepth 20000 in
theorem gX8_again_X8_goBy : GoodIn wsX8_again (wsV RX8 141 RX8 yX8_goBy wsX8_goBy) := goodIn_app (goodIn_of _ (by decide +kernel)) ggX8_again_X8_goBy
set_option maxRecDepth 20000 in
theorem ggX8_again_X8_isAsBefore : GoodIn wsX8_again wsX8_isAsBefore := goodIn_r _ [48, 1, 2, 49, 50, 51, 52, 53, 54, 55, 56, 57, 58, 59, 60, 61, 62, 63, 64, 65, 66, 67, 68, 69, 70, 71, 72, 73, 74, 75, 76, 77, 78, 79, 80, 81] (by decide +kernel) (by decide +kernel)
set_option maxRecDepth 20000 in
theorem gX8_again_X8_isAsBefore : GoodIn wsX8_again (wsV RX8 150 RX8 yX8_isAsBefore wsX8_isAsBefore) := goodIn_app (goodIn_of _ (by decide +kernel)) ggX8_again_X8_isAsBefore
set_option maxRecDepth 20000 in
theorem ggX8_lookAt_X8_whoPass : GoodIn wsX8_lookAt wsX8_whoPass := goodIn_r _ [14, 1, 15, 16, 17, 13, 18, 19, 20, 21, 22, 23, 24, 25, 26, 27, 28, 29, 30, 31, 32, 33, 34, 42, 43, 44, 45, 46, 47, 48, 49, 50, 51, 52, 53, 54, 55, 56, 57, 58, 59, 60, 61, 62, 63, 64, 65, 66, 67, 68, 69, 70, 71, 72, 73, 74] (by decide +kernel) (by decide +kernel)
set_option maxRecDepth 20000 in
theorem gX8_lookAt_X8_whoPass : GoodIn wsX8_lookAt (wsV RX8 144 RX8 yX8_whoPass wsX8_whoPass) := goodIn_app (goodIn_of _ (by decide +kernel)) ggX8_lookAt_X8_whoPass
set_option maxRecDepth 20000 in
theorem ggX8_lookAt_X8_bits : GoodIn wsX8_lookAt wsX8_bits := goodIn_r _ [37] (by decide +kernel) (by decide +kernel)
set_option maxRecDepth 20000 in
theorem gX8_lookAt_X8_bits : GoodIn wsX8_lookAt (va_wsS RX8 154 yX8_bits wsX8_bits) := goodIn_app (goodIn_of _ (by decide +kernel)) ggX8_lookAt_X8_bits
