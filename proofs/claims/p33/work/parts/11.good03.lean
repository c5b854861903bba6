set_option maxRecDepth 20000 in
theorem ggX8_isMended_X8_whoPass : GoodIn wsX8_isMended wsX8_whoPass := goodIn_r _ [6, 1, 7, 8, 9, 5, 10, 11, 12, 13, 14, 15, 16, 17, 18, 19, 20, 21, 22, 23, 24, 25, 26, 34, 35, 36, 37, 38, 39, 40, 41, 42, 43, 44, 45, 46, 47, 48, 49, 50, 51, 52, 53, 54, 55, 56, 57, 58, 59, 60, 61, 62, 63, 64, 65, 66] (by decide +kernel) (by decide +kernel)
set_option maxRecDepth 20000 in
theorem gX8_isMended_X8_whoPass : GoodIn wsX8_isMended (wsV RX8 144 RX8 yX8_whoPass wsX8_whoPass) := goodIn_app (goodIn_of _ (by decide +kernel)) ggX8_isMended_X8_whoPass
set_option maxRecDepth 20000 in
theorem ggX8_isMended_X8_change : GoodIn wsX8_isMended wsX8_change := goodIn_r _ [30, 1, 19, 20, 21, 5, 22, 34, 35, 36, 37, 38, 39, 40, 41, 42, 43, 44, 45, 46, 47, 48, 49, 50, 51, 52, 53, 54, 55, 56, 57, 58, 59, 60, 61, 62, 63, 64, 65, 66] (by decide +kernel) (by decide +kernel)
set_option maxRecDepth 20000 in
theorem gX8_isMended_X8_change : GoodIn wsX8_isMended (wsV RX8 95 RX8 yX8_change wsX8_change) := goodIn_app (goodIn_of _ (by decide +kernel)) ggX8_isMended_X8_change
set_option maxRecDepth 20000 in
theorem ggX8_isMended_X8_isMended : GoodIn wsX8_isMended wsX8_isMended := goodIn_r _ [0, 1, 2, 3, 4, 5, 6, 7, 8, 9, 10, 11, 12, 13, 14, 15, 16, 17, 18, 19, 20, 21, 22, 23, 24, 25, 26, 27, 28, 29, 30, 31, 32, 33, 34, 35, 36, 37, 38, 39, 40, 41, 42, 43, 44, 45, 46, 47, 48, 49, 50, 51, 52, 53, 54, 55, 56, 57, 58, 59, 60, 61, 62, 63, 64, 65, 66] (by decide +kernel) (by decide +kernel)
set_option maxRecDepth 20000 in
theorem gX8_isMended_X8_isMended : GoodIn wsX8_isMended (wsV RX8 208 RX8 yX8_isMended wsX8_isMended) := goodIn_app (goodIn_of _ (by decide +kernel)) ggX8_isMended_X8_isMended
set_option maxRecDepth 20000 in
theorem ggX8_mends_X8_no : GoodIn wsX8_mends wsX8_no := goodIn_r _ [6, 7, 40, 41, 42, 43, 44, 45, 46, 47, 48, 49, 50, 51, 52, 53, 54, 55, 56, 57, 58, 59, 60, 61, 62, 63, 64, 65, 66, 67, 68, 69, 70, 71, 72] (by decide +kernel) (by decide +kernel)
set_option maxRecDepth 20000 in
theorem gX8_mends_X8_no : GoodIn wsX8_mends (wsV RX8 71 RX8 yX8_no wsX8_no) := goodIn_app (goodIn_of _ (by decide +kernel)) ggX8_mends_X8_no
set_option maxRecDepth 20000 in
theorem ggX8_mends_X8_isMended : GoodIn wsX8_mends wsX8_isMended := goodIn_r _ [11, 1, 12, 13, 14, 5, 15, 16, 17, 18, 19, 20, 21, 22, 23, 24, 25, 26, 27, 28, 29, 30, 31, 32, 33, 34, 35, 36, 37, 38, 39, 8, 9, 10, 40, 41, 42, 43, 44, 45, 46, 47, 48, 49, 50, 51, 52, 53, 54, 55, 56, 57, 58, 59, 60, 61, 62, 63, 64, 65, 66, 67, 68, 69, 70, 71, 72] (by decide +kernel) (by decide +kernel)
set_option maxRecDepth 20000 in
theorem gX8_mends_X8_isMended : GoodIn wsX8_mends (wsV RX8 208 RX8 yX8_isMended wsX8_isMended) := goodIn_app (goodIn_of _ (by decide +kernel)) ggX8_mends_X8_isMended
set_option maxRecDepth 20000 in
theorem ggX8_row_X8_no : GoodIn wsX8_row wsX8_no := goodIn_r _ [7, 8, 9, 10, 11, 12, 13, 14, 15, 16, 17, 18, 19, 20, 21, 22, 23, 24, 25, 26, 27, 28, 29, 30, 31, 32, 33, 34, 35, 36, 37, 38, 39, 40, 41] (by decide +kernel) (by decide +kernel)
set_option maxRecDepth 20000 in
theorem gX8_row_X8_no : GoodIn wsX8_row (wsV RX8 71 RX8 yX8_no wsX8_no) := goodIn_app (goodIn_of _ (by decide +kernel)) ggX8_row_X8_no
set_option maxRecDepth 20000 in
theorem ggX8_fitting_X8_no : GoodIn wsX8_fitting wsX8_no := goodIn_r _ [9, 10, 65, 66, 67, 68, 69, 70, 71, 72, 73, 74, 75, 76, 77, 78, 79, 80, 81, 82, 83, 84, 85, 86, 87, 88, 89, 90, 91, 92, 93, 94, 95, 96, 97] (by decide +kernel) (by decide +kernel)
set_option maxRecDepth 20000 in
theorem gX8_fitting_X8_no : GoodIn wsX8_fitting (wsV RX8 71 RX8 yX8_no wsX8_no) := goodIn_app (goodIn_of _ (by decide +kernel)) ggX8_fitting_X8_no
set_option maxRecDepth 20000 in
theorem ggX8_fitting_X8_allSeatings : GoodIn wsX8_fitting wsX8_allSeatings := goodIn_r _ [14, 15, 16, 17, 3, 18, 19, 1, 20, 2, 21, 22, 23, 8, 24, 25, 26, 27, 28, 29, 30, 31, 32, 33, 4, 34, 35, 36, 37, 38, 39, 40, 41, 42, 43, 44, 45, 46, 47, 48, 49, 50, 51, 52, 53, 54, 55, 56, 57, 58, 59, 60, 61, 62, 63, 64, 65, 66, 67, 68, 69, 70, 71, 72, 73, 74, 75, 76, 77, 78, 79, 80, 81, 82, 83, 84, 85, 86, 87, 88, 89, 90, 91, 92, 93, 94, 95, 96, 97] (by decide +kernel) (by decide +kernel)
set_option maxRecDepth 20000 in
theorem gX8_fitting_X8_allSeatings : GoodIn wsX8_fitting (wsV RX8 181 RX8 yX8_allSeatings wsX8_allSeatings) := goodIn_app (goodIn_of _ (by decide +kernel)) ggX8_fitting_X8_allSeatings
set_option maxRecDepth 20000 in
theorem ggX8_forged_X8_no : GoodIn wsX8_forged wsX8_no := goodIn_r _ [8, 9, 65, 66, 67, 68, 69, 70, 71, 72, 73, 74, 75, 76, 77, 78, 79, 80, 81, 82, 83, 84, 85, 86, 87, 88, 89, 90, 91, 92, 93, 94, 95, 96, 97] (by decide +kernel) (by decide +kernel)
set_option maxRecDepth 20000 in
theorem gX8_forged_X8_no : GoodIn wsX8_forged (wsV RX8 71 RX8 yX8_no wsX8_no) := goodIn_app (goodIn_of _ (by decide +kernel)) ggX8_forged_X8_no
set_option maxRecDepth 20000 in
theorem ggX8_forged_X8_allSeatings : GoodIn wsX8_forged wsX8_allSeatings := goodIn_r _ [13, 14, 15, 16, 17, 3, 18, 1, 19, 2, 20, 21, 22, 7, 23, 24, 25, 26, 27, 28, 29, 30, 31, 32, 33, 34, 35, 36, 37, 38, 39, 40, 41, 42, 43, 44, 45, 46, 47, 48, 49, 50, 51, 52, 53, 54, 55, 56, 57, 58, 59, 60, 61, 62, 63, 64, 65, 66, 67, 68, 69, 70, 71, 72, 73, 74, 75, 76, 77, 78, 79, 80, 81, 82, 83, 84, 85, 86, 87, 88, 89, 90, 91, 92, 93, 94, 95, 96, 97] (by decide +kernel) (by decide +kernel)
set_option maxRecDepth 20000 in
theorem gX8_forged_X8_allSeatings : GoodIn wsX8_forged (wsV RX8 181 RX8 yX8_allSeatings wsX8_allSeatings) := goodIn_app (goodIn_of _ (by decide +kernel)) ggX8_forged_X8_allSeatings
set_option maxRecDepth 20000 in
theorem ggX8_judge_X8_marked : GoodIn wsX8_judge wsX8_marked := goodIn_r _ [8, 2, 9, 10, 11, 7, 12, 13, 14, 15, 16, 17, 18, 19, 20, 21, 22, 23, 24, 25, 26, 27, 28, 29, 30, 31, 32, 33, 34, 35, 36, 37, 38, 39, 40, 41, 42, 43, 44, 45, 46, 47, 48, 49, 50, 51, 52, 53, 54, 55, 56, 57] (by decide +kernel) (by decide +kernel)
set_option maxRecDepth 20000 in
theorem gX8_judge_X8_marked : GoodIn wsX8_judge (wsV RX8 126 RX8 yX8_marked wsX8_marked) := goodIn_app (goodIn_of _ (by decide +kernel)) ggX8_judge_X8_marked
set_option maxRecDepth 20000 in
theorem ggX8_seeds_X8_no : GoodIn wsX8_seeds wsX8_no := goodIn_r _ [8, 9, 68, 69, 70, 71, 72, 73, 74, 75, 76, 77, 78, 79, 80, 81, 82, 83, 84, 85, 86, 87, 88, 89, 90, 91, 92, 93, 94, 95, 96, 97, 98, 99, 100] (by decide +kernel) (by decide +kernel)
set_option maxRecDepth 20000 in
theorem gX8_seeds_X8_no : GoodIn wsX8_seeds (wsV RX8 71 RX8 yX8_no wsX8_no) := goodIn_app (goodIn_of _ (by decide +kernel)) ggX8_seeds_X8_no
set_option maxRecDepth 20000 in
theorem ggX8_seeds_X8_move : GoodIn wsX8_seeds wsX8_move := goodIn_r _ [12] (by decide +kernel) (by decide +kernel)
set_option maxRecDepth 20000 in
theorem gX8_seeds_X8_move : GoodIn wsX8_seeds (va_wsS RX8 67 yX8_move wsX8_move) := goodIn_app (goodIn_of _ (by decide +kernel)) ggX8_seeds_X8_move
set_option maxRecDepth 20000 in
theorem ggX8_seeds_X8_draw : GoodIn wsX8_seeds wsX8_draw := goodIn_r _ [16, 3, 17, 18, 19, 1, 68, 69, 70, 71, 72, 73, 74, 75, 76, 77, 78, 79, 80, 81, 82, 83, 84, 85, 86, 87, 88, 89, 90, 91, 92, 93, 94, 95, 96, 97, 98, 99, 100] (by decide +kernel) (by decide +kernel)
set_option maxRecDepth 20000 in
theorem gX8_seeds_X8_draw : GoodIn wsX8_seeds (wsV RX8 218 RX8 yX8_draw wsX8_draw) := goodIn_app (goodIn_of _ (by decide +kernel)) ggX8_seeds_X8_draw
set_option maxRecDepth 20000 in
theorem ggX8_seeds_X8_change : GoodIn wsX8_seeds wsX8_change := goodIn_r _ [23, 1, 24, 25, 26, 7, 27, 68, 69, 70, 71, 72, 73, 74, 75, 76, 77, 78, 79, 80, 81, 82, 83, 84, 85, 86, 87, 88, 89, 90, 91, 92, 93, 94, 95, 96, 97, 98, 99, 100] (by decide +kernel) (by decide +kernel)
set_option maxRecDepth 20000 in
theorem gX8_seeds_X8_change : GoodIn wsX8_seeds (wsV RX8 95 RX8 yX8_change wsX8_change) := goodIn_app (goodIn_of _ (by decide +kernel)) ggX8_seeds_X8_change
set_option maxRecDepth 20000 in
theorem ggX8_seeds_X8_goBy : GoodIn wsX8_seeds wsX8_goBy := goodIn_r _ [31, 1, 32, 33, 34, 35, 7, 36, 37, 38, 39, 40, 24, 25, 26, 27, 41, 42, 43, 44, 45, 46, 47, 48, 49, 50, 51, 52, 53, 54, 55, 56, 57, 58, 59, 60, 68, 69, 70, 71, 72, 73, 74, 75, 76, 77, 78, 79, 80, 81, 82, 83, 84, 85, 86, 87, 88, 89, 90, 91, 92, 93, 94, 95, 96, 97, 98, 99, 100] (by decide +kernel) (by decide +kernel)
set_option maxRecDepth 20000 in
theorem gX8_seeds_X8_goBy : GoodIn wsX8_seeds (wsV RX8 141 RX8 yX8_goBy wsX8_goBy) := goodIn_app (goodIn_of _ (by decide +kernel)) ggX8_seeds_X8_goBy
set_option maxRecDepth 20000 in
theorem ggX8_seeds_X8_whoPass : GoodIn wsX8_seeds wsX8_whoPass := goodIn_r _ [64, 1, 49, 50, 51, 7, 52, 53, 54, 55, 56, 37, 38, 39, 40, 24, 25, 26, 27, 57, 58, 59, 60, 68, 69, 70, 71, 72, 73, 74, 75, 76, 77, 78, 79, 80, 81, 82, 83, 84, 85, 86, 87, 88, 89, 90, 91, 92, 93, 94, 95, 96, 97, 98, 99, 100] (by decide +kernel) (by decide +kernel)
set_option maxRecDepth 20000 in
theorem gX8_seeds_X8_whoPass : GoodIn wsX8_seeds (wsV RX8 144 RX8 yX8_whoPass wsX8_whoPass) := goodIn_app (goodIn_of _ (by decide +kernel)) ggX8_seeds_X8_whoPass
set_option maxRecDepth 20000 in
theorem ggX8_seeds_X8_bits : GoodIn wsX8_seeds wsX8_bits := goodIn_r _ [67] (by decide +kernel) (by decide +kernel)
set_option maxRecDepth 20000 in
theorem gX8_seeds_X8_bits : GoodIn wsX8_seeds (va_wsS RX8 154 yX8_bits wsX8_bits) := goodIn_app (goodIn_of _ (by decide +kernel)) ggX8_seeds_X8_bits
