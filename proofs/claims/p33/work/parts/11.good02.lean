set_option maxRecDepth 20000 in
theorem ggX8_lookAt_X8_together : GoodIn wsX8_lookAt wsX8_together := goodIn_r _ [41, 1, 15, 16, 17, 13, 18, 19, 20, 21, 22, 23, 24, 25, 26, 27, 28, 29, 30, 31, 32, 33, 34, 42, 43, 44, 45, 46, 47, 48, 49, 50, 51, 52, 53, 54, 55, 56, 57, 58, 59, 60, 61, 62, 63, 64, 65, 66, 67, 68, 69, 70, 71, 72, 73, 74] (by decide +kernel) (by decide +kernel)
set_option maxRecDepth 20000 in
theorem gX8_lookAt_X8_together : GoodIn wsX8_lookAt (wsV RX8 147 RX8 yX8_together wsX8_together) := goodIn_app (goodIn_of _ (by decide +kernel)) ggX8_lookAt_X8_together
set_option maxRecDepth 20000 in
theorem ggX8_lookAt_X8_marked : GoodIn wsX8_lookAt wsX8_marked := goodIn_r _ [18, 1, 19, 20, 21, 13, 22, 23, 24, 25, 26, 27, 28, 29, 30, 31, 32, 33, 34, 42, 43, 44, 45, 46, 47, 48, 49, 50, 51, 52, 53, 54, 55, 56, 57, 58, 59, 60, 61, 62, 63, 64, 65, 66, 67, 68, 69, 70, 71, 72, 73, 74] (by decide +kernel) (by decide +kernel)
set_option maxRecDepth 20000 in
theorem gX8_lookAt_X8_marked : GoodIn wsX8_lookAt (wsV RX8 126 RX8 yX8_marked wsX8_marked) := goodIn_app (goodIn_of _ (by decide +kernel)) ggX8_lookAt_X8_marked
set_option maxRecDepth 20000 in
theorem ggX8_seat_X8_lookAt : GoodIn wsX8_seat wsX8_lookAt := goodIn_r _ [6, 1, 7, 8, 9, 10, 11, 12, 13, 14, 15, 16, 17, 5, 18, 19, 20, 21, 22, 23, 24, 25, 26, 27, 28, 29, 30, 31, 32, 33, 34, 35, 36, 37, 38, 39, 40, 41, 42, 43, 44, 45, 49, 50, 51, 52, 53, 54, 55, 56, 57, 58, 59, 60, 61, 62, 63, 64, 65, 66, 67, 68, 69, 70, 71, 72, 73, 74, 75, 76, 77, 78, 79, 80, 81] (by decide +kernel) (by decide +kernel)
set_option maxRecDepth 20000 in
theorem gX8_seat_X8_lookAt : GoodIn wsX8_seat (wsV RX8 172 RX8 yX8_lookAt wsX8_lookAt) := goodIn_app (goodIn_of _ (by decide +kernel)) ggX8_seat_X8_lookAt
set_option maxRecDepth 20000 in
theorem ggX8_seat_X8_seat : GoodIn wsX8_seat wsX8_seat := goodIn_r _ [0, 1, 2, 3, 4, 5, 6, 7, 8, 9, 10, 11, 12, 13, 14, 15, 16, 17, 18, 19, 20, 21, 22, 23, 24, 25, 26, 27, 28, 29, 30, 31, 32, 33, 34, 35, 36, 37, 38, 39, 40, 41, 42, 43, 44, 45, 46, 47, 48, 49, 50, 51, 52, 53, 54, 55, 56, 57, 58, 59, 60, 61, 62, 63, 64, 65, 66, 67, 68, 69, 70, 71, 72, 73, 74, 75, 76, 77, 78, 79, 80, 81] (by decide +kernel) (by decide +kernel)
set_option maxRecDepth 20000 in
theorem gX8_seat_X8_seat : GoodIn wsX8_seat (wsV RX8 175 RX8 yX8_seat wsX8_seat) := goodIn_app (goodIn_of _ (by decide +kernel)) ggX8_seat_X8_seat
set_option maxRecDepth 20000 in
theorem ggX8_allSeatings_X8_move : GoodIn wsX8_allSeatings wsX8_move := goodIn_r _ [14] (by decide +kernel) (by decide +kernel)
set_option maxRecDepth 20000 in
theorem gX8_allSeatings_X8_move : GoodIn wsX8_allSeatings (va_wsS RX8 67 yX8_move wsX8_move) := goodIn_app (goodIn_of _ (by decide +kernel)) ggX8_allSeatings_X8_move
set_option maxRecDepth 20000 in
theorem ggX8_allSeatings_X8_seat : GoodIn wsX8_allSeatings wsX8_seat := goodIn_r _ [18, 9, 19, 20, 21, 13, 22, 1, 2, 6, 23, 24, 4, 3, 5, 25, 26, 27, 28, 29, 30, 31, 32, 33, 34, 35, 36, 37, 38, 39, 40, 41, 42, 43, 44, 45, 46, 47, 48, 49, 50, 51, 52, 53, 54, 55, 15, 16, 17, 56, 57, 58, 59, 60, 61, 62, 63, 64, 65, 66, 67, 68, 69, 70, 71, 72, 73, 74, 75, 76, 77, 78, 79, 80, 81, 82, 83, 84, 85, 86, 87, 88] (by decide +kernel) (by decide +kernel)
set_option maxRecDepth 20000 in
theorem gX8_allSeatings_X8_seat : GoodIn wsX8_allSeatings (wsV RX8 175 RX8 yX8_seat wsX8_seat) := goodIn_app (goodIn_of _ (by decide +kernel)) ggX8_allSeatings_X8_seat
set_option maxRecDepth 20000 in
theorem ggX8_best_X8_no : GoodIn wsX8_best wsX8_no := goodIn_r _ [8, 9, 65, 66, 67, 68, 69, 70, 71, 72, 73, 74, 75, 76, 77, 78, 79, 80, 81, 82, 83, 84, 85, 86, 87, 88, 89, 90, 91, 92, 93, 94, 95, 96, 97] (by decide +kernel) (by decide +kernel)
set_option maxRecDepth 20000 in
theorem gX8_best_X8_no : GoodIn wsX8_best (wsV RX8 71 RX8 yX8_no wsX8_no) := goodIn_app (goodIn_of _ (by decide +kernel)) ggX8_best_X8_no
set_option maxRecDepth 20000 in
theorem ggX8_best_X8_allSeatings : GoodIn wsX8_best wsX8_allSeatings := goodIn_r _ [13, 2, 3, 14, 15, 16, 17, 18, 19, 1, 20, 21, 22, 7, 23, 24, 25, 26, 27, 28, 29, 30, 31, 32, 33, 34, 35, 36, 37, 38, 39, 40, 41, 42, 43, 44, 45, 46, 47, 48, 49, 50, 51, 52, 53, 54, 55, 56, 57, 58, 59, 60, 61, 62, 63, 64, 65, 66, 67, 68, 69, 70, 71, 72, 73, 74, 75, 76, 77, 78, 79, 80, 81, 82, 83, 84, 85, 86, 87, 88, 89, 90, 91, 92, 93, 94, 95, 96, 97] (by decide +kernel) (by decide +kernel)
set_option maxRecDepth 20000 in
theorem gX8_best_X8_allSeatings : GoodIn wsX8_best (wsV RX8 181 RX8 yX8_allSeatings wsX8_allSeatings) := goodIn_app (goodIn_of _ (by decide +kernel)) ggX8_best_X8_allSeatings
set_option maxRecDepth 20000 in
theorem ggX8_bestSeat_X8_no : GoodIn wsX8_bestSeat wsX8_no := goodIn_r _ [7, 8, 65, 66, 67, 68, 69, 70, 71, 72, 73, 74, 75, 76, 77, 78, 79, 80, 81, 82, 83, 84, 85, 86, 87, 88, 89, 90, 91, 92, 93, 94, 95, 96, 97] (by decide +kernel) (by decide +kernel)
set_option maxRecDepth 20000 in
theorem gX8_bestSeat_X8_no : GoodIn wsX8_bestSeat (wsV RX8 71 RX8 yX8_no wsX8_no) := goodIn_app (goodIn_of _ (by decide +kernel)) ggX8_bestSeat_X8_no
set_option maxRecDepth 20000 in
theorem ggX8_bestSeat_X8_allSeatings : GoodIn wsX8_bestSeat wsX8_allSeatings := goodIn_r _ [12, 13, 14, 15, 16, 17, 18, 19, 20, 1, 21, 22, 23, 6, 24, 25, 26, 27, 28, 29, 30, 31, 32, 2, 33, 34, 35, 36, 37, 38, 39, 40, 41, 42, 43, 44, 45, 46, 47, 48, 49, 50, 51, 52, 53, 54, 55, 56, 57, 58, 59, 60, 61, 62, 63, 64, 65, 66, 67, 68, 69, 70, 71, 72, 73, 74, 75, 76, 77, 78, 79, 80, 81, 82, 83, 84, 85, 86, 87, 88, 89, 90, 91, 92, 93, 94, 95, 96, 97] (by decide +kernel) (by decide +kernel)
set_option maxRecDepth 20000 in
theorem gX8_bestSeat_X8_allSeatings : GoodIn wsX8_bestSeat (wsV RX8 181 RX8 yX8_allSeatings wsX8_allSeatings) := goodIn_app (goodIn_of _ (by decide +kernel)) ggX8_bestSeat_X8_allSeatings
set_option maxRecDepth 20000 in
theorem ggX8_sumLeast_X8_no : GoodIn wsX8_sumLeast wsX8_no := goodIn_r _ [7, 8, 65, 66, 67, 68, 69, 70, 71, 72, 73, 74, 75, 76, 77, 78, 79, 80, 81, 82, 83, 84, 85, 86, 87, 88, 89, 90, 91, 92, 93, 94, 95, 96, 97] (by decide +kernel) (by decide +kernel)
set_option maxRecDepth 20000 in
theorem gX8_sumLeast_X8_no : GoodIn wsX8_sumLeast (wsV RX8 71 RX8 yX8_no wsX8_no) := goodIn_app (goodIn_of _ (by decide +kernel)) ggX8_sumLeast_X8_no
set_option maxRecDepth 20000 in
theorem ggX8_sumLeast_X8_allSeatings : GoodIn wsX8_sumLeast wsX8_allSeatings := goodIn_r _ [12, 13, 14, 2, 15, 16, 17, 18, 19, 1, 20, 21, 22, 6, 23, 24, 25, 26, 27, 28, 29, 30, 31, 32, 33, 34, 35, 36, 37, 38, 39, 40, 41, 42, 43, 44, 45, 46, 47, 48, 49, 50, 51, 52, 53, 54, 55, 56, 57, 58, 59, 60, 61, 62, 63, 64, 65, 66, 67, 68, 69, 70, 71, 72, 73, 74, 75, 76, 77, 78, 79, 80, 81, 82, 83, 84, 85, 86, 87, 88, 89, 90, 91, 92, 93, 94, 95, 96, 97] (by decide +kernel) (by decide +kernel)
set_option maxRecDepth 20000 in
theorem gX8_sumLeast_X8_allSeatings : GoodIn wsX8_sumLeast (wsV RX8 181 RX8 yX8_allSeatings wsX8_allSeatings) := goodIn_app (goodIn_of _ (by decide +kernel)) ggX8_sumLeast_X8_allSeatings
set_option maxRecDepth 20000 in
theorem ggX8_isAtRest_X8_marked : GoodIn wsX8_isAtRest wsX8_marked := goodIn_r _ [6, 1, 7, 8, 9, 5, 10, 11, 12, 13, 14, 15, 16, 17, 18, 19, 20, 21, 22, 27, 28, 29, 30, 31, 32, 33, 34, 35, 36, 37, 38, 39, 40, 41, 42, 43, 44, 45, 46, 47, 48, 49, 50, 51, 52, 53, 54, 55, 56, 57, 58, 59] (by decide +kernel) (by decide +kernel)
set_option maxRecDepth 20000 in
theorem gX8_isAtRest_X8_marked : GoodIn wsX8_isAtRest (wsV RX8 126 RX8 yX8_marked wsX8_marked) := goodIn_app (goodIn_of _ (by decide +kernel)) ggX8_isAtRest_X8_marked
set_option maxRecDepth 20000 in
theorem ggX8_isAtRest_X8_teach : GoodIn wsX8_isAtRest wsX8_teach := goodIn_r _ [26, 1, 27, 28, 29, 30, 31, 32, 33, 34, 35, 36, 37, 38, 39, 40, 41, 42, 43, 44, 45, 46, 47, 48, 49, 50, 51, 52, 53, 54, 55, 56, 57, 58, 59] (by decide +kernel) (by decide +kernel)
set_option maxRecDepth 20000 in
theorem gX8_isAtRest_X8_teach : GoodIn wsX8_isAtRest (wsV RX8 132 RX8 yX8_teach wsX8_teach) := goodIn_app (goodIn_of _ (by decide +kernel)) ggX8_isAtRest_X8_teach
set_option maxRecDepth 20000 in
theorem ggX8_allWays_X8_move : GoodIn wsX8_allWays wsX8_move := goodIn_r _ [15] (by decide +kernel) (by decide +kernel)
set_option maxRecDepth 20000 in
theorem gX8_allWays_X8_move : GoodIn wsX8_allWays (va_wsS RX8 67 yX8_move wsX8_move) := goodIn_app (goodIn_of _ (by decide +kernel)) ggX8_allWays_X8_move
set_option maxRecDepth 20000 in
theorem ggX8_allWays_X8_teach : GoodIn wsX8_allWays wsX8_teach := goodIn_r _ [19, 1, 48, 49, 50, 51, 52, 53, 54, 55, 56, 57, 58, 59, 60, 61, 62, 63, 64, 65, 66, 67, 68, 69, 70, 71, 72, 73, 74, 75, 76, 77, 78, 79, 80] (by decide +kernel) (by decide +kernel)
set_option maxRecDepth 20000 in
theorem gX8_allWays_X8_teach : GoodIn wsX8_allWays (wsV RX8 132 RX8 yX8_teach wsX8_teach) := goodIn_app (goodIn_of _ (by decide +kernel)) ggX8_allWays_X8_teach
set_option maxRecDepth 20000 in
theorem ggX8_allWays_X8_together : GoodIn wsX8_allWays wsX8_together := goodIn_r _ [23, 1, 24, 25, 26, 14, 27, 28, 29, 30, 31, 32, 33, 34, 35, 36, 37, 38, 39, 40, 41, 42, 43, 48, 49, 50, 51, 52, 53, 54, 55, 56, 57, 58, 59, 60, 61, 62, 63, 64, 65, 66, 67, 68, 69, 70, 71, 72, 73, 74, 75, 76, 77, 78, 79, 80] (by decide +kernel) (by decide +kernel)
set_option maxRecDepth 20000 in
theorem gX8_allWays_X8_together : GoodIn wsX8_allWays (wsV RX8 147 RX8 yX8_together wsX8_together) := goodIn_app (goodIn_of _ (by decide +kernel)) ggX8_allWays_X8_together
set_option maxRecDepth 20000 in
theorem ggX8_allWays_X8_isAtRest : GoodIn wsX8_allWays wsX8_isAtRest := goodIn_r _ [47, 1, 24, 25, 26, 14, 27, 28, 29, 30, 31, 32, 33, 34, 35, 36, 37, 38, 39, 40, 41, 42, 43, 16, 17, 18, 19, 48, 49, 50, 51, 52, 53, 54, 55, 56, 57, 58, 59, 60, 61, 62, 63, 64, 65, 66, 67, 68, 69, 70, 71, 72, 73, 74, 75, 76, 77, 78, 79, 80] (by decide +kernel) (by decide +kernel)
set_option maxRecDepth 20000 in
theorem gX8_allWays_X8_isAtRest : GoodIn wsX8_allWays (wsV RX8 195 RX8 yX8_isAtRest wsX8_isAtRest) := goodIn_app (goodIn_of _ (by decide +kernel)) ggX8_allWays_X8_isAtRest
set_option maxRecDepth 20000 in
theorem ggX8_rests_X8_no : GoodIn wsX8_rests wsX8_no := goodIn_r _ [8, 9, 57, 58, 59, 60, 61, 62, 63, 64, 65, 66, 67, 68, 69, 70, 71, 72, 73, 74, 75, 76, 77, 78, 79, 80, 81, 82, 83, 84, 85, 86, 87, 88, 89] (by decide +kernel) (by decide +kernel)
set_option maxRecDepth 20000 in
theorem gX8_rests_X8_no : GoodIn wsX8_rests (wsV RX8 71 RX8 yX8_no wsX8_no) := goodIn_app (goodIn_of _ (by decide +kernel)) ggX8_rests_X8_no
set_option maxRecDepth 20000 in
theorem ggX8_rests_X8_allWays : GoodIn wsX8_rests wsX8_allWays := goodIn_r _ [13, 1, 2, 14, 15, 16, 17, 18, 19, 20, 3, 21, 22, 23, 7, 24, 25, 26, 27, 28, 29, 30, 31, 32, 33, 34, 35, 36, 37, 38, 39, 40, 41, 42, 43, 44, 45, 46, 47, 48, 49, 50, 51, 52, 53, 54, 55, 56, 57, 58, 59, 60, 61, 62, 63, 64, 65, 66, 67, 68, 69, 70, 71, 72, 73, 74, 75, 76, 77, 78, 79, 80, 81, 82, 83, 84, 85, 86, 87, 88, 89] (by decide +kernel) (by decide +kernel)
set_option maxRecDepth 20000 in
theorem gX8_rests_X8_allWays : GoodIn wsX8_rests (wsV RX8 204 RX8 yX8_allWays wsX8_allWays) := goodIn_app (goodIn_of _ (by decide +kernel)) ggX8_rests_X8_allWays
set_option maxRecDepth 20000 in
theorem ggX8_rest_X8_isNobody : GoodIn wsX8_rest wsX8_isNobody := goodIn_r _ [8, 1, 61, 62, 63, 64, 65, 66, 67, 68, 69, 70, 71, 72, 73, 74, 75, 76, 77, 78, 79, 80, 81, 82, 83, 84, 85, 86, 87, 88, 89, 90, 91, 92, 93] (by decide +kernel) (by decide +kernel)
set_option maxRecDepth 20000 in
theorem gX8_rest_X8_isNobody : GoodIn wsX8_rest (wsV RX8 129 RX8 yX8_isNobody wsX8_isNobody) := goodIn_app (goodIn_of _ (by decide +kernel)) ggX8_rest_X8_isNobody
set_option maxRecDepth 20000 in
theorem ggX8_rest_X8_no : GoodIn wsX8_rest wsX8_no := goodIn_r _ [12, 13, 61, 62, 63, 64, 65, 66, 67, 68, 69, 70, 71, 72, 73, 74, 75, 76, 77, 78, 79, 80, 81, 82, 83, 84, 85, 86, 87, 88, 89, 90, 91, 92, 93] (by decide +kernel) (by decide +kernel)
set_option maxRecDepth 20000 in
theorem gX8_rest_X8_no : GoodIn wsX8_rest (wsV RX8 71 RX8 yX8_no wsX8_no) := goodIn_app (goodIn_of _ (by decide +kernel)) ggX8_rest_X8_no
set_option maxRecDepth 20000 in
theorem ggX8_rest_X8_allWays : GoodIn wsX8_rest wsX8_allWays := goodIn_r _ [17, 1, 2, 18, 19, 20, 21, 22, 23, 24, 25, 3, 26, 27, 7, 28, 29, 30, 31, 32, 33, 34, 35, 36, 37, 38, 39, 40, 41, 42, 43, 44, 45, 46, 47, 48, 49, 50, 51, 52, 53, 54, 55, 56, 57, 58, 59, 60, 61, 62, 63, 64, 65, 66, 67, 68, 69, 70, 71, 72, 73, 74, 75, 76, 77, 78, 79, 80, 81, 82, 83, 84, 85, 86, 87, 88, 89, 90, 91, 92, 93] (by decide +kernel) (by decide +kernel)
set_option maxRecDepth 20000 in
theorem gX8_rest_X8_allWays : GoodIn wsX8_rest (wsV RX8 204 RX8 yX8_allWays wsX8_allWays) := goodIn_app (goodIn_of _ (by decide +kernel)) ggX8_rest_X8_allWays
set_option maxRecDepth 20000 in
theorem ggX8_good_X8_allWays : GoodIn wsX8_good wsX8_allWays := goodIn_r _ [7, 1, 8, 2, 9, 10, 11, 12, 13, 14, 15, 16, 17, 18, 6, 19, 20, 21, 22, 23, 24, 25, 26, 27, 28, 29, 30, 31, 32, 33, 34, 35, 36, 37, 38, 39, 40, 41, 42, 43, 44, 45, 46, 47, 48, 49, 50, 51, 52, 53, 54, 55, 56, 57, 58, 59, 60, 61, 62, 63, 64, 65, 66, 67, 68, 69, 70, 71, 72, 73, 74, 75, 76, 77, 78, 79, 80, 81, 82, 83, 84] (by decide +kernel) (by decide +kernel)
set_option maxRecDepth 20000 in
theorem gX8_good_X8_allWays : GoodIn wsX8_good (wsV RX8 204 RX8 yX8_allWays wsX8_allWays) := goodIn_app (goodIn_of _ (by decide +kernel)) ggX8_good_X8_allWays
set_option maxRecDepth 20000 in
theorem ggX8_far_X8_allWays : GoodIn wsX8_far wsX8_allWays := goodIn_r _ [9, 1, 2, 3, 10, 11, 12, 13, 14, 4, 15, 16, 17, 18, 8, 19, 20, 21, 22, 23, 24, 25, 26, 27, 28, 29, 30, 31, 32, 33, 34, 35, 36, 37, 38, 39, 40, 41, 42, 43, 44, 45, 46, 47, 48, 49, 50, 51, 52, 53, 54, 55, 56, 57, 58, 59, 60, 61, 62, 63, 64, 65, 66, 67, 68, 69, 70, 71, 72, 73, 74, 75, 76, 77, 78, 79, 80, 81, 82, 83, 84] (by decide +kernel) (by decide +kernel)
set_option maxRecDepth 20000 in
theorem gX8_far_X8_allWays : GoodIn wsX8_far (wsV RX8 204 RX8 yX8_allWays wsX8_allWays) := goodIn_app (goodIn_of _ (by decide +kernel)) ggX8_far_X8_allWays
set_option maxRecDepth 20000 in
theorem ggX8_byLaw_X8_no : GoodIn wsX8_byLaw wsX8_no := goodIn_r _ [6, 7, 57, 58, 59, 60, 61, 62, 63, 64, 65, 66, 67, 68, 69, 70, 71, 72, 73, 74, 75, 76, 77, 78, 79, 80, 81, 82, 83, 84, 85, 86, 87, 88, 89] (by decide +kernel) (by decide +kernel)
set_option maxRecDepth 20000 in
theorem gX8_byLaw_X8_no : GoodIn wsX8_byLaw (wsV RX8 71 RX8 yX8_no wsX8_no) := goodIn_app (goodIn_of _ (by decide +kernel)) ggX8_byLaw_X8_no
set_option maxRecDepth 20000 in
theorem ggX8_byLaw_X8_allWays : GoodIn wsX8_byLaw wsX8_allWays := goodIn_r _ [11, 12, 13, 1, 14, 15, 16, 17, 18, 19, 20, 21, 22, 23, 5, 24, 25, 26, 27, 28, 29, 30, 31, 32, 33, 34, 35, 36, 37, 38, 39, 40, 41, 42, 43, 44, 45, 46, 47, 48, 49, 50, 51, 52, 53, 54, 55, 56, 57, 58, 59, 60, 61, 62, 63, 64, 65, 66, 67, 68, 69, 70, 71, 72, 73, 74, 75, 76, 77, 78, 79, 80, 81, 82, 83, 84, 85, 86, 87, 88, 89] (by decide +kernel) (by decide +kernel)
set_option maxRecDepth 20000 in
theorem gX8_byLaw_X8_allWays : GoodIn wsX8_byLaw (wsV RX8 204 RX8 yX8_allWays wsX8_allWays) := goodIn_app (goodIn_of _ (by decide +kernel)) ggX8_byLaw_X8_allWays
set_option maxRecDepth 20000 in
theorem ggX8_hour_X8_isNobody : GoodIn wsX8_hour wsX8_isNobody := goodIn_r _ [7, 1, 33, 34, 35, 36, 37, 38, 39, 40, 41, 42, 43, 44, 45, 46, 47, 48, 49, 50, 51, 52, 53, 54, 55, 56, 57, 58, 59, 60, 61, 62, 63, 64, 65] (by decide +kernel) (by decide +kernel)
set_option maxRecDepth 20000 in
theorem gX8_hour_X8_isNobody : GoodIn wsX8_hour (wsV RX8 129 RX8 yX8_isNobody wsX8_isNobody) := goodIn_app (goodIn_of _ (by decide +kernel)) ggX8_hour_X8_isNobody
set_option maxRecDepth 20000 in
theorem ggX8_hour_X8_no : GoodIn wsX8_hour wsX8_no := goodIn_r _ [11, 12, 33, 34, 35, 36, 37, 38, 39, 40, 41, 42, 43, 44, 45, 46, 47, 48, 49, 50, 51, 52, 53, 54, 55, 56, 57, 58, 59, 60, 61, 62, 63, 64, 65] (by decide +kernel) (by decide +kernel)
set_option maxRecDepth 20000 in
theorem gX8_hour_X8_no : GoodIn wsX8_hour (wsV RX8 71 RX8 yX8_no wsX8_no) := goodIn_app (goodIn_of _ (by decide +kernel)) ggX8_hour_X8_no
set_option maxRecDepth 20000 in
theorem ggX8_hour_X8_marked : GoodIn wsX8_hour wsX8_marked := goodIn_r _ [16, 1, 17, 18, 19, 6, 20, 21, 22, 23, 24, 25, 26, 27, 28, 29, 30, 31, 32, 33, 34, 35, 36, 37, 38, 39, 40, 41, 42, 43, 44, 45, 46, 47, 48, 49, 50, 51, 52, 53, 54, 55, 56, 57, 58, 59, 60, 61, 62, 63, 64, 65] (by decide +kernel) (by decide +kernel)
set_option maxRecDepth 20000 in
theorem gX8_hour_X8_marked : GoodIn wsX8_hour (wsV RX8 126 RX8 yX8_marked wsX8_marked) := goodIn_app (goodIn_of _ (by decide +kernel)) ggX8_hour_X8_marked
