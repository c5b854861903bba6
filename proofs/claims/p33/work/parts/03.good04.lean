set_option maxRecDepth 20000 in
theorem ggX7_after_X3_has : GoodIn wsX7_after wsX3_has := goodIn_r _ [7, 8, 108, 109, 110, 111, 112, 113, 114, 115, 116, 117, 118, 119, 120, 121, 122, 123] (by decide +kernel) (by decide +kernel)
set_option maxRecDepth 20000 in
theorem gX7_after_X3_has : GoodIn wsX7_after (wsV RX7 95 RX3 yX3_has wsX3_has) := goodIn_app (goodIn_of _ (by decide +kernel)) ggX7_after_X3_has
set_option maxRecDepth 20000 in
theorem ggX7_after_X7_refuse : GoodIn wsX7_after wsX7_refuse := goodIn_r _ [13, 14, 96, 97, 98, 99, 100, 101, 102, 103, 104, 105, 106, 107] (by decide +kernel) (by decide +kernel)
set_option maxRecDepth 20000 in
theorem gX7_after_X7_refuse : GoodIn wsX7_after (wsV RX7 69 RX7 yX7_refuse wsX7_refuse) := goodIn_app (goodIn_of _ (by decide +kernel)) ggX7_after_X7_refuse
set_option maxRecDepth 20000 in
theorem ggX7_after_X3_copyFrom : GoodIn wsX7_after wsX3_copyFrom := goodIn_r _ [18, 8, 19, 20, 21, 22, 23, 24, 25, 26, 27, 28, 29, 30, 31, 32, 33, 34, 35, 36, 108, 109, 110, 111, 112, 113, 114, 115, 116, 117, 118, 119, 120, 121, 122, 123] (by decide +kernel) (by decide +kernel)
set_option maxRecDepth 20000 in
theorem gX7_after_X3_copyFrom : GoodIn wsX7_after (wsV RX7 84 RX3 yX3_copyFrom wsX3_copyFrom) := goodIn_app (goodIn_of _ (by decide +kernel)) ggX7_after_X3_copyFrom
set_option maxRecDepth 20000 in
theorem ggX7_after_X6_goBy : GoodIn wsX7_after wsX6_goBy := goodIn_r _ [40, 41, 42, 43, 44, 45, 46, 39, 47, 48, 49, 50, 51, 52, 53, 54, 4, 5, 6, 7, 8, 55, 56, 57, 58, 59, 60, 61, 62, 32, 33, 19, 63, 64, 65, 66, 67, 68, 69, 70, 71, 72, 73, 74, 75, 76, 77, 78, 79, 80, 81, 82, 83, 84, 85, 86, 87, 88, 89, 90, 108, 109, 110, 111, 112, 113, 114, 115, 116, 117, 118, 119, 120, 121, 122, 123] (by decide +kernel) (by decide +kernel)
set_option maxRecDepth 20000 in
theorem gX7_after_X6_goBy : GoodIn wsX7_after (va_wsS RX7 145 yX6_goBy wsX6_goBy) := goodIn_app (goodIn_of _ (by decide +kernel)) ggX7_after_X6_goBy
set_option maxRecDepth 20000 in
theorem ggX7_after_X0_sumOfMarks : GoodIn wsX7_after wsX0_sumOfMarks := goodIn_r _ [93, 68, 75, 94, 65, 66, 67, 69, 70, 71, 4, 5, 6, 7, 8, 72, 73, 74, 76, 77, 78, 79, 80, 81, 82, 83, 84, 85, 86, 87, 88, 89, 90, 108, 109, 110, 111, 112, 113, 114, 115, 116, 117, 118, 119, 120, 121, 122, 123] (by decide +kernel) (by decide +kernel)
set_option maxRecDepth 20000 in
theorem gX7_after_X0_sumOfMarks : GoodIn wsX7_after (va_wsS RX7 163 yX0_sumOfMarks wsX0_sumOfMarks) := goodIn_app (goodIn_of _ (by decide +kernel)) ggX7_after_X0_sumOfMarks
set_option maxRecDepth 20000 in
theorem ggX7_after_X0_markOf : GoodIn wsX7_after wsX0_markOf := goodIn_r _ [67, 68, 69, 70, 71, 4, 5, 6, 7, 8, 72, 73, 66, 74, 75, 76, 77, 78, 79, 80, 81, 82, 83, 84, 85, 86, 87, 88, 89, 90, 108, 109, 110, 111, 112, 113, 114, 115, 116, 117, 118, 119, 120, 121, 122, 123] (by decide +kernel) (by decide +kernel)
set_option maxRecDepth 20000 in
theorem gX7_after_X0_markOf : GoodIn wsX7_after (va_wsS RX7 156 yX0_markOf wsX0_markOf) := goodIn_app (goodIn_of _ (by decide +kernel)) ggX7_after_X0_markOf
set_option maxRecDepth 20000 in
theorem ggX7_again_X3_copyFrom : GoodIn wsX7_again wsX3_copyFrom := goodIn_r _ [7, 8, 9, 10, 11, 12, 13, 14, 15, 16, 17, 18, 19, 20, 21, 22, 23, 24, 25, 26, 100, 101, 102, 103, 104, 105, 106, 107, 108, 109, 110, 111, 112, 113, 114, 115] (by decide +kernel) (by decide +kernel)
set_option maxRecDepth 20000 in
theorem gX7_again_X3_copyFrom : GoodIn wsX7_again (wsV RX7 84 RX3 yX3_copyFrom wsX3_copyFrom) := goodIn_app (goodIn_of _ (by decide +kernel)) ggX7_again_X3_copyFrom
set_option maxRecDepth 20000 in
theorem ggX7_again_X6_goBy : GoodIn wsX7_again wsX6_goBy := goodIn_r _ [30, 31, 32, 33, 34, 35, 36, 29, 37, 38, 39, 40, 41, 42, 43, 44, 45, 46, 6, 47, 8, 48, 49, 50, 51, 52, 53, 54, 55, 22, 23, 9, 56, 57, 58, 59, 60, 61, 62, 63, 64, 65, 66, 67, 68, 69, 70, 71, 72, 73, 74, 75, 76, 77, 78, 79, 80, 81, 82, 83, 100, 101, 102, 103, 104, 105, 106, 107, 108, 109, 110, 111, 112, 113, 114, 115] (by decide +kernel) (by decide +kernel)
set_option maxRecDepth 20000 in
theorem gX7_again_X6_goBy : GoodIn wsX7_again (va_wsS RX7 145 yX6_goBy wsX6_goBy) := goodIn_app (goodIn_of _ (by decide +kernel)) ggX7_again_X6_goBy
set_option maxRecDepth 20000 in
theorem ggX7_again_X3_learnsLike : GoodIn wsX7_again wsX3_learnsLike := goodIn_r _ [87, 8, 22, 100, 101, 102, 103, 104, 105, 106, 107, 108, 109, 110, 111, 112, 113, 114, 115] (by decide +kernel) (by decide +kernel)
set_option maxRecDepth 20000 in
theorem gX7_again_X3_learnsLike : GoodIn wsX7_again (wsV RX7 166 RX3 yX3_learnsLike wsX3_learnsLike) := goodIn_app (goodIn_of _ (by decide +kernel)) ggX7_again_X3_learnsLike
set_option maxRecDepth 20000 in
theorem ggX7_best_X7_refuse : GoodIn wsX7_best wsX7_refuse := goodIn_r _ [10, 11, 118, 119, 120, 121, 122, 123, 124, 125, 126, 127, 128, 129] (by decide +kernel) (by decide +kernel)
set_option maxRecDepth 20000 in
theorem gX7_best_X7_refuse : GoodIn wsX7_best (wsV RX7 69 RX7 yX7_refuse wsX7_refuse) := goodIn_app (goodIn_of _ (by decide +kernel)) ggX7_best_X7_refuse
set_option maxRecDepth 20000 in
theorem ggX7_best_X4_findBest : GoodIn wsX7_best wsX4_findBest := goodIn_r _ [16, 17, 18, 19, 20, 21, 22, 15, 23, 24, 25, 26, 27, 28, 29, 30, 31, 32, 33, 34, 35, 36, 37, 38, 39, 40, 41, 42, 43, 44, 45, 46, 47, 48, 49, 50, 51, 52, 53, 54, 55, 56, 57, 58, 59, 60, 61, 62, 63, 64, 65, 66, 67, 68, 69, 70, 71, 72, 73, 74, 75, 76, 77, 78, 79, 80, 81, 82, 83, 84, 85, 86, 87, 88, 89, 90, 91, 92, 93, 94, 95, 96, 97, 98, 99, 100, 101, 102, 103, 104, 105, 106, 107, 108, 109, 110, 111, 112, 113, 114, 115, 116, 117, 146, 147, 148, 149, 150, 130, 131, 132, 133, 134, 135, 136, 137, 138, 139, 140, 141, 142, 143, 144, 145] (by decide +kernel) (by decide +kernel)
set_option maxRecDepth 20000 in
theorem gX7_best_X4_findBest : GoodIn wsX7_best (wsV RX7 173 RX4 yX4_findBest wsX4_findBest) := goodIn_app (goodIn_of _ (by decide +kernel)) ggX7_best_X4_findBest
set_option maxRecDepth 20000 in
theorem ggX7_bestSeat_X7_refuse : GoodIn wsX7_bestSeat wsX7_refuse := goodIn_r _ [9, 10, 117, 118, 119, 120, 121, 122, 123, 124, 125, 126, 127, 128] (by decide +kernel) (by decide +kernel)
set_option maxRecDepth 20000 in
theorem gX7_bestSeat_X7_refuse : GoodIn wsX7_bestSeat (wsV RX7 69 RX7 yX7_refuse wsX7_refuse) := goodIn_app (goodIn_of _ (by decide +kernel)) ggX7_bestSeat_X7_refuse
set_option maxRecDepth 20000 in
theorem ggX7_bestSeat_X4_findBest : GoodIn wsX7_bestSeat wsX4_findBest := goodIn_r _ [15, 16, 17, 18, 19, 20, 21, 14, 22, 23, 24, 25, 26, 27, 28, 29, 30, 31, 32, 33, 34, 35, 36, 37, 38, 39, 40, 41, 42, 43, 44, 45, 46, 47, 48, 49, 50, 51, 52, 53, 54, 55, 56, 57, 58, 59, 60, 61, 62, 63, 64, 65, 66, 67, 68, 69, 70, 71, 72, 73, 74, 75, 76, 77, 78, 79, 80, 81, 82, 83, 84, 85, 86, 87, 88, 89, 90, 91, 92, 93, 94, 95, 96, 97, 98, 99, 100, 101, 102, 103, 104, 105, 106, 107, 108, 109, 110, 111, 112, 113, 114, 115, 116, 145, 146, 147, 148, 149, 129, 130, 131, 132, 133, 134, 135, 136, 137, 138, 139, 140, 141, 142, 143, 144] (by decide +kernel) (by decide +kernel)
set_option maxRecDepth 20000 in
theorem gX7_bestSeat_X4_findBest : GoodIn wsX7_bestSeat (wsV RX7 173 RX4 yX4_findBest wsX4_findBest) := goodIn_app (goodIn_of _ (by decide +kernel)) ggX7_bestSeat_X4_findBest
set_option maxRecDepth 20000 in
theorem ggX7_sumLeast_X7_refuse : GoodIn wsX7_sumLeast wsX7_refuse := goodIn_r _ [8, 9, 99, 100, 101, 102, 103, 104, 105, 106, 107, 108, 109, 110] (by decide +kernel) (by decide +kernel)
set_option maxRecDepth 20000 in
theorem gX7_sumLeast_X7_refuse : GoodIn wsX7_sumLeast (wsV RX7 69 RX7 yX7_refuse wsX7_refuse) := goodIn_app (goodIn_of _ (by decide +kernel)) ggX7_sumLeast_X7_refuse
set_option maxRecDepth 20000 in
theorem ggX7_sumLeast_X4_findLeastSum : GoodIn wsX7_sumLeast wsX4_findLeastSum := goodIn_r _ [14, 15, 16, 17, 18, 19, 20, 21, 22, 23, 13, 24, 25, 26, 27, 28, 29, 30, 31, 32, 33, 34, 35, 36, 37, 38, 39, 40, 41, 42, 43, 44, 45, 46, 47, 48, 49, 50, 51, 52, 53, 54, 55, 56, 57, 58, 59, 60, 61, 62, 63, 64, 65, 66, 67, 68, 69, 70, 71, 72, 73, 74, 75, 76, 77, 78, 79, 80, 81, 82, 83, 84, 85, 86, 87, 88, 89, 90, 91, 92, 93, 94, 95, 96, 97, 98, 127, 128, 129, 130, 131, 111, 112, 113, 114, 115, 116, 117, 118, 119, 120, 121, 122, 123, 124, 125, 126] (by decide +kernel) (by decide +kernel)
set_option maxRecDepth 20000 in
theorem gX7_sumLeast_X4_findLeastSum : GoodIn wsX7_sumLeast (wsV RX7 185 RX4 yX4_findLeastSum wsX4_findLeastSum) := goodIn_app (goodIn_of _ (by decide +kernel)) ggX7_sumLeast_X4_findLeastSum
set_option maxRecDepth 20000 in
theorem ggX7_rests_X7_refuse : GoodIn wsX7_rests wsX7_refuse := goodIn_r _ [9, 10, 111, 112, 113, 114, 115, 116, 117, 118, 119, 120, 121, 122] (by decide +kernel) (by decide +kernel)
set_option maxRecDepth 20000 in
theorem gX7_rests_X7_refuse : GoodIn wsX7_rests (wsV RX7 69 RX7 yX7_refuse wsX7_refuse) := goodIn_app (goodIn_of _ (by decide +kernel)) ggX7_rests_X7_refuse
set_option maxRecDepth 20000 in
theorem ggX7_rests_X5_findRests : GoodIn wsX7_rests wsX5_findRests := goodIn_r _ [15, 16, 17, 18, 19, 20, 21, 14, 22, 23, 24, 25, 26, 27, 28, 29, 30, 31, 32, 33, 34, 35, 36, 37, 38, 39, 40, 41, 42, 43, 44, 45, 46, 47, 48, 49, 50, 51, 52, 53, 54, 55, 56, 57, 58, 59, 60, 61, 62, 63, 64, 65, 66, 67, 68, 69, 70, 71, 72, 73, 74, 75, 76, 77, 78, 79, 80, 81, 82, 83, 84, 85, 86, 87, 88, 89, 90, 91, 92, 93, 94, 95, 96, 97, 98, 99, 100, 101, 102, 103, 104, 105, 106, 107, 108, 109, 110, 123, 124, 125, 126, 127, 128, 129, 130, 131, 132, 133, 134, 135, 136, 137, 138, 139, 140, 141, 142, 143] (by decide +kernel) (by decide +kernel)
set_option maxRecDepth 20000 in
theorem gX7_rests_X5_findRests : GoodIn wsX7_rests (wsV RX7 188 RX5 yX5_findRests wsX5_findRests) := goodIn_app (goodIn_of _ (by decide +kernel)) ggX7_rests_X5_findRests
set_option maxRecDepth 20000 in
theorem ggX7_rest_X3_has : GoodIn wsX7_rest wsX3_has := goodIn_r _ [9, 10, 129, 130, 131, 132, 133, 134, 135, 136, 137, 138, 139, 140, 141, 142, 143, 144] (by decide +kernel) (by decide +kernel)
set_option maxRecDepth 20000 in
theorem gX7_rest_X3_has : GoodIn wsX7_rest (wsV RX7 95 RX3 yX3_has wsX3_has) := goodIn_app (goodIn_of _ (by decide +kernel)) ggX7_rest_X3_has
set_option maxRecDepth 20000 in
theorem ggX7_rest_X7_refuse : GoodIn wsX7_rest wsX7_refuse := goodIn_r _ [15, 16, 112, 113, 114, 115, 116, 117, 118, 119, 120, 121, 122, 123] (by decide +kernel) (by decide +kernel)
set_option maxRecDepth 20000 in
theorem gX7_rest_X7_refuse : GoodIn wsX7_rest (wsV RX7 69 RX7 yX7_refuse wsX7_refuse) := goodIn_app (goodIn_of _ (by decide +kernel)) ggX7_rest_X7_refuse
set_option maxRecDepth 20000 in
theorem ggX7_rest_X5_findRests : GoodIn wsX7_rest wsX5_findRests := goodIn_r _ [21, 22, 23, 24, 25, 26, 27, 20, 28, 29, 30, 31, 32, 33, 8, 34, 10, 35, 36, 37, 38, 39, 40, 41, 42, 43, 44, 45, 46, 47, 48, 49, 50, 51, 52, 53, 54, 55, 56, 57, 6, 7, 9, 58, 59, 60, 61, 62, 63, 64, 65, 66, 67, 68, 69, 70, 71, 72, 73, 74, 75, 76, 77, 78, 79, 80, 81, 82, 83, 84, 85, 86, 87, 88, 89, 90, 91, 92, 93, 94, 95, 96, 97, 98, 99, 100, 101, 102, 103, 104, 105, 106, 107, 108, 109, 110, 111, 124, 125, 126, 127, 128, 129, 130, 131, 132, 133, 134, 135, 136, 137, 138, 139, 140, 141, 142, 143, 144] (by decide +kernel) (by decide +kernel)
set_option maxRecDepth 20000 in
theorem gX7_rest_X5_findRests : GoodIn wsX7_rest (wsV RX7 188 RX5 yX5_findRests wsX5_findRests) := goodIn_app (goodIn_of _ (by decide +kernel)) ggX7_rest_X5_findRests
set_option maxRecDepth 20000 in
theorem ggX7_good_X5_greatestSum : GoodIn wsX7_good wsX5_greatestSum := goodIn_r _ [8, 9, 10, 11, 12, 13, 14, 15, 16, 17, 7, 18, 19, 20, 21, 22, 23, 24, 25, 26, 27, 28, 29, 30, 31, 32, 33, 34, 35, 36, 37, 38, 39, 40, 41, 42, 43, 44, 45, 46, 47, 48, 49, 50, 51, 52, 53, 54, 55, 56, 57, 58, 59, 60, 61, 62, 63, 64, 65, 66, 67, 68, 69, 70, 71, 72, 73, 74, 75, 76, 77, 78, 79, 80, 81, 82, 83, 84, 85, 86, 115, 116, 117, 118, 119, 99, 100, 101, 102, 103, 104, 105, 106, 107, 108, 109, 110, 111, 112, 113, 114] (by decide +kernel) (by decide +kernel)
set_option maxRecDepth 20000 in
theorem gX7_good_X5_greatestSum : GoodIn wsX7_good (wsV RX7 200 RX5 yX5_greatestSum wsX5_greatestSum) := goodIn_app (goodIn_of _ (by decide +kernel)) ggX7_good_X5_greatestSum
set_option maxRecDepth 20000 in
theorem ggX7_far_X5_findRests : GoodIn wsX7_far wsX5_findRests := goodIn_r _ [10, 11, 12, 13, 14, 15, 16, 9, 17, 18, 19, 20, 21, 22, 23, 24, 25, 26, 27, 28, 29, 30, 31, 32, 33, 34, 35, 36, 37, 38, 39, 40, 41, 42, 43, 44, 45, 46, 47, 48, 49, 50, 51, 52, 53, 54, 55, 56, 57, 58, 59, 60, 61, 62, 63, 64, 65, 66, 67, 68, 69, 70, 71, 72, 73, 74, 75, 76, 77, 78, 79, 80, 81, 82, 83, 84, 85, 86, 87, 88, 89, 90, 91, 92, 93, 94, 95, 96, 97, 98, 99, 100, 101, 102, 103, 104, 105, 123, 124, 125, 126, 127, 128, 129, 130, 131, 132, 133, 134, 135, 136, 137, 138, 139, 140, 141, 142, 143] (by decide +kernel) (by decide +kernel)
set_option maxRecDepth 20000 in
theorem gX7_far_X5_findRests : GoodIn wsX7_far (wsV RX7 188 RX5 yX5_findRests wsX5_findRests) := goodIn_app (goodIn_of _ (by decide +kernel)) ggX7_far_X5_findRests
set_option maxRecDepth 20000 in
theorem ggX7_far_X5_greatestSum : GoodIn wsX7_far wsX5_greatestSum := goodIn_r _ [109, 18, 110, 95, 96, 87, 97, 14, 15, 16, 9, 17, 19, 20, 21, 22, 23, 24, 25, 26, 27, 28, 29, 30, 31, 32, 33, 34, 35, 36, 37, 38, 39, 40, 41, 42, 43, 44, 45, 46, 47, 48, 49, 50, 51, 98, 99, 64, 100, 66, 73, 101, 63, 65, 67, 68, 69, 70, 71, 72, 74, 75, 76, 77, 78, 79, 80, 81, 82, 83, 84, 85, 86, 88, 102, 103, 104, 105, 60, 61, 123, 124, 125, 126, 127, 128, 129, 130, 131, 132, 133, 134, 135, 136, 137, 138, 139, 140, 141, 142, 143] (by decide +kernel) (by decide +kernel)
set_option maxRecDepth 20000 in
theorem gX7_far_X5_greatestSum : GoodIn wsX7_far (wsV RX7 200 RX5 yX5_greatestSum wsX5_greatestSum) := goodIn_app (goodIn_of _ (by decide +kernel)) ggX7_far_X5_greatestSum
set_option maxRecDepth 20000 in
theorem ggX7_byLaw_X7_isLaw : GoodIn wsX7_byLaw wsX7_isLaw := goodIn_r _ [6] (by decide +kernel) (by decide +kernel)
set_option maxRecDepth 20000 in
theorem gX7_byLaw_X7_isLaw : GoodIn wsX7_byLaw (va_wsS RX7 133 yX7_isLaw wsX7_isLaw) := goodIn_app (goodIn_of _ (by decide +kernel)) ggX7_byLaw_X7_isLaw
set_option maxRecDepth 20000 in
theorem ggX7_byLaw_X7_refuse : GoodIn wsX7_byLaw wsX7_refuse := goodIn_r _ [10, 11, 95, 96, 97, 98, 99, 100, 101, 102, 103, 104, 105, 106] (by decide +kernel) (by decide +kernel)
set_option maxRecDepth 20000 in
theorem gX7_byLaw_X7_refuse : GoodIn wsX7_byLaw (wsV RX7 69 RX7 yX7_refuse wsX7_refuse) := goodIn_app (goodIn_of _ (by decide +kernel)) ggX7_byLaw_X7_refuse
set_option maxRecDepth 20000 in
theorem ggX7_byLaw_X5_greatestSum : GoodIn wsX7_byLaw wsX5_greatestSum := goodIn_r _ [16, 17, 18, 19, 20, 21, 22, 23, 24, 25, 15, 26, 27, 28, 29, 30, 31, 32, 33, 34, 35, 36, 37, 38, 39, 40, 41, 42, 43, 44, 45, 46, 47, 48, 49, 50, 51, 52, 53, 54, 55, 56, 57, 58, 59, 60, 61, 62, 63, 64, 65, 66, 67, 68, 69, 70, 71, 72, 73, 74, 75, 76, 77, 78, 79, 80, 81, 82, 83, 84, 85, 86, 87, 88, 89, 90, 91, 92, 93, 94, 107, 108, 109, 110, 111, 112, 113, 114, 115, 116, 117, 118, 119, 120, 121, 122, 123, 124, 125, 126, 127] (by decide +kernel) (by decide +kernel)
set_option maxRecDepth 20000 in
theorem gX7_byLaw_X5_greatestSum : GoodIn wsX7_byLaw (wsV RX7 200 RX5 yX5_greatestSum wsX5_greatestSum) := goodIn_app (goodIn_of _ (by decide +kernel)) ggX7_byLaw_X5_greatestSum
set_option maxRecDepth 20000 in
theorem ggX7_hour_X3_has : GoodIn wsX7_hour wsX3_has := goodIn_r _ [8, 9, 83, 84, 85, 86, 87, 88, 89, 90, 91, 92, 93, 94, 95, 96, 97, 98] (by decide +kernel) (by decide +kernel)
set_option maxRecDepth 20000 in
theorem gX7_hour_X3_has : GoodIn wsX7_hour (wsV RX7 95 RX3 yX3_has wsX3_has) := goodIn_app (goodIn_of _ (by decide +kernel)) ggX7_hour_X3_has
set_option maxRecDepth 20000 in
theorem ggX7_hour_X7_refuse : GoodIn wsX7_hour wsX7_refuse := goodIn_r _ [14, 15, 71, 72, 73, 74, 75, 76, 77, 78, 79, 80, 81, 82] (by decide +kernel) (by decide +kernel)
set_option maxRecDepth 20000 in
theorem gX7_hour_X7_refuse : GoodIn wsX7_hour (wsV RX7 69 RX7 yX7_refuse wsX7_refuse) := goodIn_app (goodIn_of _ (by decide +kernel)) ggX7_hour_X7_refuse
set_option maxRecDepth 20000 in
theorem ggX7_hour_X3_copyFrom : GoodIn wsX7_hour wsX3_copyFrom := goodIn_r _ [19, 9, 20, 21, 22, 23, 24, 25, 26, 27, 28, 29, 30, 31, 32, 33, 34, 35, 36, 37, 83, 84, 85, 86, 87, 88, 89, 90, 91, 92, 93, 94, 95, 96, 97, 98] (by decide +kernel) (by decide +kernel)
set_option maxRecDepth 20000 in
theorem gX7_hour_X3_copyFrom : GoodIn wsX7_hour (wsV RX7 84 RX3 yX3_copyFrom wsX3_copyFrom) := goodIn_app (goodIn_of _ (by decide +kernel)) ggX7_hour_X3_copyFrom
set_option maxRecDepth 20000 in
theorem ggX7_hour_X0_sumOfMarks : GoodIn wsX7_hour wsX0_sumOfMarks := goodIn_r _ [41, 42, 43, 44, 45, 40, 46, 47, 48, 49, 5, 6, 7, 8, 9, 50, 51, 52, 53, 54, 55, 56, 57, 58, 59, 60, 61, 62, 63, 64, 65, 66, 67, 83, 84, 85, 86, 87, 88, 89, 90, 91, 92, 93, 94, 95, 96, 97, 98] (by decide +kernel) (by decide +kernel)
set_option maxRecDepth 20000 in
theorem gX7_hour_X0_sumOfMarks : GoodIn wsX7_hour (va_wsS RX7 163 yX0_sumOfMarks wsX0_sumOfMarks) := goodIn_app (goodIn_of _ (by decide +kernel)) ggX7_hour_X0_sumOfMarks
