set_option maxRecDepth 20000 in
theorem ggX7_hour_X0_greaterBits : GoodIn wsX7_hour wsX0_greaterBits := goodIn_r _ [70, 43, 44, 45, 40, 46, 42, 47, 48, 49, 5, 6, 7, 8, 9, 50, 51, 52, 53, 54, 55, 56, 57, 58, 59, 60, 61, 62, 63, 64, 65, 66, 67, 83, 84, 85, 86, 87, 88, 89, 90, 91, 92, 93, 94, 95, 96, 97, 98] (by decide +kernel) (by decide +kernel)
set_option maxRecDepth 20000 in
theorem gX7_hour_X0_greaterBits : GoodIn wsX7_hour (va_wsS RX7 205 yX0_greaterBits wsX0_greaterBits) := goodIn_app (goodIn_of _ (by decide +kernel)) ggX7_hour_X0_greaterBits
set_option maxRecDepth 20000 in
theorem ggX7_mends_X7_refuse : GoodIn wsX7_mends wsX7_refuse := goodIn_r _ [8, 9, 84, 85, 86, 87, 88, 89, 90, 91, 92, 93, 94, 95] (by decide +kernel) (by decide +kernel)
set_option maxRecDepth 20000 in
theorem gX7_mends_X7_refuse : GoodIn wsX7_mends (wsV RX7 69 RX7 yX7_refuse wsX7_refuse) := goodIn_app (goodIn_of _ (by decide +kernel)) ggX7_mends_X7_refuse
set_option maxRecDepth 20000 in
theorem ggX7_mends_X3_copyFrom : GoodIn wsX7_mends wsX3_copyFrom := goodIn_r _ [14, 15, 16, 17, 18, 19, 20, 21, 22, 23, 24, 25, 26, 27, 28, 29, 30, 31, 32, 33, 96, 97, 98, 99, 100, 101, 102, 103, 104, 105, 106, 107, 108, 109, 110, 111] (by decide +kernel) (by decide +kernel)
set_option maxRecDepth 20000 in
theorem gX7_mends_X3_copyFrom : GoodIn wsX7_mends (wsV RX7 84 RX3 yX3_copyFrom wsX3_copyFrom) := goodIn_app (goodIn_of _ (by decide +kernel)) ggX7_mends_X3_copyFrom
set_option maxRecDepth 20000 in
theorem ggX7_mends_X7_mendsWith : GoodIn wsX7_mends wsX7_mendsWith := goodIn_r _ [36, 2, 37, 38, 39, 40, 41, 42, 43, 44, 45, 46, 47, 48, 49, 50, 51, 13, 52, 15, 53, 54, 55, 56, 57, 58, 59, 60, 61, 62, 63, 64, 65, 66, 67, 68, 69, 70, 71, 72, 73, 74, 31, 75, 76, 77, 78, 79, 80, 81, 82, 20, 32, 33, 83, 34, 35, 7, 96, 97, 98, 99, 100, 101, 102, 103, 104, 105, 106, 107, 108, 109, 110, 111] (by decide +kernel) (by decide +kernel)
set_option maxRecDepth 20000 in
theorem gX7_mends_X7_mendsWith : GoodIn wsX7_mends (va_wsS RX7 209 yX7_mendsWith wsX7_mendsWith) := goodIn_app (goodIn_of _ (by decide +kernel)) ggX7_mends_X7_mendsWith
set_option maxRecDepth 20000 in
theorem ggX7_row_X7_refuse : GoodIn wsX7_row wsX7_refuse := goodIn_r _ [7, 8, 21, 22, 23, 24, 25, 26, 27, 28, 29, 30, 31, 32] (by decide +kernel) (by decide +kernel)
set_option maxRecDepth 20000 in
theorem gX7_row_X7_refuse : GoodIn wsX7_row (wsV RX7 69 RX7 yX7_refuse wsX7_refuse) := goodIn_app (goodIn_of _ (by decide +kernel)) ggX7_row_X7_refuse
set_option maxRecDepth 20000 in
theorem ggX7_row_X1_isFull : GoodIn wsX7_row wsX1_isFull := goodIn_r _ [13, 14, 15, 33, 34] (by decide +kernel) (by decide +kernel)
set_option maxRecDepth 20000 in
theorem gX7_row_X1_isFull : GoodIn wsX7_row (wsV RX7 73 RX1 yX1_isFull wsX1_isFull) := goodIn_app (goodIn_of _ (by decide +kernel)) ggX7_row_X1_isFull
set_option maxRecDepth 20000 in
theorem ggX7_row_X1_add : GoodIn wsX7_row wsX1_add := goodIn_r _ [19, 15, 14, 20, 10, 11, 12, 13, 33, 34] (by decide +kernel) (by decide +kernel)
set_option maxRecDepth 20000 in
theorem gX7_row_X1_add : GoodIn wsX7_row (wsV RX7 77 RX1 yX1_add wsX1_add) := goodIn_app (goodIn_of _ (by decide +kernel)) ggX7_row_X1_add
set_option maxRecDepth 20000 in
theorem ggX7_fitting_X7_refuse : GoodIn wsX7_fitting wsX7_refuse := goodIn_r _ [12, 13, 116, 117, 118, 119, 120, 121, 122, 123, 124, 125, 126, 127] (by decide +kernel) (by decide +kernel)
set_option maxRecDepth 20000 in
theorem gX7_fitting_X7_refuse : GoodIn wsX7_fitting (wsV RX7 69 RX7 yX7_refuse wsX7_refuse) := goodIn_app (goodIn_of _ (by decide +kernel)) ggX7_fitting_X7_refuse
set_option maxRecDepth 20000 in
theorem ggX7_fitting_X4_findFitting : GoodIn wsX7_fitting wsX4_findFitting := goodIn_r _ [18, 19, 20, 21, 22, 17, 23, 24, 25, 26, 27, 28, 29, 30, 31, 32, 33, 34, 35, 36, 37, 38, 39, 40, 41, 42, 43, 44, 45, 46, 47, 48, 49, 50, 51, 52, 53, 54, 55, 56, 57, 58, 59, 60, 61, 62, 63, 64, 65, 66, 67, 68, 69, 70, 71, 72, 73, 74, 75, 76, 77, 78, 79, 80, 81, 82, 83, 84, 85, 86, 87, 88, 89, 90, 91, 92, 93, 94, 95, 96, 97, 98, 99, 100, 101, 102, 103, 104, 105, 106, 107, 108, 109, 110, 111, 112, 113, 114, 115, 146, 147, 148, 149, 150, 130, 131, 132, 133, 134, 135, 136, 137, 138, 139, 140, 141, 142, 143, 144, 145, 128, 129] (by decide +kernel) (by decide +kernel)
set_option maxRecDepth 20000 in
theorem gX7_fitting_X4_findFitting : GoodIn wsX7_fitting (wsV RX7 213 RX4 yX4_findFitting wsX4_findFitting) := goodIn_app (goodIn_of _ (by decide +kernel)) ggX7_fitting_X4_findFitting
set_option maxRecDepth 20000 in
theorem ggX7_forged_X7_refuse : GoodIn wsX7_forged wsX7_refuse := goodIn_r _ [10, 11, 114, 115, 116, 117, 118, 119, 120, 121, 122, 123, 124, 125] (by decide +kernel) (by decide +kernel)
set_option maxRecDepth 20000 in
theorem gX7_forged_X7_refuse : GoodIn wsX7_forged (wsV RX7 69 RX7 yX7_refuse wsX7_refuse) := goodIn_app (goodIn_of _ (by decide +kernel)) ggX7_forged_X7_refuse
set_option maxRecDepth 20000 in
theorem ggX7_forged_X4_forgedBits : GoodIn wsX7_forged wsX4_forgedBits := goodIn_r _ [16, 17, 18, 19, 20, 21, 15, 22, 23, 24, 25, 26, 27, 28, 29, 30, 31, 32, 33, 34, 35, 36, 37, 38, 39, 40, 41, 42, 43, 44, 45, 46, 47, 48, 49, 50, 51, 52, 53, 54, 55, 56, 57, 58, 59, 60, 61, 62, 63, 64, 65, 66, 67, 68, 69, 70, 71, 72, 73, 74, 75, 76, 77, 78, 79, 80, 81, 82, 83, 84, 85, 86, 87, 88, 89, 90, 91, 92, 93, 94, 95, 96, 97, 98, 99, 100, 101, 102, 103, 104, 105, 106, 107, 108, 109, 110, 111, 112, 113, 144, 145, 146, 147, 148, 128, 129, 130, 131, 132, 133, 134, 135, 136, 137, 138, 139, 140, 141, 142, 143, 126, 127] (by decide +kernel) (by decide +kernel)
set_option maxRecDepth 20000 in
theorem gX7_forged_X4_forgedBits : GoodIn wsX7_forged (wsV RX7 220 RX4 yX4_forgedBits wsX4_forgedBits) := goodIn_app (goodIn_of _ (by decide +kernel)) ggX7_forged_X4_forgedBits
set_option maxRecDepth 20000 in
theorem ggX7_judge_X7_firstUnlikeTold : GoodIn wsX7_judge wsX7_firstUnlikeTold := goodIn_r _ [6, 1, 7, 8, 9, 10, 11, 12, 13, 14, 15, 16, 17, 18, 19, 20, 21, 22, 23, 24, 25, 26, 27, 28, 29, 30, 31, 32, 33, 34, 35, 36, 37, 38, 39, 40, 41, 42, 43, 50, 51, 52, 53, 54, 55, 56, 57, 58, 59, 60, 61, 62, 63, 64, 65, 66, 67, 68, 69, 70, 71, 72, 73, 74, 75, 76, 77, 78, 79] (by decide +kernel) (by decide +kernel)
set_option maxRecDepth 20000 in
theorem gX7_judge_X7_firstUnlikeTold : GoodIn wsX7_judge (wsV RX7 224 RX7 yX7_firstUnlikeTold wsX7_firstUnlikeTold) := goodIn_app (goodIn_of _ (by decide +kernel)) ggX7_judge_X7_firstUnlikeTold
set_option maxRecDepth 20000 in
theorem ggX7_judge_X1_clear : GoodIn wsX7_judge wsX1_clear := goodIn_r _ [48, 49, 62, 63] (by decide +kernel) (by decide +kernel)
set_option maxRecDepth 20000 in
theorem gX7_judge_X1_clear : GoodIn wsX7_judge (wsV RX7 92 RX1 yX1_clear wsX1_clear) := goodIn_app (goodIn_of _ (by decide +kernel)) ggX7_judge_X1_clear
set_option maxRecDepth 20000 in
theorem ggX7_seeds_X7_refuse : GoodIn wsX7_seeds wsX7_refuse := goodIn_r _ [8, 9, 124, 125, 126, 127, 128, 129, 130, 131, 132, 133, 134, 135] (by decide +kernel) (by decide +kernel)
set_option maxRecDepth 20000 in
theorem gX7_seeds_X7_refuse : GoodIn wsX7_seeds (wsV RX7 69 RX7 yX7_refuse wsX7_refuse) := goodIn_app (goodIn_of _ (by decide +kernel)) ggX7_seeds_X7_refuse
set_option maxRecDepth 20000 in
theorem ggX7_seeds_X3_copyFrom : GoodIn wsX7_seeds wsX3_copyFrom := goodIn_r _ [14, 15, 16, 17, 18, 19, 20, 21, 22, 23, 24, 25, 26, 27, 28, 29, 30, 31, 32, 33, 136, 137, 138, 139, 140, 141, 142, 143, 144, 145, 146, 147, 148, 149, 150, 151] (by decide +kernel) (by decide +kernel)
set_option maxRecDepth 20000 in
theorem gX7_seeds_X3_copyFrom : GoodIn wsX7_seeds (wsV RX7 84 RX3 yX3_copyFrom wsX3_copyFrom) := goodIn_app (goodIn_of _ (by decide +kernel)) ggX7_seeds_X3_copyFrom
set_option maxRecDepth 20000 in
theorem ggX7_seeds_X7_nextSeed : GoodIn wsX7_seeds wsX7_nextSeed := goodIn_r _ [36, 37, 38] (by decide +kernel) (by decide +kernel)
set_option maxRecDepth 20000 in
theorem gX7_seeds_X7_nextSeed : GoodIn wsX7_seeds (va_wsS RX7 228 yX7_nextSeed wsX7_nextSeed) := goodIn_app (goodIn_of _ (by decide +kernel)) ggX7_seeds_X7_nextSeed
set_option maxRecDepth 20000 in
theorem ggX7_seeds_X7_drawn : GoodIn wsX7_seeds wsX7_drawn := goodIn_r _ [41, 42] (by decide +kernel) (by decide +kernel)
set_option maxRecDepth 20000 in
theorem gX7_seeds_X7_drawn : GoodIn wsX7_seeds (va_wsS RX7 231 yX7_drawn wsX7_drawn) := goodIn_app (goodIn_of _ (by decide +kernel)) ggX7_seeds_X7_drawn
set_option maxRecDepth 20000 in
theorem ggX7_seeds_X3_changeSeats : GoodIn wsX7_seeds wsX3_changeSeats := goodIn_r _ [46, 31, 47, 48, 49, 13, 50, 15, 51, 52, 53, 54, 20, 32, 33, 55, 56, 57, 58, 136, 137, 138, 139, 140, 141, 142, 143, 144, 145, 146, 147, 148, 149, 150, 151] (by decide +kernel) (by decide +kernel)
set_option maxRecDepth 20000 in
theorem gX7_seeds_X3_changeSeats : GoodIn wsX7_seeds (wsV RX7 130 RX3 yX3_changeSeats wsX3_changeSeats) := goodIn_app (goodIn_of _ (by decide +kernel)) ggX7_seeds_X3_changeSeats
set_option maxRecDepth 20000 in
theorem ggX7_seeds_X6_goBy : GoodIn wsX7_seeds wsX6_goBy := goodIn_r _ [62, 63, 64, 65, 66, 67, 68, 61, 69, 70, 71, 72, 73, 74, 75, 76, 56, 57, 13, 58, 15, 77, 78, 79, 80, 81, 82, 83, 84, 29, 30, 16, 55, 85, 86, 87, 88, 89, 90, 91, 92, 93, 94, 95, 96, 97, 98, 99, 100, 101, 102, 103, 104, 105, 106, 107, 108, 109, 110, 111, 136, 137, 138, 139, 140, 141, 142, 143, 144, 145, 146, 147, 148, 149, 150, 151] (by decide +kernel) (by decide +kernel)
set_option maxRecDepth 20000 in
theorem gX7_seeds_X6_goBy : GoodIn wsX7_seeds (va_wsS RX7 145 yX6_goBy wsX6_goBy) := goodIn_app (goodIn_of _ (by decide +kernel)) ggX7_seeds_X6_goBy
set_option maxRecDepth 20000 in
theorem ggX7_seeds_X0_passedBits : GoodIn wsX7_seeds wsX0_passedBits := goodIn_r _ [114, 96, 115, 116, 86, 87, 88, 89, 90, 91, 92, 56, 57, 13, 58, 15, 93, 94, 95, 97, 98, 99, 100, 101, 102, 103, 104, 105, 106, 107, 108, 109, 110, 111, 136, 137, 138, 139, 140, 141, 142, 143, 144, 145, 146, 147, 148, 149, 150, 151] (by decide +kernel) (by decide +kernel)
set_option maxRecDepth 20000 in
theorem gX7_seeds_X0_passedBits : GoodIn wsX7_seeds (va_wsS RX7 159 yX0_passedBits wsX0_passedBits) := goodIn_app (goodIn_of _ (by decide +kernel)) ggX7_seeds_X0_passedBits
set_option maxRecDepth 20000 in
theorem ggX7_seeds_J6_bitCount_0f7a4 : GoodIn wsX7_seeds wsJ6_bitCount_0f7a4 := goodIn_r _ [120, 121, 122, 123] (by decide +kernel) (by decide +kernel)
set_option maxRecDepth 20000 in
theorem gX7_seeds_J6_bitCount_0f7a4 : GoodIn wsX7_seeds (va_wsS RX7 235 yJ6_bitCount_0f7a4 wsJ6_bitCount_0f7a4) := goodIn_app (goodIn_of _ (by decide +kernel)) ggX7_seeds_J6_bitCount_0f7a4
set_option maxRecDepth 20000 in
theorem ggX7_image_X3_copyFrom : GoodIn wsX7_image wsX3_copyFrom := goodIn_r _ [13, 14, 15, 16, 17, 18, 19, 20, 21, 22, 23, 24, 25, 26, 27, 28, 29, 30, 31, 32, 57, 58, 59, 60, 61, 62, 63, 64, 65, 66, 67, 68, 69, 70, 71, 72] (by decide +kernel) (by decide +kernel)
set_option maxRecDepth 20000 in
theorem gX7_image_X3_copyFrom : GoodIn wsX7_image (wsV RX7 84 RX3 yX3_copyFrom wsX3_copyFrom) := goodIn_app (goodIn_of _ (by decide +kernel)) ggX7_image_X3_copyFrom
set_option maxRecDepth 20000 in
theorem ggX7_image_X1_copyFrom : GoodIn wsX7_image wsX1_copyFrom := goodIn_r _ [37, 38, 39, 40, 41, 42, 43, 44, 22, 23, 24, 73, 74] (by decide +kernel) (by decide +kernel)
set_option maxRecDepth 20000 in
theorem gX7_image_X1_copyFrom : GoodIn wsX7_image (wsV RX7 240 RX1 yX1_copyFrom wsX1_copyFrom) := goodIn_app (goodIn_of _ (by decide +kernel)) ggX7_image_X1_copyFrom
set_option maxRecDepth 20000 in
theorem ggX7_on_X7_refuse : GoodIn wsX7_on wsX7_refuse := goodIn_r _ [13, 14, 51, 52, 53, 54, 55, 56, 57, 58, 59, 60, 61, 62] (by decide +kernel) (by decide +kernel)
set_option maxRecDepth 20000 in
theorem gX7_on_X7_refuse : GoodIn wsX7_on (wsV RX7 69 RX7 yX7_refuse wsX7_refuse) := goodIn_app (goodIn_of _ (by decide +kernel)) ggX7_on_X7_refuse
set_option maxRecDepth 20000 in
theorem ggX7_on_X3_copyFrom : GoodIn wsX7_on wsX3_copyFrom := goodIn_r _ [19, 20, 21, 22, 23, 24, 25, 26, 27, 28, 29, 30, 31, 32, 33, 34, 35, 36, 37, 38, 63, 64, 65, 66, 67, 68, 69, 70, 71, 72, 73, 74, 75, 76, 77, 78] (by decide +kernel) (by decide +kernel)
set_option maxRecDepth 20000 in
theorem gX7_on_X3_copyFrom : GoodIn wsX7_on (wsV RX7 84 RX3 yX3_copyFrom wsX3_copyFrom) := goodIn_app (goodIn_of _ (by decide +kernel)) ggX7_on_X3_copyFrom
set_option maxRecDepth 20000 in
theorem ggX7_on_X1_copyFrom : GoodIn wsX7_on wsX1_copyFrom := goodIn_r _ [43, 44, 45, 46, 47, 48, 49, 50, 28, 29, 30, 79, 80] (by decide +kernel) (by decide +kernel)
set_option maxRecDepth 20000 in
theorem gX7_on_X1_copyFrom : GoodIn wsX7_on (wsV RX7 240 RX1 yX1_copyFrom wsX1_copyFrom) := goodIn_app (goodIn_of _ (by decide +kernel)) ggX7_on_X1_copyFrom
set_option maxRecDepth 20000 in
theorem ggX7_mendsWith_X0_passedBits : GoodIn wsX7_mendsWith wsX0_passedBits := goodIn_r _ [5, 6, 7, 8, 9, 4, 10, 11, 12, 13, 14, 15, 16, 17, 18, 19, 20, 21, 22, 23, 24, 25, 26, 27, 28, 29, 30, 31, 32, 33, 34, 35, 36, 37, 58, 59, 60, 61, 62, 63, 64, 65, 66, 67, 68, 69, 70, 71, 72, 73] (by decide +kernel) (by decide +kernel)
set_option maxRecDepth 20000 in
theorem gX7_mendsWith_X0_passedBits : GoodIn wsX7_mendsWith (va_wsS RX7 159 yX0_passedBits wsX0_passedBits) := goodIn_app (goodIn_of _ (by decide +kernel)) ggX7_mendsWith_X0_passedBits
set_option maxRecDepth 20000 in
theorem ggX7_mendsWith_X3_changeSeats : GoodIn wsX7_mendsWith wsX3_changeSeats := goodIn_r _ [41, 42, 43, 44, 45, 17, 46, 19, 47, 48, 49, 50, 51, 52, 53, 54, 15, 16, 18, 58, 59, 60, 61, 62, 63, 64, 65, 66, 67, 68, 69, 70, 71, 72, 73] (by decide +kernel) (by decide +kernel)
set_option maxRecDepth 20000 in
theorem gX7_mendsWith_X3_changeSeats : GoodIn wsX7_mendsWith (wsV RX7 130 RX3 yX3_changeSeats wsX3_changeSeats) := goodIn_app (goodIn_of _ (by decide +kernel)) ggX7_mendsWith_X3_changeSeats
set_option maxRecDepth 20000 in
theorem ggX7_mendsWith_X7_mendsWith : GoodIn wsX7_mendsWith wsX7_mendsWith := goodIn_r _ [0, 1, 2, 3, 4, 5, 6, 7, 8, 9, 10, 11, 12, 13, 14, 15, 16, 17, 18, 19, 20, 21, 22, 23, 24, 25, 26, 27, 28, 29, 30, 31, 32, 33, 34, 35, 36, 37, 38, 39, 40, 41, 42, 43, 44, 45, 46, 47, 48, 49, 50, 51, 52, 53, 54, 55, 56, 57, 58, 59, 60, 61, 62, 63, 64, 65, 66, 67, 68, 69, 70, 71, 72, 73] (by decide +kernel) (by decide +kernel)
set_option maxRecDepth 20000 in
theorem gX7_mendsWith_X7_mendsWith : GoodIn wsX7_mendsWith (va_wsS RX7 209 yX7_mendsWith wsX7_mendsWith) := goodIn_app (goodIn_of _ (by decide +kernel)) ggX7_mendsWith_X7_mendsWith
set_option maxRecDepth 20000 in
theorem ggX7_firstUnlikeTold_X0_markOf : GoodIn wsX7_firstUnlikeTold wsX0_markOf := goodIn_r _ [13, 14, 15, 16, 17, 18, 19, 20, 21, 22, 23, 24, 12, 25, 26, 27, 28, 29, 30, 31, 32, 33, 34, 35, 36, 37, 38, 6, 7, 8, 53, 54, 55, 56, 57, 58, 59, 60, 61, 62, 63, 64, 65, 66, 67, 68] (by decide +kernel) (by decide +kernel)
set_option maxRecDepth 20000 in
theorem gX7_firstUnlikeTold_X0_markOf : GoodIn wsX7_firstUnlikeTold (va_wsS RX7 156 yX0_markOf wsX0_markOf) := goodIn_app (goodIn_of _ (by decide +kernel)) ggX7_firstUnlikeTold_X0_markOf
