set_option maxRecDepth 20000 in
theorem ggX3_addPupil_X3_setLearn : GoodIn wsX3_addPupil wsX3_setLearn := goodIn_r _ [12, 13, 14, 6, 15, 16, 17, 11, 18, 1, 26, 27, 28, 29, 30, 31, 32, 33, 34, 35, 36, 37, 38, 39, 40, 41] (by decide +kernel) (by decide +kernel)
set_option maxRecDepth 20000 in
theorem gX3_addPupil_X3_setLearn : GoodIn wsX3_addPupil (wsV RX3 68 RX3 yX3_setLearn wsX3_setLearn) := goodIn_app (goodIn_of _ (by decide +kernel)) ggX3_addPupil_X3_setLearn
set_option maxRecDepth 20000 in
theorem ggX3_addPupil_X3_findNeighbours : GoodIn wsX3_addPupil wsX3_findNeighbours := goodIn_r _ [22, 1, 7, 23, 24, 25, 15, 16, 17, 11, 18, 26, 27, 28, 29, 30, 31, 32, 33, 34, 35, 36, 37, 38, 39, 40, 41] (by decide +kernel) (by decide +kernel)
set_option maxRecDepth 20000 in
theorem gX3_addPupil_X3_findNeighbours : GoodIn wsX3_addPupil (wsV RX3 72 RX3 yX3_findNeighbours wsX3_findNeighbours) := goodIn_app (goodIn_of _ (by decide +kernel)) ggX3_addPupil_X3_findNeighbours
set_option maxRecDepth 20000 in
theorem ggX3_setHours_X3_setLearn : GoodIn wsX3_setHours wsX3_setLearn := goodIn_r _ [7, 8, 9, 1, 10, 11, 12, 6, 13, 2, 14, 15, 16, 17, 18, 19, 20, 21, 22, 23, 24, 25, 26, 27, 28, 29] (by decide +kernel) (by decide +kernel)
set_option maxRecDepth 20000 in
theorem gX3_setHours_X3_setLearn : GoodIn wsX3_setHours (wsV RX3 68 RX3 yX3_setLearn wsX3_setLearn) := goodIn_app (goodIn_of _ (by decide +kernel)) ggX3_setHours_X3_setLearn
set_option maxRecDepth 20000 in
theorem ggX3_setRing_X3_findNeighbours : GoodIn wsX3_setRing wsX3_findNeighbours := goodIn_r _ [6, 7, 8, 1, 9, 10, 11, 12, 13, 5, 14, 15, 16, 17, 18, 19, 20, 21, 22, 23, 24, 25, 26, 27, 28, 29, 30] (by decide +kernel) (by decide +kernel)
set_option maxRecDepth 20000 in
theorem gX3_setRing_X3_findNeighbours : GoodIn wsX3_setRing (wsV RX3 72 RX3 yX3_findNeighbours wsX3_findNeighbours) := goodIn_app (goodIn_of _ (by decide +kernel)) ggX3_setRing_X3_findNeighbours
set_option maxRecDepth 20000 in
theorem ggX3_setLearn_X3_has : GoodIn wsX3_setLearn wsX3_has := goodIn_r _ [8, 9, 10, 11, 12, 13, 14, 15, 16, 17, 18, 19, 20, 21, 22, 23, 24, 25] (by decide +kernel) (by decide +kernel)
set_option maxRecDepth 20000 in
theorem gX3_setLearn_X3_has : GoodIn wsX3_setLearn (wsV RX3 75 RX3 yX3_has wsX3_has) := goodIn_app (goodIn_of _ (by decide +kernel)) ggX3_setLearn_X3_has
set_option maxRecDepth 20000 in
theorem ggX3_changeSeats_X3_seatOf : GoodIn wsX3_changeSeats wsX3_seatOf := goodIn_r _ [6, 7, 1, 19, 20, 21, 22, 23, 24, 25, 26, 27, 28, 29, 30, 31, 32, 33, 34] (by decide +kernel) (by decide +kernel)
set_option maxRecDepth 20000 in
theorem gX3_changeSeats_X3_seatOf : GoodIn wsX3_changeSeats (wsV RX3 79 RX3 yX3_seatOf wsX3_seatOf) := goodIn_app (goodIn_of _ (by decide +kernel)) ggX3_changeSeats_X3_seatOf
set_option maxRecDepth 20000 in
theorem ggX3_changeSeats_X3_findNeighbours : GoodIn wsX3_changeSeats wsX3_findNeighbours := goodIn_r _ [11, 7, 1, 12, 13, 14, 15, 16, 17, 5, 18, 19, 20, 21, 22, 23, 24, 25, 26, 27, 28, 29, 30, 31, 32, 33, 34] (by decide +kernel) (by decide +kernel)
set_option maxRecDepth 20000 in
theorem gX3_changeSeats_X3_findNeighbours : GoodIn wsX3_changeSeats (wsV RX3 72 RX3 yX3_findNeighbours wsX3_findNeighbours) := goodIn_app (goodIn_of _ (by decide +kernel)) ggX3_changeSeats_X3_findNeighbours
set_option maxRecDepth 20000 in
theorem ggX3_sitByNumbers_X3_findNeighbours : GoodIn wsX3_sitByNumbers wsX3_findNeighbours := goodIn_r _ [7, 1, 2, 8, 9, 10, 11, 12, 13, 6, 14, 15, 16, 17, 18, 19, 20, 21, 22, 23, 24, 25, 26, 27, 28, 29, 30] (by decide +kernel) (by decide +kernel)
set_option maxRecDepth 20000 in
theorem gX3_sitByNumbers_X3_findNeighbours : GoodIn wsX3_sitByNumbers (wsV RX3 72 RX3 yX3_findNeighbours wsX3_findNeighbours) := goodIn_app (goodIn_of _ (by decide +kernel)) ggX3_sitByNumbers_X3_findNeighbours
set_option maxRecDepth 20000 in
theorem ggX3_findNeighbours_X3_has : GoodIn wsX3_findNeighbours wsX3_has := goodIn_r _ [10, 1, 11, 12, 13, 14, 15, 16, 17, 18, 19, 20, 21, 22, 23, 24, 25, 26] (by decide +kernel) (by decide +kernel)
set_option maxRecDepth 20000 in
theorem gX3_findNeighbours_X3_has : GoodIn wsX3_findNeighbours (wsV RX3 75 RX3 yX3_has wsX3_has) := goodIn_app (goodIn_of _ (by decide +kernel)) ggX3_findNeighbours_X3_has
set_option maxRecDepth 20000 in
theorem ggX4_init_X3_init : GoodIn wsX4_init wsX3_init := goodIn_r _ [15, 16, 2, 3, 17, 18, 19, 20, 21, 22, 8, 23, 24, 25, 26, 27, 28, 29, 30, 31, 32, 33, 34, 35, 36, 37, 38, 39, 40, 41, 42, 43, 44, 45, 46, 47, 48] (by decide +kernel) (by decide +kernel)
set_option maxRecDepth 20000 in
theorem gX4_init_X3_init : GoodIn wsX4_init (wsX3_init) := ggX4_init_X3_init
set_option maxRecDepth 20000 in
theorem ggX4_findBest_X4_begin : GoodIn wsX4_findBest wsX4_begin := goodIn_r _ [8, 3, 9, 10, 11, 12, 13, 14, 15, 16, 17, 18, 19, 20, 21, 22, 23, 24, 25, 26, 27, 28, 29, 30, 31, 32, 33, 34, 35, 36, 37, 38, 39, 40, 41, 42, 43, 44, 103, 104, 105, 106, 107, 108, 109, 110, 111, 112, 113, 114, 115, 116, 117, 118, 119, 120, 121, 122, 123] (by decide +kernel) (by decide +kernel)
set_option maxRecDepth 20000 in
theorem gX4_findBest_X4_begin : GoodIn wsX4_findBest (wsV RX4 32 RX4 yX4_begin wsX4_begin) := goodIn_app (goodIn_of _ (by decide +kernel)) ggX4_findBest_X4_begin
set_option maxRecDepth 20000 in
theorem ggX4_findBest_X0_passedBits : GoodIn wsX4_findBest wsX0_passedBits := goodIn_r _ [48, 49, 50, 51, 52, 47, 53, 54, 55, 56, 57, 42, 43, 12, 44, 14, 58, 59, 60, 61, 62, 63, 64, 65, 66, 67, 68, 69, 70, 71, 72, 73, 74, 75, 108, 109, 110, 111, 112, 113, 114, 115, 116, 117, 118, 119, 120, 121, 122, 123] (by decide +kernel) (by decide +kernel)
set_option maxRecDepth 20000 in
theorem gX4_findBest_X0_passedBits : GoodIn wsX4_findBest (va_wsS RX4 36 yX0_passedBits wsX0_passedBits) := goodIn_app (goodIn_of _ (by decide +kernel)) ggX4_findBest_X0_passedBits
set_option maxRecDepth 20000 in
theorem ggX4_findBest_J6_bitCount_0f7a4 : GoodIn wsX4_findBest wsJ6_bitCount_0f7a4 := goodIn_r _ [79, 80, 81, 82] (by decide +kernel) (by decide +kernel)
set_option maxRecDepth 20000 in
theorem gX4_findBest_J6_bitCount_0f7a4 : GoodIn wsX4_findBest (va_wsS RX4 42 yJ6_bitCount_0f7a4 wsJ6_bitCount_0f7a4) := goodIn_app (goodIn_of _ (by decide +kernel)) ggX4_findBest_J6_bitCount_0f7a4
set_option maxRecDepth 20000 in
theorem ggX4_findBest_X0_sumOfMarks : GoodIn wsX4_findBest wsX0_sumOfMarks := goodIn_r _ [85, 54, 49, 51, 52, 47, 53, 55, 56, 57, 42, 43, 12, 44, 14, 58, 59, 60, 61, 62, 63, 64, 65, 66, 67, 68, 69, 70, 71, 72, 73, 74, 75, 108, 109, 110, 111, 112, 113, 114, 115, 116, 117, 118, 119, 120, 121, 122, 123] (by decide +kernel) (by decide +kernel)
set_option maxRecDepth 20000 in
theorem gX4_findBest_X0_sumOfMarks : GoodIn wsX4_findBest (va_wsS RX4 48 yX0_sumOfMarks wsX0_sumOfMarks) := goodIn_app (goodIn_of _ (by decide +kernel)) ggX4_findBest_X0_sumOfMarks
set_option maxRecDepth 20000 in
theorem ggX4_findBest_X4_choose : GoodIn wsX4_findBest wsX4_choose := goodIn_r _ [89, 3, 90, 91, 92, 22, 23, 24, 103, 104, 105, 106, 107, 108, 109, 110, 111, 112, 113, 114, 115, 116, 117, 118, 119, 120, 121, 122, 123] (by decide +kernel) (by decide +kernel)
set_option maxRecDepth 20000 in
theorem gX4_findBest_X4_choose : GoodIn wsX4_findBest (wsV RX4 51 RX4 yX4_choose wsX4_choose) := goodIn_app (goodIn_of _ (by decide +kernel)) ggX4_findBest_X4_choose
set_option maxRecDepth 20000 in
theorem ggX4_findBest_X4_goOn : GoodIn wsX4_findBest wsX4_goOn := goodIn_r _ [96, 3, 90, 97, 98, 99, 100, 7, 101, 102, 38, 39, 12, 40, 14, 30, 19, 31, 32, 41, 42, 43, 44, 103, 104, 105, 106, 107, 108, 109, 110, 111, 112, 113, 114, 115, 116, 117, 118, 119, 120, 121, 122, 123] (by decide +kernel) (by decide +kernel)
set_option maxRecDepth 20000 in
theorem gX4_findBest_X4_goOn : GoodIn wsX4_findBest (wsV RX4 54 RX4 yX4_goOn wsX4_goOn) := goodIn_app (goodIn_of _ (by decide +kernel)) ggX4_findBest_X4_goOn
set_option maxRecDepth 20000 in
theorem ggX4_findLeastSum_X4_begin : GoodIn wsX4_findLeastSum wsX4_begin := goodIn_r _ [11, 2, 12, 13, 14, 15, 16, 17, 18, 19, 20, 21, 22, 23, 24, 25, 26, 27, 28, 29, 30, 31, 32, 33, 34, 35, 36, 37, 38, 39, 40, 41, 42, 43, 44, 45, 46, 47, 86, 87, 88, 89, 90, 91, 92, 93, 94, 95, 96, 97, 98, 99, 100, 101, 102, 103, 104, 105, 106] (by decide +kernel) (by decide +kernel)
set_option maxRecDepth 20000 in
theorem gX4_findLeastSum_X4_begin : GoodIn wsX4_findLeastSum (wsV RX4 32 RX4 yX4_begin wsX4_begin) := goodIn_app (goodIn_of _ (by decide +kernel)) ggX4_findLeastSum_X4_begin
set_option maxRecDepth 20000 in
theorem ggX4_findLeastSum_X0_sumOfMarks : GoodIn wsX4_findLeastSum wsX0_sumOfMarks := goodIn_r _ [51, 52, 53, 54, 55, 50, 56, 57, 58, 59, 45, 46, 15, 47, 17, 60, 61, 62, 63, 64, 65, 66, 67, 68, 69, 70, 71, 72, 73, 74, 4, 5, 6, 91, 92, 93, 94, 95, 96, 97, 98, 99, 100, 101, 102, 103, 104, 105, 106] (by decide +kernel) (by decide +kernel)
set_option maxRecDepth 20000 in
theorem gX4_findLeastSum_X0_sumOfMarks : GoodIn wsX4_findLeastSum (va_wsS RX4 48 yX0_sumOfMarks wsX0_sumOfMarks) := goodIn_app (goodIn_of _ (by decide +kernel)) ggX4_findLeastSum_X0_sumOfMarks
set_option maxRecDepth 20000 in
theorem ggX4_findLeastSum_X4_goOn : GoodIn wsX4_findLeastSum wsX4_goOn := goodIn_r _ [78, 2, 79, 80, 81, 82, 83, 10, 84, 85, 41, 42, 15, 43, 17, 33, 22, 34, 35, 44, 45, 46, 47, 86, 87, 88, 89, 90, 91, 92, 93, 94, 95, 96, 97, 98, 99, 100, 101, 102, 103, 104, 105, 106] (by decide +kernel) (by decide +kernel)
set_option maxRecDepth 20000 in
theorem gX4_findLeastSum_X4_goOn : GoodIn wsX4_findLeastSum (wsV RX4 54 RX4 yX4_goOn wsX4_goOn) := goodIn_app (goodIn_of _ (by decide +kernel)) ggX4_findLeastSum_X4_goOn
set_option maxRecDepth 20000 in
theorem ggX4_findFitting_X4_begin : GoodIn wsX4_findFitting wsX4_begin := goodIn_r _ [6, 7, 8, 9, 10, 11, 12, 13, 14, 15, 16, 17, 18, 19, 20, 21, 22, 23, 24, 25, 26, 27, 28, 29, 30, 31, 32, 33, 34, 35, 36, 37, 38, 39, 40, 41, 42, 43, 99, 100, 101, 102, 103, 104, 105, 106, 107, 108, 109, 110, 111, 112, 113, 114, 115, 116, 117, 118, 119] (by decide +kernel) (by decide +kernel)
set_option maxRecDepth 20000 in
theorem gX4_findFitting_X4_begin : GoodIn wsX4_findFitting (wsV RX4 32 RX4 yX4_begin wsX4_begin) := goodIn_app (goodIn_of _ (by decide +kernel)) ggX4_findFitting_X4_begin
set_option maxRecDepth 20000 in
theorem ggX4_findFitting_X4_unlikeBits : GoodIn wsX4_findFitting wsX4_unlikeBits := goodIn_r _ [47, 7, 48, 49, 50, 51, 52, 53, 54, 55, 56, 41, 42, 11, 43, 13, 57, 58, 59, 60, 61, 62, 63, 64, 65, 66, 67, 68, 69, 70, 71, 72, 73, 74, 75, 76, 77, 78, 79, 80, 81, 82, 99, 100, 101, 102, 103, 104, 105, 106, 107, 108, 109, 110, 111, 112, 113, 114, 115, 116, 117, 118, 119, 120, 121] (by decide +kernel) (by decide +kernel)
set_option maxRecDepth 20000 in
theorem gX4_findFitting_X4_unlikeBits : GoodIn wsX4_findFitting (wsV RX4 65 RX4 yX4_unlikeBits wsX4_unlikeBits) := goodIn_app (goodIn_of _ (by decide +kernel)) ggX4_findFitting_X4_unlikeBits
set_option maxRecDepth 20000 in
theorem ggX4_findFitting_X4_choose : GoodIn wsX4_findFitting wsX4_choose := goodIn_r _ [86, 7, 87, 88, 89, 21, 22, 23, 99, 100, 101, 102, 103, 104, 105, 106, 107, 108, 109, 110, 111, 112, 113, 114, 115, 116, 117, 118, 119] (by decide +kernel) (by decide +kernel)
set_option maxRecDepth 20000 in
theorem gX4_findFitting_X4_choose : GoodIn wsX4_findFitting (wsV RX4 51 RX4 yX4_choose wsX4_choose) := goodIn_app (goodIn_of _ (by decide +kernel)) ggX4_findFitting_X4_choose
set_option maxRecDepth 20000 in
theorem ggX4_findFitting_X4_goOn : GoodIn wsX4_findFitting wsX4_goOn := goodIn_r _ [93, 7, 87, 94, 48, 95, 96, 5, 97, 98, 37, 38, 11, 39, 13, 29, 18, 30, 31, 40, 41, 42, 43, 99, 100, 101, 102, 103, 104, 105, 106, 107, 108, 109, 110, 111, 112, 113, 114, 115, 116, 117, 118, 119] (by decide +kernel) (by decide +kernel)
set_option maxRecDepth 20000 in
theorem gX4_findFitting_X4_goOn : GoodIn wsX4_findFitting (wsV RX4 54 RX4 yX4_goOn wsX4_goOn) := goodIn_app (goodIn_of _ (by decide +kernel)) ggX4_findFitting_X4_goOn
set_option maxRecDepth 20000 in
theorem ggX4_forgedBits_X4_begin : GoodIn wsX4_forgedBits wsX4_begin := goodIn_r _ [7, 1, 8, 9, 10, 11, 12, 13, 14, 15, 16, 17, 18, 19, 20, 21, 22, 23, 24, 25, 26, 27, 28, 29, 30, 31, 32, 33, 34, 35, 36, 37, 38, 39, 40, 41, 42, 43, 99, 100, 101, 102, 103, 104, 105, 106, 107, 108, 109, 110, 111, 112, 113, 114, 115, 116, 117, 118, 119] (by decide +kernel) (by decide +kernel)
set_option maxRecDepth 20000 in
theorem gX4_forgedBits_X4_begin : GoodIn wsX4_forgedBits (wsV RX4 32 RX4 yX4_begin wsX4_begin) := goodIn_app (goodIn_of _ (by decide +kernel)) ggX4_forgedBits_X4_begin
set_option maxRecDepth 20000 in
theorem ggX4_forgedBits_X4_unlikeBits : GoodIn wsX4_forgedBits wsX4_unlikeBits := goodIn_r _ [47, 1, 2, 48, 49, 50, 51, 52, 53, 54, 55, 41, 42, 11, 43, 13, 56, 57, 58, 59, 60, 61, 62, 63, 64, 65, 66, 67, 68, 69, 70, 71, 72, 73, 74, 75, 76, 77, 78, 79, 80, 81, 99, 100, 101, 102, 103, 104, 105, 106, 107, 108, 109, 110, 111, 112, 113, 114, 115, 116, 117, 118, 119, 120, 121] (by decide +kernel) (by decide +kernel)
set_option maxRecDepth 20000 in
theorem gX4_forgedBits_X4_unlikeBits : GoodIn wsX4_forgedBits (wsV RX4 65 RX4 yX4_unlikeBits wsX4_unlikeBits) := goodIn_app (goodIn_of _ (by decide +kernel)) ggX4_forgedBits_X4_unlikeBits
set_option maxRecDepth 20000 in
theorem ggX4_forgedBits_J6_bitCount_0f7a4 : GoodIn wsX4_forgedBits wsJ6_bitCount_0f7a4 := goodIn_r _ [85, 86, 87, 88] (by decide +kernel) (by decide +kernel)
set_option maxRecDepth 20000 in
theorem gX4_forgedBits_J6_bitCount_0f7a4 : GoodIn wsX4_forgedBits (va_wsS RX4 42 yJ6_bitCount_0f7a4 wsJ6_bitCount_0f7a4) := goodIn_app (goodIn_of _ (by decide +kernel)) ggX4_forgedBits_J6_bitCount_0f7a4
set_option maxRecDepth 20000 in
theorem ggX4_forgedBits_X4_goOn : GoodIn wsX4_forgedBits wsX4_goOn := goodIn_r _ [92, 1, 93, 94, 2, 95, 96, 6, 97, 98, 37, 38, 11, 39, 13, 29, 18, 30, 31, 40, 41, 42, 43, 99, 100, 101, 102, 103, 104, 105, 106, 107, 108, 109, 110, 111, 112, 113, 114, 115, 116, 117, 118, 119] (by decide +kernel) (by decide +kernel)
set_option maxRecDepth 20000 in
theorem gX4_forgedBits_X4_goOn : GoodIn wsX4_forgedBits (wsV RX4 54 RX4 yX4_goOn wsX4_goOn) := goodIn_app (goodIn_of _ (by decide +kernel)) ggX4_forgedBits_X4_goOn
set_option maxRecDepth 20000 in
theorem ggX4_begin_X3_copyFrom : GoodIn wsX4_begin wsX3_copyFrom := goodIn_r _ [6, 7, 8, 9, 10, 11, 12, 13, 14, 15, 16, 17, 18, 19, 20, 21, 22, 23, 24, 25, 43, 44, 45, 46, 47, 48, 49, 50, 51, 52, 53, 54, 55, 56, 57, 58] (by decide +kernel) (by decide +kernel)
set_option maxRecDepth 20000 in
theorem gX4_begin_X3_copyFrom : GoodIn wsX4_begin (wsV RX4 72 RX3 yX3_copyFrom wsX3_copyFrom) := goodIn_app (goodIn_of _ (by decide +kernel)) ggX4_begin_X3_copyFrom
set_option maxRecDepth 20000 in
theorem ggX4_begin_X3_sitByNumbers : GoodIn wsX4_begin wsX3_sitByNumbers := goodIn_r _ [29, 7, 23, 30, 31, 32, 5, 33, 12, 24, 25, 34, 35, 36, 37, 43, 44, 45, 46, 47, 48, 49, 50, 51, 52, 53, 54, 55, 56, 57, 58] (by decide +kernel) (by decide +kernel)
set_option maxRecDepth 20000 in
theorem gX4_begin_X3_sitByNumbers : GoodIn wsX4_begin (wsV RX4 75 RX3 yX3_sitByNumbers wsX3_sitByNumbers) := goodIn_app (goodIn_of _ (by decide +kernel)) ggX4_begin_X3_sitByNumbers
set_option maxRecDepth 20000 in
theorem ggX4_unlikeBits_X0_markOf : GoodIn wsX4_unlikeBits wsX0_markOf := goodIn_r _ [6, 7, 8, 9, 10, 11, 12, 13, 14, 15, 16, 17, 5, 18, 19, 20, 21, 22, 23, 24, 25, 26, 27, 28, 29, 30, 31, 32, 33, 34, 47, 48, 49, 50, 51, 52, 53, 54, 55, 56, 57, 58, 59, 60, 61, 62] (by decide +kernel) (by decide +kernel)
set_option maxRecDepth 20000 in
theorem gX4_unlikeBits_X0_markOf : GoodIn wsX4_unlikeBits (va_wsS RX4 87 yX0_markOf wsX0_markOf) := goodIn_app (goodIn_of _ (by decide +kernel)) ggX4_unlikeBits_X0_markOf
