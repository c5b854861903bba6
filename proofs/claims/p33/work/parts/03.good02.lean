set_option maxRecDepth 20000 in
theorem ggX4_unlikeBits_X1_at : GoodIn wsX4_unlikeBits wsX1_at := goodIn_r _ [39, 40, 41, 63, 64] (by decide +kernel) (by decide +kernel)
set_option maxRecDepth 20000 in
theorem gX4_unlikeBits_X1_at : GoodIn wsX4_unlikeBits (wsV RX4 91 RX1 yX1_at wsX1_at) := goodIn_app (goodIn_of _ (by decide +kernel)) ggX4_unlikeBits_X1_at
set_option maxRecDepth 20000 in
theorem ggX4_goOn_X4_exchange : GoodIn wsX4_goOn wsX4_exchange := goodIn_r _ [8] (by decide +kernel) (by decide +kernel)
set_option maxRecDepth 20000 in
theorem gX4_goOn_X4_exchange : GoodIn wsX4_goOn (va_wsS RX4 100 yX4_exchange wsX4_exchange) := goodIn_app (goodIn_of _ (by decide +kernel)) ggX4_goOn_X4_exchange
set_option maxRecDepth 20000 in
theorem ggX4_goOn_X3_findNeighbours : GoodIn wsX4_goOn wsX3_findNeighbours := goodIn_r _ [13, 14, 15, 16, 17, 18, 19, 20, 21, 12, 22, 28, 29, 30, 31, 32, 33, 34, 35, 36, 37, 38, 39, 40, 41, 42, 43] (by decide +kernel) (by decide +kernel)
set_option maxRecDepth 20000 in
theorem gX4_goOn_X3_findNeighbours : GoodIn wsX4_goOn (wsV RX4 104 RX3 yX3_findNeighbours wsX3_findNeighbours) := goodIn_app (goodIn_of _ (by decide +kernel)) ggX4_goOn_X3_findNeighbours
set_option maxRecDepth 20000 in
theorem ggX5_init_X3_init : GoodIn wsX5_init wsX3_init := goodIn_r _ [15, 16, 2, 3, 17, 18, 19, 20, 21, 22, 8, 23, 24, 25, 26, 27, 28, 29, 30, 31, 32, 33, 34, 35, 36, 37, 38, 39, 40, 41, 42, 43, 44, 45, 46, 47, 48] (by decide +kernel) (by decide +kernel)
set_option maxRecDepth 20000 in
theorem gX5_init_X3_init : GoodIn wsX5_init (wsX3_init) := ggX5_init_X3_init
set_option maxRecDepth 20000 in
theorem ggX5_greatestSum_X5_begin : GoodIn wsX5_greatestSum wsX5_begin := goodIn_r _ [11, 1, 12, 13, 14, 15, 16, 17, 18, 19, 20, 21, 22, 23, 24, 25, 26, 27, 28, 29, 30, 31, 32, 33, 34, 35, 36, 37, 38, 39, 40, 41, 42, 43, 44, 80, 81, 82, 83, 84, 85, 86, 87, 88, 89, 90, 91, 92, 93, 94, 95, 96, 97, 98, 99, 100] (by decide +kernel) (by decide +kernel)
set_option maxRecDepth 20000 in
theorem gX5_greatestSum_X5_begin : GoodIn wsX5_greatestSum (wsV RX5 32 RX5 yX5_begin wsX5_begin) := goodIn_app (goodIn_of _ (by decide +kernel)) ggX5_greatestSum_X5_begin
set_option maxRecDepth 20000 in
theorem ggX5_greatestSum_X0_sumOfMarks : GoodIn wsX5_greatestSum wsX0_sumOfMarks := goodIn_r _ [48, 49, 50, 51, 52, 47, 53, 54, 55, 56, 42, 43, 16, 44, 18, 57, 58, 59, 60, 61, 62, 63, 64, 65, 66, 67, 68, 69, 70, 71, 72, 5, 73, 85, 86, 87, 88, 89, 90, 91, 92, 93, 94, 95, 96, 97, 98, 99, 100] (by decide +kernel) (by decide +kernel)
set_option maxRecDepth 20000 in
theorem gX5_greatestSum_X0_sumOfMarks : GoodIn wsX5_greatestSum (va_wsS RX5 39 yX0_sumOfMarks wsX0_sumOfMarks) := goodIn_app (goodIn_of _ (by decide +kernel)) ggX5_greatestSum_X0_sumOfMarks
set_option maxRecDepth 20000 in
theorem ggX5_greatestSum_X5_goOn : GoodIn wsX5_greatestSum wsX5_goOn := goodIn_r _ [77, 1, 12, 78, 79, 37, 38, 39, 16, 40, 32, 33, 19, 41, 42, 43, 44, 18, 80, 81, 82, 83, 84, 85, 86, 87, 88, 89, 90, 91, 92, 93, 94, 95, 96, 97, 98, 99, 100] (by decide +kernel) (by decide +kernel)
set_option maxRecDepth 20000 in
theorem gX5_greatestSum_X5_goOn : GoodIn wsX5_greatestSum (wsV RX5 51 RX5 yX5_goOn wsX5_goOn) := goodIn_app (goodIn_of _ (by decide +kernel)) ggX5_greatestSum_X5_goOn
set_option maxRecDepth 20000 in
theorem ggX5_findRests_X5_begin : GoodIn wsX5_findRests wsX5_begin := goodIn_r _ [8, 9, 10, 11, 12, 13, 14, 15, 16, 17, 18, 19, 20, 21, 22, 23, 24, 25, 26, 27, 28, 29, 30, 31, 32, 33, 34, 35, 36, 37, 38, 39, 40, 41, 42, 97, 98, 99, 100, 101, 102, 103, 104, 105, 106, 107, 108, 109, 110, 111, 112, 113, 114, 115, 116, 117] (by decide +kernel) (by decide +kernel)
set_option maxRecDepth 20000 in
theorem gX5_findRests_X5_begin : GoodIn wsX5_findRests (wsV RX5 32 RX5 yX5_begin wsX5_begin) := goodIn_app (goodIn_of _ (by decide +kernel)) ggX5_findRests_X5_begin
set_option maxRecDepth 20000 in
theorem ggX5_findRests_X5_isAtRest : GoodIn wsX5_findRests wsX5_isAtRest := goodIn_r _ [46, 9, 10, 47, 48, 49, 7, 50, 51, 52, 53, 54, 55, 56, 57, 58, 59, 60, 40, 41, 14, 42, 16, 61, 62, 63, 64, 65, 66, 67, 68, 69, 70, 71, 72, 73, 74, 75, 76, 77, 78, 79, 35, 36, 37, 38, 30, 31, 17, 39, 97, 98, 99, 100, 101, 102, 103, 104, 105, 106, 107, 108, 109, 110, 111, 112, 113, 114, 115, 116, 117] (by decide +kernel) (by decide +kernel)
set_option maxRecDepth 20000 in
theorem gX5_findRests_X5_isAtRest : GoodIn wsX5_findRests (wsV RX5 55 RX5 yX5_isAtRest wsX5_isAtRest) := goodIn_app (goodIn_of _ (by decide +kernel)) ggX5_findRests_X5_isAtRest
set_option maxRecDepth 20000 in
theorem ggX5_findRests_X5_takeRest : GoodIn wsX5_findRests wsX5_takeRest := goodIn_r _ [83, 9, 1, 2, 51, 84, 85, 24, 25, 26, 3, 86, 87, 78, 88, 89, 90, 55, 91, 57, 64, 92, 54, 56, 58, 59, 60, 40, 41, 14, 42, 16, 61, 62, 63, 65, 66, 67, 68, 69, 70, 71, 72, 73, 74, 75, 76, 77, 79, 97, 98, 99, 100, 101, 102, 103, 104, 105, 106, 107, 108, 109, 110, 111, 112, 113, 114, 115, 116, 117] (by decide +kernel) (by decide +kernel)
set_option maxRecDepth 20000 in
theorem gX5_findRests_X5_takeRest : GoodIn wsX5_findRests (wsV RX5 58 RX5 yX5_takeRest wsX5_takeRest) := goodIn_app (goodIn_of _ (by decide +kernel)) ggX5_findRests_X5_takeRest
set_option maxRecDepth 20000 in
theorem ggX5_findRests_X5_goOn : GoodIn wsX5_findRests wsX5_goOn := goodIn_r _ [96, 9, 10, 51, 52, 35, 36, 37, 14, 38, 30, 31, 17, 39, 40, 41, 42, 16, 97, 98, 99, 100, 101, 102, 103, 104, 105, 106, 107, 108, 109, 110, 111, 112, 113, 114, 115, 116, 117] (by decide +kernel) (by decide +kernel)
set_option maxRecDepth 20000 in
theorem gX5_findRests_X5_goOn : GoodIn wsX5_findRests (wsV RX5 51 RX5 yX5_goOn wsX5_goOn) := goodIn_app (goodIn_of _ (by decide +kernel)) ggX5_findRests_X5_goOn
set_option maxRecDepth 20000 in
theorem ggX5_takeRest_X0_sumOfMarks : GoodIn wsX5_takeRest wsX0_sumOfMarks := goodIn_r _ [18, 19, 20, 21, 22, 17, 23, 24, 25, 26, 27, 28, 29, 30, 31, 32, 33, 34, 35, 36, 37, 38, 39, 40, 41, 42, 43, 44, 45, 46, 47, 13, 48, 54, 55, 56, 57, 58, 59, 60, 61, 62, 63, 64, 65, 66, 67, 68, 69] (by decide +kernel) (by decide +kernel)
set_option maxRecDepth 20000 in
theorem gX5_takeRest_X0_sumOfMarks : GoodIn wsX5_takeRest (va_wsS RX5 39 yX0_sumOfMarks wsX0_sumOfMarks) := goodIn_app (goodIn_of _ (by decide +kernel)) ggX5_takeRest_X0_sumOfMarks
set_option maxRecDepth 20000 in
theorem ggX5_begin_X3_copyFrom : GoodIn wsX5_begin wsX3_copyFrom := goodIn_r _ [7, 8, 9, 10, 11, 12, 13, 14, 15, 16, 17, 18, 19, 20, 21, 22, 23, 24, 25, 26, 40, 41, 42, 43, 44, 45, 46, 47, 48, 49, 50, 51, 52, 53, 54, 55] (by decide +kernel) (by decide +kernel)
set_option maxRecDepth 20000 in
theorem gX5_begin_X3_copyFrom : GoodIn wsX5_begin (wsV RX5 70 RX3 yX3_copyFrom wsX3_copyFrom) := goodIn_app (goodIn_of _ (by decide +kernel)) ggX5_begin_X3_copyFrom
set_option maxRecDepth 20000 in
theorem ggX5_begin_X3_setLearn : GoodIn wsX5_begin wsX3_setLearn := goodIn_r _ [30, 22, 23, 9, 31, 32, 33, 6, 34, 8, 40, 41, 42, 43, 44, 45, 46, 47, 48, 49, 50, 51, 52, 53, 54, 55] (by decide +kernel) (by decide +kernel)
set_option maxRecDepth 20000 in
theorem gX5_begin_X3_setLearn : GoodIn wsX5_begin (wsV RX5 76 RX3 yX3_setLearn wsX3_setLearn) := goodIn_app (goodIn_of _ (by decide +kernel)) ggX5_begin_X3_setLearn
set_option maxRecDepth 20000 in
theorem ggX5_goOn_X3_setLearn : GoodIn wsX5_goOn wsX3_setLearn := goodIn_r _ [9, 10, 11, 12, 13, 14, 15, 8, 16, 17, 23, 24, 25, 26, 27, 28, 29, 30, 31, 32, 33, 34, 35, 36, 37, 38] (by decide +kernel) (by decide +kernel)
set_option maxRecDepth 20000 in
theorem gX5_goOn_X3_setLearn : GoodIn wsX5_goOn (wsV RX5 76 RX3 yX3_setLearn wsX3_setLearn) := goodIn_app (goodIn_of _ (by decide +kernel)) ggX5_goOn_X3_setLearn
set_option maxRecDepth 20000 in
theorem ggX5_isAtRest_X5_wouldDoOtherwise : GoodIn wsX5_isAtRest wsX5_wouldDoOtherwise := goodIn_r _ [7, 1, 8, 9, 10, 11, 12, 13, 14, 15, 16, 17, 18, 19, 20, 21, 22, 23, 24, 25, 26, 27, 28, 29, 30, 31, 32, 33, 34, 35, 36, 37, 38, 39, 40, 41, 42, 43, 44, 45, 46, 47, 48, 49, 50, 51, 52, 53, 54, 55, 56, 57, 58, 59, 60, 61, 62, 63, 64, 65, 66, 67, 68, 69, 70] (by decide +kernel) (by decide +kernel)
set_option maxRecDepth 20000 in
theorem gX5_isAtRest_X5_wouldDoOtherwise : GoodIn wsX5_isAtRest (wsV RX5 83 RX5 yX5_wouldDoOtherwise wsX5_wouldDoOtherwise) := goodIn_app (goodIn_of _ (by decide +kernel)) ggX5_isAtRest_X5_wouldDoOtherwise
set_option maxRecDepth 20000 in
theorem ggX5_wouldDoOtherwise_X0_markOf : GoodIn wsX5_wouldDoOtherwise wsX0_markOf := goodIn_r _ [7, 8, 9, 10, 11, 12, 13, 14, 15, 16, 17, 18, 6, 19, 20, 21, 22, 23, 24, 25, 26, 27, 28, 29, 30, 31, 32, 33, 34, 35, 49, 50, 51, 52, 53, 54, 55, 56, 57, 58, 59, 60, 61, 62, 63, 64] (by decide +kernel) (by decide +kernel)
set_option maxRecDepth 20000 in
theorem gX5_wouldDoOtherwise_X0_markOf : GoodIn wsX5_wouldDoOtherwise (va_wsS RX5 87 yX0_markOf wsX0_markOf) := goodIn_app (goodIn_of _ (by decide +kernel)) ggX5_wouldDoOtherwise_X0_markOf
set_option maxRecDepth 20000 in
theorem ggX5_wouldDoOtherwise_X3_setLearn : GoodIn wsX5_wouldDoOtherwise wsX3_setLearn := goodIn_r _ [39, 40, 41, 42, 43, 12, 13, 14, 15, 16, 49, 50, 51, 52, 53, 54, 55, 56, 57, 58, 59, 60, 61, 62, 63, 64] (by decide +kernel) (by decide +kernel)
set_option maxRecDepth 20000 in
theorem gX5_wouldDoOtherwise_X3_setLearn : GoodIn wsX5_wouldDoOtherwise (wsV RX5 76 RX3 yX3_setLearn wsX3_setLearn) := goodIn_app (goodIn_of _ (by decide +kernel)) ggX5_wouldDoOtherwise_X3_setLearn
set_option maxRecDepth 20000 in
theorem ggX6_goBy_X6_teachNext : GoodIn wsX6_goBy wsX6_teachNext := goodIn_r _ [8, 9, 3, 10, 11, 12, 7, 13, 14, 15, 16, 17, 18, 19, 20, 21, 22, 23, 24, 25, 26, 27, 28, 29, 30, 31, 32, 33, 34, 35, 36, 37, 38, 39, 40, 41, 42, 43, 44, 45, 46, 47, 48, 49, 50, 51, 52, 53, 54, 55, 56, 57, 58, 59, 60, 61, 62, 63, 64, 65, 66, 67, 68, 69, 70, 71, 72, 73, 74, 75] (by decide +kernel) (by decide +kernel)
set_option maxRecDepth 20000 in
theorem gX6_goBy_X6_teachNext : GoodIn wsX6_goBy (va_wsS RX6 22 yX6_teachNext wsX6_teachNext) := goodIn_app (goodIn_of _ (by decide +kernel)) ggX6_goBy_X6_teachNext
set_option maxRecDepth 20000 in
theorem ggX6_goBy_X3_setLearn : GoodIn wsX6_goBy wsX3_setLearn := goodIn_r _ [28, 29, 30, 31, 32, 16, 17, 18, 19, 20, 60, 61, 62, 63, 64, 65, 66, 67, 68, 69, 70, 71, 72, 73, 74, 75] (by decide +kernel) (by decide +kernel)
set_option maxRecDepth 20000 in
theorem gX6_goBy_X3_setLearn : GoodIn wsX6_goBy (wsV RX6 28 RX3 yX3_setLearn wsX3_setLearn) := goodIn_app (goodIn_of _ (by decide +kernel)) ggX6_goBy_X3_setLearn
set_option maxRecDepth 20000 in
theorem ggX6_teachNext_X6_wasTaught : GoodIn wsX6_teachNext wsX6_wasTaught := goodIn_r _ [7, 8, 3, 9, 10, 11, 12, 13, 14, 54, 55, 56, 57, 58, 59, 60, 61, 62, 63, 64, 65, 66, 67, 68, 69] (by decide +kernel) (by decide +kernel)
set_option maxRecDepth 20000 in
theorem gX6_teachNext_X6_wasTaught : GoodIn wsX6_teachNext (va_wsS RX6 38 yX6_wasTaught wsX6_wasTaught) := goodIn_app (goodIn_of _ (by decide +kernel)) ggX6_teachNext_X6_wasTaught
set_option maxRecDepth 20000 in
theorem ggX6_teachNext_X6_teachForBestMark : GoodIn wsX6_teachNext wsX6_teachForBestMark := goodIn_r _ [17, 18, 2, 19, 20, 21, 12, 22, 23, 24, 25, 26, 10, 11, 13, 14, 27, 28, 29, 30, 31, 32, 33, 34, 35, 36, 37, 38, 39, 40, 41, 42, 43, 44, 45, 46, 47, 48, 49, 50, 51, 52, 53, 54, 55, 56, 57, 58, 59, 60, 61, 62, 63, 64, 65, 66, 67, 68, 69] (by decide +kernel) (by decide +kernel)
set_option maxRecDepth 20000 in
theorem gX6_teachNext_X6_teachForBestMark : GoodIn wsX6_teachNext (va_wsS RX6 42 yX6_teachForBestMark wsX6_teachForBestMark) := goodIn_app (goodIn_of _ (by decide +kernel)) ggX6_teachNext_X6_teachForBestMark
set_option maxRecDepth 20000 in
theorem ggX6_wasTaught_X3_has : GoodIn wsX6_wasTaught wsX3_has := goodIn_r _ [7, 8, 9, 10, 11, 12, 13, 14, 15, 16, 17, 18, 19, 20, 21, 22, 23, 24] (by decide +kernel) (by decide +kernel)
set_option maxRecDepth 20000 in
theorem gX6_wasTaught_X3_has : GoodIn wsX6_wasTaught (wsV RX6 51 RX3 yX3_has wsX3_has) := goodIn_app (goodIn_of _ (by decide +kernel)) ggX6_wasTaught_X3_has
set_option maxRecDepth 20000 in
theorem ggX6_teachForBestMark_X3_setLearn : GoodIn wsX6_teachForBestMark wsX3_setLearn := goodIn_r _ [7, 8, 9, 10, 11, 12, 13, 6, 14, 15, 43, 44, 45, 46, 47, 48, 49, 50, 51, 52, 53, 54, 55, 56, 57, 58] (by decide +kernel) (by decide +kernel)
set_option maxRecDepth 20000 in
theorem gX6_teachForBestMark_X3_setLearn : GoodIn wsX6_teachForBestMark (wsV RX6 28 RX3 yX3_setLearn wsX3_setLearn) := goodIn_app (goodIn_of _ (by decide +kernel)) ggX6_teachForBestMark_X3_setLearn
set_option maxRecDepth 20000 in
theorem ggX6_teachForBestMark_X0_markOf : GoodIn wsX6_teachForBestMark wsX0_markOf := goodIn_r _ [19, 20, 21, 22, 23, 12, 13, 6, 14, 15, 24, 25, 18, 26, 27, 28, 29, 30, 31, 32, 33, 34, 35, 36, 37, 38, 39, 40, 41, 42, 43, 44, 45, 46, 47, 48, 49, 50, 51, 52, 53, 54, 55, 56, 57, 58] (by decide +kernel) (by decide +kernel)
set_option maxRecDepth 20000 in
theorem gX6_teachForBestMark_X0_markOf : GoodIn wsX6_teachForBestMark (va_wsS RX6 58 yX0_markOf wsX0_markOf) := goodIn_app (goodIn_of _ (by decide +kernel)) ggX6_teachForBestMark_X0_markOf
set_option maxRecDepth 20000 in
theorem ggX7_init_X3_init : GoodIn wsX7_init wsX3_init := goodIn_r _ [34, 35, 2, 3, 36, 37, 38, 39, 40, 41, 26, 42, 43, 44, 45, 46, 47, 48, 49, 50, 51, 92, 93, 94, 95, 96, 97, 98, 99, 100, 101, 102, 103, 104, 105, 106, 107] (by decide +kernel) (by decide +kernel)
set_option maxRecDepth 20000 in
theorem gX7_init_X3_init : GoodIn wsX7_init (wsX3_init) := ggX7_init_X3_init
set_option maxRecDepth 20000 in
theorem ggX7_init_X1_init : GoodIn wsX7_init wsX1_init := goodIn_r _ [54, 55, 2, 3, 56, 57, 58, 59, 26, 60, 61, 120, 121] (by decide +kernel) (by decide +kernel)
set_option maxRecDepth 20000 in
theorem gX7_init_X1_init : GoodIn wsX7_init (wsX1_init) := ggX7_init_X1_init
set_option maxRecDepth 20000 in
theorem ggX7_init_X2_init : GoodIn wsX7_init wsX2_init := goodIn_r _ [64, 65, 2, 3, 66, 10, 11, 67, 68, 69, 53, 54, 55, 56, 57, 58, 59, 26, 60, 61, 120, 121, 122, 123] (by decide +kernel) (by decide +kernel)
set_option maxRecDepth 20000 in
theorem gX7_init_X2_init : GoodIn wsX7_init (wsX2_init) := ggX7_init_X2_init
set_option maxRecDepth 20000 in
theorem ggX7_init_X4_init : GoodIn wsX7_init wsX4_init := goodIn_r _ [72, 73, 2, 3, 74, 5, 6, 75, 26, 76, 77, 78, 79, 80, 33, 34, 35, 36, 37, 38, 39, 40, 41, 42, 43, 44, 45, 46, 47, 48, 49, 50, 51, 92, 93, 94, 95, 96, 97, 98, 99, 100, 101, 102, 103, 104, 105, 106, 107, 124, 125, 126, 127, 128] (by decide +kernel) (by decide +kernel)
set_option maxRecDepth 20000 in
theorem gX7_init_X4_init : GoodIn wsX7_init (wsX4_init) := ggX7_init_X4_init
set_option maxRecDepth 20000 in
theorem ggX7_init_X5_init : GoodIn wsX7_init wsX5_init := goodIn_r _ [83, 84, 2, 3, 85, 5, 6, 86, 26, 87, 88, 89, 90, 91, 33, 34, 35, 36, 37, 38, 39, 40, 41, 42, 43, 44, 45, 46, 47, 48, 49, 50, 51, 92, 93, 94, 95, 96, 97, 98, 99, 100, 101, 102, 103, 104, 105, 106, 107, 129, 130, 131, 132, 133] (by decide +kernel) (by decide +kernel)
set_option maxRecDepth 20000 in
theorem gX7_init_X5_init : GoodIn wsX7_init (wsX5_init) := ggX7_init_X5_init
