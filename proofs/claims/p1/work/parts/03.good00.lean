set_option maxRecDepth 20000 in
theorem ggX0_markOf_X3_has : GoodIn wsX0_markOf wsX3_has := goodIn_r _ [8, 9, 30, 31, 32, 33, 34, 35, 36, 37, 38, 39, 40, 41, 42, 43, 44, 45] (by decide +kernel) (by decide +kernel)
set_option maxRecDepth 20000 in
theorem gX0_markOf_X3_has : GoodIn wsX0_markOf (wsV RX0 34 RX3 yX3_has wsX3_has) := goodIn_app (goodIn_of _ (by decide +kernel)) ggX0_markOf_X3_has
set_option maxRecDepth 20000 in
theorem ggX0_sumOfMarks_X0_markOf : GoodIn wsX0_sumOfMarks wsX0_markOf := goodIn_r _ [6, 1, 7, 8, 9, 10, 11, 12, 13, 14, 15, 16, 5, 17, 2, 18, 19, 20, 21, 22, 23, 24, 25, 26, 27, 28, 29, 30, 31, 32, 33, 34, 35, 36, 37, 38, 39, 40, 41, 42, 43, 44, 45, 46, 47, 48] (by decide +kernel) (by decide +kernel)
set_option maxRecDepth 20000 in
theorem gX0_sumOfMarks_X0_markOf : GoodIn wsX0_sumOfMarks (va_wsS RX0 63 yX0_markOf wsX0_markOf) := goodIn_app (goodIn_of _ (by decide +kernel)) ggX0_sumOfMarks_X0_markOf
set_option maxRecDepth 20000 in
theorem ggX1_add_X1_isFull : GoodIn wsX1_add wsX1_isFull := goodIn_r _ [7, 2, 1, 8, 9] (by decide +kernel) (by decide +kernel)
set_option maxRecDepth 20000 in
theorem gX1_add_X1_isFull : GoodIn wsX1_add (wsV RX1 23 RX1 yX1_isFull wsX1_isFull) := goodIn_app (goodIn_of _ (by decide +kernel)) ggX1_add_X1_isFull
set_option maxRecDepth 20000 in
theorem ggX2_init_X1_init : GoodIn wsX2_init wsX1_init := goodIn_r _ [11, 12, 2, 3, 13, 14, 15, 16, 17, 18, 19, 20, 21] (by decide +kernel) (by decide +kernel)
set_option maxRecDepth 20000 in
theorem gX2_init_X1_init : GoodIn wsX2_init (wsX1_init) := ggX2_init_X1_init
set_option maxRecDepth 20000 in
theorem ggX2_read_X2_passStatement : GoodIn wsX2_read wsX2_passStatement := goodIn_r _ [8, 1, 2, 9, 10, 11, 12, 13, 14, 15, 16, 17, 7, 18, 19, 20, 21, 22, 23, 24, 90, 91, 92, 93] (by decide +kernel) (by decide +kernel)
set_option maxRecDepth 20000 in
theorem gX2_read_X2_passStatement : GoodIn wsX2_read (wsV RX2 27 RX2 yX2_passStatement wsX2_passStatement) := goodIn_app (goodIn_of _ (by decide +kernel)) ggX2_read_X2_passStatement
set_option maxRecDepth 20000 in
theorem ggX2_passStatement_X1_at : GoodIn wsX2_passStatement wsX1_at := goodIn_r _ [7, 8, 9, 22, 23] (by decide +kernel) (by decide +kernel)
set_option maxRecDepth 20000 in
theorem gX2_passStatement_X1_at : GoodIn wsX2_passStatement (wsV RX2 35 RX1 yX1_at wsX1_at) := goodIn_app (goodIn_of _ (by decide +kernel)) ggX2_passStatement_X1_at
set_option maxRecDepth 20000 in
theorem ggX2_passStatement_X2_lettersBehind : GoodIn wsX2_passStatement wsX2_lettersBehind := goodIn_r _ [13] (by decide +kernel) (by decide +kernel)
set_option maxRecDepth 20000 in
theorem gX2_passStatement_X2_lettersBehind : GoodIn wsX2_passStatement (va_wsS RX2 39 yX2_lettersBehind wsX2_lettersBehind) := goodIn_app (goodIn_of _ (by decide +kernel)) ggX2_passStatement_X2_lettersBehind
set_option maxRecDepth 20000 in
theorem ggX3_sitByNumbers_X3_findNeighbours : GoodIn wsX3_sitByNumbers wsX3_findNeighbours := goodIn_r _ [7, 1, 2, 8, 9, 10, 11, 12, 13, 6, 14, 15, 16, 17, 18, 19, 20, 21, 22, 23, 24, 25, 26, 27, 28, 29, 30] (by decide +kernel) (by decide +kernel)
set_option maxRecDepth 20000 in
theorem gX3_sitByNumbers_X3_findNeighbours : GoodIn wsX3_sitByNumbers (wsV RX3 72 RX3 yX3_findNeighbours wsX3_findNeighbours) := goodIn_app (goodIn_of _ (by decide +kernel)) ggX3_sitByNumbers_X3_findNeighbours
set_option maxRecDepth 20000 in
theorem ggX4_init_X3_init : GoodIn wsX4_init wsX3_init := goodIn_r _ [15, 16, 2, 3, 17, 18, 19, 20, 21, 22, 8, 23, 24, 25, 26, 27, 28, 29, 30, 31, 32, 33, 34, 35, 36, 37, 38, 39, 40, 41, 42, 43, 44, 45, 46, 47, 48] (by decide +kernel) (by decide +kernel)
set_option maxRecDepth 20000 in
theorem gX4_init_X3_init : GoodIn wsX4_init (wsX3_init) := ggX4_init_X3_init
set_option maxRecDepth 20000 in
theorem ggX4_findFitting_X4_begin : GoodIn wsX4_findFitting wsX4_begin := goodIn_r _ [6, 7, 8, 9, 10, 11, 12, 13, 14, 15, 16, 17, 18, 19, 20, 21, 22, 23, 24, 25, 26, 27, 28, 29, 30, 31, 32, 33, 34, 35, 36, 37, 38, 39, 40, 41, 42, 43, 99, 100, 101, 102, 103, 104, 105, 106, 107, 108, 109, 110, 111, 112, 113, 114, 115, 116, 117, 118, 119] (by decide +kernel) (by decide +kernel)
set_option maxRecDepth 20000 in
theorem gX4_findFitting_X4_begin : GoodIn wsX4_findFitting (wsV RX4 32 RX4 yX4_begin wsX4_begin) := goodIn_app (goodIn_of _ (by decide +kernel)) ggX4_findFitting_X4_begin
set_option maxRecDepth 20000 in
theorem ggX4_findFitting_X4_unlikeBits : GoodIn wsX4_findFitting wsX4_unlikeBits := goodIn_r _ [47, 7, 48, 49, 50, 51, 52, 53, 54, 55, 56, 41, 42, 11, 43, 13, 57, 58, 59, 60, 61, 62, 63, 64, 65, 66, 67, 68, 69, 70, 71, 72, 73, 74, 75, 76, 77, 78, 79, 80, 81, 82, 99, 100, 101, 102, 103, 104, 105, 106, 107, 108, 109, 110, 111, 112, 113, 114, 115, 116, 117, 118, 119, 120, 121] (by decide +kernel) (by decide +kernel)
set_option maxRecDepth 20000 in
theorem gX4_findFitting_X4_unlikeBits : GoodIn wsX4_findFitting (wsV RX4 65 RX4 yX4_unlikeBits wsX4_unlikeBits) := goodIn_app (goodIn_of _ (by decide +kernel)) ggX4_findFitting_X4_unlikeBits
set_option maxRecDepth 20000 in
theorem ggX4_findFitting_X4_choose : GoodIn wsX4_findFitting wsX4_choose := goodIn_r _ [86, 7, 87, 88, 89, 21, 22, 23, 99, 100, 101, 102, 103, 104, 105, 106, 107, 108, 109, 110, 111, 112, 113, 114, 115, 116, 117, 118, 119] (by decide +kernel) (by decide +kernel)
set_option maxRecDepth 20000 in
theorem gX4_findFitting_X4_choose : GoodIn wsX4_findFitting (wsV RX4 51 RX4 yX4_choose wsX4_choose) := goodIn_app (goodIn_of _ (by decide +kernel)) ggX4_findFitting_X4_choose
set_option maxRecDepth 20000 in
theorem ggX4_findFitting_X4_goOn : GoodIn wsX4_findFitting wsX4_goOn := goodIn_r _ [93, 7, 87, 94, 48, 95, 96, 5, 97, 98, 37, 38, 11, 39, 13, 29, 18, 30, 31, 40, 41, 42, 43, 99, 100, 101, 102, 103, 104, 105, 106, 107, 108, 109, 110, 111, 112, 113, 114, 115, 116, 117, 118, 119] (by decide +kernel) (by decide +kernel)
set_option maxRecDepth 20000 in
theorem gX4_findFitting_X4_goOn : GoodIn wsX4_findFitting (wsV RX4 54 RX4 yX4_goOn wsX4_goOn) := goodIn_app (goodIn_of _ (by decide +kernel)) ggX4_findFitting_X4_goOn
set_option maxRecDepth 20000 in
theorem ggX4_forgedBits_X4_begin : GoodIn wsX4_forgedBits wsX4_begin := goodIn_r _ [7, 1, 8, 9, 10, 11, 12, 13, 14, 15, 16, 17, 18, 19, 20, 21, 22, 23, 24, 25, 26, 27, 28, 29, 30, 31, 32, 33, 34, 35, 36, 37, 38, 39, 40, 41, 42, 43, 99, 100, 101, 102, 103, 104, 105, 106, 107, 108, 109, 110, 111, 112, 113, 114, 115, 116, 117, 118, 119] (by decide +kernel) (by decide +kernel)
set_option maxRecDepth 20000 in
theorem gX4_forgedBits_X4_begin : GoodIn wsX4_forgedBits (wsV RX4 32 RX4 yX4_begin wsX4_begin) := goodIn_app (goodIn_of _ (by decide +kernel)) ggX4_forgedBits_X4_begin
set_option maxRecDepth 20000 in
theorem ggX4_forgedBits_X4_unlikeBits : GoodIn wsX4_forgedBits wsX4_unlikeBits := goodIn_r _ [47, 1, 2, 48, 49, 50, 51, 52, 53, 54, 55, 41, 42, 11, 43, 13, 56, 57, 58, 59, 60, 61, 62, 63, 64, 65, 66, 67, 68, 69, 70, 71, 72, 73, 74, 75, 76, 77, 78, 79, 80, 81, 99, 100, 101, 102, 103, 104, 105, 106, 107, 108, 109, 110, 111, 112, 113, 114, 115, 116, 117, 118, 119, 120, 121] (by decide +kernel) (by decide +kernel)
set_option maxRecDepth 20000 in
theorem gX4_forgedBits_X4_unlikeBits : GoodIn wsX4_forgedBits (wsV RX4 65 RX4 yX4_unlikeBits wsX4_unlikeBits) := goodIn_app (goodIn_of _ (by decide +kernel)) ggX4_forgedBits_X4_unlikeBits
set_option maxRecDepth 20000 in
theorem ggX4_forgedBits_X4_goOn : GoodIn wsX4_forgedBits wsX4_goOn := goodIn_r _ [92, 1, 93, 94, 2, 95, 96, 6, 97, 98, 37, 38, 11, 39, 13, 29, 18, 30, 31, 40, 41, 42, 43, 99, 100, 101, 102, 103, 104, 105, 106, 107, 108, 109, 110, 111, 112, 113, 114, 115, 116, 117, 118, 119] (by decide +kernel) (by decide +kernel)
set_option maxRecDepth 20000 in
theorem gX4_forgedBits_X4_goOn : GoodIn wsX4_forgedBits (wsV RX4 54 RX4 yX4_goOn wsX4_goOn) := goodIn_app (goodIn_of _ (by decide +kernel)) ggX4_forgedBits_X4_goOn
set_option maxRecDepth 20000 in
theorem ggX4_begin_X3_copyFrom : GoodIn wsX4_begin wsX3_copyFrom := goodIn_r _ [6, 7, 8, 9, 10, 11, 12, 13, 14, 15, 16, 17, 18, 19, 20, 21, 22, 23, 24, 25, 43, 44, 45, 46, 47, 48, 49, 50, 51, 52, 53, 54, 55, 56, 57, 58] (by decide +kernel) (by decide +kernel)
set_option maxRecDepth 20000 in
theorem gX4_begin_X3_copyFrom : GoodIn wsX4_begin (wsV RX4 72 RX3 yX3_copyFrom wsX3_copyFrom) := goodIn_app (goodIn_of _ (by decide +kernel)) ggX4_begin_X3_copyFrom
set_option maxRecDepth 20000 in
theorem ggX4_begin_X3_sitByNumbers : GoodIn wsX4_begin wsX3_sitByNumbers := goodIn_r _ [29, 7, 23, 30, 31, 32, 5, 33, 12, 24, 25, 34, 35, 36, 37, 43, 44, 45, 46, 47, 48, 49, 50, 51, 52, 53, 54, 55, 56, 57, 58] (by decide +kernel) (by decide +kernel)
set_option maxRecDepth 20000 in
theorem gX4_begin_X3_sitByNumbers : GoodIn wsX4_begin (wsV RX4 75 RX3 yX3_sitByNumbers wsX3_sitByNumbers) := goodIn_app (goodIn_of _ (by decide +kernel)) ggX4_begin_X3_sitByNumbers
set_option maxRecDepth 20000 in
theorem ggX5_init_X3_init : GoodIn wsX5_init wsX3_init := goodIn_r _ [15, 16, 2, 3, 17, 18, 19, 20, 21, 22, 8, 23, 24, 25, 26, 27, 28, 29, 30, 31, 32, 33, 34, 35, 36, 37, 38, 39, 40, 41, 42, 43, 44, 45, 46, 47, 48] (by decide +kernel) (by decide +kernel)
set_option maxRecDepth 20000 in
theorem gX5_init_X3_init : GoodIn wsX5_init (wsX3_init) := ggX5_init_X3_init
set_option maxRecDepth 20000 in
theorem ggX5_greatestSum_X5_begin : GoodIn wsX5_greatestSum wsX5_begin := goodIn_r _ [11, 1, 12, 13, 14, 15, 16, 17, 18, 19, 20, 21, 22, 23, 24, 25, 26, 27, 28, 29, 30, 31, 32, 33, 34, 35, 36, 37, 38, 39, 40, 41, 42, 43, 44, 80, 81, 82, 83, 84, 85, 86, 87, 88, 89, 90, 91, 92, 93, 94, 95, 96, 97, 98, 99, 100] (by decide +kernel) (by decide +kernel)
set_option maxRecDepth 20000 in
theorem gX5_greatestSum_X5_begin : GoodIn wsX5_greatestSum (wsV RX5 32 RX5 yX5_begin wsX5_begin) := goodIn_app (goodIn_of _ (by decide +kernel)) ggX5_greatestSum_X5_begin
set_option maxRecDepth 20000 in
theorem ggX5_greatestSum_X0_sumOfMarks : GoodIn wsX5_greatestSum wsX0_sumOfMarks := goodIn_r _ [48, 49, 50, 51, 52, 47, 53, 54, 55, 56, 42, 43, 16, 44, 18, 57, 58, 59, 60, 61, 62, 63, 64, 65, 66, 67, 68, 69, 70, 71, 72, 5, 73, 85, 86, 87, 88, 89, 90, 91, 92, 93, 94, 95, 96, 97, 98, 99, 100] (by decide +kernel) (by decide +kernel)
set_option maxRecDepth 20000 in
theorem gX5_greatestSum_X0_sumOfMarks : GoodIn wsX5_greatestSum (va_wsS RX5 39 yX0_sumOfMarks wsX0_sumOfMarks) := goodIn_app (goodIn_of _ (by decide +kernel)) ggX5_greatestSum_X0_sumOfMarks
set_option maxRecDepth 20000 in
theorem ggX5_greatestSum_X5_goOn : GoodIn wsX5_greatestSum wsX5_goOn := goodIn_r _ [77, 1, 12, 78, 79, 37, 38, 39, 16, 40, 32, 33, 19, 41, 42, 43, 44, 18, 80, 81, 82, 83, 84, 85, 86, 87, 88, 89, 90, 91, 92, 93, 94, 95, 96, 97, 98, 99, 100] (by decide +kernel) (by decide +kernel)
set_option maxRecDepth 20000 in
theorem gX5_greatestSum_X5_goOn : GoodIn wsX5_greatestSum (wsV RX5 51 RX5 yX5_goOn wsX5_goOn) := goodIn_app (goodIn_of _ (by decide +kernel)) ggX5_greatestSum_X5_goOn
set_option maxRecDepth 20000 in
theorem ggX5_findRests_X5_begin : GoodIn wsX5_findRests wsX5_begin := goodIn_r _ [8, 9, 10, 11, 12, 13, 14, 15, 16, 17, 18, 19, 20, 21, 22, 23, 24, 25, 26, 27, 28, 29, 30, 31, 32, 33, 34, 35, 36, 37, 38, 39, 40, 41, 42, 97, 98, 99, 100, 101, 102, 103, 104, 105, 106, 107, 108, 109, 110, 111, 112, 113, 114, 115, 116, 117] (by decide +kernel) (by decide +kernel)
set_option maxRecDepth 20000 in
theorem gX5_findRests_X5_begin : GoodIn wsX5_findRests (wsV RX5 32 RX5 yX5_begin wsX5_begin) := goodIn_app (goodIn_of _ (by decide +kernel)) ggX5_findRests_X5_begin
set_option maxRecDepth 20000 in
theorem ggX5_findRests_X5_isAtRest : GoodIn wsX5_findRests wsX5_isAtRest := goodIn_r _ [46, 9, 10, 47, 48, 49, 7, 50, 51, 52, 53, 54, 55, 56, 57, 58, 59, 60, 40, 41, 14, 42, 16, 61, 62, 63, 64, 65, 66, 67, 68, 69, 70, 71, 72, 73, 74, 75, 76, 77, 78, 79, 35, 36, 37, 38, 30, 31, 17, 39, 97, 98, 99, 100, 101, 102, 103, 104, 105, 106, 107, 108, 109, 110, 111, 112, 113, 114, 115, 116, 117] (by decide +kernel) (by decide +kernel)
set_option maxRecDepth 20000 in
theorem gX5_findRests_X5_isAtRest : GoodIn wsX5_findRests (wsV RX5 55 RX5 yX5_isAtRest wsX5_isAtRest) := goodIn_app (goodIn_of _ (by decide +kernel)) ggX5_findRests_X5_isAtRest
set_option maxRecDepth 20000 in
theorem ggX5_findRests_X5_takeRest : GoodIn wsX5_findRests wsX5_takeRest := goodIn_r _ [83, 9, 1, 2, 51, 84, 85, 24, 25, 26, 3, 86, 87, 78, 88, 89, 90, 55, 91, 57, 64, 92, 54, 56, 58, 59, 60, 40, 41, 14, 42, 16, 61, 62, 63, 65, 66, 67, 68, 69, 70, 71, 72, 73, 74, 75, 76, 77, 79, 97, 98, 99, 100, 101, 102, 103, 104, 105, 106, 107, 108, 109, 110, 111, 112, 113, 114, 115, 116, 117] (by decide +kernel) (by decide +kernel)
set_option maxRecDepth 20000 in
theorem gX5_findRests_X5_takeRest : GoodIn wsX5_findRests (wsV RX5 58 RX5 yX5_takeRest wsX5_takeRest) := goodIn_app (goodIn_of _ (by decide +kernel)) ggX5_findRests_X5_takeRest
set_option maxRecDepth 20000 in
theorem ggX5_findRests_X5_goOn : GoodIn wsX5_findRests wsX5_goOn := goodIn_r _ [96, 9, 10, 51, 52, 35, 36, 37, 14, 38, 30, 31, 17, 39, 40, 41, 42, 16, 97, 98, 99, 100, 101, 102, 103, 104, 105, 106, 107, 108, 109, 110, 111, 112, 113, 114, 115, 116, 117] (by decide +kernel) (by decide +kernel)
set_option maxRecDepth 20000 in
theorem gX5_findRests_X5_goOn : GoodIn wsX5_findRests (wsV RX5 51 RX5 yX5_goOn wsX5_goOn) := goodIn_app (goodIn_of _ (by decide +kernel)) ggX5_findRests_X5_goOn
set_option maxRecDepth 20000 in
theorem ggX5_takeRest_X0_sumOfMarks : GoodIn wsX5_takeRest wsX0_sumOfMarks := goodIn_r _ [18, 19, 20, 21, 22, 17, 23, 24, 25, 26, 27, 28, 29, 30, 31, 32, 33, 34, 35, 36, 37, 38, 39, 40, 41, 42, 43, 44, 45, 46, 47, 13, 48, 54, 55, 56, 57, 58, 59, 60, 61, 62, 63, 64, 65, 66, 67, 68, 69] (by decide +kernel) (by decide +kernel)
set_option maxRecDepth 20000 in
theorem gX5_takeRest_X0_sumOfMarks : GoodIn wsX5_takeRest (va_wsS RX5 39 yX0_sumOfMarks wsX0_sumOfMarks) := goodIn_app (goodIn_of _ (by decide +kernel)) ggX5_takeRest_X0_sumOfMarks
set_option maxRecDepth 20000 in
theorem ggX5_begin_X3_copyFrom : GoodIn wsX5_begin wsX3_copyFrom := goodIn_r _ [7, 8, 9, 10, 11, 12, 13, 14, 15, 16, 17, 18, 19, 20, 21, 22, 23, 24, 25, 26, 40, 41, 42, 43, 44, 45, 46, 47, 48, 49, 50, 51, 52, 53, 54, 55] (by decide +kernel) (by decide +kernel)
set_option maxRecDepth 20000 in
theorem gX5_begin_X3_copyFrom : GoodIn wsX5_begin (wsV RX5 70 RX3 yX3_copyFrom wsX3_copyFrom) := goodIn_app (goodIn_of _ (by decide +kernel)) ggX5_begin_X3_copyFrom
set_option maxRecDepth 20000 in
theorem ggX7_init_X3_init : GoodIn wsX7_init wsX3_init := goodIn_r _ [34, 35, 2, 3, 36, 37, 38, 39, 40, 41, 26, 42, 43, 44, 45, 46, 47, 48, 49, 50, 51, 92, 93, 94, 95, 96, 97, 98, 99, 100, 101, 102, 103, 104, 105, 106, 107] (by decide +kernel) (by decide +kernel)
set_option maxRecDepth 20000 in
theorem gX7_init_X3_init : GoodIn wsX7_init (wsX3_init) := ggX7_init_X3_init
set_option maxRecDepth 20000 in
theorem ggX7_init_X1_init : GoodIn wsX7_init wsX1_init := goodIn_r _ [54, 55, 2, 3, 56, 57, 58, 59, 26, 60, 61, 120, 121] (by decide +kernel) (by decide +kernel)
set_option maxRecDepth 20000 in
theorem gX7_init_X1_init : GoodIn wsX7_init (wsX1_init) := ggX7_init_X1_init
