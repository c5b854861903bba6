set_option maxRecDepth 20000 in
theorem ggX0_markOf_X3_has : GoodIn wsX0_markOf wsX3_has := goodIn_r _ [8, 9, 30, 31, 32, 33, 34, 35, 36, 37, 38, 39, 40, 41, 42, 43, 44, 45] (by decide +kernel) (by decide +kernel)
set_option maxRecDepth 20000 in
theorem gX0_markOf_X3_has : GoodIn wsX0_markOf (wsV RX0 34 RX3 yX3_has wsX3_has) := goodIn_app (goodIn_of _ (by decide +kernel)) ggX0_markOf_X3_has
set_option maxRecDepth 20000 in
theorem ggX0_markOf_X0_knowsOf : GoodIn wsX0_markOf wsX0_knowsOf := goodIn_r _ [13, 14, 15, 3, 16, 17, 18, 19, 30, 31, 32, 33, 34, 35, 36, 37, 38, 39, 40, 41, 42, 43, 44, 45] (by decide +kernel) (by decide +kernel)
set_option maxRecDepth 20000 in
theorem gX0_markOf_X0_knowsOf : GoodIn wsX0_markOf (va_wsS RX0 41 yX0_knowsOf wsX0_knowsOf) := goodIn_app (goodIn_of _ (by decide +kernel)) ggX0_markOf_X0_knowsOf
set_option maxRecDepth 20000 in
theorem ggX0_markOf_X0_meanOfKnows : GoodIn wsX0_markOf wsX0_meanOfKnows := goodIn_r _ [22, 14, 10, 11, 12, 13, 15, 3, 16, 17, 18, 19, 30, 31, 32, 33, 34, 35, 36, 37, 38, 39, 40, 41, 42, 43, 44, 45] (by decide +kernel) (by decide +kernel)
set_option maxRecDepth 20000 in
theorem gX0_markOf_X0_meanOfKnows : GoodIn wsX0_markOf (va_wsS RX0 50 yX0_meanOfKnows wsX0_meanOfKnows) := goodIn_app (goodIn_of _ (by decide +kernel)) ggX0_markOf_X0_meanOfKnows
set_option maxRecDepth 20000 in
theorem ggX0_markOf_X0_leastOfKnows : GoodIn wsX0_markOf wsX0_leastOfKnows := goodIn_r _ [25, 14, 26, 27, 28, 29, 10, 11, 12, 13, 15, 3, 16, 17, 18, 19, 30, 31, 32, 33, 34, 35, 36, 37, 38, 39, 40, 41, 42, 43, 44, 45] (by decide +kernel) (by decide +kernel)
set_option maxRecDepth 20000 in
theorem gX0_markOf_X0_leastOfKnows : GoodIn wsX0_markOf (va_wsS RX0 54 yX0_leastOfKnows wsX0_leastOfKnows) := goodIn_app (goodIn_of _ (by decide +kernel)) ggX0_markOf_X0_leastOfKnows
set_option maxRecDepth 20000 in
theorem ggX0_meanOfKnows_X0_knowsOf : GoodIn wsX0_meanOfKnows wsX0_knowsOf := goodIn_r _ [5, 1, 6, 7, 8, 9, 10, 11, 12, 13, 14, 15, 16, 17, 18, 19, 20, 21, 22, 23, 24, 25, 26, 27] (by decide +kernel) (by decide +kernel)
set_option maxRecDepth 20000 in
theorem gX0_meanOfKnows_X0_knowsOf : GoodIn wsX0_meanOfKnows (va_wsS RX0 41 yX0_knowsOf wsX0_knowsOf) := goodIn_app (goodIn_of _ (by decide +kernel)) ggX0_meanOfKnows_X0_knowsOf
set_option maxRecDepth 20000 in
theorem ggX0_leastOfKnows_X0_knowsOf : GoodIn wsX0_leastOfKnows wsX0_knowsOf := goodIn_r _ [9, 1, 10, 11, 12, 13, 14, 15, 16, 17, 18, 19, 20, 21, 22, 23, 24, 25, 26, 27, 28, 29, 30, 31] (by decide +kernel) (by decide +kernel)
set_option maxRecDepth 20000 in
theorem gX0_leastOfKnows_X0_knowsOf : GoodIn wsX0_leastOfKnows (va_wsS RX0 41 yX0_knowsOf wsX0_knowsOf) := goodIn_app (goodIn_of _ (by decide +kernel)) ggX0_leastOfKnows_X0_knowsOf
set_option maxRecDepth 20000 in
theorem ggX0_sumOfMarks_X0_markOf : GoodIn wsX0_sumOfMarks wsX0_markOf := goodIn_r _ [6, 1, 7, 8, 9, 10, 11, 12, 13, 14, 15, 16, 5, 17, 2, 18, 19, 20, 21, 22, 23, 24, 25, 26, 27, 28, 29, 30, 31, 32, 33, 34, 35, 36, 37, 38, 39, 40, 41, 42, 43, 44, 45, 46, 47, 48] (by decide +kernel) (by decide +kernel)
set_option maxRecDepth 20000 in
theorem gX0_sumOfMarks_X0_markOf : GoodIn wsX0_sumOfMarks (va_wsS RX0 63 yX0_markOf wsX0_markOf) := goodIn_app (goodIn_of _ (by decide +kernel)) ggX0_sumOfMarks_X0_markOf
set_option maxRecDepth 20000 in
theorem ggX0_passedBits_X0_markOf : GoodIn wsX0_passedBits wsX0_markOf := goodIn_r _ [6, 7, 8, 9, 10, 11, 12, 13, 14, 15, 16, 17, 5, 18, 1, 19, 20, 21, 22, 23, 24, 25, 26, 27, 28, 29, 30, 31, 32, 33, 34, 35, 36, 37, 38, 39, 40, 41, 42, 43, 44, 45, 46, 47, 48, 49] (by decide +kernel) (by decide +kernel)
set_option maxRecDepth 20000 in
theorem gX0_passedBits_X0_markOf : GoodIn wsX0_passedBits (va_wsS RX0 63 yX0_markOf wsX0_markOf) := goodIn_app (goodIn_of _ (by decide +kernel)) ggX0_passedBits_X0_markOf
set_option maxRecDepth 20000 in
theorem ggX0_greaterBits_X0_markOf : GoodIn wsX0_greaterBits wsX0_markOf := goodIn_r _ [5, 6, 7, 8, 9, 10, 11, 12, 13, 14, 15, 16, 4, 17, 1, 18, 19, 20, 21, 22, 23, 24, 25, 26, 27, 28, 29, 30, 31, 32, 33, 34, 35, 36, 37, 38, 39, 40, 41, 42, 43, 44, 45, 46, 47, 48] (by decide +kernel) (by decide +kernel)
set_option maxRecDepth 20000 in
theorem gX0_greaterBits_X0_markOf : GoodIn wsX0_greaterBits (va_wsS RX0 63 yX0_markOf wsX0_markOf) := goodIn_app (goodIn_of _ (by decide +kernel)) ggX0_greaterBits_X0_markOf
set_option maxRecDepth 20000 in
theorem ggX1_add_X1_isFull : GoodIn wsX1_add wsX1_isFull := goodIn_r _ [7, 2, 1, 8, 9] (by decide +kernel) (by decide +kernel)
set_option maxRecDepth 20000 in
theorem gX1_add_X1_isFull : GoodIn wsX1_add (wsV RX1 23 RX1 yX1_isFull wsX1_isFull) := goodIn_app (goodIn_of _ (by decide +kernel)) ggX1_add_X1_isFull
set_option maxRecDepth 20000 in
theorem ggX2_init_X1_init : GoodIn wsX2_init wsX1_init := goodIn_r _ [11, 12, 2, 3, 13, 14, 15, 16, 17, 18, 19, 20, 21] (by decide +kernel) (by decide +kernel)
set_option maxRecDepth 20000 in
theorem gX2_init_X1_init : GoodIn wsX2_init (wsX1_init) := ggX2_init_X1_init
set_option maxRecDepth 20000 in
theorem ggX2_read_X2_passStatement : GoodIn wsX2_read wsX2_passStatement := goodIn_r _ [8, 1, 2, 9, 10, 11, 12, 13, 14, 15, 16, 17, 7, 18, 19, 20, 21, 22, 23, 24, 90, 91, 92, 93] (by decide +kernel) (by decide +kernel)
set_option maxRecDepth 20000 in
theorem gX2_read_X2_passStatement : GoodIn wsX2_read (wsV RX2 27 RX2 yX2_passStatement wsX2_passStatement) := goodIn_app (goodIn_of _ (by decide +kernel)) ggX2_read_X2_passStatement
set_option maxRecDepth 20000 in
theorem ggX2_read_X2_tell : GoodIn wsX2_read wsX2_tell := goodIn_r _ [28, 2, 1, 29, 30, 31, 32, 7, 33, 9, 10, 11, 12, 13, 14, 15, 19, 20, 21, 34, 35, 36, 37, 38, 39, 40, 41, 42, 43, 44, 45, 46, 47, 48, 49, 50, 51, 52, 53, 54, 55, 56, 57, 58, 59, 60, 61, 62, 63, 64, 65, 66, 67, 68, 69, 70, 71, 72, 73, 74, 75, 76, 77, 78, 79, 80, 81, 82, 83, 84, 85, 86, 87, 88, 89, 22, 23, 24, 90, 91, 94, 95, 96, 97, 98, 99, 100, 101, 102, 103, 104, 105, 106, 107, 108, 109, 92, 93] (by decide +kernel) (by decide +kernel)
set_option maxRecDepth 20000 in
theorem gX2_read_X2_tell : GoodIn wsX2_read (wsV RX2 31 RX2 yX2_tell wsX2_tell) := goodIn_app (goodIn_of _ (by decide +kernel)) ggX2_read_X2_tell
set_option maxRecDepth 20000 in
theorem ggX2_passStatement_X1_at : GoodIn wsX2_passStatement wsX1_at := goodIn_r _ [7, 8, 9, 22, 23] (by decide +kernel) (by decide +kernel)
set_option maxRecDepth 20000 in
theorem gX2_passStatement_X1_at : GoodIn wsX2_passStatement (wsV RX2 35 RX1 yX1_at wsX1_at) := goodIn_app (goodIn_of _ (by decide +kernel)) ggX2_passStatement_X1_at
set_option maxRecDepth 20000 in
theorem ggX2_passStatement_X2_lettersBehind : GoodIn wsX2_passStatement wsX2_lettersBehind := goodIn_r _ [13] (by decide +kernel) (by decide +kernel)
set_option maxRecDepth 20000 in
theorem gX2_passStatement_X2_lettersBehind : GoodIn wsX2_passStatement (va_wsS RX2 39 yX2_lettersBehind wsX2_lettersBehind) := goodIn_app (goodIn_of _ (by decide +kernel)) ggX2_passStatement_X2_lettersBehind
set_option maxRecDepth 20000 in
theorem ggX2_passStatement_X2_kindOf : GoodIn wsX2_passStatement wsX2_kindOf := goodIn_r _ [16] (by decide +kernel) (by decide +kernel)
set_option maxRecDepth 20000 in
theorem gX2_passStatement_X2_kindOf : GoodIn wsX2_passStatement (va_wsS RX2 42 yX2_kindOf wsX2_kindOf) := goodIn_app (goodIn_of _ (by decide +kernel)) ggX2_passStatement_X2_kindOf
set_option maxRecDepth 20000 in
theorem ggX2_passStatement_X2_isDigit : GoodIn wsX2_passStatement wsX2_isDigit := goodIn_r _ [19] (by decide +kernel) (by decide +kernel)
set_option maxRecDepth 20000 in
theorem gX2_passStatement_X2_isDigit : GoodIn wsX2_passStatement (va_wsS RX2 45 yX2_isDigit wsX2_isDigit) := goodIn_app (goodIn_of _ (by decide +kernel)) ggX2_passStatement_X2_isDigit
set_option maxRecDepth 20000 in
theorem ggX2_digitAt_X1_at : GoodIn wsX2_digitAt wsX1_at := goodIn_r _ [6, 7, 8, 11, 12] (by decide +kernel) (by decide +kernel)
set_option maxRecDepth 20000 in
theorem gX2_digitAt_X1_at : GoodIn wsX2_digitAt (wsV RX2 35 RX1 yX1_at wsX1_at) := goodIn_app (goodIn_of _ (by decide +kernel)) ggX2_digitAt_X1_at
set_option maxRecDepth 20000 in
theorem ggX2_tell_X2_digitAt : GoodIn wsX2_tell wsX2_digitAt := goodIn_r _ [8, 2, 9, 10, 11, 12, 13, 14, 15, 78, 79, 96, 97] (by decide +kernel) (by decide +kernel)
set_option maxRecDepth 20000 in
theorem gX2_tell_X2_digitAt : GoodIn wsX2_tell (wsV RX2 53 RX2 yX2_digitAt wsX2_digitAt) := goodIn_app (goodIn_of _ (by decide +kernel)) ggX2_tell_X2_digitAt
set_option maxRecDepth 20000 in
theorem ggX2_tell_X1_at : GoodIn wsX2_tell wsX1_at := goodIn_r _ [13, 14, 15, 96, 97] (by decide +kernel) (by decide +kernel)
set_option maxRecDepth 20000 in
theorem gX2_tell_X1_at : GoodIn wsX2_tell (wsV RX2 35 RX1 yX1_at wsX1_at) := goodIn_app (goodIn_of _ (by decide +kernel)) ggX2_tell_X1_at
set_option maxRecDepth 20000 in
theorem ggX2_tell_X2_kindOf : GoodIn wsX2_tell wsX2_kindOf := goodIn_r _ [18] (by decide +kernel) (by decide +kernel)
set_option maxRecDepth 20000 in
theorem gX2_tell_X2_kindOf : GoodIn wsX2_tell (va_wsS RX2 42 yX2_kindOf wsX2_kindOf) := goodIn_app (goodIn_of _ (by decide +kernel)) ggX2_tell_X2_kindOf
set_option maxRecDepth 20000 in
theorem ggX2_tell_X3_addPupil : GoodIn wsX2_tell wsX3_addPupil := goodIn_r _ [23, 24, 25, 26, 27, 28, 29, 30, 31, 32, 33, 22, 34, 35, 36, 37, 38, 39, 40, 41, 42, 43, 44, 45, 46, 47, 80, 81, 82, 83, 84, 85, 86, 87, 88, 89, 90, 91, 92, 93, 94, 95] (by decide +kernel) (by decide +kernel)
set_option maxRecDepth 20000 in
theorem gX2_tell_X3_addPupil : GoodIn wsX2_tell (wsV RX2 56 RX3 yX3_addPupil wsX3_addPupil) := goodIn_app (goodIn_of _ (by decide +kernel)) ggX2_tell_X3_addPupil
set_option maxRecDepth 20000 in
theorem ggX2_tell_X3_setHours : GoodIn wsX2_tell wsX3_setHours := goodIn_r _ [51, 29, 24, 31, 32, 33, 22, 34, 35, 36, 37, 38, 39, 40, 80, 81, 82, 83, 84, 85, 86, 87, 88, 89, 90, 91, 92, 93, 94, 95] (by decide +kernel) (by decide +kernel)
set_option maxRecDepth 20000 in
theorem gX2_tell_X3_setHours : GoodIn wsX2_tell (wsV RX2 62 RX3 yX3_setHours wsX3_setHours) := goodIn_app (goodIn_of _ (by decide +kernel)) ggX2_tell_X3_setHours
set_option maxRecDepth 20000 in
theorem ggX2_tell_X2_tellLaw : GoodIn wsX2_tell wsX2_tellLaw := goodIn_r _ [54, 55, 56, 57, 58, 80, 81, 82, 83, 84, 85, 86, 87, 88, 89, 90, 91, 92, 93, 94, 95] (by decide +kernel) (by decide +kernel)
set_option maxRecDepth 20000 in
theorem gX2_tell_X2_tellLaw : GoodIn wsX2_tell (va_wsS RX2 65 yX2_tellLaw wsX2_tellLaw) := goodIn_app (goodIn_of _ (by decide +kernel)) ggX2_tell_X2_tellLaw
set_option maxRecDepth 20000 in
theorem ggX2_tell_X3_setRing : GoodIn wsX2_tell wsX3_setRing := goodIn_r _ [62, 45, 41, 42, 43, 22, 44, 24, 30, 46, 47, 37, 38, 39, 40, 80, 81, 82, 83, 84, 85, 86, 87, 88, 89, 90, 91, 92, 93, 94, 95] (by decide +kernel) (by decide +kernel)
set_option maxRecDepth 20000 in
theorem gX2_tell_X3_setRing : GoodIn wsX2_tell (wsV RX2 69 RX3 yX3_setRing wsX3_setRing) := goodIn_app (goodIn_of _ (by decide +kernel)) ggX2_tell_X3_setRing
set_option maxRecDepth 20000 in
theorem ggX2_tell_X2_tellChange : GoodIn wsX2_tell wsX2_tellChange := goodIn_r _ [65, 66, 38, 39, 22, 40, 24, 67, 68, 69, 70, 30, 71, 72, 73, 74, 41, 42, 43, 44, 45, 46, 47, 37, 80, 81, 82, 83, 84, 85, 86, 87, 88, 89, 90, 91, 92, 93, 94, 95] (by decide +kernel) (by decide +kernel)
set_option maxRecDepth 20000 in
theorem gX2_tell_X2_tellChange : GoodIn wsX2_tell (va_wsS RX2 73 yX2_tellChange wsX2_tellChange) := goodIn_app (goodIn_of _ (by decide +kernel)) ggX2_tell_X2_tellChange
set_option maxRecDepth 20000 in
theorem ggX2_tell_X2_isDigit : GoodIn wsX2_tell wsX2_isDigit := goodIn_r _ [77] (by decide +kernel) (by decide +kernel)
set_option maxRecDepth 20000 in
theorem gX2_tell_X2_isDigit : GoodIn wsX2_tell (va_wsS RX2 45 yX2_isDigit wsX2_isDigit) := goodIn_app (goodIn_of _ (by decide +kernel)) ggX2_tell_X2_isDigit
set_option maxRecDepth 20000 in
theorem ggX2_tellLaw_X7_isLaw : GoodIn wsX2_tellLaw wsX7_isLaw := goodIn_r _ [4] (by decide +kernel) (by decide +kernel)
set_option maxRecDepth 20000 in
theorem gX2_tellLaw_X7_isLaw_n80 : GoodIn wsX2_tellLaw (wsX7_isLaw) := ggX2_tellLaw_X7_isLaw
set_option maxRecDepth 20000 in
theorem ggX2_tellChange_X3_has : GoodIn wsX2_tellChange wsX3_has := goodIn_r _ [5, 6, 24, 25, 26, 27, 28, 29, 30, 31, 32, 33, 34, 35, 36, 37, 38, 39] (by decide +kernel) (by decide +kernel)
set_option maxRecDepth 20000 in
theorem gX2_tellChange_X3_has : GoodIn wsX2_tellChange (wsV RX2 86 RX3 yX3_has wsX3_has) := goodIn_app (goodIn_of _ (by decide +kernel)) ggX2_tellChange_X3_has
set_option maxRecDepth 20000 in
theorem ggX2_tellChange_X3_changeSeats : GoodIn wsX2_tellChange wsX3_changeSeats := goodIn_r _ [10, 11, 12, 13, 14, 4, 15, 6, 16, 17, 18, 19, 20, 21, 22, 23, 2, 3, 5, 24, 25, 26, 27, 28, 29, 30, 31, 32, 33, 34, 35, 36, 37, 38, 39] (by decide +kernel) (by decide +kernel)
set_option maxRecDepth 20000 in
theorem gX2_tellChange_X3_changeSeats : GoodIn wsX2_tellChange (wsV RX2 89 RX3 yX3_changeSeats wsX3_changeSeats) := goodIn_app (goodIn_of _ (by decide +kernel)) ggX2_tellChange_X3_changeSeats
