set_option maxRecDepth 20000 in
theorem ggX0_markOf_X3_has : GoodIn wsX0_markOf wsX3_has := goodIn_sub (vm_c (vm_at 8 rfl) (vm_a (vm_c (vm_at 9 rfl) vm_n) (fun w h => (List.mem_cons_of_mem _ (List.mem_append_right _ h))))) (by decide +kernel)
set_option maxRecDepth 20000 in
theorem gX0_markOf_X3_has : GoodIn wsX0_markOf (wsV RX0 34 RX3 yX3_has wsX3_has) := goodIn_app (goodIn_sub (vm_c (vm_at 4 rfl) (vm_c (vm_at 5 rfl) (vm_c (vm_at 6 rfl) (vm_c (vm_at 7 rfl) vm_n)))) (by decide +kernel)) ggX0_markOf_X3_has
set_option maxRecDepth 20000 in
theorem ggX0_markOf_X0_knowsOf : GoodIn wsX0_markOf wsX0_knowsOf := goodIn_sub (vm_c (vm_at 13 rfl) (vm_a (vm_c (vm_at 14 rfl) (vm_c (vm_at 15 rfl) (vm_c (vm_at 3 rfl) (vm_c (vm_at 16 rfl) (vm_c (vm_at 17 rfl) (vm_c (vm_at 18 rfl) (vm_c (vm_at 19 rfl) vm_n))))))) (fun w h => (List.mem_cons_of_mem _ (List.mem_append_right _ h))))) (by decide +kernel)
set_option maxRecDepth 20000 in
theorem gX0_markOf_X0_knowsOf : GoodIn wsX0_markOf (va_wsS RX0 41 yX0_knowsOf wsX0_knowsOf) := goodIn_app (goodIn_sub (vm_c (vm_at 10 rfl) (vm_c (vm_at 11 rfl) (vm_c (vm_at 12 rfl) vm_n))) (by decide +kernel)) ggX0_markOf_X0_knowsOf
set_option maxRecDepth 20000 in
theorem ggX0_markOf_X0_meanOfKnows : GoodIn wsX0_markOf wsX0_meanOfKnows := goodIn_sub (vm_c (vm_at 22 rfl) (vm_a (vm_c (vm_at 14 rfl) (vm_c (vm_at 10 rfl) (vm_c (vm_at 11 rfl) (vm_c (vm_at 12 rfl) (vm_c (vm_at 13 rfl) (vm_c (vm_at 15 rfl) (vm_c (vm_at 3 rfl) (vm_c (vm_at 16 rfl) (vm_c (vm_at 17 rfl) (vm_c (vm_at 18 rfl) (vm_c (vm_at 19 rfl) vm_n))))))))))) (fun w h => (List.mem_cons_of_mem _ (List.mem_append_right _ h))))) (by decide +kernel)
set_option maxRecDepth 20000 in
theorem gX0_markOf_X0_meanOfKnows : GoodIn wsX0_markOf (va_wsS RX0 50 yX0_meanOfKnows wsX0_meanOfKnows) := goodIn_app (goodIn_sub (vm_c (vm_at 20 rfl) (vm_c (vm_at 21 rfl) (vm_c (vm_at 12 rfl) vm_n))) (by decide +kernel)) ggX0_markOf_X0_meanOfKnows
set_option maxRecDepth 20000 in
theorem ggX0_markOf_X0_leastOfKnows : GoodIn wsX0_markOf wsX0_leastOfKnows := goodIn_sub (vm_c (vm_at 25 rfl) (vm_a (vm_c (vm_at 14 rfl) (vm_c (vm_at 26 rfl) (vm_c (vm_at 27 rfl) (vm_c (vm_at 28 rfl) (vm_c (vm_at 29 rfl) (vm_c (vm_at 10 rfl) (vm_c (vm_at 11 rfl) (vm_c (vm_at 12 rfl) (vm_c (vm_at 13 rfl) (vm_c (vm_at 15 rfl) (vm_c (vm_at 3 rfl) (vm_c (vm_at 16 rfl) (vm_c (vm_at 17 rfl) (vm_c (vm_at 18 rfl) (vm_c (vm_at 19 rfl) vm_n))))))))))))))) (fun w h => (List.mem_cons_of_mem _ (List.mem_append_right _ h))))) (by decide +kernel)
set_option maxRecDepth 20000 in
theorem gX0_markOf_X0_leastOfKnows : GoodIn wsX0_markOf (va_wsS RX0 54 yX0_leastOfKnows wsX0_leastOfKnows) := goodIn_app (goodIn_sub (vm_c (vm_at 23 rfl) (vm_c (vm_at 24 rfl) (vm_c (vm_at 12 rfl) vm_n))) (by decide +kernel)) ggX0_markOf_X0_leastOfKnows
set_option maxRecDepth 20000 in
theorem ggX0_meanOfKnows_X0_knowsOf : GoodIn wsX0_meanOfKnows wsX0_knowsOf := goodIn_sub (vm_c (vm_at 5 rfl) (vm_a (vm_c (vm_at 1 rfl) (vm_c (vm_at 6 rfl) (vm_c (vm_at 7 rfl) (vm_c (vm_at 8 rfl) (vm_c (vm_at 9 rfl) (vm_c (vm_at 10 rfl) (vm_c (vm_at 11 rfl) vm_n))))))) (fun w h => (List.mem_cons_of_mem _ (List.mem_append_right _ h))))) (by decide +kernel)
set_option maxRecDepth 20000 in
theorem gX0_meanOfKnows_X0_knowsOf : GoodIn wsX0_meanOfKnows (va_wsS RX0 41 yX0_knowsOf wsX0_knowsOf) := goodIn_app (goodIn_sub (vm_c (vm_at 2 rfl) (vm_c (vm_at 3 rfl) (vm_c (vm_at 4 rfl) vm_n))) (by decide +kernel)) ggX0_meanOfKnows_X0_knowsOf
set_option maxRecDepth 20000 in
theorem ggX0_leastOfKnows_X0_knowsOf : GoodIn wsX0_leastOfKnows wsX0_knowsOf := goodIn_sub (vm_c (vm_at 9 rfl) (vm_a (vm_c (vm_at 1 rfl) (vm_c (vm_at 10 rfl) (vm_c (vm_at 11 rfl) (vm_c (vm_at 12 rfl) (vm_c (vm_at 13 rfl) (vm_c (vm_at 14 rfl) (vm_c (vm_at 15 rfl) vm_n))))))) (fun w h => (List.mem_cons_of_mem _ (List.mem_append_right _ h))))) (by decide +kernel)
set_option maxRecDepth 20000 in
theorem gX0_leastOfKnows_X0_knowsOf : GoodIn wsX0_leastOfKnows (va_wsS RX0 41 yX0_knowsOf wsX0_knowsOf) := goodIn_app (goodIn_sub (vm_c (vm_at 6 rfl) (vm_c (vm_at 7 rfl) (vm_c (vm_at 8 rfl) vm_n))) (by decide +kernel)) ggX0_leastOfKnows_X0_knowsOf
set_option maxRecDepth 20000 in
theorem ggX0_sumOfMarks_X0_markOf : GoodIn wsX0_sumOfMarks wsX0_markOf := goodIn_sub (vm_c (vm_at 6 rfl) (vm_a (vm_a (vm_c (vm_at 1 rfl) (vm_c (vm_at 7 rfl) (vm_c (vm_at 8 rfl) (vm_c (vm_at 9 rfl) (vm_c (vm_at 10 rfl) (vm_c (vm_at 11 rfl) (vm_c (vm_at 12 rfl) (vm_c (vm_at 13 rfl) (vm_c (vm_at 14 rfl) (vm_c (vm_at 15 rfl) (vm_c (vm_at 16 rfl) (vm_c (vm_at 5 rfl) (vm_c (vm_at 17 rfl) (vm_c (vm_at 2 rfl) (vm_c (vm_at 18 rfl) (vm_c (vm_at 19 rfl) (vm_c (vm_at 20 rfl) (vm_c (vm_at 21 rfl) (vm_c (vm_at 22 rfl) (vm_c (vm_at 23 rfl) (vm_c (vm_at 24 rfl) (vm_c (vm_at 25 rfl) (vm_c (vm_at 26 rfl) (vm_c (vm_at 27 rfl) vm_n)))))))))))))))))))))))) (vm_c (vm_at 28 rfl) (vm_c (vm_at 29 rfl) (vm_c (vm_at 30 rfl) (vm_c (vm_at 31 rfl) (vm_c (vm_at 32 rfl) vm_n)))))) (fun w h => (List.mem_cons_of_mem _ (List.mem_append_right _ h))))) (by decide +kernel)
set_option maxRecDepth 20000 in
theorem gX0_sumOfMarks_X0_markOf : GoodIn wsX0_sumOfMarks (va_wsS RX0 63 yX0_markOf wsX0_markOf) := goodIn_app (goodIn_sub (vm_c (vm_at 3 rfl) (vm_c (vm_at 4 rfl) (vm_c (vm_at 5 rfl) vm_n))) (by decide +kernel)) ggX0_sumOfMarks_X0_markOf
set_option maxRecDepth 20000 in
theorem ggX0_passedBits_X0_markOf : GoodIn wsX0_passedBits wsX0_markOf := goodIn_sub (vm_c (vm_at 6 rfl) (vm_a (vm_a (vm_c (vm_at 7 rfl) (vm_c (vm_at 8 rfl) (vm_c (vm_at 9 rfl) (vm_c (vm_at 10 rfl) (vm_c (vm_at 11 rfl) (vm_c (vm_at 12 rfl) (vm_c (vm_at 13 rfl) (vm_c (vm_at 14 rfl) (vm_c (vm_at 15 rfl) (vm_c (vm_at 16 rfl) (vm_c (vm_at 17 rfl) (vm_c (vm_at 5 rfl) (vm_c (vm_at 18 rfl) (vm_c (vm_at 1 rfl) (vm_c (vm_at 19 rfl) (vm_c (vm_at 20 rfl) (vm_c (vm_at 21 rfl) (vm_c (vm_at 22 rfl) (vm_c (vm_at 23 rfl) (vm_c (vm_at 24 rfl) (vm_c (vm_at 25 rfl) (vm_c (vm_at 26 rfl) (vm_c (vm_at 27 rfl) (vm_c (vm_at 28 rfl) vm_n)))))))))))))))))))))))) (vm_c (vm_at 29 rfl) (vm_c (vm_at 30 rfl) (vm_c (vm_at 31 rfl) (vm_c (vm_at 32 rfl) (vm_c (vm_at 33 rfl) vm_n)))))) (fun w h => (List.mem_cons_of_mem _ (List.mem_append_right _ h))))) (by decide +kernel)
set_option maxRecDepth 20000 in
theorem gX0_passedBits_X0_markOf : GoodIn wsX0_passedBits (va_wsS RX0 63 yX0_markOf wsX0_markOf) := goodIn_app (goodIn_sub (vm_c (vm_at 3 rfl) (vm_c (vm_at 4 rfl) (vm_c (vm_at 5 rfl) vm_n))) (by decide +kernel)) ggX0_passedBits_X0_markOf
set_option maxRecDepth 20000 in
theorem ggX0_greaterBits_X0_markOf : GoodIn wsX0_greaterBits wsX0_markOf := goodIn_sub (vm_c (vm_at 5 rfl) (vm_a (vm_a (vm_c (vm_at 6 rfl) (vm_c (vm_at 7 rfl) (vm_c (vm_at 8 rfl) (vm_c (vm_at 9 rfl) (vm_c (vm_at 10 rfl) (vm_c (vm_at 11 rfl) (vm_c (vm_at 12 rfl) (vm_c (vm_at 13 rfl) (vm_c (vm_at 14 rfl) (vm_c (vm_at 15 rfl) (vm_c (vm_at 16 rfl) (vm_c (vm_at 4 rfl) (vm_c (vm_at 17 rfl) (vm_c (vm_at 1 rfl) (vm_c (vm_at 18 rfl) (vm_c (vm_at 19 rfl) (vm_c (vm_at 20 rfl) (vm_c (vm_at 21 rfl) (vm_c (vm_at 22 rfl) (vm_c (vm_at 23 rfl) (vm_c (vm_at 24 rfl) (vm_c (vm_at 25 rfl) (vm_c (vm_at 26 rfl) (vm_c (vm_at 27 rfl) vm_n)))))))))))))))))))))))) (vm_c (vm_at 28 rfl) (vm_c (vm_at 29 rfl) (vm_c (vm_at 30 rfl) (vm_c (vm_at 31 rfl) (vm_c (vm_at 32 rfl) vm_n)))))) (fun w h => (List.mem_cons_of_mem _ (List.mem_append_right _ h))))) (by decide +kernel)
set_option maxRecDepth 20000 in
theorem gX0_greaterBits_X0_markOf : GoodIn wsX0_greaterBits (va_wsS RX0 63 yX0_markOf wsX0_markOf) := goodIn_app (goodIn_sub (vm_c (vm_at 2 rfl) (vm_c (vm_at 3 rfl) (vm_c (vm_at 4 rfl) vm_n))) (by decide +kernel)) ggX0_greaterBits_X0_markOf
set_option maxRecDepth 20000 in
theorem ggX1_add_X1_isFull : GoodIn wsX1_add wsX1_isFull := goodIn_sub (vm_c (vm_at 7 rfl) (vm_a (vm_c (vm_at 2 rfl) (vm_c (vm_at 1 rfl) vm_n)) (fun w h => (List.mem_cons_of_mem _ (List.mem_append_right _ h))))) (by decide +kernel)
set_option maxRecDepth 20000 in
theorem gX1_add_X1_isFull : GoodIn wsX1_add (wsV RX1 23 RX1 yX1_isFull wsX1_isFull) := goodIn_app (goodIn_sub (vm_c (vm_at 3 rfl) (vm_c (vm_at 4 rfl) (vm_c (vm_at 5 rfl) (vm_c (vm_at 6 rfl) vm_n)))) (by decide +kernel)) ggX1_add_X1_isFull
set_option maxRecDepth 20000 in
theorem ggX2_init_X1_init : GoodIn wsX2_init wsX1_init := goodIn_sub (vm_c (vm_at 11 rfl) (vm_a (vm_c (vm_at 12 rfl) (vm_c (vm_at 2 rfl) (vm_c (vm_at 3 rfl) (vm_c (vm_at 13 rfl) (vm_c (vm_at 14 rfl) (vm_c (vm_at 15 rfl) (vm_c (vm_at 16 rfl) (vm_c (vm_at 17 rfl) (vm_c (vm_at 18 rfl) (vm_c (vm_at 19 rfl) vm_n)))))))))) (fun w h => (List.mem_cons_of_mem _ (List.mem_append_left _ (List.mem_append_right _ h)))))) (by decide +kernel)
set_option maxRecDepth 20000 in
theorem gX2_init_X1_init : GoodIn wsX2_init (wsX1_init) := ggX2_init_X1_init
set_option maxRecDepth 20000 in
theorem ggX2_read_X2_passStatement : GoodIn wsX2_read wsX2_passStatement := goodIn_sub (vm_c (vm_at 8 rfl) (vm_a (vm_a (vm_c (vm_at 1 rfl) (vm_c (vm_at 2 rfl) (vm_c (vm_at 9 rfl) (vm_c (vm_at 10 rfl) (vm_c (vm_at 11 rfl) (vm_c (vm_at 12 rfl) (vm_c (vm_at 13 rfl) (vm_c (vm_at 14 rfl) (vm_c (vm_at 15 rfl) (vm_c (vm_at 16 rfl) (vm_c (vm_at 17 rfl) (vm_c (vm_at 7 rfl) (vm_c (vm_at 18 rfl) (vm_c (vm_at 19 rfl) (vm_c (vm_at 20 rfl) (vm_c (vm_at 21 rfl) (vm_c (vm_at 22 rfl) (vm_c (vm_at 23 rfl) (vm_c (vm_at 24 rfl) vm_n))))))))))))))))))) (fun w h => (List.mem_cons_of_mem _ (List.mem_append_left _ (List.mem_append_left _ (List.mem_append_right _ h)))))) (fun w h => (List.mem_cons_of_mem _ (List.mem_append_left _ (List.mem_append_right _ h)))))) (by decide +kernel)
set_option maxRecDepth 20000 in
theorem gX2_read_X2_passStatement : GoodIn wsX2_read (wsV RX2 27 RX2 yX2_passStatement wsX2_passStatement) := goodIn_app (goodIn_sub (vm_c (vm_at 4 rfl) (vm_c (vm_at 5 rfl) (vm_c (vm_at 6 rfl) (vm_c (vm_at 7 rfl) vm_n)))) (by decide +kernel)) ggX2_read_X2_passStatement
set_option maxRecDepth 20000 in
theorem ggX2_read_X2_tell : GoodIn wsX2_read wsX2_tell := goodIn_sub (vm_c (vm_at 28 rfl) (vm_a (vm_a (vm_a (vm_a (vm_c (vm_at 2 rfl) (vm_c (vm_at 1 rfl) (vm_c (vm_at 29 rfl) (vm_c (vm_at 30 rfl) (vm_c (vm_at 31 rfl) (vm_c (vm_at 32 rfl) (vm_c (vm_at 7 rfl) (vm_c (vm_at 33 rfl) (vm_c (vm_at 9 rfl) (vm_c (vm_at 10 rfl) (vm_c (vm_at 11 rfl) (vm_c (vm_at 12 rfl) (vm_c (vm_at 13 rfl) (vm_c (vm_at 14 rfl) (vm_c (vm_at 15 rfl) (vm_c (vm_at 19 rfl) (vm_c (vm_at 20 rfl) (vm_c (vm_at 21 rfl) (vm_c (vm_at 34 rfl) (vm_c (vm_at 35 rfl) (vm_c (vm_at 36 rfl) (vm_c (vm_at 37 rfl) (vm_c (vm_at 38 rfl) (vm_c (vm_at 39 rfl) vm_n)))))))))))))))))))))))) (vm_a (vm_c (vm_at 40 rfl) (vm_c (vm_at 41 rfl) (vm_c (vm_at 42 rfl) (vm_c (vm_at 43 rfl) (vm_c (vm_at 44 rfl) (vm_c (vm_at 45 rfl) (vm_c (vm_at 46 rfl) (vm_c (vm_at 47 rfl) (vm_c (vm_at 48 rfl) (vm_c (vm_at 49 rfl) (vm_c (vm_at 50 rfl) (vm_c (vm_at 51 rfl) (vm_c (vm_at 52 rfl) (vm_c (vm_at 53 rfl) (vm_c (vm_at 54 rfl) (vm_c (vm_at 55 rfl) (vm_c (vm_at 56 rfl) (vm_c (vm_at 57 rfl) (vm_c (vm_at 58 rfl) (vm_c (vm_at 59 rfl) (vm_c (vm_at 60 rfl) (vm_c (vm_at 61 rfl) (vm_c (vm_at 62 rfl) (vm_c (vm_at 63 rfl) vm_n)))))))))))))))))))))))) (vm_a (vm_c (vm_at 64 rfl) (vm_c (vm_at 65 rfl) (vm_c (vm_at 66 rfl) (vm_c (vm_at 67 rfl) (vm_c (vm_at 68 rfl) (vm_c (vm_at 69 rfl) (vm_c (vm_at 70 rfl) (vm_c (vm_at 71 rfl) (vm_c (vm_at 72 rfl) (vm_c (vm_at 73 rfl) (vm_c (vm_at 74 rfl) (vm_c (vm_at 75 rfl) (vm_c (vm_at 76 rfl) (vm_c (vm_at 77 rfl) (vm_c (vm_at 78 rfl) (vm_c (vm_at 79 rfl) (vm_c (vm_at 80 rfl) (vm_c (vm_at 81 rfl) (vm_c (vm_at 82 rfl) (vm_c (vm_at 83 rfl) (vm_c (vm_at 84 rfl) (vm_c (vm_at 85 rfl) (vm_c (vm_at 86 rfl) (vm_c (vm_at 87 rfl) vm_n)))))))))))))))))))))))) (vm_c (vm_at 88 rfl) (vm_c (vm_at 89 rfl) (vm_c (vm_at 22 rfl) (vm_c (vm_at 23 rfl) (vm_c (vm_at 24 rfl) vm_n)))))))) (fun w h => (List.mem_cons_of_mem _ (List.mem_append_left _ (List.mem_append_left _ (List.mem_append_right _ h)))))) (fun w h => (List.mem_cons_of_mem _ (List.mem_append_right _ h)))) (fun w h => (List.mem_cons_of_mem _ (List.mem_append_left _ (List.mem_append_right _ h)))))) (by decide +kernel)
set_option maxRecDepth 20000 in
theorem gX2_read_X2_tell : GoodIn wsX2_read (wsV RX2 31 RX2 yX2_tell wsX2_tell) := goodIn_app (goodIn_sub (vm_c (vm_at 25 rfl) (vm_c (vm_at 26 rfl) (vm_c (vm_at 27 rfl) (vm_c (vm_at 7 rfl) vm_n)))) (by decide +kernel)) ggX2_read_X2_tell
set_option maxRecDepth 20000 in
theorem ggX2_passStatement_X1_at : GoodIn wsX2_passStatement wsX1_at := goodIn_sub (vm_c (vm_at 7 rfl) (vm_a (vm_c (vm_at 8 rfl) (vm_c (vm_at 9 rfl) vm_n)) (fun w h => (List.mem_cons_of_mem _ (List.mem_append_right _ h))))) (by decide +kernel)
set_option maxRecDepth 20000 in
theorem gX2_passStatement_X1_at : GoodIn wsX2_passStatement (wsV RX2 35 RX1 yX1_at wsX1_at) := goodIn_app (goodIn_sub (vm_c (vm_at 3 rfl) (vm_c (vm_at 4 rfl) (vm_c (vm_at 5 rfl) (vm_c (vm_at 6 rfl) vm_n)))) (by decide +kernel)) ggX2_passStatement_X1_at
set_option maxRecDepth 20000 in
theorem ggX2_passStatement_X2_lettersBehind : GoodIn wsX2_passStatement wsX2_lettersBehind := goodIn_sub (vm_c (vm_at 13 rfl) vm_n) (by decide +kernel)
set_option maxRecDepth 20000 in
theorem gX2_passStatement_X2_lettersBehind : GoodIn wsX2_passStatement (va_wsS RX2 39 yX2_lettersBehind wsX2_lettersBehind) := goodIn_app (goodIn_sub (vm_c (vm_at 10 rfl) (vm_c (vm_at 11 rfl) (vm_c (vm_at 12 rfl) vm_n))) (by decide +kernel)) ggX2_passStatement_X2_lettersBehind
set_option maxRecDepth 20000 in
theorem ggX2_passStatement_X2_kindOf : GoodIn wsX2_passStatement wsX2_kindOf := goodIn_sub (vm_c (vm_at 16 rfl) vm_n) (by decide +kernel)
set_option maxRecDepth 20000 in
theorem gX2_passStatement_X2_kindOf : GoodIn wsX2_passStatement (va_wsS RX2 42 yX2_kindOf wsX2_kindOf) := goodIn_app (goodIn_sub (vm_c (vm_at 14 rfl) (vm_c (vm_at 15 rfl) (vm_c (vm_at 12 rfl) vm_n))) (by decide +kernel)) ggX2_passStatement_X2_kindOf
set_option maxRecDepth 20000 in
theorem ggX2_passStatement_X2_isDigit : GoodIn wsX2_passStatement wsX2_isDigit := goodIn_sub (vm_c (vm_at 19 rfl) vm_n) (by decide +kernel)
set_option maxRecDepth 20000 in
theorem gX2_passStatement_X2_isDigit : GoodIn wsX2_passStatement (va_wsS RX2 45 yX2_isDigit wsX2_isDigit) := goodIn_app (goodIn_sub (vm_c (vm_at 17 rfl) (vm_c (vm_at 18 rfl) (vm_c (vm_at 12 rfl) vm_n))) (by decide +kernel)) ggX2_passStatement_X2_isDigit
set_option maxRecDepth 20000 in
theorem ggX2_digitAt_X1_at : GoodIn wsX2_digitAt wsX1_at := goodIn_sub (vm_c (vm_at 6 rfl) (vm_a (vm_c (vm_at 7 rfl) (vm_c (vm_at 8 rfl) vm_n)) (fun w h => (List.mem_cons_of_mem _ (List.mem_append_right _ h))))) (by decide +kernel)
set_option maxRecDepth 20000 in
theorem gX2_digitAt_X1_at : GoodIn wsX2_digitAt (wsV RX2 35 RX1 yX1_at wsX1_at) := goodIn_app (goodIn_sub (vm_c (vm_at 2 rfl) (vm_c (vm_at 3 rfl) (vm_c (vm_at 4 rfl) (vm_c (vm_at 5 rfl) vm_n)))) (by decide +kernel)) ggX2_digitAt_X1_at
set_option maxRecDepth 20000 in
theorem ggX2_tell_X2_digitAt : GoodIn wsX2_tell wsX2_digitAt := goodIn_sub (vm_c (vm_at 8 rfl) (vm_a (vm_a (vm_c (vm_at 2 rfl) (vm_c (vm_at 9 rfl) (vm_c (vm_at 10 rfl) (vm_c (vm_at 11 rfl) (vm_c (vm_at 12 rfl) (vm_c (vm_at 13 rfl) (vm_c (vm_at 14 rfl) (vm_c (vm_at 15 rfl) vm_n)))))))) (fun w h => (List.mem_cons_of_mem _ (List.mem_append_left _ (List.mem_append_left _ (List.mem_append_right _ h)))))) (fun w h => (List.mem_cons_of_mem _ (List.mem_append_right _ h))))) (by decide +kernel)
set_option maxRecDepth 20000 in
theorem gX2_tell_X2_digitAt : GoodIn wsX2_tell (wsV RX2 53 RX2 yX2_digitAt wsX2_digitAt) := goodIn_app (goodIn_sub (vm_c (vm_at 4 rfl) (vm_c (vm_at 5 rfl) (vm_c (vm_at 6 rfl) (vm_c (vm_at 7 rfl) vm_n)))) (by decide +kernel)) ggX2_tell_X2_digitAt
set_option maxRecDepth 20000 in
theorem ggX2_tell_X1_at : GoodIn wsX2_tell wsX1_at := goodIn_sub (vm_c (vm_at 13 rfl) (vm_a (vm_c (vm_at 14 rfl) (vm_c (vm_at 15 rfl) vm_n)) (fun w h => (List.mem_cons_of_mem _ (List.mem_append_right _ h))))) (by decide +kernel)
set_option maxRecDepth 20000 in
theorem gX2_tell_X1_at : GoodIn wsX2_tell (wsV RX2 35 RX1 yX1_at wsX1_at) := goodIn_app (goodIn_sub (vm_c (vm_at 9 rfl) (vm_c (vm_at 10 rfl) (vm_c (vm_at 11 rfl) (vm_c (vm_at 12 rfl) vm_n)))) (by decide +kernel)) ggX2_tell_X1_at
set_option maxRecDepth 20000 in
theorem ggX2_tell_X2_kindOf : GoodIn wsX2_tell wsX2_kindOf := goodIn_sub (vm_c (vm_at 18 rfl) vm_n) (by decide +kernel)
set_option maxRecDepth 20000 in
theorem gX2_tell_X2_kindOf : GoodIn wsX2_tell (va_wsS RX2 42 yX2_kindOf wsX2_kindOf) := goodIn_app (goodIn_sub (vm_c (vm_at 16 rfl) (vm_c (vm_at 17 rfl) (vm_c (vm_at 7 rfl) vm_n))) (by decide +kernel)) ggX2_tell_X2_kindOf
set_option maxRecDepth 20000 in
theorem ggX2_tell_X3_addPupil : GoodIn wsX2_tell wsX3_addPupil := goodIn_sub (vm_c (vm_at 23 rfl) (vm_a (vm_a (vm_c (vm_at 24 rfl) (vm_c (vm_at 25 rfl) (vm_c (vm_at 26 rfl) (vm_c (vm_at 27 rfl) (vm_c (vm_at 28 rfl) (vm_c (vm_at 29 rfl) (vm_c (vm_at 30 rfl) (vm_c (vm_at 31 rfl) (vm_c (vm_at 32 rfl) (vm_c (vm_at 33 rfl) (vm_c (vm_at 22 rfl) (vm_c (vm_at 34 rfl) (vm_c (vm_at 35 rfl) (vm_c (vm_at 36 rfl) (vm_c (vm_at 37 rfl) (vm_c (vm_at 38 rfl) (vm_c (vm_at 39 rfl) (vm_c (vm_at 40 rfl) (vm_c (vm_at 41 rfl) (vm_c (vm_at 42 rfl) (vm_c (vm_at 43 rfl) (vm_c (vm_at 44 rfl) (vm_c (vm_at 45 rfl) (vm_c (vm_at 46 rfl) vm_n)))))))))))))))))))))))) (vm_c (vm_at 47 rfl) vm_n)) (fun w h => (List.mem_cons_of_mem _ (List.mem_append_left _ (List.mem_append_right _ h)))))) (by decide +kernel)
set_option maxRecDepth 20000 in
theorem gX2_tell_X3_addPupil : GoodIn wsX2_tell (wsV RX2 56 RX3 yX3_addPupil wsX3_addPupil) := goodIn_app (goodIn_sub (vm_c (vm_at 19 rfl) (vm_c (vm_at 20 rfl) (vm_c (vm_at 21 rfl) (vm_c (vm_at 22 rfl) vm_n)))) (by decide +kernel)) ggX2_tell_X3_addPupil
set_option maxRecDepth 20000 in
theorem ggX2_tell_X3_setHours : GoodIn wsX2_tell wsX3_setHours := goodIn_sub (vm_c (vm_at 51 rfl) (vm_a (vm_c (vm_at 29 rfl) (vm_c (vm_at 24 rfl) (vm_c (vm_at 31 rfl) (vm_c (vm_at 32 rfl) (vm_c (vm_at 33 rfl) (vm_c (vm_at 22 rfl) (vm_c (vm_at 34 rfl) (vm_c (vm_at 35 rfl) (vm_c (vm_at 36 rfl) (vm_c (vm_at 37 rfl) (vm_c (vm_at 38 rfl) (vm_c (vm_at 39 rfl) (vm_c (vm_at 40 rfl) vm_n))))))))))))) (fun w h => (List.mem_cons_of_mem _ (List.mem_append_left _ (List.mem_append_right _ h)))))) (by decide +kernel)
set_option maxRecDepth 20000 in
theorem gX2_tell_X3_setHours : GoodIn wsX2_tell (wsV RX2 62 RX3 yX3_setHours wsX3_setHours) := goodIn_app (goodIn_sub (vm_c (vm_at 48 rfl) (vm_c (vm_at 49 rfl) (vm_c (vm_at 50 rfl) (vm_c (vm_at 22 rfl) vm_n)))) (by decide +kernel)) ggX2_tell_X3_setHours
set_option maxRecDepth 20000 in
theorem ggX2_tell_X2_tellLaw : GoodIn wsX2_tell wsX2_tellLaw := goodIn_sub (vm_c (vm_at 54 rfl) (vm_a (vm_c (vm_at 55 rfl) (vm_c (vm_at 56 rfl) (vm_c (vm_at 57 rfl) (vm_c (vm_at 58 rfl) vm_n)))) (fun w h => (List.mem_cons_of_mem _ (List.mem_append_left _ (List.mem_append_right _ h)))))) (by decide +kernel)
set_option maxRecDepth 20000 in
theorem gX2_tell_X2_tellLaw : GoodIn wsX2_tell (va_wsS RX2 65 yX2_tellLaw wsX2_tellLaw) := goodIn_app (goodIn_sub (vm_c (vm_at 52 rfl) (vm_c (vm_at 53 rfl) (vm_c (vm_at 7 rfl) vm_n))) (by decide +kernel)) ggX2_tell_X2_tellLaw
set_option maxRecDepth 20000 in
theorem ggX2_tell_X3_setRing : GoodIn wsX2_tell wsX3_setRing := goodIn_sub (vm_c (vm_at 62 rfl) (vm_a (vm_c (vm_at 45 rfl) (vm_c (vm_at 41 rfl) (vm_c (vm_at 42 rfl) (vm_c (vm_at 43 rfl) (vm_c (vm_at 22 rfl) (vm_c (vm_at 44 rfl) (vm_c (vm_at 24 rfl) (vm_c (vm_at 30 rfl) (vm_c (vm_at 46 rfl) (vm_c (vm_at 47 rfl) (vm_c (vm_at 37 rfl) (vm_c (vm_at 38 rfl) (vm_c (vm_at 39 rfl) (vm_c (vm_at 40 rfl) vm_n)))))))))))))) (fun w h => (List.mem_cons_of_mem _ (List.mem_append_left _ (List.mem_append_right _ h)))))) (by decide +kernel)
set_option maxRecDepth 20000 in
theorem gX2_tell_X3_setRing : GoodIn wsX2_tell (wsV RX2 69 RX3 yX3_setRing wsX3_setRing) := goodIn_app (goodIn_sub (vm_c (vm_at 59 rfl) (vm_c (vm_at 60 rfl) (vm_c (vm_at 61 rfl) (vm_c (vm_at 22 rfl) vm_n)))) (by decide +kernel)) ggX2_tell_X3_setRing
set_option maxRecDepth 20000 in
theorem ggX2_tell_X2_tellChange : GoodIn wsX2_tell wsX2_tellChange := goodIn_sub (vm_c (vm_at 65 rfl) (vm_a (vm_c (vm_at 66 rfl) (vm_c (vm_at 38 rfl) (vm_c (vm_at 39 rfl) (vm_c (vm_at 22 rfl) (vm_c (vm_at 40 rfl) (vm_c (vm_at 24 rfl) (vm_c (vm_at 67 rfl) (vm_c (vm_at 68 rfl) (vm_c (vm_at 69 rfl) (vm_c (vm_at 70 rfl) (vm_c (vm_at 30 rfl) (vm_c (vm_at 71 rfl) (vm_c (vm_at 72 rfl) (vm_c (vm_at 73 rfl) (vm_c (vm_at 74 rfl) (vm_c (vm_at 41 rfl) (vm_c (vm_at 42 rfl) (vm_c (vm_at 43 rfl) (vm_c (vm_at 44 rfl) (vm_c (vm_at 45 rfl) (vm_c (vm_at 46 rfl) (vm_c (vm_at 47 rfl) (vm_c (vm_at 37 rfl) vm_n))))))))))))))))))))))) (fun w h => (List.mem_cons_of_mem _ (List.mem_append_left _ (List.mem_append_right _ h)))))) (by decide +kernel)
set_option maxRecDepth 20000 in
theorem gX2_tell_X2_tellChange : GoodIn wsX2_tell (va_wsS RX2 73 yX2_tellChange wsX2_tellChange) := goodIn_app (goodIn_sub (vm_c (vm_at 63 rfl) (vm_c (vm_at 64 rfl) (vm_c (vm_at 7 rfl) vm_n))) (by decide +kernel)) ggX2_tell_X2_tellChange
set_option maxRecDepth 20000 in
theorem ggX2_tell_X2_isDigit : GoodIn wsX2_tell wsX2_isDigit := goodIn_sub (vm_c (vm_at 77 rfl) vm_n) (by decide +kernel)
set_option maxRecDepth 20000 in
theorem gX2_tell_X2_isDigit : GoodIn wsX2_tell (va_wsS RX2 45 yX2_isDigit wsX2_isDigit) := goodIn_app (goodIn_sub (vm_c (vm_at 75 rfl) (vm_c (vm_at 76 rfl) (vm_c (vm_at 7 rfl) vm_n))) (by decide +kernel)) ggX2_tell_X2_isDigit
set_option maxRecDepth 20000 in
theorem ggX2_tellLaw_X7_isLaw : GoodIn wsX2_tellLaw wsX7_isLaw := goodIn_sub (vm_c (vm_at 4 rfl) vm_n) (by decide +kernel)
set_option maxRecDepth 20000 in
theorem gX2_tellLaw_X7_isLaw_n80 : GoodIn wsX2_tellLaw (wsX7_isLaw) := ggX2_tellLaw_X7_isLaw
set_option maxRecDepth 20000 in
theorem ggX2_tellChange_X3_has : GoodIn wsX2_tellChange wsX3_has := goodIn_sub (vm_c (vm_at 5 rfl) (vm_a (vm_c (vm_at 6 rfl) vm_n) (fun w h => (List.mem_cons_of_mem _ (List.mem_append_right _ h))))) (by decide +kernel)
set_option maxRecDepth 20000 in
theorem gX2_tellChange_X3_has : GoodIn wsX2_tellChange (wsV RX2 86 RX3 yX3_has wsX3_has) := goodIn_app (goodIn_sub (vm_c (vm_at 1 rfl) (vm_c (vm_at 2 rfl) (vm_c (vm_at 3 rfl) (vm_c (vm_at 4 rfl) vm_n)))) (by decide +kernel)) ggX2_tellChange_X3_has
set_option maxRecDepth 20000 in
theorem ggX2_tellChange_X3_changeSeats : GoodIn wsX2_tellChange wsX3_changeSeats := goodIn_sub (vm_c (vm_at 10 rfl) (vm_a (vm_c (vm_at 11 rfl) (vm_c (vm_at 12 rfl) (vm_c (vm_at 13 rfl) (vm_c (vm_at 14 rfl) (vm_c (vm_at 4 rfl) (vm_c (vm_at 15 rfl) (vm_c (vm_at 6 rfl) (vm_c (vm_at 16 rfl) (vm_c (vm_at 17 rfl) (vm_c (vm_at 18 rfl) (vm_c (vm_at 19 rfl) (vm_c (vm_at 20 rfl) (vm_c (vm_at 21 rfl) (vm_c (vm_at 22 rfl) (vm_c (vm_at 23 rfl) (vm_c (vm_at 2 rfl) (vm_c (vm_at 3 rfl) (vm_c (vm_at 5 rfl) vm_n)))))))))))))))))) (fun w h => (List.mem_cons_of_mem _ (List.mem_append_right _ h))))) (by decide +kernel)
set_option maxRecDepth 20000 in
theorem gX2_tellChange_X3_changeSeats : GoodIn wsX2_tellChange (wsV RX2 89 RX3 yX3_changeSeats wsX3_changeSeats) := goodIn_app (goodIn_sub (vm_c (vm_at 7 rfl) (vm_c (vm_at 8 rfl) (vm_c (vm_at 9 rfl) (vm_c (vm_at 4 rfl) vm_n)))) (by decide +kernel)) ggX2_tellChange_X3_changeSeats
