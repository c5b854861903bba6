set_option maxRecDepth 20000 in
theorem ggX8_image_X8_move : GoodIn wsX8_image wsX8_move := goodIn_sub (vm_c (vm_at 7 rfl) vm_n) (by decide +kernel)
set_option maxRecDepth 20000 in
theorem gX8_image_X8_move : GoodIn wsX8_image (va_wsS RX8 67 yX8_move wsX8_move) := goodIn_app (goodIn_sub (vm_c (vm_at 4 rfl) (vm_c (vm_at 5 rfl) (vm_c (vm_at 6 rfl) vm_n))) (by decide +kernel)) ggX8_image_X8_move
set_option maxRecDepth 20000 in
theorem ggX8_on_X8_no : GoodIn wsX8_on wsX8_no := goodIn_sub (vm_c (vm_at 8 rfl) (vm_a (vm_c (vm_at 9 rfl) vm_n) (fun w h => (List.mem_cons_of_mem _ (List.mem_append_right _ h))))) (by decide +kernel)
set_option maxRecDepth 20000 in
theorem gX8_on_X8_no : GoodIn wsX8_on (wsV RX8 71 RX8 yX8_no wsX8_no) := goodIn_app (goodIn_sub (vm_c (vm_at 4 rfl) (vm_c (vm_at 5 rfl) (vm_c (vm_at 6 rfl) (vm_c (vm_at 7 rfl) vm_n)))) (by decide +kernel)) ggX8_on_X8_no
set_option maxRecDepth 20000 in
theorem ggX8_on_X8_move : GoodIn wsX8_on wsX8_move := goodIn_sub (vm_c (vm_at 12 rfl) vm_n) (by decide +kernel)
set_option maxRecDepth 20000 in
theorem gX8_on_X8_move : GoodIn wsX8_on (va_wsS RX8 67 yX8_move wsX8_move) := goodIn_app (goodIn_sub (vm_c (vm_at 10 rfl) (vm_c (vm_at 11 rfl) (vm_c (vm_at 7 rfl) vm_n))) (by decide +kernel)) ggX8_on_X8_move
set_option maxRecDepth 20000 in
theorem ggX8_letter_X8_no : GoodIn wsX8_letter wsX8_no := goodIn_sub (vm_c (vm_at 7 rfl) (vm_a (vm_c (vm_at 8 rfl) vm_n) (fun w h => (List.mem_cons_of_mem _ (List.mem_append_right _ h))))) (by decide +kernel)
set_option maxRecDepth 20000 in
theorem gX8_letter_X8_no : GoodIn wsX8_letter (wsV RX8 71 RX8 yX8_no wsX8_no) := goodIn_app (goodIn_sub (vm_c (vm_at 3 rfl) (vm_c (vm_at 4 rfl) (vm_c (vm_at 5 rfl) (vm_c (vm_at 6 rfl) vm_n)))) (by decide +kernel)) ggX8_letter_X8_no
set_option maxRecDepth 20000 in
theorem ggX8_statement_X8_oneOf : GoodIn wsX8_statement wsX8_oneOf := goodIn_sub (vm_c (vm_at 13 rfl) (vm_a (vm_c (vm_at 5 rfl) (vm_c (vm_at 6 rfl) (vm_c (vm_at 7 rfl) (vm_c (vm_at 8 rfl) vm_n)))) (fun w h => (List.mem_cons_of_mem _ (List.mem_append_right _ h))))) (by decide +kernel)
set_option maxRecDepth 20000 in
theorem gX8_statement_X8_oneOf : GoodIn wsX8_statement (wsV RX8 85 RX8 yX8_oneOf wsX8_oneOf) := goodIn_app (goodIn_sub (vm_c (vm_at 9 rfl) (vm_c (vm_at 10 rfl) (vm_c (vm_at 11 rfl) (vm_c (vm_at 12 rfl) vm_n)))) (by decide +kernel)) ggX8_statement_X8_oneOf
set_option maxRecDepth 20000 in
theorem ggX8_statement_X8_figures : GoodIn wsX8_statement wsX8_figures := goodIn_sub (vm_c (vm_at 17 rfl) (vm_a (vm_c (vm_at 5 rfl) (vm_c (vm_at 6 rfl) (vm_c (vm_at 7 rfl) (vm_c (vm_at 8 rfl) vm_n)))) (fun w h => (List.mem_cons_of_mem _ (List.mem_append_right _ h))))) (by decide +kernel)
set_option maxRecDepth 20000 in
theorem gX8_statement_X8_figures : GoodIn wsX8_statement (wsV RX8 92 RX8 yX8_figures wsX8_figures) := goodIn_app (goodIn_sub (vm_c (vm_at 14 rfl) (vm_c (vm_at 15 rfl) (vm_c (vm_at 16 rfl) (vm_c (vm_at 12 rfl) vm_n)))) (by decide +kernel)) ggX8_statement_X8_figures
set_option maxRecDepth 20000 in
theorem ggX8_come_X8_change : GoodIn wsX8_come wsX8_change := goodIn_sub (vm_c (vm_at 8 rfl) (vm_a (vm_c (vm_at 1 rfl) (vm_c (vm_at 9 rfl) (vm_c (vm_at 10 rfl) (vm_c (vm_at 11 rfl) (vm_c (vm_at 7 rfl) (vm_c (vm_at 12 rfl) vm_n)))))) (fun w h => (List.mem_cons_of_mem _ (List.mem_append_right _ h))))) (by decide +kernel)
set_option maxRecDepth 20000 in
theorem gX8_come_X8_change : GoodIn wsX8_come (wsV RX8 95 RX8 yX8_change wsX8_change) := goodIn_app (goodIn_sub (vm_c (vm_at 4 rfl) (vm_c (vm_at 5 rfl) (vm_c (vm_at 6 rfl) (vm_c (vm_at 7 rfl) vm_n)))) (by decide +kernel)) ggX8_come_X8_change
set_option maxRecDepth 20000 in
theorem ggX8_read_X8_statement : GoodIn wsX8_read wsX8_statement := goodIn_sub (vm_c (vm_at 10 rfl) (vm_a (vm_c (vm_at 11 rfl) (vm_c (vm_at 5 rfl) (vm_c (vm_at 12 rfl) (vm_c (vm_at 13 rfl) (vm_c (vm_at 2 rfl) (vm_c (vm_at 1 rfl) (vm_c (vm_at 3 rfl) (vm_c (vm_at 14 rfl) (vm_c (vm_at 15 rfl) (vm_c (vm_at 16 rfl) (vm_c (vm_at 17 rfl) (vm_c (vm_at 9 rfl) (vm_c (vm_at 18 rfl) (vm_c (vm_at 19 rfl) (vm_c (vm_at 20 rfl) (vm_c (vm_at 21 rfl) (vm_c (vm_at 22 rfl) vm_n))))))))))))))))) (fun w h => (List.mem_cons_of_mem _ (List.mem_append_right _ h))))) (by decide +kernel)
set_option maxRecDepth 20000 in
theorem gX8_read_X8_statement : GoodIn wsX8_read (wsV RX8 99 RX8 yX8_statement wsX8_statement) := goodIn_app (goodIn_sub (vm_c (vm_at 6 rfl) (vm_c (vm_at 7 rfl) (vm_c (vm_at 8 rfl) (vm_c (vm_at 9 rfl) vm_n)))) (by decide +kernel)) ggX8_read_X8_statement
set_option maxRecDepth 20000 in
theorem ggX8_read_X8_isAsItMustBe : GoodIn wsX8_read wsX8_isAsItMustBe := goodIn_sub (vm_c (vm_at 26 rfl) (vm_a (vm_c (vm_at 5 rfl) (vm_c (vm_at 12 rfl) vm_n)) (fun w h => (List.mem_cons_of_mem _ (List.mem_append_right _ h))))) (by decide +kernel)
set_option maxRecDepth 20000 in
theorem gX8_read_X8_isAsItMustBe : GoodIn wsX8_read (wsV RX8 102 RX8 yX8_isAsItMustBe wsX8_isAsItMustBe) := goodIn_app (goodIn_sub (vm_c (vm_at 23 rfl) (vm_c (vm_at 24 rfl) (vm_c (vm_at 25 rfl) (vm_c (vm_at 9 rfl) vm_n)))) (by decide +kernel)) ggX8_read_X8_isAsItMustBe
set_option maxRecDepth 20000 in
theorem ggX8_read_X8_come : GoodIn wsX8_read wsX8_come := goodIn_sub (vm_c (vm_at 30 rfl) (vm_a (vm_c (vm_at 4 rfl) (vm_c (vm_at 5 rfl) (vm_c (vm_at 12 rfl) (vm_c (vm_at 31 rfl) (vm_c (vm_at 32 rfl) (vm_c (vm_at 33 rfl) (vm_c (vm_at 9 rfl) (vm_c (vm_at 34 rfl) (vm_c (vm_at 35 rfl) (vm_c (vm_at 36 rfl) (vm_c (vm_at 37 rfl) (vm_c (vm_at 38 rfl) vm_n)))))))))))) (fun w h => (List.mem_cons_of_mem _ (List.mem_append_right _ h))))) (by decide +kernel)
set_option maxRecDepth 20000 in
theorem gX8_read_X8_come : GoodIn wsX8_read (wsV RX8 106 RX8 yX8_come wsX8_come) := goodIn_app (goodIn_sub (vm_c (vm_at 27 rfl) (vm_c (vm_at 28 rfl) (vm_c (vm_at 29 rfl) (vm_c (vm_at 9 rfl) vm_n)))) (by decide +kernel)) ggX8_read_X8_come
set_option maxRecDepth 20000 in
theorem ggX8_school_X8_read : GoodIn wsX8_school wsX8_read := goodIn_sub (vm_c (vm_at 6 rfl) (vm_a (vm_a (vm_c (vm_at 7 rfl) (vm_c (vm_at 8 rfl) (vm_c (vm_at 1 rfl) (vm_c (vm_at 9 rfl) (vm_c (vm_at 10 rfl) (vm_c (vm_at 11 rfl) (vm_c (vm_at 12 rfl) (vm_c (vm_at 13 rfl) (vm_c (vm_at 5 rfl) (vm_c (vm_at 14 rfl) (vm_c (vm_at 15 rfl) (vm_c (vm_at 16 rfl) (vm_c (vm_at 17 rfl) (vm_c (vm_at 18 rfl) (vm_c (vm_at 19 rfl) (vm_c (vm_at 20 rfl) (vm_c (vm_at 21 rfl) (vm_c (vm_at 22 rfl) (vm_c (vm_at 23 rfl) (vm_c (vm_at 24 rfl) (vm_c (vm_at 25 rfl) (vm_c (vm_at 26 rfl) (vm_c (vm_at 27 rfl) (vm_c (vm_at 28 rfl) vm_n)))))))))))))))))))))))) (vm_c (vm_at 29 rfl) (vm_c (vm_at 30 rfl) (vm_c (vm_at 31 rfl) (vm_c (vm_at 32 rfl) (vm_c (vm_at 33 rfl) (vm_c (vm_at 34 rfl) (vm_c (vm_at 35 rfl) (vm_c (vm_at 36 rfl) (vm_c (vm_at 37 rfl) (vm_c (vm_at 38 rfl) (vm_c (vm_at 39 rfl) (vm_c (vm_at 40 rfl) (vm_c (vm_at 41 rfl) (vm_c (vm_at 42 rfl) vm_n))))))))))))))) (fun w h => (List.mem_cons_of_mem _ (List.mem_append_right _ h))))) (by decide +kernel)
set_option maxRecDepth 20000 in
theorem gX8_school_X8_read : GoodIn wsX8_school (wsV RX8 109 RX8 yX8_read wsX8_read) := goodIn_app (goodIn_sub (vm_c (vm_at 2 rfl) (vm_c (vm_at 3 rfl) (vm_c (vm_at 4 rfl) (vm_c (vm_at 5 rfl) vm_n)))) (by decide +kernel)) ggX8_school_X8_read
set_option maxRecDepth 20000 in
theorem ggX8_change_X8_seatOf : GoodIn wsX8_change wsX8_seatOf := goodIn_sub (vm_c (vm_at 6 rfl) (vm_a (vm_c (vm_at 1 rfl) vm_n) (fun w h => (List.mem_cons_of_mem _ (List.mem_append_right _ h))))) (by decide +kernel)
set_option maxRecDepth 20000 in
theorem gX8_change_X8_seatOf : GoodIn wsX8_change (wsV RX8 113 RX8 yX8_seatOf wsX8_seatOf) := goodIn_app (goodIn_sub (vm_c (vm_at 2 rfl) (vm_c (vm_at 3 rfl) (vm_c (vm_at 4 rfl) (vm_c (vm_at 5 rfl) vm_n)))) (by decide +kernel)) ggX8_change_X8_seatOf
set_option maxRecDepth 20000 in
theorem ggX8_beside_X8_seatOf : GoodIn wsX8_beside wsX8_seatOf := goodIn_sub (vm_c (vm_at 6 rfl) (vm_a (vm_c (vm_at 1 rfl) vm_n) (fun w h => (List.mem_cons_of_mem _ (List.mem_append_right _ h))))) (by decide +kernel)
set_option maxRecDepth 20000 in
theorem gX8_beside_X8_seatOf : GoodIn wsX8_beside (wsV RX8 113 RX8 yX8_seatOf wsX8_seatOf) := goodIn_app (goodIn_sub (vm_c (vm_at 2 rfl) (vm_c (vm_at 3 rfl) (vm_c (vm_at 4 rfl) (vm_c (vm_at 5 rfl) vm_n)))) (by decide +kernel)) ggX8_beside_X8_seatOf
set_option maxRecDepth 20000 in
theorem ggX8_known_X8_beside : GoodIn wsX8_known wsX8_beside := goodIn_sub (vm_c (vm_at 6 rfl) (vm_a (vm_c (vm_at 1 rfl) (vm_c (vm_at 7 rfl) (vm_c (vm_at 8 rfl) (vm_c (vm_at 9 rfl) (vm_c (vm_at 5 rfl) (vm_c (vm_at 10 rfl) vm_n)))))) (fun w h => (List.mem_cons_of_mem _ (List.mem_append_right _ h))))) (by decide +kernel)
set_option maxRecDepth 20000 in
theorem gX8_known_X8_beside : GoodIn wsX8_known (wsV RX8 116 RX8 yX8_beside wsX8_beside) := goodIn_app (goodIn_sub (vm_c (vm_at 2 rfl) (vm_c (vm_at 3 rfl) (vm_c (vm_at 4 rfl) (vm_c (vm_at 5 rfl) vm_n)))) (by decide +kernel)) ggX8_known_X8_beside
set_option maxRecDepth 20000 in
theorem ggX8_knownBeside_X8_beside : GoodIn wsX8_knownBeside wsX8_beside := goodIn_sub (vm_c (vm_at 5 rfl) (vm_a (vm_c (vm_at 6 rfl) (vm_c (vm_at 7 rfl) (vm_c (vm_at 8 rfl) (vm_c (vm_at 9 rfl) (vm_c (vm_at 4 rfl) (vm_c (vm_at 10 rfl) vm_n)))))) (fun w h => (List.mem_cons_of_mem _ (List.mem_append_right _ h))))) (by decide +kernel)
set_option maxRecDepth 20000 in
theorem gX8_knownBeside_X8_beside : GoodIn wsX8_knownBeside (wsV RX8 116 RX8 yX8_beside wsX8_beside) := goodIn_app (goodIn_sub (vm_c (vm_at 1 rfl) (vm_c (vm_at 2 rfl) (vm_c (vm_at 3 rfl) (vm_c (vm_at 4 rfl) vm_n)))) (by decide +kernel)) ggX8_knownBeside_X8_beside
set_option maxRecDepth 20000 in
theorem ggX8_knownBeside_X8_known : GoodIn wsX8_knownBeside wsX8_known := goodIn_sub (vm_c (vm_at 14 rfl) (vm_a (vm_c (vm_at 6 rfl) (vm_c (vm_at 1 rfl) (vm_c (vm_at 2 rfl) (vm_c (vm_at 3 rfl) (vm_c (vm_at 4 rfl) (vm_c (vm_at 5 rfl) (vm_c (vm_at 7 rfl) (vm_c (vm_at 8 rfl) (vm_c (vm_at 9 rfl) (vm_c (vm_at 10 rfl) vm_n)))))))))) (fun w h => (List.mem_cons_of_mem _ (List.mem_append_right _ h))))) (by decide +kernel)
set_option maxRecDepth 20000 in
theorem gX8_knownBeside_X8_known : GoodIn wsX8_knownBeside (wsV RX8 120 RX8 yX8_known wsX8_known) := goodIn_app (goodIn_sub (vm_c (vm_at 11 rfl) (vm_c (vm_at 12 rfl) (vm_c (vm_at 13 rfl) (vm_c (vm_at 4 rfl) vm_n)))) (by decide +kernel)) ggX8_knownBeside_X8_known
set_option maxRecDepth 20000 in
theorem ggX8_marked_X8_known : GoodIn wsX8_marked wsX8_known := goodIn_sub (vm_c (vm_at 6 rfl) (vm_a (vm_c (vm_at 1 rfl) (vm_c (vm_at 7 rfl) (vm_c (vm_at 8 rfl) (vm_c (vm_at 9 rfl) (vm_c (vm_at 5 rfl) (vm_c (vm_at 10 rfl) (vm_c (vm_at 11 rfl) (vm_c (vm_at 12 rfl) (vm_c (vm_at 13 rfl) (vm_c (vm_at 14 rfl) vm_n)))))))))) (fun w h => (List.mem_cons_of_mem _ (List.mem_append_right _ h))))) (by decide +kernel)
set_option maxRecDepth 20000 in
theorem gX8_marked_X8_known : GoodIn wsX8_marked (wsV RX8 120 RX8 yX8_known wsX8_known) := goodIn_app (goodIn_sub (vm_c (vm_at 2 rfl) (vm_c (vm_at 3 rfl) (vm_c (vm_at 4 rfl) (vm_c (vm_at 5 rfl) vm_n)))) (by decide +kernel)) ggX8_marked_X8_known
set_option maxRecDepth 20000 in
theorem ggX8_marked_X8_knownBeside : GoodIn wsX8_marked wsX8_knownBeside := goodIn_sub (vm_c (vm_at 18 rfl) (vm_a (vm_c (vm_at 7 rfl) (vm_c (vm_at 8 rfl) (vm_c (vm_at 9 rfl) (vm_c (vm_at 5 rfl) (vm_c (vm_at 10 rfl) (vm_c (vm_at 1 rfl) (vm_c (vm_at 11 rfl) (vm_c (vm_at 12 rfl) (vm_c (vm_at 13 rfl) (vm_c (vm_at 14 rfl) (vm_c (vm_at 2 rfl) (vm_c (vm_at 3 rfl) (vm_c (vm_at 4 rfl) (vm_c (vm_at 6 rfl) vm_n)))))))))))))) (fun w h => (List.mem_cons_of_mem _ (List.mem_append_right _ h))))) (by decide +kernel)
set_option maxRecDepth 20000 in
theorem gX8_marked_X8_knownBeside : GoodIn wsX8_marked (wsV RX8 123 RX8 yX8_knownBeside wsX8_knownBeside) := goodIn_app (goodIn_sub (vm_c (vm_at 15 rfl) (vm_c (vm_at 16 rfl) (vm_c (vm_at 17 rfl) (vm_c (vm_at 5 rfl) vm_n)))) (by decide +kernel)) ggX8_marked_X8_knownBeside
set_option maxRecDepth 20000 in
theorem ggX8_together_X8_marked : GoodIn wsX8_together wsX8_marked := goodIn_sub (vm_c (vm_at 6 rfl) (vm_a (vm_c (vm_at 1 rfl) (vm_c (vm_at 7 rfl) (vm_c (vm_at 8 rfl) (vm_c (vm_at 9 rfl) (vm_c (vm_at 5 rfl) (vm_c (vm_at 10 rfl) (vm_c (vm_at 11 rfl) (vm_c (vm_at 12 rfl) (vm_c (vm_at 13 rfl) (vm_c (vm_at 14 rfl) (vm_c (vm_at 15 rfl) (vm_c (vm_at 16 rfl) (vm_c (vm_at 17 rfl) (vm_c (vm_at 18 rfl) (vm_c (vm_at 19 rfl) (vm_c (vm_at 20 rfl) (vm_c (vm_at 21 rfl) (vm_c (vm_at 22 rfl) vm_n)))))))))))))))))) (fun w h => (List.mem_cons_of_mem _ (List.mem_append_right _ h))))) (by decide +kernel)
set_option maxRecDepth 20000 in
theorem gX8_together_X8_marked : GoodIn wsX8_together (wsV RX8 126 RX8 yX8_marked wsX8_marked) := goodIn_app (goodIn_sub (vm_c (vm_at 2 rfl) (vm_c (vm_at 3 rfl) (vm_c (vm_at 4 rfl) (vm_c (vm_at 5 rfl) vm_n)))) (by decide +kernel)) ggX8_together_X8_marked
set_option maxRecDepth 20000 in
theorem ggX8_whoPass_X8_marked : GoodIn wsX8_whoPass wsX8_marked := goodIn_sub (vm_c (vm_at 6 rfl) (vm_a (vm_c (vm_at 1 rfl) (vm_c (vm_at 7 rfl) (vm_c (vm_at 8 rfl) (vm_c (vm_at 9 rfl) (vm_c (vm_at 5 rfl) (vm_c (vm_at 10 rfl) (vm_c (vm_at 11 rfl) (vm_c (vm_at 12 rfl) (vm_c (vm_at 13 rfl) (vm_c (vm_at 14 rfl) (vm_c (vm_at 15 rfl) (vm_c (vm_at 16 rfl) (vm_c (vm_at 17 rfl) (vm_c (vm_at 18 rfl) (vm_c (vm_at 19 rfl) (vm_c (vm_at 20 rfl) (vm_c (vm_at 21 rfl) (vm_c (vm_at 22 rfl) vm_n)))))))))))))))))) (fun w h => (List.mem_cons_of_mem _ (List.mem_append_right _ h))))) (by decide +kernel)
set_option maxRecDepth 20000 in
theorem gX8_whoPass_X8_marked : GoodIn wsX8_whoPass (wsV RX8 126 RX8 yX8_marked wsX8_marked) := goodIn_app (goodIn_sub (vm_c (vm_at 2 rfl) (vm_c (vm_at 3 rfl) (vm_c (vm_at 4 rfl) (vm_c (vm_at 5 rfl) vm_n)))) (by decide +kernel)) ggX8_whoPass_X8_marked
set_option maxRecDepth 20000 in
theorem ggX8_pupil_X8_isNobody : GoodIn wsX8_pupil wsX8_isNobody := goodIn_sub (vm_c (vm_at 6 rfl) (vm_a (vm_c (vm_at 1 rfl) vm_n) (fun w h => (List.mem_cons_of_mem _ (List.mem_append_right _ h))))) (by decide +kernel)
set_option maxRecDepth 20000 in
theorem gX8_pupil_X8_isNobody : GoodIn wsX8_pupil (wsV RX8 129 RX8 yX8_isNobody wsX8_isNobody) := goodIn_app (goodIn_sub (vm_c (vm_at 2 rfl) (vm_c (vm_at 3 rfl) (vm_c (vm_at 4 rfl) (vm_c (vm_at 5 rfl) vm_n)))) (by decide +kernel)) ggX8_pupil_X8_isNobody
set_option maxRecDepth 20000 in
theorem ggX8_pupil_X8_no : GoodIn wsX8_pupil wsX8_no := goodIn_sub (vm_c (vm_at 10 rfl) (vm_a (vm_c (vm_at 11 rfl) vm_n) (fun w h => (List.mem_cons_of_mem _ (List.mem_append_right _ h))))) (by decide +kernel)
set_option maxRecDepth 20000 in
theorem gX8_pupil_X8_no : GoodIn wsX8_pupil (wsV RX8 71 RX8 yX8_no wsX8_no) := goodIn_app (goodIn_sub (vm_c (vm_at 7 rfl) (vm_c (vm_at 8 rfl) (vm_c (vm_at 9 rfl) (vm_c (vm_at 5 rfl) vm_n)))) (by decide +kernel)) ggX8_pupil_X8_no
set_option maxRecDepth 20000 in
theorem ggX8_pupil_X8_seatOf : GoodIn wsX8_pupil wsX8_seatOf := goodIn_sub (vm_c (vm_at 15 rfl) (vm_a (vm_c (vm_at 1 rfl) vm_n) (fun w h => (List.mem_cons_of_mem _ (List.mem_append_right _ h))))) (by decide +kernel)
set_option maxRecDepth 20000 in
theorem gX8_pupil_X8_seatOf : GoodIn wsX8_pupil (wsV RX8 113 RX8 yX8_seatOf wsX8_seatOf) := goodIn_app (goodIn_sub (vm_c (vm_at 12 rfl) (vm_c (vm_at 13 rfl) (vm_c (vm_at 14 rfl) (vm_c (vm_at 5 rfl) vm_n)))) (by decide +kernel)) ggX8_pupil_X8_seatOf
set_option maxRecDepth 20000 in
theorem ggX8_pupil_X8_beside : GoodIn wsX8_pupil wsX8_beside := goodIn_sub (vm_c (vm_at 19 rfl) (vm_a (vm_c (vm_at 1 rfl) (vm_c (vm_at 12 rfl) (vm_c (vm_at 13 rfl) (vm_c (vm_at 14 rfl) (vm_c (vm_at 5 rfl) (vm_c (vm_at 15 rfl) vm_n)))))) (fun w h => (List.mem_cons_of_mem _ (List.mem_append_right _ h))))) (by decide +kernel)
set_option maxRecDepth 20000 in
theorem gX8_pupil_X8_beside : GoodIn wsX8_pupil (wsV RX8 116 RX8 yX8_beside wsX8_beside) := goodIn_app (goodIn_sub (vm_c (vm_at 16 rfl) (vm_c (vm_at 17 rfl) (vm_c (vm_at 18 rfl) (vm_c (vm_at 5 rfl) vm_n)))) (by decide +kernel)) ggX8_pupil_X8_beside
set_option maxRecDepth 20000 in
theorem ggX8_sick_X8_isNobody : GoodIn wsX8_sick wsX8_isNobody := goodIn_sub (vm_c (vm_at 6 rfl) (vm_a (vm_c (vm_at 1 rfl) vm_n) (fun w h => (List.mem_cons_of_mem _ (List.mem_append_right _ h))))) (by decide +kernel)
set_option maxRecDepth 20000 in
theorem gX8_sick_X8_isNobody : GoodIn wsX8_sick (wsV RX8 129 RX8 yX8_isNobody wsX8_isNobody) := goodIn_app (goodIn_sub (vm_c (vm_at 2 rfl) (vm_c (vm_at 3 rfl) (vm_c (vm_at 4 rfl) (vm_c (vm_at 5 rfl) vm_n)))) (by decide +kernel)) ggX8_sick_X8_isNobody
set_option maxRecDepth 20000 in
theorem ggX8_sick_X8_no : GoodIn wsX8_sick wsX8_no := goodIn_sub (vm_c (vm_at 10 rfl) (vm_a (vm_c (vm_at 11 rfl) vm_n) (fun w h => (List.mem_cons_of_mem _ (List.mem_append_right _ h))))) (by decide +kernel)
set_option maxRecDepth 20000 in
theorem gX8_sick_X8_no : GoodIn wsX8_sick (wsV RX8 71 RX8 yX8_no wsX8_no) := goodIn_app (goodIn_sub (vm_c (vm_at 7 rfl) (vm_c (vm_at 8 rfl) (vm_c (vm_at 9 rfl) (vm_c (vm_at 5 rfl) vm_n)))) (by decide +kernel)) ggX8_sick_X8_no
set_option maxRecDepth 20000 in
theorem ggX8_learn_X8_isNobody : GoodIn wsX8_learn wsX8_isNobody := goodIn_sub (vm_c (vm_at 6 rfl) (vm_a (vm_c (vm_at 1 rfl) vm_n) (fun w h => (List.mem_cons_of_mem _ (List.mem_append_right _ h))))) (by decide +kernel)
set_option maxRecDepth 20000 in
theorem gX8_learn_X8_isNobody : GoodIn wsX8_learn (wsV RX8 129 RX8 yX8_isNobody wsX8_isNobody) := goodIn_app (goodIn_sub (vm_c (vm_at 2 rfl) (vm_c (vm_at 3 rfl) (vm_c (vm_at 4 rfl) (vm_c (vm_at 5 rfl) vm_n)))) (by decide +kernel)) ggX8_learn_X8_isNobody
set_option maxRecDepth 20000 in
theorem ggX8_learn_X8_no : GoodIn wsX8_learn wsX8_no := goodIn_sub (vm_c (vm_at 10 rfl) (vm_a (vm_c (vm_at 11 rfl) vm_n) (fun w h => (List.mem_cons_of_mem _ (List.mem_append_right _ h))))) (by decide +kernel)
set_option maxRecDepth 20000 in
theorem gX8_learn_X8_no : GoodIn wsX8_learn (wsV RX8 71 RX8 yX8_no wsX8_no) := goodIn_app (goodIn_sub (vm_c (vm_at 7 rfl) (vm_c (vm_at 8 rfl) (vm_c (vm_at 9 rfl) (vm_c (vm_at 5 rfl) vm_n)))) (by decide +kernel)) ggX8_learn_X8_no
set_option maxRecDepth 20000 in
theorem ggX8_learn_X8_teach : GoodIn wsX8_learn wsX8_teach := goodIn_sub (vm_c (vm_at 15 rfl) (vm_a (vm_c (vm_at 1 rfl) vm_n) (fun w h => (List.mem_cons_of_mem _ (List.mem_append_right _ h))))) (by decide +kernel)
set_option maxRecDepth 20000 in
theorem gX8_learn_X8_teach : GoodIn wsX8_learn (wsV RX8 132 RX8 yX8_teach wsX8_teach) := goodIn_app (goodIn_sub (vm_c (vm_at 12 rfl) (vm_c (vm_at 13 rfl) (vm_c (vm_at 14 rfl) (vm_c (vm_at 5 rfl) vm_n)))) (by decide +kernel)) ggX8_learn_X8_teach
set_option maxRecDepth 20000 in
theorem ggX8_swap_X8_isNobody : GoodIn wsX8_swap wsX8_isNobody := goodIn_sub (vm_c (vm_at 5 rfl) (vm_a (vm_c (vm_at 6 rfl) vm_n) (fun w h => (List.mem_cons_of_mem _ (List.mem_append_right _ h))))) (by decide +kernel)
set_option maxRecDepth 20000 in
theorem gX8_swap_X8_isNobody : GoodIn wsX8_swap (wsV RX8 129 RX8 yX8_isNobody wsX8_isNobody) := goodIn_app (goodIn_sub (vm_c (vm_at 1 rfl) (vm_c (vm_at 2 rfl) (vm_c (vm_at 3 rfl) (vm_c (vm_at 4 rfl) vm_n)))) (by decide +kernel)) ggX8_swap_X8_isNobody
