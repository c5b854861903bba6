set_option maxRecDepth 20000 in
theorem ggX7_letter_X7_refuse : GoodIn wsX7_letter wsX7_refuse := goodIn_sub (vm_c (vm_at 7 rfl) (vm_a (vm_c (vm_at 8 rfl) vm_n) (fun w h => (List.mem_cons_of_mem _ (List.mem_append_left _ (List.mem_append_right _ h)))))) (by decide +kernel)
set_option maxRecDepth 20000 in
theorem gX7_letter_X7_refuse : GoodIn wsX7_letter (wsV RX7 69 RX7 yX7_refuse wsX7_refuse) := goodIn_app (goodIn_sub (vm_c (vm_at 3 rfl) (vm_c (vm_at 4 rfl) (vm_c (vm_at 5 rfl) (vm_c (vm_at 6 rfl) vm_n)))) (by decide +kernel)) ggX7_letter_X7_refuse
set_option maxRecDepth 20000 in
theorem ggX7_letter_X1_isFull : GoodIn wsX7_letter wsX1_isFull := goodIn_sub (vm_c (vm_at 13 rfl) (vm_a (vm_c (vm_at 14 rfl) (vm_c (vm_at 15 rfl) vm_n)) (fun w h => (List.mem_cons_of_mem _ (List.mem_append_right _ h))))) (by decide +kernel)
set_option maxRecDepth 20000 in
theorem gX7_letter_X1_isFull : GoodIn wsX7_letter (wsV RX7 73 RX1 yX1_isFull wsX1_isFull) := goodIn_app (goodIn_sub (vm_c (vm_at 9 rfl) (vm_c (vm_at 10 rfl) (vm_c (vm_at 11 rfl) (vm_c (vm_at 12 rfl) vm_n)))) (by decide +kernel)) ggX7_letter_X1_isFull
set_option maxRecDepth 20000 in
theorem ggX7_letter_X1_add : GoodIn wsX7_letter wsX1_add := goodIn_sub (vm_c (vm_at 19 rfl) (vm_a (vm_c (vm_at 15 rfl) (vm_c (vm_at 14 rfl) (vm_c (vm_at 20 rfl) (vm_c (vm_at 10 rfl) (vm_c (vm_at 11 rfl) (vm_c (vm_at 12 rfl) (vm_c (vm_at 13 rfl) vm_n))))))) (fun w h => (List.mem_cons_of_mem _ (List.mem_append_right _ h))))) (by decide +kernel)
set_option maxRecDepth 20000 in
theorem gX7_letter_X1_add : GoodIn wsX7_letter (wsV RX7 77 RX1 yX1_add wsX1_add) := goodIn_app (goodIn_sub (vm_c (vm_at 16 rfl) (vm_c (vm_at 17 rfl) (vm_c (vm_at 18 rfl) (vm_c (vm_at 12 rfl) vm_n)))) (by decide +kernel)) ggX7_letter_X1_add
set_option maxRecDepth 20000 in
theorem ggX7_school_X3_copyFrom : GoodIn wsX7_school wsX3_copyFrom := goodIn_sub (vm_c (vm_at 9 rfl) (vm_a (vm_c (vm_at 10 rfl) (vm_c (vm_at 11 rfl) (vm_c (vm_at 12 rfl) (vm_c (vm_at 13 rfl) (vm_c (vm_at 14 rfl) (vm_c (vm_at 15 rfl) (vm_c (vm_at 16 rfl) (vm_c (vm_at 17 rfl) (vm_c (vm_at 18 rfl) (vm_c (vm_at 19 rfl) (vm_c (vm_at 20 rfl) (vm_c (vm_at 21 rfl) (vm_c (vm_at 22 rfl) (vm_c (vm_at 23 rfl) (vm_c (vm_at 24 rfl) (vm_c (vm_at 25 rfl) (vm_c (vm_at 26 rfl) (vm_c (vm_at 27 rfl) (vm_c (vm_at 28 rfl) vm_n))))))))))))))))))) (fun w h => (List.mem_cons_of_mem _ (List.mem_append_left _ (List.mem_append_left _ (List.mem_append_right _ h))))))) (by decide +kernel)
set_option maxRecDepth 20000 in
theorem gX7_school_X3_copyFrom : GoodIn wsX7_school (wsV RX7 84 RX3 yX3_copyFrom wsX3_copyFrom) := goodIn_app (goodIn_sub (vm_c (vm_at 5 rfl) (vm_c (vm_at 6 rfl) (vm_c (vm_at 7 rfl) (vm_c (vm_at 8 rfl) vm_n)))) (by decide +kernel)) ggX7_school_X3_copyFrom
set_option maxRecDepth 20000 in
theorem ggX7_school_X2_read : GoodIn wsX7_school wsX2_read := goodIn_sub (vm_c (vm_at 33 rfl) (vm_a (vm_a (vm_a (vm_a (vm_c (vm_at 34 rfl) (vm_c (vm_at 35 rfl) (vm_c (vm_at 36 rfl) (vm_c (vm_at 37 rfl) (vm_c (vm_at 38 rfl) (vm_c (vm_at 39 rfl) (vm_c (vm_at 32 rfl) (vm_c (vm_at 40 rfl) (vm_c (vm_at 41 rfl) (vm_c (vm_at 42 rfl) (vm_c (vm_at 43 rfl) (vm_c (vm_at 44 rfl) (vm_c (vm_at 45 rfl) (vm_c (vm_at 46 rfl) (vm_c (vm_at 47 rfl) (vm_c (vm_at 48 rfl) (vm_c (vm_at 49 rfl) (vm_c (vm_at 50 rfl) (vm_c (vm_at 51 rfl) (vm_c (vm_at 52 rfl) (vm_c (vm_at 53 rfl) (vm_c (vm_at 54 rfl) (vm_c (vm_at 55 rfl) (vm_c (vm_at 56 rfl) vm_n)))))))))))))))))))))))) (vm_a (vm_c (vm_at 57 rfl) (vm_c (vm_at 58 rfl) (vm_c (vm_at 59 rfl) (vm_c (vm_at 60 rfl) (vm_c (vm_at 61 rfl) (vm_c (vm_at 62 rfl) (vm_c (vm_at 63 rfl) (vm_c (vm_at 64 rfl) (vm_c (vm_at 65 rfl) (vm_c (vm_at 66 rfl) (vm_c (vm_at 67 rfl) (vm_c (vm_at 68 rfl) (vm_c (vm_at 8 rfl) (vm_c (vm_at 69 rfl) (vm_c (vm_at 10 rfl) (vm_c (vm_at 16 rfl) (vm_c (vm_at 21 rfl) (vm_c (vm_at 22 rfl) (vm_c (vm_at 23 rfl) (vm_c (vm_at 11 rfl) (vm_c (vm_at 26 rfl) (vm_c (vm_at 70 rfl) (vm_c (vm_at 71 rfl) (vm_c (vm_at 72 rfl) vm_n)))))))))))))))))))))))) (vm_a (vm_c (vm_at 73 rfl) (vm_c (vm_at 24 rfl) (vm_c (vm_at 25 rfl) (vm_c (vm_at 74 rfl) (vm_c (vm_at 75 rfl) (vm_c (vm_at 76 rfl) (vm_c (vm_at 77 rfl) (vm_c (vm_at 78 rfl) (vm_c (vm_at 79 rfl) (vm_c (vm_at 80 rfl) (vm_c (vm_at 81 rfl) (vm_c (vm_at 15 rfl) (vm_c (vm_at 27 rfl) (vm_c (vm_at 28 rfl) (vm_c (vm_at 82 rfl) (vm_c (vm_at 83 rfl) (vm_c (vm_at 84 rfl) (vm_c (vm_at 85 rfl) (vm_c (vm_at 86 rfl) (vm_c (vm_at 87 rfl) (vm_c (vm_at 88 rfl) (vm_c (vm_at 89 rfl) (vm_c (vm_at 90 rfl) (vm_c (vm_at 91 rfl) vm_n)))))))))))))))))))))))) (vm_c (vm_at 92 rfl) (vm_c (vm_at 93 rfl) (vm_c (vm_at 94 rfl) (vm_c (vm_at 95 rfl) (vm_c (vm_at 96 rfl) (vm_c (vm_at 97 rfl) (vm_c (vm_at 98 rfl) (vm_c (vm_at 99 rfl) (vm_c (vm_at 100 rfl) (vm_c (vm_at 101 rfl) (vm_c (vm_at 102 rfl) (vm_c (vm_at 103 rfl) (vm_c (vm_at 104 rfl) (vm_c (vm_at 105 rfl) (vm_c (vm_at 106 rfl) (vm_c (vm_at 107 rfl) (vm_c (vm_at 108 rfl) vm_n)))))))))))))))))))) (fun w h => (List.mem_cons_of_mem _ (List.mem_append_left _ (List.mem_append_right _ h))))) (fun w h => (List.mem_cons_of_mem _ (List.mem_append_right _ h)))) (fun w h => (List.mem_cons_of_mem _ (List.mem_append_left _ (List.mem_append_left _ (List.mem_append_right _ h))))))) (by decide +kernel)
set_option maxRecDepth 20000 in
theorem gX7_school_X2_read : GoodIn wsX7_school (wsV RX7 88 RX2 yX2_read wsX2_read) := goodIn_app (goodIn_sub (vm_c (vm_at 29 rfl) (vm_c (vm_at 30 rfl) (vm_c (vm_at 31 rfl) (vm_c (vm_at 32 rfl) vm_n)))) (by decide +kernel)) ggX7_school_X2_read
set_option maxRecDepth 20000 in
theorem ggX7_school_X1_clear : GoodIn wsX7_school wsX1_clear := goodIn_sub (vm_c (vm_at 112 rfl) (vm_a (vm_c (vm_at 46 rfl) vm_n) (fun w h => (List.mem_cons_of_mem _ (List.mem_append_right _ h))))) (by decide +kernel)
set_option maxRecDepth 20000 in
theorem gX7_school_X1_clear : GoodIn wsX7_school (wsV RX7 92 RX1 yX1_clear wsX1_clear) := goodIn_app (goodIn_sub (vm_c (vm_at 109 rfl) (vm_c (vm_at 110 rfl) (vm_c (vm_at 111 rfl) (vm_c (vm_at 44 rfl) vm_n)))) (by decide +kernel)) ggX7_school_X1_clear
set_option maxRecDepth 20000 in
theorem ggX7_pupil_X3_has : GoodIn wsX7_pupil wsX3_has := goodIn_sub (vm_c (vm_at 13 rfl) (vm_a (vm_c (vm_at 14 rfl) vm_n) (fun w h => (List.mem_cons_of_mem _ (List.mem_append_right _ h))))) (by decide +kernel)
set_option maxRecDepth 20000 in
theorem gX7_pupil_X3_has : GoodIn wsX7_pupil (wsV RX7 95 RX3 yX3_has wsX3_has) := goodIn_app (goodIn_sub (vm_c (vm_at 9 rfl) (vm_c (vm_at 10 rfl) (vm_c (vm_at 11 rfl) (vm_c (vm_at 12 rfl) vm_n)))) (by decide +kernel)) ggX7_pupil_X3_has
set_option maxRecDepth 20000 in
theorem ggX7_pupil_X7_refuse : GoodIn wsX7_pupil wsX7_refuse := goodIn_sub (vm_c (vm_at 19 rfl) (vm_a (vm_c (vm_at 20 rfl) vm_n) (fun w h => (List.mem_cons_of_mem _ (List.mem_append_left _ (List.mem_append_right _ h)))))) (by decide +kernel)
set_option maxRecDepth 20000 in
theorem gX7_pupil_X7_refuse : GoodIn wsX7_pupil (wsV RX7 69 RX7 yX7_refuse wsX7_refuse) := goodIn_app (goodIn_sub (vm_c (vm_at 15 rfl) (vm_c (vm_at 16 rfl) (vm_c (vm_at 17 rfl) (vm_c (vm_at 18 rfl) vm_n)))) (by decide +kernel)) ggX7_pupil_X7_refuse
set_option maxRecDepth 20000 in
theorem ggX7_pupil_X3_seatOf : GoodIn wsX7_pupil wsX3_seatOf := goodIn_sub (vm_c (vm_at 24 rfl) (vm_a (vm_c (vm_at 14 rfl) (vm_c (vm_at 25 rfl) vm_n)) (fun w h => (List.mem_cons_of_mem _ (List.mem_append_right _ h))))) (by decide +kernel)
set_option maxRecDepth 20000 in
theorem gX7_pupil_X3_seatOf : GoodIn wsX7_pupil (wsV RX7 117 RX3 yX3_seatOf wsX3_seatOf) := goodIn_app (goodIn_sub (vm_c (vm_at 21 rfl) (vm_c (vm_at 22 rfl) (vm_c (vm_at 23 rfl) (vm_c (vm_at 12 rfl) vm_n)))) (by decide +kernel)) ggX7_pupil_X3_seatOf
set_option maxRecDepth 20000 in
theorem ggX7_sick_X3_has : GoodIn wsX7_sick wsX3_has := goodIn_sub (vm_c (vm_at 7 rfl) (vm_a (vm_c (vm_at 8 rfl) vm_n) (fun w h => (List.mem_cons_of_mem _ (List.mem_append_right _ h))))) (by decide +kernel)
set_option maxRecDepth 20000 in
theorem gX7_sick_X3_has : GoodIn wsX7_sick (wsV RX7 95 RX3 yX3_has wsX3_has) := goodIn_app (goodIn_sub (vm_c (vm_at 3 rfl) (vm_c (vm_at 4 rfl) (vm_c (vm_at 5 rfl) (vm_c (vm_at 6 rfl) vm_n)))) (by decide +kernel)) ggX7_sick_X3_has
set_option maxRecDepth 20000 in
theorem ggX7_sick_X7_refuse : GoodIn wsX7_sick wsX7_refuse := goodIn_sub (vm_c (vm_at 13 rfl) (vm_a (vm_c (vm_at 14 rfl) vm_n) (fun w h => (List.mem_cons_of_mem _ (List.mem_append_left _ (List.mem_append_right _ h)))))) (by decide +kernel)
set_option maxRecDepth 20000 in
theorem gX7_sick_X7_refuse : GoodIn wsX7_sick (wsV RX7 69 RX7 yX7_refuse wsX7_refuse) := goodIn_app (goodIn_sub (vm_c (vm_at 9 rfl) (vm_c (vm_at 10 rfl) (vm_c (vm_at 11 rfl) (vm_c (vm_at 12 rfl) vm_n)))) (by decide +kernel)) ggX7_sick_X7_refuse
set_option maxRecDepth 20000 in
theorem ggX7_learn_X3_has : GoodIn wsX7_learn wsX3_has := goodIn_sub (vm_c (vm_at 8 rfl) (vm_a (vm_c (vm_at 9 rfl) vm_n) (fun w h => (List.mem_cons_of_mem _ (List.mem_append_right _ h))))) (by decide +kernel)
set_option maxRecDepth 20000 in
theorem gX7_learn_X3_has : GoodIn wsX7_learn (wsV RX7 95 RX3 yX3_has wsX3_has) := goodIn_app (goodIn_sub (vm_c (vm_at 4 rfl) (vm_c (vm_at 5 rfl) (vm_c (vm_at 6 rfl) (vm_c (vm_at 7 rfl) vm_n)))) (by decide +kernel)) ggX7_learn_X3_has
set_option maxRecDepth 20000 in
theorem ggX7_learn_X7_refuse : GoodIn wsX7_learn wsX7_refuse := goodIn_sub (vm_c (vm_at 14 rfl) (vm_a (vm_c (vm_at 15 rfl) vm_n) (fun w h => (List.mem_cons_of_mem _ (List.mem_append_left _ (List.mem_append_right _ h)))))) (by decide +kernel)
set_option maxRecDepth 20000 in
theorem gX7_learn_X7_refuse : GoodIn wsX7_learn (wsV RX7 69 RX7 yX7_refuse wsX7_refuse) := goodIn_app (goodIn_sub (vm_c (vm_at 10 rfl) (vm_c (vm_at 11 rfl) (vm_c (vm_at 12 rfl) (vm_c (vm_at 13 rfl) vm_n)))) (by decide +kernel)) ggX7_learn_X7_refuse
set_option maxRecDepth 20000 in
theorem ggX7_learn_X3_setLearn : GoodIn wsX7_learn wsX3_setLearn := goodIn_sub (vm_c (vm_at 19 rfl) (vm_a (vm_c (vm_at 20 rfl) (vm_c (vm_at 21 rfl) (vm_c (vm_at 22 rfl) (vm_c (vm_at 23 rfl) (vm_c (vm_at 5 rfl) (vm_c (vm_at 6 rfl) (vm_c (vm_at 7 rfl) (vm_c (vm_at 8 rfl) (vm_c (vm_at 9 rfl) vm_n))))))))) (fun w h => (List.mem_cons_of_mem _ (List.mem_append_right _ h))))) (by decide +kernel)
set_option maxRecDepth 20000 in
theorem gX7_learn_X3_setLearn : GoodIn wsX7_learn (wsV RX7 126 RX3 yX3_setLearn wsX3_setLearn) := goodIn_app (goodIn_sub (vm_c (vm_at 16 rfl) (vm_c (vm_at 17 rfl) (vm_c (vm_at 18 rfl) (vm_c (vm_at 7 rfl) vm_n)))) (by decide +kernel)) ggX7_learn_X3_setLearn
set_option maxRecDepth 20000 in
theorem ggX7_swap_X3_has : GoodIn wsX7_swap wsX3_has := goodIn_sub (vm_c (vm_at 6 rfl) (vm_a (vm_c (vm_at 7 rfl) vm_n) (fun w h => (List.mem_cons_of_mem _ (List.mem_append_right _ h))))) (by decide +kernel)
set_option maxRecDepth 20000 in
theorem gX7_swap_X3_has : GoodIn wsX7_swap (wsV RX7 95 RX3 yX3_has wsX3_has) := goodIn_app (goodIn_sub (vm_c (vm_at 2 rfl) (vm_c (vm_at 3 rfl) (vm_c (vm_at 4 rfl) (vm_c (vm_at 5 rfl) vm_n)))) (by decide +kernel)) ggX7_swap_X3_has
set_option maxRecDepth 20000 in
theorem ggX7_swap_X7_refuse : GoodIn wsX7_swap wsX7_refuse := goodIn_sub (vm_c (vm_at 12 rfl) (vm_a (vm_c (vm_at 13 rfl) vm_n) (fun w h => (List.mem_cons_of_mem _ (List.mem_append_left _ (List.mem_append_right _ h)))))) (by decide +kernel)
set_option maxRecDepth 20000 in
theorem gX7_swap_X7_refuse : GoodIn wsX7_swap (wsV RX7 69 RX7 yX7_refuse wsX7_refuse) := goodIn_app (goodIn_sub (vm_c (vm_at 8 rfl) (vm_c (vm_at 9 rfl) (vm_c (vm_at 10 rfl) (vm_c (vm_at 11 rfl) vm_n)))) (by decide +kernel)) ggX7_swap_X7_refuse
set_option maxRecDepth 20000 in
theorem ggX7_swap_X3_changeSeats : GoodIn wsX7_swap wsX3_changeSeats := goodIn_sub (vm_c (vm_at 17 rfl) (vm_a (vm_c (vm_at 18 rfl) (vm_c (vm_at 19 rfl) (vm_c (vm_at 20 rfl) (vm_c (vm_at 21 rfl) (vm_c (vm_at 5 rfl) (vm_c (vm_at 22 rfl) (vm_c (vm_at 7 rfl) (vm_c (vm_at 23 rfl) (vm_c (vm_at 24 rfl) (vm_c (vm_at 25 rfl) (vm_c (vm_at 26 rfl) (vm_c (vm_at 27 rfl) (vm_c (vm_at 28 rfl) (vm_c (vm_at 29 rfl) (vm_c (vm_at 30 rfl) (vm_c (vm_at 3 rfl) (vm_c (vm_at 4 rfl) (vm_c (vm_at 6 rfl) vm_n)))))))))))))))))) (fun w h => (List.mem_cons_of_mem _ (List.mem_append_right _ h))))) (by decide +kernel)
set_option maxRecDepth 20000 in
theorem gX7_swap_X3_changeSeats : GoodIn wsX7_swap (wsV RX7 130 RX3 yX3_changeSeats wsX3_changeSeats) := goodIn_app (goodIn_sub (vm_c (vm_at 14 rfl) (vm_c (vm_at 15 rfl) (vm_c (vm_at 16 rfl) (vm_c (vm_at 5 rfl) vm_n)))) (by decide +kernel)) ggX7_swap_X3_changeSeats
set_option maxRecDepth 20000 in
theorem ggX7_law_X7_isLaw : GoodIn wsX7_law wsX7_isLaw := goodIn_sub (vm_c (vm_at 6 rfl) vm_n) (by decide +kernel)
set_option maxRecDepth 20000 in
theorem gX7_law_X7_isLaw : GoodIn wsX7_law (va_wsS RX7 133 yX7_isLaw wsX7_isLaw) := goodIn_app (goodIn_sub (vm_c (vm_at 3 rfl) (vm_c (vm_at 4 rfl) (vm_c (vm_at 5 rfl) vm_n))) (by decide +kernel)) ggX7_law_X7_isLaw
set_option maxRecDepth 20000 in
theorem ggX7_law_X7_refuse : GoodIn wsX7_law wsX7_refuse := goodIn_sub (vm_c (vm_at 10 rfl) (vm_a (vm_c (vm_at 11 rfl) vm_n) (fun w h => (List.mem_cons_of_mem _ (List.mem_append_left _ (List.mem_append_right _ h)))))) (by decide +kernel)
set_option maxRecDepth 20000 in
theorem gX7_law_X7_refuse : GoodIn wsX7_law (wsV RX7 69 RX7 yX7_refuse wsX7_refuse) := goodIn_app (goodIn_sub (vm_c (vm_at 7 rfl) (vm_c (vm_at 8 rfl) (vm_c (vm_at 9 rfl) (vm_c (vm_at 5 rfl) vm_n)))) (by decide +kernel)) ggX7_law_X7_refuse
set_option maxRecDepth 20000 in
theorem ggX7_pass_X7_refuse : GoodIn wsX7_pass wsX7_refuse := goodIn_sub (vm_c (vm_at 7 rfl) (vm_a (vm_c (vm_at 8 rfl) vm_n) (fun w h => (List.mem_cons_of_mem _ (List.mem_append_left _ (List.mem_append_right _ h)))))) (by decide +kernel)
set_option maxRecDepth 20000 in
theorem gX7_pass_X7_refuse : GoodIn wsX7_pass (wsV RX7 69 RX7 yX7_refuse wsX7_refuse) := goodIn_app (goodIn_sub (vm_c (vm_at 3 rfl) (vm_c (vm_at 4 rfl) (vm_c (vm_at 5 rfl) (vm_c (vm_at 6 rfl) vm_n)))) (by decide +kernel)) ggX7_pass_X7_refuse
set_option maxRecDepth 20000 in
theorem ggX7_week_X7_refuse : GoodIn wsX7_week wsX7_refuse := goodIn_sub (vm_c (vm_at 7 rfl) (vm_a (vm_c (vm_at 8 rfl) vm_n) (fun w h => (List.mem_cons_of_mem _ (List.mem_append_left _ (List.mem_append_right _ h)))))) (by decide +kernel)
set_option maxRecDepth 20000 in
theorem gX7_week_X7_refuse : GoodIn wsX7_week (wsV RX7 69 RX7 yX7_refuse wsX7_refuse) := goodIn_app (goodIn_sub (vm_c (vm_at 3 rfl) (vm_c (vm_at 4 rfl) (vm_c (vm_at 5 rfl) (vm_c (vm_at 6 rfl) vm_n)))) (by decide +kernel)) ggX7_week_X7_refuse
set_option maxRecDepth 20000 in
theorem ggX7_week_X6_goBy : GoodIn wsX7_week wsX6_goBy := goodIn_sub (vm_c (vm_at 12 rfl) (vm_a (vm_a (vm_c (vm_at 13 rfl) (vm_c (vm_at 14 rfl) (vm_c (vm_at 15 rfl) (vm_c (vm_at 16 rfl) (vm_c (vm_at 17 rfl) (vm_c (vm_at 18 rfl) (vm_c (vm_at 11 rfl) (vm_c (vm_at 19 rfl) (vm_c (vm_at 20 rfl) (vm_c (vm_at 21 rfl) (vm_c (vm_at 22 rfl) (vm_c (vm_at 23 rfl) (vm_c (vm_at 24 rfl) (vm_c (vm_at 25 rfl) (vm_c (vm_at 26 rfl) (vm_c (vm_at 27 rfl) (vm_c (vm_at 28 rfl) (vm_c (vm_at 29 rfl) (vm_c (vm_at 30 rfl) (vm_c (vm_at 31 rfl) (vm_c (vm_at 32 rfl) (vm_c (vm_at 33 rfl) (vm_c (vm_at 34 rfl) (vm_c (vm_at 35 rfl) vm_n)))))))))))))))))))))))) (vm_a (vm_c (vm_at 36 rfl) (vm_c (vm_at 37 rfl) (vm_c (vm_at 38 rfl) (vm_c (vm_at 39 rfl) (vm_c (vm_at 40 rfl) (vm_c (vm_at 41 rfl) (vm_c (vm_at 42 rfl) (vm_c (vm_at 43 rfl) (vm_c (vm_at 44 rfl) (vm_c (vm_at 45 rfl) (vm_c (vm_at 46 rfl) (vm_c (vm_at 47 rfl) (vm_c (vm_at 48 rfl) (vm_c (vm_at 49 rfl) (vm_c (vm_at 50 rfl) (vm_c (vm_at 51 rfl) (vm_c (vm_at 52 rfl) (vm_c (vm_at 53 rfl) (vm_c (vm_at 54 rfl) (vm_c (vm_at 55 rfl) (vm_c (vm_at 56 rfl) (vm_c (vm_at 57 rfl) (vm_c (vm_at 58 rfl) (vm_c (vm_at 59 rfl) vm_n)))))))))))))))))))))))) (vm_c (vm_at 60 rfl) (vm_c (vm_at 61 rfl) (vm_c (vm_at 62 rfl) (vm_c (vm_at 63 rfl) (vm_c (vm_at 64 rfl) (vm_c (vm_at 65 rfl) (vm_c (vm_at 66 rfl) (vm_c (vm_at 67 rfl) (vm_c (vm_at 68 rfl) (vm_c (vm_at 69 rfl) (vm_c (vm_at 70 rfl) vm_n))))))))))))) (fun w h => (List.mem_cons_of_mem _ (List.mem_append_right _ h))))) (by decide +kernel)
set_option maxRecDepth 20000 in
theorem gX7_week_X6_goBy : GoodIn wsX7_week (va_wsS RX7 145 yX6_goBy wsX6_goBy) := goodIn_app (goodIn_sub (vm_c (vm_at 9 rfl) (vm_c (vm_at 10 rfl) (vm_c (vm_at 11 rfl) vm_n))) (by decide +kernel)) ggX7_week_X6_goBy
set_option maxRecDepth 20000 in
theorem ggX7_knows_X3_has : GoodIn wsX7_knows wsX3_has := goodIn_sub (vm_c (vm_at 6 rfl) (vm_a (vm_c (vm_at 7 rfl) vm_n) (fun w h => (List.mem_cons_of_mem _ (List.mem_append_right _ h))))) (by decide +kernel)
set_option maxRecDepth 20000 in
theorem gX7_knows_X3_has : GoodIn wsX7_knows (wsV RX7 95 RX3 yX3_has wsX3_has) := goodIn_app (goodIn_sub (vm_c (vm_at 2 rfl) (vm_c (vm_at 3 rfl) (vm_c (vm_at 4 rfl) (vm_c (vm_at 5 rfl) vm_n)))) (by decide +kernel)) ggX7_knows_X3_has
set_option maxRecDepth 20000 in
theorem ggX7_knows_X7_refuse : GoodIn wsX7_knows wsX7_refuse := goodIn_sub (vm_c (vm_at 12 rfl) (vm_a (vm_c (vm_at 13 rfl) vm_n) (fun w h => (List.mem_cons_of_mem _ (List.mem_append_left _ (List.mem_append_right _ h)))))) (by decide +kernel)
set_option maxRecDepth 20000 in
theorem gX7_knows_X7_refuse : GoodIn wsX7_knows (wsV RX7 69 RX7 yX7_refuse wsX7_refuse) := goodIn_app (goodIn_sub (vm_c (vm_at 8 rfl) (vm_c (vm_at 9 rfl) (vm_c (vm_at 10 rfl) (vm_c (vm_at 11 rfl) vm_n)))) (by decide +kernel)) ggX7_knows_X7_refuse
set_option maxRecDepth 20000 in
theorem ggX7_knows_X0_knowsOf : GoodIn wsX7_knows wsX0_knowsOf := goodIn_sub (vm_c (vm_at 17 rfl) (vm_a (vm_c (vm_at 18 rfl) (vm_c (vm_at 19 rfl) (vm_c (vm_at 20 rfl) (vm_c (vm_at 21 rfl) (vm_c (vm_at 22 rfl) (vm_c (vm_at 23 rfl) (vm_c (vm_at 24 rfl) vm_n))))))) (fun w h => (List.mem_cons_of_mem _ (List.mem_append_right _ h))))) (by decide +kernel)
set_option maxRecDepth 20000 in
theorem gX7_knows_X0_knowsOf : GoodIn wsX7_knows (va_wsS RX7 150 yX0_knowsOf wsX0_knowsOf) := goodIn_app (goodIn_sub (vm_c (vm_at 14 rfl) (vm_c (vm_at 15 rfl) (vm_c (vm_at 16 rfl) vm_n))) (by decide +kernel)) ggX7_knows_X0_knowsOf
set_option maxRecDepth 20000 in
theorem ggX7_mark_X3_has : GoodIn wsX7_mark wsX3_has := goodIn_sub (vm_c (vm_at 6 rfl) (vm_a (vm_c (vm_at 7 rfl) vm_n) (fun w h => (List.mem_cons_of_mem _ (List.mem_append_right _ h))))) (by decide +kernel)
set_option maxRecDepth 20000 in
theorem gX7_mark_X3_has : GoodIn wsX7_mark (wsV RX7 95 RX3 yX3_has wsX3_has) := goodIn_app (goodIn_sub (vm_c (vm_at 2 rfl) (vm_c (vm_at 3 rfl) (vm_c (vm_at 4 rfl) (vm_c (vm_at 5 rfl) vm_n)))) (by decide +kernel)) ggX7_mark_X3_has
set_option maxRecDepth 20000 in
theorem ggX7_mark_X7_refuse : GoodIn wsX7_mark wsX7_refuse := goodIn_sub (vm_c (vm_at 12 rfl) (vm_a (vm_c (vm_at 13 rfl) vm_n) (fun w h => (List.mem_cons_of_mem _ (List.mem_append_left _ (List.mem_append_right _ h)))))) (by decide +kernel)
set_option maxRecDepth 20000 in
theorem gX7_mark_X7_refuse : GoodIn wsX7_mark (wsV RX7 69 RX7 yX7_refuse wsX7_refuse) := goodIn_app (goodIn_sub (vm_c (vm_at 8 rfl) (vm_c (vm_at 9 rfl) (vm_c (vm_at 10 rfl) (vm_c (vm_at 11 rfl) vm_n)))) (by decide +kernel)) ggX7_mark_X7_refuse
set_option maxRecDepth 20000 in
theorem ggX7_mark_X0_markOf : GoodIn wsX7_mark wsX0_markOf := goodIn_sub (vm_c (vm_at 17 rfl) (vm_a (vm_a (vm_c (vm_at 18 rfl) (vm_c (vm_at 19 rfl) (vm_c (vm_at 20 rfl) (vm_c (vm_at 21 rfl) (vm_c (vm_at 3 rfl) (vm_c (vm_at 4 rfl) (vm_c (vm_at 5 rfl) (vm_c (vm_at 6 rfl) (vm_c (vm_at 7 rfl) (vm_c (vm_at 22 rfl) (vm_c (vm_at 23 rfl) (vm_c (vm_at 16 rfl) (vm_c (vm_at 24 rfl) (vm_c (vm_at 25 rfl) (vm_c (vm_at 26 rfl) (vm_c (vm_at 27 rfl) (vm_c (vm_at 28 rfl) (vm_c (vm_at 29 rfl) (vm_c (vm_at 30 rfl) (vm_c (vm_at 31 rfl) (vm_c (vm_at 32 rfl) (vm_c (vm_at 33 rfl) (vm_c (vm_at 34 rfl) (vm_c (vm_at 35 rfl) vm_n)))))))))))))))))))))))) (vm_c (vm_at 36 rfl) (vm_c (vm_at 37 rfl) (vm_c (vm_at 38 rfl) (vm_c (vm_at 39 rfl) (vm_c (vm_at 40 rfl) vm_n)))))) (fun w h => (List.mem_cons_of_mem _ (List.mem_append_right _ h))))) (by decide +kernel)
set_option maxRecDepth 20000 in
theorem gX7_mark_X0_markOf : GoodIn wsX7_mark (va_wsS RX7 156 yX0_markOf wsX0_markOf) := goodIn_app (goodIn_sub (vm_c (vm_at 14 rfl) (vm_c (vm_at 15 rfl) (vm_c (vm_at 16 rfl) vm_n))) (by decide +kernel)) ggX7_mark_X0_markOf
set_option maxRecDepth 20000 in
theorem ggX7_passed_X0_passedBits : GoodIn wsX7_passed wsX0_passedBits := goodIn_sub (vm_c (vm_at 5 rfl) (vm_a (vm_a (vm_c (vm_at 6 rfl) (vm_c (vm_at 7 rfl) (vm_c (vm_at 8 rfl) (vm_c (vm_at 9 rfl) (vm_c (vm_at 4 rfl) (vm_c (vm_at 10 rfl) (vm_c (vm_at 11 rfl) (vm_c (vm_at 12 rfl) (vm_c (vm_at 13 rfl) (vm_c (vm_at 14 rfl) (vm_c (vm_at 15 rfl) (vm_c (vm_at 16 rfl) (vm_c (vm_at 17 rfl) (vm_c (vm_at 18 rfl) (vm_c (vm_at 19 rfl) (vm_c (vm_at 20 rfl) (vm_c (vm_at 21 rfl) (vm_c (vm_at 22 rfl) (vm_c (vm_at 23 rfl) (vm_c (vm_at 24 rfl) (vm_c (vm_at 25 rfl) (vm_c (vm_at 26 rfl) (vm_c (vm_at 27 rfl) (vm_c (vm_at 28 rfl) vm_n)))))))))))))))))))))))) (vm_c (vm_at 29 rfl) (vm_c (vm_at 30 rfl) (vm_c (vm_at 31 rfl) (vm_c (vm_at 32 rfl) (vm_c (vm_at 33 rfl) (vm_c (vm_at 34 rfl) (vm_c (vm_at 35 rfl) (vm_c (vm_at 36 rfl) (vm_c (vm_at 37 rfl) vm_n)))))))))) (fun w h => (List.mem_cons_of_mem _ (List.mem_append_right _ h))))) (by decide +kernel)
set_option maxRecDepth 20000 in
theorem gX7_passed_X0_passedBits : GoodIn wsX7_passed (va_wsS RX7 159 yX0_passedBits wsX0_passedBits) := goodIn_app (goodIn_sub (vm_c (vm_at 2 rfl) (vm_c (vm_at 3 rfl) (vm_c (vm_at 4 rfl) vm_n))) (by decide +kernel)) ggX7_passed_X0_passedBits
set_option maxRecDepth 20000 in
theorem ggX7_all_X0_sumOfMarks : GoodIn wsX7_all wsX0_sumOfMarks := goodIn_sub (vm_c (vm_at 5 rfl) (vm_a (vm_a (vm_c (vm_at 6 rfl) (vm_c (vm_at 7 rfl) (vm_c (vm_at 8 rfl) (vm_c (vm_at 9 rfl) (vm_c (vm_at 4 rfl) (vm_c (vm_at 10 rfl) (vm_c (vm_at 11 rfl) (vm_c (vm_at 12 rfl) (vm_c (vm_at 13 rfl) (vm_c (vm_at 14 rfl) (vm_c (vm_at 15 rfl) (vm_c (vm_at 16 rfl) (vm_c (vm_at 17 rfl) (vm_c (vm_at 18 rfl) (vm_c (vm_at 19 rfl) (vm_c (vm_at 20 rfl) (vm_c (vm_at 21 rfl) (vm_c (vm_at 22 rfl) (vm_c (vm_at 23 rfl) (vm_c (vm_at 24 rfl) (vm_c (vm_at 25 rfl) (vm_c (vm_at 26 rfl) (vm_c (vm_at 27 rfl) (vm_c (vm_at 28 rfl) vm_n)))))))))))))))))))))))) (vm_c (vm_at 29 rfl) (vm_c (vm_at 30 rfl) (vm_c (vm_at 31 rfl) (vm_c (vm_at 32 rfl) (vm_c (vm_at 33 rfl) (vm_c (vm_at 34 rfl) (vm_c (vm_at 35 rfl) (vm_c (vm_at 36 rfl) vm_n))))))))) (fun w h => (List.mem_cons_of_mem _ (List.mem_append_right _ h))))) (by decide +kernel)
set_option maxRecDepth 20000 in
theorem gX7_all_X0_sumOfMarks : GoodIn wsX7_all (va_wsS RX7 163 yX0_sumOfMarks wsX0_sumOfMarks) := goodIn_app (goodIn_sub (vm_c (vm_at 2 rfl) (vm_c (vm_at 3 rfl) (vm_c (vm_at 4 rfl) vm_n))) (by decide +kernel)) ggX7_all_X0_sumOfMarks
