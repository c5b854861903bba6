set_option maxRecDepth 20000 in
theorem ggX8_swap_X8_no : GoodIn wsX8_swap wsX8_no := goodIn_sub (vm_c (vm_at 10 rfl) (vm_a (vm_c (vm_at 11 rfl) vm_n) (fun w h => (List.mem_cons_of_mem _ (List.mem_append_right _ h))))) (by decide +kernel)
set_option maxRecDepth 20000 in
theorem gX8_swap_X8_no : GoodIn wsX8_swap (wsV RX8 71 RX8 yX8_no wsX8_no) := goodIn_app (goodIn_sub (vm_c (vm_at 7 rfl) (vm_c (vm_at 8 rfl) (vm_c (vm_at 9 rfl) (vm_c (vm_at 4 rfl) vm_n)))) (by decide +kernel)) ggX8_swap_X8_no
set_option maxRecDepth 20000 in
theorem ggX8_swap_X8_change : GoodIn wsX8_swap wsX8_change := goodIn_sub (vm_c (vm_at 15 rfl) (vm_a (vm_c (vm_at 6 rfl) (vm_c (vm_at 16 rfl) (vm_c (vm_at 17 rfl) (vm_c (vm_at 18 rfl) (vm_c (vm_at 4 rfl) (vm_c (vm_at 19 rfl) vm_n)))))) (fun w h => (List.mem_cons_of_mem _ (List.mem_append_right _ h))))) (by decide +kernel)
set_option maxRecDepth 20000 in
theorem gX8_swap_X8_change : GoodIn wsX8_swap (wsV RX8 95 RX8 yX8_change wsX8_change) := goodIn_app (goodIn_sub (vm_c (vm_at 12 rfl) (vm_c (vm_at 13 rfl) (vm_c (vm_at 14 rfl) (vm_c (vm_at 4 rfl) vm_n)))) (by decide +kernel)) ggX8_swap_X8_change
set_option maxRecDepth 20000 in
theorem ggX8_law_X8_no : GoodIn wsX8_law wsX8_no := goodIn_sub (vm_c (vm_at 6 rfl) (vm_a (vm_c (vm_at 7 rfl) vm_n) (fun w h => (List.mem_cons_of_mem _ (List.mem_append_right _ h))))) (by decide +kernel)
set_option maxRecDepth 20000 in
theorem gX8_law_X8_no : GoodIn wsX8_law (wsV RX8 71 RX8 yX8_no wsX8_no) := goodIn_app (goodIn_sub (vm_c (vm_at 2 rfl) (vm_c (vm_at 3 rfl) (vm_c (vm_at 4 rfl) (vm_c (vm_at 5 rfl) vm_n)))) (by decide +kernel)) ggX8_law_X8_no
set_option maxRecDepth 20000 in
theorem ggX8_pass_X8_no : GoodIn wsX8_pass wsX8_no := goodIn_sub (vm_c (vm_at 6 rfl) (vm_a (vm_c (vm_at 7 rfl) vm_n) (fun w h => (List.mem_cons_of_mem _ (List.mem_append_right _ h))))) (by decide +kernel)
set_option maxRecDepth 20000 in
theorem gX8_pass_X8_no : GoodIn wsX8_pass (wsV RX8 71 RX8 yX8_no wsX8_no) := goodIn_app (goodIn_sub (vm_c (vm_at 2 rfl) (vm_c (vm_at 3 rfl) (vm_c (vm_at 4 rfl) (vm_c (vm_at 5 rfl) vm_n)))) (by decide +kernel)) ggX8_pass_X8_no
set_option maxRecDepth 20000 in
theorem ggX8_bestTeach_X8_teach : GoodIn wsX8_bestTeach wsX8_teach := goodIn_sub (vm_c (vm_at 6 rfl) (vm_a (vm_c (vm_at 1 rfl) vm_n) (fun w h => (List.mem_cons_of_mem _ (List.mem_append_right _ h))))) (by decide +kernel)
set_option maxRecDepth 20000 in
theorem gX8_bestTeach_X8_teach : GoodIn wsX8_bestTeach (wsV RX8 132 RX8 yX8_teach wsX8_teach) := goodIn_app (goodIn_sub (vm_c (vm_at 2 rfl) (vm_c (vm_at 3 rfl) (vm_c (vm_at 4 rfl) (vm_c (vm_at 5 rfl) vm_n)))) (by decide +kernel)) ggX8_bestTeach_X8_teach
set_option maxRecDepth 20000 in
theorem ggX8_bestTeach_X8_marked : GoodIn wsX8_bestTeach wsX8_marked := goodIn_sub (vm_c (vm_at 10 rfl) (vm_a (vm_c (vm_at 1 rfl) (vm_c (vm_at 11 rfl) (vm_c (vm_at 12 rfl) (vm_c (vm_at 13 rfl) (vm_c (vm_at 5 rfl) (vm_c (vm_at 14 rfl) (vm_c (vm_at 15 rfl) (vm_c (vm_at 16 rfl) (vm_c (vm_at 17 rfl) (vm_c (vm_at 18 rfl) (vm_c (vm_at 19 rfl) (vm_c (vm_at 20 rfl) (vm_c (vm_at 21 rfl) (vm_c (vm_at 22 rfl) (vm_c (vm_at 23 rfl) (vm_c (vm_at 24 rfl) (vm_c (vm_at 25 rfl) (vm_c (vm_at 26 rfl) vm_n)))))))))))))))))) (fun w h => (List.mem_cons_of_mem _ (List.mem_append_right _ h))))) (by decide +kernel)
set_option maxRecDepth 20000 in
theorem gX8_bestTeach_X8_marked : GoodIn wsX8_bestTeach (wsV RX8 126 RX8 yX8_marked wsX8_marked) := goodIn_app (goodIn_sub (vm_c (vm_at 7 rfl) (vm_c (vm_at 8 rfl) (vm_c (vm_at 9 rfl) (vm_c (vm_at 5 rfl) vm_n)))) (by decide +kernel)) ggX8_bestTeach_X8_marked
set_option maxRecDepth 20000 in
theorem ggX8_nextTeach_X8_beside : GoodIn wsX8_nextTeach wsX8_beside := goodIn_sub (vm_c (vm_at 6 rfl) (vm_a (vm_c (vm_at 1 rfl) (vm_c (vm_at 7 rfl) (vm_c (vm_at 8 rfl) (vm_c (vm_at 9 rfl) (vm_c (vm_at 5 rfl) (vm_c (vm_at 10 rfl) vm_n)))))) (fun w h => (List.mem_cons_of_mem _ (List.mem_append_right _ h))))) (by decide +kernel)
set_option maxRecDepth 20000 in
theorem gX8_nextTeach_X8_beside : GoodIn wsX8_nextTeach (wsV RX8 116 RX8 yX8_beside wsX8_beside) := goodIn_app (goodIn_sub (vm_c (vm_at 2 rfl) (vm_c (vm_at 3 rfl) (vm_c (vm_at 4 rfl) (vm_c (vm_at 5 rfl) vm_n)))) (by decide +kernel)) ggX8_nextTeach_X8_beside
set_option maxRecDepth 20000 in
theorem ggX8_nextTeach_X8_bestTeach : GoodIn wsX8_nextTeach wsX8_bestTeach := goodIn_sub (vm_c (vm_at 14 rfl) (vm_a (vm_a (vm_c (vm_at 1 rfl) (vm_c (vm_at 15 rfl) (vm_c (vm_at 16 rfl) (vm_c (vm_at 17 rfl) (vm_c (vm_at 5 rfl) (vm_c (vm_at 18 rfl) (vm_c (vm_at 19 rfl) (vm_c (vm_at 20 rfl) (vm_c (vm_at 21 rfl) (vm_c (vm_at 22 rfl) (vm_c (vm_at 23 rfl) (vm_c (vm_at 24 rfl) (vm_c (vm_at 25 rfl) (vm_c (vm_at 26 rfl) (vm_c (vm_at 2 rfl) (vm_c (vm_at 3 rfl) (vm_c (vm_at 4 rfl) (vm_c (vm_at 6 rfl) (vm_c (vm_at 7 rfl) (vm_c (vm_at 8 rfl) (vm_c (vm_at 9 rfl) (vm_c (vm_at 10 rfl) (vm_c (vm_at 27 rfl) (vm_c (vm_at 28 rfl) vm_n)))))))))))))))))))))))) (vm_c (vm_at 29 rfl) (vm_c (vm_at 30 rfl) vm_n))) (fun w h => (List.mem_cons_of_mem _ (List.mem_append_right _ h))))) (by decide +kernel)
set_option maxRecDepth 20000 in
theorem gX8_nextTeach_X8_bestTeach : GoodIn wsX8_nextTeach (wsV RX8 135 RX8 yX8_bestTeach wsX8_bestTeach) := goodIn_app (goodIn_sub (vm_c (vm_at 11 rfl) (vm_c (vm_at 12 rfl) (vm_c (vm_at 13 rfl) (vm_c (vm_at 5 rfl) vm_n)))) (by decide +kernel)) ggX8_nextTeach_X8_bestTeach
set_option maxRecDepth 20000 in
theorem ggX8_goBy_X8_nextTeach : GoodIn wsX8_goBy wsX8_nextTeach := goodIn_sub (vm_c (vm_at 7 rfl) (vm_a (vm_a (vm_c (vm_at 1 rfl) (vm_c (vm_at 8 rfl) (vm_c (vm_at 9 rfl) (vm_c (vm_at 10 rfl) (vm_c (vm_at 6 rfl) (vm_c (vm_at 11 rfl) (vm_c (vm_at 12 rfl) (vm_c (vm_at 13 rfl) (vm_c (vm_at 14 rfl) (vm_c (vm_at 15 rfl) (vm_c (vm_at 16 rfl) (vm_c (vm_at 17 rfl) (vm_c (vm_at 18 rfl) (vm_c (vm_at 19 rfl) (vm_c (vm_at 20 rfl) (vm_c (vm_at 21 rfl) (vm_c (vm_at 22 rfl) (vm_c (vm_at 23 rfl) (vm_c (vm_at 24 rfl) (vm_c (vm_at 25 rfl) (vm_c (vm_at 26 rfl) (vm_c (vm_at 27 rfl) (vm_c (vm_at 28 rfl) (vm_c (vm_at 29 rfl) vm_n)))))))))))))))))))))))) (vm_c (vm_at 30 rfl) (vm_c (vm_at 31 rfl) (vm_c (vm_at 32 rfl) (vm_c (vm_at 33 rfl) (vm_c (vm_at 34 rfl) (vm_c (vm_at 35 rfl) vm_n))))))) (fun w h => (List.mem_cons_of_mem _ (List.mem_append_right _ h))))) (by decide +kernel)
set_option maxRecDepth 20000 in
theorem gX8_goBy_X8_nextTeach : GoodIn wsX8_goBy (wsV RX8 138 RX8 yX8_nextTeach wsX8_nextTeach) := goodIn_app (goodIn_sub (vm_c (vm_at 3 rfl) (vm_c (vm_at 4 rfl) (vm_c (vm_at 5 rfl) (vm_c (vm_at 6 rfl) vm_n)))) (by decide +kernel)) ggX8_goBy_X8_nextTeach
set_option maxRecDepth 20000 in
theorem ggX8_goBy_X8_teach : GoodIn wsX8_goBy wsX8_teach := goodIn_sub (vm_c (vm_at 23 rfl) (vm_a (vm_c (vm_at 1 rfl) vm_n) (fun w h => (List.mem_cons_of_mem _ (List.mem_append_right _ h))))) (by decide +kernel)
set_option maxRecDepth 20000 in
theorem gX8_goBy_X8_teach : GoodIn wsX8_goBy (wsV RX8 132 RX8 yX8_teach wsX8_teach) := goodIn_app (goodIn_sub (vm_c (vm_at 20 rfl) (vm_c (vm_at 21 rfl) (vm_c (vm_at 22 rfl) (vm_c (vm_at 6 rfl) vm_n)))) (by decide +kernel)) ggX8_goBy_X8_teach
set_option maxRecDepth 20000 in
theorem ggX8_week_X8_no : GoodIn wsX8_week wsX8_no := goodIn_sub (vm_c (vm_at 6 rfl) (vm_a (vm_c (vm_at 7 rfl) vm_n) (fun w h => (List.mem_cons_of_mem _ (List.mem_append_right _ h))))) (by decide +kernel)
set_option maxRecDepth 20000 in
theorem gX8_week_X8_no : GoodIn wsX8_week (wsV RX8 71 RX8 yX8_no wsX8_no) := goodIn_app (goodIn_sub (vm_c (vm_at 2 rfl) (vm_c (vm_at 3 rfl) (vm_c (vm_at 4 rfl) (vm_c (vm_at 5 rfl) vm_n)))) (by decide +kernel)) ggX8_week_X8_no
set_option maxRecDepth 20000 in
theorem ggX8_week_X8_goBy : GoodIn wsX8_week wsX8_goBy := goodIn_sub (vm_c (vm_at 11 rfl) (vm_a (vm_a (vm_c (vm_at 1 rfl) (vm_c (vm_at 12 rfl) (vm_c (vm_at 13 rfl) (vm_c (vm_at 14 rfl) (vm_c (vm_at 15 rfl) (vm_c (vm_at 5 rfl) (vm_c (vm_at 16 rfl) (vm_c (vm_at 17 rfl) (vm_c (vm_at 18 rfl) (vm_c (vm_at 19 rfl) (vm_c (vm_at 20 rfl) (vm_c (vm_at 21 rfl) (vm_c (vm_at 22 rfl) (vm_c (vm_at 23 rfl) (vm_c (vm_at 24 rfl) (vm_c (vm_at 25 rfl) (vm_c (vm_at 26 rfl) (vm_c (vm_at 27 rfl) (vm_c (vm_at 28 rfl) (vm_c (vm_at 29 rfl) (vm_c (vm_at 30 rfl) (vm_c (vm_at 31 rfl) (vm_c (vm_at 32 rfl) (vm_c (vm_at 33 rfl) vm_n)))))))))))))))))))))))) (vm_c (vm_at 34 rfl) (vm_c (vm_at 35 rfl) (vm_c (vm_at 36 rfl) (vm_c (vm_at 37 rfl) (vm_c (vm_at 38 rfl) (vm_c (vm_at 39 rfl) (vm_c (vm_at 40 rfl) (vm_c (vm_at 41 rfl) (vm_c (vm_at 42 rfl) (vm_c (vm_at 43 rfl) (vm_c (vm_at 44 rfl) vm_n)))))))))))) (fun w h => (List.mem_cons_of_mem _ (List.mem_append_right _ h))))) (by decide +kernel)
set_option maxRecDepth 20000 in
theorem gX8_week_X8_goBy : GoodIn wsX8_week (wsV RX8 141 RX8 yX8_goBy wsX8_goBy) := goodIn_app (goodIn_sub (vm_c (vm_at 8 rfl) (vm_c (vm_at 9 rfl) (vm_c (vm_at 10 rfl) (vm_c (vm_at 5 rfl) vm_n)))) (by decide +kernel)) ggX8_week_X8_goBy
set_option maxRecDepth 20000 in
theorem ggX8_knows_X8_isNobody : GoodIn wsX8_knows wsX8_isNobody := goodIn_sub (vm_c (vm_at 5 rfl) (vm_a (vm_c (vm_at 6 rfl) vm_n) (fun w h => (List.mem_cons_of_mem _ (List.mem_append_right _ h))))) (by decide +kernel)
set_option maxRecDepth 20000 in
theorem gX8_knows_X8_isNobody : GoodIn wsX8_knows (wsV RX8 129 RX8 yX8_isNobody wsX8_isNobody) := goodIn_app (goodIn_sub (vm_c (vm_at 1 rfl) (vm_c (vm_at 2 rfl) (vm_c (vm_at 3 rfl) (vm_c (vm_at 4 rfl) vm_n)))) (by decide +kernel)) ggX8_knows_X8_isNobody
set_option maxRecDepth 20000 in
theorem ggX8_knows_X8_no : GoodIn wsX8_knows wsX8_no := goodIn_sub (vm_c (vm_at 10 rfl) (vm_a (vm_c (vm_at 11 rfl) vm_n) (fun w h => (List.mem_cons_of_mem _ (List.mem_append_right _ h))))) (by decide +kernel)
set_option maxRecDepth 20000 in
theorem gX8_knows_X8_no : GoodIn wsX8_knows (wsV RX8 71 RX8 yX8_no wsX8_no) := goodIn_app (goodIn_sub (vm_c (vm_at 7 rfl) (vm_c (vm_at 8 rfl) (vm_c (vm_at 9 rfl) (vm_c (vm_at 4 rfl) vm_n)))) (by decide +kernel)) ggX8_knows_X8_no
set_option maxRecDepth 20000 in
theorem ggX8_knows_X8_known : GoodIn wsX8_knows wsX8_known := goodIn_sub (vm_c (vm_at 15 rfl) (vm_a (vm_c (vm_at 6 rfl) (vm_c (vm_at 16 rfl) (vm_c (vm_at 17 rfl) (vm_c (vm_at 18 rfl) (vm_c (vm_at 4 rfl) (vm_c (vm_at 19 rfl) (vm_c (vm_at 20 rfl) (vm_c (vm_at 21 rfl) (vm_c (vm_at 22 rfl) (vm_c (vm_at 23 rfl) vm_n)))))))))) (fun w h => (List.mem_cons_of_mem _ (List.mem_append_right _ h))))) (by decide +kernel)
set_option maxRecDepth 20000 in
theorem gX8_knows_X8_known : GoodIn wsX8_knows (wsV RX8 120 RX8 yX8_known wsX8_known) := goodIn_app (goodIn_sub (vm_c (vm_at 12 rfl) (vm_c (vm_at 13 rfl) (vm_c (vm_at 14 rfl) (vm_c (vm_at 4 rfl) vm_n)))) (by decide +kernel)) ggX8_knows_X8_known
set_option maxRecDepth 20000 in
theorem ggX8_mark_X8_isNobody : GoodIn wsX8_mark wsX8_isNobody := goodIn_sub (vm_c (vm_at 6 rfl) (vm_a (vm_c (vm_at 1 rfl) vm_n) (fun w h => (List.mem_cons_of_mem _ (List.mem_append_right _ h))))) (by decide +kernel)
set_option maxRecDepth 20000 in
theorem gX8_mark_X8_isNobody : GoodIn wsX8_mark (wsV RX8 129 RX8 yX8_isNobody wsX8_isNobody) := goodIn_app (goodIn_sub (vm_c (vm_at 2 rfl) (vm_c (vm_at 3 rfl) (vm_c (vm_at 4 rfl) (vm_c (vm_at 5 rfl) vm_n)))) (by decide +kernel)) ggX8_mark_X8_isNobody
set_option maxRecDepth 20000 in
theorem ggX8_mark_X8_no : GoodIn wsX8_mark wsX8_no := goodIn_sub (vm_c (vm_at 10 rfl) (vm_a (vm_c (vm_at 11 rfl) vm_n) (fun w h => (List.mem_cons_of_mem _ (List.mem_append_right _ h))))) (by decide +kernel)
set_option maxRecDepth 20000 in
theorem gX8_mark_X8_no : GoodIn wsX8_mark (wsV RX8 71 RX8 yX8_no wsX8_no) := goodIn_app (goodIn_sub (vm_c (vm_at 7 rfl) (vm_c (vm_at 8 rfl) (vm_c (vm_at 9 rfl) (vm_c (vm_at 5 rfl) vm_n)))) (by decide +kernel)) ggX8_mark_X8_no
set_option maxRecDepth 20000 in
theorem ggX8_mark_X8_marked : GoodIn wsX8_mark wsX8_marked := goodIn_sub (vm_c (vm_at 15 rfl) (vm_a (vm_c (vm_at 1 rfl) (vm_c (vm_at 16 rfl) (vm_c (vm_at 17 rfl) (vm_c (vm_at 18 rfl) (vm_c (vm_at 5 rfl) (vm_c (vm_at 19 rfl) (vm_c (vm_at 20 rfl) (vm_c (vm_at 21 rfl) (vm_c (vm_at 22 rfl) (vm_c (vm_at 23 rfl) (vm_c (vm_at 24 rfl) (vm_c (vm_at 25 rfl) (vm_c (vm_at 26 rfl) (vm_c (vm_at 27 rfl) (vm_c (vm_at 28 rfl) (vm_c (vm_at 29 rfl) (vm_c (vm_at 30 rfl) (vm_c (vm_at 31 rfl) vm_n)))))))))))))))))) (fun w h => (List.mem_cons_of_mem _ (List.mem_append_right _ h))))) (by decide +kernel)
set_option maxRecDepth 20000 in
theorem gX8_mark_X8_marked : GoodIn wsX8_mark (wsV RX8 126 RX8 yX8_marked wsX8_marked) := goodIn_app (goodIn_sub (vm_c (vm_at 12 rfl) (vm_c (vm_at 13 rfl) (vm_c (vm_at 14 rfl) (vm_c (vm_at 5 rfl) vm_n)))) (by decide +kernel)) ggX8_mark_X8_marked
set_option maxRecDepth 20000 in
theorem ggX8_passed_X8_whoPass : GoodIn wsX8_passed wsX8_whoPass := goodIn_sub (vm_c (vm_at 5 rfl) (vm_a (vm_c (vm_at 6 rfl) (vm_c (vm_at 7 rfl) (vm_c (vm_at 8 rfl) (vm_c (vm_at 9 rfl) (vm_c (vm_at 4 rfl) (vm_c (vm_at 10 rfl) (vm_c (vm_at 11 rfl) (vm_c (vm_at 12 rfl) (vm_c (vm_at 13 rfl) (vm_c (vm_at 14 rfl) (vm_c (vm_at 15 rfl) (vm_c (vm_at 16 rfl) (vm_c (vm_at 17 rfl) (vm_c (vm_at 18 rfl) (vm_c (vm_at 19 rfl) (vm_c (vm_at 20 rfl) (vm_c (vm_at 21 rfl) (vm_c (vm_at 22 rfl) (vm_c (vm_at 23 rfl) (vm_c (vm_at 24 rfl) (vm_c (vm_at 25 rfl) (vm_c (vm_at 26 rfl) vm_n)))))))))))))))))))))) (fun w h => (List.mem_cons_of_mem _ (List.mem_append_right _ h))))) (by decide +kernel)
set_option maxRecDepth 20000 in
theorem gX8_passed_X8_whoPass : GoodIn wsX8_passed (wsV RX8 144 RX8 yX8_whoPass wsX8_whoPass) := goodIn_app (goodIn_sub (vm_c (vm_at 1 rfl) (vm_c (vm_at 2 rfl) (vm_c (vm_at 3 rfl) (vm_c (vm_at 4 rfl) vm_n)))) (by decide +kernel)) ggX8_passed_X8_whoPass
set_option maxRecDepth 20000 in
theorem ggX8_all_X8_together : GoodIn wsX8_all wsX8_together := goodIn_sub (vm_c (vm_at 6 rfl) (vm_a (vm_c (vm_at 1 rfl) (vm_c (vm_at 7 rfl) (vm_c (vm_at 8 rfl) (vm_c (vm_at 9 rfl) (vm_c (vm_at 5 rfl) (vm_c (vm_at 10 rfl) (vm_c (vm_at 11 rfl) (vm_c (vm_at 12 rfl) (vm_c (vm_at 13 rfl) (vm_c (vm_at 14 rfl) (vm_c (vm_at 15 rfl) (vm_c (vm_at 16 rfl) (vm_c (vm_at 17 rfl) (vm_c (vm_at 18 rfl) (vm_c (vm_at 19 rfl) (vm_c (vm_at 20 rfl) (vm_c (vm_at 21 rfl) (vm_c (vm_at 22 rfl) (vm_c (vm_at 23 rfl) (vm_c (vm_at 24 rfl) (vm_c (vm_at 25 rfl) (vm_c (vm_at 26 rfl) vm_n)))))))))))))))))))))) (fun w h => (List.mem_cons_of_mem _ (List.mem_append_right _ h))))) (by decide +kernel)
set_option maxRecDepth 20000 in
theorem gX8_all_X8_together : GoodIn wsX8_all (wsV RX8 147 RX8 yX8_together wsX8_together) := goodIn_app (goodIn_sub (vm_c (vm_at 2 rfl) (vm_c (vm_at 3 rfl) (vm_c (vm_at 4 rfl) (vm_c (vm_at 5 rfl) vm_n)))) (by decide +kernel)) ggX8_all_X8_together
set_option maxRecDepth 20000 in
theorem ggX8_after_X8_no : GoodIn wsX8_after wsX8_no := goodIn_sub (vm_c (vm_at 7 rfl) (vm_a (vm_c (vm_at 8 rfl) vm_n) (fun w h => (List.mem_cons_of_mem _ (List.mem_append_right _ h))))) (by decide +kernel)
set_option maxRecDepth 20000 in
theorem gX8_after_X8_no : GoodIn wsX8_after (wsV RX8 71 RX8 yX8_no wsX8_no) := goodIn_app (goodIn_sub (vm_c (vm_at 3 rfl) (vm_c (vm_at 4 rfl) (vm_c (vm_at 5 rfl) (vm_c (vm_at 6 rfl) vm_n)))) (by decide +kernel)) ggX8_after_X8_no
set_option maxRecDepth 20000 in
theorem ggX8_after_X8_move : GoodIn wsX8_after wsX8_move := goodIn_sub (vm_c (vm_at 11 rfl) vm_n) (by decide +kernel)
set_option maxRecDepth 20000 in
theorem gX8_after_X8_move : GoodIn wsX8_after (va_wsS RX8 67 yX8_move wsX8_move) := goodIn_app (goodIn_sub (vm_c (vm_at 9 rfl) (vm_c (vm_at 10 rfl) (vm_c (vm_at 6 rfl) vm_n))) (by decide +kernel)) ggX8_after_X8_move
set_option maxRecDepth 20000 in
theorem ggX8_after_X8_goBy : GoodIn wsX8_after wsX8_goBy := goodIn_sub (vm_c (vm_at 15 rfl) (vm_a (vm_a (vm_c (vm_at 1 rfl) (vm_c (vm_at 16 rfl) (vm_c (vm_at 17 rfl) (vm_c (vm_at 18 rfl) (vm_c (vm_at 19 rfl) (vm_c (vm_at 6 rfl) (vm_c (vm_at 20 rfl) (vm_c (vm_at 21 rfl) (vm_c (vm_at 22 rfl) (vm_c (vm_at 23 rfl) (vm_c (vm_at 24 rfl) (vm_c (vm_at 25 rfl) (vm_c (vm_at 26 rfl) (vm_c (vm_at 27 rfl) (vm_c (vm_at 28 rfl) (vm_c (vm_at 29 rfl) (vm_c (vm_at 30 rfl) (vm_c (vm_at 31 rfl) (vm_c (vm_at 32 rfl) (vm_c (vm_at 33 rfl) (vm_c (vm_at 34 rfl) (vm_c (vm_at 35 rfl) (vm_c (vm_at 36 rfl) (vm_c (vm_at 37 rfl) vm_n)))))))))))))))))))))))) (vm_c (vm_at 38 rfl) (vm_c (vm_at 39 rfl) (vm_c (vm_at 40 rfl) (vm_c (vm_at 41 rfl) (vm_c (vm_at 42 rfl) (vm_c (vm_at 43 rfl) (vm_c (vm_at 44 rfl) (vm_c (vm_at 45 rfl) (vm_c (vm_at 46 rfl) (vm_c (vm_at 47 rfl) (vm_c (vm_at 48 rfl) vm_n)))))))))))) (fun w h => (List.mem_cons_of_mem _ (List.mem_append_right _ h))))) (by decide +kernel)
set_option maxRecDepth 20000 in
theorem gX8_after_X8_goBy : GoodIn wsX8_after (wsV RX8 141 RX8 yX8_goBy wsX8_goBy) := goodIn_app (goodIn_sub (vm_c (vm_at 12 rfl) (vm_c (vm_at 13 rfl) (vm_c (vm_at 14 rfl) (vm_c (vm_at 6 rfl) vm_n)))) (by decide +kernel)) ggX8_after_X8_goBy
set_option maxRecDepth 20000 in
theorem ggX8_after_X8_together : GoodIn wsX8_after wsX8_together := goodIn_sub (vm_c (vm_at 52 rfl) (vm_a (vm_c (vm_at 1 rfl) (vm_c (vm_at 37 rfl) (vm_c (vm_at 38 rfl) (vm_c (vm_at 39 rfl) (vm_c (vm_at 6 rfl) (vm_c (vm_at 40 rfl) (vm_c (vm_at 41 rfl) (vm_c (vm_at 42 rfl) (vm_c (vm_at 43 rfl) (vm_c (vm_at 44 rfl) (vm_c (vm_at 21 rfl) (vm_c (vm_at 22 rfl) (vm_c (vm_at 23 rfl) (vm_c (vm_at 24 rfl) (vm_c (vm_at 25 rfl) (vm_c (vm_at 26 rfl) (vm_c (vm_at 27 rfl) (vm_c (vm_at 28 rfl) (vm_c (vm_at 45 rfl) (vm_c (vm_at 46 rfl) (vm_c (vm_at 47 rfl) (vm_c (vm_at 48 rfl) vm_n)))))))))))))))))))))) (fun w h => (List.mem_cons_of_mem _ (List.mem_append_right _ h))))) (by decide +kernel)
set_option maxRecDepth 20000 in
theorem gX8_after_X8_together : GoodIn wsX8_after (wsV RX8 147 RX8 yX8_together wsX8_together) := goodIn_app (goodIn_sub (vm_c (vm_at 49 rfl) (vm_c (vm_at 50 rfl) (vm_c (vm_at 51 rfl) (vm_c (vm_at 6 rfl) vm_n)))) (by decide +kernel)) ggX8_after_X8_together
set_option maxRecDepth 20000 in
theorem ggX8_after_X8_marked : GoodIn wsX8_after wsX8_marked := goodIn_sub (vm_c (vm_at 40 rfl) (vm_a (vm_c (vm_at 1 rfl) (vm_c (vm_at 41 rfl) (vm_c (vm_at 42 rfl) (vm_c (vm_at 43 rfl) (vm_c (vm_at 6 rfl) (vm_c (vm_at 44 rfl) (vm_c (vm_at 21 rfl) (vm_c (vm_at 22 rfl) (vm_c (vm_at 23 rfl) (vm_c (vm_at 24 rfl) (vm_c (vm_at 25 rfl) (vm_c (vm_at 26 rfl) (vm_c (vm_at 27 rfl) (vm_c (vm_at 28 rfl) (vm_c (vm_at 45 rfl) (vm_c (vm_at 46 rfl) (vm_c (vm_at 47 rfl) (vm_c (vm_at 48 rfl) vm_n)))))))))))))))))) (fun w h => (List.mem_cons_of_mem _ (List.mem_append_right _ h))))) (by decide +kernel)
set_option maxRecDepth 20000 in
theorem gX8_after_X8_marked : GoodIn wsX8_after (wsV RX8 126 RX8 yX8_marked wsX8_marked) := goodIn_app (goodIn_sub (vm_c (vm_at 37 rfl) (vm_c (vm_at 38 rfl) (vm_c (vm_at 39 rfl) (vm_c (vm_at 6 rfl) vm_n)))) (by decide +kernel)) ggX8_after_X8_marked
set_option maxRecDepth 20000 in
theorem ggX8_again_X8_move : GoodIn wsX8_again wsX8_move := goodIn_sub (vm_c (vm_at 7 rfl) vm_n) (by decide +kernel)
set_option maxRecDepth 20000 in
theorem gX8_again_X8_move : GoodIn wsX8_again (va_wsS RX8 67 yX8_move wsX8_move) := goodIn_app (goodIn_sub (vm_c (vm_at 4 rfl) (vm_c (vm_at 5 rfl) (vm_c (vm_at 6 rfl) vm_n))) (by decide +kernel)) ggX8_again_X8_move
set_option maxRecDepth 20000 in
theorem ggX8_again_X8_goBy : GoodIn wsX8_again wsX8_goBy := goodIn_sub (vm_c (vm_at 11 rfl) (vm_a (vm_a (vm_c (vm_at 1 rfl) (vm_c (vm_at 12 rfl) (vm_c (vm_at 13 rfl) (vm_c (vm_at 14 rfl) (vm_c (vm_at 15 rfl) (vm_c (vm_at 6 rfl) (vm_c (vm_at 16 rfl) (vm_c (vm_at 17 rfl) (vm_c (vm_at 18 rfl) (vm_c (vm_at 19 rfl) (vm_c (vm_at 20 rfl) (vm_c (vm_at 21 rfl) (vm_c (vm_at 22 rfl) (vm_c (vm_at 23 rfl) (vm_c (vm_at 24 rfl) (vm_c (vm_at 25 rfl) (vm_c (vm_at 26 rfl) (vm_c (vm_at 27 rfl) (vm_c (vm_at 28 rfl) (vm_c (vm_at 29 rfl) (vm_c (vm_at 30 rfl) (vm_c (vm_at 31 rfl) (vm_c (vm_at 32 rfl) (vm_c (vm_at 33 rfl) vm_n)))))))))))))))))))))))) (vm_c (vm_at 34 rfl) (vm_c (vm_at 35 rfl) (vm_c (vm_at 36 rfl) (vm_c (vm_at 37 rfl) (vm_c (vm_at 38 rfl) (vm_c (vm_at 39 rfl) (vm_c (vm_at 40 rfl) (vm_c (vm_at 41 rfl) (vm_c (vm_at 42 rfl) (vm_c (vm_at 43 rfl) (vm_c (vm_at 44 rfl) vm_n)))))))))))) (fun w h => (List.mem_cons_of_mem _ (List.mem_append_right _ h))))) (by decide +kernel)
set_option maxRecDepth 20000 in
theorem gX8_again_X8_goBy : GoodIn wsX8_again (wsV RX8 141 RX8 yX8_goBy wsX8_goBy) := goodIn_app (goodIn_sub (vm_c (vm_at 8 rfl) (vm_c (vm_at 9 rfl) (vm_c (vm_at 10 rfl) (vm_c (vm_at 6 rfl) vm_n)))) (by decide +kernel)) ggX8_again_X8_goBy
set_option maxRecDepth 20000 in
theorem ggX8_again_X8_isAsBefore : GoodIn wsX8_again wsX8_isAsBefore := goodIn_sub (vm_c (vm_at 48 rfl) (vm_a (vm_c (vm_at 1 rfl) (vm_c (vm_at 2 rfl) vm_n)) (fun w h => (List.mem_cons_of_mem _ (List.mem_append_right _ h))))) (by decide +kernel)
set_option maxRecDepth 20000 in
theorem gX8_again_X8_isAsBefore : GoodIn wsX8_again (wsV RX8 150 RX8 yX8_isAsBefore wsX8_isAsBefore) := goodIn_app (goodIn_sub (vm_c (vm_at 45 rfl) (vm_c (vm_at 46 rfl) (vm_c (vm_at 47 rfl) (vm_c (vm_at 6 rfl) vm_n)))) (by decide +kernel)) ggX8_again_X8_isAsBefore
set_option maxRecDepth 20000 in
theorem ggX8_lookAt_X8_whoPass : GoodIn wsX8_lookAt wsX8_whoPass := goodIn_sub (vm_c (vm_at 14 rfl) (vm_a (vm_c (vm_at 1 rfl) (vm_c (vm_at 15 rfl) (vm_c (vm_at 16 rfl) (vm_c (vm_at 17 rfl) (vm_c (vm_at 13 rfl) (vm_c (vm_at 18 rfl) (vm_c (vm_at 19 rfl) (vm_c (vm_at 20 rfl) (vm_c (vm_at 21 rfl) (vm_c (vm_at 22 rfl) (vm_c (vm_at 23 rfl) (vm_c (vm_at 24 rfl) (vm_c (vm_at 25 rfl) (vm_c (vm_at 26 rfl) (vm_c (vm_at 27 rfl) (vm_c (vm_at 28 rfl) (vm_c (vm_at 29 rfl) (vm_c (vm_at 30 rfl) (vm_c (vm_at 31 rfl) (vm_c (vm_at 32 rfl) (vm_c (vm_at 33 rfl) (vm_c (vm_at 34 rfl) vm_n)))))))))))))))))))))) (fun w h => (List.mem_cons_of_mem _ (List.mem_append_right _ h))))) (by decide +kernel)
set_option maxRecDepth 20000 in
theorem gX8_lookAt_X8_whoPass : GoodIn wsX8_lookAt (wsV RX8 144 RX8 yX8_whoPass wsX8_whoPass) := goodIn_app (goodIn_sub (vm_c (vm_at 10 rfl) (vm_c (vm_at 11 rfl) (vm_c (vm_at 12 rfl) (vm_c (vm_at 13 rfl) vm_n)))) (by decide +kernel)) ggX8_lookAt_X8_whoPass
set_option maxRecDepth 20000 in
theorem ggX8_lookAt_X8_bits : GoodIn wsX8_lookAt wsX8_bits := goodIn_sub (vm_c (vm_at 37 rfl) vm_n) (by decide +kernel)
set_option maxRecDepth 20000 in
theorem gX8_lookAt_X8_bits : GoodIn wsX8_lookAt (va_wsS RX8 154 yX8_bits wsX8_bits) := goodIn_app (goodIn_sub (vm_c (vm_at 35 rfl) (vm_c (vm_at 36 rfl) (vm_c (vm_at 13 rfl) vm_n))) (by decide +kernel)) ggX8_lookAt_X8_bits
