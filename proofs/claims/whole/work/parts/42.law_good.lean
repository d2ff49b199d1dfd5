set_option maxRecDepth 20000 in
theorem ggL_setBoard_X4_setBoard : GoodIn wsL_setBoard wsX4_setBoard := goodIn_ca (goodIn_r _ [6, 7, 8, 9, 10, 11, 12, 5, 13, 14, 15, 16, 17, 18, 19, 20, 21, 22, 23, 24, 25, 26, 27, 28, 29, 30, 31, 32, 33, 34, 35, 36, 37, 38, 39, 40, 41, 42, 43, 44, 45, 46, 47, 48, 49, 50, 51] (by decide +kernel) (by decide +kernel)) (goodIn_sub (fun _ h => List.mem_cons_of_mem _ (List.mem_append_right _ h)) (by decide +kernel))
set_option maxRecDepth 20000 in
theorem gL_setBoard_X4_setBoard : GoodIn wsL_setBoard (wsV RL 7 RX4 yX4_setBoard wsX4_setBoard) := goodIn_app (goodIn_of _ (by decide +kernel)) ggL_setBoard_X4_setBoard
set_option maxRecDepth 20000 in
theorem ggL_set_X4_set : GoodIn wsL_set wsX4_set := goodIn_ca (goodIn_ca (goodIn_r _ [7, 8, 9, 10, 11, 12, 13, 14, 15, 16, 17, 18, 19, 20, 21, 22, 23, 24, 25, 26, 27, 28, 29, 30, 31, 32, 33, 34, 35, 36, 37, 38, 39, 40, 41, 42] (by decide +kernel) (by decide +kernel)) (goodIn_sub (fun _ h => List.mem_cons_of_mem _ (List.mem_append_left _ (List.mem_append_right _ h))) (by decide +kernel))) (goodIn_sub (fun _ h => List.mem_cons_of_mem _ (List.mem_append_right _ h)) (by decide +kernel))
set_option maxRecDepth 20000 in
theorem gL_set_X4_set : GoodIn wsL_set (wsV RL 15 RX4 yX4_set wsX4_set) := goodIn_app (goodIn_of _ (by decide +kernel)) ggL_set_X4_set
set_option maxRecDepth 20000 in
theorem ggL_line_X4_line : GoodIn wsL_line wsX4_line := goodIn_ca (goodIn_ca (goodIn_r _ [7, 8, 9, 10, 11, 12, 13, 14, 15, 16, 17, 18, 19, 20, 21, 22, 23, 24, 25, 26, 27, 28, 29, 30, 31, 32, 33, 6, 34, 35, 36, 37, 38, 39, 40, 41, 42, 43, 44, 45, 46, 47, 48, 49, 50, 51, 52, 53, 54, 55, 56, 57] (by decide +kernel) (by decide +kernel)) (goodIn_sub (fun _ h => List.mem_cons_of_mem _ (List.mem_append_left _ (List.mem_append_right _ h))) (by decide +kernel))) (goodIn_sub (fun _ h => List.mem_cons_of_mem _ (List.mem_append_right _ h)) (by decide +kernel))
set_option maxRecDepth 20000 in
theorem gL_line_X4_line : GoodIn wsL_line (wsV RL 21 RX4 yX4_line wsX4_line) := goodIn_app (goodIn_of _ (by decide +kernel)) ggL_line_X4_line
set_option maxRecDepth 20000 in
theorem ggL_ring_X4_ring : GoodIn wsL_ring wsX4_ring := goodIn_ca (goodIn_ca (goodIn_r _ [7, 8, 9, 10, 11, 12, 13, 14, 15, 16, 17, 18, 19, 20, 21, 22, 23, 24, 25, 26, 6, 27, 28, 29, 30, 31, 32, 33, 34, 35, 36, 37, 38, 39, 40, 41, 42, 43, 44, 45, 46, 47, 48, 49, 50, 51] (by decide +kernel) (by decide +kernel)) (goodIn_sub (fun _ h => List.mem_cons_of_mem _ (List.mem_append_left _ (List.mem_append_right _ h))) (by decide +kernel))) (goodIn_sub (fun _ h => List.mem_cons_of_mem _ (List.mem_append_right _ h)) (by decide +kernel))
set_option maxRecDepth 20000 in
theorem gL_ring_X4_ring : GoodIn wsL_ring (wsV RL 25 RX4 yX4_ring wsX4_ring) := goodIn_app (goodIn_of _ (by decide +kernel)) ggL_ring_X4_ring
set_option maxRecDepth 20000 in
theorem ggL_stamp_X4_stamp : GoodIn wsL_stamp wsX4_stamp := goodIn_ca (goodIn_r _ [6, 7, 8, 9, 10, 11, 12, 13, 14, 15, 16, 17, 18, 19, 20, 21, 22, 23, 5, 24, 25, 26, 27, 28, 29, 30, 31, 32, 33, 34, 35, 36, 37, 38, 39, 40, 41, 42, 43, 44, 45, 46, 47, 48] (by decide +kernel) (by decide +kernel)) (goodIn_sub (fun _ h => List.mem_cons_of_mem _ (List.mem_append_right _ h)) (by decide +kernel))
set_option maxRecDepth 20000 in
theorem gL_stamp_X4_stamp : GoodIn wsL_stamp (wsV RL 28 RX4 yX4_stamp wsX4_stamp) := goodIn_app (goodIn_of _ (by decide +kernel)) ggL_stamp_X4_stamp
set_option maxRecDepth 20000 in
theorem ggL_spark_X4_spark : GoodIn wsL_spark wsX4_spark := goodIn_ca (goodIn_ca (goodIn_r _ [7, 8, 9, 10, 11, 12, 13, 14, 15, 16, 17, 18, 19, 20, 21, 22, 23, 24, 25, 26, 27, 28, 29, 30, 31, 32, 33, 34, 35, 36, 37, 38, 39, 40, 41, 42, 43, 44, 45, 46, 47, 48, 49, 50, 51, 52, 53] (by decide +kernel) (by decide +kernel)) (goodIn_sub (fun _ h => List.mem_cons_of_mem _ (List.mem_append_left _ (List.mem_append_right _ h))) (by decide +kernel))) (goodIn_sub (fun _ h => List.mem_cons_of_mem _ (List.mem_append_right _ h)) (by decide +kernel))
set_option maxRecDepth 20000 in
theorem gL_spark_X4_spark : GoodIn wsL_spark (wsV RL 31 RX4 yX4_spark wsX4_spark) := goodIn_app (goodIn_of _ (by decide +kernel)) ggL_spark_X4_spark
set_option maxRecDepth 20000 in
theorem ggL_lamp_X4_lamp : GoodIn wsL_lamp wsX4_lamp := goodIn_ca (goodIn_ca (goodIn_r _ [7, 8, 9, 10, 11, 12, 13, 14, 15, 16, 17, 18, 19, 20, 21, 22, 23, 24, 25, 26, 27, 28, 29, 30, 31, 32, 33, 34, 35, 36, 37, 38, 39, 40, 41, 42, 43, 44, 45, 46, 47, 48, 49, 50] (by decide +kernel) (by decide +kernel)) (goodIn_sub (fun _ h => List.mem_cons_of_mem _ (List.mem_append_left _ (List.mem_append_right _ h))) (by decide +kernel))) (goodIn_sub (fun _ h => List.mem_cons_of_mem _ (List.mem_append_right _ h)) (by decide +kernel))
set_option maxRecDepth 20000 in
theorem gL_lamp_X4_lamp : GoodIn wsL_lamp (wsV RL 36 RX4 yX4_lamp wsX4_lamp) := goodIn_app (goodIn_of _ (by decide +kernel)) ggL_lamp_X4_lamp
set_option maxRecDepth 20000 in
theorem ggL_pass_X4_pass : GoodIn wsL_pass wsX4_pass := goodIn_ca (goodIn_r _ [6, 7, 8, 9, 10, 11, 12, 13, 14, 15, 16, 17, 18, 19, 20, 21, 22, 23, 24, 25, 26, 27, 28, 29, 30, 31, 32, 33, 34, 35, 36, 37, 38, 39, 40, 41, 42, 43, 44, 45, 46, 47, 48, 49, 50, 51, 52, 53, 54, 55, 56, 57, 58, 59, 60, 61, 62, 63, 64, 65, 66, 67, 68, 69, 70, 71, 72, 73, 74, 75, 76, 77, 78, 79, 80, 81, 82, 83, 84, 85, 86, 87, 88, 89, 90, 91] (by decide +kernel) (by decide +kernel)) (goodIn_sub (fun _ h => List.mem_cons_of_mem _ (List.mem_append_right _ h)) (by decide +kernel))
set_option maxRecDepth 20000 in
theorem gL_pass_X4_pass : GoodIn wsL_pass (wsV RL 39 RX4 yX4_pass wsX4_pass) := goodIn_app (goodIn_of _ (by decide +kernel)) ggL_pass_X4_pass
set_option maxRecDepth 20000 in
theorem ggL_told_X4_told : GoodIn wsL_told wsX4_told := goodIn_ca (goodIn_r _ [6, 7, 8, 9, 10, 11, 12, 13, 14, 15, 16, 17, 18, 19, 20, 21, 22, 23, 24, 25, 26, 27, 28, 29, 30, 31, 32, 33, 34, 35, 36, 37, 38, 39, 40, 41, 42, 43, 44, 45, 46, 47, 48, 49, 50, 51, 52, 53, 54, 55, 56, 57, 58, 59, 60, 61, 62, 63, 64, 65, 66, 67, 68, 69, 70, 71, 72, 73, 74, 75, 76, 77, 78, 79, 80, 81, 82, 83, 84, 85, 86, 87] (by decide +kernel) (by decide +kernel)) (goodIn_sub (fun _ h => List.mem_cons_of_mem _ (List.mem_append_right _ h)) (by decide +kernel))
set_option maxRecDepth 20000 in
theorem gL_told_X4_told : GoodIn wsL_told (wsV RL 43 RX4 yX4_told wsX4_told) := goodIn_app (goodIn_of _ (by decide +kernel)) ggL_told_X4_told
set_option maxRecDepth 20000 in
theorem ggL_about_X4_about : GoodIn wsL_about wsX4_about := goodIn_ca (goodIn_r _ [6, 7, 8, 9, 10, 11, 12, 13, 14, 15, 16, 17, 18, 19, 20, 21, 22, 23, 24, 25, 26, 27, 28, 29, 30, 31, 32, 33, 34, 35, 36, 37, 38, 39, 40, 41, 42, 43, 44, 45, 46, 47, 48, 49, 50, 51] (by decide +kernel) (by decide +kernel)) (goodIn_sub (fun _ h => List.mem_cons_of_mem _ (List.mem_append_right _ h)) (by decide +kernel))
set_option maxRecDepth 20000 in
theorem gL_about_X4_about : GoodIn wsL_about (wsV RL 46 RX4 yX4_about wsX4_about) := goodIn_app (goodIn_of _ (by decide +kernel)) ggL_about_X4_about
set_option maxRecDepth 20000 in
theorem ggL_count_X4_count : GoodIn wsL_count wsX4_count := goodIn_ca (goodIn_r _ [6, 7, 8, 9, 10, 11, 12, 13, 14, 15, 16, 17, 18, 19, 20, 21, 22, 23, 24, 25, 26, 27, 28, 29, 30, 31, 32, 33, 34, 35, 36, 37, 38, 39, 40, 41, 42, 43, 44, 45, 46, 47, 48, 49, 50, 51, 52, 53, 54, 55, 56, 57, 58, 59, 60, 61, 62, 63, 64, 65, 66, 67, 68, 69, 70, 71, 72, 73, 74, 75, 76, 77, 78, 79, 80, 81, 82, 83, 84, 85, 86, 87, 88, 89, 90, 91, 92, 93, 94, 95, 96, 97, 98, 99, 100, 101, 102, 103, 104, 105, 106, 107, 108, 109, 110, 111, 112, 113] (by decide +kernel) (by decide +kernel)) (goodIn_sub (fun _ h => List.mem_cons_of_mem _ (List.mem_append_right _ h)) (by decide +kernel))
set_option maxRecDepth 20000 in
theorem gL_count_X4_count : GoodIn wsL_count (wsV RL 49 RX4 yX4_count wsX4_count) := goodIn_app (goodIn_of _ (by decide +kernel)) ggL_count_X4_count
set_option maxRecDepth 20000 in
theorem ggL_way_X4_way : GoodIn wsL_way wsX4_way := goodIn_ca (goodIn_r _ [6, 7, 8, 9, 10, 11, 12, 13, 14, 15, 16, 17, 18, 19, 20, 21, 22, 23, 24, 25, 26, 27, 28, 29, 30, 31, 32, 33, 34, 35, 36, 37, 38, 39, 40, 41, 42, 43, 44, 45, 46, 47, 48, 49, 50, 51, 52, 53, 54, 55, 56, 57, 58, 59, 60, 61, 62, 63, 64, 65, 66, 67, 68, 69] (by decide +kernel) (by decide +kernel)) (goodIn_sub (fun _ h => List.mem_cons_of_mem _ (List.mem_append_right _ h)) (by decide +kernel))
set_option maxRecDepth 20000 in
theorem gL_way_X4_way : GoodIn wsL_way (wsV RL 52 RX4 yX4_way wsX4_way) := goodIn_app (goodIn_of _ (by decide +kernel)) ggL_way_X4_way
set_option maxRecDepth 20000 in
theorem ggL_period_X4_period : GoodIn wsL_period wsX4_period := goodIn_ca (goodIn_r _ [6, 7, 8, 9, 10, 11, 12, 13, 14, 15, 16, 17, 18, 19, 20, 21, 22, 23, 24, 25, 26, 27, 28, 29, 30, 31, 32, 33, 34, 35, 36, 37, 38, 39, 40, 41, 42, 43, 44, 45, 46, 47, 48, 49, 50, 51, 52, 53, 54, 55, 56, 57, 58, 59, 60, 61, 62, 63, 64, 65, 66, 67, 68, 69, 70, 71, 72, 73, 74, 75, 76, 77, 78, 79, 80, 81, 82, 83, 84, 85, 86, 87, 88] (by decide +kernel) (by decide +kernel)) (goodIn_sub (fun _ h => List.mem_cons_of_mem _ (List.mem_append_right _ h)) (by decide +kernel))
set_option maxRecDepth 20000 in
theorem gL_period_X4_period : GoodIn wsL_period (wsV RL 55 RX4 yX4_period wsX4_period) := goodIn_app (goodIn_of _ (by decide +kernel)) ggL_period_X4_period
set_option maxRecDepth 20000 in
theorem ggL_until_X4_until : GoodIn wsL_until wsX4_until := goodIn_ca (goodIn_r _ [6, 7, 8, 9, 10, 11, 12, 13, 14, 15, 16, 17, 18, 19, 20, 21, 22, 23, 24, 25, 26, 27, 28, 29, 30, 31, 32, 33, 34, 35, 36, 37, 38, 39, 40, 41, 42, 43, 44, 45, 46, 47, 48, 49, 50, 51, 52, 53, 54, 55, 56, 57, 58, 59, 60, 61, 62, 63, 64, 65, 66, 67, 68, 69, 70] (by decide +kernel) (by decide +kernel)) (goodIn_sub (fun _ h => List.mem_cons_of_mem _ (List.mem_append_right _ h)) (by decide +kernel))
set_option maxRecDepth 20000 in
theorem gL_until_X4_until : GoodIn wsL_until (wsV RL 58 RX4 yX4_until wsX4_until) := goodIn_app (goodIn_of _ (by decide +kernel)) ggL_until_X4_until
set_option maxRecDepth 20000 in
theorem ggL_foresee_X4_foresee : GoodIn wsL_foresee wsX4_foresee := goodIn_ca (goodIn_ca (goodIn_r _ [7, 8, 9, 10, 11, 12, 13, 14, 15, 16, 17, 18, 19, 20, 21, 22, 23, 24, 25, 26, 27, 28, 29, 30, 31, 32, 33, 34, 35, 36, 37, 38, 39, 40, 41, 42, 43, 44, 45, 46, 47, 48, 49, 50, 51, 52, 53, 54, 55, 56, 57, 58, 59, 60, 61, 62, 63, 64, 65, 66, 67, 68, 69, 70, 71, 72, 73, 74, 75, 76, 77, 78, 79, 80, 81, 82, 83, 84, 85, 86, 87, 88, 89, 90, 91, 92, 93, 94, 95, 96, 97, 98, 99, 100, 101, 102, 103, 104] (by decide +kernel) (by decide +kernel)) (goodIn_sub (fun _ h => List.mem_cons_of_mem _ (List.mem_append_left _ (List.mem_append_right _ h))) (by decide +kernel))) (goodIn_sub (fun _ h => List.mem_cons_of_mem _ (List.mem_append_right _ h)) (by decide +kernel))
set_option maxRecDepth 20000 in
theorem gL_foresee_X4_foresee : GoodIn wsL_foresee (wsV RL 61 RX4 yX4_foresee wsX4_foresee) := goodIn_app (goodIn_of _ (by decide +kernel)) ggL_foresee_X4_foresee
set_option maxRecDepth 20000 in
theorem ggL_advise_X4_advise : GoodIn wsL_advise wsX4_advise := goodIn_ca (goodIn_r _ [6, 7, 8, 9, 10, 11, 12, 13, 14, 15, 16, 17, 18, 19, 20, 21, 22, 23, 24, 25, 5, 26, 27, 28, 29, 30, 31, 32, 33, 34, 35, 36, 37, 38, 39, 40, 41, 42, 43, 44, 45, 46, 47, 48, 49, 50, 51, 52, 53, 54, 55, 56, 57, 58, 59, 60, 61, 62, 63, 64, 65, 66, 67, 68, 69, 70, 71, 72, 73, 74, 75, 76, 77, 78, 79, 80, 81, 82, 83, 84, 85, 86] (by decide +kernel) (by decide +kernel)) (goodIn_sub (fun _ h => List.mem_cons_of_mem _ (List.mem_append_right _ h)) (by decide +kernel))
set_option maxRecDepth 20000 in
theorem gL_advise_X4_advise : GoodIn wsL_advise (wsV RL 64 RX4 yX4_advise wsX4_advise) := goodIn_app (goodIn_of _ (by decide +kernel)) ggL_advise_X4_advise
set_option maxRecDepth 20000 in
theorem ggL_law_X4_init : GoodIn wsL_law wsX4_init := goodIn_r _ [9, 10, 11, 12, 13, 14, 15, 16, 17, 18, 19, 20, 21, 22, 23, 24, 25, 26, 27, 28, 29, 30, 31, 32, 33, 34, 35, 36, 37, 38, 39, 40, 41, 42, 43, 44, 45, 46, 47, 48, 49, 50, 51, 52, 53, 54, 55, 56, 57, 58, 59, 60, 6, 61, 623, 624, 625, 626, 602, 603, 604, 605, 606, 607, 608, 627, 628, 629, 630, 631, 632, 633, 634, 635] (by decide +kernel) (by decide +kernel)
set_option maxRecDepth 20000 in
theorem gL_law_X4_init : GoodIn wsL_law (wsX4_init) := ggL_law_X4_init
set_option maxRecDepth 20000 in
theorem ggL_law_X5_init : GoodIn wsL_law wsX5_init := goodIn_r _ [64, 65, 11, 12, 66, 67, 38, 68, 69, 70, 71, 72, 73, 74, 75, 609, 610, 611, 612, 613, 614, 615, 616, 617, 618, 619, 620, 621, 622] (by decide +kernel) (by decide +kernel)
set_option maxRecDepth 20000 in
theorem gL_law_X5_init : GoodIn wsL_law (wsX5_init) := ggL_law_X5_init
set_option maxRecDepth 20000 in
theorem ggL_law_L_setBoard : GoodIn wsL_law wsL_setBoard := goodIn_ca (goodIn_r _ [79, 80, 81, 82, 83, 2, 84, 85, 86, 16, 25, 87, 88, 89, 90, 91, 92, 15, 93, 36, 37, 39, 94, 95, 96, 97, 98, 99, 100, 24, 101, 52, 102, 103, 104, 105, 602, 603, 604, 605, 606, 607, 608, 623, 624, 625, 626, 630, 631, 632, 633, 634] (by decide +kernel) (by decide +kernel)) (goodIn_sub (fun _ h => List.mem_append_left _ (List.mem_append_left _ (List.mem_append_right _ h))) (by decide +kernel))
set_option maxRecDepth 20000 in
theorem gL_law_L_setBoard : GoodIn wsL_law (va_wsS RL 71 yL_setBoard wsL_setBoard) := goodIn_app (goodIn_of _ (by decide +kernel)) ggL_law_L_setBoard
set_option maxRecDepth 20000 in
theorem ggL_law_X5_setBoard : GoodIn wsL_law wsX5_setBoard := goodIn_r _ [109, 110, 66, 67, 111, 68, 112, 113, 5, 114, 115, 116, 117, 118, 609, 610, 611, 612, 613, 614, 615, 616, 617, 618, 619, 620, 621, 622] (by decide +kernel) (by decide +kernel)
set_option maxRecDepth 20000 in
theorem gL_law_X5_setBoard : GoodIn wsL_law (wsV RL 76 RX5 yX5_setBoard wsX5_setBoard) := goodIn_app (goodIn_of _ (by decide +kernel)) ggL_law_X5_setBoard
set_option maxRecDepth 20000 in
theorem ggL_law_X5_thrown : GoodIn wsL_law wsX5_thrown := goodIn_r _ [122, 110, 609, 610, 611, 612, 613, 614, 615, 616, 617, 618, 619, 620, 621, 622] (by decide +kernel) (by decide +kernel)
set_option maxRecDepth 20000 in
theorem gL_law_X5_thrown : GoodIn wsL_law (wsV RL 77 RX5 yX5_thrown wsX5_thrown) := goodIn_app (goodIn_of _ (by decide +kernel)) ggL_law_X5_thrown
set_option maxRecDepth 20000 in
theorem ggL_law_L_set : GoodIn wsL_law wsL_set := goodIn_ca (goodIn_ca (goodIn_r _ [125, 126, 80, 127, 128, 129, 2, 130, 131, 132, 85, 86, 16, 133, 134, 135, 15, 136, 36, 37, 137, 138, 139, 140, 39, 141, 142, 143, 144, 145, 146, 147, 602, 603, 604, 605, 606, 607, 608, 623, 624, 625, 626] (by decide +kernel) (by decide +kernel)) (goodIn_sub (fun _ h => List.mem_append_left _ (List.mem_append_right _ h)) (by decide +kernel))) (goodIn_sub (fun _ h => List.mem_append_left _ (List.mem_append_left _ (List.mem_append_right _ h))) (by decide +kernel))
set_option maxRecDepth 20000 in
theorem gL_law_L_set : GoodIn wsL_law (va_wsS RL 81 yL_set wsL_set) := goodIn_app (goodIn_of _ (by decide +kernel)) ggL_law_L_set
set_option maxRecDepth 20000 in
theorem ggL_law_X5_set : GoodIn wsL_law wsX5_set := goodIn_r _ [151, 110, 68, 152, 153, 154, 5, 155, 66, 67, 112, 113, 114, 115, 116, 117, 118, 156, 157, 158, 609, 610, 611, 612, 613, 614, 615, 616, 617, 618, 619, 620, 621, 622] (by decide +kernel) (by decide +kernel)
set_option maxRecDepth 20000 in
theorem gL_law_X5_set : GoodIn wsL_law (wsV RL 84 RX5 yX5_set wsX5_set) := goodIn_app (goodIn_of _ (by decide +kernel)) ggL_law_X5_set
set_option maxRecDepth 20000 in
theorem ggL_law_L_line : GoodIn wsL_law wsL_line := goodIn_ca (goodIn_ca (goodIn_r _ [161, 126, 80, 162, 163, 164, 2, 165, 131, 132, 85, 86, 16, 166, 167, 168, 169, 170, 171, 172, 133, 134, 135, 15, 136, 36, 37, 173, 174, 175, 176, 177, 178, 179, 180, 137, 138, 139, 140, 39, 141, 142, 143, 144, 145, 146, 147, 602, 603, 604, 605, 606, 607, 608, 623, 624, 625, 626] (by decide +kernel) (by decide +kernel)) (goodIn_sub (fun _ h => List.mem_append_left _ (List.mem_append_right _ h)) (by decide +kernel))) (goodIn_sub (fun _ h => List.mem_append_left _ (List.mem_append_left _ (List.mem_append_right _ h))) (by decide +kernel))
set_option maxRecDepth 20000 in
theorem gL_law_L_line : GoodIn wsL_law (va_wsS RL 85 yL_line wsL_line) := goodIn_app (goodIn_of _ (by decide +kernel)) ggL_law_L_line
set_option maxRecDepth 20000 in
theorem ggL_law_X5_line : GoodIn wsL_law wsX5_line := goodIn_r _ [184, 110, 185, 167, 168, 169, 152, 153, 154, 5, 155, 66, 67, 112, 113, 114, 115, 116, 117, 118, 186, 187, 175, 188, 156, 157, 158, 189, 190, 191, 192, 68, 609, 610, 611, 612, 613, 614, 615, 616, 617, 618, 619, 620, 621, 622] (by decide +kernel) (by decide +kernel)
set_option maxRecDepth 20000 in
theorem gL_law_X5_line : GoodIn wsL_law (wsV RL 88 RX5 yX5_line wsX5_line) := goodIn_app (goodIn_of _ (by decide +kernel)) ggL_law_X5_line
set_option maxRecDepth 20000 in
theorem ggL_law_L_ring : GoodIn wsL_law wsL_ring := goodIn_ca (goodIn_ca (goodIn_r _ [195, 80, 126, 196, 197, 198, 2, 199, 85, 86, 131, 132, 16, 200, 201, 202, 15, 203, 36, 37, 204, 134, 135, 136, 177, 178, 179, 180, 133, 137, 138, 139, 140, 39, 141, 142, 143, 144, 145, 146, 147, 602, 603, 604, 605, 606, 607, 608, 623, 624, 625, 626] (by decide +kernel) (by decide +kernel)) (goodIn_sub (fun _ h => List.mem_append_left _ (List.mem_append_left _ (List.mem_append_right _ h))) (by decide +kernel))) (goodIn_sub (fun _ h => List.mem_append_left _ (List.mem_append_right _ h)) (by decide +kernel))
set_option maxRecDepth 20000 in
theorem gL_law_L_ring : GoodIn wsL_law (va_wsS RL 89 yL_ring wsL_ring) := goodIn_app (goodIn_of _ (by decide +kernel)) ggL_law_L_ring
set_option maxRecDepth 20000 in
theorem ggL_law_X5_ring : GoodIn wsL_law wsX5_ring := goodIn_r _ [208, 110, 66, 67, 115, 116, 117, 5, 118, 152, 153, 154, 155, 112, 113, 114, 156, 157, 158, 189, 190, 191, 192, 68, 609, 610, 611, 612, 613, 614, 615, 616, 617, 618, 619, 620, 621, 622] (by decide +kernel) (by decide +kernel)
set_option maxRecDepth 20000 in
theorem gL_law_X5_ring : GoodIn wsL_law (wsV RL 91 RX5 yX5_ring wsX5_ring) := goodIn_app (goodIn_of _ (by decide +kernel)) ggL_law_X5_ring
set_option maxRecDepth 20000 in
theorem ggL_law_L_stamp : GoodIn wsL_law wsL_stamp := goodIn_ca (goodIn_r _ [211, 126, 212, 213, 214, 2, 215, 131, 132, 16, 216, 200, 201, 202, 15, 203, 36, 37, 204, 134, 135, 136, 217, 218, 219, 133, 137, 138, 139, 140, 39, 141, 142, 143, 144, 145, 146, 147, 602, 603, 604, 605, 606, 607, 608, 623, 624, 625, 626] (by decide +kernel) (by decide +kernel)) (goodIn_sub (fun _ h => List.mem_append_left _ (List.mem_append_right _ h)) (by decide +kernel))
set_option maxRecDepth 20000 in
theorem gL_law_L_stamp : GoodIn wsL_law (va_wsS RL 92 yL_stamp wsL_stamp) := goodIn_app (goodIn_of _ (by decide +kernel)) ggL_law_L_stamp
set_option maxRecDepth 20000 in
theorem ggL_law_X5_stamp : GoodIn wsL_law wsX5_stamp := goodIn_r _ [223, 110, 66, 67, 224, 68, 112, 113, 5, 114, 152, 153, 154, 155, 115, 116, 117, 118, 156, 157, 158, 609, 610, 611, 612, 613, 614, 615, 616, 617, 618, 619, 620, 621, 622] (by decide +kernel) (by decide +kernel)
set_option maxRecDepth 20000 in
theorem gL_law_X5_stamp : GoodIn wsL_law (wsV RL 94 RX5 yX5_stamp wsX5_stamp) := goodIn_app (goodIn_of _ (by decide +kernel)) ggL_law_X5_stamp
set_option maxRecDepth 20000 in
theorem ggL_law_L_spark : GoodIn wsL_law wsL_spark := goodIn_ca (goodIn_ca (goodIn_r _ [227, 126, 228, 229, 230, 231, 2, 232, 131, 132, 233, 234, 16, 235, 236, 133, 134, 135, 15, 136, 36, 37, 137, 138, 139, 140, 39, 141, 142, 143, 144, 145, 146, 147, 237, 238, 239, 240, 241, 103, 104, 105, 242, 602, 603, 604, 605, 606, 607, 608, 623, 624, 625, 626] (by decide +kernel) (by decide +kernel)) (goodIn_sub (fun _ h => List.mem_append_left _ (List.mem_append_right _ h)) (by decide +kernel))) (goodIn_sub (fun _ h => List.mem_append_right _ h) (by decide +kernel))
set_option maxRecDepth 20000 in
theorem gL_law_L_spark : GoodIn wsL_law (va_wsS RL 95 yL_spark wsL_spark) := goodIn_app (goodIn_of _ (by decide +kernel)) ggL_law_L_spark
set_option maxRecDepth 20000 in
theorem ggL_law_X5_spark : GoodIn wsL_law wsX5_spark := goodIn_r _ [246, 110, 247, 68, 152, 153, 154, 5, 155, 66, 67, 112, 113, 114, 115, 116, 117, 118, 156, 157, 158, 248, 249, 250, 251, 252, 253, 254, 255, 609, 610, 611, 612, 613, 614, 615, 616, 617, 618, 619, 620, 621, 622] (by decide +kernel) (by decide +kernel)
set_option maxRecDepth 20000 in
theorem gL_law_X5_spark : GoodIn wsL_law (wsV RL 97 RX5 yX5_spark wsX5_spark) := goodIn_app (goodIn_of _ (by decide +kernel)) ggL_law_X5_spark
set_option maxRecDepth 20000 in
theorem ggL_law_L_lamp : GoodIn wsL_law wsL_lamp := goodIn_ca (goodIn_ca (goodIn_r _ [258, 126, 228, 259, 260, 261, 2, 262, 131, 132, 233, 234, 16, 25, 133, 134, 135, 15, 136, 36, 37, 263, 264, 265, 24, 266, 52, 267, 268, 269, 270, 53, 54, 55, 56, 602, 603, 604, 605, 606, 607, 608, 623, 624, 625, 626, 630, 631, 632, 633, 634] (by decide +kernel) (by decide +kernel)) (goodIn_sub (fun _ h => List.mem_append_left _ (List.mem_append_right _ h)) (by decide +kernel))) (goodIn_sub (fun _ h => List.mem_append_right _ h) (by decide +kernel))
set_option maxRecDepth 20000 in
theorem gL_law_L_lamp : GoodIn wsL_law (va_wsS RL 98 yL_lamp wsL_lamp) := goodIn_app (goodIn_of _ (by decide +kernel)) ggL_law_L_lamp
set_option maxRecDepth 20000 in
theorem ggL_law_X5_lamp : GoodIn wsL_law wsX5_lamp := goodIn_r _ [274, 110, 111, 71, 152, 153, 154, 5, 155, 66, 67, 112, 113, 114, 115, 116, 117, 118, 156, 157, 158, 609, 610, 611, 612, 613, 614, 615, 616, 617, 618, 619, 620, 621, 622] (by decide +kernel) (by decide +kernel)
set_option maxRecDepth 20000 in
theorem gL_law_X5_lamp : GoodIn wsL_law (wsV RL 100 RX5 yX5_lamp wsX5_lamp) := goodIn_app (goodIn_of _ (by decide +kernel)) ggL_law_X5_lamp
set_option maxRecDepth 20000 in
theorem ggL_law_L_pass : GoodIn wsL_law wsL_pass := goodIn_ca (goodIn_r _ [277, 80, 278, 279, 280, 2, 281, 85, 86, 16, 30, 25, 31, 282, 283, 284, 15, 285, 39, 40, 286, 287, 288, 289, 37, 36, 94, 95, 96, 97, 204, 134, 135, 136, 242, 138, 139, 140, 141, 142, 143, 290, 291, 292, 293, 294, 295, 296, 297, 298, 299, 300, 301, 302, 303, 24, 304, 52, 55, 56, 305, 306, 307, 308, 53, 54, 309, 310, 237, 238, 239, 240, 241, 103, 104, 105, 602, 603, 604, 605, 606, 607, 608, 623, 624, 625, 626, 630, 631, 632, 633, 634] (by decide +kernel) (by decide +kernel)) (goodIn_sub (fun _ h => List.mem_append_left _ (List.mem_append_left _ (List.mem_append_right _ h))) (by decide +kernel))
set_option maxRecDepth 20000 in
theorem gL_law_L_pass : GoodIn wsL_law (va_wsS RL 101 yL_pass wsL_pass) := goodIn_app (goodIn_of _ (by decide +kernel)) ggL_law_L_pass
set_option maxRecDepth 20000 in
theorem ggL_law_X5_pass : GoodIn wsL_law wsX5_pass := goodIn_r _ [314, 110, 315, 316, 112, 113, 5, 114, 115, 116, 117, 118, 317, 318, 319, 320, 66, 67, 70, 68, 252, 253, 254, 255, 156, 157, 158, 321, 322, 323, 324, 325, 326, 327, 328, 247, 329, 330, 331, 332, 111, 71, 248, 249, 250, 251, 609, 610, 611, 612, 613, 614, 615, 616, 617, 618, 619, 620, 621, 622] (by decide +kernel) (by decide +kernel)
set_option maxRecDepth 20000 in
theorem gL_law_X5_pass : GoodIn wsL_law (wsV RL 104 RX5 yX5_pass wsX5_pass) := goodIn_app (goodIn_of _ (by decide +kernel)) ggL_law_X5_pass
set_option maxRecDepth 20000 in
theorem ggL_law_L_told : GoodIn wsL_law wsL_told := goodIn_ca (goodIn_r _ [335, 126, 336, 337, 338, 2, 339, 131, 132, 16, 21, 133, 134, 135, 15, 136, 36, 37, 137, 138, 139, 140, 39, 141, 142, 143, 340, 341, 342, 343, 294, 295, 296, 297, 204, 242, 344, 299, 300, 345, 346, 347, 20, 348, 349, 350, 351, 352, 45, 353, 95, 96, 97, 354, 355, 356, 357, 46, 47, 358, 359, 360, 361, 362, 363, 364, 365, 366, 367, 368, 369, 370, 371, 372, 602, 603, 604, 605, 606, 607, 608, 623, 624, 625, 626, 627, 628, 629] (by decide +kernel) (by decide +kernel)) (goodIn_sub (fun _ h => List.mem_append_left _ (List.mem_append_right _ h)) (by decide +kernel))
set_option maxRecDepth 20000 in
theorem gL_law_L_told : GoodIn wsL_law (va_wsS RL 105 yL_told wsL_told) := goodIn_app (goodIn_of _ (by decide +kernel)) ggL_law_L_told
set_option maxRecDepth 20000 in
theorem ggL_law_X5_told : GoodIn wsL_law wsX5_told := goodIn_r _ [376, 110, 152, 153, 154, 5, 155, 66, 67, 112, 113, 114, 156, 157, 158, 377, 378, 379, 380, 68, 325, 326, 327, 328, 247, 321, 322, 323, 324, 381, 382, 383, 384, 385, 386, 387, 388, 74, 75, 115, 116, 117, 118, 609, 610, 611, 612, 613, 614, 615, 616, 617, 618, 619, 620, 621, 622] (by decide +kernel) (by decide +kernel)
set_option maxRecDepth 20000 in
theorem gL_law_X5_told : GoodIn wsL_law (wsV RL 107 RX5 yX5_told wsX5_told) := goodIn_app (goodIn_of _ (by decide +kernel)) ggL_law_X5_told
set_option maxRecDepth 20000 in
theorem ggL_law_L_about : GoodIn wsL_law wsL_about := goodIn_ca (goodIn_r _ [391, 126, 392, 393, 394, 2, 395, 131, 132, 25, 263, 264, 265, 24, 266, 52, 396, 397, 398, 399, 53, 400, 401, 402, 403, 404, 405, 406, 407, 54, 408, 409, 410, 411, 55, 412, 413, 414, 415, 56, 602, 603, 604, 605, 606, 607, 608, 630, 631, 632, 633, 634] (by decide +kernel) (by decide +kernel)) (goodIn_sub (fun _ h => List.mem_append_left _ (List.mem_append_right _ h)) (by decide +kernel))
set_option maxRecDepth 20000 in
theorem gL_law_L_about : GoodIn wsL_law (va_wsS RL 108 yL_about wsL_about) := goodIn_app (goodIn_of _ (by decide +kernel)) ggL_law_L_about
set_option maxRecDepth 20000 in
theorem ggL_law_X5_about : GoodIn wsL_law wsX5_about := goodIn_r _ [419, 110, 111, 112, 113, 5, 114, 420, 421, 422, 423, 71, 115, 116, 117, 118, 609, 610, 611, 612, 613, 614, 615, 616, 617, 618, 619, 620, 621, 622] (by decide +kernel) (by decide +kernel)
set_option maxRecDepth 20000 in
theorem gL_law_X5_about : GoodIn wsL_law (wsV RL 110 RX5 yX5_about wsX5_about) := goodIn_app (goodIn_of _ (by decide +kernel)) ggL_law_X5_about
set_option maxRecDepth 20000 in
theorem ggL_law_L_count : GoodIn wsL_law wsL_count := goodIn_ca (goodIn_r _ [426, 126, 427, 428, 429, 2, 430, 131, 132, 30, 16, 21, 25, 431, 432, 433, 15, 434, 36, 435, 436, 437, 438, 37, 237, 238, 239, 240, 241, 103, 104, 105, 242, 138, 139, 140, 39, 141, 142, 143, 439, 440, 441, 20, 442, 349, 350, 351, 352, 45, 353, 95, 96, 97, 443, 444, 354, 355, 356, 357, 46, 47, 358, 359, 360, 361, 362, 134, 135, 136, 363, 364, 365, 366, 367, 368, 445, 446, 447, 448, 449, 171, 168, 172, 263, 264, 265, 24, 266, 52, 450, 451, 452, 453, 55, 602, 603, 604, 605, 606, 607, 608, 623, 624, 625, 626, 627, 628, 629, 630, 631, 632, 633, 634] (by decide +kernel) (by decide +kernel)) (goodIn_sub (fun _ h => List.mem_append_left _ (List.mem_append_right _ h)) (by decide +kernel))
set_option maxRecDepth 20000 in
theorem gL_law_L_count : GoodIn wsL_law (va_wsS RL 111 yL_count wsL_count) := goodIn_app (goodIn_of _ (by decide +kernel)) ggL_law_L_count
set_option maxRecDepth 20000 in
theorem ggL_law_X5_count : GoodIn wsL_law wsX5_count := goodIn_r _ [457, 110, 112, 113, 5, 114, 458, 459, 460, 461, 315, 66, 67, 111, 248, 249, 250, 251, 68, 252, 253, 254, 255, 156, 157, 158, 462, 463, 464, 465, 466, 171, 168, 172, 74, 385, 386, 387, 388, 75, 247, 467, 468, 469, 470, 71, 115, 116, 117, 118, 609, 610, 611, 612, 613, 614, 615, 616, 617, 618, 619, 620, 621, 622] (by decide +kernel) (by decide +kernel)
set_option maxRecDepth 20000 in
theorem gL_law_X5_count : GoodIn wsL_law (wsV RL 113 RX5 yX5_count wsX5_count) := goodIn_app (goodIn_of _ (by decide +kernel)) ggL_law_X5_count
set_option maxRecDepth 20000 in
theorem ggL_law_L_way : GoodIn wsL_law wsL_way := goodIn_ca (goodIn_r _ [473, 126, 474, 475, 476, 2, 477, 131, 132, 16, 21, 133, 134, 135, 15, 136, 36, 37, 478, 479, 480, 20, 481, 349, 350, 351, 352, 45, 353, 95, 96, 97, 354, 355, 356, 357, 46, 47, 358, 359, 360, 361, 362, 363, 142, 143, 364, 138, 139, 140, 39, 141, 365, 366, 367, 368, 602, 603, 604, 605, 606, 607, 608, 623, 624, 625, 626, 627, 628, 629] (by decide +kernel) (by decide +kernel)) (goodIn_sub (fun _ h => List.mem_append_left _ (List.mem_append_right _ h)) (by decide +kernel))
set_option maxRecDepth 20000 in
theorem gL_law_L_way : GoodIn wsL_law (va_wsS RL 114 yL_way wsL_way) := goodIn_app (goodIn_of _ (by decide +kernel)) ggL_law_L_way
set_option maxRecDepth 20000 in
theorem ggL_law_X5_way : GoodIn wsL_law wsX5_way := goodIn_r _ [485, 110, 68, 74, 152, 153, 154, 5, 155, 66, 67, 112, 113, 114, 115, 116, 117, 118, 156, 157, 158, 385, 386, 387, 388, 75, 247, 609, 610, 611, 612, 613, 614, 615, 616, 617, 618, 619, 620, 621, 622] (by decide +kernel) (by decide +kernel)
set_option maxRecDepth 20000 in
theorem gL_law_X5_way : GoodIn wsL_law (wsV RL 116 RX5 yX5_way wsX5_way) := goodIn_app (goodIn_of _ (by decide +kernel)) ggL_law_X5_way
set_option maxRecDepth 20000 in
theorem ggL_law_L_period : GoodIn wsL_law wsL_period := goodIn_ca (goodIn_r _ [488, 126, 489, 490, 491, 2, 492, 131, 132, 17, 16, 29, 493, 494, 495, 15, 496, 36, 37, 39, 497, 498, 499, 500, 501, 502, 503, 28, 504, 61, 505, 506, 507, 508, 138, 139, 140, 141, 142, 143, 282, 283, 284, 285, 40, 286, 287, 288, 289, 94, 95, 96, 97, 204, 134, 135, 136, 242, 290, 291, 292, 293, 294, 295, 296, 297, 298, 299, 300, 509, 510, 511, 512, 513, 514, 515, 516, 602, 603, 604, 605, 606, 607, 608, 623, 624, 625, 626, 635] (by decide +kernel) (by decide +kernel)) (goodIn_sub (fun _ h => List.mem_append_left _ (List.mem_append_right _ h)) (by decide +kernel))
set_option maxRecDepth 20000 in
theorem gL_law_L_period : GoodIn wsL_law (va_wsS RL 117 yL_period wsL_period) := goodIn_app (goodIn_of _ (by decide +kernel)) ggL_law_L_period
set_option maxRecDepth 20000 in
theorem ggL_law_X5_period : GoodIn wsL_law wsX5_period := goodIn_r _ [520, 110, 68, 73, 521, 498, 499, 500, 112, 113, 5, 114, 115, 116, 117, 118, 522, 523, 524, 525, 69, 71, 72, 526, 527, 528, 529, 317, 318, 319, 320, 66, 67, 70, 252, 253, 254, 255, 156, 157, 158, 321, 322, 323, 324, 325, 326, 327, 328, 247, 530, 531, 532, 533, 609, 610, 611, 612, 613, 614, 615, 616, 617, 618, 619, 620, 621, 622] (by decide +kernel) (by decide +kernel)
set_option maxRecDepth 20000 in
theorem gL_law_X5_period : GoodIn wsL_law (wsV RL 119 RX5 yX5_period wsX5_period) := goodIn_app (goodIn_of _ (by decide +kernel)) ggL_law_X5_period
set_option maxRecDepth 20000 in
theorem ggL_law_L_until : GoodIn wsL_law wsL_until := goodIn_ca (goodIn_r _ [536, 126, 537, 538, 539, 2, 540, 131, 132, 16, 17, 133, 134, 135, 15, 136, 36, 37, 493, 494, 495, 496, 39, 497, 498, 499, 500, 137, 138, 139, 140, 141, 142, 143, 282, 283, 284, 285, 40, 286, 287, 288, 289, 94, 95, 96, 97, 204, 242, 290, 291, 292, 293, 294, 295, 296, 297, 298, 299, 300, 602, 603, 604, 605, 606, 607, 608, 623, 624, 625, 626] (by decide +kernel) (by decide +kernel)) (goodIn_sub (fun _ h => List.mem_append_left _ (List.mem_append_right _ h)) (by decide +kernel))
set_option maxRecDepth 20000 in
theorem gL_law_L_until : GoodIn wsL_law (va_wsS RL 120 yL_until wsL_until) := goodIn_app (goodIn_of _ (by decide +kernel)) ggL_law_L_until
set_option maxRecDepth 20000 in
theorem ggL_law_X5_until : GoodIn wsL_law wsX5_until := goodIn_r _ [544, 110, 68, 152, 153, 154, 5, 155, 66, 67, 112, 113, 114, 115, 116, 117, 118, 522, 523, 524, 525, 69, 521, 498, 499, 500, 71, 72, 156, 157, 158, 317, 318, 319, 320, 70, 252, 253, 254, 255, 321, 322, 323, 324, 325, 326, 327, 328, 247, 530, 531, 532, 533, 609, 610, 611, 612, 613, 614, 615, 616, 617, 618, 619, 620, 621, 622] (by decide +kernel) (by decide +kernel)
set_option maxRecDepth 20000 in
theorem gL_law_X5_until : GoodIn wsL_law (wsV RL 122 RX5 yX5_until wsX5_until) := goodIn_app (goodIn_of _ (by decide +kernel)) ggL_law_X5_until
set_option maxRecDepth 20000 in
theorem ggL_law_L_foresee : GoodIn wsL_law wsL_foresee := goodIn_ca (goodIn_ca (goodIn_r _ [547, 80, 126, 548, 549, 550, 2, 551, 85, 86, 131, 132, 25, 17, 16, 450, 451, 452, 24, 453, 52, 55, 493, 494, 495, 15, 496, 36, 37, 39, 497, 498, 499, 500, 282, 283, 284, 285, 40, 286, 287, 288, 289, 94, 95, 96, 97, 204, 134, 135, 136, 242, 138, 139, 140, 141, 142, 143, 290, 291, 292, 293, 294, 295, 296, 297, 298, 299, 300, 552, 553, 554, 555, 305, 306, 307, 308, 53, 54, 309, 310, 237, 238, 239, 240, 241, 103, 104, 105, 602, 603, 604, 605, 606, 607, 608, 630, 631, 632, 633, 634, 623, 624, 625, 626] (by decide +kernel) (by decide +kernel)) (goodIn_sub (fun _ h => List.mem_append_left _ (List.mem_append_left _ (List.mem_append_right _ h))) (by decide +kernel))) (goodIn_sub (fun _ h => List.mem_append_left _ (List.mem_append_right _ h)) (by decide +kernel))
set_option maxRecDepth 20000 in
theorem gL_law_L_foresee : GoodIn wsL_law (va_wsS RL 123 yL_foresee wsL_foresee) := goodIn_app (goodIn_of _ (by decide +kernel)) ggL_law_L_foresee
set_option maxRecDepth 20000 in
theorem ggL_law_X5_foresee : GoodIn wsL_law wsX5_foresee := goodIn_r _ [559, 110, 112, 113, 5, 114, 115, 116, 117, 118, 522, 523, 524, 525, 68, 69, 521, 498, 499, 500, 71, 72, 317, 318, 319, 320, 66, 67, 70, 252, 253, 254, 255, 156, 157, 158, 321, 322, 323, 324, 325, 326, 327, 328, 247, 329, 330, 331, 332, 111, 458, 459, 460, 461, 315, 248, 249, 250, 251, 462, 463, 464, 465, 466, 171, 168, 172, 74, 385, 386, 387, 388, 75, 467, 468, 469, 470, 530, 531, 532, 533, 609, 610, 611, 612, 613, 614, 615, 616, 617, 618, 619, 620, 621, 622] (by decide +kernel) (by decide +kernel)
set_option maxRecDepth 20000 in
theorem gL_law_X5_foresee : GoodIn wsL_law (wsV RL 125 RX5 yX5_foresee wsX5_foresee) := goodIn_app (goodIn_of _ (by decide +kernel)) ggL_law_X5_foresee
set_option maxRecDepth 20000 in
theorem ggL_law_L_advise : GoodIn wsL_law wsL_advise := goodIn_ca (goodIn_r _ [562, 80, 563, 564, 565, 2, 566, 85, 86, 17, 16, 493, 494, 495, 15, 496, 36, 37, 39, 497, 498, 499, 500, 567, 568, 569, 570, 282, 283, 284, 285, 40, 286, 287, 288, 289, 94, 95, 96, 97, 204, 134, 135, 136, 242, 138, 139, 140, 141, 142, 143, 290, 291, 292, 293, 294, 295, 296, 297, 298, 299, 300, 237, 238, 239, 240, 241, 103, 104, 105, 102, 137, 144, 145, 146, 147, 602, 603, 604, 605, 606, 607, 608, 623, 624, 625, 626] (by decide +kernel) (by decide +kernel)) (goodIn_sub (fun _ h => List.mem_append_left _ (List.mem_append_left _ (List.mem_append_right _ h))) (by decide +kernel))
set_option maxRecDepth 20000 in
theorem gL_law_L_advise : GoodIn wsL_law (va_wsS RL 126 yL_advise wsL_advise) := goodIn_app (goodIn_of _ (by decide +kernel)) ggL_law_L_advise
set_option maxRecDepth 20000 in
theorem ggL_law_X5_advise : GoodIn wsL_law wsX5_advise := goodIn_r _ [574, 110, 66, 67, 68, 112, 113, 5, 114, 115, 116, 117, 118, 522, 523, 524, 525, 69, 521, 498, 499, 500, 71, 72, 575, 576, 577, 578, 317, 318, 319, 320, 70, 252, 253, 254, 255, 156, 157, 158, 321, 322, 323, 324, 325, 326, 327, 328, 247, 248, 249, 250, 251, 530, 531, 532, 533, 609, 610, 611, 612, 613, 614, 615, 616, 617, 618, 619, 620, 621, 622] (by decide +kernel) (by decide +kernel)
set_option maxRecDepth 20000 in
theorem gL_law_X5_advise : GoodIn wsL_law (wsV RL 128 RX5 yX5_advise wsX5_advise) := goodIn_app (goodIn_of _ (by decide +kernel)) ggL_law_X5_advise
set_option maxRecDepth 20000 in
theorem ggL_law_X4_mean : GoodIn wsL_law wsX4_mean := goodIn_r _ [582, 30, 31, 602, 603, 604, 605, 606, 607, 608] (by decide +kernel) (by decide +kernel)
set_option maxRecDepth 20000 in
theorem gL_law_X4_mean : GoodIn wsL_law (wsV RL 129 RX4 yX4_mean wsX4_mean) := goodIn_app (goodIn_of _ (by decide +kernel)) ggL_law_X4_mean
set_option maxRecDepth 20000 in
theorem ggL_law_X5_mean : GoodIn wsL_law wsX5_mean := goodIn_r _ [586, 110, 315, 316, 609, 610, 611, 612, 613, 614, 615, 616, 617, 618, 619, 620, 621, 622] (by decide +kernel) (by decide +kernel)
set_option maxRecDepth 20000 in
theorem gL_law_X5_mean : GoodIn wsL_law (wsV RL 133 RX5 yX5_mean wsX5_mean) := goodIn_app (goodIn_of _ (by decide +kernel)) ggL_law_X5_mean
set_option maxRecDepth 20000 in
theorem ggL_law_X4_digest : GoodIn wsL_law wsX4_digest := goodIn_ca (goodIn_r _ [590, 591, 592, 16, 25, 31, 593, 428, 429, 2, 430, 131, 132, 30, 21, 431, 432, 433, 15, 434, 36, 435, 436, 437, 438, 37, 237, 238, 239, 240, 241, 103, 104, 105, 242, 138, 139, 140, 39, 141, 142, 143, 439, 440, 441, 20, 442, 349, 350, 351, 352, 45, 353, 95, 96, 97, 443, 444, 354, 355, 356, 357, 46, 47, 358, 359, 360, 361, 362, 134, 135, 136, 363, 364, 365, 366, 367, 368, 445, 446, 447, 448, 449, 171, 168, 172, 263, 264, 265, 24, 266, 52, 450, 451, 452, 453, 55, 594, 337, 338, 339, 133, 137, 340, 341, 342, 343, 294, 295, 296, 297, 204, 344, 299, 300, 345, 346, 347, 348, 369, 370, 371, 372, 595, 393, 394, 395, 396, 397, 398, 399, 53, 400, 401, 402, 403, 404, 405, 406, 407, 54, 408, 409, 410, 411, 412, 413, 414, 415, 56, 602, 603, 604, 605, 606, 607, 608, 623, 624, 625, 626, 627, 628, 629, 630, 631, 632, 633, 634] (by decide +kernel) (by decide +kernel)) (goodIn_sub (fun _ h => List.mem_append_left _ (List.mem_append_right _ h)) (by decide +kernel))
set_option maxRecDepth 20000 in
theorem gL_law_X4_digest : GoodIn wsL_law (wsV RL 134 RX4 yX4_digest wsX4_digest) := goodIn_app (goodIn_of _ (by decide +kernel)) ggL_law_X4_digest
set_option maxRecDepth 20000 in
theorem ggL_law_X5_digest : GoodIn wsL_law wsX5_digest := goodIn_r _ [599, 110, 600, 601, 66, 67, 111, 316, 458, 459, 460, 5, 461, 315, 248, 249, 250, 251, 68, 252, 253, 254, 255, 156, 157, 158, 462, 463, 464, 465, 466, 171, 168, 172, 74, 385, 386, 387, 388, 75, 247, 467, 468, 469, 470, 71, 377, 378, 379, 380, 325, 326, 327, 328, 321, 322, 323, 324, 381, 382, 383, 384, 420, 421, 422, 423, 609, 610, 611, 612, 613, 614, 615, 616, 617, 618, 619, 620, 621, 622] (by decide +kernel) (by decide +kernel)
set_option maxRecDepth 20000 in
theorem gL_law_X5_digest : GoodIn wsL_law (wsV RL 138 RX5 yX5_digest wsX5_digest) := goodIn_app (goodIn_of _ (by decide +kernel)) ggL_law_X5_digest
