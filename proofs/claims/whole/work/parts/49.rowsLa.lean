set_option maxRecDepth 20000 in
theorem ggL_field_X2_field : GoodIn wsL_field wsX2_field := goodIn_ca (goodIn_ca (goodIn_r _ [7, 8, 9, 10, 11, 12, 13, 6, 14, 15, 16, 17, 18, 19, 20, 21, 22, 23, 24, 25, 26, 27, 28, 29, 30] (by decide +kernel) (by decide +kernel)) (goodIn_sub (fun _ h => List.mem_cons_of_mem _ (List.mem_append_left _ (List.mem_append_right _ h))) (by decide +kernel))) (goodIn_sub (fun _ h => List.mem_cons_of_mem _ (List.mem_append_right _ h)) (by decide +kernel))
set_option maxRecDepth 20000 in
theorem gL_field_X2_field : GoodIn wsL_field (wsV RL 7 RX2 yX2_field wsX2_field) := goodIn_app (goodIn_of _ (by decide +kernel)) ggL_field_X2_field
set_option maxRecDepth 20000 in
theorem ggL_setReserve_X2_setReserve : GoodIn wsL_setReserve wsX2_setReserve := goodIn_ca (goodIn_ca (goodIn_r _ [7, 8, 9, 10, 11, 12, 13, 14, 6, 15, 16, 17, 18, 19, 20, 21, 22, 23, 24, 25, 26, 27, 28, 29, 30, 31, 32, 33, 34, 35, 36, 37, 38, 39, 40, 41, 42, 43, 44, 45, 46, 47, 48, 49, 50, 51, 52, 53, 54, 55, 56, 57, 58, 59, 60, 61, 62, 63, 64, 65, 66, 67, 68, 69, 70, 71, 72, 73, 74, 75, 76, 77, 78, 79, 80, 81, 82, 83, 84, 85, 86, 87, 88, 89, 90, 91, 92, 93, 94, 95, 96, 97, 98, 99, 100, 101, 102, 103, 104, 105, 106, 107, 108, 109, 110, 111, 112, 113, 114, 115, 116, 117, 118, 119, 120] (by decide +kernel) (by decide +kernel)) (goodIn_sub (fun _ h => List.mem_cons_of_mem _ (List.mem_append_left _ (List.mem_append_right _ h))) (by decide +kernel))) (goodIn_sub (fun _ h => List.mem_cons_of_mem _ (List.mem_append_right _ h)) (by decide +kernel))
set_option maxRecDepth 20000 in
theorem gL_setReserve_X2_setReserve : GoodIn wsL_setReserve (wsV RL 17 RX2 yX2_setReserve wsX2_setReserve) := goodIn_app (goodIn_of _ (by decide +kernel)) ggL_setReserve_X2_setReserve
set_option maxRecDepth 20000 in
theorem ggL_join_X2_join : GoodIn wsL_join wsX2_join := goodIn_ca (goodIn_r _ [6, 7, 8, 9, 10, 11, 12, 13, 14, 5, 15, 16, 17, 18, 19, 20, 21, 22, 23, 24, 25, 26, 27, 28, 29, 30, 31, 32, 33, 34, 35, 36, 37, 38, 39, 40, 41, 42, 43, 44, 45, 46, 47, 48, 49, 50, 51, 52, 53, 54, 55, 56, 57, 58, 59, 60, 61, 62, 63, 64, 65, 66, 67, 68, 69, 70, 71, 72, 73, 74, 75, 76, 77, 78, 79, 80, 81, 82, 83, 84, 85, 86, 87, 88, 89, 90, 91, 92, 93, 94, 95, 96, 97, 98, 99, 100, 101, 102, 103, 104, 105] (by decide +kernel) (by decide +kernel)) (goodIn_sub (fun _ h => List.mem_cons_of_mem _ (List.mem_append_right _ h)) (by decide +kernel))
set_option maxRecDepth 20000 in
theorem gL_join_X2_join : GoodIn wsL_join (wsV RL 23 RX2 yX2_join wsX2_join) := goodIn_app (goodIn_of _ (by decide +kernel)) ggL_join_X2_join
set_option maxRecDepth 20000 in
theorem ggL_setIn_X2_setIn : GoodIn wsL_setIn wsX2_setIn := goodIn_ca (goodIn_r _ [6, 7, 8, 9, 10, 11, 5, 12, 13, 14, 15, 16, 17, 18, 19, 20, 21, 22, 23, 24, 25, 26, 27, 28, 29, 30, 31, 32, 33, 34, 35, 36, 37, 38, 39, 40, 41, 42, 43, 44, 45, 46, 47, 48, 49, 50, 51, 52, 53, 54, 55, 56, 57, 58, 59, 60, 61, 62, 63, 64, 65, 66, 67, 68, 69, 70, 71, 72, 73, 74, 75, 76, 77, 78, 79, 80, 81, 82, 83, 84, 85, 86, 87, 88, 89, 90, 91, 92, 93, 94, 95, 96, 97, 98, 99, 100, 101, 102, 103, 104, 105, 106, 107, 108, 109] (by decide +kernel) (by decide +kernel)) (goodIn_sub (fun _ h => List.mem_cons_of_mem _ (List.mem_append_right _ h)) (by decide +kernel))
set_option maxRecDepth 20000 in
theorem gL_setIn_X2_setIn : GoodIn wsL_setIn (wsV RL 27 RX2 yX2_setIn wsX2_setIn) := goodIn_app (goodIn_of _ (by decide +kernel)) ggL_setIn_X2_setIn
set_option maxRecDepth 20000 in
theorem ggL_bid_X2_bid : GoodIn wsL_bid wsX2_bid := goodIn_ca (goodIn_ca (goodIn_ca (goodIn_r _ [8, 9, 10, 11, 12, 13, 14, 15, 16, 17, 18, 7, 19, 20, 21, 22, 23, 24, 25, 26, 27, 28, 29, 30, 31, 32, 33, 34, 35, 36, 37, 38, 39, 40, 41, 42, 43, 44, 45, 46, 47, 48, 49, 50, 51, 52, 53, 54, 55, 56, 57, 58, 59, 60, 61, 62, 63, 64, 65, 66, 67, 68, 69, 70, 71, 72, 73, 74, 75, 76, 77, 78, 79, 80, 81, 82, 83, 84, 85, 86, 87, 88, 89, 90, 91, 92, 93, 94, 95, 96, 97, 98, 99, 100, 101, 102, 103, 104, 105, 106, 107, 108, 109, 110, 111, 112, 113, 114, 115, 116, 117, 118, 119, 120, 121, 122, 123, 124, 125, 126, 127, 128] (by decide +kernel) (by decide +kernel)) (goodIn_sub (fun _ h => List.mem_cons_of_mem _ (List.mem_append_left _ (List.mem_append_left _ (List.mem_append_right _ h)))) (by decide +kernel))) (goodIn_sub (fun _ h => List.mem_cons_of_mem _ (List.mem_append_left _ (List.mem_append_right _ h))) (by decide +kernel))) (goodIn_sub (fun _ h => List.mem_cons_of_mem _ (List.mem_append_right _ h)) (by decide +kernel))
set_option maxRecDepth 20000 in
theorem gL_bid_X2_bid : GoodIn wsL_bid (wsV RL 31 RX2 yX2_bid wsX2_bid) := goodIn_app (goodIn_of _ (by decide +kernel)) ggL_bid_X2_bid
set_option maxRecDepth 20000 in
theorem ggL_setPrice_X2_setPrice : GoodIn wsL_setPrice wsX2_setPrice := goodIn_ca (goodIn_ca (goodIn_r _ [7, 8, 9, 10, 11, 12, 6, 13, 14, 15, 16, 17, 18, 19, 20, 21, 22, 23, 24, 25, 26, 27, 28, 29, 30, 31, 32, 33, 34, 35, 36, 37, 38, 39, 40, 41, 42, 43, 44, 45, 46, 47, 48, 49, 50, 51, 52, 53, 54, 55, 56, 57, 58, 59, 60, 61, 62, 63, 64, 65, 66, 67, 68, 69, 70, 71, 72, 73, 74, 75, 76, 77, 78, 79, 80, 81, 82, 83, 84, 85, 86, 87, 88, 89, 90, 91, 92, 93, 94, 95, 96, 97, 98, 99, 100, 101, 102, 103, 104, 105, 106, 107, 108, 109, 110, 111, 112, 113, 114, 115, 116, 117, 118, 119, 120] (by decide +kernel) (by decide +kernel)) (goodIn_sub (fun _ h => List.mem_cons_of_mem _ (List.mem_append_left _ (List.mem_append_right _ h))) (by decide +kernel))) (goodIn_sub (fun _ h => List.mem_cons_of_mem _ (List.mem_append_right _ h)) (by decide +kernel))
set_option maxRecDepth 20000 in
theorem gL_setPrice_X2_setPrice : GoodIn wsL_setPrice (wsV RL 35 RX2 yX2_setPrice wsX2_setPrice) := goodIn_app (goodIn_of _ (by decide +kernel)) ggL_setPrice_X2_setPrice
set_option maxRecDepth 20000 in
theorem ggL_setWorth_X2_setWorth : GoodIn wsL_setWorth wsX2_setWorth := goodIn_ca (goodIn_ca (goodIn_r _ [7, 8, 9, 10, 11, 6, 12, 13, 14, 15, 16, 17, 18, 19, 20, 21, 22, 23, 24, 25, 26, 27, 28, 29, 30, 31, 32, 33, 34] (by decide +kernel) (by decide +kernel)) (goodIn_sub (fun _ h => List.mem_cons_of_mem _ (List.mem_append_left _ (List.mem_append_right _ h))) (by decide +kernel))) (goodIn_sub (fun _ h => List.mem_cons_of_mem _ (List.mem_append_right _ h)) (by decide +kernel))
set_option maxRecDepth 20000 in
theorem gL_setWorth_X2_setWorth : GoodIn wsL_setWorth (wsV RL 38 RX2 yX2_setWorth wsX2_setWorth) := goodIn_app (goodIn_of _ (by decide +kernel)) ggL_setWorth_X2_setWorth
set_option maxRecDepth 20000 in
theorem ggL_withdraw_X2_withdraw : GoodIn wsL_withdraw wsX2_withdraw := goodIn_ca (goodIn_ca (goodIn_r _ [7, 8, 9, 10, 11, 12, 13, 14, 6, 15, 16, 17, 18, 19, 20, 21, 22, 23, 24, 25, 26, 27, 28, 29, 30, 31, 32, 33, 34, 35, 36, 37, 38, 39, 40, 41, 42, 43, 44, 45, 46, 47, 48, 49, 50, 51, 52, 53, 54, 55, 56, 57, 58, 59, 60, 61, 62, 63, 64, 65, 66, 67, 68, 69, 70, 71, 72, 73, 74, 75, 76, 77, 78, 79, 80, 81, 82, 83, 84, 85, 86, 87, 88, 89, 90, 91, 92, 93, 94, 95, 96, 97, 98, 99, 100, 101, 102, 103, 104, 105, 106, 107, 108, 109, 110, 111, 112, 113, 114, 115, 116, 117, 118, 119, 120] (by decide +kernel) (by decide +kernel)) (goodIn_sub (fun _ h => List.mem_cons_of_mem _ (List.mem_append_left _ (List.mem_append_right _ h))) (by decide +kernel))) (goodIn_sub (fun _ h => List.mem_cons_of_mem _ (List.mem_append_right _ h)) (by decide +kernel))
set_option maxRecDepth 20000 in
theorem gL_withdraw_X2_withdraw : GoodIn wsL_withdraw (wsV RL 41 RX2 yX2_withdraw wsX2_withdraw) := goodIn_app (goodIn_of _ (by decide +kernel)) ggL_withdraw_X2_withdraw
set_option maxRecDepth 20000 in
theorem ggL_told_X2_told : GoodIn wsL_told wsX2_told := goodIn_ca (goodIn_r _ [6, 7, 8, 9, 10, 11, 12, 13, 14, 15, 16, 5, 17, 18, 19, 20, 21, 22, 23, 24, 25, 26, 27, 28, 29, 30, 31, 32, 33, 34, 35, 36, 37, 38, 39, 40, 41, 42, 43, 44, 45, 46, 47, 48, 49, 50, 51, 52, 53, 54, 55, 56] (by decide +kernel) (by decide +kernel)) (goodIn_sub (fun _ h => List.mem_cons_of_mem _ (List.mem_append_right _ h)) (by decide +kernel))
set_option maxRecDepth 20000 in
theorem gL_told_X2_told : GoodIn wsL_told (wsV RL 44 RX2 yX2_told wsX2_told) := goodIn_app (goodIn_of _ (by decide +kernel)) ggL_told_X2_told
set_option maxRecDepth 20000 in
theorem ggL_about_X2_about : GoodIn wsL_about wsX2_about := goodIn_ca (goodIn_r _ [6, 7, 8, 9, 10, 11, 5, 12, 13, 14, 15, 16, 17, 18, 19, 20, 21, 22, 23, 24, 25, 26, 27, 28, 29, 30, 31, 32, 33, 34, 35, 36, 37, 38, 39, 40, 41, 42, 43, 44, 45, 46, 47, 48, 49, 50, 51] (by decide +kernel) (by decide +kernel)) (goodIn_sub (fun _ h => List.mem_cons_of_mem _ (List.mem_append_right _ h)) (by decide +kernel))
set_option maxRecDepth 20000 in
theorem gL_about_X2_about : GoodIn wsL_about (wsV RL 47 RX2 yX2_about wsX2_about) := goodIn_app (goodIn_of _ (by decide +kernel)) ggL_about_X2_about
set_option maxRecDepth 20000 in
theorem ggL_land_X2_land : GoodIn wsL_land wsX2_land := goodIn_ca (goodIn_r _ [6, 7, 8, 9, 10, 5, 11, 12, 13, 14, 15, 16, 17, 18, 19, 20, 21, 22, 23, 24, 25, 26, 27, 28, 29, 30, 31, 32, 33, 34, 35, 36, 37, 38, 39, 40, 41, 42, 43, 44, 45, 46, 47, 48, 49, 50, 51, 52, 53, 54, 55, 56, 57, 58, 59, 60, 61, 62, 63, 64, 65, 66, 67, 68] (by decide +kernel) (by decide +kernel)) (goodIn_sub (fun _ h => List.mem_cons_of_mem _ (List.mem_append_right _ h)) (by decide +kernel))
set_option maxRecDepth 20000 in
theorem gL_land_X2_land : GoodIn wsL_land (wsV RL 50 RX2 yX2_land wsX2_land) := goodIn_app (goodIn_of _ (by decide +kernel)) ggL_land_X2_land
set_option maxRecDepth 20000 in
theorem ggL_count_X2_count : GoodIn wsL_count wsX2_count := goodIn_ca (goodIn_r _ [6, 7, 8, 9, 10, 11, 12, 5, 13, 14, 15, 16, 17, 18, 19, 20, 21, 22, 23, 24, 25, 26, 27, 28, 29, 30, 31, 32, 33, 34, 35, 36, 37, 38, 39, 40, 41, 42, 43, 44, 45, 46, 47, 48, 49, 50, 51, 52, 53, 54, 55, 56, 57, 58, 59, 60, 61, 62, 63, 64, 65, 66, 67, 68, 69, 70, 71] (by decide +kernel) (by decide +kernel)) (goodIn_sub (fun _ h => List.mem_cons_of_mem _ (List.mem_append_right _ h)) (by decide +kernel))
set_option maxRecDepth 20000 in
theorem gL_count_X2_count : GoodIn wsL_count (wsV RL 53 RX2 yX2_count wsX2_count) := goodIn_app (goodIn_of _ (by decide +kernel)) ggL_count_X2_count
set_option maxRecDepth 20000 in
theorem ggL_alone_X2_alone : GoodIn wsL_alone wsX2_alone := goodIn_ca (goodIn_r _ [6, 7, 8, 9, 10, 5, 11, 12, 13, 14, 15, 16, 17, 18, 19, 20, 21, 22, 23, 24, 25, 26, 27, 28, 29, 30, 31, 32, 33, 34, 35, 36, 37, 38, 39, 40, 41, 42, 43, 44, 45, 46, 47, 48, 49, 50] (by decide +kernel) (by decide +kernel)) (goodIn_sub (fun _ h => List.mem_cons_of_mem _ (List.mem_append_right _ h)) (by decide +kernel))
set_option maxRecDepth 20000 in
theorem gL_alone_X2_alone : GoodIn wsL_alone (wsV RL 56 RX2 yX2_alone wsX2_alone) := goodIn_app (goodIn_of _ (by decide +kernel)) ggL_alone_X2_alone
set_option maxRecDepth 20000 in
theorem ggL_would_X2_would : GoodIn wsL_would wsX2_would := goodIn_ca (goodIn_ca (goodIn_r _ [7, 8, 9, 10, 11, 12, 13, 6, 14, 15, 16, 17, 18, 19, 20, 21, 22, 23, 24, 25, 26, 27, 28, 29, 30, 31, 32, 33, 34, 35, 36, 37, 38, 39, 40, 41, 42, 43, 44, 45, 46, 47, 48, 49, 50, 51, 52, 53, 54, 55, 56, 57, 58, 59, 60, 61, 62, 63, 64, 65, 66, 67, 68, 69, 70, 71, 72, 73, 74, 75, 76, 77, 78, 79, 80, 81, 82, 83, 84, 85, 86, 87, 88, 89, 90, 91, 92, 93, 94, 95, 96, 97, 98, 99, 100, 101, 102, 103, 104, 105, 106, 107, 108, 109, 110, 111, 112, 113, 114, 115, 116, 117, 118, 119, 120, 121, 122, 123, 124, 125, 126, 127, 128, 129, 130, 131] (by decide +kernel) (by decide +kernel)) (goodIn_sub (fun _ h => List.mem_cons_of_mem _ (List.mem_append_left _ (List.mem_append_right _ h))) (by decide +kernel))) (goodIn_sub (fun _ h => List.mem_cons_of_mem _ (List.mem_append_right _ h)) (by decide +kernel))
set_option maxRecDepth 20000 in
theorem gL_would_X2_would : GoodIn wsL_would (wsV RL 59 RX2 yX2_would wsX2_would) := goodIn_app (goodIn_of _ (by decide +kernel)) ggL_would_X2_would
set_option maxRecDepth 20000 in
theorem ggL_least_X2_least : GoodIn wsL_least wsX2_least := goodIn_ca (goodIn_r _ [6, 7, 8, 9, 10, 5, 11, 12, 13, 14, 15, 16, 17, 18, 19, 20, 21, 22, 23, 24, 25, 26, 27, 28, 29, 30, 31, 32, 33, 34, 35, 36, 37, 38, 39, 40, 41, 42, 43, 44, 45, 46, 47, 48, 49, 50, 51, 52, 53, 54, 55, 56, 57, 58, 59, 60, 61, 62, 63, 64, 65, 66, 67, 68, 69, 70, 71, 72, 73, 74, 75, 76, 77, 78, 79, 80, 81, 82, 83, 84, 85, 86, 87, 88, 89, 90, 91, 92] (by decide +kernel) (by decide +kernel)) (goodIn_sub (fun _ h => List.mem_cons_of_mem _ (List.mem_append_right _ h)) (by decide +kernel))
set_option maxRecDepth 20000 in
theorem gL_least_X2_least : GoodIn wsL_least (wsV RL 62 RX2 yX2_least wsX2_least) := goodIn_app (goodIn_of _ (by decide +kernel)) ggL_least_X2_least
set_option maxRecDepth 20000 in
theorem ggL_law_X2_init : GoodIn wsL_law wsX2_init := goodIn_r _ [9, 10, 11, 12, 13, 14, 15, 16, 17, 18, 19, 20, 21, 22, 23, 24, 25, 26, 27, 28, 29, 30, 31, 32, 33, 34, 35, 36, 37, 38, 39, 40, 41, 42, 43, 44, 45, 2, 46, 47, 48, 49, 50, 51, 52, 53, 54, 55, 56, 57, 58, 59, 60, 61, 62, 63, 64, 65, 66, 67, 68, 69, 70, 71, 72, 73, 74, 75, 76, 77, 78, 79, 80, 81, 82, 83, 84, 85, 86, 87, 88, 89, 90, 91, 92, 93, 94, 95, 96, 97, 98, 99, 100, 101, 102, 103, 104, 105, 522, 523, 524, 525, 526, 527, 528, 529, 530, 531, 532, 533, 534, 535, 547, 548, 549, 550, 551, 552] (by decide +kernel) (by decide +kernel)
set_option maxRecDepth 20000 in
theorem gL_law_X2_init : GoodIn wsL_law (wsX2_init) := ggL_law_X2_init
set_option maxRecDepth 20000 in
theorem ggL_law_X3_init : GoodIn wsL_law wsX3_init := goodIn_r _ [108, 109, 11, 12, 13, 110, 111, 112, 113, 114, 115, 536, 537, 538, 539, 540, 541, 542, 543, 544, 545, 546] (by decide +kernel) (by decide +kernel)
set_option maxRecDepth 20000 in
theorem gL_law_X3_init : GoodIn wsL_law (wsX3_init) := ggL_law_X3_init
set_option maxRecDepth 20000 in
theorem ggL_law_L_field : GoodIn wsL_law wsL_field := goodIn_ca (goodIn_ca (goodIn_r _ [119, 120, 121, 122, 123, 124, 2, 125, 126, 127, 102, 14, 128, 129, 130, 131, 132, 522, 523, 524, 525, 526, 527, 528, 529, 530, 531, 532, 533, 534, 535] (by decide +kernel) (by decide +kernel)) (goodIn_sub (fun _ h => List.mem_append_left _ (List.mem_append_left _ (List.mem_append_right _ h))) (by decide +kernel))) (goodIn_sub (fun _ h => List.mem_append_left _ (List.mem_append_right _ h)) (by decide +kernel))
set_option maxRecDepth 20000 in
theorem gL_law_L_field : GoodIn wsL_law (va_wsS RL 69 yL_field wsL_field) := goodIn_app (goodIn_of _ (by decide +kernel)) ggL_law_L_field
set_option maxRecDepth 20000 in
theorem ggL_law_X3_field : GoodIn wsL_law wsX3_field := goodIn_r _ [136, 137, 138, 110, 139, 140, 5, 141, 142, 143, 144, 145, 536, 537, 538, 539, 540, 541, 542, 543, 544, 545, 546] (by decide +kernel) (by decide +kernel)
set_option maxRecDepth 20000 in
theorem gL_law_X3_field : GoodIn wsL_law (wsV RL 74 RX3 yX3_field wsX3_field) := goodIn_app (goodIn_of _ (by decide +kernel)) ggL_law_X3_field
set_option maxRecDepth 20000 in
theorem ggL_law_X3_thrown : GoodIn wsL_law wsX3_thrown := goodIn_r _ [149, 137, 536, 537, 538, 539, 540, 541, 542, 543, 544, 545, 546] (by decide +kernel) (by decide +kernel)
set_option maxRecDepth 20000 in
theorem gL_law_X3_thrown : GoodIn wsL_law (wsV RL 75 RX3 yX3_thrown wsX3_thrown) := goodIn_app (goodIn_of _ (by decide +kernel)) ggL_law_X3_thrown
set_option maxRecDepth 20000 in
theorem ggL_law_L_setReserve : GoodIn wsL_law wsL_setReserve := goodIn_ca (goodIn_ca (goodIn_r _ [152, 153, 120, 154, 155, 156, 2, 157, 14, 48, 19, 26, 158, 159, 160, 161, 162, 163, 102, 128, 129, 130, 131, 132, 164, 165, 166, 167, 20, 18, 98, 99, 100, 101, 103, 104, 105, 43, 44, 45, 46, 47, 31, 49, 25, 50, 51, 36, 37, 38, 39, 52, 30, 53, 54, 55, 56, 57, 58, 59, 60, 61, 62, 63, 64, 65, 66, 67, 68, 69, 70, 71, 72, 73, 74, 75, 76, 77, 78, 79, 80, 81, 82, 83, 84, 85, 86, 17, 87, 88, 89, 90, 22, 16, 91, 92, 93, 94, 95, 96, 97, 522, 523, 524, 525, 526, 527, 528, 529, 530, 531, 532, 533, 534, 535, 547, 548, 549, 550, 551, 552] (by decide +kernel) (by decide +kernel)) (goodIn_sub (fun _ h => List.mem_append_right _ h) (by decide +kernel))) (goodIn_sub (fun _ h => List.mem_append_left _ (List.mem_append_right _ h)) (by decide +kernel))
set_option maxRecDepth 20000 in
theorem gL_law_L_setReserve : GoodIn wsL_law (va_wsS RL 78 yL_setReserve wsL_setReserve) := goodIn_app (goodIn_of _ (by decide +kernel)) ggL_law_L_setReserve
set_option maxRecDepth 20000 in
theorem ggL_law_X3_setReserve : GoodIn wsL_law wsX3_setReserve := goodIn_r _ [171, 137, 110, 172, 173, 174, 5, 175, 138, 139, 140, 141, 142, 143, 144, 145, 536, 537, 538, 539, 540, 541, 542, 543, 544, 545, 546] (by decide +kernel) (by decide +kernel)
set_option maxRecDepth 20000 in
theorem gL_law_X3_setReserve : GoodIn wsL_law (wsV RL 81 RX3 yX3_setReserve wsX3_setReserve) := goodIn_app (goodIn_of _ (by decide +kernel)) ggL_law_X3_setReserve
set_option maxRecDepth 20000 in
theorem ggL_law_L_join : GoodIn wsL_law wsL_join := goodIn_ca (goodIn_r _ [178, 121, 179, 180, 181, 2, 182, 126, 127, 47, 16, 26, 43, 44, 45, 46, 31, 48, 49, 25, 50, 51, 36, 37, 38, 39, 52, 30, 53, 54, 55, 56, 57, 58, 59, 60, 61, 62, 63, 64, 65, 66, 67, 68, 69, 70, 71, 72, 73, 74, 75, 76, 77, 78, 79, 80, 81, 82, 83, 84, 85, 86, 17, 18, 20, 87, 88, 89, 90, 22, 91, 92, 93, 94, 95, 96, 97, 98, 99, 100, 101, 102, 14, 103, 104, 105, 522, 523, 524, 525, 526, 527, 528, 529, 530, 531, 532, 533, 534, 535, 547, 548, 549, 550, 551, 552] (by decide +kernel) (by decide +kernel)) (goodIn_sub (fun _ h => List.mem_append_left _ (List.mem_append_left _ (List.mem_append_right _ h))) (by decide +kernel))
set_option maxRecDepth 20000 in
theorem gL_law_L_join : GoodIn wsL_law (va_wsS RL 82 yL_join wsL_join) := goodIn_app (goodIn_of _ (by decide +kernel)) ggL_law_L_join
set_option maxRecDepth 20000 in
theorem ggL_law_X3_join : GoodIn wsL_law wsX3_join := goodIn_r _ [186, 137, 187, 142, 143, 144, 5, 145, 536, 537, 538, 539, 540, 541, 542, 543, 544, 545, 546] (by decide +kernel) (by decide +kernel)
set_option maxRecDepth 20000 in
theorem gL_law_X3_join : GoodIn wsL_law (wsV RL 85 RX3 yX3_join wsX3_join) := goodIn_app (goodIn_of _ (by decide +kernel)) ggL_law_X3_join
set_option maxRecDepth 20000 in
theorem ggL_law_L_setIn : GoodIn wsL_law wsL_setIn := goodIn_ca (goodIn_r _ [190, 153, 191, 192, 193, 2, 194, 16, 26, 195, 196, 197, 198, 162, 163, 47, 43, 44, 45, 46, 31, 48, 49, 25, 50, 51, 36, 37, 38, 39, 52, 30, 53, 54, 55, 56, 57, 58, 59, 60, 61, 62, 63, 64, 65, 66, 67, 68, 69, 70, 71, 72, 73, 74, 75, 76, 77, 78, 79, 80, 81, 82, 83, 84, 85, 86, 17, 18, 20, 87, 88, 89, 90, 22, 91, 92, 93, 94, 95, 96, 97, 98, 99, 100, 101, 102, 14, 103, 104, 105, 522, 523, 524, 525, 526, 527, 528, 529, 530, 531, 532, 533, 534, 535, 547, 548, 549, 550, 551, 552] (by decide +kernel) (by decide +kernel)) (goodIn_sub (fun _ h => List.mem_append_right _ h) (by decide +kernel))
set_option maxRecDepth 20000 in
theorem gL_law_L_setIn : GoodIn wsL_law (va_wsS RL 86 yL_setIn wsL_setIn) := goodIn_app (goodIn_of _ (by decide +kernel)) ggL_law_L_setIn
set_option maxRecDepth 20000 in
theorem ggL_law_X3_setIn : GoodIn wsL_law wsX3_setIn := goodIn_r _ [202, 137, 203, 204, 205, 206, 5, 207, 187, 139, 140, 141, 208, 209, 210, 536, 537, 538, 539, 540, 541, 542, 543, 544, 545, 546] (by decide +kernel) (by decide +kernel)
set_option maxRecDepth 20000 in
theorem gL_law_X3_setIn : GoodIn wsL_law (wsV RL 89 RX3 yX3_setIn wsX3_setIn) := goodIn_app (goodIn_of _ (by decide +kernel)) ggL_law_X3_setIn
set_option maxRecDepth 20000 in
theorem ggL_law_L_bid : GoodIn wsL_law wsL_bid := goodIn_ca (goodIn_ca (goodIn_ca (goodIn_r _ [213, 153, 120, 121, 214, 215, 216, 2, 217, 126, 127, 48, 17, 18, 21, 26, 195, 196, 197, 198, 162, 163, 47, 218, 219, 220, 221, 131, 132, 102, 222, 223, 224, 164, 165, 166, 167, 19, 20, 98, 99, 100, 101, 14, 103, 104, 105, 43, 44, 45, 46, 31, 49, 25, 50, 51, 36, 37, 38, 39, 52, 30, 53, 54, 55, 56, 57, 58, 59, 60, 61, 62, 63, 64, 65, 66, 67, 68, 69, 70, 71, 72, 73, 74, 75, 76, 77, 78, 79, 80, 81, 82, 83, 84, 85, 86, 87, 88, 89, 90, 22, 16, 91, 92, 93, 94, 95, 96, 97, 522, 523, 524, 525, 526, 527, 528, 529, 530, 531, 532, 533, 534, 535, 547, 548, 549, 550, 551, 552] (by decide +kernel) (by decide +kernel)) (goodIn_sub (fun _ h => List.mem_append_left _ (List.mem_append_left _ (List.mem_append_right _ h))) (by decide +kernel))) (goodIn_sub (fun _ h => List.mem_append_right _ h) (by decide +kernel))) (goodIn_sub (fun _ h => List.mem_append_left _ (List.mem_append_right _ h)) (by decide +kernel))
set_option maxRecDepth 20000 in
theorem gL_law_L_bid : GoodIn wsL_law (va_wsS RL 90 yL_bid wsL_bid) := goodIn_app (goodIn_of _ (by decide +kernel)) ggL_law_L_bid
set_option maxRecDepth 20000 in
theorem ggL_law_X3_bid : GoodIn wsL_law wsX3_bid := goodIn_r _ [228, 137, 138, 229, 13, 111, 230, 231, 232, 233, 204, 205, 206, 5, 207, 187, 139, 140, 141, 142, 143, 144, 145, 234, 235, 236, 536, 537, 538, 539, 540, 541, 542, 543, 544, 545, 546] (by decide +kernel) (by decide +kernel)
set_option maxRecDepth 20000 in
theorem gL_law_X3_bid : GoodIn wsL_law (wsV RL 93 RX3 yX3_bid wsX3_bid) := goodIn_app (goodIn_of _ (by decide +kernel)) ggL_law_X3_bid
set_option maxRecDepth 20000 in
theorem ggL_law_L_setPrice : GoodIn wsL_law wsL_setPrice := goodIn_ca (goodIn_ca (goodIn_r _ [239, 153, 120, 240, 241, 242, 2, 243, 19, 26, 244, 245, 246, 247, 162, 163, 48, 222, 223, 224, 131, 132, 164, 165, 166, 167, 20, 18, 98, 99, 100, 101, 102, 14, 103, 104, 105, 43, 44, 45, 46, 47, 31, 49, 25, 50, 51, 36, 37, 38, 39, 52, 30, 53, 54, 55, 56, 57, 58, 59, 60, 61, 62, 63, 64, 65, 66, 67, 68, 69, 70, 71, 72, 73, 74, 75, 76, 77, 78, 79, 80, 81, 82, 83, 84, 85, 86, 17, 87, 88, 89, 90, 22, 16, 91, 92, 93, 94, 95, 96, 97, 522, 523, 524, 525, 526, 527, 528, 529, 530, 531, 532, 533, 534, 535, 547, 548, 549, 550, 551, 552] (by decide +kernel) (by decide +kernel)) (goodIn_sub (fun _ h => List.mem_append_right _ h) (by decide +kernel))) (goodIn_sub (fun _ h => List.mem_append_left _ (List.mem_append_right _ h)) (by decide +kernel))
set_option maxRecDepth 20000 in
theorem gL_law_L_setPrice : GoodIn wsL_law (va_wsS RL 94 yL_setPrice wsL_setPrice) := goodIn_app (goodIn_of _ (by decide +kernel)) ggL_law_L_setPrice
set_option maxRecDepth 20000 in
theorem ggL_law_X3_setPrice : GoodIn wsL_law wsX3_setPrice := goodIn_r _ [251, 137, 252, 253, 254, 5, 255, 111, 256, 257, 258, 259, 229, 139, 140, 141, 142, 143, 144, 145, 234, 235, 236, 260, 261, 262, 263, 536, 537, 538, 539, 540, 541, 542, 543, 544, 545, 546] (by decide +kernel) (by decide +kernel)
set_option maxRecDepth 20000 in
theorem gL_law_X3_setPrice : GoodIn wsL_law (wsV RL 96 RX3 yX3_setPrice wsX3_setPrice) := goodIn_app (goodIn_of _ (by decide +kernel)) ggL_law_X3_setPrice
set_option maxRecDepth 20000 in
theorem ggL_law_L_setWorth : GoodIn wsL_law wsL_setWorth := goodIn_ca (goodIn_ca (goodIn_r _ [266, 153, 120, 267, 268, 269, 2, 270, 21, 244, 245, 246, 247, 162, 163, 48, 222, 223, 224, 131, 132, 522, 523, 524, 525, 526, 527, 528, 529, 530, 531, 532, 533, 534, 535] (by decide +kernel) (by decide +kernel)) (goodIn_sub (fun _ h => List.mem_append_right _ h) (by decide +kernel))) (goodIn_sub (fun _ h => List.mem_append_left _ (List.mem_append_right _ h)) (by decide +kernel))
set_option maxRecDepth 20000 in
theorem gL_law_L_setWorth : GoodIn wsL_law (va_wsS RL 97 yL_setWorth wsL_setWorth) := goodIn_app (goodIn_of _ (by decide +kernel)) ggL_law_L_setWorth
set_option maxRecDepth 20000 in
theorem ggL_law_X3_setWorth : GoodIn wsL_law wsX3_setWorth := goodIn_r _ [274, 137, 252, 253, 254, 5, 255, 111, 256, 257, 258, 259, 229, 139, 140, 141, 142, 143, 144, 145, 234, 235, 236, 260, 261, 262, 263, 536, 537, 538, 539, 540, 541, 542, 543, 544, 545, 546] (by decide +kernel) (by decide +kernel)
set_option maxRecDepth 20000 in
theorem gL_law_X3_setWorth : GoodIn wsL_law (wsV RL 99 RX3 yX3_setWorth wsX3_setWorth) := goodIn_app (goodIn_of _ (by decide +kernel)) ggL_law_X3_setWorth
set_option maxRecDepth 20000 in
theorem ggL_law_L_withdraw : GoodIn wsL_law wsL_withdraw := goodIn_ca (goodIn_ca (goodIn_r _ [277, 153, 121, 278, 279, 280, 2, 281, 126, 127, 22, 26, 244, 245, 246, 247, 162, 163, 48, 43, 44, 45, 46, 47, 31, 49, 25, 50, 51, 36, 37, 38, 39, 52, 30, 53, 54, 55, 56, 57, 58, 59, 60, 61, 62, 63, 64, 65, 66, 67, 68, 69, 70, 71, 72, 73, 74, 75, 76, 77, 78, 79, 80, 81, 82, 83, 84, 85, 86, 17, 18, 20, 87, 88, 89, 90, 16, 91, 92, 93, 94, 95, 96, 97, 98, 99, 100, 101, 102, 14, 103, 104, 105, 282, 283, 284, 285, 286, 287, 288, 289, 522, 523, 524, 525, 526, 527, 528, 529, 530, 531, 532, 533, 534, 535, 547, 548, 549, 550, 551, 552] (by decide +kernel) (by decide +kernel)) (goodIn_sub (fun _ h => List.mem_append_left _ (List.mem_append_left _ (List.mem_append_right _ h))) (by decide +kernel))) (goodIn_sub (fun _ h => List.mem_append_right _ h) (by decide +kernel))
set_option maxRecDepth 20000 in
theorem gL_law_L_withdraw : GoodIn wsL_law (va_wsS RL 100 yL_withdraw wsL_withdraw) := goodIn_app (goodIn_of _ (by decide +kernel)) ggL_law_L_withdraw
set_option maxRecDepth 20000 in
theorem ggL_law_X3_withdraw : GoodIn wsL_law wsX3_withdraw := goodIn_r _ [293, 137, 111, 229, 256, 257, 258, 5, 259, 139, 140, 141, 142, 143, 144, 145, 260, 261, 262, 263, 536, 537, 538, 539, 540, 541, 542, 543, 544, 545, 546] (by decide +kernel) (by decide +kernel)
set_option maxRecDepth 20000 in
theorem gL_law_X3_withdraw : GoodIn wsL_law (wsV RL 102 RX3 yX3_withdraw wsX3_withdraw) := goodIn_app (goodIn_of _ (by decide +kernel)) ggL_law_X3_withdraw
set_option maxRecDepth 20000 in
theorem ggL_law_L_told : GoodIn wsL_law wsL_told := goodIn_ca (goodIn_r _ [296, 153, 297, 298, 299, 2, 300, 17, 18, 19, 21, 22, 20, 26, 244, 245, 246, 247, 162, 163, 48, 301, 302, 303, 304, 305, 306, 87, 88, 89, 90, 16, 91, 30, 92, 93, 56, 522, 523, 524, 525, 526, 527, 528, 529, 530, 531, 532, 533, 534, 535, 547, 548, 549, 550, 551, 552] (by decide +kernel) (by decide +kernel)) (goodIn_sub (fun _ h => List.mem_append_right _ h) (by decide +kernel))
set_option maxRecDepth 20000 in
theorem gL_law_L_told : GoodIn wsL_law (va_wsS RL 103 yL_told wsL_told) := goodIn_app (goodIn_of _ (by decide +kernel)) ggL_law_L_told
set_option maxRecDepth 20000 in
theorem ggL_law_X3_told : GoodIn wsL_law wsX3_told := goodIn_r _ [310, 137, 256, 257, 258, 5, 259, 229, 139, 140, 141, 311, 312, 313, 314, 315, 316, 317, 318, 260, 261, 262, 263, 111, 319, 320, 321, 322, 138, 110, 208, 209, 210, 323, 324, 325, 326, 203, 327, 328, 329, 330, 114, 115, 112, 113, 142, 143, 144, 145, 536, 537, 538, 539, 540, 541, 542, 543, 544, 545, 546] (by decide +kernel) (by decide +kernel)
set_option maxRecDepth 20000 in
theorem gL_law_X3_told : GoodIn wsL_law (wsV RL 105 RX3 yX3_told wsX3_told) := goodIn_app (goodIn_of _ (by decide +kernel)) ggL_law_X3_told
set_option maxRecDepth 20000 in
theorem ggL_law_L_about : GoodIn wsL_law wsL_about := goodIn_ca (goodIn_r _ [333, 153, 334, 335, 336, 2, 337, 16, 26, 195, 196, 197, 198, 162, 163, 47, 301, 302, 303, 304, 305, 306, 286, 287, 288, 289, 48, 17, 22, 338, 339, 340, 341, 21, 522, 523, 524, 525, 526, 527, 528, 529, 530, 531, 532, 533, 534, 535, 547, 548, 549, 550] (by decide +kernel) (by decide +kernel)) (goodIn_sub (fun _ h => List.mem_append_right _ h) (by decide +kernel))
set_option maxRecDepth 20000 in
theorem gL_law_L_about : GoodIn wsL_law (va_wsS RL 106 yL_about wsL_about) := goodIn_app (goodIn_of _ (by decide +kernel)) ggL_law_L_about
set_option maxRecDepth 20000 in
theorem ggL_law_X3_about : GoodIn wsL_law wsX3_about := goodIn_r _ [345, 137, 204, 205, 206, 5, 207, 187, 139, 140, 141, 346, 347, 348, 349, 203, 229, 208, 209, 210, 260, 261, 262, 263, 111, 327, 328, 329, 330, 114, 115, 112, 113, 323, 324, 325, 326, 315, 316, 317, 318, 319, 320, 321, 322, 138, 110, 350, 351, 352, 353, 354, 355, 356, 357, 358, 359, 360, 361, 362, 363, 364, 365, 142, 143, 144, 145, 536, 537, 538, 539, 540, 541, 542, 543, 544, 545, 546] (by decide +kernel) (by decide +kernel)
set_option maxRecDepth 20000 in
theorem gL_law_X3_about : GoodIn wsL_law (wsV RL 108 RX3 yX3_about wsX3_about) := goodIn_app (goodIn_of _ (by decide +kernel)) ggL_law_X3_about
set_option maxRecDepth 20000 in
theorem ggL_law_L_land : GoodIn wsL_law wsL_land := goodIn_ca (goodIn_r _ [368, 153, 369, 370, 371, 2, 372, 14, 158, 159, 160, 161, 162, 163, 102, 301, 302, 303, 373, 374, 375, 376, 48, 26, 18, 91, 30, 92, 93, 56, 103, 104, 105, 377, 378, 379, 380, 17, 381, 382, 383, 384, 87, 88, 89, 90, 22, 16, 20, 522, 523, 524, 525, 526, 527, 528, 529, 530, 531, 532, 533, 534, 535, 547, 548, 549, 550, 551, 552] (by decide +kernel) (by decide +kernel)) (goodIn_sub (fun _ h => List.mem_append_right _ h) (by decide +kernel))
set_option maxRecDepth 20000 in
theorem gL_law_L_land : GoodIn wsL_law (va_wsS RL 109 yL_land wsL_land) := goodIn_app (goodIn_of _ (by decide +kernel)) ggL_law_L_land
set_option maxRecDepth 20000 in
theorem ggL_law_X3_land : GoodIn wsL_law wsX3_land := goodIn_r _ [388, 137, 172, 173, 174, 5, 175, 138, 139, 140, 141, 389, 390, 391, 392, 110, 229, 327, 328, 329, 330, 114, 115, 112, 113, 323, 324, 325, 326, 203, 260, 261, 262, 263, 111, 208, 209, 210, 315, 316, 317, 318, 319, 320, 321, 322, 142, 143, 144, 145, 536, 537, 538, 539, 540, 541, 542, 543, 544, 545, 546] (by decide +kernel) (by decide +kernel)
set_option maxRecDepth 20000 in
theorem gL_law_X3_land : GoodIn wsL_law (wsV RL 111 RX3 yX3_land wsX3_land) := goodIn_app (goodIn_of _ (by decide +kernel)) ggL_law_X3_land
set_option maxRecDepth 20000 in
theorem ggL_law_L_count : GoodIn wsL_law wsL_count := goodIn_ca (goodIn_r _ [395, 153, 396, 397, 398, 2, 399, 102, 47, 48, 26, 301, 302, 303, 162, 163, 400, 77, 78, 79, 80, 81, 82, 401, 402, 403, 404, 18, 91, 30, 92, 93, 56, 405, 25, 406, 407, 38, 408, 409, 410, 411, 338, 339, 340, 341, 21, 412, 413, 414, 415, 19, 522, 523, 524, 525, 526, 527, 528, 529, 530, 531, 532, 533, 534, 535, 547, 548, 549, 550, 551, 552] (by decide +kernel) (by decide +kernel)) (goodIn_sub (fun _ h => List.mem_append_right _ h) (by decide +kernel))
set_option maxRecDepth 20000 in
theorem gL_law_L_count : GoodIn wsL_law (va_wsS RL 112 yL_count wsL_count) := goodIn_app (goodIn_of _ (by decide +kernel)) ggL_law_L_count
set_option maxRecDepth 20000 in
theorem ggL_law_X3_count : GoodIn wsL_law wsX3_count := goodIn_r _ [419, 137, 139, 140, 5, 141, 420, 421, 422, 423, 138, 187, 229, 114, 115, 327, 328, 329, 330, 112, 113, 323, 324, 325, 326, 203, 260, 261, 262, 263, 111, 208, 209, 210, 315, 316, 317, 318, 319, 320, 321, 322, 110, 389, 390, 391, 392, 424, 425, 426, 427, 354, 355, 356, 357, 350, 351, 352, 353, 358, 359, 360, 361, 362, 363, 364, 365, 142, 143, 144, 145, 536, 537, 538, 539, 540, 541, 542, 543, 544, 545, 546] (by decide +kernel) (by decide +kernel)
set_option maxRecDepth 20000 in
theorem gL_law_X3_count : GoodIn wsL_law (wsV RL 114 RX3 yX3_count wsX3_count) := goodIn_app (goodIn_of _ (by decide +kernel)) ggL_law_X3_count
set_option maxRecDepth 20000 in
theorem ggL_law_L_alone : GoodIn wsL_law wsL_alone := goodIn_ca (goodIn_r _ [430, 153, 431, 432, 433, 2, 434, 17, 158, 159, 160, 161, 162, 163, 102, 301, 302, 303, 435, 436, 437, 438, 48, 18, 19, 87, 88, 89, 90, 22, 16, 20, 439, 440, 441, 442, 14, 522, 523, 524, 525, 526, 527, 528, 529, 530, 531, 532, 533, 534, 535] (by decide +kernel) (by decide +kernel)) (goodIn_sub (fun _ h => List.mem_append_right _ h) (by decide +kernel))
set_option maxRecDepth 20000 in
theorem gL_law_L_alone : GoodIn wsL_law (va_wsS RL 115 yL_alone wsL_alone) := goodIn_app (goodIn_of _ (by decide +kernel)) ggL_law_L_alone
set_option maxRecDepth 20000 in
theorem ggL_law_X3_alone : GoodIn wsL_law wsX3_alone := goodIn_r _ [446, 137, 172, 173, 174, 5, 175, 138, 139, 140, 141, 447, 448, 449, 450, 229, 110, 451, 452, 453, 454, 323, 324, 325, 326, 203, 260, 261, 262, 263, 111, 208, 209, 210, 315, 316, 317, 318, 319, 320, 321, 322, 142, 143, 144, 145, 536, 537, 538, 539, 540, 541, 542, 543, 544, 545, 546] (by decide +kernel) (by decide +kernel)
set_option maxRecDepth 20000 in
theorem gL_law_X3_alone : GoodIn wsL_law (wsV RL 117 RX3 yX3_alone wsX3_alone) := goodIn_app (goodIn_of _ (by decide +kernel)) ggL_law_X3_alone
set_option maxRecDepth 20000 in
theorem ggL_law_L_would : GoodIn wsL_law wsL_would := goodIn_ca (goodIn_ca (goodIn_r _ [457, 153, 120, 458, 459, 460, 2, 461, 19, 27, 17, 244, 245, 246, 247, 162, 163, 48, 301, 302, 303, 222, 223, 224, 131, 132, 164, 165, 166, 167, 20, 18, 98, 99, 100, 101, 102, 14, 103, 104, 105, 43, 44, 45, 46, 47, 31, 49, 25, 50, 51, 36, 37, 38, 39, 52, 30, 53, 54, 55, 56, 57, 58, 59, 60, 61, 62, 63, 64, 65, 66, 67, 68, 69, 70, 71, 72, 73, 74, 75, 76, 77, 78, 79, 80, 81, 82, 83, 84, 85, 86, 87, 88, 89, 90, 22, 16, 91, 92, 93, 94, 95, 96, 97, 304, 305, 306, 338, 339, 340, 341, 21, 522, 523, 524, 525, 526, 527, 528, 529, 530, 531, 532, 533, 534, 535, 547, 548, 549, 550, 551, 552] (by decide +kernel) (by decide +kernel)) (goodIn_sub (fun _ h => List.mem_append_right _ h) (by decide +kernel))) (goodIn_sub (fun _ h => List.mem_append_left _ (List.mem_append_right _ h)) (by decide +kernel))
set_option maxRecDepth 20000 in
theorem gL_law_L_would : GoodIn wsL_law (va_wsS RL 118 yL_would wsL_would) := goodIn_app (goodIn_of _ (by decide +kernel)) ggL_law_L_would
set_option maxRecDepth 20000 in
theorem ggL_law_X3_would : GoodIn wsL_law wsX3_would := goodIn_r _ [465, 137, 256, 257, 258, 5, 259, 229, 139, 140, 141, 142, 143, 144, 145, 234, 235, 236, 466, 467, 468, 469, 111, 114, 260, 261, 262, 263, 327, 328, 329, 330, 115, 112, 113, 323, 324, 325, 326, 203, 208, 209, 210, 315, 316, 317, 318, 319, 320, 321, 322, 138, 110, 354, 355, 356, 357, 350, 351, 352, 353, 358, 359, 360, 361, 362, 363, 364, 365, 536, 537, 538, 539, 540, 541, 542, 543, 544, 545, 546] (by decide +kernel) (by decide +kernel)
set_option maxRecDepth 20000 in
theorem gL_law_X3_would : GoodIn wsL_law (wsV RL 120 RX3 yX3_would wsX3_would) := goodIn_app (goodIn_of _ (by decide +kernel)) ggL_law_X3_would
set_option maxRecDepth 20000 in
theorem ggL_law_L_least : GoodIn wsL_law wsL_least := goodIn_ca (goodIn_r _ [472, 153, 473, 474, 475, 2, 476, 19, 244, 245, 246, 247, 162, 163, 48, 477, 478, 479, 480, 31, 164, 165, 166, 167, 20, 18, 98, 99, 100, 101, 102, 14, 103, 104, 105, 61, 62, 63, 64, 52, 30, 53, 54, 55, 56, 65, 66, 67, 68, 69, 70, 71, 72, 73, 74, 75, 76, 77, 78, 79, 80, 81, 82, 83, 84, 85, 86, 17, 87, 88, 89, 90, 22, 16, 91, 92, 93, 522, 523, 524, 525, 526, 527, 528, 529, 530, 531, 532, 533, 534, 535, 551, 552] (by decide +kernel) (by decide +kernel)) (goodIn_sub (fun _ h => List.mem_append_right _ h) (by decide +kernel))
set_option maxRecDepth 20000 in
theorem gL_law_L_least : GoodIn wsL_law (va_wsS RL 121 yL_least wsL_least) := goodIn_app (goodIn_of _ (by decide +kernel)) ggL_law_L_least
set_option maxRecDepth 20000 in
theorem ggL_law_X3_least : GoodIn wsL_law wsX3_least := goodIn_r _ [484, 137, 256, 257, 258, 5, 259, 229, 139, 140, 141, 142, 143, 144, 145, 466, 467, 468, 469, 111, 114, 260, 261, 262, 263, 327, 328, 329, 330, 115, 112, 113, 323, 324, 325, 326, 203, 208, 209, 210, 315, 316, 317, 318, 319, 320, 321, 322, 138, 110, 354, 355, 356, 357, 350, 351, 352, 353, 358, 359, 360, 361, 362, 363, 364, 365, 536, 537, 538, 539, 540, 541, 542, 543, 544, 545, 546] (by decide +kernel) (by decide +kernel)
set_option maxRecDepth 20000 in
theorem gL_law_X3_least : GoodIn wsL_law (wsV RL 123 RX3 yX3_least wsX3_least) := goodIn_app (goodIn_of _ (by decide +kernel)) ggL_law_X3_least
set_option maxRecDepth 20000 in
theorem ggL_law_X2_rival : GoodIn wsL_law wsX2_rival := goodIn_r _ [488, 47, 27, 43, 44, 45, 2, 46, 31, 48, 49, 25, 50, 51, 36, 37, 38, 39, 52, 30, 53, 54, 55, 56, 57, 58, 59, 60, 61, 62, 63, 64, 65, 66, 67, 68, 69, 70, 71, 72, 73, 74, 75, 76, 77, 78, 79, 80, 81, 82, 83, 84, 85, 86, 17, 18, 20, 87, 88, 89, 90, 22, 16, 91, 92, 93, 94, 95, 96, 97, 98, 99, 100, 101, 102, 14, 103, 104, 105, 405, 406, 407, 522, 523, 524, 525, 526, 527, 528, 529, 530, 531, 532, 533, 534, 535, 547, 548, 549, 550, 551, 552] (by decide +kernel) (by decide +kernel)
set_option maxRecDepth 20000 in
theorem gL_law_X2_rival : GoodIn wsL_law (wsV RL 124 RX2 yX2_rival wsX2_rival) := goodIn_app (goodIn_of _ (by decide +kernel)) ggL_law_X2_rival
set_option maxRecDepth 20000 in
theorem ggL_law_X3_rival : GoodIn wsL_law wsX3_rival := goodIn_r _ [492, 137, 203, 187, 424, 425, 426, 5, 427, 354, 355, 356, 357, 114, 327, 328, 329, 330, 115, 229, 112, 113, 323, 324, 325, 326, 260, 261, 262, 263, 111, 208, 209, 210, 315, 316, 317, 318, 319, 320, 321, 322, 138, 110, 350, 351, 352, 353, 358, 359, 360, 361, 536, 537, 538, 539, 540, 541, 542, 543, 544, 545, 546] (by decide +kernel) (by decide +kernel)
set_option maxRecDepth 20000 in
theorem gL_law_X3_rival : GoodIn wsL_law (wsV RL 127 RX3 yX3_rival wsX3_rival) := goodIn_app (goodIn_of _ (by decide +kernel)) ggL_law_X3_rival
set_option maxRecDepth 20000 in
theorem ggL_law_X2_mean : GoodIn wsL_law wsX2_mean := goodIn_r _ [496, 26, 400, 77, 78, 79, 80, 81, 82, 405, 25, 406, 407, 38, 522, 523, 524, 525, 526, 527, 528, 529, 530, 531, 532, 533, 534, 535, 547, 548, 549, 550, 551, 552] (by decide +kernel) (by decide +kernel)
set_option maxRecDepth 20000 in
theorem gL_law_X2_mean : GoodIn wsL_law (wsV RL 128 RX2 yX2_mean wsX2_mean) := goodIn_app (goodIn_of _ (by decide +kernel)) ggL_law_X2_mean
set_option maxRecDepth 20000 in
theorem ggL_law_X3_mean : GoodIn wsL_law wsX3_mean := goodIn_r _ [500, 137, 115, 327, 328, 329, 5, 330, 114, 229, 112, 113, 323, 324, 325, 326, 203, 260, 261, 262, 263, 111, 208, 209, 210, 315, 316, 317, 318, 319, 320, 321, 322, 138, 110, 424, 425, 426, 427, 187, 354, 355, 356, 357, 350, 351, 352, 353, 358, 359, 360, 361, 536, 537, 538, 539, 540, 541, 542, 543, 544, 545, 546] (by decide +kernel) (by decide +kernel)
set_option maxRecDepth 20000 in
theorem gL_law_X3_mean : GoodIn wsL_law (wsV RL 132 RX3 yX3_mean wsX3_mean) := goodIn_app (goodIn_of _ (by decide +kernel)) ggL_law_X3_mean
set_option maxRecDepth 20000 in
theorem ggL_law_X2_digest : GoodIn wsL_law wsX2_digest := goodIn_ca (goodIn_r _ [504, 505, 506, 102, 47, 48, 507, 397, 398, 2, 399, 26, 301, 302, 303, 162, 163, 400, 77, 78, 79, 80, 81, 82, 401, 402, 403, 404, 18, 91, 30, 92, 93, 56, 405, 25, 406, 407, 38, 408, 409, 410, 411, 338, 339, 340, 341, 21, 412, 413, 414, 415, 19, 508, 509, 510, 511, 512, 370, 371, 372, 14, 158, 159, 160, 161, 373, 374, 375, 376, 103, 104, 105, 377, 378, 379, 380, 17, 381, 382, 383, 384, 87, 88, 89, 90, 22, 16, 20, 513, 432, 433, 434, 435, 436, 437, 438, 439, 440, 441, 442, 514, 335, 336, 337, 195, 196, 197, 198, 304, 305, 306, 286, 287, 288, 289, 515, 298, 299, 300, 244, 245, 246, 247, 522, 523, 524, 525, 526, 527, 528, 529, 530, 531, 532, 533, 534, 535, 547, 548, 549, 550, 551, 552] (by decide +kernel) (by decide +kernel)) (goodIn_sub (fun _ h => List.mem_append_right _ h) (by decide +kernel))
set_option maxRecDepth 20000 in
theorem gL_law_X2_digest : GoodIn wsL_law (wsV RL 133 RX2 yX2_digest wsX2_digest) := goodIn_app (goodIn_of _ (by decide +kernel)) ggL_law_X2_digest
set_option maxRecDepth 20000 in
theorem ggL_law_X3_digest : GoodIn wsL_law wsX3_digest := goodIn_r _ [519, 137, 520, 521, 138, 187, 229, 420, 421, 422, 5, 423, 114, 115, 327, 328, 329, 330, 112, 113, 323, 324, 325, 326, 203, 260, 261, 262, 263, 111, 208, 209, 210, 315, 316, 317, 318, 319, 320, 321, 322, 110, 389, 390, 391, 392, 424, 425, 426, 427, 354, 355, 356, 357, 350, 351, 352, 353, 358, 359, 360, 361, 362, 363, 364, 365, 447, 448, 449, 450, 451, 452, 453, 454, 346, 347, 348, 349, 311, 312, 313, 314, 536, 537, 538, 539, 540, 541, 542, 543, 544, 545, 546] (by decide +kernel) (by decide +kernel)
set_option maxRecDepth 20000 in
theorem gL_law_X3_digest : GoodIn wsL_law (wsV RL 137 RX3 yX3_digest wsX3_digest) := goodIn_app (goodIn_of _ (by decide +kernel)) ggL_law_X3_digest
