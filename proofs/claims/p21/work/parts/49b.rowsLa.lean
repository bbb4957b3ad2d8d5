set_option maxRecDepth 20000 in
set_option maxHeartbeats 4000000 in
theorem ggL_build_L_act_c : GoodIn wsL_build [.code yL_act cL_act 20 (some .boolean)] := goodIn_c1 124 rfl (by decide +kernel)
set_option maxRecDepth 20000 in
set_option maxHeartbeats 4000000 in
theorem ggL_build_L_act_wsL_act_r1 : GoodIn wsL_build wsL_act_r1 := goodIn_r _ [4, 6, 125, 5, 126, 12, 22, 23, 19, 24, 25, 26, 27, 28, 29, 30, 31, 32, 33, 34, 35, 36, 37, 38] (by decide +kernel) (by decide +kernel)
set_option maxRecDepth 20000 in
set_option maxHeartbeats 4000000 in
theorem ggL_build_L_act_wsL_act_r2 : GoodIn wsL_build wsL_act_r2 := goodIn_r _ [39, 40, 41, 42, 127, 128, 129, 130, 55, 131, 49, 132, 133, 134, 135, 136, 137, 138, 139, 140, 141, 102, 101, 115] (by decide +kernel) (by decide +kernel)
set_option maxRecDepth 20000 in
set_option maxHeartbeats 4000000 in
theorem ggL_build_L_act_wsL_act_r3 : GoodIn wsL_build wsL_act_r3 := goodIn_r _ [116, 117, 118, 119, 120, 121, 50, 51, 52, 53, 47, 54, 56, 57, 58, 59, 60, 61, 62, 63, 64, 65, 66, 67] (by decide +kernel) (by decide +kernel)
set_option maxRecDepth 20000 in
set_option maxHeartbeats 4000000 in
theorem ggL_build_L_act_wsL_act_r4 : GoodIn wsL_build wsL_act_r4 := goodIn_r _ [68, 69, 70, 71, 72, 73, 74, 75, 76, 77, 78, 79, 80, 81, 82, 83, 84, 85, 86, 87, 88, 89, 90, 91] (by decide +kernel) (by decide +kernel)
set_option maxRecDepth 20000 in
set_option maxHeartbeats 4000000 in
theorem ggL_build_L_act_wsL_act_r5 : GoodIn wsL_build wsL_act_r5 := goodIn_r _ [92, 93, 94, 95, 96, 97, 98, 99, 100, 103, 104, 105, 106, 107, 48, 108, 109, 110, 111, 112, 113, 114, 43, 44] (by decide +kernel) (by decide +kernel)
set_option maxRecDepth 20000 in
set_option maxHeartbeats 4000000 in
theorem ggL_build_L_act_wsL_act_r6 : GoodIn wsL_build wsL_act_r6 := goodIn_r _ [45, 46, 142, 143, 144, 145, 146, 147, 148, 149, 150, 151, 152, 153, 154, 155, 156, 157, 158, 159, 160, 161, 162, 163] (by decide +kernel) (by decide +kernel)
set_option maxRecDepth 20000 in
set_option maxHeartbeats 4000000 in
theorem ggL_build_L_act_wsL_act_r7 : GoodIn wsL_build wsL_act_r7 := goodIn_r _ [164, 165, 166, 167, 168, 169, 170, 171, 172, 173, 174, 175, 176, 177, 178, 179, 180, 181, 182, 183, 184, 185] (by decide +kernel) (by decide +kernel)
set_option maxRecDepth 20000 in
set_option maxHeartbeats 4000000 in
theorem ggL_build_L_act_wsX30 : GoodIn wsL_build wsX30 := goodIn_r _ [186, 187, 188, 189, 190, 191] (by decide +kernel) (by decide +kernel)
set_option maxRecDepth 20000 in
set_option maxHeartbeats 4000000 in
theorem ggL_build_L_act_wsX20 : GoodIn wsL_build wsX20 := goodIn_r _ [192, 193, 194, 195, 196, 197, 198, 199, 200, 201, 202, 203, 204, 205] (by decide +kernel) (by decide +kernel)
set_option maxRecDepth 20000 in
set_option maxHeartbeats 4000000 in
theorem ggL_build_L_act_wsX10 : GoodIn wsL_build wsX10 := goodIn_r _ [206, 207, 208, 209] (by decide +kernel) (by decide +kernel)
set_option maxRecDepth 20000 in
set_option maxHeartbeats 4000000 in
theorem ggL_build_L_act_wsX00 : GoodIn wsL_build wsX00 := goodIn_r _ [210, 211] (by decide +kernel) (by decide +kernel)
theorem ggL_build_L_act_in : GoodIn wsL_build (.code yL_act cL_act 20 (some .boolean) :: (((((wsL_act_r1 ++ (wsL_act_r2 ++ (wsL_act_r3 ++ (wsL_act_r4 ++ (wsL_act_r5 ++ (wsL_act_r6 ++ wsL_act_r7)))))) ++ wsX30) ++ wsX20) ++ wsX10) ++ wsX00)) := goodIn_c2 ggL_build_L_act_c (goodIn_app (goodIn_app (goodIn_app (goodIn_app (goodIn_app ggL_build_L_act_wsL_act_r1 (goodIn_app ggL_build_L_act_wsL_act_r2 (goodIn_app ggL_build_L_act_wsL_act_r3 (goodIn_app ggL_build_L_act_wsL_act_r4 (goodIn_app ggL_build_L_act_wsL_act_r5 (goodIn_app ggL_build_L_act_wsL_act_r6 ggL_build_L_act_wsL_act_r7)))))) ggL_build_L_act_wsX30) ggL_build_L_act_wsX20) ggL_build_L_act_wsX10) ggL_build_L_act_wsX00)
set_option maxRecDepth 20000 in
theorem ggL_build_L_act : GoodIn wsL_build wsL_act := goodIn_ca (goodIn_ca (goodIn_ca ggL_build_L_act_in (goodIn_sub (fun _ h => List.mem_cons_of_mem _ (List.mem_append_left _ (List.mem_append_left _ (List.mem_append_right _ h)))) (by decide +kernel))) (goodIn_sub (fun _ h => List.mem_cons_of_mem _ (List.mem_append_left _ (List.mem_append_right _ h))) (by decide +kernel))) (goodIn_sub (fun _ h => List.mem_cons_of_mem _ (List.mem_append_right _ h)) (by decide +kernel))
set_option maxRecDepth 20000 in
theorem gL_build_L_act : GoodIn wsL_build (va_wsS RL 69 yL_act wsL_act) := goodIn_app (goodIn_of _ (by decide +kernel)) ggL_build_L_act
