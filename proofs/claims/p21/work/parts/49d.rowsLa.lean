set_option maxRecDepth 20000 in
set_option maxHeartbeats 4000000 in
theorem ggL_law_L_act_c : GoodIn wsL_law [.code yL_act cL_act 20 (some .boolean)] := goodIn_c1 146 rfl (by decide +kernel)
set_option maxRecDepth 20000 in
set_option maxHeartbeats 4000000 in
theorem ggL_law_L_act_wsL_act_r1 : GoodIn wsL_law wsL_act_r1 := goodIn_r _ [109, 110, 147, 11, 148, 3, 122, 123, 104, 124, 125, 126, 127, 128, 129, 130, 131, 2, 132, 133, 134, 98, 10, 135] (by decide +kernel) (by decide +kernel)
set_option maxRecDepth 20000 in
set_option maxHeartbeats 4000000 in
theorem ggL_law_L_act_wsL_act_r2 : GoodIn wsL_law wsL_act_r2 := goodIn_r _ [136, 137, 138, 139, 149, 150, 151, 152, 44, 15, 22, 153, 154, 155, 156, 157, 158, 159, 160, 161, 162, 16, 14, 94] (by decide +kernel) (by decide +kernel)
set_option maxRecDepth 20000 in
set_option maxHeartbeats 4000000 in
theorem ggL_law_L_act_wsL_act_r3 : GoodIn wsL_law wsL_act_r3 := goodIn_r _ [95, 96, 97, 99, 100, 101, 39, 40, 41, 42, 43, 27, 45, 21, 46, 47, 32, 33, 34, 35, 48, 26, 49, 50] (by decide +kernel) (by decide +kernel)
set_option maxRecDepth 20000 in
set_option maxHeartbeats 4000000 in
theorem ggL_law_L_act_wsL_act_r4 : GoodIn wsL_law wsL_act_r4 := goodIn_r _ [51, 52, 53, 54, 55, 56, 57, 58, 59, 60, 61, 62, 63, 64, 65, 66, 67, 68, 69, 70, 71, 72, 73, 74] (by decide +kernel) (by decide +kernel)
set_option maxRecDepth 20000 in
set_option maxHeartbeats 4000000 in
theorem ggL_law_L_act_wsL_act_r5 : GoodIn wsL_law wsL_act_r5 := goodIn_r _ [75, 76, 77, 78, 79, 80, 81, 82, 13, 83, 84, 85, 86, 18, 12, 87, 88, 89, 90, 91, 92, 93, 140, 141] (by decide +kernel) (by decide +kernel)
set_option maxRecDepth 20000 in
set_option maxHeartbeats 4000000 in
theorem ggL_law_L_act_wsL_act_r6 : GoodIn wsL_law wsL_act_r6 := goodIn_r _ [142, 143, 163, 164, 165, 166, 167, 168, 169, 170, 171, 172, 173, 174, 175, 176, 177, 178, 179, 180, 181, 182, 183, 184] (by decide +kernel) (by decide +kernel)
set_option maxRecDepth 20000 in
set_option maxHeartbeats 4000000 in
theorem ggL_law_L_act_wsL_act_r7 : GoodIn wsL_law wsL_act_r7 := goodIn_r _ [185, 17, 186, 187, 188, 189, 190, 191, 192, 193, 194, 195, 196, 197, 198, 199, 200, 201, 202, 203, 204, 205] (by decide +kernel) (by decide +kernel)
set_option maxRecDepth 20000 in
set_option maxHeartbeats 4000000 in
theorem ggL_law_L_act_wsX30 : GoodIn wsL_law wsX30 := goodIn_r _ [344, 345, 346, 347, 348, 349] (by decide +kernel) (by decide +kernel)
set_option maxRecDepth 20000 in
set_option maxHeartbeats 4000000 in
theorem ggL_law_L_act_wsX20 : GoodIn wsL_law wsX20 := goodIn_r _ [324, 325, 326, 327, 328, 329, 330, 331, 332, 333, 334, 335, 336, 337] (by decide +kernel) (by decide +kernel)
set_option maxRecDepth 20000 in
set_option maxHeartbeats 4000000 in
theorem ggL_law_L_act_wsX10 : GoodIn wsL_law wsX10 := goodIn_r _ [338, 339, 340, 341] (by decide +kernel) (by decide +kernel)
set_option maxRecDepth 20000 in
set_option maxHeartbeats 4000000 in
theorem ggL_law_L_act_wsX00 : GoodIn wsL_law wsX00 := goodIn_r _ [342, 343] (by decide +kernel) (by decide +kernel)
theorem ggL_law_L_act_in : GoodIn wsL_law (.code yL_act cL_act 20 (some .boolean) :: (((((wsL_act_r1 ++ (wsL_act_r2 ++ (wsL_act_r3 ++ (wsL_act_r4 ++ (wsL_act_r5 ++ (wsL_act_r6 ++ wsL_act_r7)))))) ++ wsX30) ++ wsX20) ++ wsX10) ++ wsX00)) := goodIn_c2 ggL_law_L_act_c (goodIn_app (goodIn_app (goodIn_app (goodIn_app (goodIn_app ggL_law_L_act_wsL_act_r1 (goodIn_app ggL_law_L_act_wsL_act_r2 (goodIn_app ggL_law_L_act_wsL_act_r3 (goodIn_app ggL_law_L_act_wsL_act_r4 (goodIn_app ggL_law_L_act_wsL_act_r5 (goodIn_app ggL_law_L_act_wsL_act_r6 ggL_law_L_act_wsL_act_r7)))))) ggL_law_L_act_wsX30) ggL_law_L_act_wsX20) ggL_law_L_act_wsX10) ggL_law_L_act_wsX00)
set_option maxRecDepth 20000 in
theorem ggL_law_L_act : GoodIn wsL_law wsL_act := goodIn_ca (goodIn_ca (goodIn_ca ggL_law_L_act_in (goodIn_sub (fun _ h => List.mem_append_left _ (List.mem_append_left _ (List.mem_append_right _ h))) (by decide +kernel))) (goodIn_sub (fun _ h => List.mem_append_left _ (List.mem_append_right _ h)) (by decide +kernel))) (goodIn_sub (fun _ h => List.mem_append_right _ h) (by decide +kernel))
set_option maxRecDepth 20000 in
theorem gL_law_L_act : GoodIn wsL_law (va_wsS RL 69 yL_act wsL_act) := goodIn_app (goodIn_of _ (by decide +kernel)) ggL_law_L_act
