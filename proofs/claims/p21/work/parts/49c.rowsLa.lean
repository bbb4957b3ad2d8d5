set_option maxRecDepth 20000 in
set_option maxHeartbeats 4000000 in
theorem ggL_law_L_build_c : GoodIn wsL_law [.code yL_build cL_build 7 (some (.object "PastureBidsLaw$Sim"))] := goodIn_c1 105 rfl (by decide +kernel)
set_option maxRecDepth 20000 in
set_option maxHeartbeats 4000000 in
theorem ggL_law_L_build_wsL_build_r1 : GoodIn wsL_law wsL_build_r1 := goodIn_r _ [106, 107, 108, 109, 11, 110, 111, 112, 113, 8, 9, 3, 114, 115, 116, 117, 118, 119, 104, 120, 121, 122, 123, 124] (by decide +kernel) (by decide +kernel)
set_option maxRecDepth 20000 in
set_option maxHeartbeats 4000000 in
theorem ggL_law_L_build_wsL_build_r2 : GoodIn wsL_law wsL_build_r2 := goodIn_r _ [125, 126, 127, 128, 129, 130, 131, 2, 132, 133, 134, 98, 10, 135, 136, 137, 138, 139, 140, 141, 142, 143, 43, 12] (by decide +kernel) (by decide +kernel)
set_option maxRecDepth 20000 in
set_option maxHeartbeats 4000000 in
theorem ggL_law_L_build_wsL_build_r3 : GoodIn wsL_law wsL_build_r3 := goodIn_r _ [22, 39, 40, 41, 42, 27, 44, 45, 21, 46, 47, 32, 33, 34, 35, 48, 26, 49, 50, 51, 52, 53, 54, 55] (by decide +kernel) (by decide +kernel)
set_option maxRecDepth 20000 in
set_option maxHeartbeats 4000000 in
theorem ggL_law_L_build_wsL_build_r4 : GoodIn wsL_law wsL_build_r4 := goodIn_r _ [56, 57, 58, 59, 60, 61, 62, 63, 64, 65, 66, 67, 68, 69, 70, 71, 72, 73, 74, 75, 76, 77, 78, 79] (by decide +kernel) (by decide +kernel)
set_option maxRecDepth 20000 in
set_option maxHeartbeats 4000000 in
theorem ggL_law_L_build_wsL_build_r5 : GoodIn wsL_law wsL_build_r5 := goodIn_r _ [80, 81, 82, 13, 14, 16, 83, 84, 85, 86, 18, 87, 88, 89, 90, 91, 92, 93, 94, 95, 96, 97, 99, 100] (by decide +kernel) (by decide +kernel)
set_option maxRecDepth 20000 in
set_option maxHeartbeats 4000000 in
theorem ggL_law_L_build_wsL_build_r6_s0 : GoodIn wsL_law [Cond.code yX2_hasField cX2_hasField 2 (some .boolean), Cond.methodLink RL 69 yL_act, Cond.static yL_act] := goodIn_r _ [101, 144, 145] (by decide +kernel) (by decide +kernel)
set_option maxRecDepth 20000 in
set_option maxHeartbeats 4000000 in
theorem ggL_law_L_build_wsL_build_r6_s1 : GoodIn wsL_law [Cond.code yL_act cL_act 20 (some .boolean)] := goodIn_c1 146 rfl (by decide +kernel)
set_option maxRecDepth 20000 in
set_option maxHeartbeats 4000000 in
theorem ggL_law_L_build_wsL_build_r6_s2 : GoodIn wsL_law [Cond.fieldLink RL 19 "PastureBidsLaw$Sim" "bids" "[[I", Cond.classLink RL 59 "[I", Cond.methodLink RL 39 yX2_setReserve, Cond.instanceMethod yX2_setReserve, Cond.selects RX2 yX2_setReserve yX2_setReserve, Cond.code yX2_setReserve cX2_setReserve 5 (some .int), Cond.fieldLink RX2 23 "PastureBids" "prices" "[I", Cond.methodLink RX2 71 yX2_requireField, Cond.instanceMethod yX2_requireField, Cond.selects RX2 yX2_requireField yX2_requireField, Cond.code yX2_requireField cX2_requireField 2 none, Cond.classLink RX2 206 "java/lang/IndexOutOfBoundsException", Cond.initialized "java/lang/IndexOutOfBoundsException", Cond.methodLink RX2 77 yX2_putPrice, Cond.instanceMethod yX2_putPrice, Cond.selects RX2 yX2_putPrice yX2_putPrice, Cond.code yX2_putPrice cX2_putPrice 3 none, Cond.methodLink RL 46 yX2_setIn, Cond.instanceMethod yX2_setIn, Cond.selects RX2 yX2_setIn yX2_setIn] := goodIn_r _ [147, 148, 149, 150, 151, 152, 15, 153, 154, 155, 156, 157, 158, 159, 160, 161, 162, 163, 164, 165] (by decide +kernel) (by decide +kernel)
theorem ggL_law_L_build_wsL_build_r6 : GoodIn wsL_law wsL_build_r6 := (goodIn_app ggL_law_L_build_wsL_build_r6_s0 (goodIn_app ggL_law_L_build_wsL_build_r6_s1 ggL_law_L_build_wsL_build_r6_s2))
set_option maxRecDepth 20000 in
set_option maxHeartbeats 4000000 in
theorem ggL_law_L_build_wsL_build_r7 : GoodIn wsL_law wsL_build_r7 := goodIn_r _ [166, 167, 168, 169, 170, 171, 172, 173, 174, 175, 176, 177, 178, 179, 180, 181, 182, 183, 184, 185, 17, 186, 187, 188] (by decide +kernel) (by decide +kernel)
set_option maxRecDepth 20000 in
set_option maxHeartbeats 4000000 in
theorem ggL_law_L_build_wsL_build_r8 : GoodIn wsL_law wsL_build_r8 := goodIn_r _ [189, 190, 191, 192, 193, 194, 195, 196, 197, 198, 199, 200, 201, 202, 203, 204, 205] (by decide +kernel) (by decide +kernel)
set_option maxRecDepth 20000 in
set_option maxHeartbeats 4000000 in
theorem ggL_law_L_build_wsX30 : GoodIn wsL_law wsX30 := goodIn_r _ [344, 345, 346, 347, 348, 349] (by decide +kernel) (by decide +kernel)
set_option maxRecDepth 20000 in
set_option maxHeartbeats 4000000 in
theorem ggL_law_L_build_wsX20 : GoodIn wsL_law wsX20 := goodIn_r _ [324, 325, 326, 327, 328, 329, 330, 331, 332, 333, 334, 335, 336, 337] (by decide +kernel) (by decide +kernel)
set_option maxRecDepth 20000 in
set_option maxHeartbeats 4000000 in
theorem ggL_law_L_build_wsX10 : GoodIn wsL_law wsX10 := goodIn_r _ [338, 339, 340, 341] (by decide +kernel) (by decide +kernel)
set_option maxRecDepth 20000 in
set_option maxHeartbeats 4000000 in
theorem ggL_law_L_build_wsX00 : GoodIn wsL_law wsX00 := goodIn_r _ [342, 343] (by decide +kernel) (by decide +kernel)
theorem ggL_law_L_build_in : GoodIn wsL_law (.code yL_build cL_build 7 (some (.object "PastureBidsLaw$Sim")) :: (((((wsL_build_r1 ++ (wsL_build_r2 ++ (wsL_build_r3 ++ (wsL_build_r4 ++ (wsL_build_r5 ++ (wsL_build_r6 ++ (wsL_build_r7 ++ wsL_build_r8))))))) ++ wsX30) ++ wsX20) ++ wsX10) ++ wsX00)) := goodIn_c2 ggL_law_L_build_c (goodIn_app (goodIn_app (goodIn_app (goodIn_app (goodIn_app ggL_law_L_build_wsL_build_r1 (goodIn_app ggL_law_L_build_wsL_build_r2 (goodIn_app ggL_law_L_build_wsL_build_r3 (goodIn_app ggL_law_L_build_wsL_build_r4 (goodIn_app ggL_law_L_build_wsL_build_r5 (goodIn_app ggL_law_L_build_wsL_build_r6 (goodIn_app ggL_law_L_build_wsL_build_r7 ggL_law_L_build_wsL_build_r8))))))) ggL_law_L_build_wsX30) ggL_law_L_build_wsX20) ggL_law_L_build_wsX10) ggL_law_L_build_wsX00)
set_option maxRecDepth 20000 in
theorem ggL_law_L_build : GoodIn wsL_law wsL_build := goodIn_ca (goodIn_ca (goodIn_ca ggL_law_L_build_in (goodIn_sub (fun _ h => List.mem_append_left _ (List.mem_append_left _ (List.mem_append_right _ h))) (by decide +kernel))) (goodIn_sub (fun _ h => List.mem_append_left _ (List.mem_append_right _ h)) (by decide +kernel))) (goodIn_sub (fun _ h => List.mem_append_right _ h) (by decide +kernel))
set_option maxRecDepth 20000 in
theorem gL_law_L_build : GoodIn wsL_law (va_wsS RL 74 yL_build wsL_build) := goodIn_app (goodIn_of _ (by decide +kernel)) ggL_law_L_build
