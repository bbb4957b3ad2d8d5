set_option maxRecDepth 20000 in
set_option maxHeartbeats 4000000 in
theorem ggL_law_X3_isSame_c : GoodIn wsL_law [.code yX3_isSame cX3_isSame 15 (some .boolean)] := goodIn_c1 267 rfl (by decide +kernel)
set_option maxRecDepth 20000 in
set_option maxHeartbeats 4000000 in
theorem ggL_law_X3_isSame_wsX3_isSame_r1 : GoodIn wsL_law wsX3_isSame_r1 := goodIn_r _ [268, 269, 117, 3, 115, 114, 270, 271, 272, 108, 273, 274, 275, 276, 277, 278, 279, 280, 281, 282, 283, 284, 285, 286] (by decide +kernel) (by decide +kernel)
set_option maxRecDepth 20000 in
set_option maxHeartbeats 4000000 in
theorem ggL_law_X3_isSame_wsX3_isSame_r2 : GoodIn wsL_law wsX3_isSame_r2 := goodIn_r _ [287, 288, 289, 290, 291, 234, 235, 2, 236, 13, 14, 15, 17, 18, 16, 22, 175, 176, 177, 178, 157, 158, 44, 210] (by decide +kernel) (by decide +kernel)
set_option maxRecDepth 20000 in
set_option maxHeartbeats 4000000 in
theorem ggL_law_X3_isSame_wsX3_isSame_r3 : GoodIn wsL_law wsX3_isSame_r3 := goodIn_r _ [211, 212, 237, 238, 239, 83, 84, 85, 86, 12, 87, 26, 88, 89, 52, 292, 293, 294, 295, 296, 297, 298, 299, 300] (by decide +kernel) (by decide +kernel)
set_option maxRecDepth 20000 in
set_option maxHeartbeats 4000000 in
theorem ggL_law_X3_isSame_wsX3_isSame_r4 : GoodIn wsL_law wsX3_isSame_r4 := goodIn_r _ [301, 302, 303, 304, 241, 242, 243, 167, 168, 169, 170, 43, 194, 195, 196, 197, 225, 226, 227, 228, 305, 245, 246, 247] (by decide +kernel) (by decide +kernel)
set_option maxRecDepth 20000 in
set_option maxHeartbeats 4000000 in
theorem ggL_law_X3_isSame_wsX3_isSame_r5 : GoodIn wsL_law wsX3_isSame_r5 := goodIn_r _ [10, 153, 154, 155, 156, 98, 248, 249, 250, 251, 99, 100, 101, 252, 253, 254, 255, 256, 257, 258, 259, 306, 307, 308] (by decide +kernel) (by decide +kernel)
set_option maxRecDepth 20000 in
set_option maxHeartbeats 4000000 in
theorem ggL_law_X3_isSame_wsX3_isSame_r6 : GoodIn wsL_law wsX3_isSame_r6 := goodIn_r _ [309, 310, 311, 312, 313, 314, 315, 316, 317, 318, 319, 320, 321, 322, 207, 208, 209, 213, 73, 74, 75, 76, 77, 78] (by decide +kernel) (by decide +kernel)
set_option maxRecDepth 20000 in
set_option maxHeartbeats 4000000 in
theorem ggL_law_X3_isSame_wsX3_isSame_r7 : GoodIn wsL_law wsX3_isSame_r7 := goodIn_r _ [214, 215, 216, 217, 218, 21, 219, 220, 34, 221, 222, 223, 224, 229, 230, 231, 232, 323, 261, 262, 263] (by decide +kernel) (by decide +kernel)
set_option maxRecDepth 20000 in
set_option maxHeartbeats 4000000 in
theorem ggL_law_X3_isSame_wsX30 : GoodIn wsL_law wsX30 := goodIn_r _ [344, 345, 346, 347, 348, 349] (by decide +kernel) (by decide +kernel)
set_option maxRecDepth 20000 in
set_option maxHeartbeats 4000000 in
theorem ggL_law_X3_isSame_wsX20 : GoodIn wsL_law wsX20 := goodIn_r _ [324, 325, 326, 327, 328, 329, 330, 331, 332, 333, 334, 335, 336, 337] (by decide +kernel) (by decide +kernel)
set_option maxRecDepth 20000 in
set_option maxHeartbeats 4000000 in
theorem ggL_law_X3_isSame_wsX10 : GoodIn wsL_law wsX10 := goodIn_r _ [338, 339, 340, 341] (by decide +kernel) (by decide +kernel)
set_option maxRecDepth 20000 in
set_option maxHeartbeats 4000000 in
theorem ggL_law_X3_isSame_wsX00 : GoodIn wsL_law wsX00 := goodIn_r _ [342, 343] (by decide +kernel) (by decide +kernel)
theorem ggL_law_X3_isSame_in : GoodIn wsL_law (.code yX3_isSame cX3_isSame 15 (some .boolean) :: (((((wsX3_isSame_r1 ++ (wsX3_isSame_r2 ++ (wsX3_isSame_r3 ++ (wsX3_isSame_r4 ++ (wsX3_isSame_r5 ++ (wsX3_isSame_r6 ++ wsX3_isSame_r7)))))) ++ wsX30) ++ wsX20) ++ wsX10) ++ wsX00)) := goodIn_c2 ggL_law_X3_isSame_c (goodIn_app (goodIn_app (goodIn_app (goodIn_app (goodIn_app ggL_law_X3_isSame_wsX3_isSame_r1 (goodIn_app ggL_law_X3_isSame_wsX3_isSame_r2 (goodIn_app ggL_law_X3_isSame_wsX3_isSame_r3 (goodIn_app ggL_law_X3_isSame_wsX3_isSame_r4 (goodIn_app ggL_law_X3_isSame_wsX3_isSame_r5 (goodIn_app ggL_law_X3_isSame_wsX3_isSame_r6 ggL_law_X3_isSame_wsX3_isSame_r7)))))) ggL_law_X3_isSame_wsX30) ggL_law_X3_isSame_wsX20) ggL_law_X3_isSame_wsX10) ggL_law_X3_isSame_wsX00)
set_option maxRecDepth 20000 in
theorem ggL_law_X3_isSame : GoodIn wsL_law wsX3_isSame := goodIn_ca ggL_law_X3_isSame_in (goodIn_sub (fun _ h => List.mem_append_right _ h) (by decide +kernel))
set_option maxRecDepth 20000 in
theorem gL_law_X3_isSame : GoodIn wsL_law (wsV RL 94 RX3 yX3_isSame wsX3_isSame) := goodIn_app (goodIn_of _ (by decide +kernel)) ggL_law_X3_isSame
