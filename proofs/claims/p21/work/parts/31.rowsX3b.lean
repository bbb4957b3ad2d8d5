set_option maxRecDepth 20000 in
theorem ggX3_isSame_X3_pays : GoodIn wsX3_isSame wsX3_pays := goodIn_r _ [71, 1, 3, 64, 65, 66, 10, 67, 7, 8, 9, 11, 2, 12, 13, 14, 15, 16, 5, 17, 18, 19, 20, 21, 22, 23, 24, 25, 26, 27, 28, 6, 166, 167, 168, 169, 170, 171] (by decide +kernel) (by decide +kernel)
set_option maxRecDepth 20000 in
theorem gX3_isSame_X3_pays : GoodIn wsX3_isSame (wsV RX3 60 RX3 yX3_pays wsX3_pays) := goodIn_app (goodIn_of _ (by decide +kernel)) ggX3_isSame_X3_pays
set_option maxRecDepth 20000 in
theorem ggX3_isSame_X3_profit : GoodIn wsX3_isSame wsX3_profit := goodIn_r _ [75, 3, 64, 65, 66, 10, 67, 7, 8, 9, 11, 1, 2, 12, 13, 14, 15, 16, 5, 17, 18, 19, 20, 21, 22, 23, 24, 25, 26, 27, 28, 6, 68, 69, 70, 71, 166, 167, 168, 169, 170, 171] (by decide +kernel) (by decide +kernel)
set_option maxRecDepth 20000 in
theorem gX3_isSame_X3_profit : GoodIn wsX3_isSame (wsV RX3 69 RX3 yX3_profit wsX3_profit) := goodIn_app (goodIn_of _ (by decide +kernel)) ggX3_isSame_X3_profit
set_option maxRecDepth 20000 in
theorem ggX3_isSame_X2_about : GoodIn wsX3_isSame wsX2_about := goodIn_ca (goodIn_r _ [79, 58, 40, 80, 81, 82, 32, 83, 45, 46, 84, 48, 49, 50, 51, 52, 53, 85, 86, 87, 88, 47, 34, 38, 89, 90, 91, 92, 37, 172, 173, 174, 175, 176, 177, 178, 179, 180, 181, 182, 183, 184, 185, 186, 187, 188, 189] (by decide +kernel) (by decide +kernel)) (goodIn_sub (fun _ h => List.mem_cons_of_mem _ (List.mem_append_right _ h)) (by decide +kernel))
set_option maxRecDepth 20000 in
theorem gX3_isSame_X2_about : GoodIn wsX3_isSame (wsV RX3 72 RX2 yX2_about wsX2_about) := goodIn_app (goodIn_of _ (by decide +kernel)) ggX3_isSame_X2_about
set_option maxRecDepth 20000 in
theorem ggX3_isSame_X2_land : GoodIn wsX3_isSame wsX2_land := goodIn_ca (goodIn_r _ [96, 97, 98, 99, 100, 32, 101, 45, 46, 102, 48, 49, 50, 103, 104, 105, 106, 47, 40, 35, 59, 60, 61, 62, 63, 107, 108, 109, 110, 111, 112, 113, 34, 114, 115, 116, 117, 54, 55, 56, 57, 38, 58, 39, 172, 173, 174, 175, 176, 177, 178, 179, 180, 181, 182, 183, 184, 185, 186, 187, 188, 189, 190, 191] (by decide +kernel) (by decide +kernel)) (goodIn_sub (fun _ h => List.mem_cons_of_mem _ (List.mem_append_right _ h)) (by decide +kernel))
set_option maxRecDepth 20000 in
theorem gX3_isSame_X2_land : GoodIn wsX3_isSame (wsV RX3 75 RX2 yX2_land wsX2_land) := goodIn_app (goodIn_of _ (by decide +kernel)) ggX3_isSame_X2_land
set_option maxRecDepth 20000 in
theorem ggX3_isSame_X3_alone : GoodIn wsX3_isSame wsX3_alone := goodIn_r _ [121, 3, 4, 6, 17, 18, 19, 10, 20, 5, 21, 22, 23, 24, 25, 26, 27, 28, 166, 167, 168, 169, 170, 171] (by decide +kernel) (by decide +kernel)
set_option maxRecDepth 20000 in
theorem gX3_isSame_X3_alone : GoodIn wsX3_isSame (wsV RX3 78 RX3 yX3_alone wsX3_alone) := goodIn_app (goodIn_of _ (by decide +kernel)) ggX3_isSame_X3_alone
set_option maxRecDepth 20000 in
theorem ggX3_isSame_X2_alone : GoodIn wsX3_isSame wsX2_alone := goodIn_ca (goodIn_r _ [125, 34, 98, 99, 100, 32, 101, 45, 46, 102, 48, 49, 50, 126, 127, 128, 129, 47, 35, 36, 54, 55, 56, 57, 38, 58, 39, 130, 131, 132, 133, 97, 172, 173, 174, 175, 176, 177, 178, 179, 180, 181, 182, 183, 184, 185] (by decide +kernel) (by decide +kernel)) (goodIn_sub (fun _ h => List.mem_cons_of_mem _ (List.mem_append_right _ h)) (by decide +kernel))
set_option maxRecDepth 20000 in
theorem gX3_isSame_X2_alone : GoodIn wsX3_isSame (wsV RX3 82 RX2 yX2_alone wsX2_alone) := goodIn_app (goodIn_of _ (by decide +kernel)) ggX3_isSame_X2_alone
set_option maxRecDepth 20000 in
theorem ggX3_isSame_X2_count : GoodIn wsX3_isSame wsX2_count := goodIn_ca (goodIn_r _ [137, 102, 84, 47, 40, 48, 49, 32, 50, 45, 46, 138, 139, 140, 141, 142, 143, 144, 145, 146, 147, 148, 35, 59, 60, 61, 62, 63, 149, 150, 151, 152, 153, 154, 155, 156, 157, 89, 90, 91, 92, 37, 158, 159, 160, 161, 36, 172, 173, 174, 175, 176, 177, 178, 179, 180, 181, 182, 183, 184, 185, 186, 187, 188, 189, 190, 191] (by decide +kernel) (by decide +kernel)) (goodIn_sub (fun _ h => List.mem_cons_of_mem _ (List.mem_append_right _ h)) (by decide +kernel))
set_option maxRecDepth 20000 in
theorem gX3_isSame_X2_count : GoodIn wsX3_isSame (wsV RX3 84 RX2 yX2_count wsX2_count) := goodIn_app (goodIn_of _ (by decide +kernel)) ggX3_isSame_X2_count
set_option maxRecDepth 20000 in
theorem ggX3_isSame_X2_mean : GoodIn wsX3_isSame wsX2_mean := goodIn_r _ [165, 40, 138, 139, 140, 141, 142, 143, 144, 149, 150, 151, 152, 153, 172, 173, 174, 175, 176, 177, 178, 179, 180, 181, 182, 183, 184, 185, 186, 187, 188, 189, 190, 191] (by decide +kernel) (by decide +kernel)
set_option maxRecDepth 20000 in
theorem gX3_isSame_X2_mean : GoodIn wsX3_isSame (wsV RX3 87 RX2 yX2_mean wsX2_mean) := goodIn_app (goodIn_of _ (by decide +kernel)) ggX3_isSame_X2_mean
theorem dX3_isSame_0 : decode cX3_isSame 0 = .ok (.aload_n 0, 1) := by decide +kernel
theorem dX3_isSame_1 : decode cX3_isSame 1 = .ok (.iconst (-1), 1) := by decide +kernel
theorem dX3_isSame_2 : decode cX3_isSame 2 = .ok (.invokevirtual 54, 3) := by decide +kernel
theorem dX3_isSame_5 : decode cX3_isSame 5 = .ok (.istore_n 2, 1) := by decide +kernel
theorem dX3_isSame_6 : decode cX3_isSame 6 = .ok (.aload_n 0, 1) := by decide +kernel
theorem dX3_isSame_7 : decode cX3_isSame 7 = .ok (.getfield 36, 3) := by decide +kernel
theorem dX3_isSame_10 : decode cX3_isSame 10 = .ok (.istore_n 3, 1) := by decide +kernel
theorem dX3_isSame_11 : decode cX3_isSame 11 = .ok (.aload_n 0, 1) := by decide +kernel
theorem dX3_isSame_12 : decode cX3_isSame 12 = .ok (.getfield 40, 3) := by decide +kernel
theorem dX3_isSame_15 : decode cX3_isSame 15 = .ok (.istore 4, 2) := by decide +kernel
theorem dX3_isSame_17 : decode cX3_isSame 17 = .ok (.iconst 0, 1) := by decide +kernel
theorem dX3_isSame_18 : decode cX3_isSame 18 = .ok (.istore 5, 2) := by decide +kernel
theorem dX3_isSame_20 : decode cX3_isSame 20 = .ok (.iconst 0, 1) := by decide +kernel
theorem dX3_isSame_21 : decode cX3_isSame 21 = .ok (.istore 6, 2) := by decide +kernel
theorem dX3_isSame_23 : decode cX3_isSame 23 = .ok (.iconst 0, 1) := by decide +kernel
theorem dX3_isSame_24 : decode cX3_isSame 24 = .ok (.istore 7, 2) := by decide +kernel
theorem dX3_isSame_26 : decode cX3_isSame 26 = .ok (.iload 7, 2) := by decide +kernel
theorem dX3_isSame_28 : decode cX3_isSame 28 = .ok (.aload_n 0, 1) := by decide +kernel
theorem dX3_isSame_29 : decode cX3_isSame 29 = .ok (.getfield 18, 3) := by decide +kernel
theorem dX3_isSame_32 : decode cX3_isSame 32 = .ok (.arraylength, 1) := by decide +kernel
theorem dX3_isSame_33 : decode cX3_isSame 33 = .ok (.if_icmp .ge 184, 3) := by decide +kernel
theorem dX3_isSame_36 : decode cX3_isSame 36 = .ok (.bipush 8, 2) := by decide +kernel
theorem dX3_isSame_38 : decode cX3_isSame 38 = .ok (.newarray .int, 2) := by decide +kernel
theorem dX3_isSame_40 : decode cX3_isSame 40 = .ok (.dup, 1) := by decide +kernel
theorem dX3_isSame_41 : decode cX3_isSame 41 = .ok (.iconst 0, 1) := by decide +kernel
theorem dX3_isSame_42 : decode cX3_isSame 42 = .ok (.aload_n 0, 1) := by decide +kernel
theorem dX3_isSame_43 : decode cX3_isSame 43 = .ok (.getfield 18, 3) := by decide +kernel
theorem dX3_isSame_46 : decode cX3_isSame 46 = .ok (.iload 7, 2) := by decide +kernel
theorem dX3_isSame_48 : decode cX3_isSame 48 = .ok (.aaload, 1) := by decide +kernel
theorem dX3_isSame_49 : decode cX3_isSame 49 = .ok (.iconst 0, 1) := by decide +kernel
theorem dX3_isSame_50 : decode cX3_isSame 50 = .ok (.iaload, 1) := by decide +kernel
theorem dX3_isSame_51 : decode cX3_isSame 51 = .ok (.iastore, 1) := by decide +kernel
theorem dX3_isSame_52 : decode cX3_isSame 52 = .ok (.dup, 1) := by decide +kernel
theorem dX3_isSame_53 : decode cX3_isSame 53 = .ok (.iconst 1, 1) := by decide +kernel
theorem dX3_isSame_54 : decode cX3_isSame 54 = .ok (.aload_n 0, 1) := by decide +kernel
theorem dX3_isSame_55 : decode cX3_isSame 55 = .ok (.getfield 18, 3) := by decide +kernel
theorem dX3_isSame_58 : decode cX3_isSame 58 = .ok (.iload 7, 2) := by decide +kernel
theorem dX3_isSame_60 : decode cX3_isSame 60 = .ok (.aaload, 1) := by decide +kernel
theorem dX3_isSame_61 : decode cX3_isSame 61 = .ok (.iconst 1, 1) := by decide +kernel
theorem dX3_isSame_62 : decode cX3_isSame 62 = .ok (.iaload, 1) := by decide +kernel
theorem dX3_isSame_63 : decode cX3_isSame 63 = .ok (.iastore, 1) := by decide +kernel
theorem dX3_isSame_64 : decode cX3_isSame 64 = .ok (.dup, 1) := by decide +kernel
theorem dX3_isSame_65 : decode cX3_isSame 65 = .ok (.iconst 2, 1) := by decide +kernel
theorem dX3_isSame_66 : decode cX3_isSame 66 = .ok (.aload_n 0, 1) := by decide +kernel
theorem dX3_isSame_67 : decode cX3_isSame 67 = .ok (.getfield 18, 3) := by decide +kernel
theorem dX3_isSame_70 : decode cX3_isSame 70 = .ok (.iload 7, 2) := by decide +kernel
theorem dX3_isSame_72 : decode cX3_isSame 72 = .ok (.aaload, 1) := by decide +kernel
theorem dX3_isSame_73 : decode cX3_isSame 73 = .ok (.iconst 2, 1) := by decide +kernel
theorem dX3_isSame_74 : decode cX3_isSame 74 = .ok (.iaload, 1) := by decide +kernel
theorem dX3_isSame_75 : decode cX3_isSame 75 = .ok (.iastore, 1) := by decide +kernel
theorem dX3_isSame_76 : decode cX3_isSame 76 = .ok (.dup, 1) := by decide +kernel
theorem dX3_isSame_77 : decode cX3_isSame 77 = .ok (.iconst 3, 1) := by decide +kernel
theorem dX3_isSame_78 : decode cX3_isSame 78 = .ok (.aload_n 0, 1) := by decide +kernel
theorem dX3_isSame_79 : decode cX3_isSame 79 = .ok (.getfield 18, 3) := by decide +kernel
theorem dX3_isSame_82 : decode cX3_isSame 82 = .ok (.iload 7, 2) := by decide +kernel
theorem dX3_isSame_84 : decode cX3_isSame 84 = .ok (.aaload, 1) := by decide +kernel
theorem dX3_isSame_85 : decode cX3_isSame 85 = .ok (.iconst 3, 1) := by decide +kernel
theorem dX3_isSame_86 : decode cX3_isSame 86 = .ok (.iaload, 1) := by decide +kernel
theorem dX3_isSame_87 : decode cX3_isSame 87 = .ok (.iastore, 1) := by decide +kernel
theorem dX3_isSame_88 : decode cX3_isSame 88 = .ok (.dup, 1) := by decide +kernel
theorem dX3_isSame_89 : decode cX3_isSame 89 = .ok (.iconst 4, 1) := by decide +kernel
theorem dX3_isSame_90 : decode cX3_isSame 90 = .ok (.aload_n 0, 1) := by decide +kernel
theorem dX3_isSame_91 : decode cX3_isSame 91 = .ok (.getfield 18, 3) := by decide +kernel
theorem dX3_isSame_94 : decode cX3_isSame 94 = .ok (.iload 7, 2) := by decide +kernel
theorem dX3_isSame_96 : decode cX3_isSame 96 = .ok (.aaload, 1) := by decide +kernel
theorem dX3_isSame_97 : decode cX3_isSame 97 = .ok (.iconst 4, 1) := by decide +kernel
theorem dX3_isSame_98 : decode cX3_isSame 98 = .ok (.iaload, 1) := by decide +kernel
theorem dX3_isSame_99 : decode cX3_isSame 99 = .ok (.iastore, 1) := by decide +kernel
theorem dX3_isSame_100 : decode cX3_isSame 100 = .ok (.dup, 1) := by decide +kernel
theorem dX3_isSame_101 : decode cX3_isSame 101 = .ok (.iconst 5, 1) := by decide +kernel
theorem dX3_isSame_102 : decode cX3_isSame 102 = .ok (.aload_n 0, 1) := by decide +kernel
theorem dX3_isSame_103 : decode cX3_isSame 103 = .ok (.iload 7, 2) := by decide +kernel
theorem dX3_isSame_105 : decode cX3_isSame 105 = .ok (.invokevirtual 33, 3) := by decide +kernel
theorem dX3_isSame_108 : decode cX3_isSame 108 = .ok (.iastore, 1) := by decide +kernel
theorem dX3_isSame_109 : decode cX3_isSame 109 = .ok (.dup, 1) := by decide +kernel
theorem dX3_isSame_110 : decode cX3_isSame 110 = .ok (.bipush 6, 2) := by decide +kernel
theorem dX3_isSame_112 : decode cX3_isSame 112 = .ok (.aload_n 0, 1) := by decide +kernel
theorem dX3_isSame_113 : decode cX3_isSame 113 = .ok (.iload 7, 2) := by decide +kernel
theorem dX3_isSame_115 : decode cX3_isSame 115 = .ok (.invokevirtual 50, 3) := by decide +kernel
theorem dX3_isSame_118 : decode cX3_isSame 118 = .ok (.ifCond .eq 7, 3) := by decide +kernel
theorem dX3_isSame_121 : decode cX3_isSame 121 = .ok (.iconst 1, 1) := by decide +kernel
theorem dX3_isSame_122 : decode cX3_isSame 122 = .ok (.goto 4, 3) := by decide +kernel
theorem dX3_isSame_125 : decode cX3_isSame 125 = .ok (.iconst 0, 1) := by decide +kernel
theorem dX3_isSame_126 : decode cX3_isSame 126 = .ok (.iastore, 1) := by decide +kernel
theorem dX3_isSame_127 : decode cX3_isSame 127 = .ok (.dup, 1) := by decide +kernel
theorem dX3_isSame_128 : decode cX3_isSame 128 = .ok (.bipush 7, 2) := by decide +kernel
theorem dX3_isSame_130 : decode cX3_isSame 130 = .ok (.iload_n 2, 1) := by decide +kernel
theorem dX3_isSame_131 : decode cX3_isSame 131 = .ok (.iload 7, 2) := by decide +kernel
theorem dX3_isSame_133 : decode cX3_isSame 133 = .ok (.ishr, 1) := by decide +kernel
theorem dX3_isSame_134 : decode cX3_isSame 134 = .ok (.iconst 2, 1) := by decide +kernel
theorem dX3_isSame_135 : decode cX3_isSame 135 = .ok (.irem, 1) := by decide +kernel
theorem dX3_isSame_136 : decode cX3_isSame 136 = .ok (.iastore, 1) := by decide +kernel
theorem dX3_isSame_137 : decode cX3_isSame 137 = .ok (.astore 8, 2) := by decide +kernel
theorem dX3_isSame_139 : decode cX3_isSame 139 = .ok (.iconst 0, 1) := by decide +kernel
theorem dX3_isSame_140 : decode cX3_isSame 140 = .ok (.istore 9, 2) := by decide +kernel
theorem dX3_isSame_142 : decode cX3_isSame 142 = .ok (.iload 9, 2) := by decide +kernel
theorem dX3_isSame_144 : decode cX3_isSame 144 = .ok (.bipush 8, 2) := by decide +kernel
theorem dX3_isSame_146 : decode cX3_isSame 146 = .ok (.if_icmp .ge 27, 3) := by decide +kernel
theorem dX3_isSame_149 : decode cX3_isSame 149 = .ok (.aload_n 1, 1) := by decide +kernel
theorem dX3_isSame_150 : decode cX3_isSame 150 = .ok (.iload 7, 2) := by decide +kernel
theorem dX3_isSame_152 : decode cX3_isSame 152 = .ok (.iload 9, 2) := by decide +kernel
theorem dX3_isSame_154 : decode cX3_isSame 154 = .ok (.invokevirtual 63, 3) := by decide +kernel
theorem dX3_isSame_157 : decode cX3_isSame 157 = .ok (.aload 8, 2) := by decide +kernel
theorem dX3_isSame_159 : decode cX3_isSame 159 = .ok (.iload 9, 2) := by decide +kernel
theorem dX3_isSame_161 : decode cX3_isSame 161 = .ok (.iaload, 1) := by decide +kernel
theorem dX3_isSame_162 : decode cX3_isSame 162 = .ok (.if_icmp .eq 5, 3) := by decide +kernel
theorem dX3_isSame_165 : decode cX3_isSame 165 = .ok (.iconst 0, 1) := by decide +kernel
theorem dX3_isSame_166 : decode cX3_isSame 166 = .ok (.ireturn, 1) := by decide +kernel
theorem dX3_isSame_167 : decode cX3_isSame 167 = .ok (.iinc 9 1, 3) := by decide +kernel
theorem dX3_isSame_170 : decode cX3_isSame 170 = .ok (.goto (-28), 3) := by decide +kernel
theorem dX3_isSame_173 : decode cX3_isSame 173 = .ok (.iload_n 2, 1) := by decide +kernel
theorem dX3_isSame_174 : decode cX3_isSame 174 = .ok (.iload 7, 2) := by decide +kernel
theorem dX3_isSame_176 : decode cX3_isSame 176 = .ok (.ishr, 1) := by decide +kernel
theorem dX3_isSame_177 : decode cX3_isSame 177 = .ok (.iconst 2, 1) := by decide +kernel
theorem dX3_isSame_178 : decode cX3_isSame 178 = .ok (.irem, 1) := by decide +kernel
theorem dX3_isSame_179 : decode cX3_isSame 179 = .ok (.iconst 1, 1) := by decide +kernel
theorem dX3_isSame_180 : decode cX3_isSame 180 = .ok (.if_icmp .ne 31, 3) := by decide +kernel
theorem dX3_isSame_183 : decode cX3_isSame 183 = .ok (.iload 5, 2) := by decide +kernel
theorem dX3_isSame_185 : decode cX3_isSame 185 = .ok (.aload_n 0, 1) := by decide +kernel
theorem dX3_isSame_186 : decode cX3_isSame 186 = .ok (.getfield 18, 3) := by decide +kernel
theorem dX3_isSame_189 : decode cX3_isSame 189 = .ok (.iload 7, 2) := by decide +kernel
theorem dX3_isSame_191 : decode cX3_isSame 191 = .ok (.aaload, 1) := by decide +kernel
theorem dX3_isSame_192 : decode cX3_isSame 192 = .ok (.iconst 1, 1) := by decide +kernel
theorem dX3_isSame_193 : decode cX3_isSame 193 = .ok (.iaload, 1) := by decide +kernel
theorem dX3_isSame_194 : decode cX3_isSame 194 = .ok (.ior, 1) := by decide +kernel
theorem dX3_isSame_195 : decode cX3_isSame 195 = .ok (.istore 5, 2) := by decide +kernel
theorem dX3_isSame_197 : decode cX3_isSame 197 = .ok (.iload 6, 2) := by decide +kernel
theorem dX3_isSame_199 : decode cX3_isSame 199 = .ok (.aload_n 0, 1) := by decide +kernel
theorem dX3_isSame_200 : decode cX3_isSame 200 = .ok (.getfield 18, 3) := by decide +kernel
theorem dX3_isSame_203 : decode cX3_isSame 203 = .ok (.iload 7, 2) := by decide +kernel
theorem dX3_isSame_205 : decode cX3_isSame 205 = .ok (.aaload, 1) := by decide +kernel
theorem dX3_isSame_206 : decode cX3_isSame 206 = .ok (.iconst 2, 1) := by decide +kernel
theorem dX3_isSame_207 : decode cX3_isSame 207 = .ok (.iaload, 1) := by decide +kernel
theorem dX3_isSame_208 : decode cX3_isSame 208 = .ok (.iadd, 1) := by decide +kernel
theorem dX3_isSame_209 : decode cX3_isSame 209 = .ok (.istore 6, 2) := by decide +kernel
theorem dX3_isSame_211 : decode cX3_isSame 211 = .ok (.iinc 7 1, 3) := by decide +kernel
theorem dX3_isSame_214 : decode cX3_isSame 214 = .ok (.goto (-188), 3) := by decide +kernel
theorem dX3_isSame_217 : decode cX3_isSame 217 = .ok (.iconst 0, 1) := by decide +kernel
theorem dX3_isSame_218 : decode cX3_isSame 218 = .ok (.istore 7, 2) := by decide +kernel
theorem dX3_isSame_220 : decode cX3_isSame 220 = .ok (.iconst 0, 1) := by decide +kernel
theorem dX3_isSame_221 : decode cX3_isSame 221 = .ok (.istore 8, 2) := by decide +kernel
theorem dX3_isSame_223 : decode cX3_isSame 223 = .ok (.iconst 0, 1) := by decide +kernel
theorem dX3_isSame_224 : decode cX3_isSame 224 = .ok (.istore 9, 2) := by decide +kernel
theorem dX3_isSame_226 : decode cX3_isSame 226 = .ok (.iload 9, 2) := by decide +kernel
theorem dX3_isSame_228 : decode cX3_isSame 228 = .ok (.aload_n 0, 1) := by decide +kernel
theorem dX3_isSame_229 : decode cX3_isSame 229 = .ok (.getfield 13, 3) := by decide +kernel
theorem dX3_isSame_232 : decode cX3_isSame 232 = .ok (.arraylength, 1) := by decide +kernel
theorem dX3_isSame_233 : decode cX3_isSame 233 = .ok (.if_icmp .ge 199, 3) := by decide +kernel
theorem dX3_isSame_236 : decode cX3_isSame 236 = .ok (.iconst 0, 1) := by decide +kernel
theorem dX3_isSame_237 : decode cX3_isSame 237 = .ok (.istore 10, 2) := by decide +kernel
theorem dX3_isSame_239 : decode cX3_isSame 239 = .ok (.aload_n 0, 1) := by decide +kernel
theorem dX3_isSame_240 : decode cX3_isSame 240 = .ok (.getfield 18, 3) := by decide +kernel
theorem dX3_isSame_243 : decode cX3_isSame 243 = .ok (.astore 11, 2) := by decide +kernel
theorem dX3_isSame_245 : decode cX3_isSame 245 = .ok (.aload 11, 2) := by decide +kernel
theorem dX3_isSame_247 : decode cX3_isSame 247 = .ok (.arraylength, 1) := by decide +kernel
theorem dX3_isSame_248 : decode cX3_isSame 248 = .ok (.istore 12, 2) := by decide +kernel
theorem dX3_isSame_250 : decode cX3_isSame 250 = .ok (.iconst 0, 1) := by decide +kernel
theorem dX3_isSame_251 : decode cX3_isSame 251 = .ok (.istore 13, 2) := by decide +kernel
theorem dX3_isSame_253 : decode cX3_isSame 253 = .ok (.iload 13, 2) := by decide +kernel
theorem dX3_isSame_255 : decode cX3_isSame 255 = .ok (.iload 12, 2) := by decide +kernel
theorem dX3_isSame_257 : decode cX3_isSame 257 = .ok (.if_icmp .ge 40, 3) := by decide +kernel
theorem dX3_isSame_260 : decode cX3_isSame 260 = .ok (.aload 11, 2) := by decide +kernel
theorem dX3_isSame_262 : decode cX3_isSame 262 = .ok (.iload 13, 2) := by decide +kernel
theorem dX3_isSame_264 : decode cX3_isSame 264 = .ok (.aaload, 1) := by decide +kernel
theorem dX3_isSame_265 : decode cX3_isSame 265 = .ok (.astore 14, 2) := by decide +kernel
theorem dX3_isSame_267 : decode cX3_isSame 267 = .ok (.iload 10, 2) := by decide +kernel
theorem dX3_isSame_269 : decode cX3_isSame 269 = .ok (.aload 14, 2) := by decide +kernel
theorem dX3_isSame_271 : decode cX3_isSame 271 = .ok (.iconst 0, 1) := by decide +kernel
theorem dX3_isSame_272 : decode cX3_isSame 272 = .ok (.iaload, 1) := by decide +kernel
theorem dX3_isSame_273 : decode cX3_isSame 273 = .ok (.iload 9, 2) := by decide +kernel
theorem dX3_isSame_275 : decode cX3_isSame 275 = .ok (.if_icmp .ne 12, 3) := by decide +kernel
theorem dX3_isSame_278 : decode cX3_isSame 278 = .ok (.iconst 1, 1) := by decide +kernel
theorem dX3_isSame_279 : decode cX3_isSame 279 = .ok (.aload 14, 2) := by decide +kernel
theorem dX3_isSame_281 : decode cX3_isSame 281 = .ok (.iconst 4, 1) := by decide +kernel
theorem dX3_isSame_282 : decode cX3_isSame 282 = .ok (.iaload, 1) := by decide +kernel
theorem dX3_isSame_283 : decode cX3_isSame 283 = .ok (.isub, 1) := by decide +kernel
theorem dX3_isSame_284 : decode cX3_isSame 284 = .ok (.goto 4, 3) := by decide +kernel
theorem dX3_isSame_287 : decode cX3_isSame 287 = .ok (.iconst 0, 1) := by decide +kernel
theorem dX3_isSame_288 : decode cX3_isSame 288 = .ok (.iadd, 1) := by decide +kernel
theorem dX3_isSame_289 : decode cX3_isSame 289 = .ok (.istore 10, 2) := by decide +kernel
theorem dX3_isSame_291 : decode cX3_isSame 291 = .ok (.iinc 13 1, 3) := by decide +kernel
theorem dX3_isSame_294 : decode cX3_isSame 294 = .ok (.goto (-41), 3) := by decide +kernel
theorem dX3_isSame_297 : decode cX3_isSame 297 = .ok (.iconst 0, 1) := by decide +kernel
theorem dX3_isSame_298 : decode cX3_isSame 298 = .ok (.istore 11, 2) := by decide +kernel
theorem dX3_isSame_300 : decode cX3_isSame 300 = .ok (.aload_n 0, 1) := by decide +kernel
theorem dX3_isSame_301 : decode cX3_isSame 301 = .ok (.iload 9, 2) := by decide +kernel
theorem dX3_isSame_303 : decode cX3_isSame 303 = .ok (.invokevirtual 54, 3) := by decide +kernel
theorem dX3_isSame_306 : decode cX3_isSame 306 = .ok (.pop, 1) := by decide +kernel
theorem dX3_isSame_307 : decode cX3_isSame 307 = .ok (.aload_n 0, 1) := by decide +kernel
theorem dX3_isSame_308 : decode cX3_isSame 308 = .ok (.getfield 36, 3) := by decide +kernel
theorem dX3_isSame_311 : decode cX3_isSame 311 = .ok (.istore 11, 2) := by decide +kernel
theorem dX3_isSame_313 : decode cX3_isSame 313 = .ok (.bipush 6, 2) := by decide +kernel
theorem dX3_isSame_315 : decode cX3_isSame 315 = .ok (.newarray .int, 2) := by decide +kernel
theorem dX3_isSame_317 : decode cX3_isSame 317 = .ok (.dup, 1) := by decide +kernel
theorem dX3_isSame_318 : decode cX3_isSame 318 = .ok (.iconst 0, 1) := by decide +kernel
theorem dX3_isSame_319 : decode cX3_isSame 319 = .ok (.aload_n 0, 1) := by decide +kernel
theorem dX3_isSame_320 : decode cX3_isSame 320 = .ok (.getfield 13, 3) := by decide +kernel
theorem dX3_isSame_323 : decode cX3_isSame 323 = .ok (.iload 9, 2) := by decide +kernel
theorem dX3_isSame_325 : decode cX3_isSame 325 = .ok (.baload, 1) := by decide +kernel
theorem dX3_isSame_326 : decode cX3_isSame 326 = .ok (.ifCond .eq 7, 3) := by decide +kernel
theorem dX3_isSame_329 : decode cX3_isSame 329 = .ok (.iconst 1, 1) := by decide +kernel
theorem dX3_isSame_330 : decode cX3_isSame 330 = .ok (.goto 4, 3) := by decide +kernel
theorem dX3_isSame_333 : decode cX3_isSame 333 = .ok (.iconst 0, 1) := by decide +kernel
theorem dX3_isSame_334 : decode cX3_isSame 334 = .ok (.iastore, 1) := by decide +kernel
theorem dX3_isSame_335 : decode cX3_isSame 335 = .ok (.dup, 1) := by decide +kernel
theorem dX3_isSame_336 : decode cX3_isSame 336 = .ok (.iconst 1, 1) := by decide +kernel
theorem dX3_isSame_337 : decode cX3_isSame 337 = .ok (.iload 10, 2) := by decide +kernel
theorem dX3_isSame_339 : decode cX3_isSame 339 = .ok (.iastore, 1) := by decide +kernel
theorem dX3_isSame_340 : decode cX3_isSame 340 = .ok (.dup, 1) := by decide +kernel
theorem dX3_isSame_341 : decode cX3_isSame 341 = .ok (.iconst 2, 1) := by decide +kernel
theorem dX3_isSame_342 : decode cX3_isSame 342 = .ok (.aload_n 0, 1) := by decide +kernel
theorem dX3_isSame_343 : decode cX3_isSame 343 = .ok (.iload 9, 2) := by decide +kernel
theorem dX3_isSame_345 : decode cX3_isSame 345 = .ok (.invokevirtual 57, 3) := by decide +kernel
theorem dX3_isSame_348 : decode cX3_isSame 348 = .ok (.iastore, 1) := by decide +kernel
theorem dX3_isSame_349 : decode cX3_isSame 349 = .ok (.dup, 1) := by decide +kernel
theorem dX3_isSame_350 : decode cX3_isSame 350 = .ok (.iconst 3, 1) := by decide +kernel
theorem dX3_isSame_351 : decode cX3_isSame 351 = .ok (.aload_n 0, 1) := by decide +kernel
theorem dX3_isSame_352 : decode cX3_isSame 352 = .ok (.iload 9, 2) := by decide +kernel
theorem dX3_isSame_354 : decode cX3_isSame 354 = .ok (.invokevirtual 60, 3) := by decide +kernel
theorem dX3_isSame_357 : decode cX3_isSame 357 = .ok (.iastore, 1) := by decide +kernel
theorem dX3_isSame_358 : decode cX3_isSame 358 = .ok (.dup, 1) := by decide +kernel
theorem dX3_isSame_359 : decode cX3_isSame 359 = .ok (.iconst 4, 1) := by decide +kernel
theorem dX3_isSame_360 : decode cX3_isSame 360 = .ok (.aload_n 0, 1) := by decide +kernel
theorem dX3_isSame_361 : decode cX3_isSame 361 = .ok (.iload 9, 2) := by decide +kernel
theorem dX3_isSame_363 : decode cX3_isSame 363 = .ok (.invokevirtual 69, 3) := by decide +kernel
theorem dX3_isSame_366 : decode cX3_isSame 366 = .ok (.iastore, 1) := by decide +kernel
theorem dX3_isSame_367 : decode cX3_isSame 367 = .ok (.dup, 1) := by decide +kernel
theorem dX3_isSame_368 : decode cX3_isSame 368 = .ok (.iconst 5, 1) := by decide +kernel
theorem dX3_isSame_369 : decode cX3_isSame 369 = .ok (.iload 11, 2) := by decide +kernel
theorem dX3_isSame_371 : decode cX3_isSame 371 = .ok (.iastore, 1) := by decide +kernel
theorem dX3_isSame_372 : decode cX3_isSame 372 = .ok (.astore 12, 2) := by decide +kernel
theorem dX3_isSame_374 : decode cX3_isSame 374 = .ok (.iconst 0, 1) := by decide +kernel
theorem dX3_isSame_375 : decode cX3_isSame 375 = .ok (.istore 13, 2) := by decide +kernel
theorem dX3_isSame_377 : decode cX3_isSame 377 = .ok (.iload 13, 2) := by decide +kernel
theorem dX3_isSame_379 : decode cX3_isSame 379 = .ok (.bipush 6, 2) := by decide +kernel
theorem dX3_isSame_381 : decode cX3_isSame 381 = .ok (.if_icmp .ge 27, 3) := by decide +kernel
theorem dX3_isSame_384 : decode cX3_isSame 384 = .ok (.aload_n 1, 1) := by decide +kernel
theorem dX3_isSame_385 : decode cX3_isSame 385 = .ok (.iload 9, 2) := by decide +kernel
theorem dX3_isSame_387 : decode cX3_isSame 387 = .ok (.iload 13, 2) := by decide +kernel
theorem dX3_isSame_389 : decode cX3_isSame 389 = .ok (.invokevirtual 72, 3) := by decide +kernel
theorem dX3_isSame_392 : decode cX3_isSame 392 = .ok (.aload 12, 2) := by decide +kernel
theorem dX3_isSame_394 : decode cX3_isSame 394 = .ok (.iload 13, 2) := by decide +kernel
theorem dX3_isSame_396 : decode cX3_isSame 396 = .ok (.iaload, 1) := by decide +kernel
theorem dX3_isSame_397 : decode cX3_isSame 397 = .ok (.if_icmp .eq 5, 3) := by decide +kernel
theorem dX3_isSame_400 : decode cX3_isSame 400 = .ok (.iconst 0, 1) := by decide +kernel
theorem dX3_isSame_401 : decode cX3_isSame 401 = .ok (.ireturn, 1) := by decide +kernel
theorem dX3_isSame_402 : decode cX3_isSame 402 = .ok (.iinc 13 1, 3) := by decide +kernel
theorem dX3_isSame_405 : decode cX3_isSame 405 = .ok (.goto (-28), 3) := by decide +kernel
theorem dX3_isSame_408 : decode cX3_isSame 408 = .ok (.iload 7, 2) := by decide +kernel
theorem dX3_isSame_410 : decode cX3_isSame 410 = .ok (.aload 12, 2) := by decide +kernel
theorem dX3_isSame_412 : decode cX3_isSame 412 = .ok (.iconst 3, 1) := by decide +kernel
theorem dX3_isSame_413 : decode cX3_isSame 413 = .ok (.iaload, 1) := by decide +kernel
theorem dX3_isSame_414 : decode cX3_isSame 414 = .ok (.iadd, 1) := by decide +kernel
theorem dX3_isSame_415 : decode cX3_isSame 415 = .ok (.istore 7, 2) := by decide +kernel
theorem dX3_isSame_417 : decode cX3_isSame 417 = .ok (.iload 8, 2) := by decide +kernel
theorem dX3_isSame_419 : decode cX3_isSame 419 = .ok (.aload 12, 2) := by decide +kernel
theorem dX3_isSame_421 : decode cX3_isSame 421 = .ok (.iconst 4, 1) := by decide +kernel
theorem dX3_isSame_422 : decode cX3_isSame 422 = .ok (.iaload, 1) := by decide +kernel
theorem dX3_isSame_423 : decode cX3_isSame 423 = .ok (.iadd, 1) := by decide +kernel
theorem dX3_isSame_424 : decode cX3_isSame 424 = .ok (.istore 8, 2) := by decide +kernel
theorem dX3_isSame_426 : decode cX3_isSame 426 = .ok (.iinc 9 1, 3) := by decide +kernel
theorem dX3_isSame_429 : decode cX3_isSame 429 = .ok (.goto (-203), 3) := by decide +kernel
theorem dX3_isSame_432 : decode cX3_isSame 432 = .ok (.iconst 0, 1) := by decide +kernel
theorem dX3_isSame_433 : decode cX3_isSame 433 = .ok (.istore 9, 2) := by decide +kernel
theorem dX3_isSame_435 : decode cX3_isSame 435 = .ok (.iconst 0, 1) := by decide +kernel
theorem dX3_isSame_436 : decode cX3_isSame 436 = .ok (.istore 10, 2) := by decide +kernel
theorem dX3_isSame_438 : decode cX3_isSame 438 = .ok (.iload 10, 2) := by decide +kernel
theorem dX3_isSame_440 : decode cX3_isSame 440 = .ok (.aload_n 0, 1) := by decide +kernel
theorem dX3_isSame_441 : decode cX3_isSame 441 = .ok (.getfield 7, 3) := by decide +kernel
theorem dX3_isSame_444 : decode cX3_isSame 444 = .ok (.arraylength, 1) := by decide +kernel
theorem dX3_isSame_445 : decode cX3_isSame 445 = .ok (.if_icmp .ge 190, 3) := by decide +kernel
theorem dX3_isSame_448 : decode cX3_isSame 448 = .ok (.iconst (-1), 1) := by decide +kernel
theorem dX3_isSame_449 : decode cX3_isSame 449 = .ok (.istore 11, 2) := by decide +kernel
theorem dX3_isSame_451 : decode cX3_isSame 451 = .ok (.iconst 0, 1) := by decide +kernel
theorem dX3_isSame_452 : decode cX3_isSame 452 = .ok (.istore 12, 2) := by decide +kernel
theorem dX3_isSame_454 : decode cX3_isSame 454 = .ok (.iconst 0, 1) := by decide +kernel
theorem dX3_isSame_455 : decode cX3_isSame 455 = .ok (.istore 13, 2) := by decide +kernel
theorem dX3_isSame_457 : decode cX3_isSame 457 = .ok (.iload 13, 2) := by decide +kernel
theorem dX3_isSame_459 : decode cX3_isSame 459 = .ok (.aload_n 0, 1) := by decide +kernel
theorem dX3_isSame_460 : decode cX3_isSame 460 = .ok (.getfield 18, 3) := by decide +kernel
theorem dX3_isSame_463 : decode cX3_isSame 463 = .ok (.arraylength, 1) := by decide +kernel
theorem dX3_isSame_464 : decode cX3_isSame 464 = .ok (.if_icmp .ge 69, 3) := by decide +kernel
theorem dX3_isSame_467 : decode cX3_isSame 467 = .ok (.aload_n 0, 1) := by decide +kernel
theorem dX3_isSame_468 : decode cX3_isSame 468 = .ok (.getfield 18, 3) := by decide +kernel
theorem dX3_isSame_471 : decode cX3_isSame 471 = .ok (.iload 13, 2) := by decide +kernel
theorem dX3_isSame_473 : decode cX3_isSame 473 = .ok (.aaload, 1) := by decide +kernel
theorem dX3_isSame_474 : decode cX3_isSame 474 = .ok (.iconst 1, 1) := by decide +kernel
theorem dX3_isSame_475 : decode cX3_isSame 475 = .ok (.iaload, 1) := by decide +kernel
theorem dX3_isSame_476 : decode cX3_isSame 476 = .ok (.iload 10, 2) := by decide +kernel
theorem dX3_isSame_478 : decode cX3_isSame 478 = .ok (.ishr, 1) := by decide +kernel
theorem dX3_isSame_479 : decode cX3_isSame 479 = .ok (.iconst 2, 1) := by decide +kernel
theorem dX3_isSame_480 : decode cX3_isSame 480 = .ok (.irem, 1) := by decide +kernel
theorem dX3_isSame_481 : decode cX3_isSame 481 = .ok (.ifCond .ne 6, 3) := by decide +kernel
theorem dX3_isSame_484 : decode cX3_isSame 484 = .ok (.goto 43, 3) := by decide +kernel
theorem dX3_isSame_487 : decode cX3_isSame 487 = .ok (.iload_n 2, 1) := by decide +kernel
theorem dX3_isSame_488 : decode cX3_isSame 488 = .ok (.iload 13, 2) := by decide +kernel
theorem dX3_isSame_490 : decode cX3_isSame 490 = .ok (.ishr, 1) := by decide +kernel
theorem dX3_isSame_491 : decode cX3_isSame 491 = .ok (.iconst 2, 1) := by decide +kernel
theorem dX3_isSame_492 : decode cX3_isSame 492 = .ok (.irem, 1) := by decide +kernel
theorem dX3_isSame_493 : decode cX3_isSame 493 = .ok (.iconst 1, 1) := by decide +kernel
theorem dX3_isSame_494 : decode cX3_isSame 494 = .ok (.if_icmp .ne 14, 3) := by decide +kernel
theorem dX3_isSame_497 : decode cX3_isSame 497 = .ok (.aload_n 0, 1) := by decide +kernel
theorem dX3_isSame_498 : decode cX3_isSame 498 = .ok (.getfield 18, 3) := by decide +kernel
theorem dX3_isSame_501 : decode cX3_isSame 501 = .ok (.iload 13, 2) := by decide +kernel
theorem dX3_isSame_503 : decode cX3_isSame 503 = .ok (.aaload, 1) := by decide +kernel
theorem dX3_isSame_504 : decode cX3_isSame 504 = .ok (.iconst 0, 1) := by decide +kernel
theorem dX3_isSame_505 : decode cX3_isSame 505 = .ok (.iaload, 1) := by decide +kernel
theorem dX3_isSame_506 : decode cX3_isSame 506 = .ok (.istore 11, 2) := by decide +kernel
theorem dX3_isSame_508 : decode cX3_isSame 508 = .ok (.iload 12, 2) := by decide +kernel
theorem dX3_isSame_510 : decode cX3_isSame 510 = .ok (.aload_n 0, 1) := by decide +kernel
theorem dX3_isSame_511 : decode cX3_isSame 511 = .ok (.iload 13, 2) := by decide +kernel
theorem dX3_isSame_513 : decode cX3_isSame 513 = .ok (.invokevirtual 50, 3) := by decide +kernel
theorem dX3_isSame_516 : decode cX3_isSame 516 = .ok (.ifCond .eq 7, 3) := by decide +kernel
theorem dX3_isSame_519 : decode cX3_isSame 519 = .ok (.iconst 1, 1) := by decide +kernel
theorem dX3_isSame_520 : decode cX3_isSame 520 = .ok (.goto 4, 3) := by decide +kernel
theorem dX3_isSame_523 : decode cX3_isSame 523 = .ok (.iconst 0, 1) := by decide +kernel
theorem dX3_isSame_524 : decode cX3_isSame 524 = .ok (.iadd, 1) := by decide +kernel
theorem dX3_isSame_525 : decode cX3_isSame 525 = .ok (.istore 12, 2) := by decide +kernel
theorem dX3_isSame_527 : decode cX3_isSame 527 = .ok (.iinc 13 1, 3) := by decide +kernel
theorem dX3_isSame_530 : decode cX3_isSame 530 = .ok (.goto (-73), 3) := by decide +kernel
theorem dX3_isSame_533 : decode cX3_isSame 533 = .ok (.iload 9, 2) := by decide +kernel
theorem dX3_isSame_535 : decode cX3_isSame 535 = .ok (.iload 5, 2) := by decide +kernel
theorem dX3_isSame_537 : decode cX3_isSame 537 = .ok (.iload 10, 2) := by decide +kernel
theorem dX3_isSame_539 : decode cX3_isSame 539 = .ok (.ishr, 1) := by decide +kernel
theorem dX3_isSame_540 : decode cX3_isSame 540 = .ok (.iconst 2, 1) := by decide +kernel
theorem dX3_isSame_541 : decode cX3_isSame 541 = .ok (.irem, 1) := by decide +kernel
theorem dX3_isSame_542 : decode cX3_isSame 542 = .ok (.iadd, 1) := by decide +kernel
theorem dX3_isSame_543 : decode cX3_isSame 543 = .ok (.istore 9, 2) := by decide +kernel
theorem dX3_isSame_545 : decode cX3_isSame 545 = .ok (.aload_n 1, 1) := by decide +kernel
theorem dX3_isSame_546 : decode cX3_isSame 546 = .ok (.iload 10, 2) := by decide +kernel
theorem dX3_isSame_548 : decode cX3_isSame 548 = .ok (.iconst 0, 1) := by decide +kernel
theorem dX3_isSame_549 : decode cX3_isSame 549 = .ok (.invokevirtual 75, 3) := by decide +kernel
theorem dX3_isSame_552 : decode cX3_isSame 552 = .ok (.aload_n 0, 1) := by decide +kernel
theorem dX3_isSame_553 : decode cX3_isSame 553 = .ok (.getfield 7, 3) := by decide +kernel
theorem dX3_isSame_556 : decode cX3_isSame 556 = .ok (.iload 10, 2) := by decide +kernel
theorem dX3_isSame_558 : decode cX3_isSame 558 = .ok (.iaload, 1) := by decide +kernel
theorem dX3_isSame_559 : decode cX3_isSame 559 = .ok (.if_icmp .ne 27, 3) := by decide +kernel
theorem dX3_isSame_562 : decode cX3_isSame 562 = .ok (.aload_n 1, 1) := by decide +kernel
theorem dX3_isSame_563 : decode cX3_isSame 563 = .ok (.iload 10, 2) := by decide +kernel
theorem dX3_isSame_565 : decode cX3_isSame 565 = .ok (.iconst 1, 1) := by decide +kernel
theorem dX3_isSame_566 : decode cX3_isSame 566 = .ok (.invokevirtual 75, 3) := by decide +kernel
theorem dX3_isSame_569 : decode cX3_isSame 569 = .ok (.iload 11, 2) := by decide +kernel
theorem dX3_isSame_571 : decode cX3_isSame 571 = .ok (.if_icmp .ne 15, 3) := by decide +kernel
theorem dX3_isSame_574 : decode cX3_isSame 574 = .ok (.aload_n 1, 1) := by decide +kernel
theorem dX3_isSame_575 : decode cX3_isSame 575 = .ok (.iload 10, 2) := by decide +kernel
theorem dX3_isSame_577 : decode cX3_isSame 577 = .ok (.iconst 2, 1) := by decide +kernel
theorem dX3_isSame_578 : decode cX3_isSame 578 = .ok (.invokevirtual 75, 3) := by decide +kernel
theorem dX3_isSame_581 : decode cX3_isSame 581 = .ok (.iload 12, 2) := by decide +kernel
theorem dX3_isSame_583 : decode cX3_isSame 583 = .ok (.if_icmp .eq 5, 3) := by decide +kernel
theorem dX3_isSame_586 : decode cX3_isSame 586 = .ok (.iconst 0, 1) := by decide +kernel
theorem dX3_isSame_587 : decode cX3_isSame 587 = .ok (.ireturn, 1) := by decide +kernel
theorem dX3_isSame_588 : decode cX3_isSame 588 = .ok (.aload_n 0, 1) := by decide +kernel
theorem dX3_isSame_589 : decode cX3_isSame 589 = .ok (.iload 10, 2) := by decide +kernel
theorem dX3_isSame_591 : decode cX3_isSame 591 = .ok (.invokevirtual 78, 3) := by decide +kernel
theorem dX3_isSame_594 : decode cX3_isSame 594 = .ok (.astore 13, 2) := by decide +kernel
theorem dX3_isSame_596 : decode cX3_isSame 596 = .ok (.iconst 0, 1) := by decide +kernel
theorem dX3_isSame_597 : decode cX3_isSame 597 = .ok (.istore 14, 2) := by decide +kernel
theorem dX3_isSame_599 : decode cX3_isSame 599 = .ok (.iload 14, 2) := by decide +kernel
theorem dX3_isSame_601 : decode cX3_isSame 601 = .ok (.iconst 3, 1) := by decide +kernel
theorem dX3_isSame_602 : decode cX3_isSame 602 = .ok (.if_icmp .ge 27, 3) := by decide +kernel
theorem dX3_isSame_605 : decode cX3_isSame 605 = .ok (.aload_n 1, 1) := by decide +kernel
theorem dX3_isSame_606 : decode cX3_isSame 606 = .ok (.iload 10, 2) := by decide +kernel
theorem dX3_isSame_608 : decode cX3_isSame 608 = .ok (.iload 14, 2) := by decide +kernel
theorem dX3_isSame_610 : decode cX3_isSame 610 = .ok (.invokevirtual 82, 3) := by decide +kernel
theorem dX3_isSame_613 : decode cX3_isSame 613 = .ok (.aload 13, 2) := by decide +kernel
theorem dX3_isSame_615 : decode cX3_isSame 615 = .ok (.iload 14, 2) := by decide +kernel
theorem dX3_isSame_617 : decode cX3_isSame 617 = .ok (.iaload, 1) := by decide +kernel
theorem dX3_isSame_618 : decode cX3_isSame 618 = .ok (.if_icmp .eq 5, 3) := by decide +kernel
theorem dX3_isSame_621 : decode cX3_isSame 621 = .ok (.iconst 0, 1) := by decide +kernel
theorem dX3_isSame_622 : decode cX3_isSame 622 = .ok (.ireturn, 1) := by decide +kernel
theorem dX3_isSame_623 : decode cX3_isSame 623 = .ok (.iinc 14 1, 3) := by decide +kernel
theorem dX3_isSame_626 : decode cX3_isSame 626 = .ok (.goto (-27), 3) := by decide +kernel
theorem dX3_isSame_629 : decode cX3_isSame 629 = .ok (.iinc 10 1, 3) := by decide +kernel
theorem dX3_isSame_632 : decode cX3_isSame 632 = .ok (.goto (-194), 3) := by decide +kernel
theorem dX3_isSame_635 : decode cX3_isSame 635 = .ok (.bipush 9, 2) := by decide +kernel
theorem dX3_isSame_637 : decode cX3_isSame 637 = .ok (.newarray .int, 2) := by decide +kernel
theorem dX3_isSame_639 : decode cX3_isSame 639 = .ok (.dup, 1) := by decide +kernel
theorem dX3_isSame_640 : decode cX3_isSame 640 = .ok (.iconst 0, 1) := by decide +kernel
theorem dX3_isSame_641 : decode cX3_isSame 641 = .ok (.aload_n 0, 1) := by decide +kernel
theorem dX3_isSame_642 : decode cX3_isSame 642 = .ok (.getfield 7, 3) := by decide +kernel
theorem dX3_isSame_645 : decode cX3_isSame 645 = .ok (.arraylength, 1) := by decide +kernel
theorem dX3_isSame_646 : decode cX3_isSame 646 = .ok (.iastore, 1) := by decide +kernel
theorem dX3_isSame_647 : decode cX3_isSame 647 = .ok (.dup, 1) := by decide +kernel
theorem dX3_isSame_648 : decode cX3_isSame 648 = .ok (.iconst 1, 1) := by decide +kernel
theorem dX3_isSame_649 : decode cX3_isSame 649 = .ok (.aload_n 0, 1) := by decide +kernel
theorem dX3_isSame_650 : decode cX3_isSame 650 = .ok (.getfield 13, 3) := by decide +kernel
theorem dX3_isSame_653 : decode cX3_isSame 653 = .ok (.arraylength, 1) := by decide +kernel
theorem dX3_isSame_654 : decode cX3_isSame 654 = .ok (.iastore, 1) := by decide +kernel
theorem dX3_isSame_655 : decode cX3_isSame 655 = .ok (.dup, 1) := by decide +kernel
theorem dX3_isSame_656 : decode cX3_isSame 656 = .ok (.iconst 2, 1) := by decide +kernel
theorem dX3_isSame_657 : decode cX3_isSame 657 = .ok (.aload_n 0, 1) := by decide +kernel
theorem dX3_isSame_658 : decode cX3_isSame 658 = .ok (.getfield 18, 3) := by decide +kernel
theorem dX3_isSame_661 : decode cX3_isSame 661 = .ok (.arraylength, 1) := by decide +kernel
theorem dX3_isSame_662 : decode cX3_isSame 662 = .ok (.iastore, 1) := by decide +kernel
theorem dX3_isSame_663 : decode cX3_isSame 663 = .ok (.dup, 1) := by decide +kernel
theorem dX3_isSame_664 : decode cX3_isSame 664 = .ok (.iconst 3, 1) := by decide +kernel
theorem dX3_isSame_665 : decode cX3_isSame 665 = .ok (.iload_n 3, 1) := by decide +kernel
theorem dX3_isSame_666 : decode cX3_isSame 666 = .ok (.iastore, 1) := by decide +kernel
theorem dX3_isSame_667 : decode cX3_isSame 667 = .ok (.dup, 1) := by decide +kernel
theorem dX3_isSame_668 : decode cX3_isSame 668 = .ok (.iconst 4, 1) := by decide +kernel
theorem dX3_isSame_669 : decode cX3_isSame 669 = .ok (.iload 4, 2) := by decide +kernel
theorem dX3_isSame_671 : decode cX3_isSame 671 = .ok (.iastore, 1) := by decide +kernel
theorem dX3_isSame_672 : decode cX3_isSame 672 = .ok (.dup, 1) := by decide +kernel
theorem dX3_isSame_673 : decode cX3_isSame 673 = .ok (.iconst 5, 1) := by decide +kernel
theorem dX3_isSame_674 : decode cX3_isSame 674 = .ok (.iload 9, 2) := by decide +kernel
theorem dX3_isSame_676 : decode cX3_isSame 676 = .ok (.iastore, 1) := by decide +kernel
theorem dX3_isSame_677 : decode cX3_isSame 677 = .ok (.dup, 1) := by decide +kernel
theorem dX3_isSame_678 : decode cX3_isSame 678 = .ok (.bipush 6, 2) := by decide +kernel
theorem dX3_isSame_680 : decode cX3_isSame 680 = .ok (.iload 7, 2) := by decide +kernel
theorem dX3_isSame_682 : decode cX3_isSame 682 = .ok (.iastore, 1) := by decide +kernel
theorem dX3_isSame_683 : decode cX3_isSame 683 = .ok (.dup, 1) := by decide +kernel
theorem dX3_isSame_684 : decode cX3_isSame 684 = .ok (.bipush 7, 2) := by decide +kernel
theorem dX3_isSame_686 : decode cX3_isSame 686 = .ok (.iload 8, 2) := by decide +kernel
theorem dX3_isSame_688 : decode cX3_isSame 688 = .ok (.iastore, 1) := by decide +kernel
theorem dX3_isSame_689 : decode cX3_isSame 689 = .ok (.dup, 1) := by decide +kernel
theorem dX3_isSame_690 : decode cX3_isSame 690 = .ok (.bipush 8, 2) := by decide +kernel
theorem dX3_isSame_692 : decode cX3_isSame 692 = .ok (.iload 6, 2) := by decide +kernel
theorem dX3_isSame_694 : decode cX3_isSame 694 = .ok (.iastore, 1) := by decide +kernel
theorem dX3_isSame_695 : decode cX3_isSame 695 = .ok (.astore 10, 2) := by decide +kernel
theorem dX3_isSame_697 : decode cX3_isSame 697 = .ok (.iconst 0, 1) := by decide +kernel
theorem dX3_isSame_698 : decode cX3_isSame 698 = .ok (.istore 11, 2) := by decide +kernel
theorem dX3_isSame_700 : decode cX3_isSame 700 = .ok (.iload 11, 2) := by decide +kernel
theorem dX3_isSame_702 : decode cX3_isSame 702 = .ok (.bipush 9, 2) := by decide +kernel
theorem dX3_isSame_704 : decode cX3_isSame 704 = .ok (.if_icmp .ge 25, 3) := by decide +kernel
theorem dX3_isSame_707 : decode cX3_isSame 707 = .ok (.aload_n 1, 1) := by decide +kernel
theorem dX3_isSame_708 : decode cX3_isSame 708 = .ok (.iload 11, 2) := by decide +kernel
theorem dX3_isSame_710 : decode cX3_isSame 710 = .ok (.invokevirtual 84, 3) := by decide +kernel
theorem dX3_isSame_713 : decode cX3_isSame 713 = .ok (.aload 10, 2) := by decide +kernel
theorem dX3_isSame_715 : decode cX3_isSame 715 = .ok (.iload 11, 2) := by decide +kernel
theorem dX3_isSame_717 : decode cX3_isSame 717 = .ok (.iaload, 1) := by decide +kernel
theorem dX3_isSame_718 : decode cX3_isSame 718 = .ok (.if_icmp .eq 5, 3) := by decide +kernel
theorem dX3_isSame_721 : decode cX3_isSame 721 = .ok (.iconst 0, 1) := by decide +kernel
theorem dX3_isSame_722 : decode cX3_isSame 722 = .ok (.ireturn, 1) := by decide +kernel
theorem dX3_isSame_723 : decode cX3_isSame 723 = .ok (.iinc 11 1, 3) := by decide +kernel
theorem dX3_isSame_726 : decode cX3_isSame 726 = .ok (.goto (-26), 3) := by decide +kernel
theorem dX3_isSame_729 : decode cX3_isSame 729 = .ok (.aload_n 1, 1) := by decide +kernel
theorem dX3_isSame_730 : decode cX3_isSame 730 = .ok (.invokevirtual 87, 3) := by decide +kernel
theorem dX3_isSame_733 : decode cX3_isSame 733 = .ok (.iload 4, 2) := by decide +kernel
theorem dX3_isSame_735 : decode cX3_isSame 735 = .ok (.ifCond .ne 7, 3) := by decide +kernel
theorem dX3_isSame_738 : decode cX3_isSame 738 = .ok (.dconst 0, 1) := by decide +kernel
theorem dX3_isSame_739 : decode cX3_isSame 739 = .ok (.goto 10, 3) := by decide +kernel
theorem dX3_isSame_742 : decode cX3_isSame 742 = .ok (.iload 7, 2) := by decide +kernel
theorem dX3_isSame_744 : decode cX3_isSame 744 = .ok (.i2d, 1) := by decide +kernel
theorem dX3_isSame_745 : decode cX3_isSame 745 = .ok (.iload 4, 2) := by decide +kernel
theorem dX3_isSame_747 : decode cX3_isSame 747 = .ok (.i2d, 1) := by decide +kernel
theorem dX3_isSame_748 : decode cX3_isSame 748 = .ok (.ddiv, 1) := by decide +kernel
theorem dX3_isSame_749 : decode cX3_isSame 749 = .ok (.dcmp .l, 1) := by decide +kernel
theorem dX3_isSame_750 : decode cX3_isSame 750 = .ok (.ifCond .ne 7, 3) := by decide +kernel
theorem dX3_isSame_753 : decode cX3_isSame 753 = .ok (.iconst 1, 1) := by decide +kernel
theorem dX3_isSame_754 : decode cX3_isSame 754 = .ok (.goto 4, 3) := by decide +kernel
theorem dX3_isSame_757 : decode cX3_isSame 757 = .ok (.iconst 0, 1) := by decide +kernel
theorem dX3_isSame_758 : decode cX3_isSame 758 = .ok (.ireturn, 1) := by decide +kernel
