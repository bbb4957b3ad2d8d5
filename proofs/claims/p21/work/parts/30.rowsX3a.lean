theorem dX3_init_0 : decode cX3_init 0 = .ok (.aload_n 0, 1) := by decide +kernel
theorem dX3_init_1 : decode cX3_init 1 = .ok (.invokespecial 1, 3) := by decide +kernel
theorem dX3_init_4 : decode cX3_init 4 = .ok (.aload_n 0, 1) := by decide +kernel
theorem dX3_init_5 : decode cX3_init 5 = .ok (.iconst 0, 1) := by decide +kernel
theorem dX3_init_6 : decode cX3_init 6 = .ok (.newarray .int, 2) := by decide +kernel
theorem dX3_init_8 : decode cX3_init 8 = .ok (.putfield 7, 3) := by decide +kernel
theorem dX3_init_11 : decode cX3_init 11 = .ok (.aload_n 0, 1) := by decide +kernel
theorem dX3_init_12 : decode cX3_init 12 = .ok (.iconst 0, 1) := by decide +kernel
theorem dX3_init_13 : decode cX3_init 13 = .ok (.newarray .boolean, 2) := by decide +kernel
theorem dX3_init_15 : decode cX3_init 15 = .ok (.putfield 13, 3) := by decide +kernel
theorem dX3_init_18 : decode cX3_init 18 = .ok (.aload_n 0, 1) := by decide +kernel
theorem dX3_init_19 : decode cX3_init 19 = .ok (.iconst 0, 1) := by decide +kernel
theorem dX3_init_20 : decode cX3_init 20 = .ok (.anewarray 17, 3) := by decide +kernel
theorem dX3_init_23 : decode cX3_init 23 = .ok (.putfield 18, 3) := by decide +kernel
theorem dX3_init_26 : decode cX3_init 26 = .ok (.return_, 1) := by decide +kernel
theorem dX3_reserve_0 : decode cX3_reserve 0 = .ok (.iconst 0, 1) := by decide +kernel
theorem dX3_reserve_1 : decode cX3_reserve 1 = .ok (.istore_n 2, 1) := by decide +kernel
theorem dX3_reserve_2 : decode cX3_reserve 2 = .ok (.iconst 0, 1) := by decide +kernel
theorem dX3_reserve_3 : decode cX3_reserve 3 = .ok (.istore_n 3, 1) := by decide +kernel
theorem dX3_reserve_4 : decode cX3_reserve 4 = .ok (.iload_n 3, 1) := by decide +kernel
theorem dX3_reserve_5 : decode cX3_reserve 5 = .ok (.aload_n 0, 1) := by decide +kernel
theorem dX3_reserve_6 : decode cX3_reserve 6 = .ok (.getfield 7, 3) := by decide +kernel
theorem dX3_reserve_9 : decode cX3_reserve 9 = .ok (.arraylength, 1) := by decide +kernel
theorem dX3_reserve_10 : decode cX3_reserve 10 = .ok (.if_icmp .ge 24, 3) := by decide +kernel
theorem dX3_reserve_13 : decode cX3_reserve 13 = .ok (.iload_n 2, 1) := by decide +kernel
theorem dX3_reserve_14 : decode cX3_reserve 14 = .ok (.iload_n 1, 1) := by decide +kernel
theorem dX3_reserve_15 : decode cX3_reserve 15 = .ok (.iload_n 3, 1) := by decide +kernel
theorem dX3_reserve_16 : decode cX3_reserve 16 = .ok (.ishr, 1) := by decide +kernel
theorem dX3_reserve_17 : decode cX3_reserve 17 = .ok (.iconst 2, 1) := by decide +kernel
theorem dX3_reserve_18 : decode cX3_reserve 18 = .ok (.irem, 1) := by decide +kernel
theorem dX3_reserve_19 : decode cX3_reserve 19 = .ok (.aload_n 0, 1) := by decide +kernel
theorem dX3_reserve_20 : decode cX3_reserve 20 = .ok (.getfield 7, 3) := by decide +kernel
theorem dX3_reserve_23 : decode cX3_reserve 23 = .ok (.iload_n 3, 1) := by decide +kernel
theorem dX3_reserve_24 : decode cX3_reserve 24 = .ok (.iaload, 1) := by decide +kernel
theorem dX3_reserve_25 : decode cX3_reserve 25 = .ok (.imul, 1) := by decide +kernel
theorem dX3_reserve_26 : decode cX3_reserve 26 = .ok (.iadd, 1) := by decide +kernel
theorem dX3_reserve_27 : decode cX3_reserve 27 = .ok (.istore_n 2, 1) := by decide +kernel
theorem dX3_reserve_28 : decode cX3_reserve 28 = .ok (.iinc 3 1, 3) := by decide +kernel
theorem dX3_reserve_31 : decode cX3_reserve 31 = .ok (.goto (-27), 3) := by decide +kernel
theorem dX3_reserve_34 : decode cX3_reserve 34 = .ok (.iload_n 2, 1) := by decide +kernel
theorem dX3_reserve_35 : decode cX3_reserve 35 = .ok (.ireturn, 1) := by decide +kernel
set_option maxRecDepth 20000 in
theorem ggX3_gain_X3_reserve : GoodIn wsX3_gain wsX3_reserve := goodIn_r _ [6, 7, 8, 9, 10, 11, 12, 13] (by decide +kernel) (by decide +kernel)
set_option maxRecDepth 20000 in
theorem gX3_gain_X3_reserve : GoodIn wsX3_gain (wsV RX3 29 RX3 yX3_reserve wsX3_reserve) := goodIn_app (goodIn_of _ (by decide +kernel)) ggX3_gain_X3_reserve
theorem dX3_gain_0 : decode cX3_gain 0 = .ok (.aload_n 0, 1) := by decide +kernel
theorem dX3_gain_1 : decode cX3_gain 1 = .ok (.getfield 18, 3) := by decide +kernel
theorem dX3_gain_4 : decode cX3_gain 4 = .ok (.iload_n 1, 1) := by decide +kernel
theorem dX3_gain_5 : decode cX3_gain 5 = .ok (.aaload, 1) := by decide +kernel
theorem dX3_gain_6 : decode cX3_gain 6 = .ok (.iconst 2, 1) := by decide +kernel
theorem dX3_gain_7 : decode cX3_gain 7 = .ok (.iaload, 1) := by decide +kernel
theorem dX3_gain_8 : decode cX3_gain 8 = .ok (.aload_n 0, 1) := by decide +kernel
theorem dX3_gain_9 : decode cX3_gain 9 = .ok (.aload_n 0, 1) := by decide +kernel
theorem dX3_gain_10 : decode cX3_gain 10 = .ok (.getfield 18, 3) := by decide +kernel
theorem dX3_gain_13 : decode cX3_gain 13 = .ok (.iload_n 1, 1) := by decide +kernel
theorem dX3_gain_14 : decode cX3_gain 14 = .ok (.aaload, 1) := by decide +kernel
theorem dX3_gain_15 : decode cX3_gain 15 = .ok (.iconst 1, 1) := by decide +kernel
theorem dX3_gain_16 : decode cX3_gain 16 = .ok (.iaload, 1) := by decide +kernel
theorem dX3_gain_17 : decode cX3_gain 17 = .ok (.invokevirtual 29, 3) := by decide +kernel
theorem dX3_gain_20 : decode cX3_gain 20 = .ok (.isub, 1) := by decide +kernel
theorem dX3_gain_21 : decode cX3_gain 21 = .ok (.ireturn, 1) := by decide +kernel
set_option maxRecDepth 20000 in
theorem ggX3_counts_X3_gain : GoodIn wsX3_counts wsX3_gain := goodIn_r _ [7, 1, 8, 9, 10, 6, 11, 12, 13, 14, 15, 16, 17, 18] (by decide +kernel) (by decide +kernel)
set_option maxRecDepth 20000 in
theorem gX3_counts_X3_gain : GoodIn wsX3_counts (wsV RX3 33 RX3 yX3_gain wsX3_gain) := goodIn_app (goodIn_of _ (by decide +kernel)) ggX3_counts_X3_gain
theorem dX3_counts_0 : decode cX3_counts 0 = .ok (.aload_n 0, 1) := by decide +kernel
theorem dX3_counts_1 : decode cX3_counts 1 = .ok (.getfield 18, 3) := by decide +kernel
theorem dX3_counts_4 : decode cX3_counts 4 = .ok (.iload_n 1, 1) := by decide +kernel
theorem dX3_counts_5 : decode cX3_counts 5 = .ok (.aaload, 1) := by decide +kernel
theorem dX3_counts_6 : decode cX3_counts 6 = .ok (.iconst 4, 1) := by decide +kernel
theorem dX3_counts_7 : decode cX3_counts 7 = .ok (.iaload, 1) := by decide +kernel
theorem dX3_counts_8 : decode cX3_counts 8 = .ok (.ifCond .ne 31, 3) := by decide +kernel
theorem dX3_counts_11 : decode cX3_counts 11 = .ok (.aload_n 0, 1) := by decide +kernel
theorem dX3_counts_12 : decode cX3_counts 12 = .ok (.getfield 13, 3) := by decide +kernel
theorem dX3_counts_15 : decode cX3_counts 15 = .ok (.aload_n 0, 1) := by decide +kernel
theorem dX3_counts_16 : decode cX3_counts 16 = .ok (.getfield 18, 3) := by decide +kernel
theorem dX3_counts_19 : decode cX3_counts 19 = .ok (.iload_n 1, 1) := by decide +kernel
theorem dX3_counts_20 : decode cX3_counts 20 = .ok (.aaload, 1) := by decide +kernel
theorem dX3_counts_21 : decode cX3_counts 21 = .ok (.iconst 0, 1) := by decide +kernel
theorem dX3_counts_22 : decode cX3_counts 22 = .ok (.iaload, 1) := by decide +kernel
theorem dX3_counts_23 : decode cX3_counts 23 = .ok (.baload, 1) := by decide +kernel
theorem dX3_counts_24 : decode cX3_counts 24 = .ok (.ifCond .eq 15, 3) := by decide +kernel
theorem dX3_counts_27 : decode cX3_counts 27 = .ok (.aload_n 0, 1) := by decide +kernel
theorem dX3_counts_28 : decode cX3_counts 28 = .ok (.iload_n 1, 1) := by decide +kernel
theorem dX3_counts_29 : decode cX3_counts 29 = .ok (.invokevirtual 33, 3) := by decide +kernel
theorem dX3_counts_32 : decode cX3_counts 32 = .ok (.ifCond .lt 7, 3) := by decide +kernel
theorem dX3_counts_35 : decode cX3_counts 35 = .ok (.iconst 1, 1) := by decide +kernel
theorem dX3_counts_36 : decode cX3_counts 36 = .ok (.goto 4, 3) := by decide +kernel
theorem dX3_counts_39 : decode cX3_counts 39 = .ok (.iconst 0, 1) := by decide +kernel
theorem dX3_counts_40 : decode cX3_counts 40 = .ok (.ireturn, 1) := by decide +kernel
set_option maxRecDepth 20000 in
theorem ggX3_choose_X3_choose : GoodIn wsX3_choose wsX3_choose := goodIn_r _ [0, 1, 2, 3, 4, 5, 6, 7, 8, 9, 10, 11, 12, 13, 14, 15, 16, 17, 18, 19, 20, 21, 22, 23, 24, 25, 26, 27, 28] (by decide +kernel) (by decide +kernel)
set_option maxRecDepth 20000 in
theorem gX3_choose_X3_choose : GoodIn wsX3_choose (wsV RX3 46 RX3 yX3_choose wsX3_choose) := goodIn_app (goodIn_of _ (by decide +kernel)) ggX3_choose_X3_choose
set_option maxRecDepth 20000 in
theorem ggX3_choose_X3_counts : GoodIn wsX3_choose wsX3_counts := goodIn_r _ [13, 5, 1, 14, 15, 16, 9, 17, 18, 19, 20, 21, 22, 23, 24, 25, 26, 27, 28] (by decide +kernel) (by decide +kernel)
set_option maxRecDepth 20000 in
theorem gX3_choose_X3_counts : GoodIn wsX3_choose (wsV RX3 50 RX3 yX3_counts wsX3_counts) := goodIn_app (goodIn_of _ (by decide +kernel)) ggX3_choose_X3_counts
set_option maxRecDepth 20000 in
theorem ggX3_choose_X3_gain : GoodIn wsX3_choose wsX3_gain := goodIn_r _ [17, 5, 18, 19, 20, 9, 21, 22, 23, 24, 25, 26, 27, 28] (by decide +kernel) (by decide +kernel)
set_option maxRecDepth 20000 in
theorem gX3_choose_X3_gain : GoodIn wsX3_choose (wsV RX3 33 RX3 yX3_gain wsX3_gain) := goodIn_app (goodIn_of _ (by decide +kernel)) ggX3_choose_X3_gain
theorem dX3_choose_0 : decode cX3_choose 0 = .ok (.iload_n 1, 1) := by decide +kernel
theorem dX3_choose_1 : decode cX3_choose 1 = .ok (.aload_n 0, 1) := by decide +kernel
theorem dX3_choose_2 : decode cX3_choose 2 = .ok (.getfield 13, 3) := by decide +kernel
theorem dX3_choose_5 : decode cX3_choose 5 = .ok (.arraylength, 1) := by decide +kernel
theorem dX3_choose_6 : decode cX3_choose 6 = .ok (.if_icmp .ne 68, 3) := by decide +kernel
theorem dX3_choose_9 : decode cX3_choose 9 = .ok (.iload 4, 2) := by decide +kernel
theorem dX3_choose_11 : decode cX3_choose 11 = .ok (.aload_n 0, 1) := by decide +kernel
theorem dX3_choose_12 : decode cX3_choose 12 = .ok (.getfield 36, 3) := by decide +kernel
theorem dX3_choose_15 : decode cX3_choose 15 = .ok (.if_icmp .lt 39, 3) := by decide +kernel
theorem dX3_choose_18 : decode cX3_choose 18 = .ok (.iload 4, 2) := by decide +kernel
theorem dX3_choose_20 : decode cX3_choose 20 = .ok (.aload_n 0, 1) := by decide +kernel
theorem dX3_choose_21 : decode cX3_choose 21 = .ok (.getfield 36, 3) := by decide +kernel
theorem dX3_choose_24 : decode cX3_choose 24 = .ok (.if_icmp .ne 31, 3) := by decide +kernel
theorem dX3_choose_27 : decode cX3_choose 27 = .ok (.iload 5, 2) := by decide +kernel
theorem dX3_choose_29 : decode cX3_choose 29 = .ok (.aload_n 0, 1) := by decide +kernel
theorem dX3_choose_30 : decode cX3_choose 30 = .ok (.getfield 40, 3) := by decide +kernel
theorem dX3_choose_33 : decode cX3_choose 33 = .ok (.if_icmp .lt 21, 3) := by decide +kernel
theorem dX3_choose_36 : decode cX3_choose 36 = .ok (.iload 5, 2) := by decide +kernel
theorem dX3_choose_38 : decode cX3_choose 38 = .ok (.aload_n 0, 1) := by decide +kernel
theorem dX3_choose_39 : decode cX3_choose 39 = .ok (.getfield 40, 3) := by decide +kernel
theorem dX3_choose_42 : decode cX3_choose 42 = .ok (.if_icmp .ne 13, 3) := by decide +kernel
theorem dX3_choose_45 : decode cX3_choose 45 = .ok (.iload 6, 2) := by decide +kernel
theorem dX3_choose_47 : decode cX3_choose 47 = .ok (.aload_n 0, 1) := by decide +kernel
theorem dX3_choose_48 : decode cX3_choose 48 = .ok (.getfield 43, 3) := by decide +kernel
theorem dX3_choose_51 : decode cX3_choose 51 = .ok (.if_icmp .le 4, 3) := by decide +kernel
theorem dX3_choose_54 : decode cX3_choose 54 = .ok (.return_, 1) := by decide +kernel
theorem dX3_choose_55 : decode cX3_choose 55 = .ok (.aload_n 0, 1) := by decide +kernel
theorem dX3_choose_56 : decode cX3_choose 56 = .ok (.iload 4, 2) := by decide +kernel
theorem dX3_choose_58 : decode cX3_choose 58 = .ok (.putfield 36, 3) := by decide +kernel
theorem dX3_choose_61 : decode cX3_choose 61 = .ok (.aload_n 0, 1) := by decide +kernel
theorem dX3_choose_62 : decode cX3_choose 62 = .ok (.iload 5, 2) := by decide +kernel
theorem dX3_choose_64 : decode cX3_choose 64 = .ok (.putfield 40, 3) := by decide +kernel
theorem dX3_choose_67 : decode cX3_choose 67 = .ok (.aload_n 0, 1) := by decide +kernel
theorem dX3_choose_68 : decode cX3_choose 68 = .ok (.iload 6, 2) := by decide +kernel
theorem dX3_choose_70 : decode cX3_choose 70 = .ok (.putfield 43, 3) := by decide +kernel
theorem dX3_choose_73 : decode cX3_choose 73 = .ok (.return_, 1) := by decide +kernel
theorem dX3_choose_74 : decode cX3_choose 74 = .ok (.aload_n 0, 1) := by decide +kernel
theorem dX3_choose_75 : decode cX3_choose 75 = .ok (.iload_n 1, 1) := by decide +kernel
theorem dX3_choose_76 : decode cX3_choose 76 = .ok (.iconst 1, 1) := by decide +kernel
theorem dX3_choose_77 : decode cX3_choose 77 = .ok (.iadd, 1) := by decide +kernel
theorem dX3_choose_78 : decode cX3_choose 78 = .ok (.iload_n 2, 1) := by decide +kernel
theorem dX3_choose_79 : decode cX3_choose 79 = .ok (.iload_n 3, 1) := by decide +kernel
theorem dX3_choose_80 : decode cX3_choose 80 = .ok (.iload 4, 2) := by decide +kernel
theorem dX3_choose_82 : decode cX3_choose 82 = .ok (.iload 5, 2) := by decide +kernel
theorem dX3_choose_84 : decode cX3_choose 84 = .ok (.iload 6, 2) := by decide +kernel
theorem dX3_choose_86 : decode cX3_choose 86 = .ok (.invokevirtual 46, 3) := by decide +kernel
theorem dX3_choose_89 : decode cX3_choose 89 = .ok (.iconst 0, 1) := by decide +kernel
theorem dX3_choose_90 : decode cX3_choose 90 = .ok (.istore 7, 2) := by decide +kernel
theorem dX3_choose_92 : decode cX3_choose 92 = .ok (.iload 7, 2) := by decide +kernel
theorem dX3_choose_94 : decode cX3_choose 94 = .ok (.aload_n 0, 1) := by decide +kernel
theorem dX3_choose_95 : decode cX3_choose 95 = .ok (.getfield 18, 3) := by decide +kernel
theorem dX3_choose_98 : decode cX3_choose 98 = .ok (.arraylength, 1) := by decide +kernel
theorem dX3_choose_99 : decode cX3_choose 99 = .ok (.if_icmp .ge 89, 3) := by decide +kernel
theorem dX3_choose_102 : decode cX3_choose 102 = .ok (.iload_n 1, 1) := by decide +kernel
theorem dX3_choose_103 : decode cX3_choose 103 = .ok (.iload_n 2, 1) := by decide +kernel
theorem dX3_choose_104 : decode cX3_choose 104 = .ok (.if_icmp .eq 84, 3) := by decide +kernel
theorem dX3_choose_107 : decode cX3_choose 107 = .ok (.aload_n 0, 1) := by decide +kernel
theorem dX3_choose_108 : decode cX3_choose 108 = .ok (.getfield 18, 3) := by decide +kernel
theorem dX3_choose_111 : decode cX3_choose 111 = .ok (.iload 7, 2) := by decide +kernel
theorem dX3_choose_113 : decode cX3_choose 113 = .ok (.aaload, 1) := by decide +kernel
theorem dX3_choose_114 : decode cX3_choose 114 = .ok (.iconst 0, 1) := by decide +kernel
theorem dX3_choose_115 : decode cX3_choose 115 = .ok (.iaload, 1) := by decide +kernel
theorem dX3_choose_116 : decode cX3_choose 116 = .ok (.iload_n 1, 1) := by decide +kernel
theorem dX3_choose_117 : decode cX3_choose 117 = .ok (.if_icmp .ne 65, 3) := by decide +kernel
theorem dX3_choose_120 : decode cX3_choose 120 = .ok (.aload_n 0, 1) := by decide +kernel
theorem dX3_choose_121 : decode cX3_choose 121 = .ok (.iload 7, 2) := by decide +kernel
theorem dX3_choose_123 : decode cX3_choose 123 = .ok (.invokevirtual 50, 3) := by decide +kernel
theorem dX3_choose_126 : decode cX3_choose 126 = .ok (.ifCond .eq 56, 3) := by decide +kernel
theorem dX3_choose_129 : decode cX3_choose 129 = .ok (.aload_n 0, 1) := by decide +kernel
theorem dX3_choose_130 : decode cX3_choose 130 = .ok (.getfield 18, 3) := by decide +kernel
theorem dX3_choose_133 : decode cX3_choose 133 = .ok (.iload 7, 2) := by decide +kernel
theorem dX3_choose_135 : decode cX3_choose 135 = .ok (.aaload, 1) := by decide +kernel
theorem dX3_choose_136 : decode cX3_choose 136 = .ok (.iconst 1, 1) := by decide +kernel
theorem dX3_choose_137 : decode cX3_choose 137 = .ok (.iaload, 1) := by decide +kernel
theorem dX3_choose_138 : decode cX3_choose 138 = .ok (.iload_n 3, 1) := by decide +kernel
theorem dX3_choose_139 : decode cX3_choose 139 = .ok (.iand, 1) := by decide +kernel
theorem dX3_choose_140 : decode cX3_choose 140 = .ok (.ifCond .ne 42, 3) := by decide +kernel
theorem dX3_choose_143 : decode cX3_choose 143 = .ok (.aload_n 0, 1) := by decide +kernel
theorem dX3_choose_144 : decode cX3_choose 144 = .ok (.iload_n 1, 1) := by decide +kernel
theorem dX3_choose_145 : decode cX3_choose 145 = .ok (.iconst 1, 1) := by decide +kernel
theorem dX3_choose_146 : decode cX3_choose 146 = .ok (.iadd, 1) := by decide +kernel
theorem dX3_choose_147 : decode cX3_choose 147 = .ok (.iload_n 2, 1) := by decide +kernel
theorem dX3_choose_148 : decode cX3_choose 148 = .ok (.iload_n 3, 1) := by decide +kernel
theorem dX3_choose_149 : decode cX3_choose 149 = .ok (.aload_n 0, 1) := by decide +kernel
theorem dX3_choose_150 : decode cX3_choose 150 = .ok (.getfield 18, 3) := by decide +kernel
theorem dX3_choose_153 : decode cX3_choose 153 = .ok (.iload 7, 2) := by decide +kernel
theorem dX3_choose_155 : decode cX3_choose 155 = .ok (.aaload, 1) := by decide +kernel
theorem dX3_choose_156 : decode cX3_choose 156 = .ok (.iconst 1, 1) := by decide +kernel
theorem dX3_choose_157 : decode cX3_choose 157 = .ok (.iaload, 1) := by decide +kernel
theorem dX3_choose_158 : decode cX3_choose 158 = .ok (.ior, 1) := by decide +kernel
theorem dX3_choose_159 : decode cX3_choose 159 = .ok (.iload 4, 2) := by decide +kernel
theorem dX3_choose_161 : decode cX3_choose 161 = .ok (.aload_n 0, 1) := by decide +kernel
theorem dX3_choose_162 : decode cX3_choose 162 = .ok (.iload 7, 2) := by decide +kernel
theorem dX3_choose_164 : decode cX3_choose 164 = .ok (.invokevirtual 33, 3) := by decide +kernel
theorem dX3_choose_167 : decode cX3_choose 167 = .ok (.iadd, 1) := by decide +kernel
theorem dX3_choose_168 : decode cX3_choose 168 = .ok (.iload 5, 2) := by decide +kernel
theorem dX3_choose_170 : decode cX3_choose 170 = .ok (.iconst 1, 1) := by decide +kernel
theorem dX3_choose_171 : decode cX3_choose 171 = .ok (.iadd, 1) := by decide +kernel
theorem dX3_choose_172 : decode cX3_choose 172 = .ok (.iload 6, 2) := by decide +kernel
theorem dX3_choose_174 : decode cX3_choose 174 = .ok (.iconst 1, 1) := by decide +kernel
theorem dX3_choose_175 : decode cX3_choose 175 = .ok (.iload 7, 2) := by decide +kernel
theorem dX3_choose_177 : decode cX3_choose 177 = .ok (.ishl, 1) := by decide +kernel
theorem dX3_choose_178 : decode cX3_choose 178 = .ok (.iadd, 1) := by decide +kernel
theorem dX3_choose_179 : decode cX3_choose 179 = .ok (.invokevirtual 46, 3) := by decide +kernel
theorem dX3_choose_182 : decode cX3_choose 182 = .ok (.iinc 7 1, 3) := by decide +kernel
theorem dX3_choose_185 : decode cX3_choose 185 = .ok (.goto (-93), 3) := by decide +kernel
theorem dX3_choose_188 : decode cX3_choose 188 = .ok (.return_, 1) := by decide +kernel
set_option maxRecDepth 20000 in
theorem ggX3_sale_X3_choose : GoodIn wsX3_sale wsX3_choose := goodIn_r _ [8, 9, 1, 2, 3, 10, 4, 5, 6, 7, 11, 12, 13, 14, 15, 16, 17, 18, 19, 20, 21, 22, 23, 24, 25, 26, 27, 28, 29] (by decide +kernel) (by decide +kernel)
set_option maxRecDepth 20000 in
theorem gX3_sale_X3_choose : GoodIn wsX3_sale (wsV RX3 46 RX3 yX3_choose wsX3_choose) := goodIn_app (goodIn_of _ (by decide +kernel)) ggX3_sale_X3_choose
theorem dX3_sale_0 : decode cX3_sale 0 = .ok (.aload_n 0, 1) := by decide +kernel
theorem dX3_sale_1 : decode cX3_sale 1 = .ok (.iconst 0, 1) := by decide +kernel
theorem dX3_sale_2 : decode cX3_sale 2 = .ok (.putfield 36, 3) := by decide +kernel
theorem dX3_sale_5 : decode cX3_sale 5 = .ok (.aload_n 0, 1) := by decide +kernel
theorem dX3_sale_6 : decode cX3_sale 6 = .ok (.iconst 0, 1) := by decide +kernel
theorem dX3_sale_7 : decode cX3_sale 7 = .ok (.putfield 40, 3) := by decide +kernel
theorem dX3_sale_10 : decode cX3_sale 10 = .ok (.aload_n 0, 1) := by decide +kernel
theorem dX3_sale_11 : decode cX3_sale 11 = .ok (.iconst 0, 1) := by decide +kernel
theorem dX3_sale_12 : decode cX3_sale 12 = .ok (.putfield 43, 3) := by decide +kernel
theorem dX3_sale_15 : decode cX3_sale 15 = .ok (.aload_n 0, 1) := by decide +kernel
theorem dX3_sale_16 : decode cX3_sale 16 = .ok (.iconst 0, 1) := by decide +kernel
theorem dX3_sale_17 : decode cX3_sale 17 = .ok (.iload_n 1, 1) := by decide +kernel
theorem dX3_sale_18 : decode cX3_sale 18 = .ok (.iconst 0, 1) := by decide +kernel
theorem dX3_sale_19 : decode cX3_sale 19 = .ok (.iconst 0, 1) := by decide +kernel
theorem dX3_sale_20 : decode cX3_sale 20 = .ok (.iconst 0, 1) := by decide +kernel
theorem dX3_sale_21 : decode cX3_sale 21 = .ok (.iconst 0, 1) := by decide +kernel
theorem dX3_sale_22 : decode cX3_sale 22 = .ok (.invokevirtual 46, 3) := by decide +kernel
theorem dX3_sale_25 : decode cX3_sale 25 = .ok (.aload_n 0, 1) := by decide +kernel
theorem dX3_sale_26 : decode cX3_sale 26 = .ok (.getfield 43, 3) := by decide +kernel
theorem dX3_sale_29 : decode cX3_sale 29 = .ok (.ireturn, 1) := by decide +kernel
set_option maxRecDepth 20000 in
theorem ggX3_won_X3_sale : GoodIn wsX3_won wsX3_sale := goodIn_r _ [6, 7, 8, 9, 10, 11, 12, 5, 13, 14, 1, 15, 16, 17, 18, 19, 20, 21, 22, 23, 24, 25, 26, 27, 28, 29, 30, 31, 32, 33] (by decide +kernel) (by decide +kernel)
set_option maxRecDepth 20000 in
theorem gX3_won_X3_sale : GoodIn wsX3_won (wsV RX3 54 RX3 yX3_sale wsX3_sale) := goodIn_app (goodIn_of _ (by decide +kernel)) ggX3_won_X3_sale
theorem dX3_won_0 : decode cX3_won 0 = .ok (.aload_n 0, 1) := by decide +kernel
theorem dX3_won_1 : decode cX3_won 1 = .ok (.iconst (-1), 1) := by decide +kernel
theorem dX3_won_2 : decode cX3_won 2 = .ok (.invokevirtual 54, 3) := by decide +kernel
theorem dX3_won_5 : decode cX3_won 5 = .ok (.istore_n 2, 1) := by decide +kernel
theorem dX3_won_6 : decode cX3_won 6 = .ok (.iconst 0, 1) := by decide +kernel
theorem dX3_won_7 : decode cX3_won 7 = .ok (.istore_n 3, 1) := by decide +kernel
theorem dX3_won_8 : decode cX3_won 8 = .ok (.iload_n 3, 1) := by decide +kernel
theorem dX3_won_9 : decode cX3_won 9 = .ok (.aload_n 0, 1) := by decide +kernel
theorem dX3_won_10 : decode cX3_won 10 = .ok (.getfield 18, 3) := by decide +kernel
theorem dX3_won_13 : decode cX3_won 13 = .ok (.arraylength, 1) := by decide +kernel
theorem dX3_won_14 : decode cX3_won 14 = .ok (.if_icmp .ge 32, 3) := by decide +kernel
theorem dX3_won_17 : decode cX3_won 17 = .ok (.iload_n 2, 1) := by decide +kernel
theorem dX3_won_18 : decode cX3_won 18 = .ok (.iload_n 3, 1) := by decide +kernel
theorem dX3_won_19 : decode cX3_won 19 = .ok (.ishr, 1) := by decide +kernel
theorem dX3_won_20 : decode cX3_won 20 = .ok (.iconst 2, 1) := by decide +kernel
theorem dX3_won_21 : decode cX3_won 21 = .ok (.irem, 1) := by decide +kernel
theorem dX3_won_22 : decode cX3_won 22 = .ok (.iconst 1, 1) := by decide +kernel
theorem dX3_won_23 : decode cX3_won 23 = .ok (.if_icmp .ne 17, 3) := by decide +kernel
theorem dX3_won_26 : decode cX3_won 26 = .ok (.aload_n 0, 1) := by decide +kernel
theorem dX3_won_27 : decode cX3_won 27 = .ok (.getfield 18, 3) := by decide +kernel
theorem dX3_won_30 : decode cX3_won 30 = .ok (.iload_n 3, 1) := by decide +kernel
theorem dX3_won_31 : decode cX3_won 31 = .ok (.aaload, 1) := by decide +kernel
theorem dX3_won_32 : decode cX3_won 32 = .ok (.iconst 0, 1) := by decide +kernel
theorem dX3_won_33 : decode cX3_won 33 = .ok (.iaload, 1) := by decide +kernel
theorem dX3_won_34 : decode cX3_won 34 = .ok (.iload_n 1, 1) := by decide +kernel
theorem dX3_won_35 : decode cX3_won 35 = .ok (.if_icmp .ne 5, 3) := by decide +kernel
theorem dX3_won_38 : decode cX3_won 38 = .ok (.iload_n 3, 1) := by decide +kernel
theorem dX3_won_39 : decode cX3_won 39 = .ok (.ireturn, 1) := by decide +kernel
theorem dX3_won_40 : decode cX3_won 40 = .ok (.iinc 3 1, 3) := by decide +kernel
theorem dX3_won_43 : decode cX3_won 43 = .ok (.goto (-35), 3) := by decide +kernel
theorem dX3_won_46 : decode cX3_won 46 = .ok (.iconst (-1), 1) := by decide +kernel
theorem dX3_won_47 : decode cX3_won 47 = .ok (.ireturn, 1) := by decide +kernel
set_option maxRecDepth 20000 in
theorem ggX3_pays_X3_won : GoodIn wsX3_pays wsX3_won := goodIn_r _ [7, 2, 8, 9, 10, 6, 11, 1, 12, 13, 14, 15, 16, 17, 18, 19, 20, 21, 22, 23, 24, 25, 26, 27, 28, 29, 30, 31, 32, 33, 34, 35, 36, 37] (by decide +kernel) (by decide +kernel)
set_option maxRecDepth 20000 in
theorem gX3_pays_X3_won : GoodIn wsX3_pays (wsV RX3 57 RX3 yX3_won wsX3_won) := goodIn_app (goodIn_of _ (by decide +kernel)) ggX3_pays_X3_won
set_option maxRecDepth 20000 in
theorem ggX3_pays_X3_gain : GoodIn wsX3_pays wsX3_gain := goodIn_r _ [26, 2, 27, 28, 29, 6, 30, 31, 32, 33, 34, 35, 36, 37] (by decide +kernel) (by decide +kernel)
set_option maxRecDepth 20000 in
theorem gX3_pays_X3_gain : GoodIn wsX3_pays (wsV RX3 33 RX3 yX3_gain wsX3_gain) := goodIn_app (goodIn_of _ (by decide +kernel)) ggX3_pays_X3_gain
set_option maxRecDepth 20000 in
theorem ggX3_pays_X3_sale : GoodIn wsX3_pays wsX3_sale := goodIn_r _ [11, 1, 12, 13, 14, 15, 16, 6, 17, 18, 2, 19, 20, 21, 22, 23, 24, 25, 26, 27, 28, 29, 30, 31, 32, 33, 34, 35, 36, 37] (by decide +kernel) (by decide +kernel)
set_option maxRecDepth 20000 in
theorem gX3_pays_X3_sale : GoodIn wsX3_pays (wsV RX3 54 RX3 yX3_sale wsX3_sale) := goodIn_app (goodIn_of _ (by decide +kernel)) ggX3_pays_X3_sale
set_option maxRecDepth 20000 in
theorem ggX3_pays_X3_reserve : GoodIn wsX3_pays wsX3_reserve := goodIn_r _ [30, 31, 32, 33, 34, 35, 36, 37] (by decide +kernel) (by decide +kernel)
set_option maxRecDepth 20000 in
theorem gX3_pays_X3_reserve : GoodIn wsX3_pays (wsV RX3 29 RX3 yX3_reserve wsX3_reserve) := goodIn_app (goodIn_of _ (by decide +kernel)) ggX3_pays_X3_reserve
theorem dX3_pays_0 : decode cX3_pays 0 = .ok (.aload_n 0, 1) := by decide +kernel
theorem dX3_pays_1 : decode cX3_pays 1 = .ok (.iload_n 1, 1) := by decide +kernel
theorem dX3_pays_2 : decode cX3_pays 2 = .ok (.invokevirtual 57, 3) := by decide +kernel
theorem dX3_pays_5 : decode cX3_pays 5 = .ok (.istore_n 2, 1) := by decide +kernel
theorem dX3_pays_6 : decode cX3_pays 6 = .ok (.iload_n 2, 1) := by decide +kernel
theorem dX3_pays_7 : decode cX3_pays 7 = .ok (.ifCond .ge 5, 3) := by decide +kernel
theorem dX3_pays_10 : decode cX3_pays 10 = .ok (.iconst 0, 1) := by decide +kernel
theorem dX3_pays_11 : decode cX3_pays 11 = .ok (.ireturn, 1) := by decide +kernel
theorem dX3_pays_12 : decode cX3_pays 12 = .ok (.aload_n 0, 1) := by decide +kernel
theorem dX3_pays_13 : decode cX3_pays 13 = .ok (.getfield 36, 3) := by decide +kernel
theorem dX3_pays_16 : decode cX3_pays 16 = .ok (.aload_n 0, 1) := by decide +kernel
theorem dX3_pays_17 : decode cX3_pays 17 = .ok (.iload_n 2, 1) := by decide +kernel
theorem dX3_pays_18 : decode cX3_pays 18 = .ok (.invokevirtual 33, 3) := by decide +kernel
theorem dX3_pays_21 : decode cX3_pays 21 = .ok (.isub, 1) := by decide +kernel
theorem dX3_pays_22 : decode cX3_pays 22 = .ok (.istore_n 3, 1) := by decide +kernel
theorem dX3_pays_23 : decode cX3_pays 23 = .ok (.aload_n 0, 1) := by decide +kernel
theorem dX3_pays_24 : decode cX3_pays 24 = .ok (.iload_n 1, 1) := by decide +kernel
theorem dX3_pays_25 : decode cX3_pays 25 = .ok (.invokevirtual 54, 3) := by decide +kernel
theorem dX3_pays_28 : decode cX3_pays 28 = .ok (.pop, 1) := by decide +kernel
theorem dX3_pays_29 : decode cX3_pays 29 = .ok (.aload_n 0, 1) := by decide +kernel
theorem dX3_pays_30 : decode cX3_pays 30 = .ok (.aload_n 0, 1) := by decide +kernel
theorem dX3_pays_31 : decode cX3_pays 31 = .ok (.getfield 18, 3) := by decide +kernel
theorem dX3_pays_34 : decode cX3_pays 34 = .ok (.iload_n 2, 1) := by decide +kernel
theorem dX3_pays_35 : decode cX3_pays 35 = .ok (.aaload, 1) := by decide +kernel
theorem dX3_pays_36 : decode cX3_pays 36 = .ok (.iconst 1, 1) := by decide +kernel
theorem dX3_pays_37 : decode cX3_pays 37 = .ok (.iaload, 1) := by decide +kernel
theorem dX3_pays_38 : decode cX3_pays 38 = .ok (.invokevirtual 29, 3) := by decide +kernel
theorem dX3_pays_41 : decode cX3_pays 41 = .ok (.aload_n 0, 1) := by decide +kernel
theorem dX3_pays_42 : decode cX3_pays 42 = .ok (.getfield 36, 3) := by decide +kernel
theorem dX3_pays_45 : decode cX3_pays 45 = .ok (.iadd, 1) := by decide +kernel
theorem dX3_pays_46 : decode cX3_pays 46 = .ok (.iload_n 3, 1) := by decide +kernel
theorem dX3_pays_47 : decode cX3_pays 47 = .ok (.isub, 1) := by decide +kernel
theorem dX3_pays_48 : decode cX3_pays 48 = .ok (.ireturn, 1) := by decide +kernel
set_option maxRecDepth 20000 in
theorem ggX3_profit_X3_won : GoodIn wsX3_profit wsX3_won := goodIn_r _ [6, 1, 7, 8, 9, 5, 10, 11, 12, 13, 14, 15, 16, 17, 18, 19, 20, 21, 22, 23, 24, 25, 26, 27, 28, 29, 30, 31, 36, 37, 38, 39, 40, 41] (by decide +kernel) (by decide +kernel)
set_option maxRecDepth 20000 in
theorem gX3_profit_X3_won : GoodIn wsX3_profit (wsV RX3 57 RX3 yX3_won wsX3_won) := goodIn_app (goodIn_of _ (by decide +kernel)) ggX3_profit_X3_won
set_option maxRecDepth 20000 in
theorem ggX3_profit_X3_pays : GoodIn wsX3_profit wsX3_pays := goodIn_r _ [35, 11, 1, 2, 3, 4, 5, 6, 7, 8, 9, 10, 12, 13, 14, 15, 16, 17, 18, 19, 20, 21, 22, 23, 24, 25, 26, 27, 28, 29, 30, 31, 36, 37, 38, 39, 40, 41] (by decide +kernel) (by decide +kernel)
set_option maxRecDepth 20000 in
theorem gX3_profit_X3_pays : GoodIn wsX3_profit (wsV RX3 60 RX3 yX3_pays wsX3_pays) := goodIn_app (goodIn_of _ (by decide +kernel)) ggX3_profit_X3_pays
theorem dX3_profit_0 : decode cX3_profit 0 = .ok (.aload_n 0, 1) := by decide +kernel
theorem dX3_profit_1 : decode cX3_profit 1 = .ok (.iload_n 1, 1) := by decide +kernel
theorem dX3_profit_2 : decode cX3_profit 2 = .ok (.invokevirtual 57, 3) := by decide +kernel
theorem dX3_profit_5 : decode cX3_profit 5 = .ok (.ifCond .ge 7, 3) := by decide +kernel
theorem dX3_profit_8 : decode cX3_profit 8 = .ok (.iconst 0, 1) := by decide +kernel
theorem dX3_profit_9 : decode cX3_profit 9 = .ok (.goto 21, 3) := by decide +kernel
theorem dX3_profit_12 : decode cX3_profit 12 = .ok (.aload_n 0, 1) := by decide +kernel
theorem dX3_profit_13 : decode cX3_profit 13 = .ok (.getfield 18, 3) := by decide +kernel
theorem dX3_profit_16 : decode cX3_profit 16 = .ok (.aload_n 0, 1) := by decide +kernel
theorem dX3_profit_17 : decode cX3_profit 17 = .ok (.iload_n 1, 1) := by decide +kernel
theorem dX3_profit_18 : decode cX3_profit 18 = .ok (.invokevirtual 57, 3) := by decide +kernel
theorem dX3_profit_21 : decode cX3_profit 21 = .ok (.aaload, 1) := by decide +kernel
theorem dX3_profit_22 : decode cX3_profit 22 = .ok (.iconst 3, 1) := by decide +kernel
theorem dX3_profit_23 : decode cX3_profit 23 = .ok (.iaload, 1) := by decide +kernel
theorem dX3_profit_24 : decode cX3_profit 24 = .ok (.aload_n 0, 1) := by decide +kernel
theorem dX3_profit_25 : decode cX3_profit 25 = .ok (.iload_n 1, 1) := by decide +kernel
theorem dX3_profit_26 : decode cX3_profit 26 = .ok (.invokevirtual 60, 3) := by decide +kernel
theorem dX3_profit_29 : decode cX3_profit 29 = .ok (.isub, 1) := by decide +kernel
theorem dX3_profit_30 : decode cX3_profit 30 = .ok (.ireturn, 1) := by decide +kernel
set_option maxRecDepth 20000 in
theorem ggX3_alone_X3_counts : GoodIn wsX3_alone wsX3_counts := goodIn_r _ [8, 1, 9, 10, 11, 12, 7, 13, 14, 15, 16, 17, 3, 18, 19, 20, 21, 22, 23] (by decide +kernel) (by decide +kernel)
set_option maxRecDepth 20000 in
theorem gX3_alone_X3_counts : GoodIn wsX3_alone (wsV RX3 50 RX3 yX3_counts wsX3_counts) := goodIn_app (goodIn_of _ (by decide +kernel)) ggX3_alone_X3_counts
theorem dX3_alone_0 : decode cX3_alone 0 = .ok (.iconst (-1), 1) := by decide +kernel
theorem dX3_alone_1 : decode cX3_alone 1 = .ok (.istore_n 2, 1) := by decide +kernel
theorem dX3_alone_2 : decode cX3_alone 2 = .ok (.aload_n 0, 1) := by decide +kernel
theorem dX3_alone_3 : decode cX3_alone 3 = .ok (.getfield 18, 3) := by decide +kernel
theorem dX3_alone_6 : decode cX3_alone 6 = .ok (.arraylength, 1) := by decide +kernel
theorem dX3_alone_7 : decode cX3_alone 7 = .ok (.iconst 1, 1) := by decide +kernel
theorem dX3_alone_8 : decode cX3_alone 8 = .ok (.isub, 1) := by decide +kernel
theorem dX3_alone_9 : decode cX3_alone 9 = .ok (.istore_n 3, 1) := by decide +kernel
theorem dX3_alone_10 : decode cX3_alone 10 = .ok (.iload_n 3, 1) := by decide +kernel
theorem dX3_alone_11 : decode cX3_alone 11 = .ok (.ifCond .lt 56, 3) := by decide +kernel
theorem dX3_alone_14 : decode cX3_alone 14 = .ok (.aload_n 0, 1) := by decide +kernel
theorem dX3_alone_15 : decode cX3_alone 15 = .ok (.iload_n 3, 1) := by decide +kernel
theorem dX3_alone_16 : decode cX3_alone 16 = .ok (.invokevirtual 50, 3) := by decide +kernel
theorem dX3_alone_19 : decode cX3_alone 19 = .ok (.ifCond .eq 42, 3) := by decide +kernel
theorem dX3_alone_22 : decode cX3_alone 22 = .ok (.aload_n 0, 1) := by decide +kernel
theorem dX3_alone_23 : decode cX3_alone 23 = .ok (.getfield 18, 3) := by decide +kernel
theorem dX3_alone_26 : decode cX3_alone 26 = .ok (.iload_n 3, 1) := by decide +kernel
theorem dX3_alone_27 : decode cX3_alone 27 = .ok (.aaload, 1) := by decide +kernel
theorem dX3_alone_28 : decode cX3_alone 28 = .ok (.iconst 1, 1) := by decide +kernel
theorem dX3_alone_29 : decode cX3_alone 29 = .ok (.iaload, 1) := by decide +kernel
theorem dX3_alone_30 : decode cX3_alone 30 = .ok (.iconst 1, 1) := by decide +kernel
theorem dX3_alone_31 : decode cX3_alone 31 = .ok (.iload_n 1, 1) := by decide +kernel
theorem dX3_alone_32 : decode cX3_alone 32 = .ok (.ishl, 1) := by decide +kernel
theorem dX3_alone_33 : decode cX3_alone 33 = .ok (.if_icmp .ne 28, 3) := by decide +kernel
theorem dX3_alone_36 : decode cX3_alone 36 = .ok (.iload_n 2, 1) := by decide +kernel
theorem dX3_alone_37 : decode cX3_alone 37 = .ok (.ifCond .lt 22, 3) := by decide +kernel
theorem dX3_alone_40 : decode cX3_alone 40 = .ok (.aload_n 0, 1) := by decide +kernel
theorem dX3_alone_41 : decode cX3_alone 41 = .ok (.getfield 18, 3) := by decide +kernel
theorem dX3_alone_44 : decode cX3_alone 44 = .ok (.iload_n 3, 1) := by decide +kernel
theorem dX3_alone_45 : decode cX3_alone 45 = .ok (.aaload, 1) := by decide +kernel
theorem dX3_alone_46 : decode cX3_alone 46 = .ok (.iconst 2, 1) := by decide +kernel
theorem dX3_alone_47 : decode cX3_alone 47 = .ok (.iaload, 1) := by decide +kernel
theorem dX3_alone_48 : decode cX3_alone 48 = .ok (.aload_n 0, 1) := by decide +kernel
theorem dX3_alone_49 : decode cX3_alone 49 = .ok (.getfield 18, 3) := by decide +kernel
theorem dX3_alone_52 : decode cX3_alone 52 = .ok (.iload_n 2, 1) := by decide +kernel
theorem dX3_alone_53 : decode cX3_alone 53 = .ok (.aaload, 1) := by decide +kernel
theorem dX3_alone_54 : decode cX3_alone 54 = .ok (.iconst 2, 1) := by decide +kernel
theorem dX3_alone_55 : decode cX3_alone 55 = .ok (.iaload, 1) := by decide +kernel
theorem dX3_alone_56 : decode cX3_alone 56 = .ok (.if_icmp .lt 5, 3) := by decide +kernel
theorem dX3_alone_59 : decode cX3_alone 59 = .ok (.iload_n 3, 1) := by decide +kernel
theorem dX3_alone_60 : decode cX3_alone 60 = .ok (.istore_n 2, 1) := by decide +kernel
theorem dX3_alone_61 : decode cX3_alone 61 = .ok (.iinc 3 (-1), 3) := by decide +kernel
theorem dX3_alone_64 : decode cX3_alone 64 = .ok (.goto (-54), 3) := by decide +kernel
theorem dX3_alone_67 : decode cX3_alone 67 = .ok (.iload_n 2, 1) := by decide +kernel
theorem dX3_alone_68 : decode cX3_alone 68 = .ok (.ifCond .ge 19, 3) := by decide +kernel
theorem dX3_alone_71 : decode cX3_alone 71 = .ok (.iconst 3, 1) := by decide +kernel
theorem dX3_alone_72 : decode cX3_alone 72 = .ok (.newarray .int, 2) := by decide +kernel
theorem dX3_alone_74 : decode cX3_alone 74 = .ok (.dup, 1) := by decide +kernel
theorem dX3_alone_75 : decode cX3_alone 75 = .ok (.iconst 0, 1) := by decide +kernel
theorem dX3_alone_76 : decode cX3_alone 76 = .ok (.iconst (-1), 1) := by decide +kernel
theorem dX3_alone_77 : decode cX3_alone 77 = .ok (.iastore, 1) := by decide +kernel
theorem dX3_alone_78 : decode cX3_alone 78 = .ok (.dup, 1) := by decide +kernel
theorem dX3_alone_79 : decode cX3_alone 79 = .ok (.iconst 1, 1) := by decide +kernel
theorem dX3_alone_80 : decode cX3_alone 80 = .ok (.iconst (-1), 1) := by decide +kernel
theorem dX3_alone_81 : decode cX3_alone 81 = .ok (.iastore, 1) := by decide +kernel
theorem dX3_alone_82 : decode cX3_alone 82 = .ok (.dup, 1) := by decide +kernel
theorem dX3_alone_83 : decode cX3_alone 83 = .ok (.iconst 2, 1) := by decide +kernel
theorem dX3_alone_84 : decode cX3_alone 84 = .ok (.iconst (-1), 1) := by decide +kernel
theorem dX3_alone_85 : decode cX3_alone 85 = .ok (.iastore, 1) := by decide +kernel
theorem dX3_alone_86 : decode cX3_alone 86 = .ok (.areturn, 1) := by decide +kernel
theorem dX3_alone_87 : decode cX3_alone 87 = .ok (.aload_n 0, 1) := by decide +kernel
theorem dX3_alone_88 : decode cX3_alone 88 = .ok (.getfield 7, 3) := by decide +kernel
theorem dX3_alone_91 : decode cX3_alone 91 = .ok (.iload_n 1, 1) := by decide +kernel
theorem dX3_alone_92 : decode cX3_alone 92 = .ok (.iaload, 1) := by decide +kernel
theorem dX3_alone_93 : decode cX3_alone 93 = .ok (.istore_n 3, 1) := by decide +kernel
theorem dX3_alone_94 : decode cX3_alone 94 = .ok (.iconst 0, 1) := by decide +kernel
theorem dX3_alone_95 : decode cX3_alone 95 = .ok (.istore 4, 2) := by decide +kernel
theorem dX3_alone_97 : decode cX3_alone 97 = .ok (.iload 4, 2) := by decide +kernel
theorem dX3_alone_99 : decode cX3_alone 99 = .ok (.aload_n 0, 1) := by decide +kernel
theorem dX3_alone_100 : decode cX3_alone 100 = .ok (.getfield 18, 3) := by decide +kernel
theorem dX3_alone_103 : decode cX3_alone 103 = .ok (.arraylength, 1) := by decide +kernel
theorem dX3_alone_104 : decode cX3_alone 104 = .ok (.if_icmp .ge 76, 3) := by decide +kernel
theorem dX3_alone_107 : decode cX3_alone 107 = .ok (.aload_n 0, 1) := by decide +kernel
theorem dX3_alone_108 : decode cX3_alone 108 = .ok (.iload 4, 2) := by decide +kernel
theorem dX3_alone_110 : decode cX3_alone 110 = .ok (.invokevirtual 50, 3) := by decide +kernel
theorem dX3_alone_113 : decode cX3_alone 113 = .ok (.ifCond .eq 61, 3) := by decide +kernel
theorem dX3_alone_116 : decode cX3_alone 116 = .ok (.aload_n 0, 1) := by decide +kernel
theorem dX3_alone_117 : decode cX3_alone 117 = .ok (.getfield 18, 3) := by decide +kernel
theorem dX3_alone_120 : decode cX3_alone 120 = .ok (.iload 4, 2) := by decide +kernel
theorem dX3_alone_122 : decode cX3_alone 122 = .ok (.aaload, 1) := by decide +kernel
theorem dX3_alone_123 : decode cX3_alone 123 = .ok (.iconst 1, 1) := by decide +kernel
theorem dX3_alone_124 : decode cX3_alone 124 = .ok (.iaload, 1) := by decide +kernel
theorem dX3_alone_125 : decode cX3_alone 125 = .ok (.iconst 1, 1) := by decide +kernel
theorem dX3_alone_126 : decode cX3_alone 126 = .ok (.iload_n 1, 1) := by decide +kernel
theorem dX3_alone_127 : decode cX3_alone 127 = .ok (.ishl, 1) := by decide +kernel
theorem dX3_alone_128 : decode cX3_alone 128 = .ok (.if_icmp .ne 46, 3) := by decide +kernel
theorem dX3_alone_131 : decode cX3_alone 131 = .ok (.aload_n 0, 1) := by decide +kernel
theorem dX3_alone_132 : decode cX3_alone 132 = .ok (.getfield 18, 3) := by decide +kernel
theorem dX3_alone_135 : decode cX3_alone 135 = .ok (.iload 4, 2) := by decide +kernel
theorem dX3_alone_137 : decode cX3_alone 137 = .ok (.aaload, 1) := by decide +kernel
theorem dX3_alone_138 : decode cX3_alone 138 = .ok (.iconst 0, 1) := by decide +kernel
theorem dX3_alone_139 : decode cX3_alone 139 = .ok (.iaload, 1) := by decide +kernel
theorem dX3_alone_140 : decode cX3_alone 140 = .ok (.aload_n 0, 1) := by decide +kernel
theorem dX3_alone_141 : decode cX3_alone 141 = .ok (.getfield 18, 3) := by decide +kernel
theorem dX3_alone_144 : decode cX3_alone 144 = .ok (.iload_n 2, 1) := by decide +kernel
theorem dX3_alone_145 : decode cX3_alone 145 = .ok (.aaload, 1) := by decide +kernel
theorem dX3_alone_146 : decode cX3_alone 146 = .ok (.iconst 0, 1) := by decide +kernel
theorem dX3_alone_147 : decode cX3_alone 147 = .ok (.iaload, 1) := by decide +kernel
theorem dX3_alone_148 : decode cX3_alone 148 = .ok (.if_icmp .eq 26, 3) := by decide +kernel
theorem dX3_alone_151 : decode cX3_alone 151 = .ok (.aload_n 0, 1) := by decide +kernel
theorem dX3_alone_152 : decode cX3_alone 152 = .ok (.getfield 18, 3) := by decide +kernel
theorem dX3_alone_155 : decode cX3_alone 155 = .ok (.iload 4, 2) := by decide +kernel
theorem dX3_alone_157 : decode cX3_alone 157 = .ok (.aaload, 1) := by decide +kernel
theorem dX3_alone_158 : decode cX3_alone 158 = .ok (.iconst 2, 1) := by decide +kernel
theorem dX3_alone_159 : decode cX3_alone 159 = .ok (.iaload, 1) := by decide +kernel
theorem dX3_alone_160 : decode cX3_alone 160 = .ok (.iload_n 3, 1) := by decide +kernel
theorem dX3_alone_161 : decode cX3_alone 161 = .ok (.if_icmp .le 13, 3) := by decide +kernel
theorem dX3_alone_164 : decode cX3_alone 164 = .ok (.aload_n 0, 1) := by decide +kernel
theorem dX3_alone_165 : decode cX3_alone 165 = .ok (.getfield 18, 3) := by decide +kernel
theorem dX3_alone_168 : decode cX3_alone 168 = .ok (.iload 4, 2) := by decide +kernel
theorem dX3_alone_170 : decode cX3_alone 170 = .ok (.aaload, 1) := by decide +kernel
theorem dX3_alone_171 : decode cX3_alone 171 = .ok (.iconst 2, 1) := by decide +kernel
theorem dX3_alone_172 : decode cX3_alone 172 = .ok (.iaload, 1) := by decide +kernel
theorem dX3_alone_173 : decode cX3_alone 173 = .ok (.istore_n 3, 1) := by decide +kernel
theorem dX3_alone_174 : decode cX3_alone 174 = .ok (.iinc 4 1, 3) := by decide +kernel
theorem dX3_alone_177 : decode cX3_alone 177 = .ok (.goto (-80), 3) := by decide +kernel
theorem dX3_alone_180 : decode cX3_alone 180 = .ok (.iconst 3, 1) := by decide +kernel
theorem dX3_alone_181 : decode cX3_alone 181 = .ok (.newarray .int, 2) := by decide +kernel
theorem dX3_alone_183 : decode cX3_alone 183 = .ok (.dup, 1) := by decide +kernel
theorem dX3_alone_184 : decode cX3_alone 184 = .ok (.iconst 0, 1) := by decide +kernel
theorem dX3_alone_185 : decode cX3_alone 185 = .ok (.iload_n 2, 1) := by decide +kernel
theorem dX3_alone_186 : decode cX3_alone 186 = .ok (.iastore, 1) := by decide +kernel
theorem dX3_alone_187 : decode cX3_alone 187 = .ok (.dup, 1) := by decide +kernel
theorem dX3_alone_188 : decode cX3_alone 188 = .ok (.iconst 1, 1) := by decide +kernel
theorem dX3_alone_189 : decode cX3_alone 189 = .ok (.aload_n 0, 1) := by decide +kernel
theorem dX3_alone_190 : decode cX3_alone 190 = .ok (.getfield 18, 3) := by decide +kernel
theorem dX3_alone_193 : decode cX3_alone 193 = .ok (.iload_n 2, 1) := by decide +kernel
theorem dX3_alone_194 : decode cX3_alone 194 = .ok (.aaload, 1) := by decide +kernel
theorem dX3_alone_195 : decode cX3_alone 195 = .ok (.iconst 0, 1) := by decide +kernel
theorem dX3_alone_196 : decode cX3_alone 196 = .ok (.iaload, 1) := by decide +kernel
theorem dX3_alone_197 : decode cX3_alone 197 = .ok (.iastore, 1) := by decide +kernel
theorem dX3_alone_198 : decode cX3_alone 198 = .ok (.dup, 1) := by decide +kernel
theorem dX3_alone_199 : decode cX3_alone 199 = .ok (.iconst 2, 1) := by decide +kernel
theorem dX3_alone_200 : decode cX3_alone 200 = .ok (.iload_n 3, 1) := by decide +kernel
theorem dX3_alone_201 : decode cX3_alone 201 = .ok (.iastore, 1) := by decide +kernel
theorem dX3_alone_202 : decode cX3_alone 202 = .ok (.areturn, 1) := by decide +kernel
set_option maxRecDepth 20000 in
theorem ggX3_isSame_X3_sale : GoodIn wsX3_isSame wsX3_sale := goodIn_r _ [11, 1, 2, 12, 13, 14, 15, 10, 16, 5, 3, 17, 18, 19, 20, 21, 22, 23, 24, 25, 26, 27, 28, 6, 166, 167, 168, 169, 170, 171] (by decide +kernel) (by decide +kernel)
set_option maxRecDepth 20000 in
theorem gX3_isSame_X3_sale : GoodIn wsX3_isSame (wsV RX3 54 RX3 yX3_sale wsX3_sale) := goodIn_app (goodIn_of _ (by decide +kernel)) ggX3_isSame_X3_sale
set_option maxRecDepth 20000 in
theorem ggX3_isSame_X3_gain : GoodIn wsX3_isSame wsX3_gain := goodIn_r _ [24, 3, 25, 26, 27, 10, 28, 6, 166, 167, 168, 169, 170, 171] (by decide +kernel) (by decide +kernel)
set_option maxRecDepth 20000 in
theorem gX3_isSame_X3_gain : GoodIn wsX3_isSame (wsV RX3 33 RX3 yX3_gain wsX3_gain) := goodIn_app (goodIn_of _ (by decide +kernel)) ggX3_isSame_X3_gain
set_option maxRecDepth 20000 in
theorem ggX3_isSame_X3_counts : GoodIn wsX3_isSame wsX3_counts := goodIn_r _ [20, 3, 5, 21, 22, 23, 10, 24, 25, 26, 27, 28, 6, 166, 167, 168, 169, 170, 171] (by decide +kernel) (by decide +kernel)
set_option maxRecDepth 20000 in
theorem gX3_isSame_X3_counts : GoodIn wsX3_isSame (wsV RX3 50 RX3 yX3_counts wsX3_counts) := goodIn_app (goodIn_of _ (by decide +kernel)) ggX3_isSame_X3_counts
set_option maxRecDepth 20000 in
theorem ggX3_isSame_X2_told : GoodIn wsX3_isSame wsX2_told := goodIn_ca (goodIn_r _ [33, 34, 35, 36, 37, 38, 39, 40, 41, 42, 43, 32, 44, 45, 46, 47, 48, 49, 50, 51, 52, 53, 54, 55, 56, 57, 58, 59, 60, 61, 62, 63, 172, 173, 174, 175, 176, 177, 178, 179, 180, 181, 182, 183, 184, 185, 186, 187, 188, 189, 190, 191] (by decide +kernel) (by decide +kernel)) (goodIn_sub (fun _ h => List.mem_cons_of_mem _ (List.mem_append_right _ h)) (by decide +kernel))
set_option maxRecDepth 20000 in
theorem gX3_isSame_X2_told : GoodIn wsX3_isSame (wsV RX3 63 RX2 yX2_told wsX2_told) := goodIn_app (goodIn_of _ (by decide +kernel)) ggX3_isSame_X2_told
set_option maxRecDepth 20000 in
theorem ggX3_isSame_X3_won : GoodIn wsX3_isSame wsX3_won := goodIn_r _ [67, 3, 7, 8, 9, 10, 11, 1, 2, 12, 13, 14, 15, 16, 5, 17, 18, 19, 20, 21, 22, 23, 24, 25, 26, 27, 28, 6, 166, 167, 168, 169, 170, 171] (by decide +kernel) (by decide +kernel)
set_option maxRecDepth 20000 in
theorem gX3_isSame_X3_won : GoodIn wsX3_isSame (wsV RX3 57 RX3 yX3_won wsX3_won) := goodIn_app (goodIn_of _ (by decide +kernel)) ggX3_isSame_X3_won
