theorem dX3_bidTold_33 : decode cX3_bidTold 33 = .ok (.ireturn, 1) := by decide +kernel
theorem dX3_bidTold_34 : decode cX3_bidTold 34 = .ok (.aload_n 0, 1) := by decide +kernel
theorem dX3_bidTold_35 : decode cX3_bidTold 35 = .ok (.iload_n 1, 1) := by decide +kernel
theorem dX3_bidTold_36 : decode cX3_bidTold 36 = .ok (.invokevirtual 62, 3) := by decide +kernel
theorem dX3_bidTold_39 : decode cX3_bidTold 39 = .ok (.ifCond .eq 7, 3) := by decide +kernel
theorem dX3_bidTold_42 : decode cX3_bidTold 42 = .ok (.iconst 1, 1) := by decide +kernel
theorem dX3_bidTold_43 : decode cX3_bidTold 43 = .ok (.goto 4, 3) := by decide +kernel
theorem dX3_bidTold_46 : decode cX3_bidTold 46 = .ok (.iconst 0, 1) := by decide +kernel
theorem dX3_bidTold_47 : decode cX3_bidTold 47 = .ok (.ireturn, 1) := by decide +kernel
theorem dX3_bidTold_48 : decode cX3_bidTold 48 = .ok (.aload_n 0, 1) := by decide +kernel
theorem dX3_bidTold_49 : decode cX3_bidTold 49 = .ok (.invokevirtual 66, 3) := by decide +kernel
theorem dX3_bidTold_52 : decode cX3_bidTold 52 = .ok (.iload_n 1, 1) := by decide +kernel
theorem dX3_bidTold_53 : decode cX3_bidTold 53 = .ok (.invokestatic 45, 3) := by decide +kernel
theorem dX3_bidTold_56 : decode cX3_bidTold 56 = .ok (.ireturn, 1) := by decide +kernel
theorem dX3_bidTold_57 : decode cX3_bidTold 57 = .ok (.aload_n 0, 1) := by decide +kernel
theorem dX3_bidTold_58 : decode cX3_bidTold 58 = .ok (.iload_n 1, 1) := by decide +kernel
theorem dX3_bidTold_59 : decode cX3_bidTold 59 = .ok (.iload_n 2, 1) := by decide +kernel
theorem dX3_bidTold_60 : decode cX3_bidTold 60 = .ok (.invokevirtual 49, 3) := by decide +kernel
theorem dX3_bidTold_63 : decode cX3_bidTold 63 = .ok (.ireturn, 1) := by decide +kernel
set_option maxRecDepth 20000 in
theorem ggX3_told_X3_isBid : GoodIn wsX3_told wsX3_isBid := goodIn_r _ [6, 7, 8, 9, 5, 10, 50, 51, 52, 53, 54, 55, 56, 57, 58, 59, 60] (by decide +kernel) (by decide +kernel)
set_option maxRecDepth 20000 in
theorem gX3_told_X3_isBid : GoodIn wsX3_told (wsV RX3 97 RX3 yX3_isBid wsX3_isBid) := goodIn_app (goodIn_of _ (by decide +kernel)) ggX3_told_X3_isBid
set_option maxRecDepth 20000 in
theorem ggX3_told_X3_isIn : GoodIn wsX3_told wsX3_isIn := goodIn_r _ [10] (by decide +kernel) (by decide +kernel)
set_option maxRecDepth 20000 in
theorem gX3_told_X3_isIn : GoodIn wsX3_told (va_wsS RX3 32 yX3_isIn wsX3_isIn) := goodIn_app (goodIn_of _ (by decide +kernel)) ggX3_told_X3_isIn
set_option maxRecDepth 20000 in
theorem ggX3_told_X3_bidTold : GoodIn wsX3_told wsX3_bidTold := goodIn_r _ [14, 15, 16, 17, 5, 18, 19, 20, 21, 22, 23, 24, 25, 26, 27, 28, 29, 30, 31, 32, 33, 34, 35, 36, 37, 38, 39, 40, 41, 42, 43, 7, 44, 45, 50, 51, 52, 53, 54, 55, 56, 57, 58, 59, 60] (by decide +kernel) (by decide +kernel)
set_option maxRecDepth 20000 in
theorem gX3_told_X3_bidTold : GoodIn wsX3_told (wsV RX3 104 RX3 yX3_bidTold wsX3_bidTold) := goodIn_app (goodIn_of _ (by decide +kernel)) ggX3_told_X3_bidTold
set_option maxRecDepth 20000 in
theorem ggX3_told_X3_fail : GoodIn wsX3_told wsX3_fail := goodIn_r _ [49, 1, 50, 51, 52, 53, 54, 55, 56, 57, 58, 59, 60] (by decide +kernel) (by decide +kernel)
set_option maxRecDepth 20000 in
theorem gX3_told_X3_fail : GoodIn wsX3_told (wsV RX3 79 RX3 yX3_fail wsX3_fail) := goodIn_app (goodIn_of _ (by decide +kernel)) ggX3_told_X3_fail
theorem dX3_told_0 : decode cX3_told 0 = .ok (.aload_n 0, 1) := by decide +kernel
theorem dX3_told_1 : decode cX3_told 1 = .ok (.iconst 0, 1) := by decide +kernel
theorem dX3_told_2 : decode cX3_told 2 = .ok (.putfield 28, 3) := by decide +kernel
theorem dX3_told_5 : decode cX3_told 5 = .ok (.aload_n 0, 1) := by decide +kernel
theorem dX3_told_6 : decode cX3_told 6 = .ok (.iload_n 1, 1) := by decide +kernel
theorem dX3_told_7 : decode cX3_told 7 = .ok (.invokevirtual 97, 3) := by decide +kernel
theorem dX3_told_10 : decode cX3_told 10 = .ok (.ifCond .eq 22, 3) := by decide +kernel
theorem dX3_told_13 : decode cX3_told 13 = .ok (.iload_n 2, 1) := by decide +kernel
theorem dX3_told_14 : decode cX3_told 14 = .ok (.iconst 0, 1) := by decide +kernel
theorem dX3_told_15 : decode cX3_told 15 = .ok (.bipush 7, 2) := by decide +kernel
theorem dX3_told_17 : decode cX3_told 17 = .ok (.invokestatic 32, 3) := by decide +kernel
theorem dX3_told_20 : decode cX3_told 20 = .ok (.ifCond .eq 12, 3) := by decide +kernel
theorem dX3_told_23 : decode cX3_told 23 = .ok (.aload_n 0, 1) := by decide +kernel
theorem dX3_told_24 : decode cX3_told 24 = .ok (.iload_n 1, 1) := by decide +kernel
theorem dX3_told_25 : decode cX3_told 25 = .ok (.iload_n 2, 1) := by decide +kernel
theorem dX3_told_26 : decode cX3_told 26 = .ok (.invokevirtual 104, 3) := by decide +kernel
theorem dX3_told_29 : decode cX3_told 29 = .ok (.goto 8, 3) := by decide +kernel
theorem dX3_told_32 : decode cX3_told 32 = .ok (.aload_n 0, 1) := by decide +kernel
theorem dX3_told_33 : decode cX3_told 33 = .ok (.iconst 1, 1) := by decide +kernel
theorem dX3_told_34 : decode cX3_told 34 = .ok (.invokevirtual 79, 3) := by decide +kernel
theorem dX3_told_37 : decode cX3_told 37 = .ok (.ireturn, 1) := by decide +kernel
set_option maxRecDepth 20000 in
theorem ggX3_bidderTold_X3_bit : GoodIn wsX3_bidderTold wsX3_bit := goodIn_r _ [6] (by decide +kernel) (by decide +kernel)
set_option maxRecDepth 20000 in
theorem gX3_bidderTold_X3_bit : GoodIn wsX3_bidderTold (va_wsS RX3 45 yX3_bit wsX3_bit) := goodIn_app (goodIn_of _ (by decide +kernel)) ggX3_bidderTold_X3_bit
set_option maxRecDepth 20000 in
theorem ggX3_bidderTold_X3_bi : GoodIn wsX3_bidderTold wsX3_bi := goodIn_r _ [10, 11, 50, 51, 52, 53, 54, 55, 56, 57, 58, 59, 60] (by decide +kernel) (by decide +kernel)
set_option maxRecDepth 20000 in
theorem gX3_bidderTold_X3_bi : GoodIn wsX3_bidderTold (wsV RX3 49 RX3 yX3_bi wsX3_bi) := goodIn_app (goodIn_of _ (by decide +kernel)) ggX3_bidderTold_X3_bi
set_option maxRecDepth 20000 in
theorem ggX3_bidderTold_X3_sale : GoodIn wsX3_bidderTold wsX3_sale := goodIn_r _ [15, 16, 17, 2, 18, 19, 20, 21, 22, 5, 23, 1, 7, 8, 9, 10, 11, 3, 4, 6, 24, 25, 26, 27, 28, 29, 30, 31, 32, 33, 50, 51, 52, 53, 54, 55, 56, 57, 58, 59, 60] (by decide +kernel) (by decide +kernel)
set_option maxRecDepth 20000 in
theorem gX3_bidderTold_X3_sale : GoodIn wsX3_bidderTold (wsV RX3 66 RX3 yX3_sale wsX3_sale) := goodIn_app (goodIn_of _ (by decide +kernel)) ggX3_bidderTold_X3_sale
set_option maxRecDepth 20000 in
theorem ggX3_bidderTold_X3_bidOf : GoodIn wsX3_bidderTold wsX3_bidOf := goodIn_r _ [37, 2, 3, 4, 5, 6, 7, 8, 9, 10, 11, 50, 51, 52, 53, 54, 55, 56, 57, 58, 59, 60] (by decide +kernel) (by decide +kernel)
set_option maxRecDepth 20000 in
theorem gX3_bidderTold_X3_bidOf : GoodIn wsX3_bidderTold (wsV RX3 70 RX3 yX3_bidOf wsX3_bidOf) := goodIn_app (goodIn_of _ (by decide +kernel)) ggX3_bidderTold_X3_bidOf
set_option maxRecDepth 20000 in
theorem ggX3_bidderTold_X3_paid : GoodIn wsX3_bidderTold wsX3_paid := goodIn_r _ [41, 16, 12, 13, 14, 5, 15, 17, 2, 18, 19, 20, 21, 22, 23, 1, 7, 8, 9, 10, 11, 3, 4, 6, 24, 25, 26, 27, 28, 29, 30, 31, 32, 33, 34, 35, 36, 37, 42, 43, 44, 45, 50, 51, 52, 53, 54, 55, 56, 57, 58, 59, 60] (by decide +kernel) (by decide +kernel)
set_option maxRecDepth 20000 in
theorem gX3_bidderTold_X3_paid : GoodIn wsX3_bidderTold (wsV RX3 76 RX3 yX3_paid wsX3_paid) := goodIn_app (goodIn_of _ (by decide +kernel)) ggX3_bidderTold_X3_paid
set_option maxRecDepth 20000 in
theorem ggX3_bidderTold_X3_profit : GoodIn wsX3_bidderTold wsX3_profit := goodIn_r _ [49, 12, 13, 14, 5, 15, 16, 17, 2, 18, 19, 20, 21, 22, 23, 1, 7, 8, 9, 10, 11, 3, 4, 6, 24, 25, 26, 27, 28, 29, 30, 31, 32, 33, 34, 35, 36, 37, 38, 39, 40, 41, 42, 43, 44, 45, 50, 51, 52, 53, 54, 55, 56, 57, 58, 59, 60] (by decide +kernel) (by decide +kernel)
set_option maxRecDepth 20000 in
theorem gX3_bidderTold_X3_profit : GoodIn wsX3_bidderTold (wsV RX3 107 RX3 yX3_profit wsX3_profit) := goodIn_app (goodIn_of _ (by decide +kernel)) ggX3_bidderTold_X3_profit
set_option maxRecDepth 20000 in
theorem ggX3_bidderTold_X3_sumWithout : GoodIn wsX3_bidderTold wsX3_sumWithout := goodIn_r _ [45, 1, 16, 12, 13, 14, 5, 15, 17, 2, 18, 19, 20, 21, 22, 23, 7, 8, 9, 10, 11, 3, 4, 6, 24, 25, 26, 27, 28, 29, 30, 31, 32, 33, 50, 51, 52, 53, 54, 55, 56, 57, 58, 59, 60] (by decide +kernel) (by decide +kernel)
set_option maxRecDepth 20000 in
theorem gX3_bidderTold_X3_sumWithout : GoodIn wsX3_bidderTold (wsV RX3 73 RX3 yX3_sumWithout wsX3_sumWithout) := goodIn_app (goodIn_of _ (by decide +kernel)) ggX3_bidderTold_X3_sumWithout
theorem dX3_bidderTold_0 : decode cX3_bidderTold 0 = .ok (.iload_n 2, 1) := by decide +kernel
theorem dX3_bidderTold_1 : decode cX3_bidderTold 1 = .ok (.tableswitch 117 0 4 #[35, 46, 95, 105, 111], 35) := by decide +kernel
theorem dX3_bidderTold_36 : decode cX3_bidderTold 36 = .ok (.iconst 1, 1) := by decide +kernel
theorem dX3_bidderTold_37 : decode cX3_bidderTold 37 = .ok (.aload_n 0, 1) := by decide +kernel
theorem dX3_bidderTold_38 : decode cX3_bidderTold 38 = .ok (.getfield 56, 3) := by decide +kernel
theorem dX3_bidderTold_41 : decode cX3_bidderTold 41 = .ok (.iload_n 1, 1) := by decide +kernel
theorem dX3_bidderTold_42 : decode cX3_bidderTold 42 = .ok (.invokestatic 45, 3) := by decide +kernel
theorem dX3_bidderTold_45 : decode cX3_bidderTold 45 = .ok (.isub, 1) := by decide +kernel
theorem dX3_bidderTold_46 : decode cX3_bidderTold 46 = .ok (.ireturn, 1) := by decide +kernel
theorem dX3_bidderTold_47 : decode cX3_bidderTold 47 = .ok (.iconst 0, 1) := by decide +kernel
theorem dX3_bidderTold_48 : decode cX3_bidderTold 48 = .ok (.istore_n 3, 1) := by decide +kernel
theorem dX3_bidderTold_49 : decode cX3_bidderTold 49 = .ok (.iconst 0, 1) := by decide +kernel
theorem dX3_bidderTold_50 : decode cX3_bidderTold 50 = .ok (.istore 4, 2) := by decide +kernel
theorem dX3_bidderTold_52 : decode cX3_bidderTold 52 = .ok (.iload 4, 2) := by decide +kernel
theorem dX3_bidderTold_54 : decode cX3_bidderTold 54 = .ok (.aload_n 0, 1) := by decide +kernel
theorem dX3_bidderTold_55 : decode cX3_bidderTold 55 = .ok (.getfield 42, 3) := by decide +kernel
theorem dX3_bidderTold_58 : decode cX3_bidderTold 58 = .ok (.if_icmp .ge 36, 3) := by decide +kernel
theorem dX3_bidderTold_61 : decode cX3_bidderTold 61 = .ok (.iload_n 3, 1) := by decide +kernel
theorem dX3_bidderTold_62 : decode cX3_bidderTold 62 = .ok (.aload_n 0, 1) := by decide +kernel
theorem dX3_bidderTold_63 : decode cX3_bidderTold 63 = .ok (.iload 4, 2) := by decide +kernel
theorem dX3_bidderTold_65 : decode cX3_bidderTold 65 = .ok (.iconst 0, 1) := by decide +kernel
theorem dX3_bidderTold_66 : decode cX3_bidderTold 66 = .ok (.invokevirtual 49, 3) := by decide +kernel
theorem dX3_bidderTold_69 : decode cX3_bidderTold 69 = .ok (.iload_n 1, 1) := by decide +kernel
theorem dX3_bidderTold_70 : decode cX3_bidderTold 70 = .ok (.if_icmp .ne 15, 3) := by decide +kernel
theorem dX3_bidderTold_73 : decode cX3_bidderTold 73 = .ok (.iconst 1, 1) := by decide +kernel
theorem dX3_bidderTold_74 : decode cX3_bidderTold 74 = .ok (.aload_n 0, 1) := by decide +kernel
theorem dX3_bidderTold_75 : decode cX3_bidderTold 75 = .ok (.iload 4, 2) := by decide +kernel
theorem dX3_bidderTold_77 : decode cX3_bidderTold 77 = .ok (.iconst 4, 1) := by decide +kernel
theorem dX3_bidderTold_78 : decode cX3_bidderTold 78 = .ok (.invokevirtual 49, 3) := by decide +kernel
theorem dX3_bidderTold_81 : decode cX3_bidderTold 81 = .ok (.isub, 1) := by decide +kernel
theorem dX3_bidderTold_82 : decode cX3_bidderTold 82 = .ok (.goto 4, 3) := by decide +kernel
theorem dX3_bidderTold_85 : decode cX3_bidderTold 85 = .ok (.iconst 0, 1) := by decide +kernel
theorem dX3_bidderTold_86 : decode cX3_bidderTold 86 = .ok (.iadd, 1) := by decide +kernel
theorem dX3_bidderTold_87 : decode cX3_bidderTold 87 = .ok (.istore_n 3, 1) := by decide +kernel
theorem dX3_bidderTold_88 : decode cX3_bidderTold 88 = .ok (.iinc 4 1, 3) := by decide +kernel
theorem dX3_bidderTold_91 : decode cX3_bidderTold 91 = .ok (.goto (-39), 3) := by decide +kernel
theorem dX3_bidderTold_94 : decode cX3_bidderTold 94 = .ok (.iload_n 3, 1) := by decide +kernel
theorem dX3_bidderTold_95 : decode cX3_bidderTold 95 = .ok (.ireturn, 1) := by decide +kernel
theorem dX3_bidderTold_96 : decode cX3_bidderTold 96 = .ok (.aload_n 0, 1) := by decide +kernel
theorem dX3_bidderTold_97 : decode cX3_bidderTold 97 = .ok (.aload_n 0, 1) := by decide +kernel
theorem dX3_bidderTold_98 : decode cX3_bidderTold 98 = .ok (.invokevirtual 66, 3) := by decide +kernel
theorem dX3_bidderTold_101 : decode cX3_bidderTold 101 = .ok (.iload_n 1, 1) := by decide +kernel
theorem dX3_bidderTold_102 : decode cX3_bidderTold 102 = .ok (.invokevirtual 70, 3) := by decide +kernel
theorem dX3_bidderTold_105 : decode cX3_bidderTold 105 = .ok (.ireturn, 1) := by decide +kernel
theorem dX3_bidderTold_106 : decode cX3_bidderTold 106 = .ok (.aload_n 0, 1) := by decide +kernel
theorem dX3_bidderTold_107 : decode cX3_bidderTold 107 = .ok (.iload_n 1, 1) := by decide +kernel
theorem dX3_bidderTold_108 : decode cX3_bidderTold 108 = .ok (.invokevirtual 76, 3) := by decide +kernel
theorem dX3_bidderTold_111 : decode cX3_bidderTold 111 = .ok (.ireturn, 1) := by decide +kernel
theorem dX3_bidderTold_112 : decode cX3_bidderTold 112 = .ok (.aload_n 0, 1) := by decide +kernel
theorem dX3_bidderTold_113 : decode cX3_bidderTold 113 = .ok (.iload_n 1, 1) := by decide +kernel
theorem dX3_bidderTold_114 : decode cX3_bidderTold 114 = .ok (.invokevirtual 107, 3) := by decide +kernel
theorem dX3_bidderTold_117 : decode cX3_bidderTold 117 = .ok (.ireturn, 1) := by decide +kernel
theorem dX3_bidderTold_118 : decode cX3_bidderTold 118 = .ok (.aload_n 0, 1) := by decide +kernel
theorem dX3_bidderTold_119 : decode cX3_bidderTold 119 = .ok (.iload_n 1, 1) := by decide +kernel
theorem dX3_bidderTold_120 : decode cX3_bidderTold 120 = .ok (.invokevirtual 73, 3) := by decide +kernel
theorem dX3_bidderTold_123 : decode cX3_bidderTold 123 = .ok (.ireturn, 1) := by decide +kernel
set_option maxRecDepth 20000 in
theorem ggX3_about_X3_isBidder : GoodIn wsX3_about wsX3_isBidder := goodIn_r _ [6, 7, 8, 9, 5, 10, 67, 68, 69, 70, 71, 72, 73, 74, 75, 76, 77] (by decide +kernel) (by decide +kernel)
set_option maxRecDepth 20000 in
theorem gX3_about_X3_isBidder : GoodIn wsX3_about (wsV RX3 85 RX3 yX3_isBidder wsX3_isBidder) := goodIn_app (goodIn_of _ (by decide +kernel)) ggX3_about_X3_isBidder
set_option maxRecDepth 20000 in
theorem ggX3_about_X3_isIn : GoodIn wsX3_about wsX3_isIn := goodIn_r _ [10] (by decide +kernel) (by decide +kernel)
set_option maxRecDepth 20000 in
theorem gX3_about_X3_isIn : GoodIn wsX3_about (va_wsS RX3 32 yX3_isIn wsX3_isIn) := goodIn_app (goodIn_of _ (by decide +kernel)) ggX3_about_X3_isIn
set_option maxRecDepth 20000 in
theorem ggX3_about_X3_bidderTold : GoodIn wsX3_about wsX3_bidderTold := goodIn_r _ [14, 15, 16, 17, 18, 5, 19, 20, 21, 22, 23, 24, 25, 26, 27, 28, 29, 30, 31, 32, 33, 34, 35, 36, 37, 38, 39, 40, 41, 42, 43, 44, 45, 46, 47, 48, 49, 50, 51, 52, 53, 54, 55, 56, 57, 58, 59, 60, 61, 62, 67, 68, 69, 70, 71, 72, 73, 74, 75, 76, 77] (by decide +kernel) (by decide +kernel)
set_option maxRecDepth 20000 in
theorem gX3_about_X3_bidderTold : GoodIn wsX3_about (wsV RX3 110 RX3 yX3_bidderTold wsX3_bidderTold) := goodIn_app (goodIn_of _ (by decide +kernel)) ggX3_about_X3_bidderTold
set_option maxRecDepth 20000 in
theorem ggX3_about_X3_fail : GoodIn wsX3_about wsX3_fail := goodIn_r _ [66, 1, 67, 68, 69, 70, 71, 72, 73, 74, 75, 76, 77] (by decide +kernel) (by decide +kernel)
set_option maxRecDepth 20000 in
theorem gX3_about_X3_fail : GoodIn wsX3_about (wsV RX3 79 RX3 yX3_fail wsX3_fail) := goodIn_app (goodIn_of _ (by decide +kernel)) ggX3_about_X3_fail
theorem dX3_about_0 : decode cX3_about 0 = .ok (.aload_n 0, 1) := by decide +kernel
theorem dX3_about_1 : decode cX3_about 1 = .ok (.iconst 0, 1) := by decide +kernel
theorem dX3_about_2 : decode cX3_about 2 = .ok (.putfield 28, 3) := by decide +kernel
theorem dX3_about_5 : decode cX3_about 5 = .ok (.aload_n 0, 1) := by decide +kernel
theorem dX3_about_6 : decode cX3_about 6 = .ok (.iload_n 1, 1) := by decide +kernel
theorem dX3_about_7 : decode cX3_about 7 = .ok (.invokevirtual 85, 3) := by decide +kernel
theorem dX3_about_10 : decode cX3_about 10 = .ok (.ifCond .eq 21, 3) := by decide +kernel
theorem dX3_about_13 : decode cX3_about 13 = .ok (.iload_n 2, 1) := by decide +kernel
theorem dX3_about_14 : decode cX3_about 14 = .ok (.iconst 0, 1) := by decide +kernel
theorem dX3_about_15 : decode cX3_about 15 = .ok (.iconst 5, 1) := by decide +kernel
theorem dX3_about_16 : decode cX3_about 16 = .ok (.invokestatic 32, 3) := by decide +kernel
theorem dX3_about_19 : decode cX3_about 19 = .ok (.ifCond .eq 12, 3) := by decide +kernel
theorem dX3_about_22 : decode cX3_about 22 = .ok (.aload_n 0, 1) := by decide +kernel
theorem dX3_about_23 : decode cX3_about 23 = .ok (.iload_n 1, 1) := by decide +kernel
theorem dX3_about_24 : decode cX3_about 24 = .ok (.iload_n 2, 1) := by decide +kernel
theorem dX3_about_25 : decode cX3_about 25 = .ok (.invokevirtual 110, 3) := by decide +kernel
theorem dX3_about_28 : decode cX3_about 28 = .ok (.goto 8, 3) := by decide +kernel
theorem dX3_about_31 : decode cX3_about 31 = .ok (.aload_n 0, 1) := by decide +kernel
theorem dX3_about_32 : decode cX3_about 32 = .ok (.iconst 1, 1) := by decide +kernel
theorem dX3_about_33 : decode cX3_about 33 = .ok (.invokevirtual 79, 3) := by decide +kernel
theorem dX3_about_36 : decode cX3_about 36 = .ok (.ireturn, 1) := by decide +kernel
set_option maxRecDepth 20000 in
theorem ggX3_fieldTold_X3_sale : GoodIn wsX3_fieldTold wsX3_sale := goodIn_r _ [7, 8, 9, 2, 10, 11, 12, 13, 14, 6, 15, 16, 17, 18, 19, 20, 21, 22, 23, 24, 25, 26, 27, 28, 29, 30, 31, 32, 33, 1, 34, 35, 36, 37, 38, 39, 40, 41, 42, 43, 44] (by decide +kernel) (by decide +kernel)
set_option maxRecDepth 20000 in
theorem gX3_fieldTold_X3_sale : GoodIn wsX3_fieldTold (wsV RX3 66 RX3 yX3_sale wsX3_sale) := goodIn_app (goodIn_of _ (by decide +kernel)) ggX3_fieldTold_X3_sale
set_option maxRecDepth 20000 in
theorem ggX3_fieldTold_X3_bi : GoodIn wsX3_fieldTold wsX3_bi := goodIn_r _ [20, 21, 34, 35, 36, 37, 38, 39, 40, 41, 42, 43, 44] (by decide +kernel) (by decide +kernel)
set_option maxRecDepth 20000 in
theorem gX3_fieldTold_X3_bi : GoodIn wsX3_fieldTold (wsV RX3 49 RX3 yX3_bi wsX3_bi) := goodIn_app (goodIn_of _ (by decide +kernel)) ggX3_fieldTold_X3_bi
set_option maxRecDepth 20000 in
theorem ggX3_fieldTold_X3_bit : GoodIn wsX3_fieldTold wsX3_bit := goodIn_r _ [24] (by decide +kernel) (by decide +kernel)
set_option maxRecDepth 20000 in
theorem gX3_fieldTold_X3_bit : GoodIn wsX3_fieldTold (va_wsS RX3 45 yX3_bit wsX3_bit) := goodIn_app (goodIn_of _ (by decide +kernel)) ggX3_fieldTold_X3_bit
set_option maxRecDepth 20000 in
theorem ggX3_fieldTold_X3_isCounted : GoodIn wsX3_fieldTold wsX3_isCounted := goodIn_r _ [15, 16, 17, 18, 19, 6, 20, 21, 22, 23, 24, 25, 26, 27, 28, 29, 30, 31, 32, 33, 1, 34, 35, 36, 37, 38, 39, 40, 41, 42, 43, 44] (by decide +kernel) (by decide +kernel)
set_option maxRecDepth 20000 in
theorem gX3_fieldTold_X3_isCounted : GoodIn wsX3_fieldTold (wsV RX3 62 RX3 yX3_isCounted wsX3_isCounted) := goodIn_app (goodIn_of _ (by decide +kernel)) ggX3_fieldTold_X3_isCounted
theorem dX3_fieldTold_0 : decode cX3_fieldTold 0 = .ok (.iload_n 2, 1) := by decide +kernel
theorem dX3_fieldTold_1 : decode cX3_fieldTold 1 = .ok (.ifCond .ne 10, 3) := by decide +kernel
theorem dX3_fieldTold_4 : decode cX3_fieldTold 4 = .ok (.aload_n 0, 1) := by decide +kernel
theorem dX3_fieldTold_5 : decode cX3_fieldTold 5 = .ok (.getfield 9, 3) := by decide +kernel
theorem dX3_fieldTold_8 : decode cX3_fieldTold 8 = .ok (.iload_n 1, 1) := by decide +kernel
theorem dX3_fieldTold_9 : decode cX3_fieldTold 9 = .ok (.iaload, 1) := by decide +kernel
theorem dX3_fieldTold_10 : decode cX3_fieldTold 10 = .ok (.ireturn, 1) := by decide +kernel
theorem dX3_fieldTold_11 : decode cX3_fieldTold 11 = .ok (.aload_n 0, 1) := by decide +kernel
theorem dX3_fieldTold_12 : decode cX3_fieldTold 12 = .ok (.invokevirtual 66, 3) := by decide +kernel
theorem dX3_fieldTold_15 : decode cX3_fieldTold 15 = .ok (.istore_n 3, 1) := by decide +kernel
theorem dX3_fieldTold_16 : decode cX3_fieldTold 16 = .ok (.iconst 0, 1) := by decide +kernel
theorem dX3_fieldTold_17 : decode cX3_fieldTold 17 = .ok (.istore 4, 2) := by decide +kernel
theorem dX3_fieldTold_19 : decode cX3_fieldTold 19 = .ok (.iconst 0, 1) := by decide +kernel
theorem dX3_fieldTold_20 : decode cX3_fieldTold 20 = .ok (.istore 5, 2) := by decide +kernel
theorem dX3_fieldTold_22 : decode cX3_fieldTold 22 = .ok (.iload 5, 2) := by decide +kernel
theorem dX3_fieldTold_24 : decode cX3_fieldTold 24 = .ok (.aload_n 0, 1) := by decide +kernel
theorem dX3_fieldTold_25 : decode cX3_fieldTold 25 = .ok (.getfield 42, 3) := by decide +kernel
theorem dX3_fieldTold_28 : decode cX3_fieldTold 28 = .ok (.if_icmp .ge 68, 3) := by decide +kernel
theorem dX3_fieldTold_31 : decode cX3_fieldTold 31 = .ok (.aload_n 0, 1) := by decide +kernel
theorem dX3_fieldTold_32 : decode cX3_fieldTold 32 = .ok (.iload 5, 2) := by decide +kernel
theorem dX3_fieldTold_34 : decode cX3_fieldTold 34 = .ok (.iconst 1, 1) := by decide +kernel
theorem dX3_fieldTold_35 : decode cX3_fieldTold 35 = .ok (.invokevirtual 49, 3) := by decide +kernel
theorem dX3_fieldTold_38 : decode cX3_fieldTold 38 = .ok (.iload_n 1, 1) := by decide +kernel
theorem dX3_fieldTold_39 : decode cX3_fieldTold 39 = .ok (.invokestatic 45, 3) := by decide +kernel
theorem dX3_fieldTold_42 : decode cX3_fieldTold 42 = .ok (.ifCond .ne 6, 3) := by decide +kernel
theorem dX3_fieldTold_45 : decode cX3_fieldTold 45 = .ok (.goto 45, 3) := by decide +kernel
theorem dX3_fieldTold_48 : decode cX3_fieldTold 48 = .ok (.iload_n 2, 1) := by decide +kernel
theorem dX3_fieldTold_49 : decode cX3_fieldTold 49 = .ok (.iconst 1, 1) := by decide +kernel
theorem dX3_fieldTold_50 : decode cX3_fieldTold 50 = .ok (.if_icmp .ne 21, 3) := by decide +kernel
theorem dX3_fieldTold_53 : decode cX3_fieldTold 53 = .ok (.iload_n 3, 1) := by decide +kernel
theorem dX3_fieldTold_54 : decode cX3_fieldTold 54 = .ok (.iload 5, 2) := by decide +kernel
theorem dX3_fieldTold_56 : decode cX3_fieldTold 56 = .ok (.invokestatic 45, 3) := by decide +kernel
theorem dX3_fieldTold_59 : decode cX3_fieldTold 59 = .ok (.iconst 1, 1) := by decide +kernel
theorem dX3_fieldTold_60 : decode cX3_fieldTold 60 = .ok (.if_icmp .ne 11, 3) := by decide +kernel
theorem dX3_fieldTold_63 : decode cX3_fieldTold 63 = .ok (.aload_n 0, 1) := by decide +kernel
theorem dX3_fieldTold_64 : decode cX3_fieldTold 64 = .ok (.iload 5, 2) := by decide +kernel
theorem dX3_fieldTold_66 : decode cX3_fieldTold 66 = .ok (.iconst 0, 1) := by decide +kernel
theorem dX3_fieldTold_67 : decode cX3_fieldTold 67 = .ok (.invokevirtual 49, 3) := by decide +kernel
theorem dX3_fieldTold_70 : decode cX3_fieldTold 70 = .ok (.ireturn, 1) := by decide +kernel
theorem dX3_fieldTold_71 : decode cX3_fieldTold 71 = .ok (.iload 4, 2) := by decide +kernel
theorem dX3_fieldTold_73 : decode cX3_fieldTold 73 = .ok (.aload_n 0, 1) := by decide +kernel
theorem dX3_fieldTold_74 : decode cX3_fieldTold 74 = .ok (.iload 5, 2) := by decide +kernel
theorem dX3_fieldTold_76 : decode cX3_fieldTold 76 = .ok (.invokevirtual 62, 3) := by decide +kernel
theorem dX3_fieldTold_79 : decode cX3_fieldTold 79 = .ok (.ifCond .eq 7, 3) := by decide +kernel
theorem dX3_fieldTold_82 : decode cX3_fieldTold 82 = .ok (.iconst 1, 1) := by decide +kernel
theorem dX3_fieldTold_83 : decode cX3_fieldTold 83 = .ok (.goto 4, 3) := by decide +kernel
theorem dX3_fieldTold_86 : decode cX3_fieldTold 86 = .ok (.iconst 0, 1) := by decide +kernel
theorem dX3_fieldTold_87 : decode cX3_fieldTold 87 = .ok (.iadd, 1) := by decide +kernel
theorem dX3_fieldTold_88 : decode cX3_fieldTold 88 = .ok (.istore 4, 2) := by decide +kernel
theorem dX3_fieldTold_90 : decode cX3_fieldTold 90 = .ok (.iinc 5 1, 3) := by decide +kernel
theorem dX3_fieldTold_93 : decode cX3_fieldTold 93 = .ok (.goto (-71), 3) := by decide +kernel
theorem dX3_fieldTold_96 : decode cX3_fieldTold 96 = .ok (.iload_n 2, 1) := by decide +kernel
theorem dX3_fieldTold_97 : decode cX3_fieldTold 97 = .ok (.iconst 1, 1) := by decide +kernel
theorem dX3_fieldTold_98 : decode cX3_fieldTold 98 = .ok (.if_icmp .ne 7, 3) := by decide +kernel
theorem dX3_fieldTold_101 : decode cX3_fieldTold 101 = .ok (.iconst (-1), 1) := by decide +kernel
theorem dX3_fieldTold_102 : decode cX3_fieldTold 102 = .ok (.goto 5, 3) := by decide +kernel
theorem dX3_fieldTold_105 : decode cX3_fieldTold 105 = .ok (.iload 4, 2) := by decide +kernel
theorem dX3_fieldTold_107 : decode cX3_fieldTold 107 = .ok (.ireturn, 1) := by decide +kernel
set_option maxRecDepth 20000 in
theorem ggX3_land_X3_isField : GoodIn wsX3_land wsX3_isField := goodIn_r _ [6, 7, 8, 9, 5, 10, 50, 51, 52, 53, 54, 55, 56, 57, 58, 59, 60] (by decide +kernel) (by decide +kernel)
set_option maxRecDepth 20000 in
theorem gX3_land_X3_isField : GoodIn wsX3_land (wsV RX3 82 RX3 yX3_isField wsX3_isField) := goodIn_app (goodIn_of _ (by decide +kernel)) ggX3_land_X3_isField
set_option maxRecDepth 20000 in
theorem ggX3_land_X3_isIn : GoodIn wsX3_land wsX3_isIn := goodIn_r _ [10] (by decide +kernel) (by decide +kernel)
set_option maxRecDepth 20000 in
theorem gX3_land_X3_isIn : GoodIn wsX3_land (va_wsS RX3 32 yX3_isIn wsX3_isIn) := goodIn_app (goodIn_of _ (by decide +kernel)) ggX3_land_X3_isIn
set_option maxRecDepth 20000 in
theorem ggX3_land_X3_fieldTold : GoodIn wsX3_land wsX3_fieldTold := goodIn_r _ [14, 15, 16, 17, 18, 19, 5, 20, 21, 22, 23, 24, 25, 26, 27, 28, 29, 30, 31, 32, 33, 34, 35, 36, 37, 38, 39, 40, 41, 42, 43, 44, 45, 7, 50, 51, 52, 53, 54, 55, 56, 57, 58, 59, 60] (by decide +kernel) (by decide +kernel)
set_option maxRecDepth 20000 in
theorem gX3_land_X3_fieldTold : GoodIn wsX3_land (wsV RX3 113 RX3 yX3_fieldTold wsX3_fieldTold) := goodIn_app (goodIn_of _ (by decide +kernel)) ggX3_land_X3_fieldTold
set_option maxRecDepth 20000 in
theorem ggX3_land_X3_fail : GoodIn wsX3_land wsX3_fail := goodIn_r _ [49, 1, 50, 51, 52, 53, 54, 55, 56, 57, 58, 59, 60] (by decide +kernel) (by decide +kernel)
set_option maxRecDepth 20000 in
theorem gX3_land_X3_fail : GoodIn wsX3_land (wsV RX3 79 RX3 yX3_fail wsX3_fail) := goodIn_app (goodIn_of _ (by decide +kernel)) ggX3_land_X3_fail
theorem dX3_land_0 : decode cX3_land 0 = .ok (.aload_n 0, 1) := by decide +kernel
theorem dX3_land_1 : decode cX3_land 1 = .ok (.iconst 0, 1) := by decide +kernel
theorem dX3_land_2 : decode cX3_land 2 = .ok (.putfield 28, 3) := by decide +kernel
theorem dX3_land_5 : decode cX3_land 5 = .ok (.aload_n 0, 1) := by decide +kernel
theorem dX3_land_6 : decode cX3_land 6 = .ok (.iload_n 1, 1) := by decide +kernel
theorem dX3_land_7 : decode cX3_land 7 = .ok (.invokevirtual 82, 3) := by decide +kernel
theorem dX3_land_10 : decode cX3_land 10 = .ok (.ifCond .eq 21, 3) := by decide +kernel
theorem dX3_land_13 : decode cX3_land 13 = .ok (.iload_n 2, 1) := by decide +kernel
theorem dX3_land_14 : decode cX3_land 14 = .ok (.iconst 0, 1) := by decide +kernel
theorem dX3_land_15 : decode cX3_land 15 = .ok (.iconst 2, 1) := by decide +kernel
theorem dX3_land_16 : decode cX3_land 16 = .ok (.invokestatic 32, 3) := by decide +kernel
theorem dX3_land_19 : decode cX3_land 19 = .ok (.ifCond .eq 12, 3) := by decide +kernel
theorem dX3_land_22 : decode cX3_land 22 = .ok (.aload_n 0, 1) := by decide +kernel
theorem dX3_land_23 : decode cX3_land 23 = .ok (.iload_n 1, 1) := by decide +kernel
theorem dX3_land_24 : decode cX3_land 24 = .ok (.iload_n 2, 1) := by decide +kernel
theorem dX3_land_25 : decode cX3_land 25 = .ok (.invokevirtual 113, 3) := by decide +kernel
theorem dX3_land_28 : decode cX3_land 28 = .ok (.goto 8, 3) := by decide +kernel
theorem dX3_land_31 : decode cX3_land 31 = .ok (.aload_n 0, 1) := by decide +kernel
theorem dX3_land_32 : decode cX3_land 32 = .ok (.iconst 1, 1) := by decide +kernel
theorem dX3_land_33 : decode cX3_land 33 = .ok (.invokevirtual 79, 3) := by decide +kernel
theorem dX3_land_36 : decode cX3_land 36 = .ok (.ireturn, 1) := by decide +kernel
set_option maxRecDepth 20000 in
theorem ggX3_counted_X3_sale : GoodIn wsX3_counted wsX3_sale := goodIn_r _ [10, 4, 5, 3, 11, 12, 13, 14, 15, 9, 16, 17, 18, 19, 20, 21, 22, 23, 24, 25, 26, 27, 28, 29, 30, 31, 32, 33, 1, 34, 59, 60, 61, 62, 63, 64, 65, 66, 67, 68, 69] (by decide +kernel) (by decide +kernel)
set_option maxRecDepth 20000 in
theorem gX3_counted_X3_sale : GoodIn wsX3_counted (wsV RX3 66 RX3 yX3_sale wsX3_sale) := goodIn_app (goodIn_of _ (by decide +kernel)) ggX3_counted_X3_sale
set_option maxRecDepth 20000 in
theorem ggX3_counted_X3_fieldTold : GoodIn wsX3_counted wsX3_fieldTold := goodIn_r _ [38, 34, 3, 6, 7, 8, 9, 10, 4, 5, 11, 12, 13, 14, 15, 16, 17, 18, 19, 20, 21, 22, 23, 24, 25, 26, 27, 28, 29, 30, 31, 32, 33, 1, 59, 60, 61, 62, 63, 64, 65, 66, 67, 68, 69] (by decide +kernel) (by decide +kernel)
set_option maxRecDepth 20000 in
theorem gX3_counted_X3_fieldTold : GoodIn wsX3_counted (wsV RX3 113 RX3 yX3_fieldTold wsX3_fieldTold) := goodIn_app (goodIn_of _ (by decide +kernel)) ggX3_counted_X3_fieldTold
set_option maxRecDepth 20000 in
theorem ggX3_counted_X3_allPaid : GoodIn wsX3_counted wsX3_allPaid := goodIn_r _ [42, 2, 43, 44, 45, 9, 46, 4, 6, 7, 8, 10, 5, 3, 11, 12, 13, 14, 15, 16, 17, 18, 19, 20, 21, 22, 23, 24, 25, 26, 27, 28, 29, 30, 31, 32, 33, 1, 34, 47, 48, 49, 50, 51, 52, 53, 54, 59, 60, 61, 62, 63, 64, 65, 66, 67, 68, 69] (by decide +kernel) (by decide +kernel)
set_option maxRecDepth 20000 in
theorem gX3_counted_X3_allPaid : GoodIn wsX3_counted (wsV RX3 116 RX3 yX3_allPaid wsX3_allPaid) := goodIn_app (goodIn_of _ (by decide +kernel)) ggX3_counted_X3_allPaid
set_option maxRecDepth 20000 in
theorem ggX3_counted_X3_profit : GoodIn wsX3_counted wsX3_profit := goodIn_r _ [58, 6, 7, 8, 9, 10, 4, 5, 3, 11, 12, 13, 14, 15, 16, 17, 18, 19, 20, 21, 22, 23, 24, 25, 26, 27, 28, 29, 30, 31, 32, 33, 1, 34, 47, 48, 49, 50, 43, 44, 45, 46, 51, 52, 53, 54, 59, 60, 61, 62, 63, 64, 65, 66, 67, 68, 69] (by decide +kernel) (by decide +kernel)
set_option maxRecDepth 20000 in
theorem gX3_counted_X3_profit : GoodIn wsX3_counted (wsV RX3 107 RX3 yX3_profit wsX3_profit) := goodIn_app (goodIn_of _ (by decide +kernel)) ggX3_counted_X3_profit
set_option maxRecDepth 20000 in
theorem ggX3_counted_X3_bit : GoodIn wsX3_counted wsX3_bit := goodIn_r _ [25] (by decide +kernel) (by decide +kernel)
set_option maxRecDepth 20000 in
theorem gX3_counted_X3_bit : GoodIn wsX3_counted (va_wsS RX3 45 yX3_bit wsX3_bit) := goodIn_app (goodIn_of _ (by decide +kernel)) ggX3_counted_X3_bit
set_option maxRecDepth 20000 in
theorem ggX3_counted_X3_bi : GoodIn wsX3_counted wsX3_bi := goodIn_r _ [21, 22, 59, 60, 61, 62, 63, 64, 65, 66, 67, 68, 69] (by decide +kernel) (by decide +kernel)
set_option maxRecDepth 20000 in
theorem gX3_counted_X3_bi : GoodIn wsX3_counted (wsV RX3 49 RX3 yX3_bi wsX3_bi) := goodIn_app (goodIn_of _ (by decide +kernel)) ggX3_counted_X3_bi
theorem dX3_counted_0 : decode cX3_counted 0 = .ok (.iconst 0, 1) := by decide +kernel
theorem dX3_counted_1 : decode cX3_counted 1 = .ok (.istore_n 2, 1) := by decide +kernel
theorem dX3_counted_2 : decode cX3_counted 2 = .ok (.iload_n 1, 1) := by decide +kernel
theorem dX3_counted_3 : decode cX3_counted 3 = .ok (.tableswitch 147 0 7 #[45, 50, 55, 60, 70, 80, 116, 121], 45) := by decide +kernel
theorem dX3_counted_48 : decode cX3_counted 48 = .ok (.aload_n 0, 1) := by decide +kernel
theorem dX3_counted_49 : decode cX3_counted 49 = .ok (.getfield 36, 3) := by decide +kernel
theorem dX3_counted_52 : decode cX3_counted 52 = .ok (.ireturn, 1) := by decide +kernel
theorem dX3_counted_53 : decode cX3_counted 53 = .ok (.aload_n 0, 1) := by decide +kernel
theorem dX3_counted_54 : decode cX3_counted 54 = .ok (.getfield 39, 3) := by decide +kernel
theorem dX3_counted_57 : decode cX3_counted 57 = .ok (.ireturn, 1) := by decide +kernel
theorem dX3_counted_58 : decode cX3_counted 58 = .ok (.aload_n 0, 1) := by decide +kernel
theorem dX3_counted_59 : decode cX3_counted 59 = .ok (.getfield 42, 3) := by decide +kernel
theorem dX3_counted_62 : decode cX3_counted 62 = .ok (.ireturn, 1) := by decide +kernel
theorem dX3_counted_63 : decode cX3_counted 63 = .ok (.aload_n 0, 1) := by decide +kernel
theorem dX3_counted_64 : decode cX3_counted 64 = .ok (.getfield 22, 3) := by decide +kernel
theorem dX3_counted_67 : decode cX3_counted 67 = .ok (.aload_n 0, 1) := by decide +kernel
theorem dX3_counted_68 : decode cX3_counted 68 = .ok (.invokevirtual 66, 3) := by decide +kernel
theorem dX3_counted_71 : decode cX3_counted 71 = .ok (.iaload, 1) := by decide +kernel
theorem dX3_counted_72 : decode cX3_counted 72 = .ok (.ireturn, 1) := by decide +kernel
theorem dX3_counted_73 : decode cX3_counted 73 = .ok (.aload_n 0, 1) := by decide +kernel
theorem dX3_counted_74 : decode cX3_counted 74 = .ok (.getfield 25, 3) := by decide +kernel
theorem dX3_counted_77 : decode cX3_counted 77 = .ok (.aload_n 0, 1) := by decide +kernel
theorem dX3_counted_78 : decode cX3_counted 78 = .ok (.invokevirtual 66, 3) := by decide +kernel
theorem dX3_counted_81 : decode cX3_counted 81 = .ok (.iaload, 1) := by decide +kernel
theorem dX3_counted_82 : decode cX3_counted 82 = .ok (.ireturn, 1) := by decide +kernel
theorem dX3_counted_83 : decode cX3_counted 83 = .ok (.iconst 0, 1) := by decide +kernel
theorem dX3_counted_84 : decode cX3_counted 84 = .ok (.istore_n 3, 1) := by decide +kernel
theorem dX3_counted_85 : decode cX3_counted 85 = .ok (.iload_n 3, 1) := by decide +kernel
theorem dX3_counted_86 : decode cX3_counted 86 = .ok (.aload_n 0, 1) := by decide +kernel
theorem dX3_counted_87 : decode cX3_counted 87 = .ok (.getfield 36, 3) := by decide +kernel
theorem dX3_counted_90 : decode cX3_counted 90 = .ok (.if_icmp .ge 27, 3) := by decide +kernel
theorem dX3_counted_93 : decode cX3_counted 93 = .ok (.iload_n 2, 1) := by decide +kernel
theorem dX3_counted_94 : decode cX3_counted 94 = .ok (.aload_n 0, 1) := by decide +kernel
theorem dX3_counted_95 : decode cX3_counted 95 = .ok (.iload_n 3, 1) := by decide +kernel
theorem dX3_counted_96 : decode cX3_counted 96 = .ok (.iconst 1, 1) := by decide +kernel
theorem dX3_counted_97 : decode cX3_counted 97 = .ok (.invokevirtual 113, 3) := by decide +kernel
theorem dX3_counted_100 : decode cX3_counted 100 = .ok (.iconst (-1), 1) := by decide +kernel
theorem dX3_counted_101 : decode cX3_counted 101 = .ok (.if_icmp .ne 7, 3) := by decide +kernel
theorem dX3_counted_104 : decode cX3_counted 104 = .ok (.iconst 0, 1) := by decide +kernel
theorem dX3_counted_105 : decode cX3_counted 105 = .ok (.goto 4, 3) := by decide +kernel
theorem dX3_counted_108 : decode cX3_counted 108 = .ok (.iconst 1, 1) := by decide +kernel
theorem dX3_counted_109 : decode cX3_counted 109 = .ok (.iadd, 1) := by decide +kernel
theorem dX3_counted_110 : decode cX3_counted 110 = .ok (.istore_n 2, 1) := by decide +kernel
theorem dX3_counted_111 : decode cX3_counted 111 = .ok (.iinc 3 1, 3) := by decide +kernel
theorem dX3_counted_114 : decode cX3_counted 114 = .ok (.goto (-29), 3) := by decide +kernel
theorem dX3_counted_117 : decode cX3_counted 117 = .ok (.iload_n 2, 1) := by decide +kernel
theorem dX3_counted_118 : decode cX3_counted 118 = .ok (.ireturn, 1) := by decide +kernel
theorem dX3_counted_119 : decode cX3_counted 119 = .ok (.aload_n 0, 1) := by decide +kernel
theorem dX3_counted_120 : decode cX3_counted 120 = .ok (.invokevirtual 116, 3) := by decide +kernel
theorem dX3_counted_123 : decode cX3_counted 123 = .ok (.ireturn, 1) := by decide +kernel
theorem dX3_counted_124 : decode cX3_counted 124 = .ok (.iconst 0, 1) := by decide +kernel
theorem dX3_counted_125 : decode cX3_counted 125 = .ok (.istore_n 3, 1) := by decide +kernel
theorem dX3_counted_126 : decode cX3_counted 126 = .ok (.iload_n 3, 1) := by decide +kernel
theorem dX3_counted_127 : decode cX3_counted 127 = .ok (.aload_n 0, 1) := by decide +kernel
theorem dX3_counted_128 : decode cX3_counted 128 = .ok (.getfield 39, 3) := by decide +kernel
theorem dX3_counted_131 : decode cX3_counted 131 = .ok (.if_icmp .ge 17, 3) := by decide +kernel
theorem dX3_counted_134 : decode cX3_counted 134 = .ok (.iload_n 2, 1) := by decide +kernel
theorem dX3_counted_135 : decode cX3_counted 135 = .ok (.aload_n 0, 1) := by decide +kernel
theorem dX3_counted_136 : decode cX3_counted 136 = .ok (.iload_n 3, 1) := by decide +kernel
theorem dX3_counted_137 : decode cX3_counted 137 = .ok (.invokevirtual 107, 3) := by decide +kernel
theorem dX3_counted_140 : decode cX3_counted 140 = .ok (.iadd, 1) := by decide +kernel
theorem dX3_counted_141 : decode cX3_counted 141 = .ok (.istore_n 2, 1) := by decide +kernel
theorem dX3_counted_142 : decode cX3_counted 142 = .ok (.iinc 3 1, 3) := by decide +kernel
theorem dX3_counted_145 : decode cX3_counted 145 = .ok (.goto (-19), 3) := by decide +kernel
theorem dX3_counted_148 : decode cX3_counted 148 = .ok (.iload_n 2, 1) := by decide +kernel
theorem dX3_counted_149 : decode cX3_counted 149 = .ok (.ireturn, 1) := by decide +kernel
theorem dX3_counted_150 : decode cX3_counted 150 = .ok (.aload_n 0, 1) := by decide +kernel
theorem dX3_counted_151 : decode cX3_counted 151 = .ok (.invokevirtual 66, 3) := by decide +kernel
theorem dX3_counted_154 : decode cX3_counted 154 = .ok (.istore_n 3, 1) := by decide +kernel
theorem dX3_counted_155 : decode cX3_counted 155 = .ok (.iconst 0, 1) := by decide +kernel
theorem dX3_counted_156 : decode cX3_counted 156 = .ok (.istore 4, 2) := by decide +kernel
theorem dX3_counted_158 : decode cX3_counted 158 = .ok (.iload 4, 2) := by decide +kernel
theorem dX3_counted_160 : decode cX3_counted 160 = .ok (.aload_n 0, 1) := by decide +kernel
theorem dX3_counted_161 : decode cX3_counted 161 = .ok (.getfield 42, 3) := by decide +kernel
theorem dX3_counted_164 : decode cX3_counted 164 = .ok (.if_icmp .ge 26, 3) := by decide +kernel
theorem dX3_counted_167 : decode cX3_counted 167 = .ok (.iload_n 2, 1) := by decide +kernel
theorem dX3_counted_168 : decode cX3_counted 168 = .ok (.iload_n 3, 1) := by decide +kernel
theorem dX3_counted_169 : decode cX3_counted 169 = .ok (.iload 4, 2) := by decide +kernel
theorem dX3_counted_171 : decode cX3_counted 171 = .ok (.invokestatic 45, 3) := by decide +kernel
theorem dX3_counted_174 : decode cX3_counted 174 = .ok (.aload_n 0, 1) := by decide +kernel
theorem dX3_counted_175 : decode cX3_counted 175 = .ok (.iload 4, 2) := by decide +kernel
theorem dX3_counted_177 : decode cX3_counted 177 = .ok (.iconst 2, 1) := by decide +kernel
theorem dX3_counted_178 : decode cX3_counted 178 = .ok (.invokevirtual 49, 3) := by decide +kernel
theorem dX3_counted_181 : decode cX3_counted 181 = .ok (.imul, 1) := by decide +kernel
theorem dX3_counted_182 : decode cX3_counted 182 = .ok (.iadd, 1) := by decide +kernel
theorem dX3_counted_183 : decode cX3_counted 183 = .ok (.istore_n 2, 1) := by decide +kernel
theorem dX3_counted_184 : decode cX3_counted 184 = .ok (.iinc 4 1, 3) := by decide +kernel
theorem dX3_counted_187 : decode cX3_counted 187 = .ok (.goto (-29), 3) := by decide +kernel
theorem dX3_counted_190 : decode cX3_counted 190 = .ok (.iload_n 2, 1) := by decide +kernel
theorem dX3_counted_191 : decode cX3_counted 191 = .ok (.ireturn, 1) := by decide +kernel
set_option maxRecDepth 20000 in
theorem ggX3_count_X3_isIn : GoodIn wsX3_count wsX3_isIn := goodIn_r _ [5] (by decide +kernel) (by decide +kernel)
set_option maxRecDepth 20000 in
theorem gX3_count_X3_isIn : GoodIn wsX3_count (va_wsS RX3 32 yX3_isIn wsX3_isIn) := goodIn_app (goodIn_of _ (by decide +kernel)) ggX3_count_X3_isIn
set_option maxRecDepth 20000 in
theorem ggX3_count_X3_counted : GoodIn wsX3_count wsX3_counted := goodIn_r _ [9, 10, 11, 12, 13, 14, 15, 16, 17, 4, 18, 19, 20, 21, 22, 23, 24, 25, 26, 27, 28, 29, 30, 31, 32, 33, 34, 35, 36, 37, 38, 39, 40, 41, 42, 43, 44, 45, 46, 47, 48, 49, 50, 51, 52, 53, 54, 55, 56, 57, 58, 59, 60, 61, 62, 63, 64, 65, 66, 71, 72, 73, 74, 75, 76, 77, 78, 79, 80, 81] (by decide +kernel) (by decide +kernel)
set_option maxRecDepth 20000 in
theorem gX3_count_X3_counted : GoodIn wsX3_count (wsV RX3 119 RX3 yX3_counted wsX3_counted) := goodIn_app (goodIn_of _ (by decide +kernel)) ggX3_count_X3_counted
set_option maxRecDepth 20000 in
theorem ggX3_count_X3_fail : GoodIn wsX3_count wsX3_fail := goodIn_r _ [70, 1, 71, 72, 73, 74, 75, 76, 77, 78, 79, 80, 81] (by decide +kernel) (by decide +kernel)
set_option maxRecDepth 20000 in
theorem gX3_count_X3_fail : GoodIn wsX3_count (wsV RX3 79 RX3 yX3_fail wsX3_fail) := goodIn_app (goodIn_of _ (by decide +kernel)) ggX3_count_X3_fail
theorem dX3_count_0 : decode cX3_count 0 = .ok (.aload_n 0, 1) := by decide +kernel
theorem dX3_count_1 : decode cX3_count 1 = .ok (.iconst 0, 1) := by decide +kernel
theorem dX3_count_2 : decode cX3_count 2 = .ok (.putfield 28, 3) := by decide +kernel
theorem dX3_count_5 : decode cX3_count 5 = .ok (.iload_n 1, 1) := by decide +kernel
theorem dX3_count_6 : decode cX3_count 6 = .ok (.iconst 0, 1) := by decide +kernel
theorem dX3_count_7 : decode cX3_count 7 = .ok (.bipush 8, 2) := by decide +kernel
theorem dX3_count_9 : decode cX3_count 9 = .ok (.invokestatic 32, 3) := by decide +kernel
theorem dX3_count_12 : decode cX3_count 12 = .ok (.ifCond .eq 11, 3) := by decide +kernel
theorem dX3_count_15 : decode cX3_count 15 = .ok (.aload_n 0, 1) := by decide +kernel
theorem dX3_count_16 : decode cX3_count 16 = .ok (.iload_n 1, 1) := by decide +kernel
theorem dX3_count_17 : decode cX3_count 17 = .ok (.invokevirtual 119, 3) := by decide +kernel
theorem dX3_count_20 : decode cX3_count 20 = .ok (.goto 8, 3) := by decide +kernel
theorem dX3_count_23 : decode cX3_count 23 = .ok (.aload_n 0, 1) := by decide +kernel
theorem dX3_count_24 : decode cX3_count 24 = .ok (.iconst 1, 1) := by decide +kernel
theorem dX3_count_25 : decode cX3_count 25 = .ok (.invokevirtual 79, 3) := by decide +kernel
theorem dX3_count_28 : decode cX3_count 28 = .ok (.ireturn, 1) := by decide +kernel
set_option maxRecDepth 20000 in
theorem ggX3_aloneTold_X3_isCounted : GoodIn wsX3_aloneTold wsX3_isCounted := goodIn_r _ [11, 12, 13, 14, 15, 10, 16, 17, 18, 19, 20, 21, 22, 23, 24, 25, 26, 27, 28, 29, 2, 30, 31, 32, 33, 34, 35, 36, 37, 38, 39, 40] (by decide +kernel) (by decide +kernel)
set_option maxRecDepth 20000 in
theorem gX3_aloneTold_X3_isCounted : GoodIn wsX3_aloneTold (wsV RX3 62 RX3 yX3_isCounted wsX3_isCounted) := goodIn_app (goodIn_of _ (by decide +kernel)) ggX3_aloneTold_X3_isCounted
set_option maxRecDepth 20000 in
theorem ggX3_aloneTold_X3_bi : GoodIn wsX3_aloneTold wsX3_bi := goodIn_r _ [16, 17, 30, 31, 32, 33, 34, 35, 36, 37, 38, 39, 40] (by decide +kernel) (by decide +kernel)
set_option maxRecDepth 20000 in
theorem gX3_aloneTold_X3_bi : GoodIn wsX3_aloneTold (wsV RX3 49 RX3 yX3_bi wsX3_bi) := goodIn_app (goodIn_of _ (by decide +kernel)) ggX3_aloneTold_X3_bi
theorem dX3_aloneTold_0 : decode cX3_aloneTold 0 = .ok (.iconst (-1), 1) := by decide +kernel
theorem dX3_aloneTold_1 : decode cX3_aloneTold 1 = .ok (.istore_n 3, 1) := by decide +kernel
theorem dX3_aloneTold_2 : decode cX3_aloneTold 2 = .ok (.iconst 0, 1) := by decide +kernel
theorem dX3_aloneTold_3 : decode cX3_aloneTold 3 = .ok (.istore 4, 2) := by decide +kernel
theorem dX3_aloneTold_5 : decode cX3_aloneTold 5 = .ok (.iload 4, 2) := by decide +kernel
theorem dX3_aloneTold_7 : decode cX3_aloneTold 7 = .ok (.aload_n 0, 1) := by decide +kernel
theorem dX3_aloneTold_8 : decode cX3_aloneTold 8 = .ok (.getfield 42, 3) := by decide +kernel
theorem dX3_aloneTold_11 : decode cX3_aloneTold 11 = .ok (.if_icmp .ge 55, 3) := by decide +kernel
theorem dX3_aloneTold_14 : decode cX3_aloneTold 14 = .ok (.aload_n 0, 1) := by decide +kernel
theorem dX3_aloneTold_15 : decode cX3_aloneTold 15 = .ok (.iload 4, 2) := by decide +kernel
theorem dX3_aloneTold_17 : decode cX3_aloneTold 17 = .ok (.invokevirtual 62, 3) := by decide +kernel
theorem dX3_aloneTold_20 : decode cX3_aloneTold 20 = .ok (.ifCond .eq 40, 3) := by decide +kernel
theorem dX3_aloneTold_23 : decode cX3_aloneTold 23 = .ok (.aload_n 0, 1) := by decide +kernel
theorem dX3_aloneTold_24 : decode cX3_aloneTold 24 = .ok (.iload 4, 2) := by decide +kernel
theorem dX3_aloneTold_26 : decode cX3_aloneTold 26 = .ok (.iconst 1, 1) := by decide +kernel
theorem dX3_aloneTold_27 : decode cX3_aloneTold 27 = .ok (.invokevirtual 49, 3) := by decide +kernel
theorem dX3_aloneTold_30 : decode cX3_aloneTold 30 = .ok (.iconst 1, 1) := by decide +kernel
theorem dX3_aloneTold_31 : decode cX3_aloneTold 31 = .ok (.iload_n 1, 1) := by decide +kernel
theorem dX3_aloneTold_32 : decode cX3_aloneTold 32 = .ok (.ishl, 1) := by decide +kernel
theorem dX3_aloneTold_33 : decode cX3_aloneTold 33 = .ok (.if_icmp .ne 27, 3) := by decide +kernel
theorem dX3_aloneTold_36 : decode cX3_aloneTold 36 = .ok (.iload_n 3, 1) := by decide +kernel
theorem dX3_aloneTold_37 : decode cX3_aloneTold 37 = .ok (.iconst (-1), 1) := by decide +kernel
theorem dX3_aloneTold_38 : decode cX3_aloneTold 38 = .ok (.if_icmp .eq 19, 3) := by decide +kernel
theorem dX3_aloneTold_41 : decode cX3_aloneTold 41 = .ok (.aload_n 0, 1) := by decide +kernel
theorem dX3_aloneTold_42 : decode cX3_aloneTold 42 = .ok (.iload 4, 2) := by decide +kernel
theorem dX3_aloneTold_44 : decode cX3_aloneTold 44 = .ok (.iconst 2, 1) := by decide +kernel
theorem dX3_aloneTold_45 : decode cX3_aloneTold 45 = .ok (.invokevirtual 49, 3) := by decide +kernel
theorem dX3_aloneTold_48 : decode cX3_aloneTold 48 = .ok (.aload_n 0, 1) := by decide +kernel
theorem dX3_aloneTold_49 : decode cX3_aloneTold 49 = .ok (.iload_n 3, 1) := by decide +kernel
theorem dX3_aloneTold_50 : decode cX3_aloneTold 50 = .ok (.iconst 2, 1) := by decide +kernel
theorem dX3_aloneTold_51 : decode cX3_aloneTold 51 = .ok (.invokevirtual 49, 3) := by decide +kernel
theorem dX3_aloneTold_54 : decode cX3_aloneTold 54 = .ok (.if_icmp .le 6, 3) := by decide +kernel
theorem dX3_aloneTold_57 : decode cX3_aloneTold 57 = .ok (.iload 4, 2) := by decide +kernel
theorem dX3_aloneTold_59 : decode cX3_aloneTold 59 = .ok (.istore_n 3, 1) := by decide +kernel
theorem dX3_aloneTold_60 : decode cX3_aloneTold 60 = .ok (.iinc 4 1, 3) := by decide +kernel
theorem dX3_aloneTold_63 : decode cX3_aloneTold 63 = .ok (.goto (-58), 3) := by decide +kernel
theorem dX3_aloneTold_66 : decode cX3_aloneTold 66 = .ok (.iload_n 3, 1) := by decide +kernel
theorem dX3_aloneTold_67 : decode cX3_aloneTold 67 = .ok (.iconst (-1), 1) := by decide +kernel
theorem dX3_aloneTold_68 : decode cX3_aloneTold 68 = .ok (.if_icmp .eq 7, 3) := by decide +kernel
theorem dX3_aloneTold_71 : decode cX3_aloneTold 71 = .ok (.iload_n 2, 1) := by decide +kernel
theorem dX3_aloneTold_72 : decode cX3_aloneTold 72 = .ok (.ifCond .ne 5, 3) := by decide +kernel
theorem dX3_aloneTold_75 : decode cX3_aloneTold 75 = .ok (.iload_n 3, 1) := by decide +kernel
theorem dX3_aloneTold_76 : decode cX3_aloneTold 76 = .ok (.ireturn, 1) := by decide +kernel
theorem dX3_aloneTold_77 : decode cX3_aloneTold 77 = .ok (.iload_n 2, 1) := by decide +kernel
theorem dX3_aloneTold_78 : decode cX3_aloneTold 78 = .ok (.iconst 1, 1) := by decide +kernel
theorem dX3_aloneTold_79 : decode cX3_aloneTold 79 = .ok (.if_icmp .ne 10, 3) := by decide +kernel
theorem dX3_aloneTold_82 : decode cX3_aloneTold 82 = .ok (.aload_n 0, 1) := by decide +kernel
theorem dX3_aloneTold_83 : decode cX3_aloneTold 83 = .ok (.iload_n 3, 1) := by decide +kernel
theorem dX3_aloneTold_84 : decode cX3_aloneTold 84 = .ok (.iconst 0, 1) := by decide +kernel
theorem dX3_aloneTold_85 : decode cX3_aloneTold 85 = .ok (.invokevirtual 49, 3) := by decide +kernel
theorem dX3_aloneTold_88 : decode cX3_aloneTold 88 = .ok (.ireturn, 1) := by decide +kernel
theorem dX3_aloneTold_89 : decode cX3_aloneTold 89 = .ok (.aload_n 0, 1) := by decide +kernel
theorem dX3_aloneTold_90 : decode cX3_aloneTold 90 = .ok (.getfield 9, 3) := by decide +kernel
theorem dX3_aloneTold_93 : decode cX3_aloneTold 93 = .ok (.iload_n 1, 1) := by decide +kernel
theorem dX3_aloneTold_94 : decode cX3_aloneTold 94 = .ok (.iaload, 1) := by decide +kernel
theorem dX3_aloneTold_95 : decode cX3_aloneTold 95 = .ok (.istore 4, 2) := by decide +kernel
theorem dX3_aloneTold_97 : decode cX3_aloneTold 97 = .ok (.iconst 0, 1) := by decide +kernel
theorem dX3_aloneTold_98 : decode cX3_aloneTold 98 = .ok (.istore 5, 2) := by decide +kernel
theorem dX3_aloneTold_100 : decode cX3_aloneTold 100 = .ok (.iload 5, 2) := by decide +kernel
theorem dX3_aloneTold_102 : decode cX3_aloneTold 102 = .ok (.aload_n 0, 1) := by decide +kernel
theorem dX3_aloneTold_103 : decode cX3_aloneTold 103 = .ok (.getfield 42, 3) := by decide +kernel
theorem dX3_aloneTold_106 : decode cX3_aloneTold 106 = .ok (.if_icmp .ge 61, 3) := by decide +kernel
theorem dX3_aloneTold_109 : decode cX3_aloneTold 109 = .ok (.aload_n 0, 1) := by decide +kernel
theorem dX3_aloneTold_110 : decode cX3_aloneTold 110 = .ok (.iload 5, 2) := by decide +kernel
theorem dX3_aloneTold_112 : decode cX3_aloneTold 112 = .ok (.invokevirtual 62, 3) := by decide +kernel
theorem dX3_aloneTold_115 : decode cX3_aloneTold 115 = .ok (.ifCond .eq 46, 3) := by decide +kernel
theorem dX3_aloneTold_118 : decode cX3_aloneTold 118 = .ok (.aload_n 0, 1) := by decide +kernel
theorem dX3_aloneTold_119 : decode cX3_aloneTold 119 = .ok (.iload 5, 2) := by decide +kernel
theorem dX3_aloneTold_121 : decode cX3_aloneTold 121 = .ok (.iconst 1, 1) := by decide +kernel
theorem dX3_aloneTold_122 : decode cX3_aloneTold 122 = .ok (.invokevirtual 49, 3) := by decide +kernel
theorem dX3_aloneTold_125 : decode cX3_aloneTold 125 = .ok (.iconst 1, 1) := by decide +kernel
theorem dX3_aloneTold_126 : decode cX3_aloneTold 126 = .ok (.iload_n 1, 1) := by decide +kernel
theorem dX3_aloneTold_127 : decode cX3_aloneTold 127 = .ok (.ishl, 1) := by decide +kernel
theorem dX3_aloneTold_128 : decode cX3_aloneTold 128 = .ok (.if_icmp .ne 33, 3) := by decide +kernel
theorem dX3_aloneTold_131 : decode cX3_aloneTold 131 = .ok (.aload_n 0, 1) := by decide +kernel
theorem dX3_aloneTold_132 : decode cX3_aloneTold 132 = .ok (.iload 5, 2) := by decide +kernel
theorem dX3_aloneTold_134 : decode cX3_aloneTold 134 = .ok (.iconst 0, 1) := by decide +kernel
theorem dX3_aloneTold_135 : decode cX3_aloneTold 135 = .ok (.invokevirtual 49, 3) := by decide +kernel
theorem dX3_aloneTold_138 : decode cX3_aloneTold 138 = .ok (.aload_n 0, 1) := by decide +kernel
theorem dX3_aloneTold_139 : decode cX3_aloneTold 139 = .ok (.iload_n 3, 1) := by decide +kernel
theorem dX3_aloneTold_140 : decode cX3_aloneTold 140 = .ok (.iconst 0, 1) := by decide +kernel
theorem dX3_aloneTold_141 : decode cX3_aloneTold 141 = .ok (.invokevirtual 49, 3) := by decide +kernel
theorem dX3_aloneTold_144 : decode cX3_aloneTold 144 = .ok (.if_icmp .eq 17, 3) := by decide +kernel
theorem dX3_aloneTold_147 : decode cX3_aloneTold 147 = .ok (.iload 4, 2) := by decide +kernel
theorem dX3_aloneTold_149 : decode cX3_aloneTold 149 = .ok (.aload_n 0, 1) := by decide +kernel
theorem dX3_aloneTold_150 : decode cX3_aloneTold 150 = .ok (.iload 5, 2) := by decide +kernel
theorem dX3_aloneTold_152 : decode cX3_aloneTold 152 = .ok (.iconst 2, 1) := by decide +kernel
theorem dX3_aloneTold_153 : decode cX3_aloneTold 153 = .ok (.invokevirtual 49, 3) := by decide +kernel
theorem dX3_aloneTold_156 : decode cX3_aloneTold 156 = .ok (.invokestatic 122, 3) := by decide +kernel
theorem dX3_aloneTold_159 : decode cX3_aloneTold 159 = .ok (.istore 4, 2) := by decide +kernel
theorem dX3_aloneTold_161 : decode cX3_aloneTold 161 = .ok (.iinc 5 1, 3) := by decide +kernel
theorem dX3_aloneTold_164 : decode cX3_aloneTold 164 = .ok (.goto (-64), 3) := by decide +kernel
theorem dX3_aloneTold_167 : decode cX3_aloneTold 167 = .ok (.iload 4, 2) := by decide +kernel
theorem dX3_aloneTold_169 : decode cX3_aloneTold 169 = .ok (.ireturn, 1) := by decide +kernel
set_option maxRecDepth 20000 in
theorem ggX3_alone_X3_isField : GoodIn wsX3_alone wsX3_isField := goodIn_r _ [6, 7, 8, 9, 5, 10, 46, 47, 48, 49, 50, 51, 52, 53, 54, 55, 56] (by decide +kernel) (by decide +kernel)
set_option maxRecDepth 20000 in
theorem gX3_alone_X3_isField : GoodIn wsX3_alone (wsV RX3 82 RX3 yX3_isField wsX3_isField) := goodIn_app (goodIn_of _ (by decide +kernel)) ggX3_alone_X3_isField
set_option maxRecDepth 20000 in
theorem ggX3_alone_X3_isIn : GoodIn wsX3_alone wsX3_isIn := goodIn_r _ [10] (by decide +kernel) (by decide +kernel)
set_option maxRecDepth 20000 in
theorem gX3_alone_X3_isIn : GoodIn wsX3_alone (va_wsS RX3 32 yX3_isIn wsX3_isIn) := goodIn_app (goodIn_of _ (by decide +kernel)) ggX3_alone_X3_isIn
set_option maxRecDepth 20000 in
theorem ggX3_alone_X3_aloneTold : GoodIn wsX3_alone wsX3_aloneTold := goodIn_r _ [14, 15, 16, 17, 18, 19, 20, 21, 22, 23, 5, 24, 25, 26, 27, 28, 29, 30, 31, 32, 33, 34, 35, 36, 37, 38, 39, 40, 41, 7, 46, 47, 48, 49, 50, 51, 52, 53, 54, 55, 56] (by decide +kernel) (by decide +kernel)
set_option maxRecDepth 20000 in
theorem gX3_alone_X3_aloneTold : GoodIn wsX3_alone (wsV RX3 127 RX3 yX3_aloneTold wsX3_aloneTold) := goodIn_app (goodIn_of _ (by decide +kernel)) ggX3_alone_X3_aloneTold
set_option maxRecDepth 20000 in
theorem ggX3_alone_X3_fail : GoodIn wsX3_alone wsX3_fail := goodIn_r _ [45, 1, 46, 47, 48, 49, 50, 51, 52, 53, 54, 55, 56] (by decide +kernel) (by decide +kernel)
set_option maxRecDepth 20000 in
theorem gX3_alone_X3_fail : GoodIn wsX3_alone (wsV RX3 79 RX3 yX3_fail wsX3_fail) := goodIn_app (goodIn_of _ (by decide +kernel)) ggX3_alone_X3_fail
theorem dX3_alone_0 : decode cX3_alone 0 = .ok (.aload_n 0, 1) := by decide +kernel
theorem dX3_alone_1 : decode cX3_alone 1 = .ok (.iconst 0, 1) := by decide +kernel
theorem dX3_alone_2 : decode cX3_alone 2 = .ok (.putfield 28, 3) := by decide +kernel
theorem dX3_alone_5 : decode cX3_alone 5 = .ok (.aload_n 0, 1) := by decide +kernel
theorem dX3_alone_6 : decode cX3_alone 6 = .ok (.iload_n 1, 1) := by decide +kernel
theorem dX3_alone_7 : decode cX3_alone 7 = .ok (.invokevirtual 82, 3) := by decide +kernel
theorem dX3_alone_10 : decode cX3_alone 10 = .ok (.ifCond .eq 21, 3) := by decide +kernel
theorem dX3_alone_13 : decode cX3_alone 13 = .ok (.iload_n 2, 1) := by decide +kernel
theorem dX3_alone_14 : decode cX3_alone 14 = .ok (.iconst 0, 1) := by decide +kernel
theorem dX3_alone_15 : decode cX3_alone 15 = .ok (.iconst 2, 1) := by decide +kernel
theorem dX3_alone_16 : decode cX3_alone 16 = .ok (.invokestatic 32, 3) := by decide +kernel
theorem dX3_alone_19 : decode cX3_alone 19 = .ok (.ifCond .eq 12, 3) := by decide +kernel
theorem dX3_alone_22 : decode cX3_alone 22 = .ok (.aload_n 0, 1) := by decide +kernel
theorem dX3_alone_23 : decode cX3_alone 23 = .ok (.iload_n 1, 1) := by decide +kernel
theorem dX3_alone_24 : decode cX3_alone 24 = .ok (.iload_n 2, 1) := by decide +kernel
theorem dX3_alone_25 : decode cX3_alone 25 = .ok (.invokevirtual 127, 3) := by decide +kernel
theorem dX3_alone_28 : decode cX3_alone 28 = .ok (.goto 8, 3) := by decide +kernel
theorem dX3_alone_31 : decode cX3_alone 31 = .ok (.aload_n 0, 1) := by decide +kernel
theorem dX3_alone_32 : decode cX3_alone 32 = .ok (.iconst 1, 1) := by decide +kernel
theorem dX3_alone_33 : decode cX3_alone 33 = .ok (.invokevirtual 79, 3) := by decide +kernel
theorem dX3_alone_36 : decode cX3_alone 36 = .ok (.ireturn, 1) := by decide +kernel
set_option maxRecDepth 20000 in
theorem ggX3_tried_X3_bi : GoodIn wsX3_tried wsX3_bi := goodIn_r _ [7, 1, 50, 51, 52, 53, 54, 55, 56, 57, 58, 59, 60] (by decide +kernel) (by decide +kernel)
set_option maxRecDepth 20000 in
theorem gX3_tried_X3_bi : GoodIn wsX3_tried (wsV RX3 49 RX3 yX3_bi wsX3_bi) := goodIn_app (goodIn_of _ (by decide +kernel)) ggX3_tried_X3_bi
set_option maxRecDepth 20000 in
theorem ggX3_tried_X3_sale : GoodIn wsX3_tried wsX3_sale := goodIn_r _ [11, 2, 12, 13, 14, 15, 16, 17, 18, 6, 19, 20, 3, 4, 5, 7, 1, 21, 22, 23, 24, 25, 26, 27, 28, 29, 30, 31, 32, 33, 50, 51, 52, 53, 54, 55, 56, 57, 58, 59, 60] (by decide +kernel) (by decide +kernel)
set_option maxRecDepth 20000 in
theorem gX3_tried_X3_sale : GoodIn wsX3_tried (wsV RX3 66 RX3 yX3_sale wsX3_sale) := goodIn_app (goodIn_of _ (by decide +kernel)) ggX3_tried_X3_sale
set_option maxRecDepth 20000 in
theorem ggX3_tried_X3_bit : GoodIn wsX3_tried wsX3_bit := goodIn_r _ [23] (by decide +kernel) (by decide +kernel)
set_option maxRecDepth 20000 in
theorem gX3_tried_X3_bit : GoodIn wsX3_tried (va_wsS RX3 45 yX3_bit wsX3_bit) := goodIn_app (goodIn_of _ (by decide +kernel)) ggX3_tried_X3_bit
set_option maxRecDepth 20000 in
theorem ggX3_tried_X3_paid : GoodIn wsX3_tried wsX3_paid := goodIn_r _ [37, 2, 8, 9, 10, 6, 11, 12, 13, 14, 15, 16, 17, 18, 19, 20, 3, 4, 5, 7, 1, 21, 22, 23, 24, 25, 26, 27, 28, 29, 30, 31, 32, 33, 38, 39, 40, 41, 42, 43, 44, 45, 50, 51, 52, 53, 54, 55, 56, 57, 58, 59, 60] (by decide +kernel) (by decide +kernel)
set_option maxRecDepth 20000 in
theorem gX3_tried_X3_paid : GoodIn wsX3_tried (wsV RX3 76 RX3 yX3_paid wsX3_paid) := goodIn_app (goodIn_of _ (by decide +kernel)) ggX3_tried_X3_paid
set_option maxRecDepth 20000 in
theorem ggX3_tried_X3_profit : GoodIn wsX3_tried wsX3_profit := goodIn_r _ [49, 8, 9, 10, 6, 11, 2, 12, 13, 14, 15, 16, 17, 18, 19, 20, 3, 4, 5, 7, 1, 21, 22, 23, 24, 25, 26, 27, 28, 29, 30, 31, 32, 33, 38, 39, 40, 41, 34, 35, 36, 37, 42, 43, 44, 45, 50, 51, 52, 53, 54, 55, 56, 57, 58, 59, 60] (by decide +kernel) (by decide +kernel)
set_option maxRecDepth 20000 in
theorem gX3_tried_X3_profit : GoodIn wsX3_tried (wsV RX3 107 RX3 yX3_profit wsX3_profit) := goodIn_app (goodIn_of _ (by decide +kernel)) ggX3_tried_X3_profit
theorem dX3_tried_0 : decode cX3_tried 0 = .ok (.aload_n 0, 1) := by decide +kernel
theorem dX3_tried_1 : decode cX3_tried 1 = .ok (.iload_n 1, 1) := by decide +kernel
theorem dX3_tried_2 : decode cX3_tried 2 = .ok (.iconst 2, 1) := by decide +kernel
theorem dX3_tried_3 : decode cX3_tried 3 = .ok (.invokevirtual 49, 3) := by decide +kernel
theorem dX3_tried_6 : decode cX3_tried 6 = .ok (.istore 4, 2) := by decide +kernel
theorem dX3_tried_8 : decode cX3_tried 8 = .ok (.aload_n 0, 1) := by decide +kernel
theorem dX3_tried_9 : decode cX3_tried 9 = .ok (.getfield 13, 3) := by decide +kernel
theorem dX3_tried_12 : decode cX3_tried 12 = .ok (.iconst 5, 1) := by decide +kernel
theorem dX3_tried_13 : decode cX3_tried 13 = .ok (.iload_n 1, 1) := by decide +kernel
theorem dX3_tried_14 : decode cX3_tried 14 = .ok (.imul, 1) := by decide +kernel
theorem dX3_tried_15 : decode cX3_tried 15 = .ok (.iconst 2, 1) := by decide +kernel
theorem dX3_tried_16 : decode cX3_tried 16 = .ok (.iadd, 1) := by decide +kernel
theorem dX3_tried_17 : decode cX3_tried 17 = .ok (.iload_n 2, 1) := by decide +kernel
theorem dX3_tried_18 : decode cX3_tried 18 = .ok (.iastore, 1) := by decide +kernel
theorem dX3_tried_19 : decode cX3_tried 19 = .ok (.iload_n 3, 1) := by decide +kernel
theorem dX3_tried_20 : decode cX3_tried 20 = .ok (.ifCond .ne 14, 3) := by decide +kernel
theorem dX3_tried_23 : decode cX3_tried 23 = .ok (.aload_n 0, 1) := by decide +kernel
theorem dX3_tried_24 : decode cX3_tried 24 = .ok (.invokevirtual 66, 3) := by decide +kernel
theorem dX3_tried_27 : decode cX3_tried 27 = .ok (.iload_n 1, 1) := by decide +kernel
theorem dX3_tried_28 : decode cX3_tried 28 = .ok (.invokestatic 45, 3) := by decide +kernel
theorem dX3_tried_31 : decode cX3_tried 31 = .ok (.goto 48, 3) := by decide +kernel
theorem dX3_tried_34 : decode cX3_tried 34 = .ok (.iload_n 3, 1) := by decide +kernel
theorem dX3_tried_35 : decode cX3_tried 35 = .ok (.iconst 1, 1) := by decide +kernel
theorem dX3_tried_36 : decode cX3_tried 36 = .ok (.if_icmp .ne 16, 3) := by decide +kernel
theorem dX3_tried_39 : decode cX3_tried 39 = .ok (.aload_n 0, 1) := by decide +kernel
theorem dX3_tried_40 : decode cX3_tried 40 = .ok (.aload_n 0, 1) := by decide +kernel
theorem dX3_tried_41 : decode cX3_tried 41 = .ok (.iload_n 1, 1) := by decide +kernel
theorem dX3_tried_42 : decode cX3_tried 42 = .ok (.iconst 0, 1) := by decide +kernel
theorem dX3_tried_43 : decode cX3_tried 43 = .ok (.invokevirtual 49, 3) := by decide +kernel
theorem dX3_tried_46 : decode cX3_tried 46 = .ok (.invokevirtual 76, 3) := by decide +kernel
theorem dX3_tried_49 : decode cX3_tried 49 = .ok (.goto 30, 3) := by decide +kernel
theorem dX3_tried_52 : decode cX3_tried 52 = .ok (.iload_n 3, 1) := by decide +kernel
theorem dX3_tried_53 : decode cX3_tried 53 = .ok (.iconst 2, 1) := by decide +kernel
theorem dX3_tried_54 : decode cX3_tried 54 = .ok (.if_icmp .ne 16, 3) := by decide +kernel
theorem dX3_tried_57 : decode cX3_tried 57 = .ok (.aload_n 0, 1) := by decide +kernel
theorem dX3_tried_58 : decode cX3_tried 58 = .ok (.aload_n 0, 1) := by decide +kernel
theorem dX3_tried_59 : decode cX3_tried 59 = .ok (.iload_n 1, 1) := by decide +kernel
theorem dX3_tried_60 : decode cX3_tried 60 = .ok (.iconst 0, 1) := by decide +kernel
theorem dX3_tried_61 : decode cX3_tried 61 = .ok (.invokevirtual 49, 3) := by decide +kernel
theorem dX3_tried_64 : decode cX3_tried 64 = .ok (.invokevirtual 107, 3) := by decide +kernel
theorem dX3_tried_67 : decode cX3_tried 67 = .ok (.goto 12, 3) := by decide +kernel
theorem dX3_tried_70 : decode cX3_tried 70 = .ok (.aload_n 0, 1) := by decide +kernel
theorem dX3_tried_71 : decode cX3_tried 71 = .ok (.getfield 22, 3) := by decide +kernel
theorem dX3_tried_74 : decode cX3_tried 74 = .ok (.aload_n 0, 1) := by decide +kernel
theorem dX3_tried_75 : decode cX3_tried 75 = .ok (.invokevirtual 66, 3) := by decide +kernel
theorem dX3_tried_78 : decode cX3_tried 78 = .ok (.iaload, 1) := by decide +kernel
theorem dX3_tried_79 : decode cX3_tried 79 = .ok (.istore 5, 2) := by decide +kernel
theorem dX3_tried_81 : decode cX3_tried 81 = .ok (.aload_n 0, 1) := by decide +kernel
theorem dX3_tried_82 : decode cX3_tried 82 = .ok (.getfield 13, 3) := by decide +kernel
theorem dX3_tried_85 : decode cX3_tried 85 = .ok (.iconst 5, 1) := by decide +kernel
theorem dX3_tried_86 : decode cX3_tried 86 = .ok (.iload_n 1, 1) := by decide +kernel
theorem dX3_tried_87 : decode cX3_tried 87 = .ok (.imul, 1) := by decide +kernel
theorem dX3_tried_88 : decode cX3_tried 88 = .ok (.iconst 2, 1) := by decide +kernel
theorem dX3_tried_89 : decode cX3_tried 89 = .ok (.iadd, 1) := by decide +kernel
theorem dX3_tried_90 : decode cX3_tried 90 = .ok (.iload 4, 2) := by decide +kernel
theorem dX3_tried_92 : decode cX3_tried 92 = .ok (.iastore, 1) := by decide +kernel
theorem dX3_tried_93 : decode cX3_tried 93 = .ok (.iload 5, 2) := by decide +kernel
theorem dX3_tried_95 : decode cX3_tried 95 = .ok (.ireturn, 1) := by decide +kernel
set_option maxRecDepth 20000 in
theorem ggX3_would_X3_isBid : GoodIn wsX3_would wsX3_isBid := goodIn_r _ [6, 7, 8, 9, 5, 10, 69, 70, 71, 72, 73, 74, 75, 76, 77, 78, 79] (by decide +kernel) (by decide +kernel)
set_option maxRecDepth 20000 in
theorem gX3_would_X3_isBid : GoodIn wsX3_would (wsV RX3 97 RX3 yX3_isBid wsX3_isBid) := goodIn_app (goodIn_of _ (by decide +kernel)) ggX3_would_X3_isBid
set_option maxRecDepth 20000 in
theorem ggX3_would_X3_isIn : GoodIn wsX3_would wsX3_isIn := goodIn_r _ [10] (by decide +kernel) (by decide +kernel)
set_option maxRecDepth 20000 in
theorem gX3_would_X3_isIn : GoodIn wsX3_would (va_wsS RX3 32 yX3_isIn wsX3_isIn) := goodIn_app (goodIn_of _ (by decide +kernel)) ggX3_would_X3_isIn
set_option maxRecDepth 20000 in
theorem ggX3_would_X3_fail : GoodIn wsX3_would wsX3_fail := goodIn_r _ [14, 1, 69, 70, 71, 72, 73, 74, 75, 76, 77, 78, 79] (by decide +kernel) (by decide +kernel)
set_option maxRecDepth 20000 in
theorem gX3_would_X3_fail : GoodIn wsX3_would (wsV RX3 79 RX3 yX3_fail wsX3_fail) := goodIn_app (goodIn_of _ (by decide +kernel)) ggX3_would_X3_fail
set_option maxRecDepth 20000 in
theorem ggX3_would_X3_isPrice : GoodIn wsX3_would wsX3_isPrice := goodIn_r _ [17, 8, 9, 5, 10] (by decide +kernel) (by decide +kernel)
set_option maxRecDepth 20000 in
theorem gX3_would_X3_isPrice : GoodIn wsX3_would (va_wsS RX3 88 yX3_isPrice wsX3_isPrice) := goodIn_app (goodIn_of _ (by decide +kernel)) ggX3_would_X3_isPrice
set_option maxRecDepth 20000 in
theorem ggX3_would_X3_tried : GoodIn wsX3_would wsX3_tried := goodIn_r _ [21, 22, 23, 24, 25, 26, 5, 27, 28, 29, 30, 31, 32, 7, 33, 34, 35, 36, 37, 38, 39, 40, 41, 42, 43, 44, 45, 46, 47, 48, 49, 50, 51, 52, 53, 54, 55, 56, 57, 58, 59, 60, 61, 62, 63, 64, 65, 66, 67, 68, 69, 70, 71, 72, 73, 74, 75, 76, 77, 78, 79] (by decide +kernel) (by decide +kernel)
set_option maxRecDepth 20000 in
theorem gX3_would_X3_tried : GoodIn wsX3_would (wsV RX3 130 RX3 yX3_tried wsX3_tried) := goodIn_app (goodIn_of _ (by decide +kernel)) ggX3_would_X3_tried
theorem dX3_would_0 : decode cX3_would 0 = .ok (.aload_n 0, 1) := by decide +kernel
theorem dX3_would_1 : decode cX3_would 1 = .ok (.iconst 0, 1) := by decide +kernel
theorem dX3_would_2 : decode cX3_would 2 = .ok (.putfield 28, 3) := by decide +kernel
theorem dX3_would_5 : decode cX3_would 5 = .ok (.aload_n 0, 1) := by decide +kernel
theorem dX3_would_6 : decode cX3_would 6 = .ok (.iload_n 1, 1) := by decide +kernel
theorem dX3_would_7 : decode cX3_would 7 = .ok (.invokevirtual 97, 3) := by decide +kernel
theorem dX3_would_10 : decode cX3_would 10 = .ok (.ifCond .eq 12, 3) := by decide +kernel
theorem dX3_would_13 : decode cX3_would 13 = .ok (.iload_n 3, 1) := by decide +kernel
theorem dX3_would_14 : decode cX3_would 14 = .ok (.iconst 0, 1) := by decide +kernel
theorem dX3_would_15 : decode cX3_would 15 = .ok (.iconst 3, 1) := by decide +kernel
theorem dX3_would_16 : decode cX3_would 16 = .ok (.invokestatic 32, 3) := by decide +kernel
theorem dX3_would_19 : decode cX3_would 19 = .ok (.ifCond .ne 9, 3) := by decide +kernel
theorem dX3_would_22 : decode cX3_would 22 = .ok (.aload_n 0, 1) := by decide +kernel
theorem dX3_would_23 : decode cX3_would 23 = .ok (.iconst 1, 1) := by decide +kernel
theorem dX3_would_24 : decode cX3_would 24 = .ok (.invokevirtual 79, 3) := by decide +kernel
theorem dX3_would_27 : decode cX3_would 27 = .ok (.ireturn, 1) := by decide +kernel
theorem dX3_would_28 : decode cX3_would 28 = .ok (.iload_n 2, 1) := by decide +kernel
theorem dX3_would_29 : decode cX3_would 29 = .ok (.invokestatic 88, 3) := by decide +kernel
theorem dX3_would_32 : decode cX3_would 32 = .ok (.ifCond .eq 13, 3) := by decide +kernel
theorem dX3_would_35 : decode cX3_would 35 = .ok (.aload_n 0, 1) := by decide +kernel
theorem dX3_would_36 : decode cX3_would 36 = .ok (.iload_n 1, 1) := by decide +kernel
theorem dX3_would_37 : decode cX3_would 37 = .ok (.iload_n 2, 1) := by decide +kernel
theorem dX3_would_38 : decode cX3_would 38 = .ok (.iload_n 3, 1) := by decide +kernel
theorem dX3_would_39 : decode cX3_would 39 = .ok (.invokevirtual 130, 3) := by decide +kernel
theorem dX3_would_42 : decode cX3_would 42 = .ok (.goto 8, 3) := by decide +kernel
theorem dX3_would_45 : decode cX3_would 45 = .ok (.aload_n 0, 1) := by decide +kernel
theorem dX3_would_46 : decode cX3_would 46 = .ok (.iconst 2, 1) := by decide +kernel
theorem dX3_would_47 : decode cX3_would 47 = .ok (.invokevirtual 79, 3) := by decide +kernel
theorem dX3_would_50 : decode cX3_would 50 = .ok (.ireturn, 1) := by decide +kernel
set_option maxRecDepth 20000 in
theorem ggX3_least_X3_isBid : GoodIn wsX3_least wsX3_isBid := goodIn_r _ [6, 7, 8, 9, 5, 10, 66, 67, 68, 69, 70, 71, 72, 73, 74, 75, 76] (by decide +kernel) (by decide +kernel)
set_option maxRecDepth 20000 in
theorem gX3_least_X3_isBid : GoodIn wsX3_least (wsV RX3 97 RX3 yX3_isBid wsX3_isBid) := goodIn_app (goodIn_of _ (by decide +kernel)) ggX3_least_X3_isBid
set_option maxRecDepth 20000 in
theorem ggX3_least_X3_fail : GoodIn wsX3_least wsX3_fail := goodIn_r _ [14, 1, 66, 67, 68, 69, 70, 71, 72, 73, 74, 75, 76] (by decide +kernel) (by decide +kernel)
set_option maxRecDepth 20000 in
theorem gX3_least_X3_fail : GoodIn wsX3_least (wsV RX3 79 RX3 yX3_fail wsX3_fail) := goodIn_app (goodIn_of _ (by decide +kernel)) ggX3_least_X3_fail
set_option maxRecDepth 20000 in
theorem ggX3_least_X3_tried : GoodIn wsX3_least wsX3_tried := goodIn_r _ [18, 19, 20, 21, 22, 23, 5, 24, 25, 26, 27, 28, 29, 7, 30, 31, 32, 33, 34, 35, 36, 37, 38, 39, 40, 41, 42, 43, 44, 45, 46, 47, 48, 49, 50, 51, 52, 53, 54, 55, 56, 57, 58, 59, 60, 61, 62, 63, 64, 65, 66, 67, 68, 69, 70, 71, 72, 73, 74, 75, 76] (by decide +kernel) (by decide +kernel)
set_option maxRecDepth 20000 in
theorem gX3_least_X3_tried : GoodIn wsX3_least (wsV RX3 130 RX3 yX3_tried wsX3_tried) := goodIn_app (goodIn_of _ (by decide +kernel)) ggX3_least_X3_tried
theorem dX3_least_0 : decode cX3_least 0 = .ok (.aload_n 0, 1) := by decide +kernel
theorem dX3_least_1 : decode cX3_least 1 = .ok (.iconst 0, 1) := by decide +kernel
theorem dX3_least_2 : decode cX3_least 2 = .ok (.putfield 28, 3) := by decide +kernel
theorem dX3_least_5 : decode cX3_least 5 = .ok (.aload_n 0, 1) := by decide +kernel
theorem dX3_least_6 : decode cX3_least 6 = .ok (.iload_n 1, 1) := by decide +kernel
theorem dX3_least_7 : decode cX3_least 7 = .ok (.invokevirtual 97, 3) := by decide +kernel
theorem dX3_least_10 : decode cX3_least 10 = .ok (.ifCond .ne 9, 3) := by decide +kernel
theorem dX3_least_13 : decode cX3_least 13 = .ok (.aload_n 0, 1) := by decide +kernel
theorem dX3_least_14 : decode cX3_least 14 = .ok (.iconst 1, 1) := by decide +kernel
theorem dX3_least_15 : decode cX3_least 15 = .ok (.invokevirtual 79, 3) := by decide +kernel
theorem dX3_least_18 : decode cX3_least 18 = .ok (.ireturn, 1) := by decide +kernel
theorem dX3_least_19 : decode cX3_least 19 = .ok (.aload_n 0, 1) := by decide +kernel
theorem dX3_least_20 : decode cX3_least 20 = .ok (.iload_n 1, 1) := by decide +kernel
theorem dX3_least_21 : decode cX3_least 21 = .ok (.sipush 999, 3) := by decide +kernel
theorem dX3_least_24 : decode cX3_least 24 = .ok (.iconst 0, 1) := by decide +kernel
theorem dX3_least_25 : decode cX3_least 25 = .ok (.invokevirtual 130, 3) := by decide +kernel
theorem dX3_least_28 : decode cX3_least 28 = .ok (.ifCond .ne 5, 3) := by decide +kernel
theorem dX3_least_31 : decode cX3_least 31 = .ok (.iconst (-1), 1) := by decide +kernel
theorem dX3_least_32 : decode cX3_least 32 = .ok (.ireturn, 1) := by decide +kernel
theorem dX3_least_33 : decode cX3_least 33 = .ok (.iconst (-1), 1) := by decide +kernel
theorem dX3_least_34 : decode cX3_least 34 = .ok (.istore_n 2, 1) := by decide +kernel
theorem dX3_least_35 : decode cX3_least 35 = .ok (.sipush 999, 3) := by decide +kernel
theorem dX3_least_38 : decode cX3_least 38 = .ok (.istore_n 3, 1) := by decide +kernel
theorem dX3_least_39 : decode cX3_least 39 = .ok (.iload_n 3, 1) := by decide +kernel
theorem dX3_least_40 : decode cX3_least 40 = .ok (.iload_n 2, 1) := by decide +kernel
theorem dX3_least_41 : decode cX3_least 41 = .ok (.isub, 1) := by decide +kernel
theorem dX3_least_42 : decode cX3_least 42 = .ok (.iconst 1, 1) := by decide +kernel
theorem dX3_least_43 : decode cX3_least 43 = .ok (.if_icmp .le 36, 3) := by decide +kernel
theorem dX3_least_46 : decode cX3_least 46 = .ok (.iload_n 2, 1) := by decide +kernel
theorem dX3_least_47 : decode cX3_least 47 = .ok (.iload_n 3, 1) := by decide +kernel
theorem dX3_least_48 : decode cX3_least 48 = .ok (.iadd, 1) := by decide +kernel
theorem dX3_least_49 : decode cX3_least 49 = .ok (.iconst 1, 1) := by decide +kernel
theorem dX3_least_50 : decode cX3_least 50 = .ok (.iadd, 1) := by decide +kernel
theorem dX3_least_51 : decode cX3_least 51 = .ok (.iconst 2, 1) := by decide +kernel
theorem dX3_least_52 : decode cX3_least 52 = .ok (.idiv, 1) := by decide +kernel
theorem dX3_least_53 : decode cX3_least 53 = .ok (.istore 4, 2) := by decide +kernel
theorem dX3_least_55 : decode cX3_least 55 = .ok (.aload_n 0, 1) := by decide +kernel
theorem dX3_least_56 : decode cX3_least 56 = .ok (.iload_n 1, 1) := by decide +kernel
theorem dX3_least_57 : decode cX3_least 57 = .ok (.iload 4, 2) := by decide +kernel
theorem dX3_least_59 : decode cX3_least 59 = .ok (.iconst 0, 1) := by decide +kernel
theorem dX3_least_60 : decode cX3_least 60 = .ok (.invokevirtual 130, 3) := by decide +kernel
theorem dX3_least_63 : decode cX3_least 63 = .ok (.iconst 1, 1) := by decide +kernel
theorem dX3_least_64 : decode cX3_least 64 = .ok (.if_icmp .ne 9, 3) := by decide +kernel
theorem dX3_least_67 : decode cX3_least 67 = .ok (.iload 4, 2) := by decide +kernel
theorem dX3_least_69 : decode cX3_least 69 = .ok (.istore_n 3, 1) := by decide +kernel
theorem dX3_least_70 : decode cX3_least 70 = .ok (.goto 6, 3) := by decide +kernel
theorem dX3_least_73 : decode cX3_least 73 = .ok (.iload 4, 2) := by decide +kernel
theorem dX3_least_75 : decode cX3_least 75 = .ok (.istore_n 2, 1) := by decide +kernel
theorem dX3_least_76 : decode cX3_least 76 = .ok (.goto (-37), 3) := by decide +kernel
theorem dX3_least_79 : decode cX3_least 79 = .ok (.iload_n 3, 1) := by decide +kernel
theorem dX3_least_80 : decode cX3_least 80 = .ok (.ireturn, 1) := by decide +kernel
set_option maxRecDepth 20000 in
theorem ggX3_rival_X3_allPaid : GoodIn wsX3_rival wsX3_allPaid := goodIn_r _ [8, 3, 9, 10, 11, 7, 12, 13, 14, 15, 16, 17, 18, 19, 20, 21, 22, 23, 24, 25, 2, 26, 27, 28, 29, 30, 31, 32, 33, 34, 35, 36, 37, 38, 39, 40, 41, 42, 43, 44, 45, 46, 47, 48, 49, 50, 51, 52, 53, 54, 55, 56, 57, 58, 59, 60, 61, 62] (by decide +kernel) (by decide +kernel)
set_option maxRecDepth 20000 in
theorem gX3_rival_X3_allPaid : GoodIn wsX3_rival (wsV RX3 116 RX3 yX3_allPaid wsX3_allPaid) := goodIn_app (goodIn_of _ (by decide +kernel)) ggX3_rival_X3_allPaid
theorem dX3_rival_0 : decode cX3_rival 0 = .ok (.aload_n 0, 1) := by decide +kernel
theorem dX3_rival_1 : decode cX3_rival 1 = .ok (.iconst 0, 1) := by decide +kernel
theorem dX3_rival_2 : decode cX3_rival 2 = .ok (.putfield 28, 3) := by decide +kernel
theorem dX3_rival_5 : decode cX3_rival 5 = .ok (.iconst (-1), 1) := by decide +kernel
theorem dX3_rival_6 : decode cX3_rival 6 = .ok (.istore_n 1, 1) := by decide +kernel
theorem dX3_rival_7 : decode cX3_rival 7 = .ok (.iconst (-1), 1) := by decide +kernel
theorem dX3_rival_8 : decode cX3_rival 8 = .ok (.istore_n 2, 1) := by decide +kernel
theorem dX3_rival_9 : decode cX3_rival 9 = .ok (.aload_n 0, 1) := by decide +kernel
theorem dX3_rival_10 : decode cX3_rival 10 = .ok (.getfield 56, 3) := by decide +kernel
theorem dX3_rival_13 : decode cX3_rival 13 = .ok (.istore_n 3, 1) := by decide +kernel
theorem dX3_rival_14 : decode cX3_rival 14 = .ok (.iconst 0, 1) := by decide +kernel
theorem dX3_rival_15 : decode cX3_rival 15 = .ok (.istore 4, 2) := by decide +kernel
theorem dX3_rival_17 : decode cX3_rival 17 = .ok (.iload 4, 2) := by decide +kernel
theorem dX3_rival_19 : decode cX3_rival 19 = .ok (.aload_n 0, 1) := by decide +kernel
theorem dX3_rival_20 : decode cX3_rival 20 = .ok (.getfield 39, 3) := by decide +kernel
theorem dX3_rival_23 : decode cX3_rival 23 = .ok (.if_icmp .ge 40, 3) := by decide +kernel
theorem dX3_rival_26 : decode cX3_rival 26 = .ok (.aload_n 0, 1) := by decide +kernel
theorem dX3_rival_27 : decode cX3_rival 27 = .ok (.iload_n 3, 1) := by decide +kernel
theorem dX3_rival_28 : decode cX3_rival 28 = .ok (.iconst 1, 1) := by decide +kernel
theorem dX3_rival_29 : decode cX3_rival 29 = .ok (.iload 4, 2) := by decide +kernel
theorem dX3_rival_31 : decode cX3_rival 31 = .ok (.ishl, 1) := by decide +kernel
theorem dX3_rival_32 : decode cX3_rival 32 = .ok (.ior, 1) := by decide +kernel
theorem dX3_rival_33 : decode cX3_rival 33 = .ok (.putfield 56, 3) := by decide +kernel
theorem dX3_rival_36 : decode cX3_rival 36 = .ok (.aload_n 0, 1) := by decide +kernel
theorem dX3_rival_37 : decode cX3_rival 37 = .ok (.invokevirtual 116, 3) := by decide +kernel
theorem dX3_rival_40 : decode cX3_rival 40 = .ok (.istore 5, 2) := by decide +kernel
theorem dX3_rival_42 : decode cX3_rival 42 = .ok (.iload 5, 2) := by decide +kernel
theorem dX3_rival_44 : decode cX3_rival 44 = .ok (.iload_n 2, 1) := by decide +kernel
theorem dX3_rival_45 : decode cX3_rival 45 = .ok (.if_icmp .gt 6, 3) := by decide +kernel
theorem dX3_rival_48 : decode cX3_rival 48 = .ok (.goto 9, 3) := by decide +kernel
theorem dX3_rival_51 : decode cX3_rival 51 = .ok (.iload 4, 2) := by decide +kernel
theorem dX3_rival_53 : decode cX3_rival 53 = .ok (.istore_n 1, 1) := by decide +kernel
theorem dX3_rival_54 : decode cX3_rival 54 = .ok (.iload 5, 2) := by decide +kernel
theorem dX3_rival_56 : decode cX3_rival 56 = .ok (.istore_n 2, 1) := by decide +kernel
theorem dX3_rival_57 : decode cX3_rival 57 = .ok (.iinc 4 1, 3) := by decide +kernel
theorem dX3_rival_60 : decode cX3_rival 60 = .ok (.goto (-43), 3) := by decide +kernel
theorem dX3_rival_63 : decode cX3_rival 63 = .ok (.aload_n 0, 1) := by decide +kernel
theorem dX3_rival_64 : decode cX3_rival 64 = .ok (.iload_n 3, 1) := by decide +kernel
theorem dX3_rival_65 : decode cX3_rival 65 = .ok (.putfield 56, 3) := by decide +kernel
theorem dX3_rival_68 : decode cX3_rival 68 = .ok (.iload_n 1, 1) := by decide +kernel
theorem dX3_rival_69 : decode cX3_rival 69 = .ok (.ireturn, 1) := by decide +kernel
set_option maxRecDepth 20000 in
theorem ggX3_mean_X3_sale : GoodIn wsX3_mean wsX3_sale := goodIn_r _ [7, 8, 2, 9, 10, 11, 12, 13, 14, 6, 15, 16, 17, 18, 19, 20, 21, 22, 23, 24, 25, 26, 27, 28, 29, 30, 31, 32, 33, 34, 52, 53, 54, 55, 56, 57, 58, 59, 60, 61, 62] (by decide +kernel) (by decide +kernel)
set_option maxRecDepth 20000 in
theorem gX3_mean_X3_sale : GoodIn wsX3_mean (wsV RX3 66 RX3 yX3_sale wsX3_sale) := goodIn_app (goodIn_of _ (by decide +kernel)) ggX3_mean_X3_sale
set_option maxRecDepth 20000 in
theorem ggX3_mean_X3_allPaid : GoodIn wsX3_mean wsX3_allPaid := goodIn_r _ [38, 39, 40, 41, 42, 6, 43, 8, 3, 4, 5, 7, 2, 9, 10, 11, 12, 13, 14, 15, 16, 17, 18, 19, 20, 21, 22, 23, 24, 25, 26, 27, 28, 29, 30, 31, 32, 33, 34, 44, 45, 46, 47, 48, 49, 50, 51, 52, 53, 54, 55, 56, 57, 58, 59, 60, 61, 62] (by decide +kernel) (by decide +kernel)
set_option maxRecDepth 20000 in
theorem gX3_mean_X3_allPaid : GoodIn wsX3_mean (wsV RX3 116 RX3 yX3_allPaid wsX3_allPaid) := goodIn_app (goodIn_of _ (by decide +kernel)) ggX3_mean_X3_allPaid
theorem dX3_mean_0 : decode cX3_mean 0 = .ok (.aload_n 0, 1) := by decide +kernel
theorem dX3_mean_1 : decode cX3_mean 1 = .ok (.iconst 0, 1) := by decide +kernel
theorem dX3_mean_2 : decode cX3_mean 2 = .ok (.putfield 28, 3) := by decide +kernel
theorem dX3_mean_5 : decode cX3_mean 5 = .ok (.aload_n 0, 1) := by decide +kernel
theorem dX3_mean_6 : decode cX3_mean 6 = .ok (.getfield 25, 3) := by decide +kernel
theorem dX3_mean_9 : decode cX3_mean 9 = .ok (.aload_n 0, 1) := by decide +kernel
theorem dX3_mean_10 : decode cX3_mean 10 = .ok (.invokevirtual 66, 3) := by decide +kernel
theorem dX3_mean_13 : decode cX3_mean 13 = .ok (.iaload, 1) := by decide +kernel
theorem dX3_mean_14 : decode cX3_mean 14 = .ok (.istore_n 1, 1) := by decide +kernel
theorem dX3_mean_15 : decode cX3_mean 15 = .ok (.iload_n 1, 1) := by decide +kernel
theorem dX3_mean_16 : decode cX3_mean 16 = .ok (.ifCond .ne 7, 3) := by decide +kernel
theorem dX3_mean_19 : decode cX3_mean 19 = .ok (.dconst 0, 1) := by decide +kernel
theorem dX3_mean_20 : decode cX3_mean 20 = .ok (.goto 11, 3) := by decide +kernel
theorem dX3_mean_23 : decode cX3_mean 23 = .ok (.aload_n 0, 1) := by decide +kernel
theorem dX3_mean_24 : decode cX3_mean 24 = .ok (.invokevirtual 116, 3) := by decide +kernel
theorem dX3_mean_27 : decode cX3_mean 27 = .ok (.i2d, 1) := by decide +kernel
theorem dX3_mean_28 : decode cX3_mean 28 = .ok (.iload_n 1, 1) := by decide +kernel
theorem dX3_mean_29 : decode cX3_mean 29 = .ok (.i2d, 1) := by decide +kernel
theorem dX3_mean_30 : decode cX3_mean 30 = .ok (.ddiv, 1) := by decide +kernel
theorem dX3_mean_31 : decode cX3_mean 31 = .ok (.dreturn, 1) := by decide +kernel
set_option maxRecDepth 20000 in
theorem ggX3_digest_X3_counted : GoodIn wsX3_digest wsX3_counted := goodIn_r _ [11, 4, 5, 6, 12, 13, 14, 15, 16, 10, 17, 18, 19, 20, 21, 22, 23, 24, 25, 26, 27, 28, 29, 30, 31, 32, 33, 34, 35, 36, 37, 38, 39, 40, 41, 42, 43, 44, 45, 46, 47, 48, 49, 50, 51, 52, 53, 54, 55, 56, 57, 58, 59, 60, 61, 62, 63, 64, 65, 82, 83, 84, 85, 86, 87, 88, 89, 90, 91, 92] (by decide +kernel) (by decide +kernel)
set_option maxRecDepth 20000 in
theorem gX3_digest_X3_counted : GoodIn wsX3_digest (wsV RX3 119 RX3 yX3_counted wsX3_counted) := goodIn_app (goodIn_of _ (by decide +kernel)) ggX3_digest_X3_counted
set_option maxRecDepth 20000 in
theorem ggX3_digest_X3_fieldTold : GoodIn wsX3_digest wsX3_fieldTold := goodIn_r _ [45, 41, 6, 14, 15, 16, 10, 17, 12, 13, 18, 19, 20, 21, 22, 23, 24, 25, 26, 27, 28, 29, 30, 31, 32, 33, 34, 35, 36, 37, 38, 39, 40, 4, 82, 83, 84, 85, 86, 87, 88, 89, 90, 91, 92] (by decide +kernel) (by decide +kernel)
set_option maxRecDepth 20000 in
theorem gX3_digest_X3_fieldTold : GoodIn wsX3_digest (wsV RX3 113 RX3 yX3_fieldTold wsX3_fieldTold) := goodIn_app (goodIn_of _ (by decide +kernel)) ggX3_digest_X3_fieldTold
set_option maxRecDepth 20000 in
theorem ggX3_digest_X3_aloneTold : GoodIn wsX3_digest wsX3_aloneTold := goodIn_r _ [69, 6, 41, 70, 71, 72, 73, 20, 21, 22, 10, 23, 24, 25, 26, 27, 28, 29, 30, 31, 32, 33, 34, 35, 36, 37, 38, 39, 40, 4, 82, 83, 84, 85, 86, 87, 88, 89, 90, 91, 92] (by decide +kernel) (by decide +kernel)
set_option maxRecDepth 20000 in
theorem gX3_digest_X3_aloneTold : GoodIn wsX3_digest (wsV RX3 127 RX3 yX3_aloneTold wsX3_aloneTold) := goodIn_app (goodIn_of _ (by decide +kernel)) ggX3_digest_X3_aloneTold
set_option maxRecDepth 20000 in
theorem ggX3_digest_X3_bidderTold : GoodIn wsX3_digest wsX3_bidderTold := goodIn_r _ [77, 24, 6, 30, 31, 10, 32, 25, 26, 27, 28, 29, 14, 15, 16, 17, 12, 13, 18, 19, 20, 21, 22, 23, 33, 34, 35, 36, 37, 38, 39, 40, 4, 41, 54, 55, 56, 57, 50, 51, 52, 53, 58, 59, 60, 61, 62, 63, 64, 65, 82, 83, 84, 85, 86, 87, 88, 89, 90, 91, 92] (by decide +kernel) (by decide +kernel)
set_option maxRecDepth 20000 in
theorem gX3_digest_X3_bidderTold : GoodIn wsX3_digest (wsV RX3 110 RX3 yX3_bidderTold wsX3_bidderTold) := goodIn_app (goodIn_of _ (by decide +kernel)) ggX3_digest_X3_bidderTold
set_option maxRecDepth 20000 in
theorem ggX3_digest_X3_bidTold : GoodIn wsX3_digest wsX3_bidTold := goodIn_r _ [81, 33, 34, 35, 10, 36, 25, 26, 27, 28, 29, 37, 38, 39, 40, 4, 41, 30, 31, 32, 20, 21, 22, 23, 24, 14, 15, 16, 17, 12, 13, 6, 18, 19, 82, 83, 84, 85, 86, 87, 88, 89, 90, 91, 92] (by decide +kernel) (by decide +kernel)
set_option maxRecDepth 20000 in
theorem gX3_digest_X3_bidTold : GoodIn wsX3_digest (wsV RX3 104 RX3 yX3_bidTold wsX3_bidTold) := goodIn_app (goodIn_of _ (by decide +kernel)) ggX3_digest_X3_bidTold
theorem dX3_digest_0 : decode cX3_digest 0 = .ok (.aload_n 0, 1) := by decide +kernel
theorem dX3_digest_1 : decode cX3_digest 1 = .ok (.iconst 0, 1) := by decide +kernel
theorem dX3_digest_2 : decode cX3_digest 2 = .ok (.putfield 28, 3) := by decide +kernel
theorem dX3_digest_5 : decode cX3_digest 5 = .ok (.ldc2_w 133, 3) := by decide +kernel
theorem dX3_digest_8 : decode cX3_digest 8 = .ok (.lstore_n 1, 1) := by decide +kernel
theorem dX3_digest_9 : decode cX3_digest 9 = .ok (.iconst 0, 1) := by decide +kernel
theorem dX3_digest_10 : decode cX3_digest 10 = .ok (.istore_n 3, 1) := by decide +kernel
theorem dX3_digest_11 : decode cX3_digest 11 = .ok (.iload_n 3, 1) := by decide +kernel
theorem dX3_digest_12 : decode cX3_digest 12 = .ok (.bipush 9, 2) := by decide +kernel
theorem dX3_digest_14 : decode cX3_digest 14 = .ok (.if_icmp .ge 22, 3) := by decide +kernel
theorem dX3_digest_17 : decode cX3_digest 17 = .ok (.lload_n 1, 1) := by decide +kernel
theorem dX3_digest_18 : decode cX3_digest 18 = .ok (.ldc2_w 135, 3) := by decide +kernel
theorem dX3_digest_21 : decode cX3_digest 21 = .ok (.lmul, 1) := by decide +kernel
theorem dX3_digest_22 : decode cX3_digest 22 = .ok (.aload_n 0, 1) := by decide +kernel
theorem dX3_digest_23 : decode cX3_digest 23 = .ok (.iload_n 3, 1) := by decide +kernel
theorem dX3_digest_24 : decode cX3_digest 24 = .ok (.invokevirtual 119, 3) := by decide +kernel
theorem dX3_digest_27 : decode cX3_digest 27 = .ok (.i2l, 1) := by decide +kernel
theorem dX3_digest_28 : decode cX3_digest 28 = .ok (.ladd, 1) := by decide +kernel
theorem dX3_digest_29 : decode cX3_digest 29 = .ok (.lstore_n 1, 1) := by decide +kernel
theorem dX3_digest_30 : decode cX3_digest 30 = .ok (.iinc 3 1, 3) := by decide +kernel
theorem dX3_digest_33 : decode cX3_digest 33 = .ok (.goto (-22), 3) := by decide +kernel
theorem dX3_digest_36 : decode cX3_digest 36 = .ok (.iconst 0, 1) := by decide +kernel
theorem dX3_digest_37 : decode cX3_digest 37 = .ok (.istore_n 3, 1) := by decide +kernel
theorem dX3_digest_38 : decode cX3_digest 38 = .ok (.iload_n 3, 1) := by decide +kernel
theorem dX3_digest_39 : decode cX3_digest 39 = .ok (.aload_n 0, 1) := by decide +kernel
theorem dX3_digest_40 : decode cX3_digest 40 = .ok (.getfield 36, 3) := by decide +kernel
theorem dX3_digest_43 : decode cX3_digest 43 = .ok (.if_icmp .ge 69, 3) := by decide +kernel
theorem dX3_digest_46 : decode cX3_digest 46 = .ok (.iconst 0, 1) := by decide +kernel
theorem dX3_digest_47 : decode cX3_digest 47 = .ok (.istore 4, 2) := by decide +kernel
theorem dX3_digest_49 : decode cX3_digest 49 = .ok (.iload 4, 2) := by decide +kernel
theorem dX3_digest_51 : decode cX3_digest 51 = .ok (.iconst 3, 1) := by decide +kernel
theorem dX3_digest_52 : decode cX3_digest 52 = .ok (.if_icmp .ge 24, 3) := by decide +kernel
theorem dX3_digest_55 : decode cX3_digest 55 = .ok (.lload_n 1, 1) := by decide +kernel
theorem dX3_digest_56 : decode cX3_digest 56 = .ok (.ldc2_w 135, 3) := by decide +kernel
theorem dX3_digest_59 : decode cX3_digest 59 = .ok (.lmul, 1) := by decide +kernel
theorem dX3_digest_60 : decode cX3_digest 60 = .ok (.aload_n 0, 1) := by decide +kernel
theorem dX3_digest_61 : decode cX3_digest 61 = .ok (.iload_n 3, 1) := by decide +kernel
theorem dX3_digest_62 : decode cX3_digest 62 = .ok (.iload 4, 2) := by decide +kernel
theorem dX3_digest_64 : decode cX3_digest 64 = .ok (.invokevirtual 113, 3) := by decide +kernel
theorem dX3_digest_67 : decode cX3_digest 67 = .ok (.i2l, 1) := by decide +kernel
theorem dX3_digest_68 : decode cX3_digest 68 = .ok (.ladd, 1) := by decide +kernel
theorem dX3_digest_69 : decode cX3_digest 69 = .ok (.lstore_n 1, 1) := by decide +kernel
theorem dX3_digest_70 : decode cX3_digest 70 = .ok (.iinc 4 1, 3) := by decide +kernel
theorem dX3_digest_73 : decode cX3_digest 73 = .ok (.goto (-24), 3) := by decide +kernel
theorem dX3_digest_76 : decode cX3_digest 76 = .ok (.iconst 0, 1) := by decide +kernel
theorem dX3_digest_77 : decode cX3_digest 77 = .ok (.istore 4, 2) := by decide +kernel
theorem dX3_digest_79 : decode cX3_digest 79 = .ok (.iload 4, 2) := by decide +kernel
theorem dX3_digest_81 : decode cX3_digest 81 = .ok (.iconst 3, 1) := by decide +kernel
theorem dX3_digest_82 : decode cX3_digest 82 = .ok (.if_icmp .ge 24, 3) := by decide +kernel
theorem dX3_digest_85 : decode cX3_digest 85 = .ok (.lload_n 1, 1) := by decide +kernel
theorem dX3_digest_86 : decode cX3_digest 86 = .ok (.ldc2_w 135, 3) := by decide +kernel
theorem dX3_digest_89 : decode cX3_digest 89 = .ok (.lmul, 1) := by decide +kernel
theorem dX3_digest_90 : decode cX3_digest 90 = .ok (.aload_n 0, 1) := by decide +kernel
theorem dX3_digest_91 : decode cX3_digest 91 = .ok (.iload_n 3, 1) := by decide +kernel
theorem dX3_digest_92 : decode cX3_digest 92 = .ok (.iload 4, 2) := by decide +kernel
theorem dX3_digest_94 : decode cX3_digest 94 = .ok (.invokevirtual 127, 3) := by decide +kernel
theorem dX3_digest_97 : decode cX3_digest 97 = .ok (.i2l, 1) := by decide +kernel
theorem dX3_digest_98 : decode cX3_digest 98 = .ok (.ladd, 1) := by decide +kernel
theorem dX3_digest_99 : decode cX3_digest 99 = .ok (.lstore_n 1, 1) := by decide +kernel
theorem dX3_digest_100 : decode cX3_digest 100 = .ok (.iinc 4 1, 3) := by decide +kernel
theorem dX3_digest_103 : decode cX3_digest 103 = .ok (.goto (-24), 3) := by decide +kernel
theorem dX3_digest_106 : decode cX3_digest 106 = .ok (.iinc 3 1, 3) := by decide +kernel
theorem dX3_digest_109 : decode cX3_digest 109 = .ok (.goto (-71), 3) := by decide +kernel
theorem dX3_digest_112 : decode cX3_digest 112 = .ok (.iconst 0, 1) := by decide +kernel
theorem dX3_digest_113 : decode cX3_digest 113 = .ok (.istore_n 3, 1) := by decide +kernel
theorem dX3_digest_114 : decode cX3_digest 114 = .ok (.iload_n 3, 1) := by decide +kernel
theorem dX3_digest_115 : decode cX3_digest 115 = .ok (.aload_n 0, 1) := by decide +kernel
theorem dX3_digest_116 : decode cX3_digest 116 = .ok (.getfield 39, 3) := by decide +kernel
theorem dX3_digest_119 : decode cX3_digest 119 = .ok (.if_icmp .ge 40, 3) := by decide +kernel
theorem dX3_digest_122 : decode cX3_digest 122 = .ok (.iconst 0, 1) := by decide +kernel
theorem dX3_digest_123 : decode cX3_digest 123 = .ok (.istore 4, 2) := by decide +kernel
theorem dX3_digest_125 : decode cX3_digest 125 = .ok (.iload 4, 2) := by decide +kernel
theorem dX3_digest_127 : decode cX3_digest 127 = .ok (.bipush 6, 2) := by decide +kernel
theorem dX3_digest_129 : decode cX3_digest 129 = .ok (.if_icmp .ge 24, 3) := by decide +kernel
theorem dX3_digest_132 : decode cX3_digest 132 = .ok (.lload_n 1, 1) := by decide +kernel
theorem dX3_digest_133 : decode cX3_digest 133 = .ok (.ldc2_w 135, 3) := by decide +kernel
theorem dX3_digest_136 : decode cX3_digest 136 = .ok (.lmul, 1) := by decide +kernel
theorem dX3_digest_137 : decode cX3_digest 137 = .ok (.aload_n 0, 1) := by decide +kernel
theorem dX3_digest_138 : decode cX3_digest 138 = .ok (.iload_n 3, 1) := by decide +kernel
theorem dX3_digest_139 : decode cX3_digest 139 = .ok (.iload 4, 2) := by decide +kernel
theorem dX3_digest_141 : decode cX3_digest 141 = .ok (.invokevirtual 110, 3) := by decide +kernel
theorem dX3_digest_144 : decode cX3_digest 144 = .ok (.i2l, 1) := by decide +kernel
theorem dX3_digest_145 : decode cX3_digest 145 = .ok (.ladd, 1) := by decide +kernel
theorem dX3_digest_146 : decode cX3_digest 146 = .ok (.lstore_n 1, 1) := by decide +kernel
theorem dX3_digest_147 : decode cX3_digest 147 = .ok (.iinc 4 1, 3) := by decide +kernel
theorem dX3_digest_150 : decode cX3_digest 150 = .ok (.goto (-25), 3) := by decide +kernel
theorem dX3_digest_153 : decode cX3_digest 153 = .ok (.iinc 3 1, 3) := by decide +kernel
theorem dX3_digest_156 : decode cX3_digest 156 = .ok (.goto (-42), 3) := by decide +kernel
theorem dX3_digest_159 : decode cX3_digest 159 = .ok (.iconst 0, 1) := by decide +kernel
theorem dX3_digest_160 : decode cX3_digest 160 = .ok (.istore_n 3, 1) := by decide +kernel
theorem dX3_digest_161 : decode cX3_digest 161 = .ok (.iload_n 3, 1) := by decide +kernel
theorem dX3_digest_162 : decode cX3_digest 162 = .ok (.aload_n 0, 1) := by decide +kernel
theorem dX3_digest_163 : decode cX3_digest 163 = .ok (.getfield 42, 3) := by decide +kernel
theorem dX3_digest_166 : decode cX3_digest 166 = .ok (.if_icmp .ge 40, 3) := by decide +kernel
theorem dX3_digest_169 : decode cX3_digest 169 = .ok (.iconst 0, 1) := by decide +kernel
theorem dX3_digest_170 : decode cX3_digest 170 = .ok (.istore 4, 2) := by decide +kernel
theorem dX3_digest_172 : decode cX3_digest 172 = .ok (.iload 4, 2) := by decide +kernel
theorem dX3_digest_174 : decode cX3_digest 174 = .ok (.bipush 8, 2) := by decide +kernel
theorem dX3_digest_176 : decode cX3_digest 176 = .ok (.if_icmp .ge 24, 3) := by decide +kernel
theorem dX3_digest_179 : decode cX3_digest 179 = .ok (.lload_n 1, 1) := by decide +kernel
theorem dX3_digest_180 : decode cX3_digest 180 = .ok (.ldc2_w 135, 3) := by decide +kernel
theorem dX3_digest_183 : decode cX3_digest 183 = .ok (.lmul, 1) := by decide +kernel
theorem dX3_digest_184 : decode cX3_digest 184 = .ok (.aload_n 0, 1) := by decide +kernel
theorem dX3_digest_185 : decode cX3_digest 185 = .ok (.iload_n 3, 1) := by decide +kernel
theorem dX3_digest_186 : decode cX3_digest 186 = .ok (.iload 4, 2) := by decide +kernel
theorem dX3_digest_188 : decode cX3_digest 188 = .ok (.invokevirtual 104, 3) := by decide +kernel
theorem dX3_digest_191 : decode cX3_digest 191 = .ok (.i2l, 1) := by decide +kernel
theorem dX3_digest_192 : decode cX3_digest 192 = .ok (.ladd, 1) := by decide +kernel
theorem dX3_digest_193 : decode cX3_digest 193 = .ok (.lstore_n 1, 1) := by decide +kernel
theorem dX3_digest_194 : decode cX3_digest 194 = .ok (.iinc 4 1, 3) := by decide +kernel
theorem dX3_digest_197 : decode cX3_digest 197 = .ok (.goto (-25), 3) := by decide +kernel
theorem dX3_digest_200 : decode cX3_digest 200 = .ok (.iinc 3 1, 3) := by decide +kernel
theorem dX3_digest_203 : decode cX3_digest 203 = .ok (.goto (-42), 3) := by decide +kernel
theorem dX3_digest_206 : decode cX3_digest 206 = .ok (.lload_n 1, 1) := by decide +kernel
theorem dX3_digest_207 : decode cX3_digest 207 = .ok (.lreturn, 1) := by decide +kernel
