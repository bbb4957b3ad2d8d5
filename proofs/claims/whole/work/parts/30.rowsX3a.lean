theorem dX3_init_0 : decode cX3_init 0 = .ok (.aload_n 0, 1) := by decide +kernel
theorem dX3_init_1 : decode cX3_init 1 = .ok (.invokespecial 1, 3) := by decide +kernel
theorem dX3_init_4 : decode cX3_init 4 = .ok (.aload_n 0, 1) := by decide +kernel
theorem dX3_init_5 : decode cX3_init 5 = .ok (.bipush 8, 2) := by decide +kernel
theorem dX3_init_7 : decode cX3_init 7 = .ok (.newarray .int, 2) := by decide +kernel
theorem dX3_init_9 : decode cX3_init 9 = .ok (.putfield 9, 3) := by decide +kernel
theorem dX3_init_12 : decode cX3_init 12 = .ok (.aload_n 0, 1) := by decide +kernel
theorem dX3_init_13 : decode cX3_init 13 = .ok (.bipush 60, 2) := by decide +kernel
theorem dX3_init_15 : decode cX3_init 15 = .ok (.newarray .int, 2) := by decide +kernel
theorem dX3_init_17 : decode cX3_init 17 = .ok (.putfield 13, 3) := by decide +kernel
theorem dX3_init_20 : decode cX3_init 20 = .ok (.aload_n 0, 1) := by decide +kernel
theorem dX3_init_21 : decode cX3_init 21 = .ok (.sipush 4096, 3) := by decide +kernel
theorem dX3_init_24 : decode cX3_init 24 = .ok (.newarray .int, 2) := by decide +kernel
theorem dX3_init_26 : decode cX3_init 26 = .ok (.putfield 16, 3) := by decide +kernel
theorem dX3_init_29 : decode cX3_init 29 = .ok (.aload_n 0, 1) := by decide +kernel
theorem dX3_init_30 : decode cX3_init 30 = .ok (.sipush 4096, 3) := by decide +kernel
theorem dX3_init_33 : decode cX3_init 33 = .ok (.newarray .int, 2) := by decide +kernel
theorem dX3_init_35 : decode cX3_init 35 = .ok (.putfield 19, 3) := by decide +kernel
theorem dX3_init_38 : decode cX3_init 38 = .ok (.aload_n 0, 1) := by decide +kernel
theorem dX3_init_39 : decode cX3_init 39 = .ok (.sipush 4096, 3) := by decide +kernel
theorem dX3_init_42 : decode cX3_init 42 = .ok (.newarray .int, 2) := by decide +kernel
theorem dX3_init_44 : decode cX3_init 44 = .ok (.putfield 22, 3) := by decide +kernel
theorem dX3_init_47 : decode cX3_init 47 = .ok (.aload_n 0, 1) := by decide +kernel
theorem dX3_init_48 : decode cX3_init 48 = .ok (.sipush 4096, 3) := by decide +kernel
theorem dX3_init_51 : decode cX3_init 51 = .ok (.newarray .int, 2) := by decide +kernel
theorem dX3_init_53 : decode cX3_init 53 = .ok (.putfield 25, 3) := by decide +kernel
theorem dX3_init_56 : decode cX3_init 56 = .ok (.return_, 1) := by decide +kernel
theorem dX3_thrown_0 : decode cX3_thrown 0 = .ok (.aload_n 0, 1) := by decide +kernel
theorem dX3_thrown_1 : decode cX3_thrown 1 = .ok (.getfield 28, 3) := by decide +kernel
theorem dX3_thrown_4 : decode cX3_thrown 4 = .ok (.ireturn, 1) := by decide +kernel
theorem dX3_fail_0 : decode cX3_fail 0 = .ok (.aload_n 0, 1) := by decide +kernel
theorem dX3_fail_1 : decode cX3_fail 1 = .ok (.iload_n 1, 1) := by decide +kernel
theorem dX3_fail_2 : decode cX3_fail 2 = .ok (.putfield 28, 3) := by decide +kernel
theorem dX3_fail_5 : decode cX3_fail 5 = .ok (.iconst 0, 1) := by decide +kernel
theorem dX3_fail_6 : decode cX3_fail 6 = .ok (.ireturn, 1) := by decide +kernel
theorem dX3_isIn_0 : decode cX3_isIn 0 = .ok (.iload_n 0, 1) := by decide +kernel
theorem dX3_isIn_1 : decode cX3_isIn 1 = .ok (.iload_n 1, 1) := by decide +kernel
theorem dX3_isIn_2 : decode cX3_isIn 2 = .ok (.if_icmp .lt 12, 3) := by decide +kernel
theorem dX3_isIn_5 : decode cX3_isIn 5 = .ok (.iload_n 0, 1) := by decide +kernel
theorem dX3_isIn_6 : decode cX3_isIn 6 = .ok (.iload_n 2, 1) := by decide +kernel
theorem dX3_isIn_7 : decode cX3_isIn 7 = .ok (.if_icmp .gt 7, 3) := by decide +kernel
theorem dX3_isIn_10 : decode cX3_isIn 10 = .ok (.iconst 1, 1) := by decide +kernel
theorem dX3_isIn_11 : decode cX3_isIn 11 = .ok (.goto 4, 3) := by decide +kernel
theorem dX3_isIn_14 : decode cX3_isIn 14 = .ok (.iconst 0, 1) := by decide +kernel
theorem dX3_isIn_15 : decode cX3_isIn 15 = .ok (.ireturn, 1) := by decide +kernel
set_option maxRecDepth 20000 in
theorem ggX3_isPrice_X3_isIn : GoodIn wsX3_isPrice wsX3_isIn := goodIn_r _ [4] (by decide +kernel) (by decide +kernel)
set_option maxRecDepth 20000 in
theorem gX3_isPrice_X3_isIn : GoodIn wsX3_isPrice (va_wsS RX3 32 yX3_isIn wsX3_isIn) := goodIn_app (goodIn_of _ (by decide +kernel)) ggX3_isPrice_X3_isIn
theorem dX3_isPrice_0 : decode cX3_isPrice 0 = .ok (.iload_n 0, 1) := by decide +kernel
theorem dX3_isPrice_1 : decode cX3_isPrice 1 = .ok (.iconst 0, 1) := by decide +kernel
theorem dX3_isPrice_2 : decode cX3_isPrice 2 = .ok (.sipush 999, 3) := by decide +kernel
theorem dX3_isPrice_5 : decode cX3_isPrice 5 = .ok (.invokestatic 32, 3) := by decide +kernel
theorem dX3_isPrice_8 : decode cX3_isPrice 8 = .ok (.ireturn, 1) := by decide +kernel
set_option maxRecDepth 20000 in
theorem ggX3_isField_X3_isIn : GoodIn wsX3_isField wsX3_isIn := goodIn_r _ [5] (by decide +kernel) (by decide +kernel)
set_option maxRecDepth 20000 in
theorem gX3_isField_X3_isIn : GoodIn wsX3_isField (va_wsS RX3 32 yX3_isIn wsX3_isIn) := goodIn_app (goodIn_of _ (by decide +kernel)) ggX3_isField_X3_isIn
theorem dX3_isField_0 : decode cX3_isField 0 = .ok (.iload_n 1, 1) := by decide +kernel
theorem dX3_isField_1 : decode cX3_isField 1 = .ok (.iconst 0, 1) := by decide +kernel
theorem dX3_isField_2 : decode cX3_isField 2 = .ok (.aload_n 0, 1) := by decide +kernel
theorem dX3_isField_3 : decode cX3_isField 3 = .ok (.getfield 36, 3) := by decide +kernel
theorem dX3_isField_6 : decode cX3_isField 6 = .ok (.iconst 1, 1) := by decide +kernel
theorem dX3_isField_7 : decode cX3_isField 7 = .ok (.isub, 1) := by decide +kernel
theorem dX3_isField_8 : decode cX3_isField 8 = .ok (.invokestatic 32, 3) := by decide +kernel
theorem dX3_isField_11 : decode cX3_isField 11 = .ok (.ireturn, 1) := by decide +kernel
set_option maxRecDepth 20000 in
theorem ggX3_isBidder_X3_isIn : GoodIn wsX3_isBidder wsX3_isIn := goodIn_r _ [5] (by decide +kernel) (by decide +kernel)
set_option maxRecDepth 20000 in
theorem gX3_isBidder_X3_isIn : GoodIn wsX3_isBidder (va_wsS RX3 32 yX3_isIn wsX3_isIn) := goodIn_app (goodIn_of _ (by decide +kernel)) ggX3_isBidder_X3_isIn
theorem dX3_isBidder_0 : decode cX3_isBidder 0 = .ok (.iload_n 1, 1) := by decide +kernel
theorem dX3_isBidder_1 : decode cX3_isBidder 1 = .ok (.iconst 0, 1) := by decide +kernel
theorem dX3_isBidder_2 : decode cX3_isBidder 2 = .ok (.aload_n 0, 1) := by decide +kernel
theorem dX3_isBidder_3 : decode cX3_isBidder 3 = .ok (.getfield 39, 3) := by decide +kernel
theorem dX3_isBidder_6 : decode cX3_isBidder 6 = .ok (.iconst 1, 1) := by decide +kernel
theorem dX3_isBidder_7 : decode cX3_isBidder 7 = .ok (.isub, 1) := by decide +kernel
theorem dX3_isBidder_8 : decode cX3_isBidder 8 = .ok (.invokestatic 32, 3) := by decide +kernel
theorem dX3_isBidder_11 : decode cX3_isBidder 11 = .ok (.ireturn, 1) := by decide +kernel
set_option maxRecDepth 20000 in
theorem ggX3_isBid_X3_isIn : GoodIn wsX3_isBid wsX3_isIn := goodIn_r _ [5] (by decide +kernel) (by decide +kernel)
set_option maxRecDepth 20000 in
theorem gX3_isBid_X3_isIn : GoodIn wsX3_isBid (va_wsS RX3 32 yX3_isIn wsX3_isIn) := goodIn_app (goodIn_of _ (by decide +kernel)) ggX3_isBid_X3_isIn
theorem dX3_isBid_0 : decode cX3_isBid 0 = .ok (.iload_n 1, 1) := by decide +kernel
theorem dX3_isBid_1 : decode cX3_isBid 1 = .ok (.iconst 0, 1) := by decide +kernel
theorem dX3_isBid_2 : decode cX3_isBid 2 = .ok (.aload_n 0, 1) := by decide +kernel
theorem dX3_isBid_3 : decode cX3_isBid 3 = .ok (.getfield 42, 3) := by decide +kernel
theorem dX3_isBid_6 : decode cX3_isBid 6 = .ok (.iconst 1, 1) := by decide +kernel
theorem dX3_isBid_7 : decode cX3_isBid 7 = .ok (.isub, 1) := by decide +kernel
theorem dX3_isBid_8 : decode cX3_isBid 8 = .ok (.invokestatic 32, 3) := by decide +kernel
theorem dX3_isBid_11 : decode cX3_isBid 11 = .ok (.ireturn, 1) := by decide +kernel
theorem dX3_bi_0 : decode cX3_bi 0 = .ok (.aload_n 0, 1) := by decide +kernel
theorem dX3_bi_1 : decode cX3_bi 1 = .ok (.getfield 13, 3) := by decide +kernel
theorem dX3_bi_4 : decode cX3_bi 4 = .ok (.iconst 5, 1) := by decide +kernel
theorem dX3_bi_5 : decode cX3_bi 5 = .ok (.iload_n 1, 1) := by decide +kernel
theorem dX3_bi_6 : decode cX3_bi 6 = .ok (.imul, 1) := by decide +kernel
theorem dX3_bi_7 : decode cX3_bi 7 = .ok (.iload_n 2, 1) := by decide +kernel
theorem dX3_bi_8 : decode cX3_bi 8 = .ok (.iadd, 1) := by decide +kernel
theorem dX3_bi_9 : decode cX3_bi 9 = .ok (.iaload, 1) := by decide +kernel
theorem dX3_bi_10 : decode cX3_bi 10 = .ok (.ireturn, 1) := by decide +kernel
theorem dX3_bit_0 : decode cX3_bit 0 = .ok (.iload_n 0, 1) := by decide +kernel
theorem dX3_bit_1 : decode cX3_bit 1 = .ok (.iload_n 1, 1) := by decide +kernel
theorem dX3_bit_2 : decode cX3_bit 2 = .ok (.ishr, 1) := by decide +kernel
theorem dX3_bit_3 : decode cX3_bit 3 = .ok (.iconst 1, 1) := by decide +kernel
theorem dX3_bit_4 : decode cX3_bit 4 = .ok (.iand, 1) := by decide +kernel
theorem dX3_bit_5 : decode cX3_bit 5 = .ok (.ireturn, 1) := by decide +kernel
set_option maxRecDepth 20000 in
theorem ggX3_reserveOf_X3_bit : GoodIn wsX3_reserveOf wsX3_bit := goodIn_r _ [6] (by decide +kernel) (by decide +kernel)
set_option maxRecDepth 20000 in
theorem gX3_reserveOf_X3_bit : GoodIn wsX3_reserveOf (va_wsS RX3 45 yX3_bit wsX3_bit) := goodIn_app (goodIn_of _ (by decide +kernel)) ggX3_reserveOf_X3_bit
theorem dX3_reserveOf_0 : decode cX3_reserveOf 0 = .ok (.iconst 0, 1) := by decide +kernel
theorem dX3_reserveOf_1 : decode cX3_reserveOf 1 = .ok (.istore_n 2, 1) := by decide +kernel
theorem dX3_reserveOf_2 : decode cX3_reserveOf 2 = .ok (.iconst 0, 1) := by decide +kernel
theorem dX3_reserveOf_3 : decode cX3_reserveOf 3 = .ok (.istore_n 3, 1) := by decide +kernel
theorem dX3_reserveOf_4 : decode cX3_reserveOf 4 = .ok (.iload_n 3, 1) := by decide +kernel
theorem dX3_reserveOf_5 : decode cX3_reserveOf 5 = .ok (.aload_n 0, 1) := by decide +kernel
theorem dX3_reserveOf_6 : decode cX3_reserveOf 6 = .ok (.getfield 36, 3) := by decide +kernel
theorem dX3_reserveOf_9 : decode cX3_reserveOf 9 = .ok (.if_icmp .ge 24, 3) := by decide +kernel
theorem dX3_reserveOf_12 : decode cX3_reserveOf 12 = .ok (.iload_n 2, 1) := by decide +kernel
theorem dX3_reserveOf_13 : decode cX3_reserveOf 13 = .ok (.iload_n 1, 1) := by decide +kernel
theorem dX3_reserveOf_14 : decode cX3_reserveOf 14 = .ok (.iload_n 3, 1) := by decide +kernel
theorem dX3_reserveOf_15 : decode cX3_reserveOf 15 = .ok (.invokestatic 45, 3) := by decide +kernel
theorem dX3_reserveOf_18 : decode cX3_reserveOf 18 = .ok (.aload_n 0, 1) := by decide +kernel
theorem dX3_reserveOf_19 : decode cX3_reserveOf 19 = .ok (.getfield 9, 3) := by decide +kernel
theorem dX3_reserveOf_22 : decode cX3_reserveOf 22 = .ok (.iload_n 3, 1) := by decide +kernel
theorem dX3_reserveOf_23 : decode cX3_reserveOf 23 = .ok (.iaload, 1) := by decide +kernel
theorem dX3_reserveOf_24 : decode cX3_reserveOf 24 = .ok (.imul, 1) := by decide +kernel
theorem dX3_reserveOf_25 : decode cX3_reserveOf 25 = .ok (.iadd, 1) := by decide +kernel
theorem dX3_reserveOf_26 : decode cX3_reserveOf 26 = .ok (.istore_n 2, 1) := by decide +kernel
theorem dX3_reserveOf_27 : decode cX3_reserveOf 27 = .ok (.iinc 3 1, 3) := by decide +kernel
theorem dX3_reserveOf_30 : decode cX3_reserveOf 30 = .ok (.goto (-26), 3) := by decide +kernel
theorem dX3_reserveOf_33 : decode cX3_reserveOf 33 = .ok (.iload_n 2, 1) := by decide +kernel
theorem dX3_reserveOf_34 : decode cX3_reserveOf 34 = .ok (.ireturn, 1) := by decide +kernel
set_option maxRecDepth 20000 in
theorem ggX3_gain_X3_bi : GoodIn wsX3_gain wsX3_bi := goodIn_r _ [5, 6, 16, 17, 18, 19, 20, 21, 22, 23, 24, 25, 26] (by decide +kernel) (by decide +kernel)
set_option maxRecDepth 20000 in
theorem gX3_gain_X3_bi : GoodIn wsX3_gain (wsV RX3 49 RX3 yX3_bi wsX3_bi) := goodIn_app (goodIn_of _ (by decide +kernel)) ggX3_gain_X3_bi
set_option maxRecDepth 20000 in
theorem ggX3_gain_X3_reserveOf : GoodIn wsX3_gain wsX3_reserveOf := goodIn_r _ [10, 11, 12, 13, 14, 4, 15, 16, 17, 18, 19, 20, 21, 22, 23, 24, 25, 26] (by decide +kernel) (by decide +kernel)
set_option maxRecDepth 20000 in
theorem gX3_gain_X3_reserveOf : GoodIn wsX3_gain (wsV RX3 52 RX3 yX3_reserveOf wsX3_reserveOf) := goodIn_app (goodIn_of _ (by decide +kernel)) ggX3_gain_X3_reserveOf
theorem dX3_gain_0 : decode cX3_gain 0 = .ok (.aload_n 0, 1) := by decide +kernel
theorem dX3_gain_1 : decode cX3_gain 1 = .ok (.iload_n 1, 1) := by decide +kernel
theorem dX3_gain_2 : decode cX3_gain 2 = .ok (.iconst 2, 1) := by decide +kernel
theorem dX3_gain_3 : decode cX3_gain 3 = .ok (.invokevirtual 49, 3) := by decide +kernel
theorem dX3_gain_6 : decode cX3_gain 6 = .ok (.aload_n 0, 1) := by decide +kernel
theorem dX3_gain_7 : decode cX3_gain 7 = .ok (.aload_n 0, 1) := by decide +kernel
theorem dX3_gain_8 : decode cX3_gain 8 = .ok (.iload_n 1, 1) := by decide +kernel
theorem dX3_gain_9 : decode cX3_gain 9 = .ok (.iconst 1, 1) := by decide +kernel
theorem dX3_gain_10 : decode cX3_gain 10 = .ok (.invokevirtual 49, 3) := by decide +kernel
theorem dX3_gain_13 : decode cX3_gain 13 = .ok (.invokevirtual 52, 3) := by decide +kernel
theorem dX3_gain_16 : decode cX3_gain 16 = .ok (.isub, 1) := by decide +kernel
theorem dX3_gain_17 : decode cX3_gain 17 = .ok (.ireturn, 1) := by decide +kernel
set_option maxRecDepth 20000 in
theorem ggX3_isCounted_X3_bi : GoodIn wsX3_isCounted wsX3_bi := goodIn_r _ [6, 7, 21, 22, 23, 24, 25, 26, 27, 28, 29, 30, 31] (by decide +kernel) (by decide +kernel)
set_option maxRecDepth 20000 in
theorem gX3_isCounted_X3_bi : GoodIn wsX3_isCounted (wsV RX3 49 RX3 yX3_bi wsX3_bi) := goodIn_app (goodIn_of _ (by decide +kernel)) ggX3_isCounted_X3_bi
set_option maxRecDepth 20000 in
theorem ggX3_isCounted_X3_bit : GoodIn wsX3_isCounted wsX3_bit := goodIn_r _ [10] (by decide +kernel) (by decide +kernel)
set_option maxRecDepth 20000 in
theorem gX3_isCounted_X3_bit : GoodIn wsX3_isCounted (va_wsS RX3 45 yX3_bit wsX3_bit) := goodIn_app (goodIn_of _ (by decide +kernel)) ggX3_isCounted_X3_bit
set_option maxRecDepth 20000 in
theorem ggX3_isCounted_X3_gain : GoodIn wsX3_isCounted wsX3_gain := goodIn_r _ [14, 2, 3, 4, 5, 6, 7, 15, 16, 17, 18, 19, 20, 8, 9, 10, 21, 22, 23, 24, 25, 26, 27, 28, 29, 30, 31] (by decide +kernel) (by decide +kernel)
set_option maxRecDepth 20000 in
theorem gX3_isCounted_X3_gain : GoodIn wsX3_isCounted (wsV RX3 59 RX3 yX3_gain wsX3_gain) := goodIn_app (goodIn_of _ (by decide +kernel)) ggX3_isCounted_X3_gain
theorem dX3_isCounted_0 : decode cX3_isCounted 0 = .ok (.aload_n 0, 1) := by decide +kernel
theorem dX3_isCounted_1 : decode cX3_isCounted 1 = .ok (.iload_n 1, 1) := by decide +kernel
theorem dX3_isCounted_2 : decode cX3_isCounted 2 = .ok (.iconst 4, 1) := by decide +kernel
theorem dX3_isCounted_3 : decode cX3_isCounted 3 = .ok (.invokevirtual 49, 3) := by decide +kernel
theorem dX3_isCounted_6 : decode cX3_isCounted 6 = .ok (.ifCond .ne 31, 3) := by decide +kernel
theorem dX3_isCounted_9 : decode cX3_isCounted 9 = .ok (.aload_n 0, 1) := by decide +kernel
theorem dX3_isCounted_10 : decode cX3_isCounted 10 = .ok (.getfield 56, 3) := by decide +kernel
theorem dX3_isCounted_13 : decode cX3_isCounted 13 = .ok (.aload_n 0, 1) := by decide +kernel
theorem dX3_isCounted_14 : decode cX3_isCounted 14 = .ok (.iload_n 1, 1) := by decide +kernel
theorem dX3_isCounted_15 : decode cX3_isCounted 15 = .ok (.iconst 0, 1) := by decide +kernel
theorem dX3_isCounted_16 : decode cX3_isCounted 16 = .ok (.invokevirtual 49, 3) := by decide +kernel
theorem dX3_isCounted_19 : decode cX3_isCounted 19 = .ok (.invokestatic 45, 3) := by decide +kernel
theorem dX3_isCounted_22 : decode cX3_isCounted 22 = .ok (.ifCond .ne 15, 3) := by decide +kernel
theorem dX3_isCounted_25 : decode cX3_isCounted 25 = .ok (.aload_n 0, 1) := by decide +kernel
theorem dX3_isCounted_26 : decode cX3_isCounted 26 = .ok (.iload_n 1, 1) := by decide +kernel
theorem dX3_isCounted_27 : decode cX3_isCounted 27 = .ok (.invokevirtual 59, 3) := by decide +kernel
theorem dX3_isCounted_30 : decode cX3_isCounted 30 = .ok (.ifCond .lt 7, 3) := by decide +kernel
theorem dX3_isCounted_33 : decode cX3_isCounted 33 = .ok (.iconst 1, 1) := by decide +kernel
theorem dX3_isCounted_34 : decode cX3_isCounted 34 = .ok (.goto 4, 3) := by decide +kernel
theorem dX3_isCounted_37 : decode cX3_isCounted 37 = .ok (.iconst 0, 1) := by decide +kernel
theorem dX3_isCounted_38 : decode cX3_isCounted 38 = .ok (.ireturn, 1) := by decide +kernel
set_option maxRecDepth 20000 in
theorem ggX3_sale_X3_isCounted : GoodIn wsX3_sale wsX3_isCounted := goodIn_r _ [10, 11, 12, 13, 14, 9, 15, 16, 17, 18, 19, 20, 21, 22, 23, 24, 25, 26, 27, 28, 29, 30, 31, 32, 33, 34, 35, 36, 37, 38, 39, 40] (by decide +kernel) (by decide +kernel)
set_option maxRecDepth 20000 in
theorem gX3_sale_X3_isCounted : GoodIn wsX3_sale (wsV RX3 62 RX3 yX3_isCounted wsX3_isCounted) := goodIn_app (goodIn_of _ (by decide +kernel)) ggX3_sale_X3_isCounted
set_option maxRecDepth 20000 in
theorem ggX3_sale_X3_gain : GoodIn wsX3_sale wsX3_gain := goodIn_r _ [23, 12, 13, 14, 9, 15, 16, 24, 25, 26, 27, 28, 29, 17, 18, 19, 30, 31, 32, 33, 34, 35, 36, 37, 38, 39, 40] (by decide +kernel) (by decide +kernel)
set_option maxRecDepth 20000 in
theorem gX3_sale_X3_gain : GoodIn wsX3_sale (wsV RX3 59 RX3 yX3_gain wsX3_gain) := goodIn_app (goodIn_of _ (by decide +kernel)) ggX3_sale_X3_gain
set_option maxRecDepth 20000 in
theorem ggX3_sale_X3_bi : GoodIn wsX3_sale wsX3_bi := goodIn_r _ [15, 16, 30, 31, 32, 33, 34, 35, 36, 37, 38, 39, 40] (by decide +kernel) (by decide +kernel)
set_option maxRecDepth 20000 in
theorem gX3_sale_X3_bi : GoodIn wsX3_sale (wsV RX3 49 RX3 yX3_bi wsX3_bi) := goodIn_app (goodIn_of _ (by decide +kernel)) ggX3_sale_X3_bi
set_option maxRecDepth 20000 in
theorem ggX3_sale_X3_bit : GoodIn wsX3_sale wsX3_bit := goodIn_r _ [19] (by decide +kernel) (by decide +kernel)
set_option maxRecDepth 20000 in
theorem gX3_sale_X3_bit : GoodIn wsX3_sale (va_wsS RX3 45 yX3_bit wsX3_bit) := goodIn_app (goodIn_of _ (by decide +kernel)) ggX3_sale_X3_bit
theorem dX3_sale_0 : decode cX3_sale 0 = .ok (.iconst 0, 1) := by decide +kernel
theorem dX3_sale_1 : decode cX3_sale 1 = .ok (.istore_n 1, 1) := by decide +kernel
theorem dX3_sale_2 : decode cX3_sale 2 = .ok (.aload_n 0, 1) := by decide +kernel
theorem dX3_sale_3 : decode cX3_sale 3 = .ok (.getfield 22, 3) := by decide +kernel
theorem dX3_sale_6 : decode cX3_sale 6 = .ok (.iconst 0, 1) := by decide +kernel
theorem dX3_sale_7 : decode cX3_sale 7 = .ok (.iconst 0, 1) := by decide +kernel
theorem dX3_sale_8 : decode cX3_sale 8 = .ok (.iastore, 1) := by decide +kernel
theorem dX3_sale_9 : decode cX3_sale 9 = .ok (.aload_n 0, 1) := by decide +kernel
theorem dX3_sale_10 : decode cX3_sale 10 = .ok (.getfield 25, 3) := by decide +kernel
theorem dX3_sale_13 : decode cX3_sale 13 = .ok (.iconst 0, 1) := by decide +kernel
theorem dX3_sale_14 : decode cX3_sale 14 = .ok (.iconst 0, 1) := by decide +kernel
theorem dX3_sale_15 : decode cX3_sale 15 = .ok (.iastore, 1) := by decide +kernel
theorem dX3_sale_16 : decode cX3_sale 16 = .ok (.iconst 0, 1) := by decide +kernel
theorem dX3_sale_17 : decode cX3_sale 17 = .ok (.istore_n 2, 1) := by decide +kernel
theorem dX3_sale_18 : decode cX3_sale 18 = .ok (.iload_n 2, 1) := by decide +kernel
theorem dX3_sale_19 : decode cX3_sale 19 = .ok (.aload_n 0, 1) := by decide +kernel
theorem dX3_sale_20 : decode cX3_sale 20 = .ok (.getfield 42, 3) := by decide +kernel
theorem dX3_sale_23 : decode cX3_sale 23 = .ok (.if_icmp .ge 249, 3) := by decide +kernel
theorem dX3_sale_26 : decode cX3_sale 26 = .ok (.aload_n 0, 1) := by decide +kernel
theorem dX3_sale_27 : decode cX3_sale 27 = .ok (.iload_n 2, 1) := by decide +kernel
theorem dX3_sale_28 : decode cX3_sale 28 = .ok (.invokevirtual 62, 3) := by decide +kernel
theorem dX3_sale_31 : decode cX3_sale 31 = .ok (.istore_n 3, 1) := by decide +kernel
theorem dX3_sale_32 : decode cX3_sale 32 = .ok (.aload_n 0, 1) := by decide +kernel
theorem dX3_sale_33 : decode cX3_sale 33 = .ok (.iload_n 2, 1) := by decide +kernel
theorem dX3_sale_34 : decode cX3_sale 34 = .ok (.invokevirtual 59, 3) := by decide +kernel
theorem dX3_sale_37 : decode cX3_sale 37 = .ok (.istore 4, 2) := by decide +kernel
theorem dX3_sale_39 : decode cX3_sale 39 = .ok (.iconst 1, 1) := by decide +kernel
theorem dX3_sale_40 : decode cX3_sale 40 = .ok (.iload_n 2, 1) := by decide +kernel
theorem dX3_sale_41 : decode cX3_sale 41 = .ok (.ishl, 1) := by decide +kernel
theorem dX3_sale_42 : decode cX3_sale 42 = .ok (.istore 5, 2) := by decide +kernel
theorem dX3_sale_44 : decode cX3_sale 44 = .ok (.iload 5, 2) := by decide +kernel
theorem dX3_sale_46 : decode cX3_sale 46 = .ok (.iconst 2, 1) := by decide +kernel
theorem dX3_sale_47 : decode cX3_sale 47 = .ok (.iload_n 2, 1) := by decide +kernel
theorem dX3_sale_48 : decode cX3_sale 48 = .ok (.ishl, 1) := by decide +kernel
theorem dX3_sale_49 : decode cX3_sale 49 = .ok (.if_icmp .ge 217, 3) := by decide +kernel
theorem dX3_sale_52 : decode cX3_sale 52 = .ok (.iload 5, 2) := by decide +kernel
theorem dX3_sale_54 : decode cX3_sale 54 = .ok (.iconst 1, 1) := by decide +kernel
theorem dX3_sale_55 : decode cX3_sale 55 = .ok (.iload_n 2, 1) := by decide +kernel
theorem dX3_sale_56 : decode cX3_sale 56 = .ok (.ishl, 1) := by decide +kernel
theorem dX3_sale_57 : decode cX3_sale 57 = .ok (.isub, 1) := by decide +kernel
theorem dX3_sale_58 : decode cX3_sale 58 = .ok (.istore 6, 2) := by decide +kernel
theorem dX3_sale_60 : decode cX3_sale 60 = .ok (.iload_n 3, 1) := by decide +kernel
theorem dX3_sale_61 : decode cX3_sale 61 = .ok (.ifCond .eq 54, 3) := by decide +kernel
theorem dX3_sale_64 : decode cX3_sale 64 = .ok (.aload_n 0, 1) := by decide +kernel
theorem dX3_sale_65 : decode cX3_sale 65 = .ok (.getfield 16, 3) := by decide +kernel
theorem dX3_sale_68 : decode cX3_sale 68 = .ok (.iload 6, 2) := by decide +kernel
theorem dX3_sale_70 : decode cX3_sale 70 = .ok (.iaload, 1) := by decide +kernel
theorem dX3_sale_71 : decode cX3_sale 71 = .ok (.iconst (-1), 1) := by decide +kernel
theorem dX3_sale_72 : decode cX3_sale 72 = .ok (.if_icmp .eq 43, 3) := by decide +kernel
theorem dX3_sale_75 : decode cX3_sale 75 = .ok (.aload_n 0, 1) := by decide +kernel
theorem dX3_sale_76 : decode cX3_sale 76 = .ok (.getfield 16, 3) := by decide +kernel
theorem dX3_sale_79 : decode cX3_sale 79 = .ok (.iload 6, 2) := by decide +kernel
theorem dX3_sale_81 : decode cX3_sale 81 = .ok (.iaload, 1) := by decide +kernel
theorem dX3_sale_82 : decode cX3_sale 82 = .ok (.aload_n 0, 1) := by decide +kernel
theorem dX3_sale_83 : decode cX3_sale 83 = .ok (.iload_n 2, 1) := by decide +kernel
theorem dX3_sale_84 : decode cX3_sale 84 = .ok (.iconst 1, 1) := by decide +kernel
theorem dX3_sale_85 : decode cX3_sale 85 = .ok (.invokevirtual 49, 3) := by decide +kernel
theorem dX3_sale_88 : decode cX3_sale 88 = .ok (.iand, 1) := by decide +kernel
theorem dX3_sale_89 : decode cX3_sale 89 = .ok (.ifCond .ne 26, 3) := by decide +kernel
theorem dX3_sale_92 : decode cX3_sale 92 = .ok (.aload_n 0, 1) := by decide +kernel
theorem dX3_sale_93 : decode cX3_sale 93 = .ok (.getfield 19, 3) := by decide +kernel
theorem dX3_sale_96 : decode cX3_sale 96 = .ok (.iload 6, 2) := by decide +kernel
theorem dX3_sale_98 : decode cX3_sale 98 = .ok (.iaload, 1) := by decide +kernel
theorem dX3_sale_99 : decode cX3_sale 99 = .ok (.aload_n 0, 1) := by decide +kernel
theorem dX3_sale_100 : decode cX3_sale 100 = .ok (.iload_n 2, 1) := by decide +kernel
theorem dX3_sale_101 : decode cX3_sale 101 = .ok (.iconst 0, 1) := by decide +kernel
theorem dX3_sale_102 : decode cX3_sale 102 = .ok (.invokevirtual 49, 3) := by decide +kernel
theorem dX3_sale_105 : decode cX3_sale 105 = .ok (.invokestatic 45, 3) := by decide +kernel
theorem dX3_sale_108 : decode cX3_sale 108 = .ok (.ifCond .ne 7, 3) := by decide +kernel
theorem dX3_sale_111 : decode cX3_sale 111 = .ok (.iconst 1, 1) := by decide +kernel
theorem dX3_sale_112 : decode cX3_sale 112 = .ok (.goto 4, 3) := by decide +kernel
theorem dX3_sale_115 : decode cX3_sale 115 = .ok (.iconst 0, 1) := by decide +kernel
theorem dX3_sale_116 : decode cX3_sale 116 = .ok (.istore 7, 2) := by decide +kernel
theorem dX3_sale_118 : decode cX3_sale 118 = .ok (.aload_n 0, 1) := by decide +kernel
theorem dX3_sale_119 : decode cX3_sale 119 = .ok (.getfield 16, 3) := by decide +kernel
theorem dX3_sale_122 : decode cX3_sale 122 = .ok (.iload 5, 2) := by decide +kernel
theorem dX3_sale_124 : decode cX3_sale 124 = .ok (.iload 7, 2) := by decide +kernel
theorem dX3_sale_126 : decode cX3_sale 126 = .ok (.ifCond .eq 20, 3) := by decide +kernel
theorem dX3_sale_129 : decode cX3_sale 129 = .ok (.aload_n 0, 1) := by decide +kernel
theorem dX3_sale_130 : decode cX3_sale 130 = .ok (.getfield 16, 3) := by decide +kernel
theorem dX3_sale_133 : decode cX3_sale 133 = .ok (.iload 6, 2) := by decide +kernel
theorem dX3_sale_135 : decode cX3_sale 135 = .ok (.iaload, 1) := by decide +kernel
theorem dX3_sale_136 : decode cX3_sale 136 = .ok (.aload_n 0, 1) := by decide +kernel
theorem dX3_sale_137 : decode cX3_sale 137 = .ok (.iload_n 2, 1) := by decide +kernel
theorem dX3_sale_138 : decode cX3_sale 138 = .ok (.iconst 1, 1) := by decide +kernel
theorem dX3_sale_139 : decode cX3_sale 139 = .ok (.invokevirtual 49, 3) := by decide +kernel
theorem dX3_sale_142 : decode cX3_sale 142 = .ok (.ior, 1) := by decide +kernel
theorem dX3_sale_143 : decode cX3_sale 143 = .ok (.goto 4, 3) := by decide +kernel
theorem dX3_sale_146 : decode cX3_sale 146 = .ok (.iconst (-1), 1) := by decide +kernel
theorem dX3_sale_147 : decode cX3_sale 147 = .ok (.iastore, 1) := by decide +kernel
theorem dX3_sale_148 : decode cX3_sale 148 = .ok (.aload_n 0, 1) := by decide +kernel
theorem dX3_sale_149 : decode cX3_sale 149 = .ok (.getfield 19, 3) := by decide +kernel
theorem dX3_sale_152 : decode cX3_sale 152 = .ok (.iload 5, 2) := by decide +kernel
theorem dX3_sale_154 : decode cX3_sale 154 = .ok (.aload_n 0, 1) := by decide +kernel
theorem dX3_sale_155 : decode cX3_sale 155 = .ok (.getfield 19, 3) := by decide +kernel
theorem dX3_sale_158 : decode cX3_sale 158 = .ok (.iload 6, 2) := by decide +kernel
theorem dX3_sale_160 : decode cX3_sale 160 = .ok (.iaload, 1) := by decide +kernel
theorem dX3_sale_161 : decode cX3_sale 161 = .ok (.iconst 1, 1) := by decide +kernel
theorem dX3_sale_162 : decode cX3_sale 162 = .ok (.aload_n 0, 1) := by decide +kernel
theorem dX3_sale_163 : decode cX3_sale 163 = .ok (.iload_n 2, 1) := by decide +kernel
theorem dX3_sale_164 : decode cX3_sale 164 = .ok (.iconst 0, 1) := by decide +kernel
theorem dX3_sale_165 : decode cX3_sale 165 = .ok (.invokevirtual 49, 3) := by decide +kernel
theorem dX3_sale_168 : decode cX3_sale 168 = .ok (.ishl, 1) := by decide +kernel
theorem dX3_sale_169 : decode cX3_sale 169 = .ok (.ior, 1) := by decide +kernel
theorem dX3_sale_170 : decode cX3_sale 170 = .ok (.iastore, 1) := by decide +kernel
theorem dX3_sale_171 : decode cX3_sale 171 = .ok (.aload_n 0, 1) := by decide +kernel
theorem dX3_sale_172 : decode cX3_sale 172 = .ok (.getfield 22, 3) := by decide +kernel
theorem dX3_sale_175 : decode cX3_sale 175 = .ok (.iload 5, 2) := by decide +kernel
theorem dX3_sale_177 : decode cX3_sale 177 = .ok (.aload_n 0, 1) := by decide +kernel
theorem dX3_sale_178 : decode cX3_sale 178 = .ok (.getfield 22, 3) := by decide +kernel
theorem dX3_sale_181 : decode cX3_sale 181 = .ok (.iload 6, 2) := by decide +kernel
theorem dX3_sale_183 : decode cX3_sale 183 = .ok (.iaload, 1) := by decide +kernel
theorem dX3_sale_184 : decode cX3_sale 184 = .ok (.iload 4, 2) := by decide +kernel
theorem dX3_sale_186 : decode cX3_sale 186 = .ok (.iadd, 1) := by decide +kernel
theorem dX3_sale_187 : decode cX3_sale 187 = .ok (.iastore, 1) := by decide +kernel
theorem dX3_sale_188 : decode cX3_sale 188 = .ok (.aload_n 0, 1) := by decide +kernel
theorem dX3_sale_189 : decode cX3_sale 189 = .ok (.getfield 25, 3) := by decide +kernel
theorem dX3_sale_192 : decode cX3_sale 192 = .ok (.iload 5, 2) := by decide +kernel
theorem dX3_sale_194 : decode cX3_sale 194 = .ok (.aload_n 0, 1) := by decide +kernel
theorem dX3_sale_195 : decode cX3_sale 195 = .ok (.getfield 25, 3) := by decide +kernel
theorem dX3_sale_198 : decode cX3_sale 198 = .ok (.iload 6, 2) := by decide +kernel
theorem dX3_sale_200 : decode cX3_sale 200 = .ok (.iaload, 1) := by decide +kernel
theorem dX3_sale_201 : decode cX3_sale 201 = .ok (.iconst 1, 1) := by decide +kernel
theorem dX3_sale_202 : decode cX3_sale 202 = .ok (.iadd, 1) := by decide +kernel
theorem dX3_sale_203 : decode cX3_sale 203 = .ok (.iastore, 1) := by decide +kernel
theorem dX3_sale_204 : decode cX3_sale 204 = .ok (.iload 7, 2) := by decide +kernel
theorem dX3_sale_206 : decode cX3_sale 206 = .ok (.ifCond .eq 54, 3) := by decide +kernel
theorem dX3_sale_209 : decode cX3_sale 209 = .ok (.aload_n 0, 1) := by decide +kernel
theorem dX3_sale_210 : decode cX3_sale 210 = .ok (.getfield 22, 3) := by decide +kernel
theorem dX3_sale_213 : decode cX3_sale 213 = .ok (.iload 5, 2) := by decide +kernel
theorem dX3_sale_215 : decode cX3_sale 215 = .ok (.iaload, 1) := by decide +kernel
theorem dX3_sale_216 : decode cX3_sale 216 = .ok (.aload_n 0, 1) := by decide +kernel
theorem dX3_sale_217 : decode cX3_sale 217 = .ok (.getfield 22, 3) := by decide +kernel
theorem dX3_sale_220 : decode cX3_sale 220 = .ok (.iload_n 1, 1) := by decide +kernel
theorem dX3_sale_221 : decode cX3_sale 221 = .ok (.iaload, 1) := by decide +kernel
theorem dX3_sale_222 : decode cX3_sale 222 = .ok (.if_icmp .gt 35, 3) := by decide +kernel
theorem dX3_sale_225 : decode cX3_sale 225 = .ok (.aload_n 0, 1) := by decide +kernel
theorem dX3_sale_226 : decode cX3_sale 226 = .ok (.getfield 22, 3) := by decide +kernel
theorem dX3_sale_229 : decode cX3_sale 229 = .ok (.iload 5, 2) := by decide +kernel
theorem dX3_sale_231 : decode cX3_sale 231 = .ok (.iaload, 1) := by decide +kernel
theorem dX3_sale_232 : decode cX3_sale 232 = .ok (.aload_n 0, 1) := by decide +kernel
theorem dX3_sale_233 : decode cX3_sale 233 = .ok (.getfield 22, 3) := by decide +kernel
theorem dX3_sale_236 : decode cX3_sale 236 = .ok (.iload_n 1, 1) := by decide +kernel
theorem dX3_sale_237 : decode cX3_sale 237 = .ok (.iaload, 1) := by decide +kernel
theorem dX3_sale_238 : decode cX3_sale 238 = .ok (.if_icmp .ne 22, 3) := by decide +kernel
theorem dX3_sale_241 : decode cX3_sale 241 = .ok (.aload_n 0, 1) := by decide +kernel
theorem dX3_sale_242 : decode cX3_sale 242 = .ok (.getfield 25, 3) := by decide +kernel
theorem dX3_sale_245 : decode cX3_sale 245 = .ok (.iload 5, 2) := by decide +kernel
theorem dX3_sale_247 : decode cX3_sale 247 = .ok (.iaload, 1) := by decide +kernel
theorem dX3_sale_248 : decode cX3_sale 248 = .ok (.aload_n 0, 1) := by decide +kernel
theorem dX3_sale_249 : decode cX3_sale 249 = .ok (.getfield 25, 3) := by decide +kernel
theorem dX3_sale_252 : decode cX3_sale 252 = .ok (.iload_n 1, 1) := by decide +kernel
theorem dX3_sale_253 : decode cX3_sale 253 = .ok (.iaload, 1) := by decide +kernel
theorem dX3_sale_254 : decode cX3_sale 254 = .ok (.if_icmp .le 6, 3) := by decide +kernel
theorem dX3_sale_257 : decode cX3_sale 257 = .ok (.iload 5, 2) := by decide +kernel
theorem dX3_sale_259 : decode cX3_sale 259 = .ok (.istore_n 1, 1) := by decide +kernel
theorem dX3_sale_260 : decode cX3_sale 260 = .ok (.iinc 5 1, 3) := by decide +kernel
theorem dX3_sale_263 : decode cX3_sale 263 = .ok (.goto (-219), 3) := by decide +kernel
theorem dX3_sale_266 : decode cX3_sale 266 = .ok (.iinc 2 1, 3) := by decide +kernel
theorem dX3_sale_269 : decode cX3_sale 269 = .ok (.goto (-251), 3) := by decide +kernel
theorem dX3_sale_272 : decode cX3_sale 272 = .ok (.iload_n 1, 1) := by decide +kernel
theorem dX3_sale_273 : decode cX3_sale 273 = .ok (.ireturn, 1) := by decide +kernel
set_option maxRecDepth 20000 in
theorem ggX3_sumWithout_X3_sale : GoodIn wsX3_sumWithout wsX3_sale := goodIn_r _ [7, 2, 8, 9, 10, 11, 12, 13, 14, 6, 15, 1, 16, 17, 18, 19, 20, 21, 22, 23, 24, 25, 26, 27, 28, 29, 30, 31, 32, 33, 34, 35, 36, 37, 38, 39, 40, 41, 42, 43, 44] (by decide +kernel) (by decide +kernel)
set_option maxRecDepth 20000 in
theorem gX3_sumWithout_X3_sale : GoodIn wsX3_sumWithout (wsV RX3 66 RX3 yX3_sale wsX3_sale) := goodIn_app (goodIn_of _ (by decide +kernel)) ggX3_sumWithout_X3_sale
theorem dX3_sumWithout_0 : decode cX3_sumWithout 0 = .ok (.aload_n 0, 1) := by decide +kernel
theorem dX3_sumWithout_1 : decode cX3_sumWithout 1 = .ok (.getfield 56, 3) := by decide +kernel
theorem dX3_sumWithout_4 : decode cX3_sumWithout 4 = .ok (.istore_n 2, 1) := by decide +kernel
theorem dX3_sumWithout_5 : decode cX3_sumWithout 5 = .ok (.aload_n 0, 1) := by decide +kernel
theorem dX3_sumWithout_6 : decode cX3_sumWithout 6 = .ok (.dup, 1) := by decide +kernel
theorem dX3_sumWithout_7 : decode cX3_sumWithout 7 = .ok (.getfield 56, 3) := by decide +kernel
theorem dX3_sumWithout_10 : decode cX3_sumWithout 10 = .ok (.iconst 1, 1) := by decide +kernel
theorem dX3_sumWithout_11 : decode cX3_sumWithout 11 = .ok (.iload_n 1, 1) := by decide +kernel
theorem dX3_sumWithout_12 : decode cX3_sumWithout 12 = .ok (.ishl, 1) := by decide +kernel
theorem dX3_sumWithout_13 : decode cX3_sumWithout 13 = .ok (.ior, 1) := by decide +kernel
theorem dX3_sumWithout_14 : decode cX3_sumWithout 14 = .ok (.putfield 56, 3) := by decide +kernel
theorem dX3_sumWithout_17 : decode cX3_sumWithout 17 = .ok (.aload_n 0, 1) := by decide +kernel
theorem dX3_sumWithout_18 : decode cX3_sumWithout 18 = .ok (.getfield 22, 3) := by decide +kernel
theorem dX3_sumWithout_21 : decode cX3_sumWithout 21 = .ok (.aload_n 0, 1) := by decide +kernel
theorem dX3_sumWithout_22 : decode cX3_sumWithout 22 = .ok (.invokevirtual 66, 3) := by decide +kernel
theorem dX3_sumWithout_25 : decode cX3_sumWithout 25 = .ok (.iaload, 1) := by decide +kernel
theorem dX3_sumWithout_26 : decode cX3_sumWithout 26 = .ok (.istore_n 3, 1) := by decide +kernel
theorem dX3_sumWithout_27 : decode cX3_sumWithout 27 = .ok (.aload_n 0, 1) := by decide +kernel
theorem dX3_sumWithout_28 : decode cX3_sumWithout 28 = .ok (.iload_n 2, 1) := by decide +kernel
theorem dX3_sumWithout_29 : decode cX3_sumWithout 29 = .ok (.putfield 56, 3) := by decide +kernel
theorem dX3_sumWithout_32 : decode cX3_sumWithout 32 = .ok (.iload_n 3, 1) := by decide +kernel
theorem dX3_sumWithout_33 : decode cX3_sumWithout 33 = .ok (.ireturn, 1) := by decide +kernel
set_option maxRecDepth 20000 in
theorem ggX3_bidOf_X3_bit : GoodIn wsX3_bidOf wsX3_bit := goodIn_r _ [5] (by decide +kernel) (by decide +kernel)
set_option maxRecDepth 20000 in
theorem gX3_bidOf_X3_bit : GoodIn wsX3_bidOf (va_wsS RX3 45 yX3_bit wsX3_bit) := goodIn_app (goodIn_of _ (by decide +kernel)) ggX3_bidOf_X3_bit
set_option maxRecDepth 20000 in
theorem ggX3_bidOf_X3_bi : GoodIn wsX3_bidOf wsX3_bi := goodIn_r _ [9, 10, 11, 12, 13, 14, 15, 16, 17, 18, 19, 20, 21] (by decide +kernel) (by decide +kernel)
set_option maxRecDepth 20000 in
theorem gX3_bidOf_X3_bi : GoodIn wsX3_bidOf (wsV RX3 49 RX3 yX3_bi wsX3_bi) := goodIn_app (goodIn_of _ (by decide +kernel)) ggX3_bidOf_X3_bi
theorem dX3_bidOf_0 : decode cX3_bidOf 0 = .ok (.iconst 0, 1) := by decide +kernel
theorem dX3_bidOf_1 : decode cX3_bidOf 1 = .ok (.istore_n 3, 1) := by decide +kernel
theorem dX3_bidOf_2 : decode cX3_bidOf 2 = .ok (.iload_n 3, 1) := by decide +kernel
theorem dX3_bidOf_3 : decode cX3_bidOf 3 = .ok (.aload_n 0, 1) := by decide +kernel
theorem dX3_bidOf_4 : decode cX3_bidOf 4 = .ok (.getfield 42, 3) := by decide +kernel
theorem dX3_bidOf_7 : decode cX3_bidOf 7 = .ok (.if_icmp .ge 30, 3) := by decide +kernel
theorem dX3_bidOf_10 : decode cX3_bidOf 10 = .ok (.iload_n 1, 1) := by decide +kernel
theorem dX3_bidOf_11 : decode cX3_bidOf 11 = .ok (.iload_n 3, 1) := by decide +kernel
theorem dX3_bidOf_12 : decode cX3_bidOf 12 = .ok (.invokestatic 45, 3) := by decide +kernel
theorem dX3_bidOf_15 : decode cX3_bidOf 15 = .ok (.iconst 1, 1) := by decide +kernel
theorem dX3_bidOf_16 : decode cX3_bidOf 16 = .ok (.if_icmp .ne 15, 3) := by decide +kernel
theorem dX3_bidOf_19 : decode cX3_bidOf 19 = .ok (.aload_n 0, 1) := by decide +kernel
theorem dX3_bidOf_20 : decode cX3_bidOf 20 = .ok (.iload_n 3, 1) := by decide +kernel
theorem dX3_bidOf_21 : decode cX3_bidOf 21 = .ok (.iconst 0, 1) := by decide +kernel
theorem dX3_bidOf_22 : decode cX3_bidOf 22 = .ok (.invokevirtual 49, 3) := by decide +kernel
theorem dX3_bidOf_25 : decode cX3_bidOf 25 = .ok (.iload_n 2, 1) := by decide +kernel
theorem dX3_bidOf_26 : decode cX3_bidOf 26 = .ok (.if_icmp .ne 5, 3) := by decide +kernel
theorem dX3_bidOf_29 : decode cX3_bidOf 29 = .ok (.iload_n 3, 1) := by decide +kernel
theorem dX3_bidOf_30 : decode cX3_bidOf 30 = .ok (.ireturn, 1) := by decide +kernel
theorem dX3_bidOf_31 : decode cX3_bidOf 31 = .ok (.iinc 3 1, 3) := by decide +kernel
theorem dX3_bidOf_34 : decode cX3_bidOf 34 = .ok (.goto (-32), 3) := by decide +kernel
theorem dX3_bidOf_37 : decode cX3_bidOf 37 = .ok (.iconst (-1), 1) := by decide +kernel
theorem dX3_bidOf_38 : decode cX3_bidOf 38 = .ok (.ireturn, 1) := by decide +kernel
set_option maxRecDepth 20000 in
theorem ggX3_paid_X3_sale : GoodIn wsX3_paid wsX3_sale := goodIn_r _ [6, 1, 7, 8, 9, 10, 11, 12, 13, 5, 14, 15, 16, 17, 18, 19, 20, 21, 22, 23, 24, 25, 26, 27, 28, 29, 30, 31, 32, 33, 42, 43, 44, 45, 46, 47, 48, 49, 50, 51, 52] (by decide +kernel) (by decide +kernel)
set_option maxRecDepth 20000 in
theorem gX3_paid_X3_sale : GoodIn wsX3_paid (wsV RX3 66 RX3 yX3_sale wsX3_sale) := goodIn_app (goodIn_of _ (by decide +kernel)) ggX3_paid_X3_sale
set_option maxRecDepth 20000 in
theorem ggX3_paid_X3_bidOf : GoodIn wsX3_paid wsX3_bidOf := goodIn_r _ [37, 8, 21, 22, 5, 23, 16, 17, 18, 19, 20, 42, 43, 44, 45, 46, 47, 48, 49, 50, 51, 52] (by decide +kernel) (by decide +kernel)
set_option maxRecDepth 20000 in
theorem gX3_paid_X3_bidOf : GoodIn wsX3_paid (wsV RX3 70 RX3 yX3_bidOf wsX3_bidOf) := goodIn_app (goodIn_of _ (by decide +kernel)) ggX3_paid_X3_bidOf
set_option maxRecDepth 20000 in
theorem ggX3_paid_X3_gain : GoodIn wsX3_paid wsX3_gain := goodIn_r _ [27, 16, 17, 18, 5, 19, 20, 28, 29, 30, 31, 32, 33, 21, 22, 23, 42, 43, 44, 45, 46, 47, 48, 49, 50, 51, 52] (by decide +kernel) (by decide +kernel)
set_option maxRecDepth 20000 in
theorem gX3_paid_X3_gain : GoodIn wsX3_paid (wsV RX3 59 RX3 yX3_gain wsX3_gain) := goodIn_app (goodIn_of _ (by decide +kernel)) ggX3_paid_X3_gain
set_option maxRecDepth 20000 in
theorem ggX3_paid_X3_bi : GoodIn wsX3_paid wsX3_bi := goodIn_r _ [19, 20, 42, 43, 44, 45, 46, 47, 48, 49, 50, 51, 52] (by decide +kernel) (by decide +kernel)
set_option maxRecDepth 20000 in
theorem gX3_paid_X3_bi : GoodIn wsX3_paid (wsV RX3 49 RX3 yX3_bi wsX3_bi) := goodIn_app (goodIn_of _ (by decide +kernel)) ggX3_paid_X3_bi
set_option maxRecDepth 20000 in
theorem ggX3_paid_X3_reserveOf : GoodIn wsX3_paid wsX3_reserveOf := goodIn_r _ [31, 32, 33, 21, 22, 5, 23, 42, 43, 44, 45, 46, 47, 48, 49, 50, 51, 52] (by decide +kernel) (by decide +kernel)
set_option maxRecDepth 20000 in
theorem gX3_paid_X3_reserveOf : GoodIn wsX3_paid (wsV RX3 52 RX3 yX3_reserveOf wsX3_reserveOf) := goodIn_app (goodIn_of _ (by decide +kernel)) ggX3_paid_X3_reserveOf
set_option maxRecDepth 20000 in
theorem ggX3_paid_X3_sumWithout : GoodIn wsX3_paid wsX3_sumWithout := goodIn_r _ [41, 15, 1, 2, 3, 4, 5, 6, 7, 8, 9, 10, 11, 12, 13, 14, 16, 17, 18, 19, 20, 21, 22, 23, 24, 25, 26, 27, 28, 29, 30, 31, 32, 33, 42, 43, 44, 45, 46, 47, 48, 49, 50, 51, 52] (by decide +kernel) (by decide +kernel)
set_option maxRecDepth 20000 in
theorem gX3_paid_X3_sumWithout : GoodIn wsX3_paid (wsV RX3 73 RX3 yX3_sumWithout wsX3_sumWithout) := goodIn_app (goodIn_of _ (by decide +kernel)) ggX3_paid_X3_sumWithout
theorem dX3_paid_0 : decode cX3_paid 0 = .ok (.aload_n 0, 1) := by decide +kernel
theorem dX3_paid_1 : decode cX3_paid 1 = .ok (.invokevirtual 66, 3) := by decide +kernel
theorem dX3_paid_4 : decode cX3_paid 4 = .ok (.istore_n 2, 1) := by decide +kernel
theorem dX3_paid_5 : decode cX3_paid 5 = .ok (.aload_n 0, 1) := by decide +kernel
theorem dX3_paid_6 : decode cX3_paid 6 = .ok (.iload_n 2, 1) := by decide +kernel
theorem dX3_paid_7 : decode cX3_paid 7 = .ok (.iload_n 1, 1) := by decide +kernel
theorem dX3_paid_8 : decode cX3_paid 8 = .ok (.invokevirtual 70, 3) := by decide +kernel
theorem dX3_paid_11 : decode cX3_paid 11 = .ok (.istore_n 3, 1) := by decide +kernel
theorem dX3_paid_12 : decode cX3_paid 12 = .ok (.iload_n 3, 1) := by decide +kernel
theorem dX3_paid_13 : decode cX3_paid 13 = .ok (.iconst (-1), 1) := by decide +kernel
theorem dX3_paid_14 : decode cX3_paid 14 = .ok (.if_icmp .ne 5, 3) := by decide +kernel
theorem dX3_paid_17 : decode cX3_paid 17 = .ok (.iconst 0, 1) := by decide +kernel
theorem dX3_paid_18 : decode cX3_paid 18 = .ok (.ireturn, 1) := by decide +kernel
theorem dX3_paid_19 : decode cX3_paid 19 = .ok (.aload_n 0, 1) := by decide +kernel
theorem dX3_paid_20 : decode cX3_paid 20 = .ok (.getfield 22, 3) := by decide +kernel
theorem dX3_paid_23 : decode cX3_paid 23 = .ok (.iload_n 2, 1) := by decide +kernel
theorem dX3_paid_24 : decode cX3_paid 24 = .ok (.iaload, 1) := by decide +kernel
theorem dX3_paid_25 : decode cX3_paid 25 = .ok (.aload_n 0, 1) := by decide +kernel
theorem dX3_paid_26 : decode cX3_paid 26 = .ok (.iload_n 3, 1) := by decide +kernel
theorem dX3_paid_27 : decode cX3_paid 27 = .ok (.invokevirtual 59, 3) := by decide +kernel
theorem dX3_paid_30 : decode cX3_paid 30 = .ok (.isub, 1) := by decide +kernel
theorem dX3_paid_31 : decode cX3_paid 31 = .ok (.istore 4, 2) := by decide +kernel
theorem dX3_paid_33 : decode cX3_paid 33 = .ok (.aload_n 0, 1) := by decide +kernel
theorem dX3_paid_34 : decode cX3_paid 34 = .ok (.aload_n 0, 1) := by decide +kernel
theorem dX3_paid_35 : decode cX3_paid 35 = .ok (.iload_n 3, 1) := by decide +kernel
theorem dX3_paid_36 : decode cX3_paid 36 = .ok (.iconst 1, 1) := by decide +kernel
theorem dX3_paid_37 : decode cX3_paid 37 = .ok (.invokevirtual 49, 3) := by decide +kernel
theorem dX3_paid_40 : decode cX3_paid 40 = .ok (.invokevirtual 52, 3) := by decide +kernel
theorem dX3_paid_43 : decode cX3_paid 43 = .ok (.aload_n 0, 1) := by decide +kernel
theorem dX3_paid_44 : decode cX3_paid 44 = .ok (.iload_n 1, 1) := by decide +kernel
theorem dX3_paid_45 : decode cX3_paid 45 = .ok (.invokevirtual 73, 3) := by decide +kernel
theorem dX3_paid_48 : decode cX3_paid 48 = .ok (.iadd, 1) := by decide +kernel
theorem dX3_paid_49 : decode cX3_paid 49 = .ok (.iload 4, 2) := by decide +kernel
theorem dX3_paid_51 : decode cX3_paid 51 = .ok (.isub, 1) := by decide +kernel
theorem dX3_paid_52 : decode cX3_paid 52 = .ok (.ireturn, 1) := by decide +kernel
set_option maxRecDepth 20000 in
theorem ggX3_profit_X3_sale : GoodIn wsX3_profit wsX3_sale := goodIn_r _ [5, 6, 7, 8, 9, 10, 11, 12, 13, 4, 14, 15, 16, 17, 18, 19, 20, 21, 22, 23, 24, 25, 26, 27, 28, 29, 30, 31, 32, 33, 46, 47, 48, 49, 50, 51, 52, 53, 54, 55, 56] (by decide +kernel) (by decide +kernel)
set_option maxRecDepth 20000 in
theorem gX3_profit_X3_sale : GoodIn wsX3_profit (wsV RX3 66 RX3 yX3_sale wsX3_sale) := goodIn_app (goodIn_of _ (by decide +kernel)) ggX3_profit_X3_sale
set_option maxRecDepth 20000 in
theorem ggX3_profit_X3_bidOf : GoodIn wsX3_profit wsX3_bidOf := goodIn_r _ [37, 8, 21, 22, 4, 23, 16, 17, 18, 19, 20, 46, 47, 48, 49, 50, 51, 52, 53, 54, 55, 56] (by decide +kernel) (by decide +kernel)
set_option maxRecDepth 20000 in
theorem gX3_profit_X3_bidOf : GoodIn wsX3_profit (wsV RX3 70 RX3 yX3_bidOf wsX3_bidOf) := goodIn_app (goodIn_of _ (by decide +kernel)) ggX3_profit_X3_bidOf
set_option maxRecDepth 20000 in
theorem ggX3_profit_X3_bi : GoodIn wsX3_profit wsX3_bi := goodIn_r _ [19, 20, 46, 47, 48, 49, 50, 51, 52, 53, 54, 55, 56] (by decide +kernel) (by decide +kernel)
set_option maxRecDepth 20000 in
theorem gX3_profit_X3_bi : GoodIn wsX3_profit (wsV RX3 49 RX3 yX3_bi wsX3_bi) := goodIn_app (goodIn_of _ (by decide +kernel)) ggX3_profit_X3_bi
set_option maxRecDepth 20000 in
theorem ggX3_profit_X3_paid : GoodIn wsX3_profit wsX3_paid := goodIn_r _ [41, 6, 1, 2, 3, 4, 5, 7, 8, 9, 10, 11, 12, 13, 14, 15, 16, 17, 18, 19, 20, 21, 22, 23, 24, 25, 26, 27, 28, 29, 30, 31, 32, 33, 34, 35, 36, 37, 42, 43, 44, 45, 46, 47, 48, 49, 50, 51, 52, 53, 54, 55, 56] (by decide +kernel) (by decide +kernel)
set_option maxRecDepth 20000 in
theorem gX3_profit_X3_paid : GoodIn wsX3_profit (wsV RX3 76 RX3 yX3_paid wsX3_paid) := goodIn_app (goodIn_of _ (by decide +kernel)) ggX3_profit_X3_paid
theorem dX3_profit_0 : decode cX3_profit 0 = .ok (.aload_n 0, 1) := by decide +kernel
theorem dX3_profit_1 : decode cX3_profit 1 = .ok (.aload_n 0, 1) := by decide +kernel
theorem dX3_profit_2 : decode cX3_profit 2 = .ok (.invokevirtual 66, 3) := by decide +kernel
theorem dX3_profit_5 : decode cX3_profit 5 = .ok (.iload_n 1, 1) := by decide +kernel
theorem dX3_profit_6 : decode cX3_profit 6 = .ok (.invokevirtual 70, 3) := by decide +kernel
theorem dX3_profit_9 : decode cX3_profit 9 = .ok (.istore_n 2, 1) := by decide +kernel
theorem dX3_profit_10 : decode cX3_profit 10 = .ok (.iload_n 2, 1) := by decide +kernel
theorem dX3_profit_11 : decode cX3_profit 11 = .ok (.iconst (-1), 1) := by decide +kernel
theorem dX3_profit_12 : decode cX3_profit 12 = .ok (.if_icmp .ne 7, 3) := by decide +kernel
theorem dX3_profit_15 : decode cX3_profit 15 = .ok (.iconst 0, 1) := by decide +kernel
theorem dX3_profit_16 : decode cX3_profit 16 = .ok (.goto 15, 3) := by decide +kernel
theorem dX3_profit_19 : decode cX3_profit 19 = .ok (.aload_n 0, 1) := by decide +kernel
theorem dX3_profit_20 : decode cX3_profit 20 = .ok (.iload_n 2, 1) := by decide +kernel
theorem dX3_profit_21 : decode cX3_profit 21 = .ok (.iconst 3, 1) := by decide +kernel
theorem dX3_profit_22 : decode cX3_profit 22 = .ok (.invokevirtual 49, 3) := by decide +kernel
theorem dX3_profit_25 : decode cX3_profit 25 = .ok (.aload_n 0, 1) := by decide +kernel
theorem dX3_profit_26 : decode cX3_profit 26 = .ok (.iload_n 1, 1) := by decide +kernel
theorem dX3_profit_27 : decode cX3_profit 27 = .ok (.invokevirtual 76, 3) := by decide +kernel
theorem dX3_profit_30 : decode cX3_profit 30 = .ok (.isub, 1) := by decide +kernel
theorem dX3_profit_31 : decode cX3_profit 31 = .ok (.ireturn, 1) := by decide +kernel
set_option maxRecDepth 20000 in
theorem ggX3_allPaid_X3_paid : GoodIn wsX3_allPaid wsX3_paid := goodIn_r _ [6, 7, 8, 9, 10, 5, 11, 12, 13, 14, 15, 16, 17, 18, 19, 20, 21, 22, 23, 24, 25, 26, 27, 28, 29, 30, 31, 32, 33, 34, 35, 36, 37, 38, 39, 40, 41, 42, 43, 44, 45, 46, 47, 48, 49, 50, 51, 52, 53, 54, 55, 56, 57] (by decide +kernel) (by decide +kernel)
set_option maxRecDepth 20000 in
theorem gX3_allPaid_X3_paid : GoodIn wsX3_allPaid (wsV RX3 76 RX3 yX3_paid wsX3_paid) := goodIn_app (goodIn_of _ (by decide +kernel)) ggX3_allPaid_X3_paid
theorem dX3_allPaid_0 : decode cX3_allPaid 0 = .ok (.iconst 0, 1) := by decide +kernel
theorem dX3_allPaid_1 : decode cX3_allPaid 1 = .ok (.istore_n 1, 1) := by decide +kernel
theorem dX3_allPaid_2 : decode cX3_allPaid 2 = .ok (.iconst 0, 1) := by decide +kernel
theorem dX3_allPaid_3 : decode cX3_allPaid 3 = .ok (.istore_n 2, 1) := by decide +kernel
theorem dX3_allPaid_4 : decode cX3_allPaid 4 = .ok (.iload_n 2, 1) := by decide +kernel
theorem dX3_allPaid_5 : decode cX3_allPaid 5 = .ok (.aload_n 0, 1) := by decide +kernel
theorem dX3_allPaid_6 : decode cX3_allPaid 6 = .ok (.getfield 39, 3) := by decide +kernel
theorem dX3_allPaid_9 : decode cX3_allPaid 9 = .ok (.if_icmp .ge 17, 3) := by decide +kernel
theorem dX3_allPaid_12 : decode cX3_allPaid 12 = .ok (.iload_n 1, 1) := by decide +kernel
theorem dX3_allPaid_13 : decode cX3_allPaid 13 = .ok (.aload_n 0, 1) := by decide +kernel
theorem dX3_allPaid_14 : decode cX3_allPaid 14 = .ok (.iload_n 2, 1) := by decide +kernel
theorem dX3_allPaid_15 : decode cX3_allPaid 15 = .ok (.invokevirtual 76, 3) := by decide +kernel
theorem dX3_allPaid_18 : decode cX3_allPaid 18 = .ok (.iadd, 1) := by decide +kernel
theorem dX3_allPaid_19 : decode cX3_allPaid 19 = .ok (.istore_n 1, 1) := by decide +kernel
theorem dX3_allPaid_20 : decode cX3_allPaid 20 = .ok (.iinc 2 1, 3) := by decide +kernel
theorem dX3_allPaid_23 : decode cX3_allPaid 23 = .ok (.goto (-19), 3) := by decide +kernel
theorem dX3_allPaid_26 : decode cX3_allPaid 26 = .ok (.iload_n 1, 1) := by decide +kernel
theorem dX3_allPaid_27 : decode cX3_allPaid 27 = .ok (.ireturn, 1) := by decide +kernel
set_option maxRecDepth 20000 in
theorem ggX3_field_X3_isIn : GoodIn wsX3_field wsX3_isIn := goodIn_r _ [7] (by decide +kernel) (by decide +kernel)
set_option maxRecDepth 20000 in
theorem gX3_field_X3_isIn : GoodIn wsX3_field (va_wsS RX3 32 yX3_isIn wsX3_isIn) := goodIn_app (goodIn_of _ (by decide +kernel)) ggX3_field_X3_isIn
set_option maxRecDepth 20000 in
theorem ggX3_field_X3_fail : GoodIn wsX3_field wsX3_fail := goodIn_r _ [11, 1, 12, 13, 14, 15, 16, 17, 18, 19, 20, 21, 22] (by decide +kernel) (by decide +kernel)
set_option maxRecDepth 20000 in
theorem gX3_field_X3_fail : GoodIn wsX3_field (wsV RX3 79 RX3 yX3_fail wsX3_fail) := goodIn_app (goodIn_of _ (by decide +kernel)) ggX3_field_X3_fail
theorem dX3_field_0 : decode cX3_field 0 = .ok (.aload_n 0, 1) := by decide +kernel
theorem dX3_field_1 : decode cX3_field 1 = .ok (.iconst 0, 1) := by decide +kernel
theorem dX3_field_2 : decode cX3_field 2 = .ok (.putfield 28, 3) := by decide +kernel
theorem dX3_field_5 : decode cX3_field 5 = .ok (.iload_n 1, 1) := by decide +kernel
theorem dX3_field_6 : decode cX3_field 6 = .ok (.iconst 0, 1) := by decide +kernel
theorem dX3_field_7 : decode cX3_field 7 = .ok (.bipush 99, 2) := by decide +kernel
theorem dX3_field_9 : decode cX3_field 9 = .ok (.invokestatic 32, 3) := by decide +kernel
theorem dX3_field_12 : decode cX3_field 12 = .ok (.ifCond .ne 9, 3) := by decide +kernel
theorem dX3_field_15 : decode cX3_field 15 = .ok (.aload_n 0, 1) := by decide +kernel
theorem dX3_field_16 : decode cX3_field 16 = .ok (.iconst 1, 1) := by decide +kernel
theorem dX3_field_17 : decode cX3_field 17 = .ok (.invokevirtual 79, 3) := by decide +kernel
theorem dX3_field_20 : decode cX3_field 20 = .ok (.ireturn, 1) := by decide +kernel
theorem dX3_field_21 : decode cX3_field 21 = .ok (.aload_n 0, 1) := by decide +kernel
theorem dX3_field_22 : decode cX3_field 22 = .ok (.getfield 36, 3) := by decide +kernel
theorem dX3_field_25 : decode cX3_field 25 = .ok (.bipush 8, 2) := by decide +kernel
theorem dX3_field_27 : decode cX3_field 27 = .ok (.if_icmp .ne 9, 3) := by decide +kernel
theorem dX3_field_30 : decode cX3_field 30 = .ok (.aload_n 0, 1) := by decide +kernel
theorem dX3_field_31 : decode cX3_field 31 = .ok (.iconst 2, 1) := by decide +kernel
theorem dX3_field_32 : decode cX3_field 32 = .ok (.invokevirtual 79, 3) := by decide +kernel
theorem dX3_field_35 : decode cX3_field 35 = .ok (.ireturn, 1) := by decide +kernel
theorem dX3_field_36 : decode cX3_field 36 = .ok (.aload_n 0, 1) := by decide +kernel
theorem dX3_field_37 : decode cX3_field 37 = .ok (.getfield 9, 3) := by decide +kernel
theorem dX3_field_40 : decode cX3_field 40 = .ok (.aload_n 0, 1) := by decide +kernel
theorem dX3_field_41 : decode cX3_field 41 = .ok (.getfield 36, 3) := by decide +kernel
theorem dX3_field_44 : decode cX3_field 44 = .ok (.iload_n 1, 1) := by decide +kernel
theorem dX3_field_45 : decode cX3_field 45 = .ok (.iastore, 1) := by decide +kernel
theorem dX3_field_46 : decode cX3_field 46 = .ok (.aload_n 0, 1) := by decide +kernel
theorem dX3_field_47 : decode cX3_field 47 = .ok (.dup, 1) := by decide +kernel
theorem dX3_field_48 : decode cX3_field 48 = .ok (.getfield 36, 3) := by decide +kernel
theorem dX3_field_51 : decode cX3_field 51 = .ok (.iconst 1, 1) := by decide +kernel
theorem dX3_field_52 : decode cX3_field 52 = .ok (.iadd, 1) := by decide +kernel
theorem dX3_field_53 : decode cX3_field 53 = .ok (.putfield 36, 3) := by decide +kernel
theorem dX3_field_56 : decode cX3_field 56 = .ok (.aload_n 0, 1) := by decide +kernel
theorem dX3_field_57 : decode cX3_field 57 = .ok (.getfield 36, 3) := by decide +kernel
theorem dX3_field_60 : decode cX3_field 60 = .ok (.iconst 1, 1) := by decide +kernel
theorem dX3_field_61 : decode cX3_field 61 = .ok (.isub, 1) := by decide +kernel
theorem dX3_field_62 : decode cX3_field 62 = .ok (.ireturn, 1) := by decide +kernel
set_option maxRecDepth 20000 in
theorem ggX3_setReserve_X3_isField : GoodIn wsX3_setReserve wsX3_isField := goodIn_r _ [7, 8, 9, 10, 6, 11, 16, 17, 18, 19, 20, 21, 22, 23, 24, 25, 26] (by decide +kernel) (by decide +kernel)
set_option maxRecDepth 20000 in
theorem gX3_setReserve_X3_isField : GoodIn wsX3_setReserve (wsV RX3 82 RX3 yX3_isField wsX3_isField) := goodIn_app (goodIn_of _ (by decide +kernel)) ggX3_setReserve_X3_isField
set_option maxRecDepth 20000 in
theorem ggX3_setReserve_X3_fail : GoodIn wsX3_setReserve wsX3_fail := goodIn_r _ [15, 1, 16, 17, 18, 19, 20, 21, 22, 23, 24, 25, 26] (by decide +kernel) (by decide +kernel)
set_option maxRecDepth 20000 in
theorem gX3_setReserve_X3_fail : GoodIn wsX3_setReserve (wsV RX3 79 RX3 yX3_fail wsX3_fail) := goodIn_app (goodIn_of _ (by decide +kernel)) ggX3_setReserve_X3_fail
set_option maxRecDepth 20000 in
theorem ggX3_setReserve_X3_isIn : GoodIn wsX3_setReserve wsX3_isIn := goodIn_r _ [11] (by decide +kernel) (by decide +kernel)
set_option maxRecDepth 20000 in
theorem gX3_setReserve_X3_isIn : GoodIn wsX3_setReserve (va_wsS RX3 32 yX3_isIn wsX3_isIn) := goodIn_app (goodIn_of _ (by decide +kernel)) ggX3_setReserve_X3_isIn
theorem dX3_setReserve_0 : decode cX3_setReserve 0 = .ok (.aload_n 0, 1) := by decide +kernel
theorem dX3_setReserve_1 : decode cX3_setReserve 1 = .ok (.iconst 0, 1) := by decide +kernel
theorem dX3_setReserve_2 : decode cX3_setReserve 2 = .ok (.putfield 28, 3) := by decide +kernel
theorem dX3_setReserve_5 : decode cX3_setReserve 5 = .ok (.aload_n 0, 1) := by decide +kernel
theorem dX3_setReserve_6 : decode cX3_setReserve 6 = .ok (.iload_n 1, 1) := by decide +kernel
theorem dX3_setReserve_7 : decode cX3_setReserve 7 = .ok (.invokevirtual 82, 3) := by decide +kernel
theorem dX3_setReserve_10 : decode cX3_setReserve 10 = .ok (.ifCond .ne 9, 3) := by decide +kernel
theorem dX3_setReserve_13 : decode cX3_setReserve 13 = .ok (.aload_n 0, 1) := by decide +kernel
theorem dX3_setReserve_14 : decode cX3_setReserve 14 = .ok (.iconst 1, 1) := by decide +kernel
theorem dX3_setReserve_15 : decode cX3_setReserve 15 = .ok (.invokevirtual 79, 3) := by decide +kernel
theorem dX3_setReserve_18 : decode cX3_setReserve 18 = .ok (.ireturn, 1) := by decide +kernel
theorem dX3_setReserve_19 : decode cX3_setReserve 19 = .ok (.iload_n 2, 1) := by decide +kernel
theorem dX3_setReserve_20 : decode cX3_setReserve 20 = .ok (.iconst 0, 1) := by decide +kernel
theorem dX3_setReserve_21 : decode cX3_setReserve 21 = .ok (.bipush 99, 2) := by decide +kernel
theorem dX3_setReserve_23 : decode cX3_setReserve 23 = .ok (.invokestatic 32, 3) := by decide +kernel
theorem dX3_setReserve_26 : decode cX3_setReserve 26 = .ok (.ifCond .ne 9, 3) := by decide +kernel
theorem dX3_setReserve_29 : decode cX3_setReserve 29 = .ok (.aload_n 0, 1) := by decide +kernel
theorem dX3_setReserve_30 : decode cX3_setReserve 30 = .ok (.iconst 2, 1) := by decide +kernel
theorem dX3_setReserve_31 : decode cX3_setReserve 31 = .ok (.invokevirtual 79, 3) := by decide +kernel
theorem dX3_setReserve_34 : decode cX3_setReserve 34 = .ok (.ireturn, 1) := by decide +kernel
theorem dX3_setReserve_35 : decode cX3_setReserve 35 = .ok (.aload_n 0, 1) := by decide +kernel
theorem dX3_setReserve_36 : decode cX3_setReserve 36 = .ok (.getfield 9, 3) := by decide +kernel
theorem dX3_setReserve_39 : decode cX3_setReserve 39 = .ok (.iload_n 1, 1) := by decide +kernel
theorem dX3_setReserve_40 : decode cX3_setReserve 40 = .ok (.iaload, 1) := by decide +kernel
theorem dX3_setReserve_41 : decode cX3_setReserve 41 = .ok (.istore_n 3, 1) := by decide +kernel
theorem dX3_setReserve_42 : decode cX3_setReserve 42 = .ok (.aload_n 0, 1) := by decide +kernel
theorem dX3_setReserve_43 : decode cX3_setReserve 43 = .ok (.getfield 9, 3) := by decide +kernel
theorem dX3_setReserve_46 : decode cX3_setReserve 46 = .ok (.iload_n 1, 1) := by decide +kernel
theorem dX3_setReserve_47 : decode cX3_setReserve 47 = .ok (.iload_n 2, 1) := by decide +kernel
theorem dX3_setReserve_48 : decode cX3_setReserve 48 = .ok (.iastore, 1) := by decide +kernel
theorem dX3_setReserve_49 : decode cX3_setReserve 49 = .ok (.iload_n 3, 1) := by decide +kernel
theorem dX3_setReserve_50 : decode cX3_setReserve 50 = .ok (.ireturn, 1) := by decide +kernel
set_option maxRecDepth 20000 in
theorem ggX3_join_X3_fail : GoodIn wsX3_join wsX3_fail := goodIn_r _ [7, 1, 8, 9, 10, 11, 12, 13, 14, 15, 16, 17, 18] (by decide +kernel) (by decide +kernel)
set_option maxRecDepth 20000 in
theorem gX3_join_X3_fail : GoodIn wsX3_join (wsV RX3 79 RX3 yX3_fail wsX3_fail) := goodIn_app (goodIn_of _ (by decide +kernel)) ggX3_join_X3_fail
theorem dX3_join_0 : decode cX3_join 0 = .ok (.aload_n 0, 1) := by decide +kernel
theorem dX3_join_1 : decode cX3_join 1 = .ok (.iconst 0, 1) := by decide +kernel
theorem dX3_join_2 : decode cX3_join 2 = .ok (.putfield 28, 3) := by decide +kernel
theorem dX3_join_5 : decode cX3_join 5 = .ok (.aload_n 0, 1) := by decide +kernel
theorem dX3_join_6 : decode cX3_join 6 = .ok (.getfield 39, 3) := by decide +kernel
theorem dX3_join_9 : decode cX3_join 9 = .ok (.iconst 5, 1) := by decide +kernel
theorem dX3_join_10 : decode cX3_join 10 = .ok (.if_icmp .ne 9, 3) := by decide +kernel
theorem dX3_join_13 : decode cX3_join 13 = .ok (.aload_n 0, 1) := by decide +kernel
theorem dX3_join_14 : decode cX3_join 14 = .ok (.iconst 1, 1) := by decide +kernel
theorem dX3_join_15 : decode cX3_join 15 = .ok (.invokevirtual 79, 3) := by decide +kernel
theorem dX3_join_18 : decode cX3_join 18 = .ok (.ireturn, 1) := by decide +kernel
theorem dX3_join_19 : decode cX3_join 19 = .ok (.aload_n 0, 1) := by decide +kernel
theorem dX3_join_20 : decode cX3_join 20 = .ok (.dup, 1) := by decide +kernel
theorem dX3_join_21 : decode cX3_join 21 = .ok (.getfield 39, 3) := by decide +kernel
theorem dX3_join_24 : decode cX3_join 24 = .ok (.iconst 1, 1) := by decide +kernel
theorem dX3_join_25 : decode cX3_join 25 = .ok (.iadd, 1) := by decide +kernel
theorem dX3_join_26 : decode cX3_join 26 = .ok (.putfield 39, 3) := by decide +kernel
theorem dX3_join_29 : decode cX3_join 29 = .ok (.aload_n 0, 1) := by decide +kernel
theorem dX3_join_30 : decode cX3_join 30 = .ok (.getfield 39, 3) := by decide +kernel
theorem dX3_join_33 : decode cX3_join 33 = .ok (.iconst 1, 1) := by decide +kernel
theorem dX3_join_34 : decode cX3_join 34 = .ok (.isub, 1) := by decide +kernel
theorem dX3_join_35 : decode cX3_join 35 = .ok (.ireturn, 1) := by decide +kernel
set_option maxRecDepth 20000 in
theorem ggX3_setIn_X3_isBidder : GoodIn wsX3_setIn wsX3_isBidder := goodIn_r _ [7, 8, 9, 10, 6, 11, 15, 16, 17, 18, 19, 20, 21, 22, 23, 24, 25] (by decide +kernel) (by decide +kernel)
set_option maxRecDepth 20000 in
theorem gX3_setIn_X3_isBidder : GoodIn wsX3_setIn (wsV RX3 85 RX3 yX3_isBidder wsX3_isBidder) := goodIn_app (goodIn_of _ (by decide +kernel)) ggX3_setIn_X3_isBidder
set_option maxRecDepth 20000 in
theorem ggX3_setIn_X3_bit : GoodIn wsX3_setIn wsX3_bit := goodIn_r _ [14] (by decide +kernel) (by decide +kernel)
set_option maxRecDepth 20000 in
theorem gX3_setIn_X3_bit : GoodIn wsX3_setIn (va_wsS RX3 45 yX3_bit wsX3_bit) := goodIn_app (goodIn_of _ (by decide +kernel)) ggX3_setIn_X3_bit
theorem dX3_setIn_0 : decode cX3_setIn 0 = .ok (.aload_n 0, 1) := by decide +kernel
theorem dX3_setIn_1 : decode cX3_setIn 1 = .ok (.aload_n 0, 1) := by decide +kernel
theorem dX3_setIn_2 : decode cX3_setIn 2 = .ok (.iload_n 1, 1) := by decide +kernel
theorem dX3_setIn_3 : decode cX3_setIn 3 = .ok (.invokevirtual 85, 3) := by decide +kernel
theorem dX3_setIn_6 : decode cX3_setIn 6 = .ok (.ifCond .eq 7, 3) := by decide +kernel
theorem dX3_setIn_9 : decode cX3_setIn 9 = .ok (.iconst 0, 1) := by decide +kernel
theorem dX3_setIn_10 : decode cX3_setIn 10 = .ok (.goto 4, 3) := by decide +kernel
theorem dX3_setIn_13 : decode cX3_setIn 13 = .ok (.iconst 1, 1) := by decide +kernel
theorem dX3_setIn_14 : decode cX3_setIn 14 = .ok (.putfield 28, 3) := by decide +kernel
theorem dX3_setIn_17 : decode cX3_setIn 17 = .ok (.aload_n 0, 1) := by decide +kernel
theorem dX3_setIn_18 : decode cX3_setIn 18 = .ok (.getfield 28, 3) := by decide +kernel
theorem dX3_setIn_21 : decode cX3_setIn 21 = .ok (.ifCond .eq 5, 3) := by decide +kernel
theorem dX3_setIn_24 : decode cX3_setIn 24 = .ok (.iconst 0, 1) := by decide +kernel
theorem dX3_setIn_25 : decode cX3_setIn 25 = .ok (.ireturn, 1) := by decide +kernel
theorem dX3_setIn_26 : decode cX3_setIn 26 = .ok (.aload_n 0, 1) := by decide +kernel
theorem dX3_setIn_27 : decode cX3_setIn 27 = .ok (.getfield 56, 3) := by decide +kernel
theorem dX3_setIn_30 : decode cX3_setIn 30 = .ok (.iload_n 1, 1) := by decide +kernel
theorem dX3_setIn_31 : decode cX3_setIn 31 = .ok (.invokestatic 45, 3) := by decide +kernel
theorem dX3_setIn_34 : decode cX3_setIn 34 = .ok (.ifCond .ne 7, 3) := by decide +kernel
theorem dX3_setIn_37 : decode cX3_setIn 37 = .ok (.iconst 1, 1) := by decide +kernel
theorem dX3_setIn_38 : decode cX3_setIn 38 = .ok (.goto 4, 3) := by decide +kernel
theorem dX3_setIn_41 : decode cX3_setIn 41 = .ok (.iconst 0, 1) := by decide +kernel
theorem dX3_setIn_42 : decode cX3_setIn 42 = .ok (.istore_n 3, 1) := by decide +kernel
theorem dX3_setIn_43 : decode cX3_setIn 43 = .ok (.aload_n 0, 1) := by decide +kernel
theorem dX3_setIn_44 : decode cX3_setIn 44 = .ok (.iload_n 2, 1) := by decide +kernel
theorem dX3_setIn_45 : decode cX3_setIn 45 = .ok (.ifCond .eq 16, 3) := by decide +kernel
theorem dX3_setIn_48 : decode cX3_setIn 48 = .ok (.aload_n 0, 1) := by decide +kernel
theorem dX3_setIn_49 : decode cX3_setIn 49 = .ok (.getfield 56, 3) := by decide +kernel
theorem dX3_setIn_52 : decode cX3_setIn 52 = .ok (.iconst 1, 1) := by decide +kernel
theorem dX3_setIn_53 : decode cX3_setIn 53 = .ok (.iload_n 1, 1) := by decide +kernel
theorem dX3_setIn_54 : decode cX3_setIn 54 = .ok (.ishl, 1) := by decide +kernel
theorem dX3_setIn_55 : decode cX3_setIn 55 = .ok (.iconst (-1), 1) := by decide +kernel
theorem dX3_setIn_56 : decode cX3_setIn 56 = .ok (.ixor, 1) := by decide +kernel
theorem dX3_setIn_57 : decode cX3_setIn 57 = .ok (.iand, 1) := by decide +kernel
theorem dX3_setIn_58 : decode cX3_setIn 58 = .ok (.goto 11, 3) := by decide +kernel
theorem dX3_setIn_61 : decode cX3_setIn 61 = .ok (.aload_n 0, 1) := by decide +kernel
theorem dX3_setIn_62 : decode cX3_setIn 62 = .ok (.getfield 56, 3) := by decide +kernel
theorem dX3_setIn_65 : decode cX3_setIn 65 = .ok (.iconst 1, 1) := by decide +kernel
theorem dX3_setIn_66 : decode cX3_setIn 66 = .ok (.iload_n 1, 1) := by decide +kernel
theorem dX3_setIn_67 : decode cX3_setIn 67 = .ok (.ishl, 1) := by decide +kernel
theorem dX3_setIn_68 : decode cX3_setIn 68 = .ok (.ior, 1) := by decide +kernel
theorem dX3_setIn_69 : decode cX3_setIn 69 = .ok (.putfield 56, 3) := by decide +kernel
theorem dX3_setIn_72 : decode cX3_setIn 72 = .ok (.iload_n 3, 1) := by decide +kernel
theorem dX3_setIn_73 : decode cX3_setIn 73 = .ok (.ireturn, 1) := by decide +kernel
set_option maxRecDepth 20000 in
theorem ggX3_bid_X3_isBidder : GoodIn wsX3_bid wsX3_isBidder := goodIn_r _ [14, 15, 16, 17, 13, 18, 26, 27, 28, 29, 30, 31, 32, 33, 34, 35, 36] (by decide +kernel) (by decide +kernel)
set_option maxRecDepth 20000 in
theorem gX3_bid_X3_isBidder : GoodIn wsX3_bid (wsV RX3 85 RX3 yX3_isBidder wsX3_isBidder) := goodIn_app (goodIn_of _ (by decide +kernel)) ggX3_bid_X3_isBidder
set_option maxRecDepth 20000 in
theorem ggX3_bid_X3_fail : GoodIn wsX3_bid wsX3_fail := goodIn_r _ [22, 1, 26, 27, 28, 29, 30, 31, 32, 33, 34, 35, 36] (by decide +kernel) (by decide +kernel)
set_option maxRecDepth 20000 in
theorem gX3_bid_X3_fail : GoodIn wsX3_bid (wsV RX3 79 RX3 yX3_fail wsX3_fail) := goodIn_app (goodIn_of _ (by decide +kernel)) ggX3_bid_X3_fail
set_option maxRecDepth 20000 in
theorem ggX3_bid_X3_isPrice : GoodIn wsX3_bid wsX3_isPrice := goodIn_r _ [25, 16, 17, 13, 18] (by decide +kernel) (by decide +kernel)
set_option maxRecDepth 20000 in
theorem gX3_bid_X3_isPrice : GoodIn wsX3_bid (va_wsS RX3 88 yX3_isPrice wsX3_isPrice) := goodIn_app (goodIn_of _ (by decide +kernel)) ggX3_bid_X3_isPrice
theorem dX3_bid_0 : decode cX3_bid 0 = .ok (.aload_n 0, 1) := by decide +kernel
theorem dX3_bid_1 : decode cX3_bid 1 = .ok (.iconst 0, 1) := by decide +kernel
theorem dX3_bid_2 : decode cX3_bid 2 = .ok (.putfield 28, 3) := by decide +kernel
theorem dX3_bid_5 : decode cX3_bid 5 = .ok (.aload_n 0, 1) := by decide +kernel
theorem dX3_bid_6 : decode cX3_bid 6 = .ok (.iload_n 1, 1) := by decide +kernel
theorem dX3_bid_7 : decode cX3_bid 7 = .ok (.invokevirtual 85, 3) := by decide +kernel
theorem dX3_bid_10 : decode cX3_bid 10 = .ok (.ifCond .ne 9, 3) := by decide +kernel
theorem dX3_bid_13 : decode cX3_bid 13 = .ok (.aload_n 0, 1) := by decide +kernel
theorem dX3_bid_14 : decode cX3_bid 14 = .ok (.iconst 1, 1) := by decide +kernel
theorem dX3_bid_15 : decode cX3_bid 15 = .ok (.invokevirtual 79, 3) := by decide +kernel
theorem dX3_bid_18 : decode cX3_bid 18 = .ok (.ireturn, 1) := by decide +kernel
theorem dX3_bid_19 : decode cX3_bid 19 = .ok (.iload_n 2, 1) := by decide +kernel
theorem dX3_bid_20 : decode cX3_bid 20 = .ok (.ifCond .le 20, 3) := by decide +kernel
theorem dX3_bid_23 : decode cX3_bid 23 = .ok (.iload_n 2, 1) := by decide +kernel
theorem dX3_bid_24 : decode cX3_bid 24 = .ok (.iconst 1, 1) := by decide +kernel
theorem dX3_bid_25 : decode cX3_bid 25 = .ok (.aload_n 0, 1) := by decide +kernel
theorem dX3_bid_26 : decode cX3_bid 26 = .ok (.getfield 36, 3) := by decide +kernel
theorem dX3_bid_29 : decode cX3_bid 29 = .ok (.ishl, 1) := by decide +kernel
theorem dX3_bid_30 : decode cX3_bid 30 = .ok (.if_icmp .ge 10, 3) := by decide +kernel
theorem dX3_bid_33 : decode cX3_bid 33 = .ok (.iload_n 3, 1) := by decide +kernel
theorem dX3_bid_34 : decode cX3_bid 34 = .ok (.invokestatic 88, 3) := by decide +kernel
theorem dX3_bid_37 : decode cX3_bid 37 = .ok (.ifCond .ne 9, 3) := by decide +kernel
theorem dX3_bid_40 : decode cX3_bid 40 = .ok (.aload_n 0, 1) := by decide +kernel
theorem dX3_bid_41 : decode cX3_bid 41 = .ok (.iconst 2, 1) := by decide +kernel
theorem dX3_bid_42 : decode cX3_bid 42 = .ok (.invokevirtual 79, 3) := by decide +kernel
theorem dX3_bid_45 : decode cX3_bid 45 = .ok (.ireturn, 1) := by decide +kernel
theorem dX3_bid_46 : decode cX3_bid 46 = .ok (.aload_n 0, 1) := by decide +kernel
theorem dX3_bid_47 : decode cX3_bid 47 = .ok (.getfield 42, 3) := by decide +kernel
theorem dX3_bid_50 : decode cX3_bid 50 = .ok (.bipush 12, 2) := by decide +kernel
theorem dX3_bid_52 : decode cX3_bid 52 = .ok (.if_icmp .ne 9, 3) := by decide +kernel
theorem dX3_bid_55 : decode cX3_bid 55 = .ok (.aload_n 0, 1) := by decide +kernel
theorem dX3_bid_56 : decode cX3_bid 56 = .ok (.iconst 3, 1) := by decide +kernel
theorem dX3_bid_57 : decode cX3_bid 57 = .ok (.invokevirtual 79, 3) := by decide +kernel
theorem dX3_bid_60 : decode cX3_bid 60 = .ok (.ireturn, 1) := by decide +kernel
theorem dX3_bid_61 : decode cX3_bid 61 = .ok (.iconst 5, 1) := by decide +kernel
theorem dX3_bid_62 : decode cX3_bid 62 = .ok (.newarray .int, 2) := by decide +kernel
theorem dX3_bid_64 : decode cX3_bid 64 = .ok (.dup, 1) := by decide +kernel
theorem dX3_bid_65 : decode cX3_bid 65 = .ok (.iconst 0, 1) := by decide +kernel
theorem dX3_bid_66 : decode cX3_bid 66 = .ok (.iload_n 1, 1) := by decide +kernel
theorem dX3_bid_67 : decode cX3_bid 67 = .ok (.iastore, 1) := by decide +kernel
theorem dX3_bid_68 : decode cX3_bid 68 = .ok (.dup, 1) := by decide +kernel
theorem dX3_bid_69 : decode cX3_bid 69 = .ok (.iconst 1, 1) := by decide +kernel
theorem dX3_bid_70 : decode cX3_bid 70 = .ok (.iload_n 2, 1) := by decide +kernel
theorem dX3_bid_71 : decode cX3_bid 71 = .ok (.iastore, 1) := by decide +kernel
theorem dX3_bid_72 : decode cX3_bid 72 = .ok (.dup, 1) := by decide +kernel
theorem dX3_bid_73 : decode cX3_bid 73 = .ok (.iconst 2, 1) := by decide +kernel
theorem dX3_bid_74 : decode cX3_bid 74 = .ok (.iload_n 3, 1) := by decide +kernel
theorem dX3_bid_75 : decode cX3_bid 75 = .ok (.iastore, 1) := by decide +kernel
theorem dX3_bid_76 : decode cX3_bid 76 = .ok (.dup, 1) := by decide +kernel
theorem dX3_bid_77 : decode cX3_bid 77 = .ok (.iconst 3, 1) := by decide +kernel
theorem dX3_bid_78 : decode cX3_bid 78 = .ok (.iload_n 3, 1) := by decide +kernel
theorem dX3_bid_79 : decode cX3_bid 79 = .ok (.iastore, 1) := by decide +kernel
theorem dX3_bid_80 : decode cX3_bid 80 = .ok (.dup, 1) := by decide +kernel
theorem dX3_bid_81 : decode cX3_bid 81 = .ok (.iconst 4, 1) := by decide +kernel
theorem dX3_bid_82 : decode cX3_bid 82 = .ok (.iconst 0, 1) := by decide +kernel
theorem dX3_bid_83 : decode cX3_bid 83 = .ok (.iastore, 1) := by decide +kernel
theorem dX3_bid_84 : decode cX3_bid 84 = .ok (.astore 4, 2) := by decide +kernel
theorem dX3_bid_86 : decode cX3_bid 86 = .ok (.aload 4, 2) := by decide +kernel
theorem dX3_bid_88 : decode cX3_bid 88 = .ok (.iconst 0, 1) := by decide +kernel
theorem dX3_bid_89 : decode cX3_bid 89 = .ok (.aload_n 0, 1) := by decide +kernel
theorem dX3_bid_90 : decode cX3_bid 90 = .ok (.getfield 13, 3) := by decide +kernel
theorem dX3_bid_93 : decode cX3_bid 93 = .ok (.iconst 5, 1) := by decide +kernel
theorem dX3_bid_94 : decode cX3_bid 94 = .ok (.aload_n 0, 1) := by decide +kernel
theorem dX3_bid_95 : decode cX3_bid 95 = .ok (.getfield 42, 3) := by decide +kernel
theorem dX3_bid_98 : decode cX3_bid 98 = .ok (.imul, 1) := by decide +kernel
theorem dX3_bid_99 : decode cX3_bid 99 = .ok (.iconst 5, 1) := by decide +kernel
theorem dX3_bid_100 : decode cX3_bid 100 = .ok (.invokestatic 91, 3) := by decide +kernel
theorem dX3_bid_103 : decode cX3_bid 103 = .ok (.aload_n 0, 1) := by decide +kernel
theorem dX3_bid_104 : decode cX3_bid 104 = .ok (.dup, 1) := by decide +kernel
theorem dX3_bid_105 : decode cX3_bid 105 = .ok (.getfield 42, 3) := by decide +kernel
theorem dX3_bid_108 : decode cX3_bid 108 = .ok (.iconst 1, 1) := by decide +kernel
theorem dX3_bid_109 : decode cX3_bid 109 = .ok (.iadd, 1) := by decide +kernel
theorem dX3_bid_110 : decode cX3_bid 110 = .ok (.putfield 42, 3) := by decide +kernel
theorem dX3_bid_113 : decode cX3_bid 113 = .ok (.aload_n 0, 1) := by decide +kernel
theorem dX3_bid_114 : decode cX3_bid 114 = .ok (.getfield 42, 3) := by decide +kernel
theorem dX3_bid_117 : decode cX3_bid 117 = .ok (.iconst 1, 1) := by decide +kernel
theorem dX3_bid_118 : decode cX3_bid 118 = .ok (.isub, 1) := by decide +kernel
theorem dX3_bid_119 : decode cX3_bid 119 = .ok (.ireturn, 1) := by decide +kernel
set_option maxRecDepth 20000 in
theorem ggX3_change_X3_isBid : GoodIn wsX3_change wsX3_isBid := goodIn_r _ [6, 7, 8, 9, 5, 10, 23, 24, 25, 26, 27, 28, 29, 30, 31, 32, 33] (by decide +kernel) (by decide +kernel)
set_option maxRecDepth 20000 in
theorem gX3_change_X3_isBid : GoodIn wsX3_change (wsV RX3 97 RX3 yX3_isBid wsX3_isBid) := goodIn_app (goodIn_of _ (by decide +kernel)) ggX3_change_X3_isBid
set_option maxRecDepth 20000 in
theorem ggX3_change_X3_fail : GoodIn wsX3_change wsX3_fail := goodIn_r _ [14, 15, 23, 24, 25, 26, 27, 28, 29, 30, 31, 32, 33] (by decide +kernel) (by decide +kernel)
set_option maxRecDepth 20000 in
theorem gX3_change_X3_fail : GoodIn wsX3_change (wsV RX3 79 RX3 yX3_fail wsX3_fail) := goodIn_app (goodIn_of _ (by decide +kernel)) ggX3_change_X3_fail
set_option maxRecDepth 20000 in
theorem ggX3_change_X3_isPrice : GoodIn wsX3_change wsX3_isPrice := goodIn_r _ [18, 8, 9, 5, 10] (by decide +kernel) (by decide +kernel)
set_option maxRecDepth 20000 in
theorem gX3_change_X3_isPrice : GoodIn wsX3_change (va_wsS RX3 88 yX3_isPrice wsX3_isPrice) := goodIn_app (goodIn_of _ (by decide +kernel)) ggX3_change_X3_isPrice
set_option maxRecDepth 20000 in
theorem ggX3_change_X3_bi : GoodIn wsX3_change wsX3_bi := goodIn_r _ [22, 1, 23, 24, 25, 26, 27, 28, 29, 30, 31, 32, 33] (by decide +kernel) (by decide +kernel)
set_option maxRecDepth 20000 in
theorem gX3_change_X3_bi : GoodIn wsX3_change (wsV RX3 49 RX3 yX3_bi wsX3_bi) := goodIn_app (goodIn_of _ (by decide +kernel)) ggX3_change_X3_bi
theorem dX3_change_0 : decode cX3_change 0 = .ok (.aload_n 0, 1) := by decide +kernel
theorem dX3_change_1 : decode cX3_change 1 = .ok (.iload_n 1, 1) := by decide +kernel
theorem dX3_change_2 : decode cX3_change 2 = .ok (.invokevirtual 97, 3) := by decide +kernel
theorem dX3_change_5 : decode cX3_change 5 = .ok (.ifCond .ne 9, 3) := by decide +kernel
theorem dX3_change_8 : decode cX3_change 8 = .ok (.aload_n 0, 1) := by decide +kernel
theorem dX3_change_9 : decode cX3_change 9 = .ok (.iconst 1, 1) := by decide +kernel
theorem dX3_change_10 : decode cX3_change 10 = .ok (.invokevirtual 79, 3) := by decide +kernel
theorem dX3_change_13 : decode cX3_change 13 = .ok (.ireturn, 1) := by decide +kernel
theorem dX3_change_14 : decode cX3_change 14 = .ok (.iload_n 3, 1) := by decide +kernel
theorem dX3_change_15 : decode cX3_change 15 = .ok (.invokestatic 88, 3) := by decide +kernel
theorem dX3_change_18 : decode cX3_change 18 = .ok (.ifCond .ne 9, 3) := by decide +kernel
theorem dX3_change_21 : decode cX3_change 21 = .ok (.aload_n 0, 1) := by decide +kernel
theorem dX3_change_22 : decode cX3_change 22 = .ok (.iconst 2, 1) := by decide +kernel
theorem dX3_change_23 : decode cX3_change 23 = .ok (.invokevirtual 79, 3) := by decide +kernel
theorem dX3_change_26 : decode cX3_change 26 = .ok (.ireturn, 1) := by decide +kernel
theorem dX3_change_27 : decode cX3_change 27 = .ok (.aload_n 0, 1) := by decide +kernel
theorem dX3_change_28 : decode cX3_change 28 = .ok (.iload_n 1, 1) := by decide +kernel
theorem dX3_change_29 : decode cX3_change 29 = .ok (.iload_n 2, 1) := by decide +kernel
theorem dX3_change_30 : decode cX3_change 30 = .ok (.invokevirtual 49, 3) := by decide +kernel
theorem dX3_change_33 : decode cX3_change 33 = .ok (.istore 4, 2) := by decide +kernel
theorem dX3_change_35 : decode cX3_change 35 = .ok (.aload_n 0, 1) := by decide +kernel
theorem dX3_change_36 : decode cX3_change 36 = .ok (.getfield 13, 3) := by decide +kernel
theorem dX3_change_39 : decode cX3_change 39 = .ok (.iconst 5, 1) := by decide +kernel
theorem dX3_change_40 : decode cX3_change 40 = .ok (.iload_n 1, 1) := by decide +kernel
theorem dX3_change_41 : decode cX3_change 41 = .ok (.imul, 1) := by decide +kernel
theorem dX3_change_42 : decode cX3_change 42 = .ok (.iload_n 2, 1) := by decide +kernel
theorem dX3_change_43 : decode cX3_change 43 = .ok (.iadd, 1) := by decide +kernel
theorem dX3_change_44 : decode cX3_change 44 = .ok (.iload_n 3, 1) := by decide +kernel
theorem dX3_change_45 : decode cX3_change 45 = .ok (.iastore, 1) := by decide +kernel
theorem dX3_change_46 : decode cX3_change 46 = .ok (.iload 4, 2) := by decide +kernel
theorem dX3_change_48 : decode cX3_change 48 = .ok (.ireturn, 1) := by decide +kernel
set_option maxRecDepth 20000 in
theorem ggX3_setPrice_X3_change : GoodIn wsX3_setPrice wsX3_change := goodIn_r _ [6, 7, 8, 9, 10, 5, 11, 12, 13, 14, 15, 16, 17, 18, 19, 1, 20, 21, 22, 23, 24, 25, 26, 27, 28, 29, 30, 31, 32, 33, 34, 35, 36, 37] (by decide +kernel) (by decide +kernel)
set_option maxRecDepth 20000 in
theorem gX3_setPrice_X3_change : GoodIn wsX3_setPrice (wsV RX3 100 RX3 yX3_change wsX3_change) := goodIn_app (goodIn_of _ (by decide +kernel)) ggX3_setPrice_X3_change
theorem dX3_setPrice_0 : decode cX3_setPrice 0 = .ok (.aload_n 0, 1) := by decide +kernel
theorem dX3_setPrice_1 : decode cX3_setPrice 1 = .ok (.iconst 0, 1) := by decide +kernel
theorem dX3_setPrice_2 : decode cX3_setPrice 2 = .ok (.putfield 28, 3) := by decide +kernel
theorem dX3_setPrice_5 : decode cX3_setPrice 5 = .ok (.aload_n 0, 1) := by decide +kernel
theorem dX3_setPrice_6 : decode cX3_setPrice 6 = .ok (.iload_n 1, 1) := by decide +kernel
theorem dX3_setPrice_7 : decode cX3_setPrice 7 = .ok (.iconst 2, 1) := by decide +kernel
theorem dX3_setPrice_8 : decode cX3_setPrice 8 = .ok (.iload_n 2, 1) := by decide +kernel
theorem dX3_setPrice_9 : decode cX3_setPrice 9 = .ok (.invokevirtual 100, 3) := by decide +kernel
theorem dX3_setPrice_12 : decode cX3_setPrice 12 = .ok (.ireturn, 1) := by decide +kernel
set_option maxRecDepth 20000 in
theorem ggX3_setWorth_X3_change : GoodIn wsX3_setWorth wsX3_change := goodIn_r _ [6, 7, 8, 9, 10, 5, 11, 12, 13, 14, 15, 16, 17, 18, 19, 1, 20, 21, 22, 23, 24, 25, 26, 27, 28, 29, 30, 31, 32, 33, 34, 35, 36, 37] (by decide +kernel) (by decide +kernel)
set_option maxRecDepth 20000 in
theorem gX3_setWorth_X3_change : GoodIn wsX3_setWorth (wsV RX3 100 RX3 yX3_change wsX3_change) := goodIn_app (goodIn_of _ (by decide +kernel)) ggX3_setWorth_X3_change
theorem dX3_setWorth_0 : decode cX3_setWorth 0 = .ok (.aload_n 0, 1) := by decide +kernel
theorem dX3_setWorth_1 : decode cX3_setWorth 1 = .ok (.iconst 0, 1) := by decide +kernel
theorem dX3_setWorth_2 : decode cX3_setWorth 2 = .ok (.putfield 28, 3) := by decide +kernel
theorem dX3_setWorth_5 : decode cX3_setWorth 5 = .ok (.aload_n 0, 1) := by decide +kernel
theorem dX3_setWorth_6 : decode cX3_setWorth 6 = .ok (.iload_n 1, 1) := by decide +kernel
theorem dX3_setWorth_7 : decode cX3_setWorth 7 = .ok (.iconst 3, 1) := by decide +kernel
theorem dX3_setWorth_8 : decode cX3_setWorth 8 = .ok (.iload_n 2, 1) := by decide +kernel
theorem dX3_setWorth_9 : decode cX3_setWorth 9 = .ok (.invokevirtual 100, 3) := by decide +kernel
theorem dX3_setWorth_12 : decode cX3_setWorth 12 = .ok (.ireturn, 1) := by decide +kernel
set_option maxRecDepth 20000 in
theorem ggX3_withdraw_X3_isBid : GoodIn wsX3_withdraw wsX3_isBid := goodIn_r _ [8, 3, 9, 10, 7, 11, 20, 21, 22, 23, 24, 25, 26, 27, 28, 29, 30] (by decide +kernel) (by decide +kernel)
set_option maxRecDepth 20000 in
theorem gX3_withdraw_X3_isBid : GoodIn wsX3_withdraw (wsV RX3 97 RX3 yX3_isBid wsX3_isBid) := goodIn_app (goodIn_of _ (by decide +kernel)) ggX3_withdraw_X3_isBid
set_option maxRecDepth 20000 in
theorem ggX3_withdraw_X3_fail : GoodIn wsX3_withdraw wsX3_fail := goodIn_r _ [15, 1, 20, 21, 22, 23, 24, 25, 26, 27, 28, 29, 30] (by decide +kernel) (by decide +kernel)
set_option maxRecDepth 20000 in
theorem gX3_withdraw_X3_fail : GoodIn wsX3_withdraw (wsV RX3 79 RX3 yX3_fail wsX3_fail) := goodIn_app (goodIn_of _ (by decide +kernel)) ggX3_withdraw_X3_fail
set_option maxRecDepth 20000 in
theorem ggX3_withdraw_X3_bi : GoodIn wsX3_withdraw wsX3_bi := goodIn_r _ [19, 2, 20, 21, 22, 23, 24, 25, 26, 27, 28, 29, 30] (by decide +kernel) (by decide +kernel)
set_option maxRecDepth 20000 in
theorem gX3_withdraw_X3_bi : GoodIn wsX3_withdraw (wsV RX3 49 RX3 yX3_bi wsX3_bi) := goodIn_app (goodIn_of _ (by decide +kernel)) ggX3_withdraw_X3_bi
theorem dX3_withdraw_0 : decode cX3_withdraw 0 = .ok (.aload_n 0, 1) := by decide +kernel
theorem dX3_withdraw_1 : decode cX3_withdraw 1 = .ok (.iconst 0, 1) := by decide +kernel
theorem dX3_withdraw_2 : decode cX3_withdraw 2 = .ok (.putfield 28, 3) := by decide +kernel
theorem dX3_withdraw_5 : decode cX3_withdraw 5 = .ok (.aload_n 0, 1) := by decide +kernel
theorem dX3_withdraw_6 : decode cX3_withdraw 6 = .ok (.iload_n 1, 1) := by decide +kernel
theorem dX3_withdraw_7 : decode cX3_withdraw 7 = .ok (.invokevirtual 97, 3) := by decide +kernel
theorem dX3_withdraw_10 : decode cX3_withdraw 10 = .ok (.ifCond .ne 9, 3) := by decide +kernel
theorem dX3_withdraw_13 : decode cX3_withdraw 13 = .ok (.aload_n 0, 1) := by decide +kernel
theorem dX3_withdraw_14 : decode cX3_withdraw 14 = .ok (.iconst 1, 1) := by decide +kernel
theorem dX3_withdraw_15 : decode cX3_withdraw 15 = .ok (.invokevirtual 79, 3) := by decide +kernel
theorem dX3_withdraw_18 : decode cX3_withdraw 18 = .ok (.ireturn, 1) := by decide +kernel
theorem dX3_withdraw_19 : decode cX3_withdraw 19 = .ok (.aload_n 0, 1) := by decide +kernel
theorem dX3_withdraw_20 : decode cX3_withdraw 20 = .ok (.iload_n 1, 1) := by decide +kernel
theorem dX3_withdraw_21 : decode cX3_withdraw 21 = .ok (.iconst 4, 1) := by decide +kernel
theorem dX3_withdraw_22 : decode cX3_withdraw 22 = .ok (.invokevirtual 49, 3) := by decide +kernel
theorem dX3_withdraw_25 : decode cX3_withdraw 25 = .ok (.iconst 1, 1) := by decide +kernel
theorem dX3_withdraw_26 : decode cX3_withdraw 26 = .ok (.if_icmp .ne 9, 3) := by decide +kernel
theorem dX3_withdraw_29 : decode cX3_withdraw 29 = .ok (.aload_n 0, 1) := by decide +kernel
theorem dX3_withdraw_30 : decode cX3_withdraw 30 = .ok (.iconst 2, 1) := by decide +kernel
theorem dX3_withdraw_31 : decode cX3_withdraw 31 = .ok (.invokevirtual 79, 3) := by decide +kernel
theorem dX3_withdraw_34 : decode cX3_withdraw 34 = .ok (.ireturn, 1) := by decide +kernel
theorem dX3_withdraw_35 : decode cX3_withdraw 35 = .ok (.aload_n 0, 1) := by decide +kernel
theorem dX3_withdraw_36 : decode cX3_withdraw 36 = .ok (.getfield 13, 3) := by decide +kernel
theorem dX3_withdraw_39 : decode cX3_withdraw 39 = .ok (.iconst 5, 1) := by decide +kernel
theorem dX3_withdraw_40 : decode cX3_withdraw 40 = .ok (.iload_n 1, 1) := by decide +kernel
theorem dX3_withdraw_41 : decode cX3_withdraw 41 = .ok (.imul, 1) := by decide +kernel
theorem dX3_withdraw_42 : decode cX3_withdraw 42 = .ok (.iconst 4, 1) := by decide +kernel
theorem dX3_withdraw_43 : decode cX3_withdraw 43 = .ok (.iadd, 1) := by decide +kernel
theorem dX3_withdraw_44 : decode cX3_withdraw 44 = .ok (.iconst 1, 1) := by decide +kernel
theorem dX3_withdraw_45 : decode cX3_withdraw 45 = .ok (.iastore, 1) := by decide +kernel
theorem dX3_withdraw_46 : decode cX3_withdraw 46 = .ok (.iconst 0, 1) := by decide +kernel
theorem dX3_withdraw_47 : decode cX3_withdraw 47 = .ok (.istore_n 2, 1) := by decide +kernel
theorem dX3_withdraw_48 : decode cX3_withdraw 48 = .ok (.iconst 0, 1) := by decide +kernel
theorem dX3_withdraw_49 : decode cX3_withdraw 49 = .ok (.istore_n 3, 1) := by decide +kernel
theorem dX3_withdraw_50 : decode cX3_withdraw 50 = .ok (.iload_n 3, 1) := by decide +kernel
theorem dX3_withdraw_51 : decode cX3_withdraw 51 = .ok (.aload_n 0, 1) := by decide +kernel
theorem dX3_withdraw_52 : decode cX3_withdraw 52 = .ok (.getfield 42, 3) := by decide +kernel
theorem dX3_withdraw_55 : decode cX3_withdraw 55 = .ok (.if_icmp .ge 20, 3) := by decide +kernel
theorem dX3_withdraw_58 : decode cX3_withdraw 58 = .ok (.iload_n 2, 1) := by decide +kernel
theorem dX3_withdraw_59 : decode cX3_withdraw 59 = .ok (.iconst 1, 1) := by decide +kernel
theorem dX3_withdraw_60 : decode cX3_withdraw 60 = .ok (.aload_n 0, 1) := by decide +kernel
theorem dX3_withdraw_61 : decode cX3_withdraw 61 = .ok (.iload_n 3, 1) := by decide +kernel
theorem dX3_withdraw_62 : decode cX3_withdraw 62 = .ok (.iconst 4, 1) := by decide +kernel
theorem dX3_withdraw_63 : decode cX3_withdraw 63 = .ok (.invokevirtual 49, 3) := by decide +kernel
theorem dX3_withdraw_66 : decode cX3_withdraw 66 = .ok (.isub, 1) := by decide +kernel
theorem dX3_withdraw_67 : decode cX3_withdraw 67 = .ok (.iadd, 1) := by decide +kernel
theorem dX3_withdraw_68 : decode cX3_withdraw 68 = .ok (.istore_n 2, 1) := by decide +kernel
theorem dX3_withdraw_69 : decode cX3_withdraw 69 = .ok (.iinc 3 1, 3) := by decide +kernel
theorem dX3_withdraw_72 : decode cX3_withdraw 72 = .ok (.goto (-22), 3) := by decide +kernel
theorem dX3_withdraw_75 : decode cX3_withdraw 75 = .ok (.iload_n 2, 1) := by decide +kernel
theorem dX3_withdraw_76 : decode cX3_withdraw 76 = .ok (.ireturn, 1) := by decide +kernel
set_option maxRecDepth 20000 in
theorem ggX3_bidTold_X3_gain : GoodIn wsX3_bidTold wsX3_gain := goodIn_r _ [5, 6, 7, 8, 4, 9, 10, 11, 12, 13, 14, 15, 16, 17, 18, 19, 34, 35, 36, 37, 38, 39, 40, 41, 42, 43, 44] (by decide +kernel) (by decide +kernel)
set_option maxRecDepth 20000 in
theorem gX3_bidTold_X3_gain : GoodIn wsX3_bidTold (wsV RX3 59 RX3 yX3_gain wsX3_gain) := goodIn_app (goodIn_of _ (by decide +kernel)) ggX3_bidTold_X3_gain
set_option maxRecDepth 20000 in
theorem ggX3_bidTold_X3_isCounted : GoodIn wsX3_bidTold wsX3_isCounted := goodIn_r _ [23, 24, 6, 7, 8, 4, 9, 10, 17, 18, 19, 1, 2, 3, 5, 11, 12, 13, 14, 15, 16, 34, 35, 36, 37, 38, 39, 40, 41, 42, 43, 44] (by decide +kernel) (by decide +kernel)
set_option maxRecDepth 20000 in
theorem gX3_bidTold_X3_isCounted : GoodIn wsX3_bidTold (wsV RX3 62 RX3 yX3_isCounted wsX3_isCounted) := goodIn_app (goodIn_of _ (by decide +kernel)) ggX3_bidTold_X3_isCounted
set_option maxRecDepth 20000 in
theorem ggX3_bidTold_X3_sale : GoodIn wsX3_bidTold wsX3_sale := goodIn_r _ [28, 29, 30, 31, 32, 33, 20, 21, 22, 4, 23, 24, 6, 7, 8, 9, 10, 17, 18, 19, 1, 2, 3, 5, 11, 12, 13, 14, 15, 16, 34, 35, 36, 37, 38, 39, 40, 41, 42, 43, 44] (by decide +kernel) (by decide +kernel)
set_option maxRecDepth 20000 in
theorem gX3_bidTold_X3_sale : GoodIn wsX3_bidTold (wsV RX3 66 RX3 yX3_sale wsX3_sale) := goodIn_app (goodIn_of _ (by decide +kernel)) ggX3_bidTold_X3_sale
set_option maxRecDepth 20000 in
theorem ggX3_bidTold_X3_bit : GoodIn wsX3_bidTold wsX3_bit := goodIn_r _ [19] (by decide +kernel) (by decide +kernel)
set_option maxRecDepth 20000 in
theorem gX3_bidTold_X3_bit : GoodIn wsX3_bidTold (va_wsS RX3 45 yX3_bit wsX3_bit) := goodIn_app (goodIn_of _ (by decide +kernel)) ggX3_bidTold_X3_bit
set_option maxRecDepth 20000 in
theorem ggX3_bidTold_X3_bi : GoodIn wsX3_bidTold wsX3_bi := goodIn_r _ [9, 10, 34, 35, 36, 37, 38, 39, 40, 41, 42, 43, 44] (by decide +kernel) (by decide +kernel)
set_option maxRecDepth 20000 in
theorem gX3_bidTold_X3_bi : GoodIn wsX3_bidTold (wsV RX3 49 RX3 yX3_bi wsX3_bi) := goodIn_app (goodIn_of _ (by decide +kernel)) ggX3_bidTold_X3_bi
theorem dX3_bidTold_0 : decode cX3_bidTold 0 = .ok (.iload_n 2, 1) := by decide +kernel
theorem dX3_bidTold_1 : decode cX3_bidTold 1 = .ok (.tableswitch 56 5 7 #[27, 33, 47], 27) := by decide +kernel
theorem dX3_bidTold_28 : decode cX3_bidTold 28 = .ok (.aload_n 0, 1) := by decide +kernel
theorem dX3_bidTold_29 : decode cX3_bidTold 29 = .ok (.iload_n 1, 1) := by decide +kernel
theorem dX3_bidTold_30 : decode cX3_bidTold 30 = .ok (.invokevirtual 59, 3) := by decide +kernel
