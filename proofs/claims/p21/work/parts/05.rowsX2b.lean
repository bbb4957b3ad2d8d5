theorem dX2_requireBid_4 : decode cX2_requireBid 4 = .ok (.iload_n 1, 1) := by decide +kernel
theorem dX2_requireBid_5 : decode cX2_requireBid 5 = .ok (.aload_n 0, 1) := by decide +kernel
theorem dX2_requireBid_6 : decode cX2_requireBid 6 = .ok (.getfield 74, 3) := by decide +kernel
theorem dX2_requireBid_9 : decode cX2_requireBid 9 = .ok (.if_icmp .lt 13, 3) := by decide +kernel
theorem dX2_requireBid_12 : decode cX2_requireBid 12 = .ok (.new 206, 3) := by decide +kernel
theorem dX2_requireBid_15 : decode cX2_requireBid 15 = .ok (.dup, 1) := by decide +kernel
theorem dX2_requireBid_16 : decode cX2_requireBid 16 = .ok (.ldc 213, 2) := by decide +kernel
theorem dX2_requireBid_18 : decode cX2_requireBid 18 = .ok (.invokespecial 210, 3) := by decide +kernel
theorem dX2_requireBid_21 : decode cX2_requireBid 21 = .ok (.athrow, 1) := by decide +kernel
theorem dX2_requireBid_22 : decode cX2_requireBid 22 = .ok (.return_, 1) := by decide +kernel
theorem dX2_requireWhat_0 : decode cX2_requireWhat 0 = .ok (.iload_n 0, 1) := by decide +kernel
theorem dX2_requireWhat_1 : decode cX2_requireWhat 1 = .ok (.ifCond .lt 8, 3) := by decide +kernel
theorem dX2_requireWhat_4 : decode cX2_requireWhat 4 = .ok (.iload_n 0, 1) := by decide +kernel
theorem dX2_requireWhat_5 : decode cX2_requireWhat 5 = .ok (.iload_n 1, 1) := by decide +kernel
theorem dX2_requireWhat_6 : decode cX2_requireWhat 6 = .ok (.if_icmp .le 13, 3) := by decide +kernel
theorem dX2_requireWhat_9 : decode cX2_requireWhat 9 = .ok (.new 206, 3) := by decide +kernel
theorem dX2_requireWhat_12 : decode cX2_requireWhat 12 = .ok (.dup, 1) := by decide +kernel
theorem dX2_requireWhat_13 : decode cX2_requireWhat 13 = .ok (.ldc 215, 2) := by decide +kernel
theorem dX2_requireWhat_15 : decode cX2_requireWhat 15 = .ok (.invokespecial 210, 3) := by decide +kernel
theorem dX2_requireWhat_18 : decode cX2_requireWhat 18 = .ok (.athrow, 1) := by decide +kernel
theorem dX2_requireWhat_19 : decode cX2_requireWhat 19 = .ok (.return_, 1) := by decide +kernel
theorem dX2_requireReserve_0 : decode cX2_requireReserve 0 = .ok (.iload_n 0, 1) := by decide +kernel
theorem dX2_requireReserve_1 : decode cX2_requireReserve 1 = .ok (.ifCond .lt 9, 3) := by decide +kernel
theorem dX2_requireReserve_4 : decode cX2_requireReserve 4 = .ok (.iload_n 0, 1) := by decide +kernel
theorem dX2_requireReserve_5 : decode cX2_requireReserve 5 = .ok (.bipush 99, 2) := by decide +kernel
theorem dX2_requireReserve_7 : decode cX2_requireReserve 7 = .ok (.if_icmp .le 13, 3) := by decide +kernel
theorem dX2_requireReserve_10 : decode cX2_requireReserve 10 = .ok (.new 217, 3) := by decide +kernel
theorem dX2_requireReserve_13 : decode cX2_requireReserve 13 = .ok (.dup, 1) := by decide +kernel
theorem dX2_requireReserve_14 : decode cX2_requireReserve 14 = .ok (.ldc 219, 2) := by decide +kernel
theorem dX2_requireReserve_16 : decode cX2_requireReserve 16 = .ok (.invokespecial 221, 3) := by decide +kernel
theorem dX2_requireReserve_19 : decode cX2_requireReserve 19 = .ok (.athrow, 1) := by decide +kernel
theorem dX2_requireReserve_20 : decode cX2_requireReserve 20 = .ok (.return_, 1) := by decide +kernel
theorem dX2_requireAmount_0 : decode cX2_requireAmount 0 = .ok (.iload_n 0, 1) := by decide +kernel
theorem dX2_requireAmount_1 : decode cX2_requireAmount 1 = .ok (.ifCond .lt 10, 3) := by decide +kernel
theorem dX2_requireAmount_4 : decode cX2_requireAmount 4 = .ok (.iload_n 0, 1) := by decide +kernel
theorem dX2_requireAmount_5 : decode cX2_requireAmount 5 = .ok (.sipush 999, 3) := by decide +kernel
theorem dX2_requireAmount_8 : decode cX2_requireAmount 8 = .ok (.if_icmp .le 13, 3) := by decide +kernel
theorem dX2_requireAmount_11 : decode cX2_requireAmount 11 = .ok (.new 217, 3) := by decide +kernel
theorem dX2_requireAmount_14 : decode cX2_requireAmount 14 = .ok (.dup, 1) := by decide +kernel
theorem dX2_requireAmount_15 : decode cX2_requireAmount 15 = .ok (.ldc 222, 2) := by decide +kernel
theorem dX2_requireAmount_17 : decode cX2_requireAmount 17 = .ok (.invokespecial 221, 3) := by decide +kernel
theorem dX2_requireAmount_20 : decode cX2_requireAmount 20 = .ok (.athrow, 1) := by decide +kernel
theorem dX2_requireAmount_21 : decode cX2_requireAmount 21 = .ok (.return_, 1) := by decide +kernel
theorem dX2_requireBundle_0 : decode cX2_requireBundle 0 = .ok (.iload_n 1, 1) := by decide +kernel
theorem dX2_requireBundle_1 : decode cX2_requireBundle 1 = .ok (.ifCond .le 13, 3) := by decide +kernel
theorem dX2_requireBundle_4 : decode cX2_requireBundle 4 = .ok (.iload_n 1, 1) := by decide +kernel
theorem dX2_requireBundle_5 : decode cX2_requireBundle 5 = .ok (.iconst 1, 1) := by decide +kernel
theorem dX2_requireBundle_6 : decode cX2_requireBundle 6 = .ok (.aload_n 0, 1) := by decide +kernel
theorem dX2_requireBundle_7 : decode cX2_requireBundle 7 = .ok (.getfield 60, 3) := by decide +kernel
theorem dX2_requireBundle_10 : decode cX2_requireBundle 10 = .ok (.ishl, 1) := by decide +kernel
theorem dX2_requireBundle_11 : decode cX2_requireBundle 11 = .ok (.if_icmp .lt 13, 3) := by decide +kernel
theorem dX2_requireBundle_14 : decode cX2_requireBundle 14 = .ok (.new 217, 3) := by decide +kernel
theorem dX2_requireBundle_17 : decode cX2_requireBundle 17 = .ok (.dup, 1) := by decide +kernel
theorem dX2_requireBundle_18 : decode cX2_requireBundle 18 = .ok (.ldc 224, 2) := by decide +kernel
theorem dX2_requireBundle_20 : decode cX2_requireBundle 20 = .ok (.invokespecial 221, 3) := by decide +kernel
theorem dX2_requireBundle_23 : decode cX2_requireBundle 23 = .ok (.athrow, 1) := by decide +kernel
theorem dX2_requireBundle_24 : decode cX2_requireBundle 24 = .ok (.return_, 1) := by decide +kernel
set_option maxRecDepth 20000 in
theorem ggX2_putPrice_X2_reservesOf : GoodIn wsX2_putPrice wsX2_reservesOf := goodIn_r _ [8, 9, 10, 11, 12, 7, 13, 14, 15, 16, 17, 18, 19, 20, 21, 22, 23, 24, 25, 26, 27] (by decide +kernel) (by decide +kernel)
set_option maxRecDepth 20000 in
theorem gX2_putPrice_X2_reservesOf : GoodIn wsX2_putPrice (wsV RX2 226 RX2 yX2_reservesOf wsX2_reservesOf) := goodIn_app (goodIn_of _ (by decide +kernel)) ggX2_putPrice_X2_reservesOf
theorem dX2_putPrice_0 : decode cX2_putPrice 0 = .ok (.aload_n 0, 1) := by decide +kernel
theorem dX2_putPrice_1 : decode cX2_putPrice 1 = .ok (.getfield 23, 3) := by decide +kernel
theorem dX2_putPrice_4 : decode cX2_putPrice 4 = .ok (.iload_n 1, 1) := by decide +kernel
theorem dX2_putPrice_5 : decode cX2_putPrice 5 = .ok (.iload_n 2, 1) := by decide +kernel
theorem dX2_putPrice_6 : decode cX2_putPrice 6 = .ok (.iastore, 1) := by decide +kernel
theorem dX2_putPrice_7 : decode cX2_putPrice 7 = .ok (.aload_n 0, 1) := by decide +kernel
theorem dX2_putPrice_8 : decode cX2_putPrice 8 = .ok (.getfield 26, 3) := by decide +kernel
theorem dX2_putPrice_11 : decode cX2_putPrice 11 = .ok (.iload_n 1, 1) := by decide +kernel
theorem dX2_putPrice_12 : decode cX2_putPrice 12 = .ok (.iload_n 2, 1) := by decide +kernel
theorem dX2_putPrice_13 : decode cX2_putPrice 13 = .ok (.aload_n 0, 1) := by decide +kernel
theorem dX2_putPrice_14 : decode cX2_putPrice 14 = .ok (.aload_n 0, 1) := by decide +kernel
theorem dX2_putPrice_15 : decode cX2_putPrice 15 = .ok (.getfield 20, 3) := by decide +kernel
theorem dX2_putPrice_18 : decode cX2_putPrice 18 = .ok (.iload_n 1, 1) := by decide +kernel
theorem dX2_putPrice_19 : decode cX2_putPrice 19 = .ok (.iaload, 1) := by decide +kernel
theorem dX2_putPrice_20 : decode cX2_putPrice 20 = .ok (.invokevirtual 226, 3) := by decide +kernel
theorem dX2_putPrice_23 : decode cX2_putPrice 23 = .ok (.isub, 1) := by decide +kernel
theorem dX2_putPrice_24 : decode cX2_putPrice 24 = .ok (.iastore, 1) := by decide +kernel
theorem dX2_putPrice_25 : decode cX2_putPrice 25 = .ok (.return_, 1) := by decide +kernel
set_option maxRecDepth 20000 in
theorem ggX2_reservesOf_X2_hasField : GoodIn wsX2_reservesOf wsX2_hasField := goodIn_r _ [6] (by decide +kernel) (by decide +kernel)
set_option maxRecDepth 20000 in
theorem gX2_reservesOf_X2_hasField : GoodIn wsX2_reservesOf (va_wsS RX2 229 yX2_hasField wsX2_hasField) := goodIn_app (goodIn_of _ (by decide +kernel)) ggX2_reservesOf_X2_hasField
theorem dX2_reservesOf_0 : decode cX2_reservesOf 0 = .ok (.iconst 0, 1) := by decide +kernel
theorem dX2_reservesOf_1 : decode cX2_reservesOf 1 = .ok (.istore_n 2, 1) := by decide +kernel
theorem dX2_reservesOf_2 : decode cX2_reservesOf 2 = .ok (.iconst 0, 1) := by decide +kernel
theorem dX2_reservesOf_3 : decode cX2_reservesOf 3 = .ok (.istore_n 3, 1) := by decide +kernel
theorem dX2_reservesOf_4 : decode cX2_reservesOf 4 = .ok (.iload_n 3, 1) := by decide +kernel
theorem dX2_reservesOf_5 : decode cX2_reservesOf 5 = .ok (.aload_n 0, 1) := by decide +kernel
theorem dX2_reservesOf_6 : decode cX2_reservesOf 6 = .ok (.getfield 60, 3) := by decide +kernel
theorem dX2_reservesOf_9 : decode cX2_reservesOf 9 = .ok (.if_icmp .ge 26, 3) := by decide +kernel
theorem dX2_reservesOf_12 : decode cX2_reservesOf 12 = .ok (.iload_n 1, 1) := by decide +kernel
theorem dX2_reservesOf_13 : decode cX2_reservesOf 13 = .ok (.iload_n 3, 1) := by decide +kernel
theorem dX2_reservesOf_14 : decode cX2_reservesOf 14 = .ok (.invokestatic 229, 3) := by decide +kernel
theorem dX2_reservesOf_17 : decode cX2_reservesOf 17 = .ok (.ifCond .eq 12, 3) := by decide +kernel
theorem dX2_reservesOf_20 : decode cX2_reservesOf 20 = .ok (.iload_n 2, 1) := by decide +kernel
theorem dX2_reservesOf_21 : decode cX2_reservesOf 21 = .ok (.aload_n 0, 1) := by decide +kernel
theorem dX2_reservesOf_22 : decode cX2_reservesOf 22 = .ok (.getfield 9, 3) := by decide +kernel
theorem dX2_reservesOf_25 : decode cX2_reservesOf 25 = .ok (.iload_n 3, 1) := by decide +kernel
theorem dX2_reservesOf_26 : decode cX2_reservesOf 26 = .ok (.iaload, 1) := by decide +kernel
theorem dX2_reservesOf_27 : decode cX2_reservesOf 27 = .ok (.iadd, 1) := by decide +kernel
theorem dX2_reservesOf_28 : decode cX2_reservesOf 28 = .ok (.istore_n 2, 1) := by decide +kernel
theorem dX2_reservesOf_29 : decode cX2_reservesOf 29 = .ok (.iinc 3 1, 3) := by decide +kernel
theorem dX2_reservesOf_32 : decode cX2_reservesOf 32 = .ok (.goto (-28), 3) := by decide +kernel
theorem dX2_reservesOf_35 : decode cX2_reservesOf 35 = .ok (.iload_n 2, 1) := by decide +kernel
theorem dX2_reservesOf_36 : decode cX2_reservesOf 36 = .ok (.ireturn, 1) := by decide +kernel
theorem dX2_hasField_0 : decode cX2_hasField 0 = .ok (.iload_n 0, 1) := by decide +kernel
theorem dX2_hasField_1 : decode cX2_hasField 1 = .ok (.iconst 1, 1) := by decide +kernel
theorem dX2_hasField_2 : decode cX2_hasField 2 = .ok (.iload_n 1, 1) := by decide +kernel
theorem dX2_hasField_3 : decode cX2_hasField 3 = .ok (.ishl, 1) := by decide +kernel
theorem dX2_hasField_4 : decode cX2_hasField 4 = .ok (.iand, 1) := by decide +kernel
theorem dX2_hasField_5 : decode cX2_hasField 5 = .ok (.ifCond .eq 7, 3) := by decide +kernel
theorem dX2_hasField_8 : decode cX2_hasField 8 = .ok (.iconst 1, 1) := by decide +kernel
theorem dX2_hasField_9 : decode cX2_hasField 9 = .ok (.goto 4, 3) := by decide +kernel
theorem dX2_hasField_12 : decode cX2_hasField 12 = .ok (.iconst 0, 1) := by decide +kernel
theorem dX2_hasField_13 : decode cX2_hasField 13 = .ok (.ireturn, 1) := by decide +kernel
theorem dX2_counts_0 : decode cX2_counts 0 = .ok (.aload_n 0, 1) := by decide +kernel
theorem dX2_counts_1 : decode cX2_counts 1 = .ok (.getfield 32, 3) := by decide +kernel
theorem dX2_counts_4 : decode cX2_counts 4 = .ok (.iload_n 1, 1) := by decide +kernel
theorem dX2_counts_5 : decode cX2_counts 5 = .ok (.baload, 1) := by decide +kernel
theorem dX2_counts_6 : decode cX2_counts 6 = .ok (.ifCond .ne 30, 3) := by decide +kernel
theorem dX2_counts_9 : decode cX2_counts 9 = .ok (.aload_n 0, 1) := by decide +kernel
theorem dX2_counts_10 : decode cX2_counts 10 = .ok (.getfield 13, 3) := by decide +kernel
theorem dX2_counts_13 : decode cX2_counts 13 = .ok (.aload_n 0, 1) := by decide +kernel
theorem dX2_counts_14 : decode cX2_counts 14 = .ok (.getfield 17, 3) := by decide +kernel
theorem dX2_counts_17 : decode cX2_counts 17 = .ok (.iload_n 1, 1) := by decide +kernel
theorem dX2_counts_18 : decode cX2_counts 18 = .ok (.iaload, 1) := by decide +kernel
theorem dX2_counts_19 : decode cX2_counts 19 = .ok (.baload, 1) := by decide +kernel
theorem dX2_counts_20 : decode cX2_counts 20 = .ok (.ifCond .eq 16, 3) := by decide +kernel
theorem dX2_counts_23 : decode cX2_counts 23 = .ok (.aload_n 0, 1) := by decide +kernel
theorem dX2_counts_24 : decode cX2_counts 24 = .ok (.getfield 26, 3) := by decide +kernel
theorem dX2_counts_27 : decode cX2_counts 27 = .ok (.iload_n 1, 1) := by decide +kernel
theorem dX2_counts_28 : decode cX2_counts 28 = .ok (.iaload, 1) := by decide +kernel
theorem dX2_counts_29 : decode cX2_counts 29 = .ok (.ifCond .lt 7, 3) := by decide +kernel
theorem dX2_counts_32 : decode cX2_counts 32 = .ok (.iconst 1, 1) := by decide +kernel
theorem dX2_counts_33 : decode cX2_counts 33 = .ok (.goto 4, 3) := by decide +kernel
theorem dX2_counts_36 : decode cX2_counts 36 = .ok (.iconst 0, 1) := by decide +kernel
theorem dX2_counts_37 : decode cX2_counts 37 = .ok (.ireturn, 1) := by decide +kernel
set_option maxRecDepth 20000 in
theorem ggX2_bidsLeft_X2_bidsLeftOf : GoodIn wsX2_bidsLeft wsX2_bidsLeftOf := goodIn_r _ [6, 7, 8, 9, 10, 11, 12, 13, 14, 15, 16, 17, 18, 19, 20, 21, 22, 23] (by decide +kernel) (by decide +kernel)
set_option maxRecDepth 20000 in
theorem gX2_bidsLeft_X2_bidsLeftOf : GoodIn wsX2_bidsLeft (wsV RX2 123 RX2 yX2_bidsLeftOf wsX2_bidsLeftOf) := goodIn_app (goodIn_of _ (by decide +kernel)) ggX2_bidsLeft_X2_bidsLeftOf
theorem dX2_bidsLeft_0 : decode cX2_bidsLeft 0 = .ok (.iconst 0, 1) := by decide +kernel
theorem dX2_bidsLeft_1 : decode cX2_bidsLeft 1 = .ok (.istore_n 1, 1) := by decide +kernel
theorem dX2_bidsLeft_2 : decode cX2_bidsLeft 2 = .ok (.iconst 0, 1) := by decide +kernel
theorem dX2_bidsLeft_3 : decode cX2_bidsLeft 3 = .ok (.istore_n 2, 1) := by decide +kernel
theorem dX2_bidsLeft_4 : decode cX2_bidsLeft 4 = .ok (.iload_n 2, 1) := by decide +kernel
theorem dX2_bidsLeft_5 : decode cX2_bidsLeft 5 = .ok (.aload_n 0, 1) := by decide +kernel
theorem dX2_bidsLeft_6 : decode cX2_bidsLeft 6 = .ok (.getfield 81, 3) := by decide +kernel
theorem dX2_bidsLeft_9 : decode cX2_bidsLeft 9 = .ok (.if_icmp .ge 17, 3) := by decide +kernel
theorem dX2_bidsLeft_12 : decode cX2_bidsLeft 12 = .ok (.iload_n 1, 1) := by decide +kernel
theorem dX2_bidsLeft_13 : decode cX2_bidsLeft 13 = .ok (.aload_n 0, 1) := by decide +kernel
theorem dX2_bidsLeft_14 : decode cX2_bidsLeft 14 = .ok (.iload_n 2, 1) := by decide +kernel
theorem dX2_bidsLeft_15 : decode cX2_bidsLeft 15 = .ok (.invokevirtual 123, 3) := by decide +kernel
theorem dX2_bidsLeft_18 : decode cX2_bidsLeft 18 = .ok (.iadd, 1) := by decide +kernel
theorem dX2_bidsLeft_19 : decode cX2_bidsLeft 19 = .ok (.istore_n 1, 1) := by decide +kernel
theorem dX2_bidsLeft_20 : decode cX2_bidsLeft 20 = .ok (.iinc 2 1, 3) := by decide +kernel
theorem dX2_bidsLeft_23 : decode cX2_bidsLeft 23 = .ok (.goto (-19), 3) := by decide +kernel
theorem dX2_bidsLeft_26 : decode cX2_bidsLeft 26 = .ok (.iload_n 1, 1) := by decide +kernel
theorem dX2_bidsLeft_27 : decode cX2_bidsLeft 27 = .ok (.ireturn, 1) := by decide +kernel
theorem dX2_bidsLeftOf_0 : decode cX2_bidsLeftOf 0 = .ok (.iconst 0, 1) := by decide +kernel
theorem dX2_bidsLeftOf_1 : decode cX2_bidsLeftOf 1 = .ok (.istore_n 2, 1) := by decide +kernel
theorem dX2_bidsLeftOf_2 : decode cX2_bidsLeftOf 2 = .ok (.iconst 0, 1) := by decide +kernel
theorem dX2_bidsLeftOf_3 : decode cX2_bidsLeftOf 3 = .ok (.istore_n 3, 1) := by decide +kernel
theorem dX2_bidsLeftOf_4 : decode cX2_bidsLeftOf 4 = .ok (.iload_n 3, 1) := by decide +kernel
theorem dX2_bidsLeftOf_5 : decode cX2_bidsLeftOf 5 = .ok (.aload_n 0, 1) := by decide +kernel
theorem dX2_bidsLeftOf_6 : decode cX2_bidsLeftOf 6 = .ok (.getfield 74, 3) := by decide +kernel
theorem dX2_bidsLeftOf_9 : decode cX2_bidsLeftOf 9 = .ok (.if_icmp .ge 31, 3) := by decide +kernel
theorem dX2_bidsLeftOf_12 : decode cX2_bidsLeftOf 12 = .ok (.aload_n 0, 1) := by decide +kernel
theorem dX2_bidsLeftOf_13 : decode cX2_bidsLeftOf 13 = .ok (.getfield 17, 3) := by decide +kernel
theorem dX2_bidsLeftOf_16 : decode cX2_bidsLeftOf 16 = .ok (.iload_n 3, 1) := by decide +kernel
theorem dX2_bidsLeftOf_17 : decode cX2_bidsLeftOf 17 = .ok (.iaload, 1) := by decide +kernel
theorem dX2_bidsLeftOf_18 : decode cX2_bidsLeftOf 18 = .ok (.iload_n 1, 1) := by decide +kernel
theorem dX2_bidsLeftOf_19 : decode cX2_bidsLeftOf 19 = .ok (.if_icmp .ne 15, 3) := by decide +kernel
theorem dX2_bidsLeftOf_22 : decode cX2_bidsLeftOf 22 = .ok (.aload_n 0, 1) := by decide +kernel
theorem dX2_bidsLeftOf_23 : decode cX2_bidsLeftOf 23 = .ok (.getfield 32, 3) := by decide +kernel
theorem dX2_bidsLeftOf_26 : decode cX2_bidsLeftOf 26 = .ok (.iload_n 3, 1) := by decide +kernel
theorem dX2_bidsLeftOf_27 : decode cX2_bidsLeftOf 27 = .ok (.baload, 1) := by decide +kernel
theorem dX2_bidsLeftOf_28 : decode cX2_bidsLeftOf 28 = .ok (.ifCond .ne 6, 3) := by decide +kernel
theorem dX2_bidsLeftOf_31 : decode cX2_bidsLeftOf 31 = .ok (.iinc 2 1, 3) := by decide +kernel
theorem dX2_bidsLeftOf_34 : decode cX2_bidsLeftOf 34 = .ok (.iinc 3 1, 3) := by decide +kernel
theorem dX2_bidsLeftOf_37 : decode cX2_bidsLeftOf 37 = .ok (.goto (-33), 3) := by decide +kernel
theorem dX2_bidsLeftOf_40 : decode cX2_bidsLeftOf 40 = .ok (.iload_n 2, 1) := by decide +kernel
theorem dX2_bidsLeftOf_41 : decode cX2_bidsLeftOf 41 = .ok (.ireturn, 1) := by decide +kernel
set_option maxRecDepth 20000 in
theorem ggX2_countingBidsWith_X2_counts : GoodIn wsX2_countingBidsWith wsX2_counts := goodIn_r _ [7, 8, 9, 10, 11, 15, 16, 17, 18, 19, 20, 21, 22, 23, 24, 25, 26, 27, 28] (by decide +kernel) (by decide +kernel)
set_option maxRecDepth 20000 in
theorem gX2_countingBidsWith_X2_counts : GoodIn wsX2_countingBidsWith (wsV RX2 113 RX2 yX2_counts wsX2_counts) := goodIn_app (goodIn_of _ (by decide +kernel)) ggX2_countingBidsWith_X2_counts
set_option maxRecDepth 20000 in
theorem ggX2_countingBidsWith_X2_hasField : GoodIn wsX2_countingBidsWith wsX2_hasField := goodIn_r _ [14] (by decide +kernel) (by decide +kernel)
set_option maxRecDepth 20000 in
theorem gX2_countingBidsWith_X2_hasField : GoodIn wsX2_countingBidsWith (va_wsS RX2 229 yX2_hasField wsX2_hasField) := goodIn_app (goodIn_of _ (by decide +kernel)) ggX2_countingBidsWith_X2_hasField
theorem dX2_countingBidsWith_0 : decode cX2_countingBidsWith 0 = .ok (.iconst 0, 1) := by decide +kernel
theorem dX2_countingBidsWith_1 : decode cX2_countingBidsWith 1 = .ok (.istore_n 2, 1) := by decide +kernel
theorem dX2_countingBidsWith_2 : decode cX2_countingBidsWith 2 = .ok (.iconst 0, 1) := by decide +kernel
theorem dX2_countingBidsWith_3 : decode cX2_countingBidsWith 3 = .ok (.istore_n 3, 1) := by decide +kernel
theorem dX2_countingBidsWith_4 : decode cX2_countingBidsWith 4 = .ok (.iload_n 3, 1) := by decide +kernel
theorem dX2_countingBidsWith_5 : decode cX2_countingBidsWith 5 = .ok (.aload_n 0, 1) := by decide +kernel
theorem dX2_countingBidsWith_6 : decode cX2_countingBidsWith 6 = .ok (.getfield 74, 3) := by decide +kernel
theorem dX2_countingBidsWith_9 : decode cX2_countingBidsWith 9 = .ok (.if_icmp .ge 33, 3) := by decide +kernel
theorem dX2_countingBidsWith_12 : decode cX2_countingBidsWith 12 = .ok (.aload_n 0, 1) := by decide +kernel
theorem dX2_countingBidsWith_13 : decode cX2_countingBidsWith 13 = .ok (.iload_n 3, 1) := by decide +kernel
theorem dX2_countingBidsWith_14 : decode cX2_countingBidsWith 14 = .ok (.invokevirtual 113, 3) := by decide +kernel
theorem dX2_countingBidsWith_17 : decode cX2_countingBidsWith 17 = .ok (.ifCond .eq 19, 3) := by decide +kernel
theorem dX2_countingBidsWith_20 : decode cX2_countingBidsWith 20 = .ok (.aload_n 0, 1) := by decide +kernel
theorem dX2_countingBidsWith_21 : decode cX2_countingBidsWith 21 = .ok (.getfield 20, 3) := by decide +kernel
theorem dX2_countingBidsWith_24 : decode cX2_countingBidsWith 24 = .ok (.iload_n 3, 1) := by decide +kernel
theorem dX2_countingBidsWith_25 : decode cX2_countingBidsWith 25 = .ok (.iaload, 1) := by decide +kernel
theorem dX2_countingBidsWith_26 : decode cX2_countingBidsWith 26 = .ok (.iload_n 1, 1) := by decide +kernel
theorem dX2_countingBidsWith_27 : decode cX2_countingBidsWith 27 = .ok (.invokestatic 229, 3) := by decide +kernel
theorem dX2_countingBidsWith_30 : decode cX2_countingBidsWith 30 = .ok (.ifCond .eq 6, 3) := by decide +kernel
theorem dX2_countingBidsWith_33 : decode cX2_countingBidsWith 33 = .ok (.iinc 2 1, 3) := by decide +kernel
theorem dX2_countingBidsWith_36 : decode cX2_countingBidsWith 36 = .ok (.iinc 3 1, 3) := by decide +kernel
theorem dX2_countingBidsWith_39 : decode cX2_countingBidsWith 39 = .ok (.goto (-35), 3) := by decide +kernel
theorem dX2_countingBidsWith_42 : decode cX2_countingBidsWith 42 = .ok (.iload_n 2, 1) := by decide +kernel
theorem dX2_countingBidsWith_43 : decode cX2_countingBidsWith 43 = .ok (.ireturn, 1) := by decide +kernel
theorem dX2_ownerOf_0 : decode cX2_ownerOf 0 = .ok (.iload_n 1, 1) := by decide +kernel
theorem dX2_ownerOf_1 : decode cX2_ownerOf 1 = .ok (.iconst (-1), 1) := by decide +kernel
theorem dX2_ownerOf_2 : decode cX2_ownerOf 2 = .ok (.if_icmp .ne 7, 3) := by decide +kernel
theorem dX2_ownerOf_5 : decode cX2_ownerOf 5 = .ok (.iconst (-1), 1) := by decide +kernel
theorem dX2_ownerOf_6 : decode cX2_ownerOf 6 = .ok (.goto 9, 3) := by decide +kernel
theorem dX2_ownerOf_9 : decode cX2_ownerOf 9 = .ok (.aload_n 0, 1) := by decide +kernel
theorem dX2_ownerOf_10 : decode cX2_ownerOf 10 = .ok (.getfield 17, 3) := by decide +kernel
theorem dX2_ownerOf_13 : decode cX2_ownerOf 13 = .ok (.iload_n 1, 1) := by decide +kernel
theorem dX2_ownerOf_14 : decode cX2_ownerOf 14 = .ok (.iaload, 1) := by decide +kernel
theorem dX2_ownerOf_15 : decode cX2_ownerOf 15 = .ok (.ireturn, 1) := by decide +kernel
theorem dX2_asNumber_0 : decode cX2_asNumber 0 = .ok (.iload_n 0, 1) := by decide +kernel
theorem dX2_asNumber_1 : decode cX2_asNumber 1 = .ok (.ifCond .eq 7, 3) := by decide +kernel
theorem dX2_asNumber_4 : decode cX2_asNumber 4 = .ok (.iconst 1, 1) := by decide +kernel
theorem dX2_asNumber_5 : decode cX2_asNumber 5 = .ok (.goto 4, 3) := by decide +kernel
theorem dX2_asNumber_8 : decode cX2_asNumber 8 = .ok (.iconst 0, 1) := by decide +kernel
theorem dX2_asNumber_9 : decode cX2_asNumber 9 = .ok (.ireturn, 1) := by decide +kernel
set_option maxRecDepth 20000 in
theorem ggX2_settle_X1_clear : GoodIn wsX2_settle wsX1_clear := goodIn_r _ [7, 8, 9, 10, 11, 12, 13, 14, 15, 16, 17, 18, 19, 20, 21, 74, 75, 76, 77, 92, 93] (by decide +kernel) (by decide +kernel)
set_option maxRecDepth 20000 in
theorem gX2_settle_X1_clear_n232 : GoodIn wsX2_settle (wsX1_clear) := ggX2_settle_X1_clear
set_option maxRecDepth 20000 in
theorem ggX2_settle_X2_findWinners : GoodIn wsX2_settle wsX2_findWinners := goodIn_r _ [26, 12, 13, 14, 15, 16, 17, 27, 28, 29, 25, 30, 3, 31, 32, 33, 34, 35, 36, 37, 38, 39, 40, 41, 42, 43, 44, 45, 46, 47, 48, 49, 50, 51, 52, 53, 54, 55, 56, 57, 92, 93, 78, 79, 80, 81, 82, 83, 84, 85, 86, 87, 88, 89, 90, 91] (by decide +kernel) (by decide +kernel)
set_option maxRecDepth 20000 in
theorem gX2_settle_X2_findWinners : GoodIn wsX2_settle (wsV RX2 235 RX2 yX2_findWinners wsX2_findWinners) := goodIn_app (goodIn_of _ (by decide +kernel)) ggX2_settle_X2_findWinners
set_option maxRecDepth 20000 in
theorem ggX2_settle_X0_has : GoodIn wsX2_settle wsX0_has := goodIn_r _ [60, 17, 92, 93] (by decide +kernel) (by decide +kernel)
set_option maxRecDepth 20000 in
theorem gX2_settle_X0_has_n120 : GoodIn wsX2_settle (wsX0_has) := ggX2_settle_X0_has
set_option maxRecDepth 20000 in
theorem ggX2_settle_X2_award : GoodIn wsX2_settle wsX2_award := goodIn_r _ [64, 49, 51, 50, 65, 66, 67, 25, 68, 69, 70, 71, 72, 73, 78, 79, 80, 81, 82, 83, 84, 85, 86, 87, 88, 89, 90, 91, 74, 75, 76, 77, 92, 93] (by decide +kernel) (by decide +kernel)
set_option maxRecDepth 20000 in
theorem gX2_settle_X2_award : GoodIn wsX2_settle (wsV RX2 239 RX2 yX2_award wsX2_award) := goodIn_app (goodIn_of _ (by decide +kernel)) ggX2_settle_X2_award
theorem dX2_settle_0 : decode cX2_settle 0 = .ok (.aload_n 1, 1) := by decide +kernel
theorem dX2_settle_1 : decode cX2_settle 1 = .ok (.invokevirtual 232, 3) := by decide +kernel
theorem dX2_settle_4 : decode cX2_settle 4 = .ok (.aload_n 0, 1) := by decide +kernel
theorem dX2_settle_5 : decode cX2_settle 5 = .ok (.aload_n 1, 1) := by decide +kernel
theorem dX2_settle_6 : decode cX2_settle 6 = .ok (.getfield 117, 3) := by decide +kernel
theorem dX2_settle_9 : decode cX2_settle 9 = .ok (.iload_n 2, 1) := by decide +kernel
theorem dX2_settle_10 : decode cX2_settle 10 = .ok (.invokevirtual 235, 3) := by decide +kernel
theorem dX2_settle_13 : decode cX2_settle 13 = .ok (.iconst 0, 1) := by decide +kernel
theorem dX2_settle_14 : decode cX2_settle 14 = .ok (.istore_n 3, 1) := by decide +kernel
theorem dX2_settle_15 : decode cX2_settle 15 = .ok (.iload_n 3, 1) := by decide +kernel
theorem dX2_settle_16 : decode cX2_settle 16 = .ok (.aload_n 0, 1) := by decide +kernel
theorem dX2_settle_17 : decode cX2_settle 17 = .ok (.getfield 81, 3) := by decide +kernel
theorem dX2_settle_20 : decode cX2_settle 20 = .ok (.if_icmp .ge 35, 3) := by decide +kernel
theorem dX2_settle_23 : decode cX2_settle 23 = .ok (.aload_n 0, 1) := by decide +kernel
theorem dX2_settle_24 : decode cX2_settle 24 = .ok (.aload_n 0, 1) := by decide +kernel
theorem dX2_settle_25 : decode cX2_settle 25 = .ok (.getfield 48, 3) := by decide +kernel
theorem dX2_settle_28 : decode cX2_settle 28 = .ok (.iload_n 2, 1) := by decide +kernel
theorem dX2_settle_29 : decode cX2_settle 29 = .ok (.iconst 1, 1) := by decide +kernel
theorem dX2_settle_30 : decode cX2_settle 30 = .ok (.iload_n 3, 1) := by decide +kernel
theorem dX2_settle_31 : decode cX2_settle 31 = .ok (.ishl, 1) := by decide +kernel
theorem dX2_settle_32 : decode cX2_settle 32 = .ok (.ior, 1) := by decide +kernel
theorem dX2_settle_33 : decode cX2_settle 33 = .ok (.invokevirtual 235, 3) := by decide +kernel
theorem dX2_settle_36 : decode cX2_settle 36 = .ok (.aload_n 1, 1) := by decide +kernel
theorem dX2_settle_37 : decode cX2_settle 37 = .ok (.getfield 137, 3) := by decide +kernel
theorem dX2_settle_40 : decode cX2_settle 40 = .ok (.iload_n 3, 1) := by decide +kernel
theorem dX2_settle_41 : decode cX2_settle 41 = .ok (.aload_n 0, 1) := by decide +kernel
theorem dX2_settle_42 : decode cX2_settle 42 = .ok (.getfield 48, 3) := by decide +kernel
theorem dX2_settle_45 : decode cX2_settle 45 = .ok (.getfield 149, 3) := by decide +kernel
theorem dX2_settle_48 : decode cX2_settle 48 = .ok (.iastore, 1) := by decide +kernel
theorem dX2_settle_49 : decode cX2_settle 49 = .ok (.iinc 3 1, 3) := by decide +kernel
theorem dX2_settle_52 : decode cX2_settle 52 = .ok (.goto (-37), 3) := by decide +kernel
theorem dX2_settle_55 : decode cX2_settle 55 = .ok (.iconst 0, 1) := by decide +kernel
theorem dX2_settle_56 : decode cX2_settle 56 = .ok (.istore_n 3, 1) := by decide +kernel
theorem dX2_settle_57 : decode cX2_settle 57 = .ok (.iload_n 3, 1) := by decide +kernel
theorem dX2_settle_58 : decode cX2_settle 58 = .ok (.aload_n 0, 1) := by decide +kernel
theorem dX2_settle_59 : decode cX2_settle 59 = .ok (.getfield 74, 3) := by decide +kernel
theorem dX2_settle_62 : decode cX2_settle 62 = .ok (.if_icmp .ge 26, 3) := by decide +kernel
theorem dX2_settle_65 : decode cX2_settle 65 = .ok (.aload_n 1, 1) := by decide +kernel
theorem dX2_settle_66 : decode cX2_settle 66 = .ok (.getfield 117, 3) := by decide +kernel
theorem dX2_settle_69 : decode cX2_settle 69 = .ok (.iload_n 3, 1) := by decide +kernel
theorem dX2_settle_70 : decode cX2_settle 70 = .ok (.invokevirtual 120, 3) := by decide +kernel
theorem dX2_settle_73 : decode cX2_settle 73 = .ok (.ifCond .eq 9, 3) := by decide +kernel
theorem dX2_settle_76 : decode cX2_settle 76 = .ok (.aload_n 0, 1) := by decide +kernel
theorem dX2_settle_77 : decode cX2_settle 77 = .ok (.aload_n 1, 1) := by decide +kernel
theorem dX2_settle_78 : decode cX2_settle 78 = .ok (.iload_n 3, 1) := by decide +kernel
theorem dX2_settle_79 : decode cX2_settle 79 = .ok (.invokevirtual 239, 3) := by decide +kernel
theorem dX2_settle_82 : decode cX2_settle 82 = .ok (.iinc 3 1, 3) := by decide +kernel
theorem dX2_settle_85 : decode cX2_settle 85 = .ok (.goto (-28), 3) := by decide +kernel
theorem dX2_settle_88 : decode cX2_settle 88 = .ok (.return_, 1) := by decide +kernel
set_option maxRecDepth 20000 in
theorem ggX2_award_X2_reservesOf : GoodIn wsX2_award wsX2_reservesOf := goodIn_r _ [8, 9, 10, 11, 12, 7, 13, 14, 15, 16, 17, 18, 19, 20, 21, 22, 23, 24, 25, 26, 27] (by decide +kernel) (by decide +kernel)
set_option maxRecDepth 20000 in
theorem gX2_award_X2_reservesOf : GoodIn wsX2_award (wsV RX2 226 RX2 yX2_reservesOf wsX2_reservesOf) := goodIn_app (goodIn_of _ (by decide +kernel)) ggX2_award_X2_reservesOf
theorem dX2_award_0 : decode cX2_award 0 = .ok (.aload_n 0, 1) := by decide +kernel
theorem dX2_award_1 : decode cX2_award 1 = .ok (.getfield 17, 3) := by decide +kernel
theorem dX2_award_4 : decode cX2_award 4 = .ok (.iload_n 2, 1) := by decide +kernel
theorem dX2_award_5 : decode cX2_award 5 = .ok (.iaload, 1) := by decide +kernel
theorem dX2_award_6 : decode cX2_award 6 = .ok (.istore_n 3, 1) := by decide +kernel
theorem dX2_award_7 : decode cX2_award 7 = .ok (.aload_n 1, 1) := by decide +kernel
theorem dX2_award_8 : decode cX2_award 8 = .ok (.getfield 117, 3) := by decide +kernel
theorem dX2_award_11 : decode cX2_award 11 = .ok (.getfield 149, 3) := by decide +kernel
theorem dX2_award_14 : decode cX2_award 14 = .ok (.aload_n 0, 1) := by decide +kernel
theorem dX2_award_15 : decode cX2_award 15 = .ok (.getfield 26, 3) := by decide +kernel
theorem dX2_award_18 : decode cX2_award 18 = .ok (.iload_n 2, 1) := by decide +kernel
theorem dX2_award_19 : decode cX2_award 19 = .ok (.iaload, 1) := by decide +kernel
theorem dX2_award_20 : decode cX2_award 20 = .ok (.isub, 1) := by decide +kernel
theorem dX2_award_21 : decode cX2_award 21 = .ok (.istore 4, 2) := by decide +kernel
theorem dX2_award_23 : decode cX2_award 23 = .ok (.aload_n 1, 1) := by decide +kernel
theorem dX2_award_24 : decode cX2_award 24 = .ok (.getfield 127, 3) := by decide +kernel
theorem dX2_award_27 : decode cX2_award 27 = .ok (.iload_n 3, 1) := by decide +kernel
theorem dX2_award_28 : decode cX2_award 28 = .ok (.iload_n 2, 1) := by decide +kernel
theorem dX2_award_29 : decode cX2_award 29 = .ok (.iastore, 1) := by decide +kernel
theorem dX2_award_30 : decode cX2_award 30 = .ok (.aload_n 1, 1) := by decide +kernel
theorem dX2_award_31 : decode cX2_award 31 = .ok (.getfield 130, 3) := by decide +kernel
theorem dX2_award_34 : decode cX2_award 34 = .ok (.iload_n 3, 1) := by decide +kernel
theorem dX2_award_35 : decode cX2_award 35 = .ok (.aload_n 0, 1) := by decide +kernel
theorem dX2_award_36 : decode cX2_award 36 = .ok (.aload_n 0, 1) := by decide +kernel
theorem dX2_award_37 : decode cX2_award 37 = .ok (.getfield 20, 3) := by decide +kernel
theorem dX2_award_40 : decode cX2_award 40 = .ok (.iload_n 2, 1) := by decide +kernel
theorem dX2_award_41 : decode cX2_award 41 = .ok (.iaload, 1) := by decide +kernel
theorem dX2_award_42 : decode cX2_award 42 = .ok (.invokevirtual 226, 3) := by decide +kernel
theorem dX2_award_45 : decode cX2_award 45 = .ok (.aload_n 1, 1) := by decide +kernel
theorem dX2_award_46 : decode cX2_award 46 = .ok (.getfield 137, 3) := by decide +kernel
theorem dX2_award_49 : decode cX2_award 49 = .ok (.iload_n 3, 1) := by decide +kernel
theorem dX2_award_50 : decode cX2_award 50 = .ok (.iaload, 1) := by decide +kernel
theorem dX2_award_51 : decode cX2_award 51 = .ok (.iadd, 1) := by decide +kernel
theorem dX2_award_52 : decode cX2_award 52 = .ok (.iload 4, 2) := by decide +kernel
theorem dX2_award_54 : decode cX2_award 54 = .ok (.isub, 1) := by decide +kernel
theorem dX2_award_55 : decode cX2_award 55 = .ok (.iastore, 1) := by decide +kernel
theorem dX2_award_56 : decode cX2_award 56 = .ok (.return_, 1) := by decide +kernel
set_option maxRecDepth 20000 in
theorem ggX2_findWinners_X0_clear : GoodIn wsX2_findWinners wsX0_clear := goodIn_r _ [4, 5, 6, 40, 41] (by decide +kernel) (by decide +kernel)
set_option maxRecDepth 20000 in
theorem gX2_findWinners_X0_clear_n242 : GoodIn wsX2_findWinners (wsX0_clear) := ggX2_findWinners_X0_clear
set_option maxRecDepth 20000 in
theorem ggX2_findWinners_X2_seek : GoodIn wsX2_findWinners wsX2_seek := goodIn_r _ [11, 12, 13, 2, 14, 15, 5, 6, 16, 17, 18, 19, 20, 21, 22, 23, 24, 25, 26, 27, 28, 29, 10, 30, 31, 32, 33, 34, 35, 36, 37, 38, 39, 7, 8, 9, 42, 43, 44, 45, 46, 47, 48, 49, 50, 51, 52, 53, 54, 55, 40, 41] (by decide +kernel) (by decide +kernel)
set_option maxRecDepth 20000 in
theorem gX2_findWinners_X2_seek : GoodIn wsX2_findWinners (wsV RX2 243 RX2 yX2_seek wsX2_seek) := goodIn_app (goodIn_of _ (by decide +kernel)) ggX2_findWinners_X2_seek
theorem dX2_findWinners_0 : decode cX2_findWinners 0 = .ok (.aload_n 1, 1) := by decide +kernel
theorem dX2_findWinners_1 : decode cX2_findWinners 1 = .ok (.invokevirtual 242, 3) := by decide +kernel
theorem dX2_findWinners_4 : decode cX2_findWinners 4 = .ok (.aload_n 0, 1) := by decide +kernel
theorem dX2_findWinners_5 : decode cX2_findWinners 5 = .ok (.aload_n 1, 1) := by decide +kernel
theorem dX2_findWinners_6 : decode cX2_findWinners 6 = .ok (.iconst 0, 1) := by decide +kernel
theorem dX2_findWinners_7 : decode cX2_findWinners 7 = .ok (.iconst 0, 1) := by decide +kernel
theorem dX2_findWinners_8 : decode cX2_findWinners 8 = .ok (.iload_n 2, 1) := by decide +kernel
theorem dX2_findWinners_9 : decode cX2_findWinners 9 = .ok (.iconst 0, 1) := by decide +kernel
theorem dX2_findWinners_10 : decode cX2_findWinners 10 = .ok (.iconst 0, 1) := by decide +kernel
theorem dX2_findWinners_11 : decode cX2_findWinners 11 = .ok (.invokevirtual 243, 3) := by decide +kernel
theorem dX2_findWinners_14 : decode cX2_findWinners 14 = .ok (.return_, 1) := by decide +kernel
set_option maxRecDepth 20000 in
theorem ggX2_seek_X0_consider : GoodIn wsX2_seek wsX0_consider := goodIn_r _ [5, 6, 7, 8, 9, 10, 3, 11, 12, 13, 14, 15, 16, 17, 18, 50, 51] (by decide +kernel) (by decide +kernel)
set_option maxRecDepth 20000 in
theorem gX2_seek_X0_consider_n247 : GoodIn wsX2_seek (wsX0_consider) := ggX2_seek_X0_consider
set_option maxRecDepth 20000 in
theorem ggX2_seek_X2_seekWith : GoodIn wsX2_seek wsX2_seekWith := goodIn_r _ [23, 24, 25, 26, 27, 28, 29, 22, 30, 31, 32, 33, 34, 35, 0, 1, 2, 3, 4, 5, 6, 7, 8, 9, 10, 11, 12, 13, 14, 15, 16, 17, 18, 19, 20, 21, 36, 37, 38, 39, 40, 41, 42, 43, 44, 45, 46, 47, 48, 49, 50, 51] (by decide +kernel) (by decide +kernel)
set_option maxRecDepth 20000 in
theorem gX2_seek_X2_seekWith : GoodIn wsX2_seek (wsV RX2 250 RX2 yX2_seekWith wsX2_seekWith) := goodIn_app (goodIn_of _ (by decide +kernel)) ggX2_seek_X2_seekWith
theorem dX2_seek_0 : decode cX2_seek 0 = .ok (.aload_n 1, 1) := by decide +kernel
theorem dX2_seek_1 : decode cX2_seek 1 = .ok (.iload 5, 2) := by decide +kernel
theorem dX2_seek_3 : decode cX2_seek 3 = .ok (.iload 6, 2) := by decide +kernel
theorem dX2_seek_5 : decode cX2_seek 5 = .ok (.invokevirtual 247, 3) := by decide +kernel
theorem dX2_seek_8 : decode cX2_seek 8 = .ok (.iload_n 2, 1) := by decide +kernel
theorem dX2_seek_9 : decode cX2_seek 9 = .ok (.istore 7, 2) := by decide +kernel
theorem dX2_seek_11 : decode cX2_seek 11 = .ok (.iload 7, 2) := by decide +kernel
theorem dX2_seek_13 : decode cX2_seek 13 = .ok (.aload_n 0, 1) := by decide +kernel
theorem dX2_seek_14 : decode cX2_seek 14 = .ok (.getfield 74, 3) := by decide +kernel
theorem dX2_seek_17 : decode cX2_seek 17 = .ok (.if_icmp .ge 23, 3) := by decide +kernel
theorem dX2_seek_20 : decode cX2_seek 20 = .ok (.aload_n 0, 1) := by decide +kernel
theorem dX2_seek_21 : decode cX2_seek 21 = .ok (.aload_n 1, 1) := by decide +kernel
theorem dX2_seek_22 : decode cX2_seek 22 = .ok (.iload 7, 2) := by decide +kernel
theorem dX2_seek_24 : decode cX2_seek 24 = .ok (.iload_n 3, 1) := by decide +kernel
theorem dX2_seek_25 : decode cX2_seek 25 = .ok (.iload 4, 2) := by decide +kernel
theorem dX2_seek_27 : decode cX2_seek 27 = .ok (.iload 5, 2) := by decide +kernel
theorem dX2_seek_29 : decode cX2_seek 29 = .ok (.iload 6, 2) := by decide +kernel
theorem dX2_seek_31 : decode cX2_seek 31 = .ok (.invokevirtual 250, 3) := by decide +kernel
theorem dX2_seek_34 : decode cX2_seek 34 = .ok (.iinc 7 1, 3) := by decide +kernel
theorem dX2_seek_37 : decode cX2_seek 37 = .ok (.goto (-26), 3) := by decide +kernel
theorem dX2_seek_40 : decode cX2_seek 40 = .ok (.return_, 1) := by decide +kernel
set_option maxRecDepth 20000 in
theorem ggX2_seekWith_X2_counts : GoodIn wsX2_seekWith wsX2_counts := goodIn_r _ [8, 9, 10, 1, 3, 36, 37, 38, 39, 40, 41, 42, 43, 44, 45, 46, 47, 48, 49] (by decide +kernel) (by decide +kernel)
set_option maxRecDepth 20000 in
theorem gX2_seekWith_X2_counts : GoodIn wsX2_seekWith (wsV RX2 113 RX2 yX2_counts wsX2_counts) := goodIn_app (goodIn_of _ (by decide +kernel)) ggX2_seekWith_X2_counts
set_option maxRecDepth 20000 in
theorem ggX2_seekWith_X2_seek : GoodIn wsX2_seekWith wsX2_seek := goodIn_r _ [14, 15, 16, 17, 18, 19, 20, 21, 22, 23, 24, 25, 26, 27, 28, 29, 30, 31, 32, 33, 34, 35, 7, 0, 1, 2, 3, 4, 5, 6, 8, 9, 10, 11, 12, 13, 36, 37, 38, 39, 40, 41, 42, 43, 44, 45, 46, 47, 48, 49, 50, 51] (by decide +kernel) (by decide +kernel)
set_option maxRecDepth 20000 in
theorem gX2_seekWith_X2_seek : GoodIn wsX2_seekWith (wsV RX2 243 RX2 yX2_seek wsX2_seek) := goodIn_app (goodIn_of _ (by decide +kernel)) ggX2_seekWith_X2_seek
theorem dX2_seekWith_0 : decode cX2_seekWith 0 = .ok (.iconst 1, 1) := by decide +kernel
theorem dX2_seekWith_1 : decode cX2_seekWith 1 = .ok (.aload_n 0, 1) := by decide +kernel
theorem dX2_seekWith_2 : decode cX2_seekWith 2 = .ok (.getfield 17, 3) := by decide +kernel
theorem dX2_seekWith_5 : decode cX2_seekWith 5 = .ok (.iload_n 2, 1) := by decide +kernel
theorem dX2_seekWith_6 : decode cX2_seekWith 6 = .ok (.iaload, 1) := by decide +kernel
theorem dX2_seekWith_7 : decode cX2_seekWith 7 = .ok (.ishl, 1) := by decide +kernel
theorem dX2_seekWith_8 : decode cX2_seekWith 8 = .ok (.istore 7, 2) := by decide +kernel
theorem dX2_seekWith_10 : decode cX2_seekWith 10 = .ok (.iload_n 3, 1) := by decide +kernel
theorem dX2_seekWith_11 : decode cX2_seekWith 11 = .ok (.aload_n 0, 1) := by decide +kernel
theorem dX2_seekWith_12 : decode cX2_seekWith 12 = .ok (.getfield 20, 3) := by decide +kernel
theorem dX2_seekWith_15 : decode cX2_seekWith 15 = .ok (.iload_n 2, 1) := by decide +kernel
theorem dX2_seekWith_16 : decode cX2_seekWith 16 = .ok (.iaload, 1) := by decide +kernel
theorem dX2_seekWith_17 : decode cX2_seekWith 17 = .ok (.iand, 1) := by decide +kernel
theorem dX2_seekWith_18 : decode cX2_seekWith 18 = .ok (.ifCond .ne 11, 3) := by decide +kernel
theorem dX2_seekWith_21 : decode cX2_seekWith 21 = .ok (.iload 4, 2) := by decide +kernel
theorem dX2_seekWith_23 : decode cX2_seekWith 23 = .ok (.iload 7, 2) := by decide +kernel
theorem dX2_seekWith_25 : decode cX2_seekWith 25 = .ok (.iand, 1) := by decide +kernel
theorem dX2_seekWith_26 : decode cX2_seekWith 26 = .ok (.ifCond .eq 7, 3) := by decide +kernel
theorem dX2_seekWith_29 : decode cX2_seekWith 29 = .ok (.iconst 1, 1) := by decide +kernel
theorem dX2_seekWith_30 : decode cX2_seekWith 30 = .ok (.goto 4, 3) := by decide +kernel
theorem dX2_seekWith_33 : decode cX2_seekWith 33 = .ok (.iconst 0, 1) := by decide +kernel
theorem dX2_seekWith_34 : decode cX2_seekWith 34 = .ok (.istore 8, 2) := by decide +kernel
theorem dX2_seekWith_36 : decode cX2_seekWith 36 = .ok (.iload 8, 2) := by decide +kernel
theorem dX2_seekWith_38 : decode cX2_seekWith 38 = .ok (.ifCond .ne 11, 3) := by decide +kernel
theorem dX2_seekWith_41 : decode cX2_seekWith 41 = .ok (.aload_n 0, 1) := by decide +kernel
theorem dX2_seekWith_42 : decode cX2_seekWith 42 = .ok (.iload_n 2, 1) := by decide +kernel
theorem dX2_seekWith_43 : decode cX2_seekWith 43 = .ok (.invokevirtual 113, 3) := by decide +kernel
theorem dX2_seekWith_46 : decode cX2_seekWith 46 = .ok (.ifCond .ne 4, 3) := by decide +kernel
theorem dX2_seekWith_49 : decode cX2_seekWith 49 = .ok (.return_, 1) := by decide +kernel
theorem dX2_seekWith_50 : decode cX2_seekWith 50 = .ok (.aload_n 0, 1) := by decide +kernel
theorem dX2_seekWith_51 : decode cX2_seekWith 51 = .ok (.aload_n 1, 1) := by decide +kernel
theorem dX2_seekWith_52 : decode cX2_seekWith 52 = .ok (.iload_n 2, 1) := by decide +kernel
theorem dX2_seekWith_53 : decode cX2_seekWith 53 = .ok (.iconst 1, 1) := by decide +kernel
theorem dX2_seekWith_54 : decode cX2_seekWith 54 = .ok (.iadd, 1) := by decide +kernel
theorem dX2_seekWith_55 : decode cX2_seekWith 55 = .ok (.iload_n 3, 1) := by decide +kernel
theorem dX2_seekWith_56 : decode cX2_seekWith 56 = .ok (.aload_n 0, 1) := by decide +kernel
theorem dX2_seekWith_57 : decode cX2_seekWith 57 = .ok (.getfield 20, 3) := by decide +kernel
theorem dX2_seekWith_60 : decode cX2_seekWith 60 = .ok (.iload_n 2, 1) := by decide +kernel
theorem dX2_seekWith_61 : decode cX2_seekWith 61 = .ok (.iaload, 1) := by decide +kernel
theorem dX2_seekWith_62 : decode cX2_seekWith 62 = .ok (.ior, 1) := by decide +kernel
theorem dX2_seekWith_63 : decode cX2_seekWith 63 = .ok (.iload 4, 2) := by decide +kernel
theorem dX2_seekWith_65 : decode cX2_seekWith 65 = .ok (.iload 7, 2) := by decide +kernel
theorem dX2_seekWith_67 : decode cX2_seekWith 67 = .ok (.ior, 1) := by decide +kernel
theorem dX2_seekWith_68 : decode cX2_seekWith 68 = .ok (.iload 5, 2) := by decide +kernel
theorem dX2_seekWith_70 : decode cX2_seekWith 70 = .ok (.aload_n 0, 1) := by decide +kernel
theorem dX2_seekWith_71 : decode cX2_seekWith 71 = .ok (.getfield 26, 3) := by decide +kernel
theorem dX2_seekWith_74 : decode cX2_seekWith 74 = .ok (.iload_n 2, 1) := by decide +kernel
theorem dX2_seekWith_75 : decode cX2_seekWith 75 = .ok (.iaload, 1) := by decide +kernel
theorem dX2_seekWith_76 : decode cX2_seekWith 76 = .ok (.iadd, 1) := by decide +kernel
theorem dX2_seekWith_77 : decode cX2_seekWith 77 = .ok (.iload 6, 2) := by decide +kernel
theorem dX2_seekWith_79 : decode cX2_seekWith 79 = .ok (.iconst 1, 1) := by decide +kernel
theorem dX2_seekWith_80 : decode cX2_seekWith 80 = .ok (.iload_n 2, 1) := by decide +kernel
theorem dX2_seekWith_81 : decode cX2_seekWith 81 = .ok (.ishl, 1) := by decide +kernel
theorem dX2_seekWith_82 : decode cX2_seekWith 82 = .ok (.ior, 1) := by decide +kernel
theorem dX2_seekWith_83 : decode cX2_seekWith 83 = .ok (.invokevirtual 243, 3) := by decide +kernel
theorem dX2_seekWith_86 : decode cX2_seekWith 86 = .ok (.return_, 1) := by decide +kernel
theorem dX2_profit_0 : decode cX2_profit 0 = .ok (.aload_n 1, 1) := by decide +kernel
theorem dX2_profit_1 : decode cX2_profit 1 = .ok (.getfield 127, 3) := by decide +kernel
theorem dX2_profit_4 : decode cX2_profit 4 = .ok (.iload_n 2, 1) := by decide +kernel
theorem dX2_profit_5 : decode cX2_profit 5 = .ok (.iaload, 1) := by decide +kernel
theorem dX2_profit_6 : decode cX2_profit 6 = .ok (.istore_n 3, 1) := by decide +kernel
theorem dX2_profit_7 : decode cX2_profit 7 = .ok (.iload_n 3, 1) := by decide +kernel
theorem dX2_profit_8 : decode cX2_profit 8 = .ok (.iconst (-1), 1) := by decide +kernel
theorem dX2_profit_9 : decode cX2_profit 9 = .ok (.if_icmp .ne 7, 3) := by decide +kernel
theorem dX2_profit_12 : decode cX2_profit 12 = .ok (.iconst 0, 1) := by decide +kernel
theorem dX2_profit_13 : decode cX2_profit 13 = .ok (.goto 16, 3) := by decide +kernel
theorem dX2_profit_16 : decode cX2_profit 16 = .ok (.aload_n 0, 1) := by decide +kernel
theorem dX2_profit_17 : decode cX2_profit 17 = .ok (.getfield 29, 3) := by decide +kernel
theorem dX2_profit_20 : decode cX2_profit 20 = .ok (.iload_n 3, 1) := by decide +kernel
theorem dX2_profit_21 : decode cX2_profit 21 = .ok (.iaload, 1) := by decide +kernel
theorem dX2_profit_22 : decode cX2_profit 22 = .ok (.aload_n 1, 1) := by decide +kernel
theorem dX2_profit_23 : decode cX2_profit 23 = .ok (.getfield 130, 3) := by decide +kernel
theorem dX2_profit_26 : decode cX2_profit 26 = .ok (.iload_n 2, 1) := by decide +kernel
theorem dX2_profit_27 : decode cX2_profit 27 = .ok (.iaload, 1) := by decide +kernel
theorem dX2_profit_28 : decode cX2_profit 28 = .ok (.isub, 1) := by decide +kernel
theorem dX2_profit_29 : decode cX2_profit 29 = .ok (.ireturn, 1) := by decide +kernel
set_option maxRecDepth 20000 in
theorem ggX2_totalProfit_X2_profit : GoodIn wsX2_totalProfit wsX2_profit := goodIn_r _ [7, 8, 23, 24, 25, 26, 9, 10, 11, 12, 13, 14, 15, 16, 17, 18, 19, 20, 21, 22] (by decide +kernel) (by decide +kernel)
set_option maxRecDepth 20000 in
theorem gX2_totalProfit_X2_profit : GoodIn wsX2_totalProfit (wsV RX2 133 RX2 yX2_profit wsX2_profit) := goodIn_app (goodIn_of _ (by decide +kernel)) ggX2_totalProfit_X2_profit
theorem dX2_totalProfit_0 : decode cX2_totalProfit 0 = .ok (.iconst 0, 1) := by decide +kernel
theorem dX2_totalProfit_1 : decode cX2_totalProfit 1 = .ok (.istore_n 1, 1) := by decide +kernel
theorem dX2_totalProfit_2 : decode cX2_totalProfit 2 = .ok (.iconst 0, 1) := by decide +kernel
theorem dX2_totalProfit_3 : decode cX2_totalProfit 3 = .ok (.istore_n 2, 1) := by decide +kernel
theorem dX2_totalProfit_4 : decode cX2_totalProfit 4 = .ok (.iload_n 2, 1) := by decide +kernel
theorem dX2_totalProfit_5 : decode cX2_totalProfit 5 = .ok (.aload_n 0, 1) := by decide +kernel
theorem dX2_totalProfit_6 : decode cX2_totalProfit 6 = .ok (.getfield 81, 3) := by decide +kernel
theorem dX2_totalProfit_9 : decode cX2_totalProfit 9 = .ok (.if_icmp .ge 21, 3) := by decide +kernel
theorem dX2_totalProfit_12 : decode cX2_totalProfit 12 = .ok (.iload_n 1, 1) := by decide +kernel
theorem dX2_totalProfit_13 : decode cX2_totalProfit 13 = .ok (.aload_n 0, 1) := by decide +kernel
theorem dX2_totalProfit_14 : decode cX2_totalProfit 14 = .ok (.aload_n 0, 1) := by decide +kernel
theorem dX2_totalProfit_15 : decode cX2_totalProfit 15 = .ok (.getfield 38, 3) := by decide +kernel
theorem dX2_totalProfit_18 : decode cX2_totalProfit 18 = .ok (.iload_n 2, 1) := by decide +kernel
theorem dX2_totalProfit_19 : decode cX2_totalProfit 19 = .ok (.invokevirtual 133, 3) := by decide +kernel
theorem dX2_totalProfit_22 : decode cX2_totalProfit 22 = .ok (.iadd, 1) := by decide +kernel
theorem dX2_totalProfit_23 : decode cX2_totalProfit 23 = .ok (.istore_n 1, 1) := by decide +kernel
theorem dX2_totalProfit_24 : decode cX2_totalProfit 24 = .ok (.iinc 2 1, 3) := by decide +kernel
theorem dX2_totalProfit_27 : decode cX2_totalProfit 27 = .ok (.goto (-23), 3) := by decide +kernel
theorem dX2_totalProfit_30 : decode cX2_totalProfit 30 = .ok (.iload_n 1, 1) := by decide +kernel
theorem dX2_totalProfit_31 : decode cX2_totalProfit 31 = .ok (.ireturn, 1) := by decide +kernel
set_option maxRecDepth 20000 in
theorem ggX2_winningPrices_X0_has : GoodIn wsX2_winningPrices wsX0_has := goodIn_r _ [7, 8, 27, 28] (by decide +kernel) (by decide +kernel)
set_option maxRecDepth 20000 in
theorem gX2_winningPrices_X0_has_n120 : GoodIn wsX2_winningPrices (wsX0_has) := ggX2_winningPrices_X0_has
theorem dX2_winningPrices_0 : decode cX2_winningPrices 0 = .ok (.iconst 0, 1) := by decide +kernel
theorem dX2_winningPrices_1 : decode cX2_winningPrices 1 = .ok (.istore_n 1, 1) := by decide +kernel
theorem dX2_winningPrices_2 : decode cX2_winningPrices 2 = .ok (.iconst 0, 1) := by decide +kernel
theorem dX2_winningPrices_3 : decode cX2_winningPrices 3 = .ok (.istore_n 2, 1) := by decide +kernel
theorem dX2_winningPrices_4 : decode cX2_winningPrices 4 = .ok (.iload_n 2, 1) := by decide +kernel
theorem dX2_winningPrices_5 : decode cX2_winningPrices 5 = .ok (.aload_n 0, 1) := by decide +kernel
theorem dX2_winningPrices_6 : decode cX2_winningPrices 6 = .ok (.getfield 74, 3) := by decide +kernel
theorem dX2_winningPrices_9 : decode cX2_winningPrices 9 = .ok (.if_icmp .ge 32, 3) := by decide +kernel
theorem dX2_winningPrices_12 : decode cX2_winningPrices 12 = .ok (.aload_n 0, 1) := by decide +kernel
theorem dX2_winningPrices_13 : decode cX2_winningPrices 13 = .ok (.getfield 38, 3) := by decide +kernel
theorem dX2_winningPrices_16 : decode cX2_winningPrices 16 = .ok (.getfield 117, 3) := by decide +kernel
theorem dX2_winningPrices_19 : decode cX2_winningPrices 19 = .ok (.iload_n 2, 1) := by decide +kernel
theorem dX2_winningPrices_20 : decode cX2_winningPrices 20 = .ok (.invokevirtual 120, 3) := by decide +kernel
theorem dX2_winningPrices_23 : decode cX2_winningPrices 23 = .ok (.ifCond .eq 12, 3) := by decide +kernel
theorem dX2_winningPrices_26 : decode cX2_winningPrices 26 = .ok (.iload_n 1, 1) := by decide +kernel
theorem dX2_winningPrices_27 : decode cX2_winningPrices 27 = .ok (.aload_n 0, 1) := by decide +kernel
theorem dX2_winningPrices_28 : decode cX2_winningPrices 28 = .ok (.getfield 23, 3) := by decide +kernel
theorem dX2_winningPrices_31 : decode cX2_winningPrices 31 = .ok (.iload_n 2, 1) := by decide +kernel
theorem dX2_winningPrices_32 : decode cX2_winningPrices 32 = .ok (.iaload, 1) := by decide +kernel
theorem dX2_winningPrices_33 : decode cX2_winningPrices 33 = .ok (.iadd, 1) := by decide +kernel
theorem dX2_winningPrices_34 : decode cX2_winningPrices 34 = .ok (.istore_n 1, 1) := by decide +kernel
theorem dX2_winningPrices_35 : decode cX2_winningPrices 35 = .ok (.iinc 2 1, 3) := by decide +kernel
theorem dX2_winningPrices_38 : decode cX2_winningPrices 38 = .ok (.goto (-34), 3) := by decide +kernel
theorem dX2_winningPrices_41 : decode cX2_winningPrices 41 = .ok (.iload_n 1, 1) := by decide +kernel
theorem dX2_winningPrices_42 : decode cX2_winningPrices 42 = .ok (.ireturn, 1) := by decide +kernel
set_option maxRecDepth 20000 in
theorem ggX2_soldFields_X0_has : GoodIn wsX2_soldFields wsX0_has := goodIn_r _ [7, 8, 27, 28] (by decide +kernel) (by decide +kernel)
set_option maxRecDepth 20000 in
theorem gX2_soldFields_X0_has_n120 : GoodIn wsX2_soldFields (wsX0_has) := ggX2_soldFields_X0_has
theorem dX2_soldFields_0 : decode cX2_soldFields 0 = .ok (.iconst 0, 1) := by decide +kernel
theorem dX2_soldFields_1 : decode cX2_soldFields 1 = .ok (.istore_n 1, 1) := by decide +kernel
theorem dX2_soldFields_2 : decode cX2_soldFields 2 = .ok (.iconst 0, 1) := by decide +kernel
theorem dX2_soldFields_3 : decode cX2_soldFields 3 = .ok (.istore_n 2, 1) := by decide +kernel
theorem dX2_soldFields_4 : decode cX2_soldFields 4 = .ok (.iload_n 2, 1) := by decide +kernel
theorem dX2_soldFields_5 : decode cX2_soldFields 5 = .ok (.aload_n 0, 1) := by decide +kernel
theorem dX2_soldFields_6 : decode cX2_soldFields 6 = .ok (.getfield 74, 3) := by decide +kernel
theorem dX2_soldFields_9 : decode cX2_soldFields 9 = .ok (.if_icmp .ge 32, 3) := by decide +kernel
theorem dX2_soldFields_12 : decode cX2_soldFields 12 = .ok (.aload_n 0, 1) := by decide +kernel
theorem dX2_soldFields_13 : decode cX2_soldFields 13 = .ok (.getfield 38, 3) := by decide +kernel
theorem dX2_soldFields_16 : decode cX2_soldFields 16 = .ok (.getfield 117, 3) := by decide +kernel
theorem dX2_soldFields_19 : decode cX2_soldFields 19 = .ok (.iload_n 2, 1) := by decide +kernel
theorem dX2_soldFields_20 : decode cX2_soldFields 20 = .ok (.invokevirtual 120, 3) := by decide +kernel
theorem dX2_soldFields_23 : decode cX2_soldFields 23 = .ok (.ifCond .eq 12, 3) := by decide +kernel
theorem dX2_soldFields_26 : decode cX2_soldFields 26 = .ok (.iload_n 1, 1) := by decide +kernel
theorem dX2_soldFields_27 : decode cX2_soldFields 27 = .ok (.aload_n 0, 1) := by decide +kernel
theorem dX2_soldFields_28 : decode cX2_soldFields 28 = .ok (.getfield 20, 3) := by decide +kernel
theorem dX2_soldFields_31 : decode cX2_soldFields 31 = .ok (.iload_n 2, 1) := by decide +kernel
theorem dX2_soldFields_32 : decode cX2_soldFields 32 = .ok (.iaload, 1) := by decide +kernel
theorem dX2_soldFields_33 : decode cX2_soldFields 33 = .ok (.ior, 1) := by decide +kernel
theorem dX2_soldFields_34 : decode cX2_soldFields 34 = .ok (.istore_n 1, 1) := by decide +kernel
theorem dX2_soldFields_35 : decode cX2_soldFields 35 = .ok (.iinc 2 1, 3) := by decide +kernel
theorem dX2_soldFields_38 : decode cX2_soldFields 38 = .ok (.goto (-34), 3) := by decide +kernel
theorem dX2_soldFields_41 : decode cX2_soldFields 41 = .ok (.iload_n 1, 1) := by decide +kernel
theorem dX2_soldFields_42 : decode cX2_soldFields 42 = .ok (.ireturn, 1) := by decide +kernel
set_option maxRecDepth 20000 in
theorem ggX2_winnerOfField_X0_has : GoodIn wsX2_winnerOfField wsX0_has := goodIn_r _ [7, 8, 31, 32] (by decide +kernel) (by decide +kernel)
set_option maxRecDepth 20000 in
theorem gX2_winnerOfField_X0_has_n120 : GoodIn wsX2_winnerOfField (wsX0_has) := ggX2_winnerOfField_X0_has
set_option maxRecDepth 20000 in
theorem ggX2_winnerOfField_X2_hasField : GoodIn wsX2_winnerOfField wsX2_hasField := goodIn_r _ [12] (by decide +kernel) (by decide +kernel)
set_option maxRecDepth 20000 in
theorem gX2_winnerOfField_X2_hasField : GoodIn wsX2_winnerOfField (va_wsS RX2 229 yX2_hasField wsX2_hasField) := goodIn_app (goodIn_of _ (by decide +kernel)) ggX2_winnerOfField_X2_hasField
theorem dX2_winnerOfField_0 : decode cX2_winnerOfField 0 = .ok (.iconst 0, 1) := by decide +kernel
theorem dX2_winnerOfField_1 : decode cX2_winnerOfField 1 = .ok (.istore_n 2, 1) := by decide +kernel
theorem dX2_winnerOfField_2 : decode cX2_winnerOfField 2 = .ok (.iload_n 2, 1) := by decide +kernel
theorem dX2_winnerOfField_3 : decode cX2_winnerOfField 3 = .ok (.aload_n 0, 1) := by decide +kernel
theorem dX2_winnerOfField_4 : decode cX2_winnerOfField 4 = .ok (.getfield 74, 3) := by decide +kernel
theorem dX2_winnerOfField_7 : decode cX2_winnerOfField 7 = .ok (.if_icmp .ge 38, 3) := by decide +kernel
theorem dX2_winnerOfField_10 : decode cX2_winnerOfField 10 = .ok (.aload_n 0, 1) := by decide +kernel
theorem dX2_winnerOfField_11 : decode cX2_winnerOfField 11 = .ok (.getfield 38, 3) := by decide +kernel
theorem dX2_winnerOfField_14 : decode cX2_winnerOfField 14 = .ok (.getfield 117, 3) := by decide +kernel
theorem dX2_winnerOfField_17 : decode cX2_winnerOfField 17 = .ok (.iload_n 2, 1) := by decide +kernel
theorem dX2_winnerOfField_18 : decode cX2_winnerOfField 18 = .ok (.invokevirtual 120, 3) := by decide +kernel
theorem dX2_winnerOfField_21 : decode cX2_winnerOfField 21 = .ok (.ifCond .eq 18, 3) := by decide +kernel
theorem dX2_winnerOfField_24 : decode cX2_winnerOfField 24 = .ok (.aload_n 0, 1) := by decide +kernel
theorem dX2_winnerOfField_25 : decode cX2_winnerOfField 25 = .ok (.getfield 20, 3) := by decide +kernel
theorem dX2_winnerOfField_28 : decode cX2_winnerOfField 28 = .ok (.iload_n 2, 1) := by decide +kernel
theorem dX2_winnerOfField_29 : decode cX2_winnerOfField 29 = .ok (.iaload, 1) := by decide +kernel
theorem dX2_winnerOfField_30 : decode cX2_winnerOfField 30 = .ok (.iload_n 1, 1) := by decide +kernel
theorem dX2_winnerOfField_31 : decode cX2_winnerOfField 31 = .ok (.invokestatic 229, 3) := by decide +kernel
theorem dX2_winnerOfField_34 : decode cX2_winnerOfField 34 = .ok (.ifCond .eq 5, 3) := by decide +kernel
theorem dX2_winnerOfField_37 : decode cX2_winnerOfField 37 = .ok (.iload_n 2, 1) := by decide +kernel
theorem dX2_winnerOfField_38 : decode cX2_winnerOfField 38 = .ok (.ireturn, 1) := by decide +kernel
theorem dX2_winnerOfField_39 : decode cX2_winnerOfField 39 = .ok (.iinc 2 1, 3) := by decide +kernel
theorem dX2_winnerOfField_42 : decode cX2_winnerOfField 42 = .ok (.goto (-40), 3) := by decide +kernel
theorem dX2_winnerOfField_45 : decode cX2_winnerOfField 45 = .ok (.iconst (-1), 1) := by decide +kernel
theorem dX2_winnerOfField_46 : decode cX2_winnerOfField 46 = .ok (.ireturn, 1) := by decide +kernel
set_option maxRecDepth 20000 in
theorem ggX2_highestAlone_X2_counts : GoodIn wsX2_highestAlone wsX2_counts := goodIn_r _ [9, 10, 11, 3, 12, 13, 14, 15, 16, 17, 18, 19, 20, 21, 22, 23, 24, 25, 26] (by decide +kernel) (by decide +kernel)
set_option maxRecDepth 20000 in
theorem gX2_highestAlone_X2_counts : GoodIn wsX2_highestAlone (wsV RX2 113 RX2 yX2_counts wsX2_counts) := goodIn_app (goodIn_of _ (by decide +kernel)) ggX2_highestAlone_X2_counts
theorem dX2_highestAlone_0 : decode cX2_highestAlone 0 = .ok (.iconst (-1), 1) := by decide +kernel
theorem dX2_highestAlone_1 : decode cX2_highestAlone 1 = .ok (.istore_n 3, 1) := by decide +kernel
theorem dX2_highestAlone_2 : decode cX2_highestAlone 2 = .ok (.iconst 0, 1) := by decide +kernel
theorem dX2_highestAlone_3 : decode cX2_highestAlone 3 = .ok (.istore 4, 2) := by decide +kernel
theorem dX2_highestAlone_5 : decode cX2_highestAlone 5 = .ok (.iload 4, 2) := by decide +kernel
theorem dX2_highestAlone_7 : decode cX2_highestAlone 7 = .ok (.aload_n 0, 1) := by decide +kernel
theorem dX2_highestAlone_8 : decode cX2_highestAlone 8 = .ok (.getfield 74, 3) := by decide +kernel
theorem dX2_highestAlone_11 : decode cX2_highestAlone 11 = .ok (.if_icmp .ge 78, 3) := by decide +kernel
theorem dX2_highestAlone_14 : decode cX2_highestAlone 14 = .ok (.aload_n 0, 1) := by decide +kernel
theorem dX2_highestAlone_15 : decode cX2_highestAlone 15 = .ok (.iload 4, 2) := by decide +kernel
theorem dX2_highestAlone_17 : decode cX2_highestAlone 17 = .ok (.invokevirtual 113, 3) := by decide +kernel
theorem dX2_highestAlone_20 : decode cX2_highestAlone 20 = .ok (.ifCond .eq 31, 3) := by decide +kernel
theorem dX2_highestAlone_23 : decode cX2_highestAlone 23 = .ok (.aload_n 0, 1) := by decide +kernel
theorem dX2_highestAlone_24 : decode cX2_highestAlone 24 = .ok (.getfield 20, 3) := by decide +kernel
theorem dX2_highestAlone_27 : decode cX2_highestAlone 27 = .ok (.iload 4, 2) := by decide +kernel
theorem dX2_highestAlone_29 : decode cX2_highestAlone 29 = .ok (.iaload, 1) := by decide +kernel
theorem dX2_highestAlone_30 : decode cX2_highestAlone 30 = .ok (.iconst 1, 1) := by decide +kernel
theorem dX2_highestAlone_31 : decode cX2_highestAlone 31 = .ok (.iload_n 1, 1) := by decide +kernel
theorem dX2_highestAlone_32 : decode cX2_highestAlone 32 = .ok (.ishl, 1) := by decide +kernel
theorem dX2_highestAlone_33 : decode cX2_highestAlone 33 = .ok (.if_icmp .ne 18, 3) := by decide +kernel
theorem dX2_highestAlone_36 : decode cX2_highestAlone 36 = .ok (.aload_n 0, 1) := by decide +kernel
theorem dX2_highestAlone_37 : decode cX2_highestAlone 37 = .ok (.getfield 17, 3) := by decide +kernel
theorem dX2_highestAlone_40 : decode cX2_highestAlone 40 = .ok (.iload 4, 2) := by decide +kernel
theorem dX2_highestAlone_42 : decode cX2_highestAlone 42 = .ok (.iaload, 1) := by decide +kernel
theorem dX2_highestAlone_43 : decode cX2_highestAlone 43 = .ok (.iload_n 2, 1) := by decide +kernel
theorem dX2_highestAlone_44 : decode cX2_highestAlone 44 = .ok (.if_icmp .eq 7, 3) := by decide +kernel
theorem dX2_highestAlone_47 : decode cX2_highestAlone 47 = .ok (.iconst 1, 1) := by decide +kernel
theorem dX2_highestAlone_48 : decode cX2_highestAlone 48 = .ok (.goto 4, 3) := by decide +kernel
theorem dX2_highestAlone_51 : decode cX2_highestAlone 51 = .ok (.iconst 0, 1) := by decide +kernel
theorem dX2_highestAlone_52 : decode cX2_highestAlone 52 = .ok (.istore 5, 2) := by decide +kernel
theorem dX2_highestAlone_54 : decode cX2_highestAlone 54 = .ok (.iload 5, 2) := by decide +kernel
theorem dX2_highestAlone_56 : decode cX2_highestAlone 56 = .ok (.ifCond .eq 27, 3) := by decide +kernel
theorem dX2_highestAlone_59 : decode cX2_highestAlone 59 = .ok (.iload_n 3, 1) := by decide +kernel
theorem dX2_highestAlone_60 : decode cX2_highestAlone 60 = .ok (.iconst (-1), 1) := by decide +kernel
theorem dX2_highestAlone_61 : decode cX2_highestAlone 61 = .ok (.if_icmp .eq 19, 3) := by decide +kernel
theorem dX2_highestAlone_64 : decode cX2_highestAlone 64 = .ok (.aload_n 0, 1) := by decide +kernel
theorem dX2_highestAlone_65 : decode cX2_highestAlone 65 = .ok (.getfield 23, 3) := by decide +kernel
theorem dX2_highestAlone_68 : decode cX2_highestAlone 68 = .ok (.iload 4, 2) := by decide +kernel
theorem dX2_highestAlone_70 : decode cX2_highestAlone 70 = .ok (.iaload, 1) := by decide +kernel
theorem dX2_highestAlone_71 : decode cX2_highestAlone 71 = .ok (.aload_n 0, 1) := by decide +kernel
theorem dX2_highestAlone_72 : decode cX2_highestAlone 72 = .ok (.getfield 23, 3) := by decide +kernel
theorem dX2_highestAlone_75 : decode cX2_highestAlone 75 = .ok (.iload_n 3, 1) := by decide +kernel
theorem dX2_highestAlone_76 : decode cX2_highestAlone 76 = .ok (.iaload, 1) := by decide +kernel
theorem dX2_highestAlone_77 : decode cX2_highestAlone 77 = .ok (.if_icmp .le 6, 3) := by decide +kernel
theorem dX2_highestAlone_80 : decode cX2_highestAlone 80 = .ok (.iload 4, 2) := by decide +kernel
theorem dX2_highestAlone_82 : decode cX2_highestAlone 82 = .ok (.istore_n 3, 1) := by decide +kernel
theorem dX2_highestAlone_83 : decode cX2_highestAlone 83 = .ok (.iinc 4 1, 3) := by decide +kernel
theorem dX2_highestAlone_86 : decode cX2_highestAlone 86 = .ok (.goto (-81), 3) := by decide +kernel
theorem dX2_highestAlone_89 : decode cX2_highestAlone 89 = .ok (.iload_n 3, 1) := by decide +kernel
theorem dX2_highestAlone_90 : decode cX2_highestAlone 90 = .ok (.ireturn, 1) := by decide +kernel
set_option maxRecDepth 20000 in
theorem ggX2_secondPrice_X2_highestAlone : GoodIn wsX2_secondPrice wsX2_highestAlone := goodIn_r _ [8, 9, 10, 1, 3, 11, 12, 13, 7, 14, 15, 16, 17, 18, 19, 20, 21, 22, 23, 24, 25, 26, 27, 28, 29, 30, 31] (by decide +kernel) (by decide +kernel)
set_option maxRecDepth 20000 in
theorem gX2_secondPrice_X2_highestAlone : GoodIn wsX2_secondPrice (wsV RX2 172 RX2 yX2_highestAlone wsX2_highestAlone) := goodIn_app (goodIn_of _ (by decide +kernel)) ggX2_secondPrice_X2_highestAlone
theorem dX2_secondPrice_0 : decode cX2_secondPrice 0 = .ok (.aload_n 0, 1) := by decide +kernel
theorem dX2_secondPrice_1 : decode cX2_secondPrice 1 = .ok (.iload_n 1, 1) := by decide +kernel
theorem dX2_secondPrice_2 : decode cX2_secondPrice 2 = .ok (.aload_n 0, 1) := by decide +kernel
theorem dX2_secondPrice_3 : decode cX2_secondPrice 3 = .ok (.getfield 17, 3) := by decide +kernel
theorem dX2_secondPrice_6 : decode cX2_secondPrice 6 = .ok (.iload_n 2, 1) := by decide +kernel
theorem dX2_secondPrice_7 : decode cX2_secondPrice 7 = .ok (.iaload, 1) := by decide +kernel
theorem dX2_secondPrice_8 : decode cX2_secondPrice 8 = .ok (.invokevirtual 172, 3) := by decide +kernel
theorem dX2_secondPrice_11 : decode cX2_secondPrice 11 = .ok (.istore_n 3, 1) := by decide +kernel
theorem dX2_secondPrice_12 : decode cX2_secondPrice 12 = .ok (.iload_n 3, 1) := by decide +kernel
theorem dX2_secondPrice_13 : decode cX2_secondPrice 13 = .ok (.iconst (-1), 1) := by decide +kernel
theorem dX2_secondPrice_14 : decode cX2_secondPrice 14 = .ok (.if_icmp .ne 12, 3) := by decide +kernel
theorem dX2_secondPrice_17 : decode cX2_secondPrice 17 = .ok (.aload_n 0, 1) := by decide +kernel
theorem dX2_secondPrice_18 : decode cX2_secondPrice 18 = .ok (.getfield 9, 3) := by decide +kernel
theorem dX2_secondPrice_21 : decode cX2_secondPrice 21 = .ok (.iload_n 1, 1) := by decide +kernel
theorem dX2_secondPrice_22 : decode cX2_secondPrice 22 = .ok (.iaload, 1) := by decide +kernel
theorem dX2_secondPrice_23 : decode cX2_secondPrice 23 = .ok (.goto 9, 3) := by decide +kernel
theorem dX2_secondPrice_26 : decode cX2_secondPrice 26 = .ok (.aload_n 0, 1) := by decide +kernel
theorem dX2_secondPrice_27 : decode cX2_secondPrice 27 = .ok (.getfield 23, 3) := by decide +kernel
theorem dX2_secondPrice_30 : decode cX2_secondPrice 30 = .ok (.iload_n 3, 1) := by decide +kernel
theorem dX2_secondPrice_31 : decode cX2_secondPrice 31 = .ok (.iaload, 1) := by decide +kernel
theorem dX2_secondPrice_32 : decode cX2_secondPrice 32 = .ok (.ireturn, 1) := by decide +kernel
