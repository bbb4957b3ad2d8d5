theorem dX0_init_0 : decode cX0_init 0 = .ok (.aload_n 0, 1) := by decide +kernel
theorem dX0_init_1 : decode cX0_init 1 = .ok (.invokespecial 1, 3) := by decide +kernel
theorem dX0_init_4 : decode cX0_init 4 = .ok (.return_, 1) := by decide +kernel
theorem dX0_clear_0 : decode cX0_clear 0 = .ok (.aload_n 0, 1) := by decide +kernel
theorem dX0_clear_1 : decode cX0_clear 1 = .ok (.iconst 0, 1) := by decide +kernel
theorem dX0_clear_2 : decode cX0_clear 2 = .ok (.putfield 7, 3) := by decide +kernel
theorem dX0_clear_5 : decode cX0_clear 5 = .ok (.aload_n 0, 1) := by decide +kernel
theorem dX0_clear_6 : decode cX0_clear 6 = .ok (.iconst 0, 1) := by decide +kernel
theorem dX0_clear_7 : decode cX0_clear 7 = .ok (.putfield 13, 3) := by decide +kernel
theorem dX0_clear_10 : decode cX0_clear 10 = .ok (.return_, 1) := by decide +kernel
set_option maxRecDepth 20000 in
theorem ggX0_consider_X0_isBeatenBy : GoodIn wsX0_consider wsX0_isBeatenBy := goodIn_r _ [7, 1, 2, 8, 9, 10, 11, 12, 13, 14, 15, 16] (by decide +kernel) (by decide +kernel)
set_option maxRecDepth 20000 in
theorem gX0_consider_X0_isBeatenBy : GoodIn wsX0_consider (wsV RX0 16 RX0 yX0_isBeatenBy wsX0_isBeatenBy) := goodIn_app (goodIn_of _ (by decide +kernel)) ggX0_consider_X0_isBeatenBy
theorem dX0_consider_0 : decode cX0_consider 0 = .ok (.aload_n 0, 1) := by decide +kernel
theorem dX0_consider_1 : decode cX0_consider 1 = .ok (.iload_n 1, 1) := by decide +kernel
theorem dX0_consider_2 : decode cX0_consider 2 = .ok (.iload_n 2, 1) := by decide +kernel
theorem dX0_consider_3 : decode cX0_consider 3 = .ok (.invokevirtual 16, 3) := by decide +kernel
theorem dX0_consider_6 : decode cX0_consider 6 = .ok (.ifCond .eq 13, 3) := by decide +kernel
theorem dX0_consider_9 : decode cX0_consider 9 = .ok (.aload_n 0, 1) := by decide +kernel
theorem dX0_consider_10 : decode cX0_consider 10 = .ok (.iload_n 1, 1) := by decide +kernel
theorem dX0_consider_11 : decode cX0_consider 11 = .ok (.putfield 7, 3) := by decide +kernel
theorem dX0_consider_14 : decode cX0_consider 14 = .ok (.aload_n 0, 1) := by decide +kernel
theorem dX0_consider_15 : decode cX0_consider 15 = .ok (.iload_n 2, 1) := by decide +kernel
theorem dX0_consider_16 : decode cX0_consider 16 = .ok (.putfield 13, 3) := by decide +kernel
theorem dX0_consider_19 : decode cX0_consider 19 = .ok (.return_, 1) := by decide +kernel
set_option maxRecDepth 20000 in
theorem ggX0_isBeatenBy_J6_bitCount_0f7a4 : GoodIn wsX0_isBeatenBy wsJ6_bitCount_0f7a4 := goodIn_r _ [6, 7, 8, 9] (by decide +kernel) (by decide +kernel)
set_option maxRecDepth 20000 in
theorem gX0_isBeatenBy_J6_bitCount_0f7a4 : GoodIn wsX0_isBeatenBy (va_wsS RX0 20 yJ6_bitCount_0f7a4 wsJ6_bitCount_0f7a4) := goodIn_app (goodIn_of _ (by decide +kernel)) ggX0_isBeatenBy_J6_bitCount_0f7a4
theorem dX0_isBeatenBy_0 : decode cX0_isBeatenBy 0 = .ok (.iload_n 1, 1) := by decide +kernel
theorem dX0_isBeatenBy_1 : decode cX0_isBeatenBy 1 = .ok (.aload_n 0, 1) := by decide +kernel
theorem dX0_isBeatenBy_2 : decode cX0_isBeatenBy 2 = .ok (.getfield 7, 3) := by decide +kernel
theorem dX0_isBeatenBy_5 : decode cX0_isBeatenBy 5 = .ok (.if_icmp .eq 17, 3) := by decide +kernel
theorem dX0_isBeatenBy_8 : decode cX0_isBeatenBy 8 = .ok (.iload_n 1, 1) := by decide +kernel
theorem dX0_isBeatenBy_9 : decode cX0_isBeatenBy 9 = .ok (.aload_n 0, 1) := by decide +kernel
theorem dX0_isBeatenBy_10 : decode cX0_isBeatenBy 10 = .ok (.getfield 7, 3) := by decide +kernel
theorem dX0_isBeatenBy_13 : decode cX0_isBeatenBy 13 = .ok (.if_icmp .le 7, 3) := by decide +kernel
theorem dX0_isBeatenBy_16 : decode cX0_isBeatenBy 16 = .ok (.iconst 1, 1) := by decide +kernel
theorem dX0_isBeatenBy_17 : decode cX0_isBeatenBy 17 = .ok (.goto 4, 3) := by decide +kernel
theorem dX0_isBeatenBy_20 : decode cX0_isBeatenBy 20 = .ok (.iconst 0, 1) := by decide +kernel
theorem dX0_isBeatenBy_21 : decode cX0_isBeatenBy 21 = .ok (.ireturn, 1) := by decide +kernel
theorem dX0_isBeatenBy_22 : decode cX0_isBeatenBy 22 = .ok (.aload_n 0, 1) := by decide +kernel
theorem dX0_isBeatenBy_23 : decode cX0_isBeatenBy 23 = .ok (.getfield 13, 3) := by decide +kernel
theorem dX0_isBeatenBy_26 : decode cX0_isBeatenBy 26 = .ok (.invokestatic 20, 3) := by decide +kernel
theorem dX0_isBeatenBy_29 : decode cX0_isBeatenBy 29 = .ok (.istore_n 3, 1) := by decide +kernel
theorem dX0_isBeatenBy_30 : decode cX0_isBeatenBy 30 = .ok (.iload_n 2, 1) := by decide +kernel
theorem dX0_isBeatenBy_31 : decode cX0_isBeatenBy 31 = .ok (.invokestatic 20, 3) := by decide +kernel
theorem dX0_isBeatenBy_34 : decode cX0_isBeatenBy 34 = .ok (.istore 4, 2) := by decide +kernel
theorem dX0_isBeatenBy_36 : decode cX0_isBeatenBy 36 = .ok (.iload 4, 2) := by decide +kernel
theorem dX0_isBeatenBy_38 : decode cX0_isBeatenBy 38 = .ok (.iload_n 3, 1) := by decide +kernel
theorem dX0_isBeatenBy_39 : decode cX0_isBeatenBy 39 = .ok (.if_icmp .eq 15, 3) := by decide +kernel
theorem dX0_isBeatenBy_42 : decode cX0_isBeatenBy 42 = .ok (.iload 4, 2) := by decide +kernel
theorem dX0_isBeatenBy_44 : decode cX0_isBeatenBy 44 = .ok (.iload_n 3, 1) := by decide +kernel
theorem dX0_isBeatenBy_45 : decode cX0_isBeatenBy 45 = .ok (.if_icmp .le 7, 3) := by decide +kernel
theorem dX0_isBeatenBy_48 : decode cX0_isBeatenBy 48 = .ok (.iconst 1, 1) := by decide +kernel
theorem dX0_isBeatenBy_49 : decode cX0_isBeatenBy 49 = .ok (.goto 4, 3) := by decide +kernel
theorem dX0_isBeatenBy_52 : decode cX0_isBeatenBy 52 = .ok (.iconst 0, 1) := by decide +kernel
theorem dX0_isBeatenBy_53 : decode cX0_isBeatenBy 53 = .ok (.ireturn, 1) := by decide +kernel
theorem dX0_isBeatenBy_54 : decode cX0_isBeatenBy 54 = .ok (.iload_n 2, 1) := by decide +kernel
theorem dX0_isBeatenBy_55 : decode cX0_isBeatenBy 55 = .ok (.aload_n 0, 1) := by decide +kernel
theorem dX0_isBeatenBy_56 : decode cX0_isBeatenBy 56 = .ok (.getfield 13, 3) := by decide +kernel
theorem dX0_isBeatenBy_59 : decode cX0_isBeatenBy 59 = .ok (.if_icmp .ge 7, 3) := by decide +kernel
theorem dX0_isBeatenBy_62 : decode cX0_isBeatenBy 62 = .ok (.iconst 1, 1) := by decide +kernel
theorem dX0_isBeatenBy_63 : decode cX0_isBeatenBy 63 = .ok (.goto 4, 3) := by decide +kernel
theorem dX0_isBeatenBy_66 : decode cX0_isBeatenBy 66 = .ok (.iconst 0, 1) := by decide +kernel
theorem dX0_isBeatenBy_67 : decode cX0_isBeatenBy 67 = .ok (.ireturn, 1) := by decide +kernel
theorem dX0_has_0 : decode cX0_has 0 = .ok (.aload_n 0, 1) := by decide +kernel
theorem dX0_has_1 : decode cX0_has 1 = .ok (.getfield 13, 3) := by decide +kernel
theorem dX0_has_4 : decode cX0_has 4 = .ok (.iconst 1, 1) := by decide +kernel
theorem dX0_has_5 : decode cX0_has 5 = .ok (.iload_n 1, 1) := by decide +kernel
theorem dX0_has_6 : decode cX0_has 6 = .ok (.ishl, 1) := by decide +kernel
theorem dX0_has_7 : decode cX0_has 7 = .ok (.iand, 1) := by decide +kernel
theorem dX0_has_8 : decode cX0_has 8 = .ok (.ifCond .eq 7, 3) := by decide +kernel
theorem dX0_has_11 : decode cX0_has 11 = .ok (.iconst 1, 1) := by decide +kernel
theorem dX0_has_12 : decode cX0_has 12 = .ok (.goto 4, 3) := by decide +kernel
theorem dX0_has_15 : decode cX0_has 15 = .ok (.iconst 0, 1) := by decide +kernel
theorem dX0_has_16 : decode cX0_has 16 = .ok (.ireturn, 1) := by decide +kernel
set_option maxRecDepth 20000 in
theorem ggX1_init_X0_init : GoodIn wsX1_init wsX0_init := goodIn_r _ [13, 14, 2, 3] (by decide +kernel) (by decide +kernel)
set_option maxRecDepth 20000 in
theorem gX1_init_X0_init_n11 : GoodIn wsX1_init (wsX0_init) := ggX1_init_X0_init
theorem dX1_init_0 : decode cX1_init 0 = .ok (.aload_n 0, 1) := by decide +kernel
theorem dX1_init_1 : decode cX1_init 1 = .ok (.invokespecial 3, 3) := by decide +kernel
theorem dX1_init_4 : decode cX1_init 4 = .ok (.aload_n 0, 1) := by decide +kernel
theorem dX1_init_5 : decode cX1_init 5 = .ok (.new 9, 3) := by decide +kernel
theorem dX1_init_8 : decode cX1_init 8 = .ok (.dup, 1) := by decide +kernel
theorem dX1_init_9 : decode cX1_init 9 = .ok (.invokespecial 11, 3) := by decide +kernel
theorem dX1_init_12 : decode cX1_init 12 = .ok (.putfield 12, 3) := by decide +kernel
theorem dX1_init_15 : decode cX1_init 15 = .ok (.aload_n 0, 1) := by decide +kernel
theorem dX1_init_16 : decode cX1_init 16 = .ok (.iconst 5, 1) := by decide +kernel
theorem dX1_init_17 : decode cX1_init 17 = .ok (.newarray .int, 2) := by decide +kernel
theorem dX1_init_19 : decode cX1_init 19 = .ok (.putfield 18, 3) := by decide +kernel
theorem dX1_init_22 : decode cX1_init 22 = .ok (.aload_n 0, 1) := by decide +kernel
theorem dX1_init_23 : decode cX1_init 23 = .ok (.iconst 5, 1) := by decide +kernel
theorem dX1_init_24 : decode cX1_init 24 = .ok (.newarray .int, 2) := by decide +kernel
theorem dX1_init_26 : decode cX1_init 26 = .ok (.putfield 22, 3) := by decide +kernel
theorem dX1_init_29 : decode cX1_init 29 = .ok (.aload_n 0, 1) := by decide +kernel
theorem dX1_init_30 : decode cX1_init 30 = .ok (.iconst 5, 1) := by decide +kernel
theorem dX1_init_31 : decode cX1_init 31 = .ok (.newarray .int, 2) := by decide +kernel
theorem dX1_init_33 : decode cX1_init 33 = .ok (.putfield 25, 3) := by decide +kernel
theorem dX1_init_36 : decode cX1_init 36 = .ok (.return_, 1) := by decide +kernel
set_option maxRecDepth 20000 in
theorem ggX1_clear_X0_clear : GoodIn wsX1_clear wsX0_clear := goodIn_r _ [8, 9, 10, 19, 20] (by decide +kernel) (by decide +kernel)
set_option maxRecDepth 20000 in
theorem gX1_clear_X0_clear_n28 : GoodIn wsX1_clear (wsX0_clear) := ggX1_clear_X0_clear
set_option maxRecDepth 20000 in
theorem ggX1_clear_J7_fill_53178 : GoodIn wsX1_clear wsJ7_fill_53178 := goodIn_r _ [14] (by decide +kernel) (by decide +kernel)
set_option maxRecDepth 20000 in
theorem gX1_clear_J7_fill_53178 : GoodIn wsX1_clear (va_wsS RX1 31 yJ7_fill_53178 wsJ7_fill_53178) := goodIn_app (goodIn_of _ (by decide +kernel)) ggX1_clear_J7_fill_53178
theorem dX1_clear_0 : decode cX1_clear 0 = .ok (.aload_n 0, 1) := by decide +kernel
theorem dX1_clear_1 : decode cX1_clear 1 = .ok (.getfield 12, 3) := by decide +kernel
theorem dX1_clear_4 : decode cX1_clear 4 = .ok (.invokevirtual 28, 3) := by decide +kernel
theorem dX1_clear_7 : decode cX1_clear 7 = .ok (.aload_n 0, 1) := by decide +kernel
theorem dX1_clear_8 : decode cX1_clear 8 = .ok (.getfield 18, 3) := by decide +kernel
theorem dX1_clear_11 : decode cX1_clear 11 = .ok (.iconst (-1), 1) := by decide +kernel
theorem dX1_clear_12 : decode cX1_clear 12 = .ok (.invokestatic 31, 3) := by decide +kernel
theorem dX1_clear_15 : decode cX1_clear 15 = .ok (.aload_n 0, 1) := by decide +kernel
theorem dX1_clear_16 : decode cX1_clear 16 = .ok (.getfield 22, 3) := by decide +kernel
theorem dX1_clear_19 : decode cX1_clear 19 = .ok (.iconst 0, 1) := by decide +kernel
theorem dX1_clear_20 : decode cX1_clear 20 = .ok (.invokestatic 31, 3) := by decide +kernel
theorem dX1_clear_23 : decode cX1_clear 23 = .ok (.aload_n 0, 1) := by decide +kernel
theorem dX1_clear_24 : decode cX1_clear 24 = .ok (.getfield 25, 3) := by decide +kernel
theorem dX1_clear_27 : decode cX1_clear 27 = .ok (.iconst 0, 1) := by decide +kernel
theorem dX1_clear_28 : decode cX1_clear 28 = .ok (.invokestatic 31, 3) := by decide +kernel
theorem dX1_clear_31 : decode cX1_clear 31 = .ok (.return_, 1) := by decide +kernel
theorem dX1_totalPaid_0 : decode cX1_totalPaid 0 = .ok (.iconst 0, 1) := by decide +kernel
theorem dX1_totalPaid_1 : decode cX1_totalPaid 1 = .ok (.istore_n 1, 1) := by decide +kernel
theorem dX1_totalPaid_2 : decode cX1_totalPaid 2 = .ok (.aload_n 0, 1) := by decide +kernel
theorem dX1_totalPaid_3 : decode cX1_totalPaid 3 = .ok (.getfield 22, 3) := by decide +kernel
theorem dX1_totalPaid_6 : decode cX1_totalPaid 6 = .ok (.astore_n 2, 1) := by decide +kernel
theorem dX1_totalPaid_7 : decode cX1_totalPaid 7 = .ok (.aload_n 2, 1) := by decide +kernel
theorem dX1_totalPaid_8 : decode cX1_totalPaid 8 = .ok (.arraylength, 1) := by decide +kernel
theorem dX1_totalPaid_9 : decode cX1_totalPaid 9 = .ok (.istore_n 3, 1) := by decide +kernel
theorem dX1_totalPaid_10 : decode cX1_totalPaid 10 = .ok (.iconst 0, 1) := by decide +kernel
theorem dX1_totalPaid_11 : decode cX1_totalPaid 11 = .ok (.istore 4, 2) := by decide +kernel
theorem dX1_totalPaid_13 : decode cX1_totalPaid 13 = .ok (.iload 4, 2) := by decide +kernel
theorem dX1_totalPaid_15 : decode cX1_totalPaid 15 = .ok (.iload_n 3, 1) := by decide +kernel
theorem dX1_totalPaid_16 : decode cX1_totalPaid 16 = .ok (.if_icmp .ge 20, 3) := by decide +kernel
theorem dX1_totalPaid_19 : decode cX1_totalPaid 19 = .ok (.aload_n 2, 1) := by decide +kernel
theorem dX1_totalPaid_20 : decode cX1_totalPaid 20 = .ok (.iload 4, 2) := by decide +kernel
theorem dX1_totalPaid_22 : decode cX1_totalPaid 22 = .ok (.iaload, 1) := by decide +kernel
theorem dX1_totalPaid_23 : decode cX1_totalPaid 23 = .ok (.istore 5, 2) := by decide +kernel
theorem dX1_totalPaid_25 : decode cX1_totalPaid 25 = .ok (.iload_n 1, 1) := by decide +kernel
theorem dX1_totalPaid_26 : decode cX1_totalPaid 26 = .ok (.iload 5, 2) := by decide +kernel
theorem dX1_totalPaid_28 : decode cX1_totalPaid 28 = .ok (.iadd, 1) := by decide +kernel
theorem dX1_totalPaid_29 : decode cX1_totalPaid 29 = .ok (.istore_n 1, 1) := by decide +kernel
theorem dX1_totalPaid_30 : decode cX1_totalPaid 30 = .ok (.iinc 4 1, 3) := by decide +kernel
theorem dX1_totalPaid_33 : decode cX1_totalPaid 33 = .ok (.goto (-20), 3) := by decide +kernel
theorem dX1_totalPaid_36 : decode cX1_totalPaid 36 = .ok (.iload_n 1, 1) := by decide +kernel
theorem dX1_totalPaid_37 : decode cX1_totalPaid 37 = .ok (.ireturn, 1) := by decide +kernel
theorem dJ6_bitCount_0f7a4_0 : decode cJ6_bitCount_0f7a4 0 = .ok (.iload_n 0, 1) := by decide +kernel
theorem dJ6_bitCount_0f7a4_1 : decode cJ6_bitCount_0f7a4 1 = .ok (.iload_n 0, 1) := by decide +kernel
theorem dJ6_bitCount_0f7a4_2 : decode cJ6_bitCount_0f7a4 2 = .ok (.iconst 1, 1) := by decide +kernel
theorem dJ6_bitCount_0f7a4_3 : decode cJ6_bitCount_0f7a4 3 = .ok (.iushr, 1) := by decide +kernel
theorem dJ6_bitCount_0f7a4_4 : decode cJ6_bitCount_0f7a4 4 = .ok (.ldc_w 265, 3) := by decide +kernel
theorem dJ6_bitCount_0f7a4_7 : decode cJ6_bitCount_0f7a4 7 = .ok (.iand, 1) := by decide +kernel
theorem dJ6_bitCount_0f7a4_8 : decode cJ6_bitCount_0f7a4 8 = .ok (.isub, 1) := by decide +kernel
theorem dJ6_bitCount_0f7a4_9 : decode cJ6_bitCount_0f7a4 9 = .ok (.istore_n 0, 1) := by decide +kernel
theorem dJ6_bitCount_0f7a4_10 : decode cJ6_bitCount_0f7a4 10 = .ok (.iload_n 0, 1) := by decide +kernel
theorem dJ6_bitCount_0f7a4_11 : decode cJ6_bitCount_0f7a4 11 = .ok (.ldc_w 266, 3) := by decide +kernel
theorem dJ6_bitCount_0f7a4_14 : decode cJ6_bitCount_0f7a4 14 = .ok (.iand, 1) := by decide +kernel
theorem dJ6_bitCount_0f7a4_15 : decode cJ6_bitCount_0f7a4 15 = .ok (.iload_n 0, 1) := by decide +kernel
theorem dJ6_bitCount_0f7a4_16 : decode cJ6_bitCount_0f7a4 16 = .ok (.iconst 2, 1) := by decide +kernel
theorem dJ6_bitCount_0f7a4_17 : decode cJ6_bitCount_0f7a4 17 = .ok (.iushr, 1) := by decide +kernel
theorem dJ6_bitCount_0f7a4_18 : decode cJ6_bitCount_0f7a4 18 = .ok (.ldc_w 266, 3) := by decide +kernel
theorem dJ6_bitCount_0f7a4_21 : decode cJ6_bitCount_0f7a4 21 = .ok (.iand, 1) := by decide +kernel
theorem dJ6_bitCount_0f7a4_22 : decode cJ6_bitCount_0f7a4 22 = .ok (.iadd, 1) := by decide +kernel
theorem dJ6_bitCount_0f7a4_23 : decode cJ6_bitCount_0f7a4 23 = .ok (.istore_n 0, 1) := by decide +kernel
theorem dJ6_bitCount_0f7a4_24 : decode cJ6_bitCount_0f7a4 24 = .ok (.iload_n 0, 1) := by decide +kernel
theorem dJ6_bitCount_0f7a4_25 : decode cJ6_bitCount_0f7a4 25 = .ok (.iload_n 0, 1) := by decide +kernel
theorem dJ6_bitCount_0f7a4_26 : decode cJ6_bitCount_0f7a4 26 = .ok (.iconst 4, 1) := by decide +kernel
theorem dJ6_bitCount_0f7a4_27 : decode cJ6_bitCount_0f7a4 27 = .ok (.iushr, 1) := by decide +kernel
theorem dJ6_bitCount_0f7a4_28 : decode cJ6_bitCount_0f7a4 28 = .ok (.iadd, 1) := by decide +kernel
theorem dJ6_bitCount_0f7a4_29 : decode cJ6_bitCount_0f7a4 29 = .ok (.ldc_w 267, 3) := by decide +kernel
theorem dJ6_bitCount_0f7a4_32 : decode cJ6_bitCount_0f7a4 32 = .ok (.iand, 1) := by decide +kernel
theorem dJ6_bitCount_0f7a4_33 : decode cJ6_bitCount_0f7a4 33 = .ok (.istore_n 0, 1) := by decide +kernel
theorem dJ6_bitCount_0f7a4_34 : decode cJ6_bitCount_0f7a4 34 = .ok (.iload_n 0, 1) := by decide +kernel
theorem dJ6_bitCount_0f7a4_35 : decode cJ6_bitCount_0f7a4 35 = .ok (.iload_n 0, 1) := by decide +kernel
theorem dJ6_bitCount_0f7a4_36 : decode cJ6_bitCount_0f7a4 36 = .ok (.bipush 8, 2) := by decide +kernel
theorem dJ6_bitCount_0f7a4_38 : decode cJ6_bitCount_0f7a4 38 = .ok (.iushr, 1) := by decide +kernel
theorem dJ6_bitCount_0f7a4_39 : decode cJ6_bitCount_0f7a4 39 = .ok (.iadd, 1) := by decide +kernel
theorem dJ6_bitCount_0f7a4_40 : decode cJ6_bitCount_0f7a4 40 = .ok (.istore_n 0, 1) := by decide +kernel
theorem dJ6_bitCount_0f7a4_41 : decode cJ6_bitCount_0f7a4 41 = .ok (.iload_n 0, 1) := by decide +kernel
theorem dJ6_bitCount_0f7a4_42 : decode cJ6_bitCount_0f7a4 42 = .ok (.iload_n 0, 1) := by decide +kernel
theorem dJ6_bitCount_0f7a4_43 : decode cJ6_bitCount_0f7a4 43 = .ok (.bipush 16, 2) := by decide +kernel
theorem dJ6_bitCount_0f7a4_45 : decode cJ6_bitCount_0f7a4 45 = .ok (.iushr, 1) := by decide +kernel
theorem dJ6_bitCount_0f7a4_46 : decode cJ6_bitCount_0f7a4 46 = .ok (.iadd, 1) := by decide +kernel
theorem dJ6_bitCount_0f7a4_47 : decode cJ6_bitCount_0f7a4 47 = .ok (.istore_n 0, 1) := by decide +kernel
theorem dJ6_bitCount_0f7a4_48 : decode cJ6_bitCount_0f7a4 48 = .ok (.iload_n 0, 1) := by decide +kernel
theorem dJ6_bitCount_0f7a4_49 : decode cJ6_bitCount_0f7a4 49 = .ok (.bipush 63, 2) := by decide +kernel
theorem dJ6_bitCount_0f7a4_51 : decode cJ6_bitCount_0f7a4 51 = .ok (.iand, 1) := by decide +kernel
theorem dJ6_bitCount_0f7a4_52 : decode cJ6_bitCount_0f7a4 52 = .ok (.ireturn, 1) := by decide +kernel
theorem dJ7_fill_53178_0 : decode cJ7_fill_53178 0 = .ok (.iconst 0, 1) := by decide +kernel
theorem dJ7_fill_53178_1 : decode cJ7_fill_53178 1 = .ok (.istore_n 2, 1) := by decide +kernel
theorem dJ7_fill_53178_2 : decode cJ7_fill_53178 2 = .ok (.aload_n 0, 1) := by decide +kernel
theorem dJ7_fill_53178_3 : decode cJ7_fill_53178 3 = .ok (.arraylength, 1) := by decide +kernel
theorem dJ7_fill_53178_4 : decode cJ7_fill_53178 4 = .ok (.istore_n 3, 1) := by decide +kernel
theorem dJ7_fill_53178_5 : decode cJ7_fill_53178 5 = .ok (.iload_n 2, 1) := by decide +kernel
theorem dJ7_fill_53178_6 : decode cJ7_fill_53178 6 = .ok (.iload_n 3, 1) := by decide +kernel
theorem dJ7_fill_53178_7 : decode cJ7_fill_53178 7 = .ok (.if_icmp .ge 13, 3) := by decide +kernel
theorem dJ7_fill_53178_10 : decode cJ7_fill_53178 10 = .ok (.aload_n 0, 1) := by decide +kernel
theorem dJ7_fill_53178_11 : decode cJ7_fill_53178 11 = .ok (.iload_n 2, 1) := by decide +kernel
theorem dJ7_fill_53178_12 : decode cJ7_fill_53178 12 = .ok (.iload_n 1, 1) := by decide +kernel
theorem dJ7_fill_53178_13 : decode cJ7_fill_53178 13 = .ok (.iastore, 1) := by decide +kernel
theorem dJ7_fill_53178_14 : decode cJ7_fill_53178 14 = .ok (.iinc 2 1, 3) := by decide +kernel
theorem dJ7_fill_53178_17 : decode cJ7_fill_53178 17 = .ok (.goto (-12), 3) := by decide +kernel
theorem dJ7_fill_53178_20 : decode cJ7_fill_53178 20 = .ok (.return_, 1) := by decide +kernel
