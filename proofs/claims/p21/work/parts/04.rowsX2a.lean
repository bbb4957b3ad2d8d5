set_option maxRecDepth 20000 in
theorem ggX2_init_X1_init : GoodIn wsX2_init wsX1_init := goodIn_r _ [24, 25, 2, 3, 26, 20, 21, 27, 4, 28, 29, 30, 31, 32, 33, 116, 117, 112, 113, 114, 115] (by decide +kernel) (by decide +kernel)
set_option maxRecDepth 20000 in
theorem gX2_init_X1_init_n37 : GoodIn wsX2_init (wsX1_init) := ggX2_init_X1_init
set_option maxRecDepth 20000 in
theorem ggX2_init_X0_init : GoodIn wsX2_init wsX0_init := goodIn_r _ [32, 33, 2, 3] (by decide +kernel) (by decide +kernel)
set_option maxRecDepth 20000 in
theorem gX2_init_X0_init_n47 : GoodIn wsX2_init (wsX0_init) := ggX2_init_X0_init
set_option maxRecDepth 20000 in
theorem ggX2_init_X2_settle : GoodIn wsX2_init wsX2_settle := goodIn_r _ [38, 39, 22, 40, 41, 16, 42, 43, 27, 28, 29, 30, 44, 21, 45, 46, 47, 48, 49, 50, 51, 52, 53, 54, 55, 37, 56, 57, 58, 59, 60, 61, 62, 63, 64, 65, 66, 67, 68, 69, 70, 71, 72, 73, 74, 75, 76, 77, 78, 8, 9, 11, 79, 80, 81, 82, 13, 7, 83, 84, 85, 86, 87, 88, 89, 90, 91, 92, 93, 94, 5, 95, 96, 97, 112, 113, 114, 115, 98, 99, 100, 101, 102, 103, 104, 105, 106, 107, 108, 109, 110, 111, 116, 117] (by decide +kernel) (by decide +kernel)
set_option maxRecDepth 20000 in
theorem gX2_init_X2_settle : GoodIn wsX2_init (wsV RX2 52 RX2 yX2_settle wsX2_settle) := goodIn_app (goodIn_of _ (by decide +kernel)) ggX2_init_X2_settle
theorem dX2_init_0 : decode cX2_init 0 = .ok (.aload_n 0, 1) := by decide +kernel
theorem dX2_init_1 : decode cX2_init 1 = .ok (.invokespecial 1, 3) := by decide +kernel
theorem dX2_init_4 : decode cX2_init 4 = .ok (.aload_n 0, 1) := by decide +kernel
theorem dX2_init_5 : decode cX2_init 5 = .ok (.bipush 8, 2) := by decide +kernel
theorem dX2_init_7 : decode cX2_init 7 = .ok (.newarray .int, 2) := by decide +kernel
theorem dX2_init_9 : decode cX2_init 9 = .ok (.putfield 9, 3) := by decide +kernel
theorem dX2_init_12 : decode cX2_init 12 = .ok (.aload_n 0, 1) := by decide +kernel
theorem dX2_init_13 : decode cX2_init 13 = .ok (.iconst 5, 1) := by decide +kernel
theorem dX2_init_14 : decode cX2_init 14 = .ok (.newarray .boolean, 2) := by decide +kernel
theorem dX2_init_16 : decode cX2_init 16 = .ok (.putfield 13, 3) := by decide +kernel
theorem dX2_init_19 : decode cX2_init 19 = .ok (.aload_n 0, 1) := by decide +kernel
theorem dX2_init_20 : decode cX2_init 20 = .ok (.bipush 12, 2) := by decide +kernel
theorem dX2_init_22 : decode cX2_init 22 = .ok (.newarray .int, 2) := by decide +kernel
theorem dX2_init_24 : decode cX2_init 24 = .ok (.putfield 17, 3) := by decide +kernel
theorem dX2_init_27 : decode cX2_init 27 = .ok (.aload_n 0, 1) := by decide +kernel
theorem dX2_init_28 : decode cX2_init 28 = .ok (.bipush 12, 2) := by decide +kernel
theorem dX2_init_30 : decode cX2_init 30 = .ok (.newarray .int, 2) := by decide +kernel
theorem dX2_init_32 : decode cX2_init 32 = .ok (.putfield 20, 3) := by decide +kernel
theorem dX2_init_35 : decode cX2_init 35 = .ok (.aload_n 0, 1) := by decide +kernel
theorem dX2_init_36 : decode cX2_init 36 = .ok (.bipush 12, 2) := by decide +kernel
theorem dX2_init_38 : decode cX2_init 38 = .ok (.newarray .int, 2) := by decide +kernel
theorem dX2_init_40 : decode cX2_init 40 = .ok (.putfield 23, 3) := by decide +kernel
theorem dX2_init_43 : decode cX2_init 43 = .ok (.aload_n 0, 1) := by decide +kernel
theorem dX2_init_44 : decode cX2_init 44 = .ok (.bipush 12, 2) := by decide +kernel
theorem dX2_init_46 : decode cX2_init 46 = .ok (.newarray .int, 2) := by decide +kernel
theorem dX2_init_48 : decode cX2_init 48 = .ok (.putfield 26, 3) := by decide +kernel
theorem dX2_init_51 : decode cX2_init 51 = .ok (.aload_n 0, 1) := by decide +kernel
theorem dX2_init_52 : decode cX2_init 52 = .ok (.bipush 12, 2) := by decide +kernel
theorem dX2_init_54 : decode cX2_init 54 = .ok (.newarray .int, 2) := by decide +kernel
theorem dX2_init_56 : decode cX2_init 56 = .ok (.putfield 29, 3) := by decide +kernel
theorem dX2_init_59 : decode cX2_init 59 = .ok (.aload_n 0, 1) := by decide +kernel
theorem dX2_init_60 : decode cX2_init 60 = .ok (.bipush 12, 2) := by decide +kernel
theorem dX2_init_62 : decode cX2_init 62 = .ok (.newarray .boolean, 2) := by decide +kernel
theorem dX2_init_64 : decode cX2_init 64 = .ok (.putfield 32, 3) := by decide +kernel
theorem dX2_init_67 : decode cX2_init 67 = .ok (.aload_n 0, 1) := by decide +kernel
theorem dX2_init_68 : decode cX2_init 68 = .ok (.new 35, 3) := by decide +kernel
theorem dX2_init_71 : decode cX2_init 71 = .ok (.dup, 1) := by decide +kernel
theorem dX2_init_72 : decode cX2_init 72 = .ok (.invokespecial 37, 3) := by decide +kernel
theorem dX2_init_75 : decode cX2_init 75 = .ok (.putfield 38, 3) := by decide +kernel
theorem dX2_init_78 : decode cX2_init 78 = .ok (.aload_n 0, 1) := by decide +kernel
theorem dX2_init_79 : decode cX2_init 79 = .ok (.new 35, 3) := by decide +kernel
theorem dX2_init_82 : decode cX2_init 82 = .ok (.dup, 1) := by decide +kernel
theorem dX2_init_83 : decode cX2_init 83 = .ok (.invokespecial 37, 3) := by decide +kernel
theorem dX2_init_86 : decode cX2_init 86 = .ok (.putfield 42, 3) := by decide +kernel
theorem dX2_init_89 : decode cX2_init 89 = .ok (.aload_n 0, 1) := by decide +kernel
theorem dX2_init_90 : decode cX2_init 90 = .ok (.new 45, 3) := by decide +kernel
theorem dX2_init_93 : decode cX2_init 93 = .ok (.dup, 1) := by decide +kernel
theorem dX2_init_94 : decode cX2_init 94 = .ok (.invokespecial 47, 3) := by decide +kernel
theorem dX2_init_97 : decode cX2_init 97 = .ok (.putfield 48, 3) := by decide +kernel
theorem dX2_init_100 : decode cX2_init 100 = .ok (.aload_n 0, 1) := by decide +kernel
theorem dX2_init_101 : decode cX2_init 101 = .ok (.aload_n 0, 1) := by decide +kernel
theorem dX2_init_102 : decode cX2_init 102 = .ok (.getfield 38, 3) := by decide +kernel
theorem dX2_init_105 : decode cX2_init 105 = .ok (.iconst 0, 1) := by decide +kernel
theorem dX2_init_106 : decode cX2_init 106 = .ok (.invokevirtual 52, 3) := by decide +kernel
theorem dX2_init_109 : decode cX2_init 109 = .ok (.return_, 1) := by decide +kernel
set_option maxRecDepth 20000 in
theorem ggX2_field_X2_requireReserve : GoodIn wsX2_field wsX2_requireReserve := goodIn_ca (goodIn_r _ [8, 9, 10] (by decide +kernel) (by decide +kernel)) (goodIn_sub (fun _ h => List.mem_cons_of_mem _ (List.mem_append_right _ h)) (by decide +kernel))
set_option maxRecDepth 20000 in
theorem gX2_field_X2_requireReserve : GoodIn wsX2_field (va_wsS RX2 56 yX2_requireReserve wsX2_requireReserve) := goodIn_app (goodIn_of _ (by decide +kernel)) ggX2_field_X2_requireReserve
theorem dX2_field_0 : decode cX2_field 0 = .ok (.iload_n 1, 1) := by decide +kernel
theorem dX2_field_1 : decode cX2_field 1 = .ok (.invokestatic 56, 3) := by decide +kernel
theorem dX2_field_4 : decode cX2_field 4 = .ok (.aload_n 0, 1) := by decide +kernel
theorem dX2_field_5 : decode cX2_field 5 = .ok (.getfield 60, 3) := by decide +kernel
theorem dX2_field_8 : decode cX2_field 8 = .ok (.bipush 8, 2) := by decide +kernel
theorem dX2_field_10 : decode cX2_field 10 = .ok (.if_icmp .lt 13, 3) := by decide +kernel
theorem dX2_field_13 : decode cX2_field 13 = .ok (.new 64, 3) := by decide +kernel
theorem dX2_field_16 : decode cX2_field 16 = .ok (.dup, 1) := by decide +kernel
theorem dX2_field_17 : decode cX2_field 17 = .ok (.ldc 66, 2) := by decide +kernel
theorem dX2_field_19 : decode cX2_field 19 = .ok (.invokespecial 68, 3) := by decide +kernel
theorem dX2_field_22 : decode cX2_field 22 = .ok (.athrow, 1) := by decide +kernel
theorem dX2_field_23 : decode cX2_field 23 = .ok (.aload_n 0, 1) := by decide +kernel
theorem dX2_field_24 : decode cX2_field 24 = .ok (.getfield 60, 3) := by decide +kernel
theorem dX2_field_27 : decode cX2_field 27 = .ok (.istore_n 2, 1) := by decide +kernel
theorem dX2_field_28 : decode cX2_field 28 = .ok (.aload_n 0, 1) := by decide +kernel
theorem dX2_field_29 : decode cX2_field 29 = .ok (.getfield 9, 3) := by decide +kernel
theorem dX2_field_32 : decode cX2_field 32 = .ok (.iload_n 2, 1) := by decide +kernel
theorem dX2_field_33 : decode cX2_field 33 = .ok (.iload_n 1, 1) := by decide +kernel
theorem dX2_field_34 : decode cX2_field 34 = .ok (.iastore, 1) := by decide +kernel
theorem dX2_field_35 : decode cX2_field 35 = .ok (.aload_n 0, 1) := by decide +kernel
theorem dX2_field_36 : decode cX2_field 36 = .ok (.dup, 1) := by decide +kernel
theorem dX2_field_37 : decode cX2_field 37 = .ok (.getfield 60, 3) := by decide +kernel
theorem dX2_field_40 : decode cX2_field 40 = .ok (.iconst 1, 1) := by decide +kernel
theorem dX2_field_41 : decode cX2_field 41 = .ok (.iadd, 1) := by decide +kernel
theorem dX2_field_42 : decode cX2_field 42 = .ok (.putfield 60, 3) := by decide +kernel
theorem dX2_field_45 : decode cX2_field 45 = .ok (.iload_n 2, 1) := by decide +kernel
theorem dX2_field_46 : decode cX2_field 46 = .ok (.ireturn, 1) := by decide +kernel
set_option maxRecDepth 20000 in
theorem ggX2_setReserve_X2_requireField : GoodIn wsX2_setReserve wsX2_requireField := goodIn_ca (goodIn_r _ [9, 10, 11, 12, 95, 96, 97, 98, 99, 100, 101, 102, 103, 104, 105, 106, 107, 108] (by decide +kernel) (by decide +kernel)) (goodIn_sub (fun _ h => List.mem_cons_of_mem _ (List.mem_append_left _ (List.mem_append_right _ h))) (by decide +kernel))
set_option maxRecDepth 20000 in
theorem gX2_setReserve_X2_requireField : GoodIn wsX2_setReserve (wsV RX2 71 RX2 yX2_requireField wsX2_requireField) := goodIn_app (goodIn_of _ (by decide +kernel)) ggX2_setReserve_X2_requireField
set_option maxRecDepth 20000 in
theorem ggX2_setReserve_X2_requireReserve : GoodIn wsX2_setReserve wsX2_requireReserve := goodIn_ca (goodIn_r _ [15, 16, 17] (by decide +kernel) (by decide +kernel)) (goodIn_sub (fun _ h => List.mem_cons_of_mem _ (List.mem_append_right _ h)) (by decide +kernel))
set_option maxRecDepth 20000 in
theorem gX2_setReserve_X2_requireReserve : GoodIn wsX2_setReserve (va_wsS RX2 56 yX2_requireReserve wsX2_requireReserve) := goodIn_app (goodIn_of _ (by decide +kernel)) ggX2_setReserve_X2_requireReserve
set_option maxRecDepth 20000 in
theorem ggX2_setReserve_X2_putPrice : GoodIn wsX2_setReserve wsX2_putPrice := goodIn_r _ [21, 3, 22, 23, 24, 25, 26, 8, 27, 12, 1, 28, 29, 30, 95, 96, 97, 98, 99, 100, 101, 102, 103, 104, 105, 106, 107, 108] (by decide +kernel) (by decide +kernel)
set_option maxRecDepth 20000 in
theorem gX2_setReserve_X2_putPrice : GoodIn wsX2_setReserve (wsV RX2 77 RX2 yX2_putPrice wsX2_putPrice) := goodIn_app (goodIn_of _ (by decide +kernel)) ggX2_setReserve_X2_putPrice
set_option maxRecDepth 20000 in
theorem ggX2_setReserve_X2_settle : GoodIn wsX2_setReserve wsX2_settle := goodIn_r _ [34, 35, 36, 2, 37, 38, 39, 40, 41, 42, 43, 44, 45, 46, 47, 48, 49, 50, 51, 52, 53, 54, 55, 56, 57, 8, 58, 59, 60, 61, 62, 63, 64, 65, 66, 67, 68, 69, 70, 71, 72, 73, 74, 75, 76, 77, 78, 79, 80, 81, 23, 22, 82, 83, 84, 85, 86, 87, 88, 89, 90, 91, 92, 93, 94, 24, 25, 26, 27, 12, 1, 28, 29, 30, 109, 110, 111, 112, 95, 96, 97, 98, 99, 100, 101, 102, 103, 104, 105, 106, 107, 108, 113, 114] (by decide +kernel) (by decide +kernel)
set_option maxRecDepth 20000 in
theorem gX2_setReserve_X2_settle : GoodIn wsX2_setReserve (wsV RX2 52 RX2 yX2_settle wsX2_settle) := goodIn_app (goodIn_of _ (by decide +kernel)) ggX2_setReserve_X2_settle
theorem dX2_setReserve_0 : decode cX2_setReserve 0 = .ok (.aload_n 0, 1) := by decide +kernel
theorem dX2_setReserve_1 : decode cX2_setReserve 1 = .ok (.iload_n 1, 1) := by decide +kernel
theorem dX2_setReserve_2 : decode cX2_setReserve 2 = .ok (.invokevirtual 71, 3) := by decide +kernel
theorem dX2_setReserve_5 : decode cX2_setReserve 5 = .ok (.iload_n 2, 1) := by decide +kernel
theorem dX2_setReserve_6 : decode cX2_setReserve 6 = .ok (.invokestatic 56, 3) := by decide +kernel
theorem dX2_setReserve_9 : decode cX2_setReserve 9 = .ok (.aload_n 0, 1) := by decide +kernel
theorem dX2_setReserve_10 : decode cX2_setReserve 10 = .ok (.getfield 9, 3) := by decide +kernel
theorem dX2_setReserve_13 : decode cX2_setReserve 13 = .ok (.iload_n 1, 1) := by decide +kernel
theorem dX2_setReserve_14 : decode cX2_setReserve 14 = .ok (.iaload, 1) := by decide +kernel
theorem dX2_setReserve_15 : decode cX2_setReserve 15 = .ok (.istore_n 3, 1) := by decide +kernel
theorem dX2_setReserve_16 : decode cX2_setReserve 16 = .ok (.aload_n 0, 1) := by decide +kernel
theorem dX2_setReserve_17 : decode cX2_setReserve 17 = .ok (.getfield 9, 3) := by decide +kernel
theorem dX2_setReserve_20 : decode cX2_setReserve 20 = .ok (.iload_n 1, 1) := by decide +kernel
theorem dX2_setReserve_21 : decode cX2_setReserve 21 = .ok (.iload_n 2, 1) := by decide +kernel
theorem dX2_setReserve_22 : decode cX2_setReserve 22 = .ok (.iastore, 1) := by decide +kernel
theorem dX2_setReserve_23 : decode cX2_setReserve 23 = .ok (.iconst 0, 1) := by decide +kernel
theorem dX2_setReserve_24 : decode cX2_setReserve 24 = .ok (.istore 4, 2) := by decide +kernel
theorem dX2_setReserve_26 : decode cX2_setReserve 26 = .ok (.iload 4, 2) := by decide +kernel
theorem dX2_setReserve_28 : decode cX2_setReserve 28 = .ok (.aload_n 0, 1) := by decide +kernel
theorem dX2_setReserve_29 : decode cX2_setReserve 29 = .ok (.getfield 74, 3) := by decide +kernel
theorem dX2_setReserve_32 : decode cX2_setReserve 32 = .ok (.if_icmp .ge 22, 3) := by decide +kernel
theorem dX2_setReserve_35 : decode cX2_setReserve 35 = .ok (.aload_n 0, 1) := by decide +kernel
theorem dX2_setReserve_36 : decode cX2_setReserve 36 = .ok (.iload 4, 2) := by decide +kernel
theorem dX2_setReserve_38 : decode cX2_setReserve 38 = .ok (.aload_n 0, 1) := by decide +kernel
theorem dX2_setReserve_39 : decode cX2_setReserve 39 = .ok (.getfield 23, 3) := by decide +kernel
theorem dX2_setReserve_42 : decode cX2_setReserve 42 = .ok (.iload 4, 2) := by decide +kernel
theorem dX2_setReserve_44 : decode cX2_setReserve 44 = .ok (.iaload, 1) := by decide +kernel
theorem dX2_setReserve_45 : decode cX2_setReserve 45 = .ok (.invokevirtual 77, 3) := by decide +kernel
theorem dX2_setReserve_48 : decode cX2_setReserve 48 = .ok (.iinc 4 1, 3) := by decide +kernel
theorem dX2_setReserve_51 : decode cX2_setReserve 51 = .ok (.goto (-25), 3) := by decide +kernel
theorem dX2_setReserve_54 : decode cX2_setReserve 54 = .ok (.aload_n 0, 1) := by decide +kernel
theorem dX2_setReserve_55 : decode cX2_setReserve 55 = .ok (.aload_n 0, 1) := by decide +kernel
theorem dX2_setReserve_56 : decode cX2_setReserve 56 = .ok (.getfield 38, 3) := by decide +kernel
theorem dX2_setReserve_59 : decode cX2_setReserve 59 = .ok (.iconst 0, 1) := by decide +kernel
theorem dX2_setReserve_60 : decode cX2_setReserve 60 = .ok (.invokevirtual 52, 3) := by decide +kernel
theorem dX2_setReserve_63 : decode cX2_setReserve 63 = .ok (.iload_n 3, 1) := by decide +kernel
theorem dX2_setReserve_64 : decode cX2_setReserve 64 = .ok (.ireturn, 1) := by decide +kernel
set_option maxRecDepth 20000 in
theorem ggX2_join_X2_settle : GoodIn wsX2_join wsX2_settle := goodIn_r _ [10, 3, 11, 12, 13, 14, 15, 16, 17, 18, 19, 20, 21, 22, 23, 24, 25, 26, 27, 28, 29, 30, 31, 32, 33, 9, 34, 35, 36, 37, 38, 39, 40, 41, 42, 43, 44, 45, 46, 47, 48, 49, 50, 51, 52, 53, 54, 55, 56, 57, 58, 59, 60, 61, 62, 63, 64, 4, 65, 66, 67, 68, 69, 70, 71, 72, 73, 74, 75, 76, 77, 78, 79, 80, 95, 96, 97, 98, 81, 82, 83, 84, 85, 86, 87, 88, 89, 90, 91, 92, 93, 94, 99, 100] (by decide +kernel) (by decide +kernel)
set_option maxRecDepth 20000 in
theorem gX2_join_X2_settle : GoodIn wsX2_join (wsV RX2 52 RX2 yX2_settle wsX2_settle) := goodIn_app (goodIn_of _ (by decide +kernel)) ggX2_join_X2_settle
theorem dX2_join_0 : decode cX2_join 0 = .ok (.aload_n 0, 1) := by decide +kernel
theorem dX2_join_1 : decode cX2_join 1 = .ok (.getfield 81, 3) := by decide +kernel
theorem dX2_join_4 : decode cX2_join 4 = .ok (.iconst 5, 1) := by decide +kernel
theorem dX2_join_5 : decode cX2_join 5 = .ok (.if_icmp .lt 13, 3) := by decide +kernel
theorem dX2_join_8 : decode cX2_join 8 = .ok (.new 64, 3) := by decide +kernel
theorem dX2_join_11 : decode cX2_join 11 = .ok (.dup, 1) := by decide +kernel
theorem dX2_join_12 : decode cX2_join 12 = .ok (.ldc 84, 2) := by decide +kernel
theorem dX2_join_14 : decode cX2_join 14 = .ok (.invokespecial 68, 3) := by decide +kernel
theorem dX2_join_17 : decode cX2_join 17 = .ok (.athrow, 1) := by decide +kernel
theorem dX2_join_18 : decode cX2_join 18 = .ok (.aload_n 0, 1) := by decide +kernel
theorem dX2_join_19 : decode cX2_join 19 = .ok (.getfield 81, 3) := by decide +kernel
theorem dX2_join_22 : decode cX2_join 22 = .ok (.istore_n 1, 1) := by decide +kernel
theorem dX2_join_23 : decode cX2_join 23 = .ok (.aload_n 0, 1) := by decide +kernel
theorem dX2_join_24 : decode cX2_join 24 = .ok (.getfield 13, 3) := by decide +kernel
theorem dX2_join_27 : decode cX2_join 27 = .ok (.iload_n 1, 1) := by decide +kernel
theorem dX2_join_28 : decode cX2_join 28 = .ok (.iconst 1, 1) := by decide +kernel
theorem dX2_join_29 : decode cX2_join 29 = .ok (.bastore, 1) := by decide +kernel
theorem dX2_join_30 : decode cX2_join 30 = .ok (.aload_n 0, 1) := by decide +kernel
theorem dX2_join_31 : decode cX2_join 31 = .ok (.dup, 1) := by decide +kernel
theorem dX2_join_32 : decode cX2_join 32 = .ok (.getfield 81, 3) := by decide +kernel
theorem dX2_join_35 : decode cX2_join 35 = .ok (.iconst 1, 1) := by decide +kernel
theorem dX2_join_36 : decode cX2_join 36 = .ok (.iadd, 1) := by decide +kernel
theorem dX2_join_37 : decode cX2_join 37 = .ok (.putfield 81, 3) := by decide +kernel
theorem dX2_join_40 : decode cX2_join 40 = .ok (.aload_n 0, 1) := by decide +kernel
theorem dX2_join_41 : decode cX2_join 41 = .ok (.aload_n 0, 1) := by decide +kernel
theorem dX2_join_42 : decode cX2_join 42 = .ok (.getfield 38, 3) := by decide +kernel
theorem dX2_join_45 : decode cX2_join 45 = .ok (.iconst 0, 1) := by decide +kernel
theorem dX2_join_46 : decode cX2_join 46 = .ok (.invokevirtual 52, 3) := by decide +kernel
theorem dX2_join_49 : decode cX2_join 49 = .ok (.iload_n 1, 1) := by decide +kernel
theorem dX2_join_50 : decode cX2_join 50 = .ok (.ireturn, 1) := by decide +kernel
set_option maxRecDepth 20000 in
theorem ggX2_setIn_X2_requireBidder : GoodIn wsX2_setIn wsX2_requireBidder := goodIn_ca (goodIn_r _ [7, 8, 9, 10, 85, 86, 87, 88, 89, 90, 91, 92, 93, 94, 95, 96, 97, 98] (by decide +kernel) (by decide +kernel)) (goodIn_sub (fun _ h => List.mem_cons_of_mem _ (List.mem_append_right _ h)) (by decide +kernel))
set_option maxRecDepth 20000 in
theorem gX2_setIn_X2_requireBidder : GoodIn wsX2_setIn (wsV RX2 86 RX2 yX2_requireBidder wsX2_requireBidder) := goodIn_app (goodIn_of _ (by decide +kernel)) ggX2_setIn_X2_requireBidder
set_option maxRecDepth 20000 in
theorem ggX2_setIn_X2_settle : GoodIn wsX2_setIn wsX2_settle := goodIn_r _ [14, 10, 15, 16, 17, 18, 19, 20, 21, 22, 23, 24, 25, 26, 27, 28, 29, 30, 31, 32, 33, 34, 35, 36, 37, 6, 38, 39, 40, 41, 42, 43, 44, 45, 46, 47, 48, 49, 50, 51, 52, 53, 54, 55, 56, 57, 58, 59, 60, 61, 62, 63, 64, 65, 66, 67, 68, 1, 69, 70, 71, 72, 73, 74, 75, 76, 77, 78, 79, 80, 81, 82, 83, 84, 99, 100, 101, 102, 85, 86, 87, 88, 89, 90, 91, 92, 93, 94, 95, 96, 97, 98, 103, 104] (by decide +kernel) (by decide +kernel)
set_option maxRecDepth 20000 in
theorem gX2_setIn_X2_settle : GoodIn wsX2_setIn (wsV RX2 52 RX2 yX2_settle wsX2_settle) := goodIn_app (goodIn_of _ (by decide +kernel)) ggX2_setIn_X2_settle
theorem dX2_setIn_0 : decode cX2_setIn 0 = .ok (.aload_n 0, 1) := by decide +kernel
theorem dX2_setIn_1 : decode cX2_setIn 1 = .ok (.iload_n 1, 1) := by decide +kernel
theorem dX2_setIn_2 : decode cX2_setIn 2 = .ok (.invokevirtual 86, 3) := by decide +kernel
theorem dX2_setIn_5 : decode cX2_setIn 5 = .ok (.aload_n 0, 1) := by decide +kernel
theorem dX2_setIn_6 : decode cX2_setIn 6 = .ok (.getfield 13, 3) := by decide +kernel
theorem dX2_setIn_9 : decode cX2_setIn 9 = .ok (.iload_n 1, 1) := by decide +kernel
theorem dX2_setIn_10 : decode cX2_setIn 10 = .ok (.baload, 1) := by decide +kernel
theorem dX2_setIn_11 : decode cX2_setIn 11 = .ok (.istore_n 3, 1) := by decide +kernel
theorem dX2_setIn_12 : decode cX2_setIn 12 = .ok (.aload_n 0, 1) := by decide +kernel
theorem dX2_setIn_13 : decode cX2_setIn 13 = .ok (.getfield 13, 3) := by decide +kernel
theorem dX2_setIn_16 : decode cX2_setIn 16 = .ok (.iload_n 1, 1) := by decide +kernel
theorem dX2_setIn_17 : decode cX2_setIn 17 = .ok (.iload_n 2, 1) := by decide +kernel
theorem dX2_setIn_18 : decode cX2_setIn 18 = .ok (.bastore, 1) := by decide +kernel
theorem dX2_setIn_19 : decode cX2_setIn 19 = .ok (.aload_n 0, 1) := by decide +kernel
theorem dX2_setIn_20 : decode cX2_setIn 20 = .ok (.aload_n 0, 1) := by decide +kernel
theorem dX2_setIn_21 : decode cX2_setIn 21 = .ok (.getfield 38, 3) := by decide +kernel
theorem dX2_setIn_24 : decode cX2_setIn 24 = .ok (.iconst 0, 1) := by decide +kernel
theorem dX2_setIn_25 : decode cX2_setIn 25 = .ok (.invokevirtual 52, 3) := by decide +kernel
theorem dX2_setIn_28 : decode cX2_setIn 28 = .ok (.iload_n 3, 1) := by decide +kernel
theorem dX2_setIn_29 : decode cX2_setIn 29 = .ok (.ireturn, 1) := by decide +kernel
set_option maxRecDepth 20000 in
theorem ggX2_bid_X2_requireBidder : GoodIn wsX2_bid wsX2_requireBidder := goodIn_ca (goodIn_r _ [12, 13, 14, 15, 102, 103, 104, 105, 106, 107, 108, 109, 110, 111, 112, 113, 114, 115] (by decide +kernel) (by decide +kernel)) (goodIn_sub (fun _ h => List.mem_cons_of_mem _ (List.mem_append_left _ (List.mem_append_right _ h))) (by decide +kernel))
set_option maxRecDepth 20000 in
theorem gX2_bid_X2_requireBidder : GoodIn wsX2_bid (wsV RX2 86 RX2 yX2_requireBidder wsX2_requireBidder) := goodIn_app (goodIn_of _ (by decide +kernel)) ggX2_bid_X2_requireBidder
set_option maxRecDepth 20000 in
theorem ggX2_bid_X2_requireBundle : GoodIn wsX2_bid wsX2_requireBundle := goodIn_ca (goodIn_r _ [19, 20, 21, 22, 102, 103, 104, 105, 106, 107, 108, 109, 110, 111, 112, 113, 114, 115] (by decide +kernel) (by decide +kernel)) (goodIn_sub (fun _ h => List.mem_cons_of_mem _ (List.mem_append_right _ h)) (by decide +kernel))
set_option maxRecDepth 20000 in
theorem gX2_bid_X2_requireBundle : GoodIn wsX2_bid (wsV RX2 89 RX2 yX2_requireBundle wsX2_requireBundle) := goodIn_app (goodIn_of _ (by decide +kernel)) ggX2_bid_X2_requireBundle
set_option maxRecDepth 20000 in
theorem ggX2_bid_X2_requireAmount : GoodIn wsX2_bid wsX2_requireAmount := goodIn_ca (goodIn_r _ [25, 20, 21] (by decide +kernel) (by decide +kernel)) (goodIn_sub (fun _ h => List.mem_cons_of_mem _ (List.mem_append_right _ h)) (by decide +kernel))
set_option maxRecDepth 20000 in
theorem gX2_bid_X2_requireAmount : GoodIn wsX2_bid (va_wsS RX2 92 yX2_requireAmount wsX2_requireAmount) := goodIn_app (goodIn_of _ (by decide +kernel)) ggX2_bid_X2_requireAmount
set_option maxRecDepth 20000 in
theorem ggX2_bid_X2_putPrice : GoodIn wsX2_bid wsX2_putPrice := goodIn_r _ [29, 30, 31, 5, 32, 33, 34, 11, 35, 22, 36, 37, 38, 39, 102, 103, 104, 105, 106, 107, 108, 109, 110, 111, 112, 113, 114, 115] (by decide +kernel) (by decide +kernel)
set_option maxRecDepth 20000 in
theorem gX2_bid_X2_putPrice : GoodIn wsX2_bid (wsV RX2 77 RX2 yX2_putPrice wsX2_putPrice) := goodIn_app (goodIn_of _ (by decide +kernel)) ggX2_bid_X2_putPrice
set_option maxRecDepth 20000 in
theorem ggX2_bid_X2_settle : GoodIn wsX2_bid wsX2_settle := goodIn_r _ [43, 15, 44, 3, 45, 46, 47, 48, 49, 50, 51, 52, 53, 54, 55, 56, 57, 58, 59, 60, 61, 62, 63, 64, 65, 11, 66, 67, 68, 69, 70, 71, 72, 73, 74, 75, 76, 77, 78, 79, 80, 81, 82, 83, 84, 85, 86, 87, 88, 4, 5, 31, 89, 90, 91, 92, 93, 94, 95, 96, 97, 98, 99, 100, 101, 32, 33, 34, 35, 22, 36, 37, 38, 39, 116, 117, 118, 119, 102, 103, 104, 105, 106, 107, 108, 109, 110, 111, 112, 113, 114, 115, 120, 121] (by decide +kernel) (by decide +kernel)
set_option maxRecDepth 20000 in
theorem gX2_bid_X2_settle : GoodIn wsX2_bid (wsV RX2 52 RX2 yX2_settle wsX2_settle) := goodIn_app (goodIn_of _ (by decide +kernel)) ggX2_bid_X2_settle
theorem dX2_bid_0 : decode cX2_bid 0 = .ok (.aload_n 0, 1) := by decide +kernel
theorem dX2_bid_1 : decode cX2_bid 1 = .ok (.iload_n 1, 1) := by decide +kernel
theorem dX2_bid_2 : decode cX2_bid 2 = .ok (.invokevirtual 86, 3) := by decide +kernel
theorem dX2_bid_5 : decode cX2_bid 5 = .ok (.aload_n 0, 1) := by decide +kernel
theorem dX2_bid_6 : decode cX2_bid 6 = .ok (.iload_n 2, 1) := by decide +kernel
theorem dX2_bid_7 : decode cX2_bid 7 = .ok (.invokevirtual 89, 3) := by decide +kernel
theorem dX2_bid_10 : decode cX2_bid 10 = .ok (.iload_n 3, 1) := by decide +kernel
theorem dX2_bid_11 : decode cX2_bid 11 = .ok (.invokestatic 92, 3) := by decide +kernel
theorem dX2_bid_14 : decode cX2_bid 14 = .ok (.aload_n 0, 1) := by decide +kernel
theorem dX2_bid_15 : decode cX2_bid 15 = .ok (.getfield 74, 3) := by decide +kernel
theorem dX2_bid_18 : decode cX2_bid 18 = .ok (.bipush 12, 2) := by decide +kernel
theorem dX2_bid_20 : decode cX2_bid 20 = .ok (.if_icmp .lt 13, 3) := by decide +kernel
theorem dX2_bid_23 : decode cX2_bid 23 = .ok (.new 64, 3) := by decide +kernel
theorem dX2_bid_26 : decode cX2_bid 26 = .ok (.dup, 1) := by decide +kernel
theorem dX2_bid_27 : decode cX2_bid 27 = .ok (.ldc 95, 2) := by decide +kernel
theorem dX2_bid_29 : decode cX2_bid 29 = .ok (.invokespecial 68, 3) := by decide +kernel
theorem dX2_bid_32 : decode cX2_bid 32 = .ok (.athrow, 1) := by decide +kernel
theorem dX2_bid_33 : decode cX2_bid 33 = .ok (.aload_n 0, 1) := by decide +kernel
theorem dX2_bid_34 : decode cX2_bid 34 = .ok (.getfield 74, 3) := by decide +kernel
theorem dX2_bid_37 : decode cX2_bid 37 = .ok (.istore 4, 2) := by decide +kernel
theorem dX2_bid_39 : decode cX2_bid 39 = .ok (.aload_n 0, 1) := by decide +kernel
theorem dX2_bid_40 : decode cX2_bid 40 = .ok (.getfield 17, 3) := by decide +kernel
theorem dX2_bid_43 : decode cX2_bid 43 = .ok (.iload 4, 2) := by decide +kernel
theorem dX2_bid_45 : decode cX2_bid 45 = .ok (.iload_n 1, 1) := by decide +kernel
theorem dX2_bid_46 : decode cX2_bid 46 = .ok (.iastore, 1) := by decide +kernel
theorem dX2_bid_47 : decode cX2_bid 47 = .ok (.aload_n 0, 1) := by decide +kernel
theorem dX2_bid_48 : decode cX2_bid 48 = .ok (.getfield 20, 3) := by decide +kernel
theorem dX2_bid_51 : decode cX2_bid 51 = .ok (.iload 4, 2) := by decide +kernel
theorem dX2_bid_53 : decode cX2_bid 53 = .ok (.iload_n 2, 1) := by decide +kernel
theorem dX2_bid_54 : decode cX2_bid 54 = .ok (.iastore, 1) := by decide +kernel
theorem dX2_bid_55 : decode cX2_bid 55 = .ok (.aload_n 0, 1) := by decide +kernel
theorem dX2_bid_56 : decode cX2_bid 56 = .ok (.getfield 29, 3) := by decide +kernel
theorem dX2_bid_59 : decode cX2_bid 59 = .ok (.iload 4, 2) := by decide +kernel
theorem dX2_bid_61 : decode cX2_bid 61 = .ok (.iload_n 3, 1) := by decide +kernel
theorem dX2_bid_62 : decode cX2_bid 62 = .ok (.iastore, 1) := by decide +kernel
theorem dX2_bid_63 : decode cX2_bid 63 = .ok (.aload_n 0, 1) := by decide +kernel
theorem dX2_bid_64 : decode cX2_bid 64 = .ok (.iload 4, 2) := by decide +kernel
theorem dX2_bid_66 : decode cX2_bid 66 = .ok (.iload_n 3, 1) := by decide +kernel
theorem dX2_bid_67 : decode cX2_bid 67 = .ok (.invokevirtual 77, 3) := by decide +kernel
theorem dX2_bid_70 : decode cX2_bid 70 = .ok (.aload_n 0, 1) := by decide +kernel
theorem dX2_bid_71 : decode cX2_bid 71 = .ok (.dup, 1) := by decide +kernel
theorem dX2_bid_72 : decode cX2_bid 72 = .ok (.getfield 74, 3) := by decide +kernel
theorem dX2_bid_75 : decode cX2_bid 75 = .ok (.iconst 1, 1) := by decide +kernel
theorem dX2_bid_76 : decode cX2_bid 76 = .ok (.iadd, 1) := by decide +kernel
theorem dX2_bid_77 : decode cX2_bid 77 = .ok (.putfield 74, 3) := by decide +kernel
theorem dX2_bid_80 : decode cX2_bid 80 = .ok (.aload_n 0, 1) := by decide +kernel
theorem dX2_bid_81 : decode cX2_bid 81 = .ok (.aload_n 0, 1) := by decide +kernel
theorem dX2_bid_82 : decode cX2_bid 82 = .ok (.getfield 38, 3) := by decide +kernel
theorem dX2_bid_85 : decode cX2_bid 85 = .ok (.iconst 0, 1) := by decide +kernel
theorem dX2_bid_86 : decode cX2_bid 86 = .ok (.invokevirtual 52, 3) := by decide +kernel
theorem dX2_bid_89 : decode cX2_bid 89 = .ok (.iload 4, 2) := by decide +kernel
theorem dX2_bid_91 : decode cX2_bid 91 = .ok (.ireturn, 1) := by decide +kernel
set_option maxRecDepth 20000 in
theorem ggX2_setPrice_X2_requireBid : GoodIn wsX2_setPrice wsX2_requireBid := goodIn_ca (goodIn_r _ [7, 8, 9, 10, 95, 96, 97, 98, 99, 100, 101, 102, 103, 104, 105, 106, 107, 108] (by decide +kernel) (by decide +kernel)) (goodIn_sub (fun _ h => List.mem_cons_of_mem _ (List.mem_append_left _ (List.mem_append_right _ h))) (by decide +kernel))
set_option maxRecDepth 20000 in
theorem gX2_setPrice_X2_requireBid : GoodIn wsX2_setPrice (wsV RX2 97 RX2 yX2_requireBid wsX2_requireBid) := goodIn_app (goodIn_of _ (by decide +kernel)) ggX2_setPrice_X2_requireBid
set_option maxRecDepth 20000 in
theorem ggX2_setPrice_X2_requireAmount : GoodIn wsX2_setPrice wsX2_requireAmount := goodIn_ca (goodIn_r _ [13, 14, 15] (by decide +kernel) (by decide +kernel)) (goodIn_sub (fun _ h => List.mem_cons_of_mem _ (List.mem_append_right _ h)) (by decide +kernel))
set_option maxRecDepth 20000 in
theorem gX2_setPrice_X2_requireAmount : GoodIn wsX2_setPrice (va_wsS RX2 92 yX2_requireAmount wsX2_requireAmount) := goodIn_app (goodIn_of _ (by decide +kernel)) ggX2_setPrice_X2_requireAmount
set_option maxRecDepth 20000 in
theorem ggX2_setPrice_X2_putPrice : GoodIn wsX2_setPrice wsX2_putPrice := goodIn_r _ [19, 1, 20, 21, 22, 23, 24, 6, 25, 26, 27, 28, 29, 30, 95, 96, 97, 98, 99, 100, 101, 102, 103, 104, 105, 106, 107, 108] (by decide +kernel) (by decide +kernel)
set_option maxRecDepth 20000 in
theorem gX2_setPrice_X2_putPrice : GoodIn wsX2_setPrice (wsV RX2 77 RX2 yX2_putPrice wsX2_putPrice) := goodIn_app (goodIn_of _ (by decide +kernel)) ggX2_setPrice_X2_putPrice
set_option maxRecDepth 20000 in
theorem ggX2_setPrice_X2_settle : GoodIn wsX2_setPrice wsX2_settle := goodIn_r _ [34, 35, 36, 10, 37, 38, 39, 40, 41, 42, 43, 44, 45, 46, 47, 48, 49, 50, 51, 52, 53, 54, 55, 56, 57, 6, 58, 59, 60, 61, 62, 63, 64, 65, 66, 67, 68, 69, 70, 71, 72, 73, 74, 75, 76, 77, 78, 79, 80, 81, 21, 20, 82, 83, 84, 85, 86, 87, 88, 89, 90, 91, 92, 93, 94, 22, 23, 24, 25, 26, 27, 28, 29, 30, 109, 110, 111, 112, 95, 96, 97, 98, 99, 100, 101, 102, 103, 104, 105, 106, 107, 108, 113, 114] (by decide +kernel) (by decide +kernel)
set_option maxRecDepth 20000 in
theorem gX2_setPrice_X2_settle : GoodIn wsX2_setPrice (wsV RX2 52 RX2 yX2_settle wsX2_settle) := goodIn_app (goodIn_of _ (by decide +kernel)) ggX2_setPrice_X2_settle
theorem dX2_setPrice_0 : decode cX2_setPrice 0 = .ok (.aload_n 0, 1) := by decide +kernel
theorem dX2_setPrice_1 : decode cX2_setPrice 1 = .ok (.iload_n 1, 1) := by decide +kernel
theorem dX2_setPrice_2 : decode cX2_setPrice 2 = .ok (.invokevirtual 97, 3) := by decide +kernel
theorem dX2_setPrice_5 : decode cX2_setPrice 5 = .ok (.iload_n 2, 1) := by decide +kernel
theorem dX2_setPrice_6 : decode cX2_setPrice 6 = .ok (.invokestatic 92, 3) := by decide +kernel
theorem dX2_setPrice_9 : decode cX2_setPrice 9 = .ok (.aload_n 0, 1) := by decide +kernel
theorem dX2_setPrice_10 : decode cX2_setPrice 10 = .ok (.getfield 23, 3) := by decide +kernel
theorem dX2_setPrice_13 : decode cX2_setPrice 13 = .ok (.iload_n 1, 1) := by decide +kernel
theorem dX2_setPrice_14 : decode cX2_setPrice 14 = .ok (.iaload, 1) := by decide +kernel
theorem dX2_setPrice_15 : decode cX2_setPrice 15 = .ok (.istore_n 3, 1) := by decide +kernel
theorem dX2_setPrice_16 : decode cX2_setPrice 16 = .ok (.aload_n 0, 1) := by decide +kernel
theorem dX2_setPrice_17 : decode cX2_setPrice 17 = .ok (.iload_n 1, 1) := by decide +kernel
theorem dX2_setPrice_18 : decode cX2_setPrice 18 = .ok (.iload_n 2, 1) := by decide +kernel
theorem dX2_setPrice_19 : decode cX2_setPrice 19 = .ok (.invokevirtual 77, 3) := by decide +kernel
theorem dX2_setPrice_22 : decode cX2_setPrice 22 = .ok (.aload_n 0, 1) := by decide +kernel
theorem dX2_setPrice_23 : decode cX2_setPrice 23 = .ok (.aload_n 0, 1) := by decide +kernel
theorem dX2_setPrice_24 : decode cX2_setPrice 24 = .ok (.getfield 38, 3) := by decide +kernel
theorem dX2_setPrice_27 : decode cX2_setPrice 27 = .ok (.iconst 0, 1) := by decide +kernel
theorem dX2_setPrice_28 : decode cX2_setPrice 28 = .ok (.invokevirtual 52, 3) := by decide +kernel
theorem dX2_setPrice_31 : decode cX2_setPrice 31 = .ok (.iload_n 3, 1) := by decide +kernel
theorem dX2_setPrice_32 : decode cX2_setPrice 32 = .ok (.ireturn, 1) := by decide +kernel
set_option maxRecDepth 20000 in
theorem ggX2_setWorth_X2_requireBid : GoodIn wsX2_setWorth wsX2_requireBid := goodIn_ca (goodIn_r _ [6, 7, 8, 9, 15, 16, 17, 18, 19, 20, 21, 22, 23, 24, 25, 26, 27, 28] (by decide +kernel) (by decide +kernel)) (goodIn_sub (fun _ h => List.mem_cons_of_mem _ (List.mem_append_left _ (List.mem_append_right _ h))) (by decide +kernel))
set_option maxRecDepth 20000 in
theorem gX2_setWorth_X2_requireBid : GoodIn wsX2_setWorth (wsV RX2 97 RX2 yX2_requireBid wsX2_requireBid) := goodIn_app (goodIn_of _ (by decide +kernel)) ggX2_setWorth_X2_requireBid
set_option maxRecDepth 20000 in
theorem ggX2_setWorth_X2_requireAmount : GoodIn wsX2_setWorth wsX2_requireAmount := goodIn_ca (goodIn_r _ [12, 13, 14] (by decide +kernel) (by decide +kernel)) (goodIn_sub (fun _ h => List.mem_cons_of_mem _ (List.mem_append_right _ h)) (by decide +kernel))
set_option maxRecDepth 20000 in
theorem gX2_setWorth_X2_requireAmount : GoodIn wsX2_setWorth (va_wsS RX2 92 yX2_requireAmount wsX2_requireAmount) := goodIn_app (goodIn_of _ (by decide +kernel)) ggX2_setWorth_X2_requireAmount
theorem dX2_setWorth_0 : decode cX2_setWorth 0 = .ok (.aload_n 0, 1) := by decide +kernel
theorem dX2_setWorth_1 : decode cX2_setWorth 1 = .ok (.iload_n 1, 1) := by decide +kernel
theorem dX2_setWorth_2 : decode cX2_setWorth 2 = .ok (.invokevirtual 97, 3) := by decide +kernel
theorem dX2_setWorth_5 : decode cX2_setWorth 5 = .ok (.iload_n 2, 1) := by decide +kernel
theorem dX2_setWorth_6 : decode cX2_setWorth 6 = .ok (.invokestatic 92, 3) := by decide +kernel
theorem dX2_setWorth_9 : decode cX2_setWorth 9 = .ok (.aload_n 0, 1) := by decide +kernel
theorem dX2_setWorth_10 : decode cX2_setWorth 10 = .ok (.getfield 29, 3) := by decide +kernel
theorem dX2_setWorth_13 : decode cX2_setWorth 13 = .ok (.iload_n 1, 1) := by decide +kernel
theorem dX2_setWorth_14 : decode cX2_setWorth 14 = .ok (.iaload, 1) := by decide +kernel
theorem dX2_setWorth_15 : decode cX2_setWorth 15 = .ok (.istore_n 3, 1) := by decide +kernel
theorem dX2_setWorth_16 : decode cX2_setWorth 16 = .ok (.aload_n 0, 1) := by decide +kernel
theorem dX2_setWorth_17 : decode cX2_setWorth 17 = .ok (.getfield 29, 3) := by decide +kernel
theorem dX2_setWorth_20 : decode cX2_setWorth 20 = .ok (.iload_n 1, 1) := by decide +kernel
theorem dX2_setWorth_21 : decode cX2_setWorth 21 = .ok (.iload_n 2, 1) := by decide +kernel
theorem dX2_setWorth_22 : decode cX2_setWorth 22 = .ok (.iastore, 1) := by decide +kernel
theorem dX2_setWorth_23 : decode cX2_setWorth 23 = .ok (.iload_n 3, 1) := by decide +kernel
theorem dX2_setWorth_24 : decode cX2_setWorth 24 = .ok (.ireturn, 1) := by decide +kernel
set_option maxRecDepth 20000 in
theorem ggX2_withdraw_X2_requireBid : GoodIn wsX2_withdraw wsX2_requireBid := goodIn_ca (goodIn_r _ [9, 10, 11, 12, 95, 96, 97, 98, 99, 100, 101, 102, 103, 104, 105, 106, 107, 108] (by decide +kernel) (by decide +kernel)) (goodIn_sub (fun _ h => List.mem_cons_of_mem _ (List.mem_append_right _ h)) (by decide +kernel))
set_option maxRecDepth 20000 in
theorem gX2_withdraw_X2_requireBid : GoodIn wsX2_withdraw (wsV RX2 97 RX2 yX2_requireBid wsX2_requireBid) := goodIn_app (goodIn_of _ (by decide +kernel)) ggX2_withdraw_X2_requireBid
set_option maxRecDepth 20000 in
theorem ggX2_withdraw_X2_settle : GoodIn wsX2_withdraw wsX2_settle := goodIn_r _ [16, 17, 18, 12, 19, 20, 21, 22, 23, 24, 25, 26, 27, 28, 29, 30, 31, 32, 33, 34, 35, 36, 37, 38, 39, 8, 40, 41, 42, 43, 44, 45, 46, 47, 48, 49, 50, 51, 52, 53, 54, 55, 56, 57, 58, 59, 60, 61, 62, 63, 64, 65, 66, 67, 68, 69, 3, 70, 71, 72, 73, 74, 75, 76, 77, 78, 79, 80, 81, 82, 83, 84, 85, 86, 109, 110, 111, 112, 95, 96, 97, 98, 99, 100, 101, 102, 103, 104, 105, 106, 107, 108, 113, 114] (by decide +kernel) (by decide +kernel)
set_option maxRecDepth 20000 in
theorem gX2_withdraw_X2_settle : GoodIn wsX2_withdraw (wsV RX2 52 RX2 yX2_settle wsX2_settle) := goodIn_app (goodIn_of _ (by decide +kernel)) ggX2_withdraw_X2_settle
set_option maxRecDepth 20000 in
theorem ggX2_withdraw_X2_bidsLeft : GoodIn wsX2_withdraw wsX2_bidsLeft := goodIn_r _ [90, 17, 91, 92, 93, 8, 94, 12, 63, 3, 95, 96, 97, 98, 99, 100, 101, 102, 103, 104, 105, 106, 107, 108] (by decide +kernel) (by decide +kernel)
set_option maxRecDepth 20000 in
theorem gX2_withdraw_X2_bidsLeft : GoodIn wsX2_withdraw (wsV RX2 102 RX2 yX2_bidsLeft wsX2_bidsLeft) := goodIn_app (goodIn_of _ (by decide +kernel)) ggX2_withdraw_X2_bidsLeft
theorem dX2_withdraw_0 : decode cX2_withdraw 0 = .ok (.aload_n 0, 1) := by decide +kernel
theorem dX2_withdraw_1 : decode cX2_withdraw 1 = .ok (.iload_n 1, 1) := by decide +kernel
theorem dX2_withdraw_2 : decode cX2_withdraw 2 = .ok (.invokevirtual 97, 3) := by decide +kernel
theorem dX2_withdraw_5 : decode cX2_withdraw 5 = .ok (.aload_n 0, 1) := by decide +kernel
theorem dX2_withdraw_6 : decode cX2_withdraw 6 = .ok (.getfield 32, 3) := by decide +kernel
theorem dX2_withdraw_9 : decode cX2_withdraw 9 = .ok (.iload_n 1, 1) := by decide +kernel
theorem dX2_withdraw_10 : decode cX2_withdraw 10 = .ok (.baload, 1) := by decide +kernel
theorem dX2_withdraw_11 : decode cX2_withdraw 11 = .ok (.ifCond .eq 13, 3) := by decide +kernel
theorem dX2_withdraw_14 : decode cX2_withdraw 14 = .ok (.new 64, 3) := by decide +kernel
theorem dX2_withdraw_17 : decode cX2_withdraw 17 = .ok (.dup, 1) := by decide +kernel
theorem dX2_withdraw_18 : decode cX2_withdraw 18 = .ok (.ldc 100, 2) := by decide +kernel
theorem dX2_withdraw_20 : decode cX2_withdraw 20 = .ok (.invokespecial 68, 3) := by decide +kernel
theorem dX2_withdraw_23 : decode cX2_withdraw 23 = .ok (.athrow, 1) := by decide +kernel
theorem dX2_withdraw_24 : decode cX2_withdraw 24 = .ok (.aload_n 0, 1) := by decide +kernel
theorem dX2_withdraw_25 : decode cX2_withdraw 25 = .ok (.getfield 32, 3) := by decide +kernel
theorem dX2_withdraw_28 : decode cX2_withdraw 28 = .ok (.iload_n 1, 1) := by decide +kernel
theorem dX2_withdraw_29 : decode cX2_withdraw 29 = .ok (.iconst 1, 1) := by decide +kernel
theorem dX2_withdraw_30 : decode cX2_withdraw 30 = .ok (.bastore, 1) := by decide +kernel
theorem dX2_withdraw_31 : decode cX2_withdraw 31 = .ok (.aload_n 0, 1) := by decide +kernel
theorem dX2_withdraw_32 : decode cX2_withdraw 32 = .ok (.aload_n 0, 1) := by decide +kernel
theorem dX2_withdraw_33 : decode cX2_withdraw 33 = .ok (.getfield 38, 3) := by decide +kernel
theorem dX2_withdraw_36 : decode cX2_withdraw 36 = .ok (.iconst 0, 1) := by decide +kernel
theorem dX2_withdraw_37 : decode cX2_withdraw 37 = .ok (.invokevirtual 52, 3) := by decide +kernel
theorem dX2_withdraw_40 : decode cX2_withdraw 40 = .ok (.aload_n 0, 1) := by decide +kernel
theorem dX2_withdraw_41 : decode cX2_withdraw 41 = .ok (.invokevirtual 102, 3) := by decide +kernel
theorem dX2_withdraw_44 : decode cX2_withdraw 44 = .ok (.ireturn, 1) := by decide +kernel
set_option maxRecDepth 20000 in
theorem ggX2_told_X2_requireBid : GoodIn wsX2_told wsX2_requireBid := goodIn_ca (goodIn_r _ [12, 13, 14, 15, 32, 33, 34, 35, 36, 37, 38, 39, 40, 41, 42, 43, 44, 45] (by decide +kernel) (by decide +kernel)) (goodIn_sub (fun _ h => List.mem_cons_of_mem _ (List.mem_append_right _ h)) (by decide +kernel))
set_option maxRecDepth 20000 in
theorem gX2_told_X2_requireBid : GoodIn wsX2_told (wsV RX2 97 RX2 yX2_requireBid wsX2_requireBid) := goodIn_app (goodIn_of _ (by decide +kernel)) ggX2_told_X2_requireBid
set_option maxRecDepth 20000 in
theorem ggX2_told_X2_requireWhat : GoodIn wsX2_told wsX2_requireWhat := goodIn_ca (goodIn_r _ [18, 13, 14] (by decide +kernel) (by decide +kernel)) (goodIn_sub (fun _ h => List.mem_cons_of_mem _ (List.mem_append_right _ h)) (by decide +kernel))
set_option maxRecDepth 20000 in
theorem gX2_told_X2_requireWhat : GoodIn wsX2_told (va_wsS RX2 106 yX2_requireWhat wsX2_requireWhat) := goodIn_app (goodIn_of _ (by decide +kernel)) ggX2_told_X2_requireWhat
set_option maxRecDepth 20000 in
theorem ggX2_told_X2_asNumber : GoodIn wsX2_told wsX2_asNumber := goodIn_r _ [21] (by decide +kernel) (by decide +kernel)
set_option maxRecDepth 20000 in
theorem gX2_told_X2_asNumber : GoodIn wsX2_told (va_wsS RX2 109 yX2_asNumber wsX2_asNumber) := goodIn_app (goodIn_of _ (by decide +kernel)) ggX2_told_X2_asNumber
set_option maxRecDepth 20000 in
theorem ggX2_told_X2_counts : GoodIn wsX2_told wsX2_counts := goodIn_r _ [25, 5, 26, 1, 6, 32, 33, 34, 35, 36, 37, 38, 39, 40, 41, 42, 43, 44, 45] (by decide +kernel) (by decide +kernel)
set_option maxRecDepth 20000 in
theorem gX2_told_X2_counts : GoodIn wsX2_told (wsV RX2 113 RX2 yX2_counts wsX2_counts) := goodIn_app (goodIn_of _ (by decide +kernel)) ggX2_told_X2_counts
set_option maxRecDepth 20000 in
theorem ggX2_told_X0_has : GoodIn wsX2_told wsX0_has := goodIn_r _ [30, 31, 50, 51] (by decide +kernel) (by decide +kernel)
set_option maxRecDepth 20000 in
theorem gX2_told_X0_has_n120 : GoodIn wsX2_told (wsX0_has) := ggX2_told_X0_has
theorem dX2_told_0 : decode cX2_told 0 = .ok (.aload_n 0, 1) := by decide +kernel
theorem dX2_told_1 : decode cX2_told 1 = .ok (.iload_n 1, 1) := by decide +kernel
theorem dX2_told_2 : decode cX2_told 2 = .ok (.invokevirtual 97, 3) := by decide +kernel
theorem dX2_told_5 : decode cX2_told 5 = .ok (.iload_n 2, 1) := by decide +kernel
theorem dX2_told_6 : decode cX2_told 6 = .ok (.bipush 7, 2) := by decide +kernel
theorem dX2_told_8 : decode cX2_told 8 = .ok (.invokestatic 106, 3) := by decide +kernel
theorem dX2_told_11 : decode cX2_told 11 = .ok (.iload_n 2, 1) := by decide +kernel
theorem dX2_told_12 : decode cX2_told 12 = .ok (.tableswitch 98 0 6 #[44, 51, 58, 65, 72, 82, 89], 44) := by decide +kernel
theorem dX2_told_56 : decode cX2_told 56 = .ok (.aload_n 0, 1) := by decide +kernel
theorem dX2_told_57 : decode cX2_told 57 = .ok (.getfield 17, 3) := by decide +kernel
theorem dX2_told_60 : decode cX2_told 60 = .ok (.iload_n 1, 1) := by decide +kernel
theorem dX2_told_61 : decode cX2_told 61 = .ok (.iaload, 1) := by decide +kernel
theorem dX2_told_62 : decode cX2_told 62 = .ok (.ireturn, 1) := by decide +kernel
theorem dX2_told_63 : decode cX2_told 63 = .ok (.aload_n 0, 1) := by decide +kernel
theorem dX2_told_64 : decode cX2_told 64 = .ok (.getfield 20, 3) := by decide +kernel
theorem dX2_told_67 : decode cX2_told 67 = .ok (.iload_n 1, 1) := by decide +kernel
theorem dX2_told_68 : decode cX2_told 68 = .ok (.iaload, 1) := by decide +kernel
theorem dX2_told_69 : decode cX2_told 69 = .ok (.ireturn, 1) := by decide +kernel
theorem dX2_told_70 : decode cX2_told 70 = .ok (.aload_n 0, 1) := by decide +kernel
theorem dX2_told_71 : decode cX2_told 71 = .ok (.getfield 23, 3) := by decide +kernel
theorem dX2_told_74 : decode cX2_told 74 = .ok (.iload_n 1, 1) := by decide +kernel
theorem dX2_told_75 : decode cX2_told 75 = .ok (.iaload, 1) := by decide +kernel
theorem dX2_told_76 : decode cX2_told 76 = .ok (.ireturn, 1) := by decide +kernel
theorem dX2_told_77 : decode cX2_told 77 = .ok (.aload_n 0, 1) := by decide +kernel
theorem dX2_told_78 : decode cX2_told 78 = .ok (.getfield 29, 3) := by decide +kernel
theorem dX2_told_81 : decode cX2_told 81 = .ok (.iload_n 1, 1) := by decide +kernel
theorem dX2_told_82 : decode cX2_told 82 = .ok (.iaload, 1) := by decide +kernel
theorem dX2_told_83 : decode cX2_told 83 = .ok (.ireturn, 1) := by decide +kernel
theorem dX2_told_84 : decode cX2_told 84 = .ok (.aload_n 0, 1) := by decide +kernel
theorem dX2_told_85 : decode cX2_told 85 = .ok (.getfield 32, 3) := by decide +kernel
theorem dX2_told_88 : decode cX2_told 88 = .ok (.iload_n 1, 1) := by decide +kernel
theorem dX2_told_89 : decode cX2_told 89 = .ok (.baload, 1) := by decide +kernel
theorem dX2_told_90 : decode cX2_told 90 = .ok (.invokestatic 109, 3) := by decide +kernel
theorem dX2_told_93 : decode cX2_told 93 = .ok (.ireturn, 1) := by decide +kernel
theorem dX2_told_94 : decode cX2_told 94 = .ok (.aload_n 0, 1) := by decide +kernel
theorem dX2_told_95 : decode cX2_told 95 = .ok (.getfield 26, 3) := by decide +kernel
theorem dX2_told_98 : decode cX2_told 98 = .ok (.iload_n 1, 1) := by decide +kernel
theorem dX2_told_99 : decode cX2_told 99 = .ok (.iaload, 1) := by decide +kernel
theorem dX2_told_100 : decode cX2_told 100 = .ok (.ireturn, 1) := by decide +kernel
theorem dX2_told_101 : decode cX2_told 101 = .ok (.aload_n 0, 1) := by decide +kernel
theorem dX2_told_102 : decode cX2_told 102 = .ok (.iload_n 1, 1) := by decide +kernel
theorem dX2_told_103 : decode cX2_told 103 = .ok (.invokevirtual 113, 3) := by decide +kernel
theorem dX2_told_106 : decode cX2_told 106 = .ok (.invokestatic 109, 3) := by decide +kernel
theorem dX2_told_109 : decode cX2_told 109 = .ok (.ireturn, 1) := by decide +kernel
theorem dX2_told_110 : decode cX2_told 110 = .ok (.aload_n 0, 1) := by decide +kernel
theorem dX2_told_111 : decode cX2_told 111 = .ok (.getfield 38, 3) := by decide +kernel
theorem dX2_told_114 : decode cX2_told 114 = .ok (.getfield 117, 3) := by decide +kernel
theorem dX2_told_117 : decode cX2_told 117 = .ok (.iload_n 1, 1) := by decide +kernel
theorem dX2_told_118 : decode cX2_told 118 = .ok (.invokevirtual 120, 3) := by decide +kernel
theorem dX2_told_121 : decode cX2_told 121 = .ok (.invokestatic 109, 3) := by decide +kernel
theorem dX2_told_124 : decode cX2_told 124 = .ok (.ireturn, 1) := by decide +kernel
set_option maxRecDepth 20000 in
theorem ggX2_about_X2_requireBidder : GoodIn wsX2_about wsX2_requireBidder := goodIn_ca (goodIn_r _ [7, 8, 9, 10, 29, 30, 31, 32, 33, 34, 35, 36, 37, 38, 39, 40, 41, 42] (by decide +kernel) (by decide +kernel)) (goodIn_sub (fun _ h => List.mem_cons_of_mem _ (List.mem_append_right _ h)) (by decide +kernel))
set_option maxRecDepth 20000 in
theorem gX2_about_X2_requireBidder : GoodIn wsX2_about (wsV RX2 86 RX2 yX2_requireBidder wsX2_requireBidder) := goodIn_app (goodIn_of _ (by decide +kernel)) ggX2_about_X2_requireBidder
set_option maxRecDepth 20000 in
theorem ggX2_about_X2_requireWhat : GoodIn wsX2_about wsX2_requireWhat := goodIn_ca (goodIn_r _ [13, 8, 9] (by decide +kernel) (by decide +kernel)) (goodIn_sub (fun _ h => List.mem_cons_of_mem _ (List.mem_append_right _ h)) (by decide +kernel))
set_option maxRecDepth 20000 in
theorem gX2_about_X2_requireWhat : GoodIn wsX2_about (va_wsS RX2 106 yX2_requireWhat wsX2_requireWhat) := goodIn_app (goodIn_of _ (by decide +kernel)) ggX2_about_X2_requireWhat
set_option maxRecDepth 20000 in
theorem ggX2_about_X2_asNumber : GoodIn wsX2_about wsX2_asNumber := goodIn_r _ [16] (by decide +kernel) (by decide +kernel)
set_option maxRecDepth 20000 in
theorem gX2_about_X2_asNumber : GoodIn wsX2_about (va_wsS RX2 109 yX2_asNumber wsX2_asNumber) := goodIn_app (goodIn_of _ (by decide +kernel)) ggX2_about_X2_asNumber
set_option maxRecDepth 20000 in
theorem ggX2_about_X2_bidsLeftOf : GoodIn wsX2_about wsX2_bidsLeftOf := goodIn_r _ [20, 21, 22, 23, 29, 30, 31, 32, 33, 34, 35, 36, 37, 38, 39, 40, 41, 42] (by decide +kernel) (by decide +kernel)
set_option maxRecDepth 20000 in
theorem gX2_about_X2_bidsLeftOf : GoodIn wsX2_about (wsV RX2 123 RX2 yX2_bidsLeftOf wsX2_bidsLeftOf) := goodIn_app (goodIn_of _ (by decide +kernel)) ggX2_about_X2_bidsLeftOf
set_option maxRecDepth 20000 in
theorem ggX2_about_X2_profit : GoodIn wsX2_about wsX2_profit := goodIn_r _ [27, 28, 43, 44, 45, 46, 29, 30, 31, 32, 33, 34, 35, 36, 37, 38, 39, 40, 41, 42] (by decide +kernel) (by decide +kernel)
set_option maxRecDepth 20000 in
theorem gX2_about_X2_profit : GoodIn wsX2_about (wsV RX2 133 RX2 yX2_profit wsX2_profit) := goodIn_app (goodIn_of _ (by decide +kernel)) ggX2_about_X2_profit
theorem dX2_about_0 : decode cX2_about 0 = .ok (.aload_n 0, 1) := by decide +kernel
theorem dX2_about_1 : decode cX2_about 1 = .ok (.iload_n 1, 1) := by decide +kernel
theorem dX2_about_2 : decode cX2_about 2 = .ok (.invokevirtual 86, 3) := by decide +kernel
theorem dX2_about_5 : decode cX2_about 5 = .ok (.iload_n 2, 1) := by decide +kernel
theorem dX2_about_6 : decode cX2_about 6 = .ok (.iconst 5, 1) := by decide +kernel
theorem dX2_about_7 : decode cX2_about 7 = .ok (.invokestatic 106, 3) := by decide +kernel
theorem dX2_about_10 : decode cX2_about 10 = .ok (.iload_n 2, 1) := by decide +kernel
theorem dX2_about_11 : decode cX2_about 11 = .ok (.tableswitch 79 0 4 #[33, 43, 49, 59, 69], 33) := by decide +kernel
theorem dX2_about_44 : decode cX2_about 44 = .ok (.aload_n 0, 1) := by decide +kernel
theorem dX2_about_45 : decode cX2_about 45 = .ok (.getfield 13, 3) := by decide +kernel
theorem dX2_about_48 : decode cX2_about 48 = .ok (.iload_n 1, 1) := by decide +kernel
theorem dX2_about_49 : decode cX2_about 49 = .ok (.baload, 1) := by decide +kernel
theorem dX2_about_50 : decode cX2_about 50 = .ok (.invokestatic 109, 3) := by decide +kernel
theorem dX2_about_53 : decode cX2_about 53 = .ok (.ireturn, 1) := by decide +kernel
theorem dX2_about_54 : decode cX2_about 54 = .ok (.aload_n 0, 1) := by decide +kernel
theorem dX2_about_55 : decode cX2_about 55 = .ok (.iload_n 1, 1) := by decide +kernel
theorem dX2_about_56 : decode cX2_about 56 = .ok (.invokevirtual 123, 3) := by decide +kernel
theorem dX2_about_59 : decode cX2_about 59 = .ok (.ireturn, 1) := by decide +kernel
theorem dX2_about_60 : decode cX2_about 60 = .ok (.aload_n 0, 1) := by decide +kernel
theorem dX2_about_61 : decode cX2_about 61 = .ok (.getfield 38, 3) := by decide +kernel
theorem dX2_about_64 : decode cX2_about 64 = .ok (.getfield 127, 3) := by decide +kernel
theorem dX2_about_67 : decode cX2_about 67 = .ok (.iload_n 1, 1) := by decide +kernel
theorem dX2_about_68 : decode cX2_about 68 = .ok (.iaload, 1) := by decide +kernel
theorem dX2_about_69 : decode cX2_about 69 = .ok (.ireturn, 1) := by decide +kernel
theorem dX2_about_70 : decode cX2_about 70 = .ok (.aload_n 0, 1) := by decide +kernel
theorem dX2_about_71 : decode cX2_about 71 = .ok (.getfield 38, 3) := by decide +kernel
theorem dX2_about_74 : decode cX2_about 74 = .ok (.getfield 130, 3) := by decide +kernel
theorem dX2_about_77 : decode cX2_about 77 = .ok (.iload_n 1, 1) := by decide +kernel
theorem dX2_about_78 : decode cX2_about 78 = .ok (.iaload, 1) := by decide +kernel
theorem dX2_about_79 : decode cX2_about 79 = .ok (.ireturn, 1) := by decide +kernel
theorem dX2_about_80 : decode cX2_about 80 = .ok (.aload_n 0, 1) := by decide +kernel
theorem dX2_about_81 : decode cX2_about 81 = .ok (.aload_n 0, 1) := by decide +kernel
theorem dX2_about_82 : decode cX2_about 82 = .ok (.getfield 38, 3) := by decide +kernel
theorem dX2_about_85 : decode cX2_about 85 = .ok (.iload_n 1, 1) := by decide +kernel
theorem dX2_about_86 : decode cX2_about 86 = .ok (.invokevirtual 133, 3) := by decide +kernel
theorem dX2_about_89 : decode cX2_about 89 = .ok (.ireturn, 1) := by decide +kernel
theorem dX2_about_90 : decode cX2_about 90 = .ok (.aload_n 0, 1) := by decide +kernel
theorem dX2_about_91 : decode cX2_about 91 = .ok (.getfield 38, 3) := by decide +kernel
theorem dX2_about_94 : decode cX2_about 94 = .ok (.getfield 137, 3) := by decide +kernel
theorem dX2_about_97 : decode cX2_about 97 = .ok (.iload_n 1, 1) := by decide +kernel
theorem dX2_about_98 : decode cX2_about 98 = .ok (.iaload, 1) := by decide +kernel
theorem dX2_about_99 : decode cX2_about 99 = .ok (.ireturn, 1) := by decide +kernel
set_option maxRecDepth 20000 in
theorem ggX2_land_X2_requireField : GoodIn wsX2_land wsX2_requireField := goodIn_ca (goodIn_r _ [6, 7, 8, 9, 44, 45, 46, 47, 48, 49, 50, 51, 52, 53, 54, 55, 56, 57] (by decide +kernel) (by decide +kernel)) (goodIn_sub (fun _ h => List.mem_cons_of_mem _ (List.mem_append_right _ h)) (by decide +kernel))
set_option maxRecDepth 20000 in
theorem gX2_land_X2_requireField : GoodIn wsX2_land (wsV RX2 71 RX2 yX2_requireField wsX2_requireField) := goodIn_app (goodIn_of _ (by decide +kernel)) ggX2_land_X2_requireField
set_option maxRecDepth 20000 in
theorem ggX2_land_X2_requireWhat : GoodIn wsX2_land wsX2_requireWhat := goodIn_ca (goodIn_r _ [12, 7, 8] (by decide +kernel) (by decide +kernel)) (goodIn_sub (fun _ h => List.mem_cons_of_mem _ (List.mem_append_right _ h)) (by decide +kernel))
set_option maxRecDepth 20000 in
theorem gX2_land_X2_requireWhat : GoodIn wsX2_land (va_wsS RX2 106 yX2_requireWhat wsX2_requireWhat) := goodIn_app (goodIn_of _ (by decide +kernel)) ggX2_land_X2_requireWhat
set_option maxRecDepth 20000 in
theorem ggX2_land_X2_winnerOfField : GoodIn wsX2_land wsX2_winnerOfField := goodIn_r _ [16, 17, 18, 19, 20, 21, 22, 23, 24, 25, 26, 5, 27, 44, 45, 46, 47, 48, 49, 50, 51, 52, 53, 54, 55, 56, 57, 58, 59, 60, 61, 62, 63] (by decide +kernel) (by decide +kernel)
set_option maxRecDepth 20000 in
theorem gX2_land_X2_winnerOfField : GoodIn wsX2_land (wsV RX2 140 RX2 yX2_winnerOfField wsX2_winnerOfField) := goodIn_app (goodIn_of _ (by decide +kernel)) ggX2_land_X2_winnerOfField
set_option maxRecDepth 20000 in
theorem ggX2_land_X2_ownerOf : GoodIn wsX2_land wsX2_ownerOf := goodIn_r _ [31, 32, 44, 45, 46, 47, 48, 49, 50, 51, 52, 53, 54, 55, 56, 57] (by decide +kernel) (by decide +kernel)
set_option maxRecDepth 20000 in
theorem gX2_land_X2_ownerOf : GoodIn wsX2_land (wsV RX2 143 RX2 yX2_ownerOf wsX2_ownerOf) := goodIn_app (goodIn_of _ (by decide +kernel)) ggX2_land_X2_ownerOf
set_option maxRecDepth 20000 in
theorem ggX2_land_X2_countingBidsWith : GoodIn wsX2_land wsX2_countingBidsWith := goodIn_r _ [36, 17, 19, 37, 38, 39, 5, 40, 41, 42, 32, 43, 25, 26, 27, 44, 45, 46, 47, 48, 49, 50, 51, 52, 53, 54, 55, 56, 57] (by decide +kernel) (by decide +kernel)
set_option maxRecDepth 20000 in
theorem gX2_land_X2_countingBidsWith : GoodIn wsX2_land (wsV RX2 146 RX2 yX2_countingBidsWith wsX2_countingBidsWith) := goodIn_app (goodIn_of _ (by decide +kernel)) ggX2_land_X2_countingBidsWith
theorem dX2_land_0 : decode cX2_land 0 = .ok (.aload_n 0, 1) := by decide +kernel
theorem dX2_land_1 : decode cX2_land 1 = .ok (.iload_n 1, 1) := by decide +kernel
theorem dX2_land_2 : decode cX2_land 2 = .ok (.invokevirtual 71, 3) := by decide +kernel
theorem dX2_land_5 : decode cX2_land 5 = .ok (.iload_n 2, 1) := by decide +kernel
theorem dX2_land_6 : decode cX2_land 6 = .ok (.iconst 2, 1) := by decide +kernel
theorem dX2_land_7 : decode cX2_land 7 = .ok (.invokestatic 106, 3) := by decide +kernel
theorem dX2_land_10 : decode cX2_land 10 = .ok (.iload_n 2, 1) := by decide +kernel
theorem dX2_land_11 : decode cX2_land 11 = .ok (.lookupswitch 42 #[(0, 25), (1, 32)], 25) := by decide +kernel
theorem dX2_land_36 : decode cX2_land 36 = .ok (.aload_n 0, 1) := by decide +kernel
theorem dX2_land_37 : decode cX2_land 37 = .ok (.getfield 9, 3) := by decide +kernel
theorem dX2_land_40 : decode cX2_land 40 = .ok (.iload_n 1, 1) := by decide +kernel
theorem dX2_land_41 : decode cX2_land 41 = .ok (.iaload, 1) := by decide +kernel
theorem dX2_land_42 : decode cX2_land 42 = .ok (.ireturn, 1) := by decide +kernel
theorem dX2_land_43 : decode cX2_land 43 = .ok (.aload_n 0, 1) := by decide +kernel
theorem dX2_land_44 : decode cX2_land 44 = .ok (.aload_n 0, 1) := by decide +kernel
theorem dX2_land_45 : decode cX2_land 45 = .ok (.iload_n 1, 1) := by decide +kernel
theorem dX2_land_46 : decode cX2_land 46 = .ok (.invokevirtual 140, 3) := by decide +kernel
theorem dX2_land_49 : decode cX2_land 49 = .ok (.invokevirtual 143, 3) := by decide +kernel
theorem dX2_land_52 : decode cX2_land 52 = .ok (.ireturn, 1) := by decide +kernel
theorem dX2_land_53 : decode cX2_land 53 = .ok (.aload_n 0, 1) := by decide +kernel
theorem dX2_land_54 : decode cX2_land 54 = .ok (.iload_n 1, 1) := by decide +kernel
theorem dX2_land_55 : decode cX2_land 55 = .ok (.invokevirtual 146, 3) := by decide +kernel
theorem dX2_land_58 : decode cX2_land 58 = .ok (.ireturn, 1) := by decide +kernel
set_option maxRecDepth 20000 in
theorem ggX2_count_X2_requireWhat : GoodIn wsX2_count wsX2_requireWhat := goodIn_ca (goodIn_r _ [8, 9, 10] (by decide +kernel) (by decide +kernel)) (goodIn_sub (fun _ h => List.mem_cons_of_mem _ (List.mem_append_right _ h)) (by decide +kernel))
set_option maxRecDepth 20000 in
theorem gX2_count_X2_requireWhat : GoodIn wsX2_count (va_wsS RX2 106 yX2_requireWhat wsX2_requireWhat) := goodIn_app (goodIn_of _ (by decide +kernel)) ggX2_count_X2_requireWhat
set_option maxRecDepth 20000 in
theorem ggX2_count_J6_bitCount_0f7a4 : GoodIn wsX2_count wsJ6_bitCount_0f7a4 := goodIn_r _ [14, 15, 16, 17] (by decide +kernel) (by decide +kernel)
set_option maxRecDepth 20000 in
theorem gX2_count_J6_bitCount_0f7a4 : GoodIn wsX2_count (va_wsS RX2 155 yJ6_bitCount_0f7a4 wsJ6_bitCount_0f7a4) := goodIn_app (goodIn_of _ (by decide +kernel)) ggX2_count_J6_bitCount_0f7a4
set_option maxRecDepth 20000 in
theorem ggX2_count_X2_soldFields : GoodIn wsX2_count wsX2_soldFields := goodIn_r _ [21, 3, 4, 22, 23, 24, 25, 26, 27, 47, 48, 49, 50, 51, 52, 53, 54, 55, 56, 57, 58, 59, 60, 61, 62, 63, 64, 65, 66] (by decide +kernel) (by decide +kernel)
set_option maxRecDepth 20000 in
theorem gX2_count_X2_soldFields : GoodIn wsX2_count (wsV RX2 160 RX2 yX2_soldFields wsX2_soldFields) := goodIn_app (goodIn_of _ (by decide +kernel)) ggX2_count_X2_soldFields
set_option maxRecDepth 20000 in
theorem ggX2_count_X1_totalPaid : GoodIn wsX2_count wsX1_totalPaid := goodIn_r _ [31, 32, 61, 62, 63, 64] (by decide +kernel) (by decide +kernel)
set_option maxRecDepth 20000 in
theorem gX2_count_X1_totalPaid_n163 : GoodIn wsX2_count (wsX1_totalPaid) := ggX2_count_X1_totalPaid
set_option maxRecDepth 20000 in
theorem ggX2_count_X2_totalProfit : GoodIn wsX2_count wsX2_totalProfit := goodIn_r _ [36, 2, 4, 37, 38, 39, 7, 40, 41, 47, 48, 49, 50, 51, 52, 53, 54, 55, 56, 57, 58, 59, 60, 61, 62, 63, 64] (by decide +kernel) (by decide +kernel)
set_option maxRecDepth 20000 in
theorem gX2_count_X2_totalProfit : GoodIn wsX2_count (wsV RX2 166 RX2 yX2_totalProfit wsX2_totalProfit) := goodIn_app (goodIn_of _ (by decide +kernel)) ggX2_count_X2_totalProfit
set_option maxRecDepth 20000 in
theorem ggX2_count_X2_winningPrices : GoodIn wsX2_count wsX2_winningPrices := goodIn_r _ [45, 3, 4, 46, 23, 24, 25, 26, 27, 47, 48, 49, 50, 51, 52, 53, 54, 55, 56, 57, 58, 59, 60, 61, 62, 63, 64, 65, 66] (by decide +kernel) (by decide +kernel)
set_option maxRecDepth 20000 in
theorem gX2_count_X2_winningPrices : GoodIn wsX2_count (wsV RX2 169 RX2 yX2_winningPrices wsX2_winningPrices) := goodIn_app (goodIn_of _ (by decide +kernel)) ggX2_count_X2_winningPrices
theorem dX2_count_0 : decode cX2_count 0 = .ok (.iload_n 1, 1) := by decide +kernel
theorem dX2_count_1 : decode cX2_count 1 = .ok (.bipush 8, 2) := by decide +kernel
theorem dX2_count_3 : decode cX2_count 3 = .ok (.invokestatic 106, 3) := by decide +kernel
theorem dX2_count_6 : decode cX2_count 6 = .ok (.iload_n 1, 1) := by decide +kernel
theorem dX2_count_7 : decode cX2_count 7 = .ok (.tableswitch 106 0 7 #[45, 50, 55, 60, 71, 85, 93, 101], 45) := by decide +kernel
theorem dX2_count_52 : decode cX2_count 52 = .ok (.aload_n 0, 1) := by decide +kernel
theorem dX2_count_53 : decode cX2_count 53 = .ok (.getfield 60, 3) := by decide +kernel
theorem dX2_count_56 : decode cX2_count 56 = .ok (.ireturn, 1) := by decide +kernel
theorem dX2_count_57 : decode cX2_count 57 = .ok (.aload_n 0, 1) := by decide +kernel
theorem dX2_count_58 : decode cX2_count 58 = .ok (.getfield 81, 3) := by decide +kernel
theorem dX2_count_61 : decode cX2_count 61 = .ok (.ireturn, 1) := by decide +kernel
theorem dX2_count_62 : decode cX2_count 62 = .ok (.aload_n 0, 1) := by decide +kernel
theorem dX2_count_63 : decode cX2_count 63 = .ok (.getfield 74, 3) := by decide +kernel
theorem dX2_count_66 : decode cX2_count 66 = .ok (.ireturn, 1) := by decide +kernel
theorem dX2_count_67 : decode cX2_count 67 = .ok (.aload_n 0, 1) := by decide +kernel
theorem dX2_count_68 : decode cX2_count 68 = .ok (.getfield 38, 3) := by decide +kernel
theorem dX2_count_71 : decode cX2_count 71 = .ok (.getfield 117, 3) := by decide +kernel
theorem dX2_count_74 : decode cX2_count 74 = .ok (.getfield 149, 3) := by decide +kernel
theorem dX2_count_77 : decode cX2_count 77 = .ok (.ireturn, 1) := by decide +kernel
theorem dX2_count_78 : decode cX2_count 78 = .ok (.aload_n 0, 1) := by decide +kernel
theorem dX2_count_79 : decode cX2_count 79 = .ok (.getfield 38, 3) := by decide +kernel
theorem dX2_count_82 : decode cX2_count 82 = .ok (.getfield 117, 3) := by decide +kernel
theorem dX2_count_85 : decode cX2_count 85 = .ok (.getfield 152, 3) := by decide +kernel
theorem dX2_count_88 : decode cX2_count 88 = .ok (.invokestatic 155, 3) := by decide +kernel
theorem dX2_count_91 : decode cX2_count 91 = .ok (.ireturn, 1) := by decide +kernel
theorem dX2_count_92 : decode cX2_count 92 = .ok (.aload_n 0, 1) := by decide +kernel
theorem dX2_count_93 : decode cX2_count 93 = .ok (.invokevirtual 160, 3) := by decide +kernel
theorem dX2_count_96 : decode cX2_count 96 = .ok (.invokestatic 155, 3) := by decide +kernel
theorem dX2_count_99 : decode cX2_count 99 = .ok (.ireturn, 1) := by decide +kernel
theorem dX2_count_100 : decode cX2_count 100 = .ok (.aload_n 0, 1) := by decide +kernel
theorem dX2_count_101 : decode cX2_count 101 = .ok (.getfield 38, 3) := by decide +kernel
theorem dX2_count_104 : decode cX2_count 104 = .ok (.invokevirtual 163, 3) := by decide +kernel
theorem dX2_count_107 : decode cX2_count 107 = .ok (.ireturn, 1) := by decide +kernel
theorem dX2_count_108 : decode cX2_count 108 = .ok (.aload_n 0, 1) := by decide +kernel
theorem dX2_count_109 : decode cX2_count 109 = .ok (.invokevirtual 166, 3) := by decide +kernel
theorem dX2_count_112 : decode cX2_count 112 = .ok (.ireturn, 1) := by decide +kernel
theorem dX2_count_113 : decode cX2_count 113 = .ok (.aload_n 0, 1) := by decide +kernel
theorem dX2_count_114 : decode cX2_count 114 = .ok (.invokevirtual 169, 3) := by decide +kernel
theorem dX2_count_117 : decode cX2_count 117 = .ok (.ireturn, 1) := by decide +kernel
set_option maxRecDepth 20000 in
theorem ggX2_alone_X2_requireField : GoodIn wsX2_alone wsX2_requireField := goodIn_ca (goodIn_r _ [6, 7, 8, 9, 32, 33, 34, 35, 36, 37, 38, 39, 40, 41, 42, 43, 44, 45] (by decide +kernel) (by decide +kernel)) (goodIn_sub (fun _ h => List.mem_cons_of_mem _ (List.mem_append_right _ h)) (by decide +kernel))
set_option maxRecDepth 20000 in
theorem gX2_alone_X2_requireField : GoodIn wsX2_alone (wsV RX2 71 RX2 yX2_requireField wsX2_requireField) := goodIn_app (goodIn_of _ (by decide +kernel)) ggX2_alone_X2_requireField
set_option maxRecDepth 20000 in
theorem ggX2_alone_X2_requireWhat : GoodIn wsX2_alone wsX2_requireWhat := goodIn_ca (goodIn_r _ [12, 7, 8] (by decide +kernel) (by decide +kernel)) (goodIn_sub (fun _ h => List.mem_cons_of_mem _ (List.mem_append_right _ h)) (by decide +kernel))
set_option maxRecDepth 20000 in
theorem gX2_alone_X2_requireWhat : GoodIn wsX2_alone (va_wsS RX2 106 yX2_requireWhat wsX2_requireWhat) := goodIn_app (goodIn_of _ (by decide +kernel)) ggX2_alone_X2_requireWhat
set_option maxRecDepth 20000 in
theorem ggX2_alone_X2_highestAlone : GoodIn wsX2_alone wsX2_highestAlone := goodIn_r _ [16, 17, 18, 1, 19, 20, 21, 22, 5, 23, 24, 25, 26, 32, 33, 34, 35, 36, 37, 38, 39, 40, 41, 42, 43, 44, 45] (by decide +kernel) (by decide +kernel)
set_option maxRecDepth 20000 in
theorem gX2_alone_X2_highestAlone : GoodIn wsX2_alone (wsV RX2 172 RX2 yX2_highestAlone wsX2_highestAlone) := goodIn_app (goodIn_of _ (by decide +kernel)) ggX2_alone_X2_highestAlone
set_option maxRecDepth 20000 in
theorem ggX2_alone_X2_secondPrice : GoodIn wsX2_alone wsX2_secondPrice := goodIn_r _ [30, 1, 31, 19, 13, 14, 15, 5, 16, 17, 18, 20, 21, 22, 23, 24, 25, 26, 32, 33, 34, 35, 36, 37, 38, 39, 40, 41, 42, 43, 44, 45] (by decide +kernel) (by decide +kernel)
set_option maxRecDepth 20000 in
theorem gX2_alone_X2_secondPrice : GoodIn wsX2_alone (wsV RX2 176 RX2 yX2_secondPrice wsX2_secondPrice) := goodIn_app (goodIn_of _ (by decide +kernel)) ggX2_alone_X2_secondPrice
theorem dX2_alone_0 : decode cX2_alone 0 = .ok (.aload_n 0, 1) := by decide +kernel
theorem dX2_alone_1 : decode cX2_alone 1 = .ok (.iload_n 1, 1) := by decide +kernel
theorem dX2_alone_2 : decode cX2_alone 2 = .ok (.invokevirtual 71, 3) := by decide +kernel
theorem dX2_alone_5 : decode cX2_alone 5 = .ok (.iload_n 2, 1) := by decide +kernel
theorem dX2_alone_6 : decode cX2_alone 6 = .ok (.iconst 2, 1) := by decide +kernel
theorem dX2_alone_7 : decode cX2_alone 7 = .ok (.invokestatic 106, 3) := by decide +kernel
theorem dX2_alone_10 : decode cX2_alone 10 = .ok (.aload_n 0, 1) := by decide +kernel
theorem dX2_alone_11 : decode cX2_alone 11 = .ok (.iload_n 1, 1) := by decide +kernel
theorem dX2_alone_12 : decode cX2_alone 12 = .ok (.iconst (-1), 1) := by decide +kernel
theorem dX2_alone_13 : decode cX2_alone 13 = .ok (.invokevirtual 172, 3) := by decide +kernel
theorem dX2_alone_16 : decode cX2_alone 16 = .ok (.istore_n 3, 1) := by decide +kernel
theorem dX2_alone_17 : decode cX2_alone 17 = .ok (.iload_n 3, 1) := by decide +kernel
theorem dX2_alone_18 : decode cX2_alone 18 = .ok (.iconst (-1), 1) := by decide +kernel
theorem dX2_alone_19 : decode cX2_alone 19 = .ok (.if_icmp .ne 5, 3) := by decide +kernel
theorem dX2_alone_22 : decode cX2_alone 22 = .ok (.iconst (-1), 1) := by decide +kernel
theorem dX2_alone_23 : decode cX2_alone 23 = .ok (.ireturn, 1) := by decide +kernel
theorem dX2_alone_24 : decode cX2_alone 24 = .ok (.iload_n 2, 1) := by decide +kernel
theorem dX2_alone_25 : decode cX2_alone 25 = .ok (.lookupswitch 36 #[(0, 27), (1, 29)], 27) := by decide +kernel
theorem dX2_alone_52 : decode cX2_alone 52 = .ok (.iload_n 3, 1) := by decide +kernel
theorem dX2_alone_53 : decode cX2_alone 53 = .ok (.ireturn, 1) := by decide +kernel
theorem dX2_alone_54 : decode cX2_alone 54 = .ok (.aload_n 0, 1) := by decide +kernel
theorem dX2_alone_55 : decode cX2_alone 55 = .ok (.getfield 17, 3) := by decide +kernel
theorem dX2_alone_58 : decode cX2_alone 58 = .ok (.iload_n 3, 1) := by decide +kernel
theorem dX2_alone_59 : decode cX2_alone 59 = .ok (.iaload, 1) := by decide +kernel
theorem dX2_alone_60 : decode cX2_alone 60 = .ok (.ireturn, 1) := by decide +kernel
theorem dX2_alone_61 : decode cX2_alone 61 = .ok (.aload_n 0, 1) := by decide +kernel
theorem dX2_alone_62 : decode cX2_alone 62 = .ok (.iload_n 1, 1) := by decide +kernel
theorem dX2_alone_63 : decode cX2_alone 63 = .ok (.iload_n 3, 1) := by decide +kernel
theorem dX2_alone_64 : decode cX2_alone 64 = .ok (.invokevirtual 176, 3) := by decide +kernel
theorem dX2_alone_67 : decode cX2_alone 67 = .ok (.ireturn, 1) := by decide +kernel
set_option maxRecDepth 20000 in
theorem ggX2_mean_J6_bitCount_0f7a4 : GoodIn wsX2_mean wsJ6_bitCount_0f7a4 := goodIn_r _ [5, 6, 7, 8] (by decide +kernel) (by decide +kernel)
set_option maxRecDepth 20000 in
theorem gX2_mean_J6_bitCount_0f7a4 : GoodIn wsX2_mean (va_wsS RX2 155 yJ6_bitCount_0f7a4 wsJ6_bitCount_0f7a4) := goodIn_app (goodIn_of _ (by decide +kernel)) ggX2_mean_J6_bitCount_0f7a4
set_option maxRecDepth 20000 in
theorem ggX2_mean_X1_totalPaid : GoodIn wsX2_mean wsX1_totalPaid := goodIn_r _ [12, 13, 28, 29, 30, 31] (by decide +kernel) (by decide +kernel)
set_option maxRecDepth 20000 in
theorem gX2_mean_X1_totalPaid_n163 : GoodIn wsX2_mean (wsX1_totalPaid) := ggX2_mean_X1_totalPaid
theorem dX2_mean_0 : decode cX2_mean 0 = .ok (.aload_n 0, 1) := by decide +kernel
theorem dX2_mean_1 : decode cX2_mean 1 = .ok (.getfield 38, 3) := by decide +kernel
theorem dX2_mean_4 : decode cX2_mean 4 = .ok (.getfield 117, 3) := by decide +kernel
theorem dX2_mean_7 : decode cX2_mean 7 = .ok (.getfield 152, 3) := by decide +kernel
theorem dX2_mean_10 : decode cX2_mean 10 = .ok (.invokestatic 155, 3) := by decide +kernel
theorem dX2_mean_13 : decode cX2_mean 13 = .ok (.istore_n 1, 1) := by decide +kernel
theorem dX2_mean_14 : decode cX2_mean 14 = .ok (.iload_n 1, 1) := by decide +kernel
theorem dX2_mean_15 : decode cX2_mean 15 = .ok (.ifCond .ne 5, 3) := by decide +kernel
theorem dX2_mean_18 : decode cX2_mean 18 = .ok (.dconst 0, 1) := by decide +kernel
theorem dX2_mean_19 : decode cX2_mean 19 = .ok (.dreturn, 1) := by decide +kernel
theorem dX2_mean_20 : decode cX2_mean 20 = .ok (.aload_n 0, 1) := by decide +kernel
theorem dX2_mean_21 : decode cX2_mean 21 = .ok (.getfield 38, 3) := by decide +kernel
theorem dX2_mean_24 : decode cX2_mean 24 = .ok (.invokevirtual 163, 3) := by decide +kernel
theorem dX2_mean_27 : decode cX2_mean 27 = .ok (.i2d, 1) := by decide +kernel
theorem dX2_mean_28 : decode cX2_mean 28 = .ok (.iload_n 1, 1) := by decide +kernel
theorem dX2_mean_29 : decode cX2_mean 29 = .ok (.i2d, 1) := by decide +kernel
theorem dX2_mean_30 : decode cX2_mean 30 = .ok (.ddiv, 1) := by decide +kernel
theorem dX2_mean_31 : decode cX2_mean 31 = .ok (.dreturn, 1) := by decide +kernel
theorem dX2_requireField_0 : decode cX2_requireField 0 = .ok (.iload_n 1, 1) := by decide +kernel
theorem dX2_requireField_1 : decode cX2_requireField 1 = .ok (.ifCond .lt 11, 3) := by decide +kernel
theorem dX2_requireField_4 : decode cX2_requireField 4 = .ok (.iload_n 1, 1) := by decide +kernel
theorem dX2_requireField_5 : decode cX2_requireField 5 = .ok (.aload_n 0, 1) := by decide +kernel
theorem dX2_requireField_6 : decode cX2_requireField 6 = .ok (.getfield 60, 3) := by decide +kernel
theorem dX2_requireField_9 : decode cX2_requireField 9 = .ok (.if_icmp .lt 13, 3) := by decide +kernel
theorem dX2_requireField_12 : decode cX2_requireField 12 = .ok (.new 206, 3) := by decide +kernel
theorem dX2_requireField_15 : decode cX2_requireField 15 = .ok (.dup, 1) := by decide +kernel
theorem dX2_requireField_16 : decode cX2_requireField 16 = .ok (.ldc 208, 2) := by decide +kernel
theorem dX2_requireField_18 : decode cX2_requireField 18 = .ok (.invokespecial 210, 3) := by decide +kernel
theorem dX2_requireField_21 : decode cX2_requireField 21 = .ok (.athrow, 1) := by decide +kernel
theorem dX2_requireField_22 : decode cX2_requireField 22 = .ok (.return_, 1) := by decide +kernel
theorem dX2_requireBidder_0 : decode cX2_requireBidder 0 = .ok (.iload_n 1, 1) := by decide +kernel
theorem dX2_requireBidder_1 : decode cX2_requireBidder 1 = .ok (.ifCond .lt 11, 3) := by decide +kernel
theorem dX2_requireBidder_4 : decode cX2_requireBidder 4 = .ok (.iload_n 1, 1) := by decide +kernel
theorem dX2_requireBidder_5 : decode cX2_requireBidder 5 = .ok (.aload_n 0, 1) := by decide +kernel
theorem dX2_requireBidder_6 : decode cX2_requireBidder 6 = .ok (.getfield 81, 3) := by decide +kernel
theorem dX2_requireBidder_9 : decode cX2_requireBidder 9 = .ok (.if_icmp .lt 13, 3) := by decide +kernel
theorem dX2_requireBidder_12 : decode cX2_requireBidder 12 = .ok (.new 206, 3) := by decide +kernel
theorem dX2_requireBidder_15 : decode cX2_requireBidder 15 = .ok (.dup, 1) := by decide +kernel
theorem dX2_requireBidder_16 : decode cX2_requireBidder 16 = .ok (.ldc 211, 2) := by decide +kernel
theorem dX2_requireBidder_18 : decode cX2_requireBidder 18 = .ok (.invokespecial 210, 3) := by decide +kernel
theorem dX2_requireBidder_21 : decode cX2_requireBidder 21 = .ok (.athrow, 1) := by decide +kernel
theorem dX2_requireBidder_22 : decode cX2_requireBidder 22 = .ok (.return_, 1) := by decide +kernel
theorem dX2_requireBid_0 : decode cX2_requireBid 0 = .ok (.iload_n 1, 1) := by decide +kernel
theorem dX2_requireBid_1 : decode cX2_requireBid 1 = .ok (.ifCond .lt 11, 3) := by decide +kernel
