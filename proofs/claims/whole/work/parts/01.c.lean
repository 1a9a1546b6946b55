theorem dX1_placeBehind_25 : decode cX1_placeBehind 25 = .ok (.iaload, 1) := by decide +kernel
theorem dX1_placeBehind_26 : decode cX1_placeBehind 26 = .ok (.ldc2_w 29, 3) := by decide +kernel
theorem dX1_placeBehind_29 : decode cX1_placeBehind 29 = .ok (.aload_n 0, 1) := by decide +kernel
theorem dX1_placeBehind_30 : decode cX1_placeBehind 30 = .ok (.getfield 15, 3) := by decide +kernel
theorem dX1_placeBehind_33 : decode cX1_placeBehind 33 = .ok (.iload_n 2, 1) := by decide +kernel
theorem dX1_placeBehind_34 : decode cX1_placeBehind 34 = .ok (.iaload, 1) := by decide +kernel
theorem dX1_placeBehind_35 : decode cX1_placeBehind 35 = .ok (.i2l, 1) := by decide +kernel
theorem dX1_placeBehind_36 : decode cX1_placeBehind 36 = .ok (.lmul, 1) := by decide +kernel
theorem dX1_placeBehind_37 : decode cX1_placeBehind 37 = .ok (.iload_n 1, 1) := by decide +kernel
theorem dX1_placeBehind_38 : decode cX1_placeBehind 38 = .ok (.i2l, 1) := by decide +kernel
theorem dX1_placeBehind_39 : decode cX1_placeBehind 39 = .ok (.lmul, 1) := by decide +kernel
theorem dX1_placeBehind_40 : decode cX1_placeBehind 40 = .ok (.lload_n 3, 1) := by decide +kernel
theorem dX1_placeBehind_41 : decode cX1_placeBehind 41 = .ok (.ladd, 1) := by decide +kernel
theorem dX1_placeBehind_42 : decode cX1_placeBehind 42 = .ok (.ldc2_w 29, 3) := by decide +kernel
theorem dX1_placeBehind_45 : decode cX1_placeBehind 45 = .ok (.lload_n 3, 1) := by decide +kernel
theorem dX1_placeBehind_46 : decode cX1_placeBehind 46 = .ok (.lmul, 1) := by decide +kernel
theorem dX1_placeBehind_47 : decode cX1_placeBehind 47 = .ok (.invokestatic 31, 3) := by decide +kernel
theorem dX1_placeBehind_50 : decode cX1_placeBehind 50 = .ok (.l2i, 1) := by decide +kernel
theorem dX1_placeBehind_51 : decode cX1_placeBehind 51 = .ok (.iadd, 1) := by decide +kernel
theorem dX1_placeBehind_52 : decode cX1_placeBehind 52 = .ok (.ireturn, 1) := by decide +kernel
theorem dX1_greatestOff_0 : decode cX1_greatestOff 0 = .ok (.iconst 0, 1) := by decide +kernel
theorem dX1_greatestOff_1 : decode cX1_greatestOff 1 = .ok (.ireturn, 1) := by decide +kernel
set_option maxRecDepth 20000 in
theorem ggX1_strayTicks_X1_countStrays : GoodIn wsX1_strayTicks wsX1_countStrays := goodIn_r _ [6, 7, 8, 9, 10, 11, 5, 12, 13, 14, 15, 16, 17, 18, 19, 20, 21, 22, 23, 24, 25, 26, 27, 28, 29, 30, 31, 32, 33, 34, 35] (by decide +kernel) (by decide +kernel)
set_option maxRecDepth 20000 in
theorem gX1_strayTicks_X1_countStrays : GoodIn wsX1_strayTicks (wsV RX1 37 RX1 yX1_countStrays wsX1_countStrays) := goodIn_app (goodIn_of _ (by decide +kernel)) ggX1_strayTicks_X1_countStrays
theorem dX1_strayTicks_0 : decode cX1_strayTicks 0 = .ok (.aload_n 0, 1) := by decide +kernel
theorem dX1_strayTicks_1 : decode cX1_strayTicks 1 = .ok (.getfield 22, 3) := by decide +kernel
theorem dX1_strayTicks_4 : decode cX1_strayTicks 4 = .ok (.iconst (-1), 1) := by decide +kernel
theorem dX1_strayTicks_5 : decode cX1_strayTicks 5 = .ok (.if_icmp .ne 11, 3) := by decide +kernel
theorem dX1_strayTicks_8 : decode cX1_strayTicks 8 = .ok (.aload_n 0, 1) := by decide +kernel
theorem dX1_strayTicks_9 : decode cX1_strayTicks 9 = .ok (.aload_n 0, 1) := by decide +kernel
theorem dX1_strayTicks_10 : decode cX1_strayTicks 10 = .ok (.invokevirtual 37, 3) := by decide +kernel
theorem dX1_strayTicks_13 : decode cX1_strayTicks 13 = .ok (.putfield 22, 3) := by decide +kernel
theorem dX1_strayTicks_16 : decode cX1_strayTicks 16 = .ok (.aload_n 0, 1) := by decide +kernel
theorem dX1_strayTicks_17 : decode cX1_strayTicks 17 = .ok (.getfield 22, 3) := by decide +kernel
theorem dX1_strayTicks_20 : decode cX1_strayTicks 20 = .ok (.ireturn, 1) := by decide +kernel
set_option maxRecDepth 20000 in
theorem ggX1_countStrays_X1_placeBehind : GoodIn wsX1_countStrays wsX1_placeBehind := goodIn_r _ [7, 2, 1, 8, 9, 10, 11, 12, 13, 27, 28, 29, 30] (by decide +kernel) (by decide +kernel)
set_option maxRecDepth 20000 in
theorem gX1_countStrays_X1_placeBehind : GoodIn wsX1_countStrays (wsV RX1 41 RX1 yX1_placeBehind wsX1_placeBehind) := goodIn_app (goodIn_of _ (by decide +kernel)) ggX1_countStrays_X1_placeBehind
set_option maxRecDepth 20000 in
theorem ggX1_countStrays_X3_isStray : GoodIn wsX1_countStrays wsX3_isStray := goodIn_r _ [16, 17, 18, 15, 19, 20, 21, 22, 23, 24, 25, 26] (by decide +kernel) (by decide +kernel)
set_option maxRecDepth 20000 in
theorem gX1_countStrays_X3_isStray_n45 : GoodIn wsX1_countStrays (wsX3_isStray) := ggX1_countStrays_X3_isStray
theorem dX1_countStrays_0 : decode cX1_countStrays 0 = .ok (.iconst 0, 1) := by decide +kernel
theorem dX1_countStrays_1 : decode cX1_countStrays 1 = .ok (.istore_n 1, 1) := by decide +kernel
theorem dX1_countStrays_2 : decode cX1_countStrays 2 = .ok (.aload_n 0, 1) := by decide +kernel
theorem dX1_countStrays_3 : decode cX1_countStrays 3 = .ok (.getfield 9, 3) := by decide +kernel
theorem dX1_countStrays_6 : decode cX1_countStrays 6 = .ok (.iconst 0, 1) := by decide +kernel
theorem dX1_countStrays_7 : decode cX1_countStrays 7 = .ok (.iaload, 1) := by decide +kernel
theorem dX1_countStrays_8 : decode cX1_countStrays 8 = .ok (.istore_n 2, 1) := by decide +kernel
theorem dX1_countStrays_9 : decode cX1_countStrays 9 = .ok (.aload_n 0, 1) := by decide +kernel
theorem dX1_countStrays_10 : decode cX1_countStrays 10 = .ok (.getfield 9, 3) := by decide +kernel
theorem dX1_countStrays_13 : decode cX1_countStrays 13 = .ok (.iconst 1, 1) := by decide +kernel
theorem dX1_countStrays_14 : decode cX1_countStrays 14 = .ok (.iaload, 1) := by decide +kernel
theorem dX1_countStrays_15 : decode cX1_countStrays 15 = .ok (.istore_n 3, 1) := by decide +kernel
theorem dX1_countStrays_16 : decode cX1_countStrays 16 = .ok (.aload_n 0, 1) := by decide +kernel
theorem dX1_countStrays_17 : decode cX1_countStrays 17 = .ok (.getfield 9, 3) := by decide +kernel
theorem dX1_countStrays_20 : decode cX1_countStrays 20 = .ok (.iconst 2, 1) := by decide +kernel
theorem dX1_countStrays_21 : decode cX1_countStrays 21 = .ok (.iaload, 1) := by decide +kernel
theorem dX1_countStrays_22 : decode cX1_countStrays 22 = .ok (.istore 4, 2) := by decide +kernel
theorem dX1_countStrays_24 : decode cX1_countStrays 24 = .ok (.iconst 1, 1) := by decide +kernel
theorem dX1_countStrays_25 : decode cX1_countStrays 25 = .ok (.istore 5, 2) := by decide +kernel
theorem dX1_countStrays_27 : decode cX1_countStrays 27 = .ok (.iload 5, 2) := by decide +kernel
theorem dX1_countStrays_29 : decode cX1_countStrays 29 = .ok (.aload_n 0, 1) := by decide +kernel
theorem dX1_countStrays_30 : decode cX1_countStrays 30 = .ok (.getfield 18, 3) := by decide +kernel
theorem dX1_countStrays_33 : decode cX1_countStrays 33 = .ok (.if_icmp .gt 68, 3) := by decide +kernel
theorem dX1_countStrays_36 : decode cX1_countStrays 36 = .ok (.aload_n 0, 1) := by decide +kernel
theorem dX1_countStrays_37 : decode cX1_countStrays 37 = .ok (.iload 5, 2) := by decide +kernel
theorem dX1_countStrays_39 : decode cX1_countStrays 39 = .ok (.iconst 0, 1) := by decide +kernel
theorem dX1_countStrays_40 : decode cX1_countStrays 40 = .ok (.invokevirtual 41, 3) := by decide +kernel
theorem dX1_countStrays_43 : decode cX1_countStrays 43 = .ok (.istore 6, 2) := by decide +kernel
theorem dX1_countStrays_45 : decode cX1_countStrays 45 = .ok (.aload_n 0, 1) := by decide +kernel
theorem dX1_countStrays_46 : decode cX1_countStrays 46 = .ok (.iload 5, 2) := by decide +kernel
theorem dX1_countStrays_48 : decode cX1_countStrays 48 = .ok (.iconst 1, 1) := by decide +kernel
theorem dX1_countStrays_49 : decode cX1_countStrays 49 = .ok (.invokevirtual 41, 3) := by decide +kernel
theorem dX1_countStrays_52 : decode cX1_countStrays 52 = .ok (.istore 7, 2) := by decide +kernel
theorem dX1_countStrays_54 : decode cX1_countStrays 54 = .ok (.aload_n 0, 1) := by decide +kernel
theorem dX1_countStrays_55 : decode cX1_countStrays 55 = .ok (.iload 5, 2) := by decide +kernel
theorem dX1_countStrays_57 : decode cX1_countStrays 57 = .ok (.iconst 2, 1) := by decide +kernel
theorem dX1_countStrays_58 : decode cX1_countStrays 58 = .ok (.invokevirtual 41, 3) := by decide +kernel
theorem dX1_countStrays_61 : decode cX1_countStrays 61 = .ok (.istore 8, 2) := by decide +kernel
theorem dX1_countStrays_63 : decode cX1_countStrays 63 = .ok (.iload 6, 2) := by decide +kernel
theorem dX1_countStrays_65 : decode cX1_countStrays 65 = .ok (.iload_n 2, 1) := by decide +kernel
theorem dX1_countStrays_66 : decode cX1_countStrays 66 = .ok (.isub, 1) := by decide +kernel
theorem dX1_countStrays_67 : decode cX1_countStrays 67 = .ok (.iload 7, 2) := by decide +kernel
theorem dX1_countStrays_69 : decode cX1_countStrays 69 = .ok (.iload_n 3, 1) := by decide +kernel
theorem dX1_countStrays_70 : decode cX1_countStrays 70 = .ok (.isub, 1) := by decide +kernel
theorem dX1_countStrays_71 : decode cX1_countStrays 71 = .ok (.iload 8, 2) := by decide +kernel
theorem dX1_countStrays_73 : decode cX1_countStrays 73 = .ok (.iload 4, 2) := by decide +kernel
theorem dX1_countStrays_75 : decode cX1_countStrays 75 = .ok (.isub, 1) := by decide +kernel
theorem dX1_countStrays_76 : decode cX1_countStrays 76 = .ok (.invokestatic 45, 3) := by decide +kernel
theorem dX1_countStrays_79 : decode cX1_countStrays 79 = .ok (.ifCond .eq 6, 3) := by decide +kernel
theorem dX1_countStrays_82 : decode cX1_countStrays 82 = .ok (.iinc 1 1, 3) := by decide +kernel
theorem dX1_countStrays_85 : decode cX1_countStrays 85 = .ok (.iload 6, 2) := by decide +kernel
theorem dX1_countStrays_87 : decode cX1_countStrays 87 = .ok (.istore_n 2, 1) := by decide +kernel
theorem dX1_countStrays_88 : decode cX1_countStrays 88 = .ok (.iload 7, 2) := by decide +kernel
theorem dX1_countStrays_90 : decode cX1_countStrays 90 = .ok (.istore_n 3, 1) := by decide +kernel
theorem dX1_countStrays_91 : decode cX1_countStrays 91 = .ok (.iload 8, 2) := by decide +kernel
theorem dX1_countStrays_93 : decode cX1_countStrays 93 = .ok (.istore 4, 2) := by decide +kernel
theorem dX1_countStrays_95 : decode cX1_countStrays 95 = .ok (.iinc 5 1, 3) := by decide +kernel
theorem dX1_countStrays_98 : decode cX1_countStrays 98 = .ok (.goto (-71), 3) := by decide +kernel
theorem dX1_countStrays_101 : decode cX1_countStrays 101 = .ok (.iload_n 1, 1) := by decide +kernel
theorem dX1_countStrays_102 : decode cX1_countStrays 102 = .ok (.ireturn, 1) := by decide +kernel
theorem dX2_init_0 : decode cX2_init 0 = .ok (.aload_n 0, 1) := by decide +kernel
theorem dX2_init_1 : decode cX2_init 1 = .ok (.invokespecial 1, 3) := by decide +kernel
theorem dX2_init_4 : decode cX2_init 4 = .ok (.return_, 1) := by decide +kernel
set_option maxRecDepth 20000 in
theorem ggX3_init_X1_init : GoodIn wsX3_init wsX1_init := goodIn_r _ [17, 4, 18, 19, 20, 21, 22, 23, 24, 25, 2, 3, 45, 46, 47, 48] (by decide +kernel) (by decide +kernel)
set_option maxRecDepth 20000 in
theorem gX3_init_X1_init_n15 : GoodIn wsX3_init (wsX1_init) := ggX3_init_X1_init
set_option maxRecDepth 20000 in
theorem ggX3_init_X0_init : GoodIn wsX3_init wsX0_init := goodIn_r _ [27, 4, 28, 29, 30, 31, 32, 33, 34, 35, 36, 37, 38, 39, 22, 23, 24, 25, 2, 3, 49, 50, 51, 52, 53, 54, 55, 56, 57, 58, 59, 60] (by decide +kernel) (by decide +kernel)
set_option maxRecDepth 20000 in
theorem gX3_init_X0_init_n22 : GoodIn wsX3_init (wsX0_init) := ggX3_init_X0_init
theorem dX3_init_0 : decode cX3_init 0 = .ok (.aload_n 0, 1) := by decide +kernel
theorem dX3_init_1 : decode cX3_init 1 = .ok (.invokespecial 3, 3) := by decide +kernel
theorem dX3_init_4 : decode cX3_init 4 = .ok (.aload_n 0, 1) := by decide +kernel
theorem dX3_init_5 : decode cX3_init 5 = .ok (.iconst 3, 1) := by decide +kernel
theorem dX3_init_6 : decode cX3_init 6 = .ok (.newarray .int, 2) := by decide +kernel
theorem dX3_init_8 : decode cX3_init 8 = .ok (.putfield 9, 3) := by decide +kernel
theorem dX3_init_11 : decode cX3_init 11 = .ok (.aload_n 0, 1) := by decide +kernel
theorem dX3_init_12 : decode cX3_init 12 = .ok (.new 13, 3) := by decide +kernel
theorem dX3_init_15 : decode cX3_init 15 = .ok (.dup, 1) := by decide +kernel
theorem dX3_init_16 : decode cX3_init 16 = .ok (.invokespecial 15, 3) := by decide +kernel
theorem dX3_init_19 : decode cX3_init 19 = .ok (.putfield 16, 3) := by decide +kernel
theorem dX3_init_22 : decode cX3_init 22 = .ok (.aload_n 0, 1) := by decide +kernel
theorem dX3_init_23 : decode cX3_init 23 = .ok (.new 20, 3) := by decide +kernel
theorem dX3_init_26 : decode cX3_init 26 = .ok (.dup, 1) := by decide +kernel
theorem dX3_init_27 : decode cX3_init 27 = .ok (.invokespecial 22, 3) := by decide +kernel
theorem dX3_init_30 : decode cX3_init 30 = .ok (.putfield 23, 3) := by decide +kernel
theorem dX3_init_33 : decode cX3_init 33 = .ok (.aload_n 0, 1) := by decide +kernel
theorem dX3_init_34 : decode cX3_init 34 = .ok (.new 20, 3) := by decide +kernel
theorem dX3_init_37 : decode cX3_init 37 = .ok (.dup, 1) := by decide +kernel
theorem dX3_init_38 : decode cX3_init 38 = .ok (.invokespecial 22, 3) := by decide +kernel
theorem dX3_init_41 : decode cX3_init 41 = .ok (.putfield 27, 3) := by decide +kernel
theorem dX3_init_44 : decode cX3_init 44 = .ok (.aload_n 0, 1) := by decide +kernel
theorem dX3_init_45 : decode cX3_init 45 = .ok (.aconst_null, 1) := by decide +kernel
theorem dX3_init_46 : decode cX3_init 46 = .ok (.putfield 30, 3) := by decide +kernel
theorem dX3_init_49 : decode cX3_init 49 = .ok (.return_, 1) := by decide +kernel
set_option maxRecDepth 20000 in
theorem ggX3_place_X3_isPlace : GoodIn wsX3_place wsX3_isPlace := goodIn_r _ [5, 6, 7, 4, 8] (by decide +kernel) (by decide +kernel)
set_option maxRecDepth 20000 in
theorem gX3_place_X3_isPlace : GoodIn wsX3_place (va_wsS RX3 34 yX3_isPlace wsX3_isPlace) := goodIn_app (goodIn_of _ (by decide +kernel)) ggX3_place_X3_isPlace
set_option maxRecDepth 20000 in
theorem ggX3_place_X3_standAt : GoodIn wsX3_place wsX3_standAt := goodIn_r _ [12, 13, 14, 15, 16, 17, 18] (by decide +kernel) (by decide +kernel)
set_option maxRecDepth 20000 in
theorem gX3_place_X3_standAt : GoodIn wsX3_place (wsV RX3 38 RX3 yX3_standAt wsX3_standAt) := goodIn_app (goodIn_of _ (by decide +kernel)) ggX3_place_X3_standAt
theorem dX3_place_0 : decode cX3_place 0 = .ok (.iload_n 1, 1) := by decide +kernel
theorem dX3_place_1 : decode cX3_place 1 = .ok (.iload_n 2, 1) := by decide +kernel
theorem dX3_place_2 : decode cX3_place 2 = .ok (.iload_n 3, 1) := by decide +kernel
theorem dX3_place_3 : decode cX3_place 3 = .ok (.invokestatic 34, 3) := by decide +kernel
theorem dX3_place_6 : decode cX3_place 6 = .ok (.ifCond .ne 5, 3) := by decide +kernel
theorem dX3_place_9 : decode cX3_place 9 = .ok (.iconst 0, 1) := by decide +kernel
theorem dX3_place_10 : decode cX3_place 10 = .ok (.ireturn, 1) := by decide +kernel
theorem dX3_place_11 : decode cX3_place 11 = .ok (.aload_n 0, 1) := by decide +kernel
theorem dX3_place_12 : decode cX3_place 12 = .ok (.iload_n 1, 1) := by decide +kernel
theorem dX3_place_13 : decode cX3_place 13 = .ok (.iload_n 2, 1) := by decide +kernel
theorem dX3_place_14 : decode cX3_place 14 = .ok (.iload_n 3, 1) := by decide +kernel
theorem dX3_place_15 : decode cX3_place 15 = .ok (.invokevirtual 38, 3) := by decide +kernel
theorem dX3_place_18 : decode cX3_place 18 = .ok (.aload_n 0, 1) := by decide +kernel
theorem dX3_place_19 : decode cX3_place 19 = .ok (.aconst_null, 1) := by decide +kernel
theorem dX3_place_20 : decode cX3_place 20 = .ok (.putfield 30, 3) := by decide +kernel
theorem dX3_place_23 : decode cX3_place 23 = .ok (.iconst 1, 1) := by decide +kernel
theorem dX3_place_24 : decode cX3_place 24 = .ok (.ireturn, 1) := by decide +kernel
set_option maxRecDepth 20000 in
theorem ggX3_line_X3_isPlace : GoodIn wsX3_line wsX3_isPlace := goodIn_r _ [7, 8, 9, 6, 10] (by decide +kernel) (by decide +kernel)
set_option maxRecDepth 20000 in
theorem gX3_line_X3_isPlace : GoodIn wsX3_line (va_wsS RX3 34 yX3_isPlace wsX3_isPlace) := goodIn_app (goodIn_of _ (by decide +kernel)) ggX3_line_X3_isPlace
set_option maxRecDepth 20000 in
theorem ggX3_line_X1_walk : GoodIn wsX3_line wsX1_walk := goodIn_r _ [15, 16, 17, 18, 19, 20, 6, 21, 22, 23, 24, 25, 26, 27, 28, 42, 43, 44, 45] (by decide +kernel) (by decide +kernel)
set_option maxRecDepth 20000 in
theorem gX3_line_X1_walk : GoodIn wsX3_line (wsV RX3 42 RX1 yX1_walk wsX1_walk) := goodIn_app (goodIn_of _ (by decide +kernel)) ggX3_line_X1_walk
set_option maxRecDepth 20000 in
theorem ggX3_line_X3_standAt : GoodIn wsX3_line wsX3_standAt := goodIn_r _ [32, 2, 37, 38, 39, 40, 41] (by decide +kernel) (by decide +kernel)
set_option maxRecDepth 20000 in
theorem gX3_line_X3_standAt : GoodIn wsX3_line (wsV RX3 38 RX3 yX3_standAt wsX3_standAt) := goodIn_app (goodIn_of _ (by decide +kernel)) ggX3_line_X3_standAt
set_option maxRecDepth 20000 in
theorem ggX3_line_X1_length : GoodIn wsX3_line wsX1_length := goodIn_r _ [36, 18, 42, 43, 44, 45] (by decide +kernel) (by decide +kernel)
set_option maxRecDepth 20000 in
theorem gX3_line_X1_length : GoodIn wsX3_line (wsV RX3 46 RX1 yX1_length wsX1_length) := goodIn_app (goodIn_of _ (by decide +kernel)) ggX3_line_X1_length
theorem dX3_line_0 : decode cX3_line 0 = .ok (.iload_n 1, 1) := by decide +kernel
theorem dX3_line_1 : decode cX3_line 1 = .ok (.iload_n 2, 1) := by decide +kernel
theorem dX3_line_2 : decode cX3_line 2 = .ok (.iload_n 3, 1) := by decide +kernel
theorem dX3_line_3 : decode cX3_line 3 = .ok (.invokestatic 34, 3) := by decide +kernel
theorem dX3_line_6 : decode cX3_line 6 = .ok (.ifCond .ne 5, 3) := by decide +kernel
theorem dX3_line_9 : decode cX3_line 9 = .ok (.iconst (-1), 1) := by decide +kernel
theorem dX3_line_10 : decode cX3_line 10 = .ok (.ireturn, 1) := by decide +kernel
theorem dX3_line_11 : decode cX3_line 11 = .ok (.aload_n 0, 1) := by decide +kernel
theorem dX3_line_12 : decode cX3_line 12 = .ok (.getfield 16, 3) := by decide +kernel
theorem dX3_line_15 : decode cX3_line 15 = .ok (.aload_n 0, 1) := by decide +kernel
theorem dX3_line_16 : decode cX3_line 16 = .ok (.getfield 9, 3) := by decide +kernel
theorem dX3_line_19 : decode cX3_line 19 = .ok (.iload_n 1, 1) := by decide +kernel
theorem dX3_line_20 : decode cX3_line 20 = .ok (.iload_n 2, 1) := by decide +kernel
theorem dX3_line_21 : decode cX3_line 21 = .ok (.iload_n 3, 1) := by decide +kernel
theorem dX3_line_22 : decode cX3_line 22 = .ok (.invokevirtual 42, 3) := by decide +kernel
theorem dX3_line_25 : decode cX3_line 25 = .ok (.aload_n 0, 1) := by decide +kernel
theorem dX3_line_26 : decode cX3_line 26 = .ok (.aload_n 0, 1) := by decide +kernel
theorem dX3_line_27 : decode cX3_line 27 = .ok (.getfield 16, 3) := by decide +kernel
theorem dX3_line_30 : decode cX3_line 30 = .ok (.putfield 30, 3) := by decide +kernel
theorem dX3_line_33 : decode cX3_line 33 = .ok (.aload_n 0, 1) := by decide +kernel
theorem dX3_line_34 : decode cX3_line 34 = .ok (.iload_n 1, 1) := by decide +kernel
theorem dX3_line_35 : decode cX3_line 35 = .ok (.iload_n 2, 1) := by decide +kernel
theorem dX3_line_36 : decode cX3_line 36 = .ok (.iload_n 3, 1) := by decide +kernel
theorem dX3_line_37 : decode cX3_line 37 = .ok (.invokevirtual 38, 3) := by decide +kernel
theorem dX3_line_40 : decode cX3_line 40 = .ok (.aload_n 0, 1) := by decide +kernel
theorem dX3_line_41 : decode cX3_line 41 = .ok (.getfield 16, 3) := by decide +kernel
theorem dX3_line_44 : decode cX3_line 44 = .ok (.invokevirtual 46, 3) := by decide +kernel
theorem dX3_line_47 : decode cX3_line 47 = .ok (.ireturn, 1) := by decide +kernel
set_option maxRecDepth 20000 in
theorem ggX3_arc_X3_isPlace : GoodIn wsX3_arc wsX3_isPlace := goodIn_r _ [9, 10, 11, 8, 12] (by decide +kernel) (by decide +kernel)
set_option maxRecDepth 20000 in
theorem gX3_arc_X3_isPlace : GoodIn wsX3_arc (va_wsS RX3 34 yX3_isPlace wsX3_isPlace) := goodIn_app (goodIn_of _ (by decide +kernel)) ggX3_arc_X3_isPlace
set_option maxRecDepth 20000 in
theorem ggX3_arc_X3_isWithin : GoodIn wsX3_arc wsX3_isWithin := goodIn_r _ [12] (by decide +kernel) (by decide +kernel)
set_option maxRecDepth 20000 in
theorem gX3_arc_X3_isWithin : GoodIn wsX3_arc (va_wsS RX3 51 yX3_isWithin wsX3_isWithin) := goodIn_app (goodIn_of _ (by decide +kernel)) ggX3_arc_X3_isWithin
set_option maxRecDepth 20000 in
theorem ggX3_arc_X0_begin : GoodIn wsX3_arc wsX0_begin := goodIn_r _ [17, 18, 19, 20, 21, 22, 23, 24, 25, 26, 27, 28, 29, 30, 16, 31, 32, 33, 34, 35, 36, 37, 81, 82, 83, 84, 85, 86, 87, 88, 89, 90, 91, 92] (by decide +kernel) (by decide +kernel)
set_option maxRecDepth 20000 in
theorem gX3_arc_X0_begin : GoodIn wsX3_arc (wsV RX3 55 RX0 yX0_begin wsX0_begin) := goodIn_app (goodIn_of _ (by decide +kernel)) ggX3_arc_X0_begin
set_option maxRecDepth 20000 in
theorem ggX3_arc_X0_walk : GoodIn wsX3_arc wsX0_walk := goodIn_r _ [41, 24, 42, 43, 18, 19, 25, 36, 37, 44, 45, 46, 16, 47, 21, 22, 23, 48, 49, 50, 51, 32, 33, 34, 35, 52, 53, 54, 55, 26, 56, 57, 58, 27, 28, 29, 30, 31, 59, 8, 60, 61, 62, 63, 64, 65, 66, 67, 81, 82, 83, 84, 85, 86, 87, 88, 89, 90, 91, 92] (by decide +kernel) (by decide +kernel)
set_option maxRecDepth 20000 in
theorem gX3_arc_X0_walk : GoodIn wsX3_arc (wsV RX3 59 RX0 yX0_walk wsX0_walk) := goodIn_app (goodIn_of _ (by decide +kernel)) ggX3_arc_X0_walk
set_option maxRecDepth 20000 in
theorem ggX3_arc_X3_standAt : GoodIn wsX3_arc wsX3_standAt := goodIn_r _ [71, 1, 76, 77, 78, 79, 80] (by decide +kernel) (by decide +kernel)
set_option maxRecDepth 20000 in
theorem gX3_arc_X3_standAt : GoodIn wsX3_arc (wsV RX3 38 RX3 yX3_standAt wsX3_standAt) := goodIn_app (goodIn_of _ (by decide +kernel)) ggX3_arc_X3_standAt
set_option maxRecDepth 20000 in
theorem ggX3_arc_X0_length : GoodIn wsX3_arc wsX0_length := goodIn_r _ [75, 25, 81, 82, 83, 84, 85, 86, 87, 88, 89, 90, 91, 92] (by decide +kernel) (by decide +kernel)
set_option maxRecDepth 20000 in
theorem gX3_arc_X0_length : GoodIn wsX3_arc (wsV RX3 61 RX0 yX0_length wsX0_length) := goodIn_app (goodIn_of _ (by decide +kernel)) ggX3_arc_X0_length
theorem dX3_arc_0 : decode cX3_arc 0 = .ok (.iload_n 1, 1) := by decide +kernel
theorem dX3_arc_1 : decode cX3_arc 1 = .ok (.iload_n 2, 1) := by decide +kernel
theorem dX3_arc_2 : decode cX3_arc 2 = .ok (.aload_n 0, 1) := by decide +kernel
theorem dX3_arc_3 : decode cX3_arc 3 = .ok (.getfield 9, 3) := by decide +kernel
theorem dX3_arc_6 : decode cX3_arc 6 = .ok (.iconst 2, 1) := by decide +kernel
theorem dX3_arc_7 : decode cX3_arc 7 = .ok (.iaload, 1) := by decide +kernel
theorem dX3_arc_8 : decode cX3_arc 8 = .ok (.invokestatic 34, 3) := by decide +kernel
theorem dX3_arc_11 : decode cX3_arc 11 = .ok (.ifCond .eq 22, 3) := by decide +kernel
theorem dX3_arc_14 : decode cX3_arc 14 = .ok (.iload_n 3, 1) := by decide +kernel
theorem dX3_arc_15 : decode cX3_arc 15 = .ok (.ldc 50, 2) := by decide +kernel
theorem dX3_arc_17 : decode cX3_arc 17 = .ok (.invokestatic 51, 3) := by decide +kernel
theorem dX3_arc_20 : decode cX3_arc 20 = .ok (.ifCond .eq 13, 3) := by decide +kernel
theorem dX3_arc_23 : decode cX3_arc 23 = .ok (.iload 4, 2) := by decide +kernel
theorem dX3_arc_25 : decode cX3_arc 25 = .ok (.ldc 50, 2) := by decide +kernel
theorem dX3_arc_27 : decode cX3_arc 27 = .ok (.invokestatic 51, 3) := by decide +kernel
theorem dX3_arc_30 : decode cX3_arc 30 = .ok (.ifCond .ne 5, 3) := by decide +kernel
theorem dX3_arc_33 : decode cX3_arc 33 = .ok (.iconst (-1), 1) := by decide +kernel
theorem dX3_arc_34 : decode cX3_arc 34 = .ok (.ireturn, 1) := by decide +kernel
theorem dX3_arc_35 : decode cX3_arc 35 = .ok (.aload_n 0, 1) := by decide +kernel
theorem dX3_arc_36 : decode cX3_arc 36 = .ok (.getfield 27, 3) := by decide +kernel
theorem dX3_arc_39 : decode cX3_arc 39 = .ok (.aload_n 0, 1) := by decide +kernel
theorem dX3_arc_40 : decode cX3_arc 40 = .ok (.getfield 9, 3) := by decide +kernel
theorem dX3_arc_43 : decode cX3_arc 43 = .ok (.iload_n 3, 1) := by decide +kernel
theorem dX3_arc_44 : decode cX3_arc 44 = .ok (.iload 4, 2) := by decide +kernel
theorem dX3_arc_46 : decode cX3_arc 46 = .ok (.iload 5, 2) := by decide +kernel
theorem dX3_arc_48 : decode cX3_arc 48 = .ok (.invokevirtual 55, 3) := by decide +kernel
theorem dX3_arc_51 : decode cX3_arc 51 = .ok (.aload_n 0, 1) := by decide +kernel
theorem dX3_arc_52 : decode cX3_arc 52 = .ok (.getfield 27, 3) := by decide +kernel
theorem dX3_arc_55 : decode cX3_arc 55 = .ok (.iload_n 1, 1) := by decide +kernel
theorem dX3_arc_56 : decode cX3_arc 56 = .ok (.iload_n 2, 1) := by decide +kernel
theorem dX3_arc_57 : decode cX3_arc 57 = .ok (.invokevirtual 59, 3) := by decide +kernel
theorem dX3_arc_60 : decode cX3_arc 60 = .ok (.ifCond .ne 5, 3) := by decide +kernel
theorem dX3_arc_63 : decode cX3_arc 63 = .ok (.iconst (-1), 1) := by decide +kernel
theorem dX3_arc_64 : decode cX3_arc 64 = .ok (.ireturn, 1) := by decide +kernel
theorem dX3_arc_65 : decode cX3_arc 65 = .ok (.aload_n 0, 1) := by decide +kernel
theorem dX3_arc_66 : decode cX3_arc 66 = .ok (.getfield 27, 3) := by decide +kernel
theorem dX3_arc_69 : decode cX3_arc 69 = .ok (.astore 6, 2) := by decide +kernel
theorem dX3_arc_71 : decode cX3_arc 71 = .ok (.aload_n 0, 1) := by decide +kernel
theorem dX3_arc_72 : decode cX3_arc 72 = .ok (.aload_n 0, 1) := by decide +kernel
theorem dX3_arc_73 : decode cX3_arc 73 = .ok (.getfield 23, 3) := by decide +kernel
theorem dX3_arc_76 : decode cX3_arc 76 = .ok (.putfield 27, 3) := by decide +kernel
theorem dX3_arc_79 : decode cX3_arc 79 = .ok (.aload_n 0, 1) := by decide +kernel
theorem dX3_arc_80 : decode cX3_arc 80 = .ok (.aload 6, 2) := by decide +kernel
theorem dX3_arc_82 : decode cX3_arc 82 = .ok (.putfield 23, 3) := by decide +kernel
theorem dX3_arc_85 : decode cX3_arc 85 = .ok (.aload_n 0, 1) := by decide +kernel
theorem dX3_arc_86 : decode cX3_arc 86 = .ok (.aload 6, 2) := by decide +kernel
theorem dX3_arc_88 : decode cX3_arc 88 = .ok (.putfield 30, 3) := by decide +kernel
theorem dX3_arc_91 : decode cX3_arc 91 = .ok (.aload_n 0, 1) := by decide +kernel
theorem dX3_arc_92 : decode cX3_arc 92 = .ok (.iload_n 1, 1) := by decide +kernel
theorem dX3_arc_93 : decode cX3_arc 93 = .ok (.iload_n 2, 1) := by decide +kernel
theorem dX3_arc_94 : decode cX3_arc 94 = .ok (.aload_n 0, 1) := by decide +kernel
theorem dX3_arc_95 : decode cX3_arc 95 = .ok (.getfield 9, 3) := by decide +kernel
theorem dX3_arc_98 : decode cX3_arc 98 = .ok (.iconst 2, 1) := by decide +kernel
theorem dX3_arc_99 : decode cX3_arc 99 = .ok (.iaload, 1) := by decide +kernel
theorem dX3_arc_100 : decode cX3_arc 100 = .ok (.invokevirtual 38, 3) := by decide +kernel
theorem dX3_arc_103 : decode cX3_arc 103 = .ok (.aload 6, 2) := by decide +kernel
theorem dX3_arc_105 : decode cX3_arc 105 = .ok (.invokevirtual 61, 3) := by decide +kernel
theorem dX3_arc_108 : decode cX3_arc 108 = .ok (.ireturn, 1) := by decide +kernel
set_option maxRecDepth 20000 in
theorem ggX3_tick_X3_isAxis : GoodIn wsX3_tick wsX3_isAxis := goodIn_r _ [5] (by decide +kernel) (by decide +kernel)
set_option maxRecDepth 20000 in
theorem gX3_tick_X3_isAxis : GoodIn wsX3_tick (va_wsS RX3 62 yX3_isAxis wsX3_isAxis) := goodIn_app (goodIn_of _ (by decide +kernel)) ggX3_tick_X3_isAxis
set_option maxRecDepth 20000 in
theorem ggX3_tick_X0_length : GoodIn wsX3_tick wsX0_length := goodIn_r _ [11, 12, 59, 60, 61, 62, 63, 64, 65, 66, 67, 68, 69, 70] (by decide +kernel) (by decide +kernel)
set_option maxRecDepth 20000 in
theorem gX3_tick_X0_length_u66X0 : GoodIn wsX3_tick (va_wsU RX3 66 RX0 "TickWalks$Walk" ⟨"TickWalks$Walk", "length", "()I"⟩ yX0_length wsX0_length) := goodIn_app (goodIn_of _ (by decide +kernel)) ggX3_tick_X0_length
set_option maxRecDepth 20000 in
theorem ggX3_tick_X1_length : GoodIn wsX3_tick wsX1_length := goodIn_r _ [16, 17, 71, 72, 73, 74] (by decide +kernel) (by decide +kernel)
set_option maxRecDepth 20000 in
theorem gX3_tick_X1_length_u66X1 : GoodIn wsX3_tick (va_wsU RX3 66 RX1 "TickWalks$Walk" ⟨"TickWalks$Walk", "length", "()I"⟩ yX1_length wsX1_length) := goodIn_app (goodIn_of _ (by decide +kernel)) ggX3_tick_X1_length
set_option maxRecDepth 20000 in
theorem ggX3_tick_X0_placeBehind : GoodIn wsX3_tick wsX0_placeBehind := goodIn_r _ [22, 23, 24, 25, 26, 27, 28, 10, 29, 30, 31, 32, 33, 34, 35, 36, 37, 38, 39, 40, 41, 42, 43, 59, 60, 61, 62, 63, 64, 65, 66, 67, 68, 69, 70] (by decide +kernel) (by decide +kernel)
set_option maxRecDepth 20000 in
theorem gX3_tick_X0_placeBehind_u69X0 : GoodIn wsX3_tick (va_wsU RX3 69 RX0 "TickWalks$Walk" ⟨"TickWalks$Walk", "placeBehind", "(II)I"⟩ yX0_placeBehind wsX0_placeBehind) := goodIn_app (goodIn_of _ (by decide +kernel)) ggX3_tick_X0_placeBehind
set_option maxRecDepth 20000 in
theorem ggX3_tick_X1_placeBehind : GoodIn wsX3_tick wsX1_placeBehind := goodIn_r _ [46, 17, 47, 48, 49, 50, 51, 52, 53, 71, 72, 73, 74] (by decide +kernel) (by decide +kernel)
set_option maxRecDepth 20000 in
theorem gX3_tick_X1_placeBehind_u69X1 : GoodIn wsX3_tick (va_wsU RX3 69 RX1 "TickWalks$Walk" ⟨"TickWalks$Walk", "placeBehind", "(II)I"⟩ yX1_placeBehind wsX1_placeBehind) := goodIn_app (goodIn_of _ (by decide +kernel)) ggX3_tick_X1_placeBehind
theorem dX3_tick_0 : decode cX3_tick 0 = .ok (.aload_n 0, 1) := by decide +kernel
theorem dX3_tick_1 : decode cX3_tick 1 = .ok (.getfield 30, 3) := by decide +kernel
theorem dX3_tick_4 : decode cX3_tick 4 = .ok (.ifnull 25, 3) := by decide +kernel
theorem dX3_tick_7 : decode cX3_tick 7 = .ok (.iload_n 2, 1) := by decide +kernel
theorem dX3_tick_8 : decode cX3_tick 8 = .ok (.invokestatic 62, 3) := by decide +kernel
theorem dX3_tick_11 : decode cX3_tick 11 = .ok (.ifCond .eq 18, 3) := by decide +kernel
theorem dX3_tick_14 : decode cX3_tick 14 = .ok (.iload_n 1, 1) := by decide +kernel
theorem dX3_tick_15 : decode cX3_tick 15 = .ok (.ifCond .lt 14, 3) := by decide +kernel
theorem dX3_tick_18 : decode cX3_tick 18 = .ok (.iload_n 1, 1) := by decide +kernel
theorem dX3_tick_19 : decode cX3_tick 19 = .ok (.aload_n 0, 1) := by decide +kernel
theorem dX3_tick_20 : decode cX3_tick 20 = .ok (.getfield 30, 3) := by decide +kernel
theorem dX3_tick_23 : decode cX3_tick 23 = .ok (.invokevirtual 66, 3) := by decide +kernel
theorem dX3_tick_26 : decode cX3_tick 26 = .ok (.if_icmp .le 5, 3) := by decide +kernel
theorem dX3_tick_29 : decode cX3_tick 29 = .ok (.iconst 0, 1) := by decide +kernel
theorem dX3_tick_30 : decode cX3_tick 30 = .ok (.ireturn, 1) := by decide +kernel
theorem dX3_tick_31 : decode cX3_tick 31 = .ok (.aload_n 0, 1) := by decide +kernel
theorem dX3_tick_32 : decode cX3_tick 32 = .ok (.getfield 30, 3) := by decide +kernel
theorem dX3_tick_35 : decode cX3_tick 35 = .ok (.iload_n 1, 1) := by decide +kernel
theorem dX3_tick_36 : decode cX3_tick 36 = .ok (.iload_n 2, 1) := by decide +kernel
theorem dX3_tick_37 : decode cX3_tick 37 = .ok (.invokevirtual 69, 3) := by decide +kernel
theorem dX3_tick_40 : decode cX3_tick 40 = .ok (.ireturn, 1) := by decide +kernel
set_option maxRecDepth 20000 in
theorem ggX3_ticks_X0_length : GoodIn wsX3_ticks wsX0_length := goodIn_r _ [7, 8, 19, 20, 21, 22, 23, 24, 25, 26, 27, 28, 29, 30] (by decide +kernel) (by decide +kernel)
set_option maxRecDepth 20000 in
theorem gX3_ticks_X0_length_u66X0 : GoodIn wsX3_ticks (va_wsU RX3 66 RX0 "TickWalks$Walk" ⟨"TickWalks$Walk", "length", "()I"⟩ yX0_length wsX0_length) := goodIn_app (goodIn_of _ (by decide +kernel)) ggX3_ticks_X0_length
set_option maxRecDepth 20000 in
theorem ggX3_ticks_X1_length : GoodIn wsX3_ticks wsX1_length := goodIn_r _ [12, 13, 31, 32, 33, 34] (by decide +kernel) (by decide +kernel)
set_option maxRecDepth 20000 in
theorem gX3_ticks_X1_length_u66X1 : GoodIn wsX3_ticks (va_wsU RX3 66 RX1 "TickWalks$Walk" ⟨"TickWalks$Walk", "length", "()I"⟩ yX1_length wsX1_length) := goodIn_app (goodIn_of _ (by decide +kernel)) ggX3_ticks_X1_length
theorem dX3_ticks_0 : decode cX3_ticks 0 = .ok (.aload_n 0, 1) := by decide +kernel
theorem dX3_ticks_1 : decode cX3_ticks 1 = .ok (.getfield 30, 3) := by decide +kernel
theorem dX3_ticks_4 : decode cX3_ticks 4 = .ok (.ifnonnull 7, 3) := by decide +kernel
theorem dX3_ticks_7 : decode cX3_ticks 7 = .ok (.iconst 0, 1) := by decide +kernel
theorem dX3_ticks_8 : decode cX3_ticks 8 = .ok (.goto 10, 3) := by decide +kernel
theorem dX3_ticks_11 : decode cX3_ticks 11 = .ok (.aload_n 0, 1) := by decide +kernel
theorem dX3_ticks_12 : decode cX3_ticks 12 = .ok (.getfield 30, 3) := by decide +kernel
theorem dX3_ticks_15 : decode cX3_ticks 15 = .ok (.invokevirtual 66, 3) := by decide +kernel
theorem dX3_ticks_18 : decode cX3_ticks 18 = .ok (.ireturn, 1) := by decide +kernel
set_option maxRecDepth 20000 in
theorem ggX3_at_X3_isAxis : GoodIn wsX3_at wsX3_isAxis := goodIn_r _ [5] (by decide +kernel) (by decide +kernel)
set_option maxRecDepth 20000 in
theorem gX3_at_X3_isAxis : GoodIn wsX3_at (va_wsS RX3 62 yX3_isAxis wsX3_isAxis) := goodIn_app (goodIn_of _ (by decide +kernel)) ggX3_at_X3_isAxis
theorem dX3_at_0 : decode cX3_at 0 = .ok (.iload_n 1, 1) := by decide +kernel
theorem dX3_at_1 : decode cX3_at 1 = .ok (.invokestatic 62, 3) := by decide +kernel
theorem dX3_at_4 : decode cX3_at 4 = .ok (.ifCond .eq 12, 3) := by decide +kernel
theorem dX3_at_7 : decode cX3_at 7 = .ok (.aload_n 0, 1) := by decide +kernel
theorem dX3_at_8 : decode cX3_at 8 = .ok (.getfield 9, 3) := by decide +kernel
theorem dX3_at_11 : decode cX3_at 11 = .ok (.iload_n 1, 1) := by decide +kernel
theorem dX3_at_12 : decode cX3_at 12 = .ok (.iaload, 1) := by decide +kernel
theorem dX3_at_13 : decode cX3_at 13 = .ok (.goto 4, 3) := by decide +kernel
theorem dX3_at_16 : decode cX3_at 16 = .ok (.iconst 0, 1) := by decide +kernel
theorem dX3_at_17 : decode cX3_at 17 = .ok (.ireturn, 1) := by decide +kernel
set_option maxRecDepth 20000 in
theorem ggX3_off_X0_greatestOff : GoodIn wsX3_off wsX0_greatestOff := goodIn_r _ [7, 8, 18, 19, 20, 21, 22, 23, 24, 25, 26, 27, 28, 29] (by decide +kernel) (by decide +kernel)
set_option maxRecDepth 20000 in
theorem gX3_off_X0_greatestOff_u73X0 : GoodIn wsX3_off (va_wsU RX3 73 RX0 "TickWalks$Walk" ⟨"TickWalks$Walk", "greatestOff", "()I"⟩ yX0_greatestOff wsX0_greatestOff) := goodIn_app (goodIn_of _ (by decide +kernel)) ggX3_off_X0_greatestOff
set_option maxRecDepth 20000 in
theorem ggX3_off_X1_greatestOff : GoodIn wsX3_off wsX1_greatestOff := goodIn_r _ [12] (by decide +kernel) (by decide +kernel)
set_option maxRecDepth 20000 in
theorem gX3_off_X1_greatestOff_u73X1 : GoodIn wsX3_off (va_wsU RX3 73 RX1 "TickWalks$Walk" ⟨"TickWalks$Walk", "greatestOff", "()I"⟩ yX1_greatestOff wsX1_greatestOff) := goodIn_app (goodIn_of _ (by decide +kernel)) ggX3_off_X1_greatestOff
theorem dX3_off_0 : decode cX3_off 0 = .ok (.aload_n 0, 1) := by decide +kernel
theorem dX3_off_1 : decode cX3_off 1 = .ok (.getfield 30, 3) := by decide +kernel
theorem dX3_off_4 : decode cX3_off 4 = .ok (.ifnonnull 7, 3) := by decide +kernel
theorem dX3_off_7 : decode cX3_off 7 = .ok (.iconst 0, 1) := by decide +kernel
theorem dX3_off_8 : decode cX3_off 8 = .ok (.goto 10, 3) := by decide +kernel
theorem dX3_off_11 : decode cX3_off 11 = .ok (.aload_n 0, 1) := by decide +kernel
theorem dX3_off_12 : decode cX3_off 12 = .ok (.getfield 30, 3) := by decide +kernel
theorem dX3_off_15 : decode cX3_off 15 = .ok (.invokevirtual 73, 3) := by decide +kernel
theorem dX3_off_18 : decode cX3_off 18 = .ok (.ireturn, 1) := by decide +kernel
set_option maxRecDepth 20000 in
theorem ggX3_strays_X0_strayTicks : GoodIn wsX3_strays wsX0_strayTicks := goodIn_r _ [7, 8, 48, 49, 50, 51, 52, 53, 54, 55, 56, 57, 58, 59] (by decide +kernel) (by decide +kernel)
set_option maxRecDepth 20000 in
theorem gX3_strays_X0_strayTicks_u76X0 : GoodIn wsX3_strays (va_wsU RX3 76 RX0 "TickWalks$Walk" ⟨"TickWalks$Walk", "strayTicks", "()I"⟩ yX0_strayTicks wsX0_strayTicks) := goodIn_app (goodIn_of _ (by decide +kernel)) ggX3_strays_X0_strayTicks
set_option maxRecDepth 20000 in
theorem ggX3_strays_X1_strayTicks : GoodIn wsX3_strays wsX1_strayTicks := goodIn_r _ [12, 13, 14, 15, 16, 11, 17, 18, 19, 20, 21, 22, 23, 24, 25, 26, 27, 28, 29, 30, 31, 32, 33, 34, 35, 36, 37, 38, 39, 40, 41, 42, 60, 61, 62, 63] (by decide +kernel) (by decide +kernel)
set_option maxRecDepth 20000 in
theorem gX3_strays_X1_strayTicks_u76X1 : GoodIn wsX3_strays (va_wsU RX3 76 RX1 "TickWalks$Walk" ⟨"TickWalks$Walk", "strayTicks", "()I"⟩ yX1_strayTicks wsX1_strayTicks) := goodIn_app (goodIn_of _ (by decide +kernel)) ggX3_strays_X1_strayTicks
theorem dX3_strays_0 : decode cX3_strays 0 = .ok (.aload_n 0, 1) := by decide +kernel
theorem dX3_strays_1 : decode cX3_strays 1 = .ok (.getfield 30, 3) := by decide +kernel
theorem dX3_strays_4 : decode cX3_strays 4 = .ok (.ifnonnull 7, 3) := by decide +kernel
theorem dX3_strays_7 : decode cX3_strays 7 = .ok (.iconst 0, 1) := by decide +kernel
theorem dX3_strays_8 : decode cX3_strays 8 = .ok (.goto 10, 3) := by decide +kernel
theorem dX3_strays_11 : decode cX3_strays 11 = .ok (.aload_n 0, 1) := by decide +kernel
theorem dX3_strays_12 : decode cX3_strays 12 = .ok (.getfield 30, 3) := by decide +kernel
theorem dX3_strays_15 : decode cX3_strays 15 = .ok (.invokevirtual 76, 3) := by decide +kernel
theorem dX3_strays_18 : decode cX3_strays 18 = .ok (.ireturn, 1) := by decide +kernel
theorem dX3_standAt_0 : decode cX3_standAt 0 = .ok (.aload_n 0, 1) := by decide +kernel
theorem dX3_standAt_1 : decode cX3_standAt 1 = .ok (.getfield 9, 3) := by decide +kernel
theorem dX3_standAt_4 : decode cX3_standAt 4 = .ok (.iconst 0, 1) := by decide +kernel
theorem dX3_standAt_5 : decode cX3_standAt 5 = .ok (.iload_n 1, 1) := by decide +kernel
theorem dX3_standAt_6 : decode cX3_standAt 6 = .ok (.iastore, 1) := by decide +kernel
theorem dX3_standAt_7 : decode cX3_standAt 7 = .ok (.aload_n 0, 1) := by decide +kernel
theorem dX3_standAt_8 : decode cX3_standAt 8 = .ok (.getfield 9, 3) := by decide +kernel
theorem dX3_standAt_11 : decode cX3_standAt 11 = .ok (.iconst 1, 1) := by decide +kernel
theorem dX3_standAt_12 : decode cX3_standAt 12 = .ok (.iload_n 2, 1) := by decide +kernel
theorem dX3_standAt_13 : decode cX3_standAt 13 = .ok (.iastore, 1) := by decide +kernel
theorem dX3_standAt_14 : decode cX3_standAt 14 = .ok (.aload_n 0, 1) := by decide +kernel
theorem dX3_standAt_15 : decode cX3_standAt 15 = .ok (.getfield 9, 3) := by decide +kernel
theorem dX3_standAt_18 : decode cX3_standAt 18 = .ok (.iconst 2, 1) := by decide +kernel
theorem dX3_standAt_19 : decode cX3_standAt 19 = .ok (.iload_n 3, 1) := by decide +kernel
theorem dX3_standAt_20 : decode cX3_standAt 20 = .ok (.iastore, 1) := by decide +kernel
theorem dX3_standAt_21 : decode cX3_standAt 21 = .ok (.return_, 1) := by decide +kernel
theorem dX3_isAxis_0 : decode cX3_isAxis 0 = .ok (.iload_n 0, 1) := by decide +kernel
theorem dX3_isAxis_1 : decode cX3_isAxis 1 = .ok (.ifCond .lt 12, 3) := by decide +kernel
theorem dX3_isAxis_4 : decode cX3_isAxis 4 = .ok (.iload_n 0, 1) := by decide +kernel
theorem dX3_isAxis_5 : decode cX3_isAxis 5 = .ok (.iconst 3, 1) := by decide +kernel
theorem dX3_isAxis_6 : decode cX3_isAxis 6 = .ok (.if_icmp .ge 7, 3) := by decide +kernel
theorem dX3_isAxis_9 : decode cX3_isAxis 9 = .ok (.iconst 1, 1) := by decide +kernel
theorem dX3_isAxis_10 : decode cX3_isAxis 10 = .ok (.goto 4, 3) := by decide +kernel
theorem dX3_isAxis_13 : decode cX3_isAxis 13 = .ok (.iconst 0, 1) := by decide +kernel
theorem dX3_isAxis_14 : decode cX3_isAxis 14 = .ok (.ireturn, 1) := by decide +kernel
set_option maxRecDepth 20000 in
theorem ggX3_isPlace_X3_isWithin : GoodIn wsX3_isPlace wsX3_isWithin := goodIn_r _ [4] (by decide +kernel) (by decide +kernel)
set_option maxRecDepth 20000 in
theorem gX3_isPlace_X3_isWithin : GoodIn wsX3_isPlace (va_wsS RX3 51 yX3_isWithin wsX3_isWithin) := goodIn_app (goodIn_of _ (by decide +kernel)) ggX3_isPlace_X3_isWithin
theorem dX3_isPlace_0 : decode cX3_isPlace 0 = .ok (.iload_n 0, 1) := by decide +kernel
theorem dX3_isPlace_1 : decode cX3_isPlace 1 = .ok (.sipush 30000, 3) := by decide +kernel
theorem dX3_isPlace_4 : decode cX3_isPlace 4 = .ok (.invokestatic 51, 3) := by decide +kernel
theorem dX3_isPlace_7 : decode cX3_isPlace 7 = .ok (.ifCond .eq 27, 3) := by decide +kernel
theorem dX3_isPlace_10 : decode cX3_isPlace 10 = .ok (.iload_n 1, 1) := by decide +kernel
theorem dX3_isPlace_11 : decode cX3_isPlace 11 = .ok (.sipush 30000, 3) := by decide +kernel
theorem dX3_isPlace_14 : decode cX3_isPlace 14 = .ok (.invokestatic 51, 3) := by decide +kernel
theorem dX3_isPlace_17 : decode cX3_isPlace 17 = .ok (.ifCond .eq 17, 3) := by decide +kernel
theorem dX3_isPlace_20 : decode cX3_isPlace 20 = .ok (.iload_n 2, 1) := by decide +kernel
theorem dX3_isPlace_21 : decode cX3_isPlace 21 = .ok (.sipush 30000, 3) := by decide +kernel
theorem dX3_isPlace_24 : decode cX3_isPlace 24 = .ok (.invokestatic 51, 3) := by decide +kernel
theorem dX3_isPlace_27 : decode cX3_isPlace 27 = .ok (.ifCond .eq 7, 3) := by decide +kernel
theorem dX3_isPlace_30 : decode cX3_isPlace 30 = .ok (.iconst 1, 1) := by decide +kernel
theorem dX3_isPlace_31 : decode cX3_isPlace 31 = .ok (.goto 4, 3) := by decide +kernel
theorem dX3_isPlace_34 : decode cX3_isPlace 34 = .ok (.iconst 0, 1) := by decide +kernel
theorem dX3_isPlace_35 : decode cX3_isPlace 35 = .ok (.ireturn, 1) := by decide +kernel
theorem dX3_isWithin_0 : decode cX3_isWithin 0 = .ok (.iload_n 0, 1) := by decide +kernel
theorem dX3_isWithin_1 : decode cX3_isWithin 1 = .ok (.iload_n 1, 1) := by decide +kernel
theorem dX3_isWithin_2 : decode cX3_isWithin 2 = .ok (.ineg, 1) := by decide +kernel
theorem dX3_isWithin_3 : decode cX3_isWithin 3 = .ok (.if_icmp .lt 12, 3) := by decide +kernel
theorem dX3_isWithin_6 : decode cX3_isWithin 6 = .ok (.iload_n 0, 1) := by decide +kernel
theorem dX3_isWithin_7 : decode cX3_isWithin 7 = .ok (.iload_n 1, 1) := by decide +kernel
theorem dX3_isWithin_8 : decode cX3_isWithin 8 = .ok (.if_icmp .gt 7, 3) := by decide +kernel
theorem dX3_isWithin_11 : decode cX3_isWithin 11 = .ok (.iconst 1, 1) := by decide +kernel
theorem dX3_isWithin_12 : decode cX3_isWithin 12 = .ok (.goto 4, 3) := by decide +kernel
theorem dX3_isWithin_15 : decode cX3_isWithin 15 = .ok (.iconst 0, 1) := by decide +kernel
theorem dX3_isWithin_16 : decode cX3_isWithin 16 = .ok (.ireturn, 1) := by decide +kernel
theorem dX3_greatestAmount_0 : decode cX3_greatestAmount 0 = .ok (.iload_n 0, 1) := by decide +kernel
theorem dX3_greatestAmount_1 : decode cX3_greatestAmount 1 = .ok (.invokestatic 79, 3) := by decide +kernel
theorem dX3_greatestAmount_4 : decode cX3_greatestAmount 4 = .ok (.iload_n 1, 1) := by decide +kernel
theorem dX3_greatestAmount_5 : decode cX3_greatestAmount 5 = .ok (.invokestatic 79, 3) := by decide +kernel
theorem dX3_greatestAmount_8 : decode cX3_greatestAmount 8 = .ok (.iload_n 2, 1) := by decide +kernel
theorem dX3_greatestAmount_9 : decode cX3_greatestAmount 9 = .ok (.invokestatic 79, 3) := by decide +kernel
theorem dX3_greatestAmount_12 : decode cX3_greatestAmount 12 = .ok (.invokestatic 85, 3) := by decide +kernel
theorem dX3_greatestAmount_15 : decode cX3_greatestAmount 15 = .ok (.invokestatic 85, 3) := by decide +kernel
theorem dX3_greatestAmount_18 : decode cX3_greatestAmount 18 = .ok (.ireturn, 1) := by decide +kernel
set_option maxRecDepth 20000 in
theorem ggX3_isStray_X3_greatestAmount : GoodIn wsX3_isStray wsX3_greatestAmount := goodIn_r _ [4, 5, 6, 7, 8, 9, 10, 11] (by decide +kernel) (by decide +kernel)
set_option maxRecDepth 20000 in
theorem gX3_isStray_X3_greatestAmount : GoodIn wsX3_isStray (va_wsS RX3 88 yX3_greatestAmount wsX3_greatestAmount) := goodIn_app (goodIn_of _ (by decide +kernel)) ggX3_isStray_X3_greatestAmount
theorem dX3_isStray_0 : decode cX3_isStray 0 = .ok (.iload_n 0, 1) := by decide +kernel
theorem dX3_isStray_1 : decode cX3_isStray 1 = .ok (.iload_n 1, 1) := by decide +kernel
theorem dX3_isStray_2 : decode cX3_isStray 2 = .ok (.iload_n 2, 1) := by decide +kernel
theorem dX3_isStray_3 : decode cX3_isStray 3 = .ok (.invokestatic 88, 3) := by decide +kernel
theorem dX3_isStray_6 : decode cX3_isStray 6 = .ok (.iconst 1, 1) := by decide +kernel
theorem dX3_isStray_7 : decode cX3_isStray 7 = .ok (.if_icmp .eq 7, 3) := by decide +kernel
theorem dX3_isStray_10 : decode cX3_isStray 10 = .ok (.iconst 1, 1) := by decide +kernel
theorem dX3_isStray_11 : decode cX3_isStray 11 = .ok (.goto 4, 3) := by decide +kernel
theorem dX3_isStray_14 : decode cX3_isStray 14 = .ok (.iconst 0, 1) := by decide +kernel
theorem dX3_isStray_15 : decode cX3_isStray 15 = .ok (.ireturn, 1) := by decide +kernel
theorem dX4_init_0 : decode cX4_init 0 = .ok (.aload_n 0, 1) := by decide +kernel
theorem dX4_init_1 : decode cX4_init 1 = .ok (.invokespecial 1, 3) := by decide +kernel
theorem dX4_init_4 : decode cX4_init 4 = .ok (.aload_n 0, 1) := by decide +kernel
theorem dX4_init_5 : decode cX4_init 5 = .ok (.ldc 9, 2) := by decide +kernel
theorem dX4_init_7 : decode cX4_init 7 = .ok (.newarray .byte, 2) := by decide +kernel
theorem dX4_init_9 : decode cX4_init 9 = .ok (.putfield 10, 3) := by decide +kernel
theorem dX4_init_12 : decode cX4_init 12 = .ok (.aload_n 0, 1) := by decide +kernel
theorem dX4_init_13 : decode cX4_init 13 = .ok (.ldc 9, 2) := by decide +kernel
theorem dX4_init_15 : decode cX4_init 15 = .ok (.newarray .byte, 2) := by decide +kernel
theorem dX4_init_17 : decode cX4_init 17 = .ok (.putfield 14, 3) := by decide +kernel
theorem dX4_init_20 : decode cX4_init 20 = .ok (.return_, 1) := by decide +kernel
theorem dX4_isPlace_0 : decode cX4_isPlace 0 = .ok (.iload_n 0, 1) := by decide +kernel
theorem dX4_isPlace_1 : decode cX4_isPlace 1 = .ok (.sipush (-30000), 3) := by decide +kernel
theorem dX4_isPlace_4 : decode cX4_isPlace 4 = .ok (.if_icmp .lt 14, 3) := by decide +kernel
theorem dX4_isPlace_7 : decode cX4_isPlace 7 = .ok (.iload_n 0, 1) := by decide +kernel
theorem dX4_isPlace_8 : decode cX4_isPlace 8 = .ok (.sipush 30000, 3) := by decide +kernel
theorem dX4_isPlace_11 : decode cX4_isPlace 11 = .ok (.if_icmp .gt 7, 3) := by decide +kernel
theorem dX4_isPlace_14 : decode cX4_isPlace 14 = .ok (.iconst 1, 1) := by decide +kernel
theorem dX4_isPlace_15 : decode cX4_isPlace 15 = .ok (.goto 4, 3) := by decide +kernel
theorem dX4_isPlace_18 : decode cX4_isPlace 18 = .ok (.iconst 0, 1) := by decide +kernel
theorem dX4_isPlace_19 : decode cX4_isPlace 19 = .ok (.ireturn, 1) := by decide +kernel
theorem dX4_isCentre_0 : decode cX4_isCentre 0 = .ok (.iload_n 0, 1) := by decide +kernel
theorem dX4_isCentre_1 : decode cX4_isCentre 1 = .ok (.ldc 17, 2) := by decide +kernel
theorem dX4_isCentre_3 : decode cX4_isCentre 3 = .ok (.if_icmp .lt 13, 3) := by decide +kernel
theorem dX4_isCentre_6 : decode cX4_isCentre 6 = .ok (.iload_n 0, 1) := by decide +kernel
theorem dX4_isCentre_7 : decode cX4_isCentre 7 = .ok (.ldc 9, 2) := by decide +kernel
theorem dX4_isCentre_9 : decode cX4_isCentre 9 = .ok (.if_icmp .gt 7, 3) := by decide +kernel
theorem dX4_isCentre_12 : decode cX4_isCentre 12 = .ok (.iconst 1, 1) := by decide +kernel
theorem dX4_isCentre_13 : decode cX4_isCentre 13 = .ok (.goto 4, 3) := by decide +kernel
theorem dX4_isCentre_16 : decode cX4_isCentre 16 = .ok (.iconst 0, 1) := by decide +kernel
theorem dX4_isCentre_17 : decode cX4_isCentre 17 = .ok (.ireturn, 1) := by decide +kernel
set_option maxRecDepth 20000 in
theorem ggX4_place_X4_isPlace : GoodIn wsX4_place wsX4_isPlace := goodIn_r _ [10] (by decide +kernel) (by decide +kernel)
set_option maxRecDepth 20000 in
theorem gX4_place_X4_isPlace : GoodIn wsX4_place (va_wsS RX4 18 yX4_isPlace wsX4_isPlace) := goodIn_app (goodIn_of _ (by decide +kernel)) ggX4_place_X4_isPlace
theorem dX4_place_0 : decode cX4_place 0 = .ok (.iload_n 1, 1) := by decide +kernel
theorem dX4_place_1 : decode cX4_place 1 = .ok (.invokestatic 18, 3) := by decide +kernel
theorem dX4_place_4 : decode cX4_place 4 = .ok (.ifCond .eq 17, 3) := by decide +kernel
theorem dX4_place_7 : decode cX4_place 7 = .ok (.iload_n 2, 1) := by decide +kernel
theorem dX4_place_8 : decode cX4_place 8 = .ok (.invokestatic 18, 3) := by decide +kernel
theorem dX4_place_11 : decode cX4_place 11 = .ok (.ifCond .eq 10, 3) := by decide +kernel
theorem dX4_place_14 : decode cX4_place 14 = .ok (.iload_n 3, 1) := by decide +kernel
theorem dX4_place_15 : decode cX4_place 15 = .ok (.invokestatic 18, 3) := by decide +kernel
theorem dX4_place_18 : decode cX4_place 18 = .ok (.ifCond .ne 5, 3) := by decide +kernel
theorem dX4_place_21 : decode cX4_place 21 = .ok (.iconst 0, 1) := by decide +kernel
theorem dX4_place_22 : decode cX4_place 22 = .ok (.ireturn, 1) := by decide +kernel
theorem dX4_place_23 : decode cX4_place 23 = .ok (.aload_n 0, 1) := by decide +kernel
theorem dX4_place_24 : decode cX4_place 24 = .ok (.iload_n 1, 1) := by decide +kernel
theorem dX4_place_25 : decode cX4_place 25 = .ok (.putfield 22, 3) := by decide +kernel
theorem dX4_place_28 : decode cX4_place 28 = .ok (.aload_n 0, 1) := by decide +kernel
theorem dX4_place_29 : decode cX4_place 29 = .ok (.iload_n 2, 1) := by decide +kernel
theorem dX4_place_30 : decode cX4_place 30 = .ok (.putfield 26, 3) := by decide +kernel
theorem dX4_place_33 : decode cX4_place 33 = .ok (.aload_n 0, 1) := by decide +kernel
theorem dX4_place_34 : decode cX4_place 34 = .ok (.iload_n 3, 1) := by decide +kernel
theorem dX4_place_35 : decode cX4_place 35 = .ok (.putfield 29, 3) := by decide +kernel
theorem dX4_place_38 : decode cX4_place 38 = .ok (.aload_n 0, 1) := by decide +kernel
theorem dX4_place_39 : decode cX4_place 39 = .ok (.iconst 0, 1) := by decide +kernel
theorem dX4_place_40 : decode cX4_place 40 = .ok (.putfield 32, 3) := by decide +kernel
theorem dX4_place_43 : decode cX4_place 43 = .ok (.aload_n 0, 1) := by decide +kernel
theorem dX4_place_44 : decode cX4_place 44 = .ok (.iconst 0, 1) := by decide +kernel
theorem dX4_place_45 : decode cX4_place 45 = .ok (.putfield 36, 3) := by decide +kernel
theorem dX4_place_48 : decode cX4_place 48 = .ok (.aload_n 0, 1) := by decide +kernel
theorem dX4_place_49 : decode cX4_place 49 = .ok (.iconst 0, 1) := by decide +kernel
theorem dX4_place_50 : decode cX4_place 50 = .ok (.putfield 39, 3) := by decide +kernel
theorem dX4_place_53 : decode cX4_place 53 = .ok (.iconst 1, 1) := by decide +kernel
theorem dX4_place_54 : decode cX4_place 54 = .ok (.ireturn, 1) := by decide +kernel
theorem dX4_amount_0 : decode cX4_amount 0 = .ok (.iload_n 0, 1) := by decide +kernel
theorem dX4_amount_1 : decode cX4_amount 1 = .ok (.ifCond .ge 8, 3) := by decide +kernel
theorem dX4_amount_4 : decode cX4_amount 4 = .ok (.iload_n 0, 1) := by decide +kernel
theorem dX4_amount_5 : decode cX4_amount 5 = .ok (.ineg, 1) := by decide +kernel
theorem dX4_amount_6 : decode cX4_amount 6 = .ok (.goto 4, 3) := by decide +kernel
theorem dX4_amount_9 : decode cX4_amount 9 = .ok (.iload_n 0, 1) := by decide +kernel
theorem dX4_amount_10 : decode cX4_amount 10 = .ok (.ireturn, 1) := by decide +kernel
