theorem dX0_init_0 : decode cX0_init 0 = .ok (.aload_n 0, 1) := by decide +kernel
theorem dX0_init_1 : decode cX0_init 1 = .ok (.invokespecial 3, 3) := by decide +kernel
theorem dX0_init_4 : decode cX0_init 4 = .ok (.aload_n 0, 1) := by decide +kernel
theorem dX0_init_5 : decode cX0_init 5 = .ok (.sipush 401, 3) := by decide +kernel
theorem dX0_init_8 : decode cX0_init 8 = .ok (.newarray .int, 2) := by decide +kernel
theorem dX0_init_10 : decode cX0_init 10 = .ok (.putfield 9, 3) := by decide +kernel
theorem dX0_init_13 : decode cX0_init 13 = .ok (.aload_n 0, 1) := by decide +kernel
theorem dX0_init_14 : decode cX0_init 14 = .ok (.sipush 401, 3) := by decide +kernel
theorem dX0_init_17 : decode cX0_init 17 = .ok (.newarray .int, 2) := by decide +kernel
theorem dX0_init_19 : decode cX0_init 19 = .ok (.putfield 15, 3) := by decide +kernel
theorem dX0_init_22 : decode cX0_init 22 = .ok (.aload_n 0, 1) := by decide +kernel
theorem dX0_init_23 : decode cX0_init 23 = .ok (.iconst 0, 1) := by decide +kernel
theorem dX0_init_24 : decode cX0_init 24 = .ok (.putfield 18, 3) := by decide +kernel
theorem dX0_init_27 : decode cX0_init 27 = .ok (.aload_n 0, 1) := by decide +kernel
theorem dX0_init_28 : decode cX0_init 28 = .ok (.iconst 0, 1) := by decide +kernel
theorem dX0_init_29 : decode cX0_init 29 = .ok (.putfield 22, 3) := by decide +kernel
theorem dX0_init_32 : decode cX0_init 32 = .ok (.aload_n 0, 1) := by decide +kernel
theorem dX0_init_33 : decode cX0_init 33 = .ok (.iconst 0, 1) := by decide +kernel
theorem dX0_init_34 : decode cX0_init 34 = .ok (.putfield 25, 3) := by decide +kernel
theorem dX0_init_37 : decode cX0_init 37 = .ok (.aload_n 0, 1) := by decide +kernel
theorem dX0_init_38 : decode cX0_init 38 = .ok (.iconst 0, 1) := by decide +kernel
theorem dX0_init_39 : decode cX0_init 39 = .ok (.putfield 28, 3) := by decide +kernel
theorem dX0_init_42 : decode cX0_init 42 = .ok (.aload_n 0, 1) := by decide +kernel
theorem dX0_init_43 : decode cX0_init 43 = .ok (.lconst 0, 1) := by decide +kernel
theorem dX0_init_44 : decode cX0_init 44 = .ok (.putfield 32, 3) := by decide +kernel
theorem dX0_init_47 : decode cX0_init 47 = .ok (.aload_n 0, 1) := by decide +kernel
theorem dX0_init_48 : decode cX0_init 48 = .ok (.iconst 0, 1) := by decide +kernel
theorem dX0_init_49 : decode cX0_init 49 = .ok (.putfield 36, 3) := by decide +kernel
theorem dX0_init_52 : decode cX0_init 52 = .ok (.aload_n 0, 1) := by decide +kernel
theorem dX0_init_53 : decode cX0_init 53 = .ok (.iconst 0, 1) := by decide +kernel
theorem dX0_init_54 : decode cX0_init 54 = .ok (.putfield 39, 3) := by decide +kernel
theorem dX0_init_57 : decode cX0_init 57 = .ok (.aload_n 0, 1) := by decide +kernel
theorem dX0_init_58 : decode cX0_init 58 = .ok (.iconst 0, 1) := by decide +kernel
theorem dX0_init_59 : decode cX0_init 59 = .ok (.putfield 42, 3) := by decide +kernel
theorem dX0_init_62 : decode cX0_init 62 = .ok (.aload_n 0, 1) := by decide +kernel
theorem dX0_init_63 : decode cX0_init 63 = .ok (.iconst 0, 1) := by decide +kernel
theorem dX0_init_64 : decode cX0_init 64 = .ok (.putfield 45, 3) := by decide +kernel
theorem dX0_init_67 : decode cX0_init 67 = .ok (.aload_n 0, 1) := by decide +kernel
theorem dX0_init_68 : decode cX0_init 68 = .ok (.iconst 0, 1) := by decide +kernel
theorem dX0_init_69 : decode cX0_init 69 = .ok (.putfield 48, 3) := by decide +kernel
theorem dX0_init_72 : decode cX0_init 72 = .ok (.return_, 1) := by decide +kernel
set_option maxRecDepth 20000 in
theorem ggX0_begin_X0_squareFromCentre : GoodIn wsX0_begin wsX0_squareFromCentre := goodIn_r _ [15, 1, 4, 2, 5, 22, 23, 24, 25, 26, 27, 28, 29, 30, 31, 32, 33] (by decide +kernel) (by decide +kernel)
set_option maxRecDepth 20000 in
theorem gX0_begin_X0_squareFromCentre : GoodIn wsX0_begin (wsV RX0 51 RX0 yX0_squareFromCentre wsX0_squareFromCentre) := goodIn_app (goodIn_of _ (by decide +kernel)) ggX0_begin_X0_squareFromCentre
set_option maxRecDepth 20000 in
theorem ggX0_begin_X0_mark : GoodIn wsX0_begin wsX0_mark := goodIn_r _ [19, 20, 1, 21, 2, 22, 23, 24, 25, 26, 27, 28, 29, 30, 31, 32, 33] (by decide +kernel) (by decide +kernel)
set_option maxRecDepth 20000 in
theorem gX0_begin_X0_mark : GoodIn wsX0_begin (wsV RX0 55 RX0 yX0_mark wsX0_mark) := goodIn_app (goodIn_of _ (by decide +kernel)) ggX0_begin_X0_mark
theorem dX0_begin_0 : decode cX0_begin 0 = .ok (.aload_n 0, 1) := by decide +kernel
theorem dX0_begin_1 : decode cX0_begin 1 = .ok (.aload_n 1, 1) := by decide +kernel
theorem dX0_begin_2 : decode cX0_begin 2 = .ok (.iconst 0, 1) := by decide +kernel
theorem dX0_begin_3 : decode cX0_begin 3 = .ok (.iaload, 1) := by decide +kernel
theorem dX0_begin_4 : decode cX0_begin 4 = .ok (.putfield 45, 3) := by decide +kernel
theorem dX0_begin_7 : decode cX0_begin 7 = .ok (.aload_n 0, 1) := by decide +kernel
theorem dX0_begin_8 : decode cX0_begin 8 = .ok (.aload_n 1, 1) := by decide +kernel
theorem dX0_begin_9 : decode cX0_begin 9 = .ok (.iconst 1, 1) := by decide +kernel
theorem dX0_begin_10 : decode cX0_begin 10 = .ok (.iaload, 1) := by decide +kernel
theorem dX0_begin_11 : decode cX0_begin 11 = .ok (.putfield 48, 3) := by decide +kernel
theorem dX0_begin_14 : decode cX0_begin 14 = .ok (.aload_n 0, 1) := by decide +kernel
theorem dX0_begin_15 : decode cX0_begin 15 = .ok (.aload_n 1, 1) := by decide +kernel
theorem dX0_begin_16 : decode cX0_begin 16 = .ok (.iconst 2, 1) := by decide +kernel
theorem dX0_begin_17 : decode cX0_begin 17 = .ok (.iaload, 1) := by decide +kernel
theorem dX0_begin_18 : decode cX0_begin 18 = .ok (.putfield 18, 3) := by decide +kernel
theorem dX0_begin_21 : decode cX0_begin 21 = .ok (.aload_n 0, 1) := by decide +kernel
theorem dX0_begin_22 : decode cX0_begin 22 = .ok (.iload_n 2, 1) := by decide +kernel
theorem dX0_begin_23 : decode cX0_begin 23 = .ok (.putfield 22, 3) := by decide +kernel
theorem dX0_begin_26 : decode cX0_begin 26 = .ok (.aload_n 0, 1) := by decide +kernel
theorem dX0_begin_27 : decode cX0_begin 27 = .ok (.iload_n 3, 1) := by decide +kernel
theorem dX0_begin_28 : decode cX0_begin 28 = .ok (.putfield 25, 3) := by decide +kernel
theorem dX0_begin_31 : decode cX0_begin 31 = .ok (.aload_n 0, 1) := by decide +kernel
theorem dX0_begin_32 : decode cX0_begin 32 = .ok (.iload 4, 2) := by decide +kernel
theorem dX0_begin_34 : decode cX0_begin 34 = .ok (.putfield 28, 3) := by decide +kernel
theorem dX0_begin_37 : decode cX0_begin 37 = .ok (.aload_n 0, 1) := by decide +kernel
theorem dX0_begin_38 : decode cX0_begin 38 = .ok (.aload_n 0, 1) := by decide +kernel
theorem dX0_begin_39 : decode cX0_begin 39 = .ok (.invokevirtual 51, 3) := by decide +kernel
theorem dX0_begin_42 : decode cX0_begin 42 = .ok (.putfield 32, 3) := by decide +kernel
theorem dX0_begin_45 : decode cX0_begin 45 = .ok (.aload_n 0, 1) := by decide +kernel
theorem dX0_begin_46 : decode cX0_begin 46 = .ok (.iconst 0, 1) := by decide +kernel
theorem dX0_begin_47 : decode cX0_begin 47 = .ok (.putfield 36, 3) := by decide +kernel
theorem dX0_begin_50 : decode cX0_begin 50 = .ok (.aload_n 0, 1) := by decide +kernel
theorem dX0_begin_51 : decode cX0_begin 51 = .ok (.iconst 0, 1) := by decide +kernel
theorem dX0_begin_52 : decode cX0_begin 52 = .ok (.putfield 39, 3) := by decide +kernel
theorem dX0_begin_55 : decode cX0_begin 55 = .ok (.aload_n 0, 1) := by decide +kernel
theorem dX0_begin_56 : decode cX0_begin 56 = .ok (.iconst 0, 1) := by decide +kernel
theorem dX0_begin_57 : decode cX0_begin 57 = .ok (.putfield 42, 3) := by decide +kernel
theorem dX0_begin_60 : decode cX0_begin 60 = .ok (.aload_n 0, 1) := by decide +kernel
theorem dX0_begin_61 : decode cX0_begin 61 = .ok (.iconst 0, 1) := by decide +kernel
theorem dX0_begin_62 : decode cX0_begin 62 = .ok (.invokevirtual 55, 3) := by decide +kernel
theorem dX0_begin_65 : decode cX0_begin 65 = .ok (.return_, 1) := by decide +kernel
set_option maxRecDepth 20000 in
theorem ggX0_walk_X0_step : GoodIn wsX0_walk wsX0_step := goodIn_r _ [13, 4, 14, 5, 15, 16, 1, 17, 18, 19, 20, 48, 49, 50, 51, 52, 53, 54, 55, 56, 57, 58, 59] (by decide +kernel) (by decide +kernel)
set_option maxRecDepth 20000 in
theorem gX0_walk_X0_step : GoodIn wsX0_walk (wsV RX0 62 RX0 yX0_step wsX0_step) := goodIn_app (goodIn_of _ (by decide +kernel)) ggX0_walk_X0_step
set_option maxRecDepth 20000 in
theorem ggX0_walk_X0_mark : GoodIn wsX0_walk wsX0_mark := goodIn_r _ [24, 7, 4, 8, 5, 48, 49, 50, 51, 52, 53, 54, 55, 56, 57, 58, 59] (by decide +kernel) (by decide +kernel)
set_option maxRecDepth 20000 in
theorem gX0_walk_X0_mark : GoodIn wsX0_walk (wsV RX0 55 RX0 yX0_mark wsX0_mark) := goodIn_app (goodIn_of _ (by decide +kernel)) ggX0_walk_X0_mark
set_option maxRecDepth 20000 in
theorem ggX0_walk_X0_measure : GoodIn wsX0_walk wsX0_measure := goodIn_r _ [28, 29, 1, 17, 18, 19, 20, 30, 31, 32, 33, 34, 35, 36, 12, 37, 4, 14, 5, 15, 38, 39, 40, 41, 42, 43, 44, 45, 46, 47, 48, 49, 50, 51, 52, 53, 54, 55, 56, 57, 58, 59] (by decide +kernel) (by decide +kernel)
set_option maxRecDepth 20000 in
theorem gX0_walk_X0_measure : GoodIn wsX0_walk (wsV RX0 66 RX0 yX0_measure wsX0_measure) := goodIn_app (goodIn_of _ (by decide +kernel)) ggX0_walk_X0_measure
theorem dX0_walk_0 : decode cX0_walk 0 = .ok (.aload_n 0, 1) := by decide +kernel
theorem dX0_walk_1 : decode cX0_walk 1 = .ok (.getfield 32, 3) := by decide +kernel
theorem dX0_walk_4 : decode cX0_walk 4 = .ok (.lconst 1, 1) := by decide +kernel
theorem dX0_walk_5 : decode cX0_walk 5 = .ok (.lcmp, 1) := by decide +kernel
theorem dX0_walk_6 : decode cX0_walk 6 = .ok (.ifCond .lt 14, 3) := by decide +kernel
theorem dX0_walk_9 : decode cX0_walk 9 = .ok (.aload_n 0, 1) := by decide +kernel
theorem dX0_walk_10 : decode cX0_walk 10 = .ok (.getfield 32, 3) := by decide +kernel
theorem dX0_walk_13 : decode cX0_walk 13 = .ok (.ldc2_w 59, 3) := by decide +kernel
theorem dX0_walk_16 : decode cX0_walk 16 = .ok (.lcmp, 1) := by decide +kernel
theorem dX0_walk_17 : decode cX0_walk 17 = .ok (.ifCond .le 5, 3) := by decide +kernel
theorem dX0_walk_20 : decode cX0_walk 20 = .ok (.iconst 0, 1) := by decide +kernel
theorem dX0_walk_21 : decode cX0_walk 21 = .ok (.ireturn, 1) := by decide +kernel
theorem dX0_walk_22 : decode cX0_walk 22 = .ok (.iconst 1, 1) := by decide +kernel
theorem dX0_walk_23 : decode cX0_walk 23 = .ok (.istore_n 3, 1) := by decide +kernel
theorem dX0_walk_24 : decode cX0_walk 24 = .ok (.iload_n 3, 1) := by decide +kernel
theorem dX0_walk_25 : decode cX0_walk 25 = .ok (.ldc 61, 2) := by decide +kernel
theorem dX0_walk_27 : decode cX0_walk 27 = .ok (.if_icmp .gt 104, 3) := by decide +kernel
theorem dX0_walk_30 : decode cX0_walk 30 = .ok (.aload_n 0, 1) := by decide +kernel
theorem dX0_walk_31 : decode cX0_walk 31 = .ok (.getfield 45, 3) := by decide +kernel
theorem dX0_walk_34 : decode cX0_walk 34 = .ok (.istore 4, 2) := by decide +kernel
theorem dX0_walk_36 : decode cX0_walk 36 = .ok (.aload_n 0, 1) := by decide +kernel
theorem dX0_walk_37 : decode cX0_walk 37 = .ok (.getfield 48, 3) := by decide +kernel
theorem dX0_walk_40 : decode cX0_walk 40 = .ok (.istore 5, 2) := by decide +kernel
theorem dX0_walk_42 : decode cX0_walk 42 = .ok (.aload_n 0, 1) := by decide +kernel
theorem dX0_walk_43 : decode cX0_walk 43 = .ok (.invokevirtual 62, 3) := by decide +kernel
theorem dX0_walk_46 : decode cX0_walk 46 = .ok (.ifCond .ne 5, 3) := by decide +kernel
theorem dX0_walk_49 : decode cX0_walk 49 = .ok (.iconst 0, 1) := by decide +kernel
theorem dX0_walk_50 : decode cX0_walk 50 = .ok (.ireturn, 1) := by decide +kernel
theorem dX0_walk_51 : decode cX0_walk 51 = .ok (.aload_n 0, 1) := by decide +kernel
theorem dX0_walk_52 : decode cX0_walk 52 = .ok (.iload_n 3, 1) := by decide +kernel
theorem dX0_walk_53 : decode cX0_walk 53 = .ok (.invokevirtual 55, 3) := by decide +kernel
theorem dX0_walk_56 : decode cX0_walk 56 = .ok (.aload_n 0, 1) := by decide +kernel
theorem dX0_walk_57 : decode cX0_walk 57 = .ok (.aload_n 0, 1) := by decide +kernel
theorem dX0_walk_58 : decode cX0_walk 58 = .ok (.getfield 45, 3) := by decide +kernel
theorem dX0_walk_61 : decode cX0_walk 61 = .ok (.iload 4, 2) := by decide +kernel
theorem dX0_walk_63 : decode cX0_walk 63 = .ok (.isub, 1) := by decide +kernel
theorem dX0_walk_64 : decode cX0_walk 64 = .ok (.aload_n 0, 1) := by decide +kernel
theorem dX0_walk_65 : decode cX0_walk 65 = .ok (.getfield 48, 3) := by decide +kernel
theorem dX0_walk_68 : decode cX0_walk 68 = .ok (.iload 5, 2) := by decide +kernel
theorem dX0_walk_70 : decode cX0_walk 70 = .ok (.isub, 1) := by decide +kernel
theorem dX0_walk_71 : decode cX0_walk 71 = .ok (.invokevirtual 66, 3) := by decide +kernel
theorem dX0_walk_74 : decode cX0_walk 74 = .ok (.aload_n 0, 1) := by decide +kernel
theorem dX0_walk_75 : decode cX0_walk 75 = .ok (.getfield 45, 3) := by decide +kernel
theorem dX0_walk_78 : decode cX0_walk 78 = .ok (.iload_n 1, 1) := by decide +kernel
theorem dX0_walk_79 : decode cX0_walk 79 = .ok (.if_icmp .ne 18, 3) := by decide +kernel
theorem dX0_walk_82 : decode cX0_walk 82 = .ok (.aload_n 0, 1) := by decide +kernel
theorem dX0_walk_83 : decode cX0_walk 83 = .ok (.getfield 48, 3) := by decide +kernel
theorem dX0_walk_86 : decode cX0_walk 86 = .ok (.iload_n 2, 1) := by decide +kernel
theorem dX0_walk_87 : decode cX0_walk 87 = .ok (.if_icmp .ne 10, 3) := by decide +kernel
theorem dX0_walk_90 : decode cX0_walk 90 = .ok (.aload_n 0, 1) := by decide +kernel
theorem dX0_walk_91 : decode cX0_walk 91 = .ok (.iload_n 3, 1) := by decide +kernel
theorem dX0_walk_92 : decode cX0_walk 92 = .ok (.putfield 36, 3) := by decide +kernel
theorem dX0_walk_95 : decode cX0_walk 95 = .ok (.iconst 1, 1) := by decide +kernel
theorem dX0_walk_96 : decode cX0_walk 96 = .ok (.ireturn, 1) := by decide +kernel
theorem dX0_walk_97 : decode cX0_walk 97 = .ok (.aload_n 0, 1) := by decide +kernel
theorem dX0_walk_98 : decode cX0_walk 98 = .ok (.getfield 45, 3) := by decide +kernel
theorem dX0_walk_101 : decode cX0_walk 101 = .ok (.aload_n 0, 1) := by decide +kernel
theorem dX0_walk_102 : decode cX0_walk 102 = .ok (.getfield 9, 3) := by decide +kernel
theorem dX0_walk_105 : decode cX0_walk 105 = .ok (.iconst 0, 1) := by decide +kernel
theorem dX0_walk_106 : decode cX0_walk 106 = .ok (.iaload, 1) := by decide +kernel
theorem dX0_walk_107 : decode cX0_walk 107 = .ok (.if_icmp .ne 18, 3) := by decide +kernel
theorem dX0_walk_110 : decode cX0_walk 110 = .ok (.aload_n 0, 1) := by decide +kernel
theorem dX0_walk_111 : decode cX0_walk 111 = .ok (.getfield 48, 3) := by decide +kernel
theorem dX0_walk_114 : decode cX0_walk 114 = .ok (.aload_n 0, 1) := by decide +kernel
theorem dX0_walk_115 : decode cX0_walk 115 = .ok (.getfield 15, 3) := by decide +kernel
theorem dX0_walk_118 : decode cX0_walk 118 = .ok (.iconst 0, 1) := by decide +kernel
theorem dX0_walk_119 : decode cX0_walk 119 = .ok (.iaload, 1) := by decide +kernel
theorem dX0_walk_120 : decode cX0_walk 120 = .ok (.if_icmp .ne 5, 3) := by decide +kernel
theorem dX0_walk_123 : decode cX0_walk 123 = .ok (.iconst 0, 1) := by decide +kernel
theorem dX0_walk_124 : decode cX0_walk 124 = .ok (.ireturn, 1) := by decide +kernel
theorem dX0_walk_125 : decode cX0_walk 125 = .ok (.iinc 3 1, 3) := by decide +kernel
theorem dX0_walk_128 : decode cX0_walk 128 = .ok (.goto (-104), 3) := by decide +kernel
theorem dX0_walk_131 : decode cX0_walk 131 = .ok (.iconst 0, 1) := by decide +kernel
theorem dX0_walk_132 : decode cX0_walk 132 = .ok (.ireturn, 1) := by decide +kernel
theorem dX0_length_0 : decode cX0_length 0 = .ok (.aload_n 0, 1) := by decide +kernel
theorem dX0_length_1 : decode cX0_length 1 = .ok (.getfield 36, 3) := by decide +kernel
theorem dX0_length_4 : decode cX0_length 4 = .ok (.ireturn, 1) := by decide +kernel
set_option maxRecDepth 20000 in
theorem ggX0_placeBehind_X0_seek : GoodIn wsX0_placeBehind wsX0_seek := goodIn_r _ [8, 9, 2, 10, 3, 11, 12, 13, 7, 14, 15, 16, 17, 18, 19, 20, 21, 22, 23, 24, 25, 26, 27, 28, 29, 30, 31, 32, 33, 34] (by decide +kernel) (by decide +kernel)
set_option maxRecDepth 20000 in
theorem gX0_placeBehind_X0_seek : GoodIn wsX0_placeBehind (wsV RX0 70 RX0 yX0_seek wsX0_seek) := goodIn_app (goodIn_of _ (by decide +kernel)) ggX0_placeBehind_X0_seek
theorem dX0_placeBehind_0 : decode cX0_placeBehind 0 = .ok (.iload_n 2, 1) := by decide +kernel
theorem dX0_placeBehind_1 : decode cX0_placeBehind 1 = .ok (.iconst 2, 1) := by decide +kernel
theorem dX0_placeBehind_2 : decode cX0_placeBehind 2 = .ok (.if_icmp .ne 8, 3) := by decide +kernel
theorem dX0_placeBehind_5 : decode cX0_placeBehind 5 = .ok (.aload_n 0, 1) := by decide +kernel
theorem dX0_placeBehind_6 : decode cX0_placeBehind 6 = .ok (.getfield 18, 3) := by decide +kernel
theorem dX0_placeBehind_9 : decode cX0_placeBehind 9 = .ok (.ireturn, 1) := by decide +kernel
theorem dX0_placeBehind_10 : decode cX0_placeBehind 10 = .ok (.aload_n 0, 1) := by decide +kernel
theorem dX0_placeBehind_11 : decode cX0_placeBehind 11 = .ok (.iload_n 1, 1) := by decide +kernel
theorem dX0_placeBehind_12 : decode cX0_placeBehind 12 = .ok (.invokevirtual 70, 3) := by decide +kernel
theorem dX0_placeBehind_15 : decode cX0_placeBehind 15 = .ok (.iload_n 2, 1) := by decide +kernel
theorem dX0_placeBehind_16 : decode cX0_placeBehind 16 = .ok (.ifCond .ne 10, 3) := by decide +kernel
theorem dX0_placeBehind_19 : decode cX0_placeBehind 19 = .ok (.aload_n 0, 1) := by decide +kernel
theorem dX0_placeBehind_20 : decode cX0_placeBehind 20 = .ok (.getfield 45, 3) := by decide +kernel
theorem dX0_placeBehind_23 : decode cX0_placeBehind 23 = .ok (.goto 7, 3) := by decide +kernel
theorem dX0_placeBehind_26 : decode cX0_placeBehind 26 = .ok (.aload_n 0, 1) := by decide +kernel
theorem dX0_placeBehind_27 : decode cX0_placeBehind 27 = .ok (.getfield 48, 3) := by decide +kernel
theorem dX0_placeBehind_30 : decode cX0_placeBehind 30 = .ok (.ireturn, 1) := by decide +kernel
theorem dX0_greatestOff_0 : decode cX0_greatestOff 0 = .ok (.aload_n 0, 1) := by decide +kernel
theorem dX0_greatestOff_1 : decode cX0_greatestOff 1 = .ok (.getfield 39, 3) := by decide +kernel
theorem dX0_greatestOff_4 : decode cX0_greatestOff 4 = .ok (.ireturn, 1) := by decide +kernel
theorem dX0_strayTicks_0 : decode cX0_strayTicks 0 = .ok (.aload_n 0, 1) := by decide +kernel
theorem dX0_strayTicks_1 : decode cX0_strayTicks 1 = .ok (.getfield 42, 3) := by decide +kernel
theorem dX0_strayTicks_4 : decode cX0_strayTicks 4 = .ok (.ireturn, 1) := by decide +kernel
theorem dX0_mark_0 : decode cX0_mark 0 = .ok (.iload_n 1, 1) := by decide +kernel
theorem dX0_mark_1 : decode cX0_mark 1 = .ok (.bipush 100, 2) := by decide +kernel
theorem dX0_mark_3 : decode cX0_mark 3 = .ok (.idiv, 1) := by decide +kernel
theorem dX0_mark_4 : decode cX0_mark 4 = .ok (.istore_n 2, 1) := by decide +kernel
theorem dX0_mark_5 : decode cX0_mark 5 = .ok (.iload_n 1, 1) := by decide +kernel
theorem dX0_mark_6 : decode cX0_mark 6 = .ok (.bipush 100, 2) := by decide +kernel
theorem dX0_mark_8 : decode cX0_mark 8 = .ok (.irem, 1) := by decide +kernel
theorem dX0_mark_9 : decode cX0_mark 9 = .ok (.ifCond .ne 34, 3) := by decide +kernel
theorem dX0_mark_12 : decode cX0_mark 12 = .ok (.iload_n 2, 1) := by decide +kernel
theorem dX0_mark_13 : decode cX0_mark 13 = .ok (.ifCond .lt 30, 3) := by decide +kernel
theorem dX0_mark_16 : decode cX0_mark 16 = .ok (.iload_n 2, 1) := by decide +kernel
theorem dX0_mark_17 : decode cX0_mark 17 = .ok (.sipush 401, 3) := by decide +kernel
theorem dX0_mark_20 : decode cX0_mark 20 = .ok (.if_icmp .ge 23, 3) := by decide +kernel
theorem dX0_mark_23 : decode cX0_mark 23 = .ok (.aload_n 0, 1) := by decide +kernel
theorem dX0_mark_24 : decode cX0_mark 24 = .ok (.getfield 9, 3) := by decide +kernel
theorem dX0_mark_27 : decode cX0_mark 27 = .ok (.iload_n 2, 1) := by decide +kernel
theorem dX0_mark_28 : decode cX0_mark 28 = .ok (.aload_n 0, 1) := by decide +kernel
theorem dX0_mark_29 : decode cX0_mark 29 = .ok (.getfield 45, 3) := by decide +kernel
theorem dX0_mark_32 : decode cX0_mark 32 = .ok (.iastore, 1) := by decide +kernel
theorem dX0_mark_33 : decode cX0_mark 33 = .ok (.aload_n 0, 1) := by decide +kernel
theorem dX0_mark_34 : decode cX0_mark 34 = .ok (.getfield 15, 3) := by decide +kernel
theorem dX0_mark_37 : decode cX0_mark 37 = .ok (.iload_n 2, 1) := by decide +kernel
theorem dX0_mark_38 : decode cX0_mark 38 = .ok (.aload_n 0, 1) := by decide +kernel
theorem dX0_mark_39 : decode cX0_mark 39 = .ok (.getfield 48, 3) := by decide +kernel
theorem dX0_mark_42 : decode cX0_mark 42 = .ok (.iastore, 1) := by decide +kernel
theorem dX0_mark_43 : decode cX0_mark 43 = .ok (.return_, 1) := by decide +kernel
set_option maxRecDepth 20000 in
theorem ggX0_seek_X0_step : GoodIn wsX0_seek wsX0_step := goodIn_r _ [9, 2, 10, 4, 11, 12, 13, 14, 15, 16, 17, 18, 19, 20, 21, 22, 23, 24, 25, 26, 27, 28, 29] (by decide +kernel) (by decide +kernel)
set_option maxRecDepth 20000 in
theorem gX0_seek_X0_step : GoodIn wsX0_seek (wsV RX0 62 RX0 yX0_step wsX0_step) := goodIn_app (goodIn_of _ (by decide +kernel)) ggX0_seek_X0_step
theorem dX0_seek_0 : decode cX0_seek 0 = .ok (.iload_n 1, 1) := by decide +kernel
theorem dX0_seek_1 : decode cX0_seek 1 = .ok (.bipush 100, 2) := by decide +kernel
theorem dX0_seek_3 : decode cX0_seek 3 = .ok (.idiv, 1) := by decide +kernel
theorem dX0_seek_4 : decode cX0_seek 4 = .ok (.istore_n 2, 1) := by decide +kernel
theorem dX0_seek_5 : decode cX0_seek 5 = .ok (.iload_n 2, 1) := by decide +kernel
theorem dX0_seek_6 : decode cX0_seek 6 = .ok (.ifCond .lt 10, 3) := by decide +kernel
theorem dX0_seek_9 : decode cX0_seek 9 = .ok (.iload_n 2, 1) := by decide +kernel
theorem dX0_seek_10 : decode cX0_seek 10 = .ok (.sipush 401, 3) := by decide +kernel
theorem dX0_seek_13 : decode cX0_seek 13 = .ok (.if_icmp .lt 4, 3) := by decide +kernel
theorem dX0_seek_16 : decode cX0_seek 16 = .ok (.return_, 1) := by decide +kernel
theorem dX0_seek_17 : decode cX0_seek 17 = .ok (.aload_n 0, 1) := by decide +kernel
theorem dX0_seek_18 : decode cX0_seek 18 = .ok (.aload_n 0, 1) := by decide +kernel
theorem dX0_seek_19 : decode cX0_seek 19 = .ok (.getfield 9, 3) := by decide +kernel
theorem dX0_seek_22 : decode cX0_seek 22 = .ok (.iload_n 2, 1) := by decide +kernel
theorem dX0_seek_23 : decode cX0_seek 23 = .ok (.iaload, 1) := by decide +kernel
theorem dX0_seek_24 : decode cX0_seek 24 = .ok (.putfield 45, 3) := by decide +kernel
theorem dX0_seek_27 : decode cX0_seek 27 = .ok (.aload_n 0, 1) := by decide +kernel
theorem dX0_seek_28 : decode cX0_seek 28 = .ok (.aload_n 0, 1) := by decide +kernel
theorem dX0_seek_29 : decode cX0_seek 29 = .ok (.getfield 15, 3) := by decide +kernel
theorem dX0_seek_32 : decode cX0_seek 32 = .ok (.iload_n 2, 1) := by decide +kernel
theorem dX0_seek_33 : decode cX0_seek 33 = .ok (.iaload, 1) := by decide +kernel
theorem dX0_seek_34 : decode cX0_seek 34 = .ok (.putfield 48, 3) := by decide +kernel
theorem dX0_seek_37 : decode cX0_seek 37 = .ok (.iload_n 2, 1) := by decide +kernel
theorem dX0_seek_38 : decode cX0_seek 38 = .ok (.bipush 100, 2) := by decide +kernel
theorem dX0_seek_40 : decode cX0_seek 40 = .ok (.imul, 1) := by decide +kernel
theorem dX0_seek_41 : decode cX0_seek 41 = .ok (.istore_n 3, 1) := by decide +kernel
theorem dX0_seek_42 : decode cX0_seek 42 = .ok (.iload_n 3, 1) := by decide +kernel
theorem dX0_seek_43 : decode cX0_seek 43 = .ok (.iload_n 1, 1) := by decide +kernel
theorem dX0_seek_44 : decode cX0_seek 44 = .ok (.if_icmp .ge 14, 3) := by decide +kernel
theorem dX0_seek_47 : decode cX0_seek 47 = .ok (.aload_n 0, 1) := by decide +kernel
theorem dX0_seek_48 : decode cX0_seek 48 = .ok (.invokevirtual 62, 3) := by decide +kernel
theorem dX0_seek_51 : decode cX0_seek 51 = .ok (.pop, 1) := by decide +kernel
theorem dX0_seek_52 : decode cX0_seek 52 = .ok (.iinc 3 1, 3) := by decide +kernel
theorem dX0_seek_55 : decode cX0_seek 55 = .ok (.goto (-13), 3) := by decide +kernel
theorem dX0_seek_58 : decode cX0_seek 58 = .ok (.return_, 1) := by decide +kernel
set_option maxRecDepth 20000 in
theorem ggX0_measure_X0_squareFromCentre : GoodIn wsX0_measure wsX0_squareFromCentre := goodIn_r _ [15, 16, 17, 18, 19, 30, 31, 32, 33, 34, 35, 36, 37, 38, 39, 40, 41] (by decide +kernel) (by decide +kernel)
set_option maxRecDepth 20000 in
theorem gX0_measure_X0_squareFromCentre : GoodIn wsX0_measure (wsV RX0 51 RX0 yX0_squareFromCentre wsX0_squareFromCentre) := goodIn_app (goodIn_of _ (by decide +kernel)) ggX0_measure_X0_squareFromCentre
set_option maxRecDepth 20000 in
theorem ggX0_measure_X3_isStray : GoodIn wsX0_measure wsX3_isStray := goodIn_r _ [22, 23, 24, 21, 25, 26, 27, 5, 28, 29, 8, 9] (by decide +kernel) (by decide +kernel)
set_option maxRecDepth 20000 in
theorem gX0_measure_X3_isStray_n83 : GoodIn wsX0_measure (wsX3_isStray) := ggX0_measure_X3_isStray
theorem dX0_measure_0 : decode cX0_measure 0 = .ok (.aload_n 0, 1) := by decide +kernel
theorem dX0_measure_1 : decode cX0_measure 1 = .ok (.aload_n 0, 1) := by decide +kernel
theorem dX0_measure_2 : decode cX0_measure 2 = .ok (.getfield 39, 3) := by decide +kernel
theorem dX0_measure_5 : decode cX0_measure 5 = .ok (.aload_n 0, 1) := by decide +kernel
theorem dX0_measure_6 : decode cX0_measure 6 = .ok (.invokevirtual 51, 3) := by decide +kernel
theorem dX0_measure_9 : decode cX0_measure 9 = .ok (.aload_n 0, 1) := by decide +kernel
theorem dX0_measure_10 : decode cX0_measure 10 = .ok (.getfield 32, 3) := by decide +kernel
theorem dX0_measure_13 : decode cX0_measure 13 = .ok (.lsub, 1) := by decide +kernel
theorem dX0_measure_14 : decode cX0_measure 14 = .ok (.invokestatic 73, 3) := by decide +kernel
theorem dX0_measure_17 : decode cX0_measure 17 = .ok (.l2i, 1) := by decide +kernel
theorem dX0_measure_18 : decode cX0_measure 18 = .ok (.invokestatic 79, 3) := by decide +kernel
theorem dX0_measure_21 : decode cX0_measure 21 = .ok (.putfield 39, 3) := by decide +kernel
theorem dX0_measure_24 : decode cX0_measure 24 = .ok (.iload_n 1, 1) := by decide +kernel
theorem dX0_measure_25 : decode cX0_measure 25 = .ok (.iload_n 2, 1) := by decide +kernel
theorem dX0_measure_26 : decode cX0_measure 26 = .ok (.iconst 0, 1) := by decide +kernel
theorem dX0_measure_27 : decode cX0_measure 27 = .ok (.invokestatic 83, 3) := by decide +kernel
theorem dX0_measure_30 : decode cX0_measure 30 = .ok (.ifCond .eq 13, 3) := by decide +kernel
theorem dX0_measure_33 : decode cX0_measure 33 = .ok (.aload_n 0, 1) := by decide +kernel
theorem dX0_measure_34 : decode cX0_measure 34 = .ok (.dup, 1) := by decide +kernel
theorem dX0_measure_35 : decode cX0_measure 35 = .ok (.getfield 42, 3) := by decide +kernel
theorem dX0_measure_38 : decode cX0_measure 38 = .ok (.iconst 1, 1) := by decide +kernel
theorem dX0_measure_39 : decode cX0_measure 39 = .ok (.iadd, 1) := by decide +kernel
theorem dX0_measure_40 : decode cX0_measure 40 = .ok (.putfield 42, 3) := by decide +kernel
theorem dX0_measure_43 : decode cX0_measure 43 = .ok (.return_, 1) := by decide +kernel
theorem dX0_squareFromCentre_0 : decode cX0_squareFromCentre 0 = .ok (.aload_n 0, 1) := by decide +kernel
theorem dX0_squareFromCentre_1 : decode cX0_squareFromCentre 1 = .ok (.getfield 45, 3) := by decide +kernel
theorem dX0_squareFromCentre_4 : decode cX0_squareFromCentre 4 = .ok (.aload_n 0, 1) := by decide +kernel
theorem dX0_squareFromCentre_5 : decode cX0_squareFromCentre 5 = .ok (.getfield 22, 3) := by decide +kernel
theorem dX0_squareFromCentre_8 : decode cX0_squareFromCentre 8 = .ok (.isub, 1) := by decide +kernel
theorem dX0_squareFromCentre_9 : decode cX0_squareFromCentre 9 = .ok (.i2l, 1) := by decide +kernel
theorem dX0_squareFromCentre_10 : decode cX0_squareFromCentre 10 = .ok (.lstore_n 1, 1) := by decide +kernel
theorem dX0_squareFromCentre_11 : decode cX0_squareFromCentre 11 = .ok (.aload_n 0, 1) := by decide +kernel
theorem dX0_squareFromCentre_12 : decode cX0_squareFromCentre 12 = .ok (.getfield 48, 3) := by decide +kernel
theorem dX0_squareFromCentre_15 : decode cX0_squareFromCentre 15 = .ok (.aload_n 0, 1) := by decide +kernel
theorem dX0_squareFromCentre_16 : decode cX0_squareFromCentre 16 = .ok (.getfield 25, 3) := by decide +kernel
theorem dX0_squareFromCentre_19 : decode cX0_squareFromCentre 19 = .ok (.isub, 1) := by decide +kernel
theorem dX0_squareFromCentre_20 : decode cX0_squareFromCentre 20 = .ok (.i2l, 1) := by decide +kernel
theorem dX0_squareFromCentre_21 : decode cX0_squareFromCentre 21 = .ok (.lstore_n 3, 1) := by decide +kernel
theorem dX0_squareFromCentre_22 : decode cX0_squareFromCentre 22 = .ok (.lload_n 1, 1) := by decide +kernel
theorem dX0_squareFromCentre_23 : decode cX0_squareFromCentre 23 = .ok (.lload_n 1, 1) := by decide +kernel
theorem dX0_squareFromCentre_24 : decode cX0_squareFromCentre 24 = .ok (.lmul, 1) := by decide +kernel
theorem dX0_squareFromCentre_25 : decode cX0_squareFromCentre 25 = .ok (.lload_n 3, 1) := by decide +kernel
theorem dX0_squareFromCentre_26 : decode cX0_squareFromCentre 26 = .ok (.lload_n 3, 1) := by decide +kernel
theorem dX0_squareFromCentre_27 : decode cX0_squareFromCentre 27 = .ok (.lmul, 1) := by decide +kernel
theorem dX0_squareFromCentre_28 : decode cX0_squareFromCentre 28 = .ok (.ladd, 1) := by decide +kernel
theorem dX0_squareFromCentre_29 : decode cX0_squareFromCentre 29 = .ok (.lreturn, 1) := by decide +kernel
theorem dX0_step_0 : decode cX0_step 0 = .ok (.aload_n 0, 1) := by decide +kernel
theorem dX0_step_1 : decode cX0_step 1 = .ok (.getfield 45, 3) := by decide +kernel
theorem dX0_step_4 : decode cX0_step 4 = .ok (.aload_n 0, 1) := by decide +kernel
theorem dX0_step_5 : decode cX0_step 5 = .ok (.getfield 22, 3) := by decide +kernel
theorem dX0_step_8 : decode cX0_step 8 = .ok (.isub, 1) := by decide +kernel
theorem dX0_step_9 : decode cX0_step 9 = .ok (.i2l, 1) := by decide +kernel
theorem dX0_step_10 : decode cX0_step 10 = .ok (.lstore_n 1, 1) := by decide +kernel
theorem dX0_step_11 : decode cX0_step 11 = .ok (.aload_n 0, 1) := by decide +kernel
theorem dX0_step_12 : decode cX0_step 12 = .ok (.getfield 48, 3) := by decide +kernel
theorem dX0_step_15 : decode cX0_step 15 = .ok (.aload_n 0, 1) := by decide +kernel
theorem dX0_step_16 : decode cX0_step 16 = .ok (.getfield 25, 3) := by decide +kernel
theorem dX0_step_19 : decode cX0_step 19 = .ok (.isub, 1) := by decide +kernel
theorem dX0_step_20 : decode cX0_step 20 = .ok (.i2l, 1) := by decide +kernel
theorem dX0_step_21 : decode cX0_step 21 = .ok (.lstore_n 3, 1) := by decide +kernel
theorem dX0_step_22 : decode cX0_step 22 = .ok (.iconst (-1), 1) := by decide +kernel
theorem dX0_step_23 : decode cX0_step 23 = .ok (.istore 5, 2) := by decide +kernel
theorem dX0_step_25 : decode cX0_step 25 = .ok (.lconst 0, 1) := by decide +kernel
theorem dX0_step_26 : decode cX0_step 26 = .ok (.lstore 6, 2) := by decide +kernel
theorem dX0_step_28 : decode cX0_step 28 = .ok (.iconst 0, 1) := by decide +kernel
theorem dX0_step_29 : decode cX0_step 29 = .ok (.istore 8, 2) := by decide +kernel
theorem dX0_step_31 : decode cX0_step 31 = .ok (.iload 8, 2) := by decide +kernel
theorem dX0_step_33 : decode cX0_step 33 = .ok (.bipush 8, 2) := by decide +kernel
theorem dX0_step_35 : decode cX0_step 35 = .ok (.if_icmp .ge 108, 3) := by decide +kernel
theorem dX0_step_38 : decode cX0_step 38 = .ok (.lload_n 1, 1) := by decide +kernel
theorem dX0_step_39 : decode cX0_step 39 = .ok (.getstatic 87, 3) := by decide +kernel
theorem dX0_step_42 : decode cX0_step 42 = .ok (.iload 8, 2) := by decide +kernel
theorem dX0_step_44 : decode cX0_step 44 = .ok (.iaload, 1) := by decide +kernel
theorem dX0_step_45 : decode cX0_step 45 = .ok (.i2l, 1) := by decide +kernel
theorem dX0_step_46 : decode cX0_step 46 = .ok (.ladd, 1) := by decide +kernel
theorem dX0_step_47 : decode cX0_step 47 = .ok (.lstore 9, 2) := by decide +kernel
theorem dX0_step_49 : decode cX0_step 49 = .ok (.lload_n 3, 1) := by decide +kernel
theorem dX0_step_50 : decode cX0_step 50 = .ok (.getstatic 90, 3) := by decide +kernel
theorem dX0_step_53 : decode cX0_step 53 = .ok (.iload 8, 2) := by decide +kernel
theorem dX0_step_55 : decode cX0_step 55 = .ok (.iaload, 1) := by decide +kernel
theorem dX0_step_56 : decode cX0_step 56 = .ok (.i2l, 1) := by decide +kernel
theorem dX0_step_57 : decode cX0_step 57 = .ok (.ladd, 1) := by decide +kernel
theorem dX0_step_58 : decode cX0_step 58 = .ok (.lstore 11, 2) := by decide +kernel
theorem dX0_step_60 : decode cX0_step 60 = .ok (.lload_n 1, 1) := by decide +kernel
theorem dX0_step_61 : decode cX0_step 61 = .ok (.lload 11, 2) := by decide +kernel
theorem dX0_step_63 : decode cX0_step 63 = .ok (.lmul, 1) := by decide +kernel
theorem dX0_step_64 : decode cX0_step 64 = .ok (.lload_n 3, 1) := by decide +kernel
theorem dX0_step_65 : decode cX0_step 65 = .ok (.lload 9, 2) := by decide +kernel
theorem dX0_step_67 : decode cX0_step 67 = .ok (.lmul, 1) := by decide +kernel
theorem dX0_step_68 : decode cX0_step 68 = .ok (.lsub, 1) := by decide +kernel
theorem dX0_step_69 : decode cX0_step 69 = .ok (.lstore 13, 2) := by decide +kernel
theorem dX0_step_71 : decode cX0_step 71 = .ok (.aload_n 0, 1) := by decide +kernel
theorem dX0_step_72 : decode cX0_step 72 = .ok (.getfield 28, 3) := by decide +kernel
theorem dX0_step_75 : decode cX0_step 75 = .ok (.ifCond .eq 13, 3) := by decide +kernel
theorem dX0_step_78 : decode cX0_step 78 = .ok (.lload 13, 2) := by decide +kernel
theorem dX0_step_80 : decode cX0_step 80 = .ok (.lconst 0, 1) := by decide +kernel
theorem dX0_step_81 : decode cX0_step 81 = .ok (.lcmp, 1) := by decide +kernel
theorem dX0_step_82 : decode cX0_step 82 = .ok (.ifCond .le 55, 3) := by decide +kernel
theorem dX0_step_85 : decode cX0_step 85 = .ok (.goto 10, 3) := by decide +kernel
theorem dX0_step_88 : decode cX0_step 88 = .ok (.lload 13, 2) := by decide +kernel
theorem dX0_step_90 : decode cX0_step 90 = .ok (.lconst 0, 1) := by decide +kernel
theorem dX0_step_91 : decode cX0_step 91 = .ok (.lcmp, 1) := by decide +kernel
theorem dX0_step_92 : decode cX0_step 92 = .ok (.ifCond .ge 45, 3) := by decide +kernel
theorem dX0_step_95 : decode cX0_step 95 = .ok (.lload 9, 2) := by decide +kernel
theorem dX0_step_97 : decode cX0_step 97 = .ok (.lload 9, 2) := by decide +kernel
theorem dX0_step_99 : decode cX0_step 99 = .ok (.lmul, 1) := by decide +kernel
theorem dX0_step_100 : decode cX0_step 100 = .ok (.lload 11, 2) := by decide +kernel
theorem dX0_step_102 : decode cX0_step 102 = .ok (.lload 11, 2) := by decide +kernel
theorem dX0_step_104 : decode cX0_step 104 = .ok (.lmul, 1) := by decide +kernel
theorem dX0_step_105 : decode cX0_step 105 = .ok (.ladd, 1) := by decide +kernel
theorem dX0_step_106 : decode cX0_step 106 = .ok (.aload_n 0, 1) := by decide +kernel
theorem dX0_step_107 : decode cX0_step 107 = .ok (.getfield 32, 3) := by decide +kernel
theorem dX0_step_110 : decode cX0_step 110 = .ok (.lsub, 1) := by decide +kernel
theorem dX0_step_111 : decode cX0_step 111 = .ok (.invokestatic 73, 3) := by decide +kernel
theorem dX0_step_114 : decode cX0_step 114 = .ok (.lstore 15, 2) := by decide +kernel
theorem dX0_step_116 : decode cX0_step 116 = .ok (.iload 5, 2) := by decide +kernel
theorem dX0_step_118 : decode cX0_step 118 = .ok (.ifCond .lt 11, 3) := by decide +kernel
theorem dX0_step_121 : decode cX0_step 121 = .ok (.lload 15, 2) := by decide +kernel
theorem dX0_step_123 : decode cX0_step 123 = .ok (.lload 6, 2) := by decide +kernel
theorem dX0_step_125 : decode cX0_step 125 = .ok (.lcmp, 1) := by decide +kernel
theorem dX0_step_126 : decode cX0_step 126 = .ok (.ifCond .ge 11, 3) := by decide +kernel
theorem dX0_step_129 : decode cX0_step 129 = .ok (.iload 8, 2) := by decide +kernel
theorem dX0_step_131 : decode cX0_step 131 = .ok (.istore 5, 2) := by decide +kernel
theorem dX0_step_133 : decode cX0_step 133 = .ok (.lload 15, 2) := by decide +kernel
theorem dX0_step_135 : decode cX0_step 135 = .ok (.lstore 6, 2) := by decide +kernel
theorem dX0_step_137 : decode cX0_step 137 = .ok (.iinc 8 1, 3) := by decide +kernel
theorem dX0_step_140 : decode cX0_step 140 = .ok (.goto (-109), 3) := by decide +kernel
theorem dX0_step_143 : decode cX0_step 143 = .ok (.iload 5, 2) := by decide +kernel
theorem dX0_step_145 : decode cX0_step 145 = .ok (.ifCond .ge 5, 3) := by decide +kernel
theorem dX0_step_148 : decode cX0_step 148 = .ok (.iconst 0, 1) := by decide +kernel
theorem dX0_step_149 : decode cX0_step 149 = .ok (.ireturn, 1) := by decide +kernel
theorem dX0_step_150 : decode cX0_step 150 = .ok (.aload_n 0, 1) := by decide +kernel
theorem dX0_step_151 : decode cX0_step 151 = .ok (.dup, 1) := by decide +kernel
theorem dX0_step_152 : decode cX0_step 152 = .ok (.getfield 45, 3) := by decide +kernel
theorem dX0_step_155 : decode cX0_step 155 = .ok (.getstatic 87, 3) := by decide +kernel
theorem dX0_step_158 : decode cX0_step 158 = .ok (.iload 5, 2) := by decide +kernel
theorem dX0_step_160 : decode cX0_step 160 = .ok (.iaload, 1) := by decide +kernel
theorem dX0_step_161 : decode cX0_step 161 = .ok (.iadd, 1) := by decide +kernel
theorem dX0_step_162 : decode cX0_step 162 = .ok (.putfield 45, 3) := by decide +kernel
theorem dX0_step_165 : decode cX0_step 165 = .ok (.aload_n 0, 1) := by decide +kernel
theorem dX0_step_166 : decode cX0_step 166 = .ok (.dup, 1) := by decide +kernel
theorem dX0_step_167 : decode cX0_step 167 = .ok (.getfield 48, 3) := by decide +kernel
theorem dX0_step_170 : decode cX0_step 170 = .ok (.getstatic 90, 3) := by decide +kernel
theorem dX0_step_173 : decode cX0_step 173 = .ok (.iload 5, 2) := by decide +kernel
theorem dX0_step_175 : decode cX0_step 175 = .ok (.iaload, 1) := by decide +kernel
theorem dX0_step_176 : decode cX0_step 176 = .ok (.iadd, 1) := by decide +kernel
theorem dX0_step_177 : decode cX0_step 177 = .ok (.putfield 48, 3) := by decide +kernel
theorem dX0_step_180 : decode cX0_step 180 = .ok (.iconst 1, 1) := by decide +kernel
theorem dX0_step_181 : decode cX0_step 181 = .ok (.ireturn, 1) := by decide +kernel
set_option maxRecDepth 20000 in
theorem ggX1_init_X2_init : GoodIn wsX1_init wsX2_init := goodIn_r _ [8, 9, 10, 11] (by decide +kernel) (by decide +kernel)
set_option maxRecDepth 20000 in
theorem gX1_init_X2_init_n3 : GoodIn wsX1_init (wsX2_init) := ggX1_init_X2_init
theorem dX1_init_0 : decode cX1_init 0 = .ok (.aload_n 0, 1) := by decide +kernel
theorem dX1_init_1 : decode cX1_init 1 = .ok (.invokespecial 3, 3) := by decide +kernel
theorem dX1_init_4 : decode cX1_init 4 = .ok (.aload_n 0, 1) := by decide +kernel
theorem dX1_init_5 : decode cX1_init 5 = .ok (.iconst 3, 1) := by decide +kernel
theorem dX1_init_6 : decode cX1_init 6 = .ok (.newarray .int, 2) := by decide +kernel
theorem dX1_init_8 : decode cX1_init 8 = .ok (.putfield 9, 3) := by decide +kernel
theorem dX1_init_11 : decode cX1_init 11 = .ok (.aload_n 0, 1) := by decide +kernel
theorem dX1_init_12 : decode cX1_init 12 = .ok (.iconst 3, 1) := by decide +kernel
theorem dX1_init_13 : decode cX1_init 13 = .ok (.newarray .int, 2) := by decide +kernel
theorem dX1_init_15 : decode cX1_init 15 = .ok (.putfield 15, 3) := by decide +kernel
theorem dX1_init_18 : decode cX1_init 18 = .ok (.aload_n 0, 1) := by decide +kernel
theorem dX1_init_19 : decode cX1_init 19 = .ok (.iconst 0, 1) := by decide +kernel
theorem dX1_init_20 : decode cX1_init 20 = .ok (.putfield 18, 3) := by decide +kernel
theorem dX1_init_23 : decode cX1_init 23 = .ok (.aload_n 0, 1) := by decide +kernel
theorem dX1_init_24 : decode cX1_init 24 = .ok (.iconst (-1), 1) := by decide +kernel
theorem dX1_init_25 : decode cX1_init 25 = .ok (.putfield 22, 3) := by decide +kernel
theorem dX1_init_28 : decode cX1_init 28 = .ok (.return_, 1) := by decide +kernel
set_option maxRecDepth 20000 in
theorem ggX1_walk_X3_greatestAmount : GoodIn wsX1_walk wsX3_greatestAmount := goodIn_r _ [7, 8, 9, 10, 11, 12, 13, 14] (by decide +kernel) (by decide +kernel)
set_option maxRecDepth 20000 in
theorem gX1_walk_X3_greatestAmount_n25 : GoodIn wsX1_walk (wsX3_greatestAmount) := ggX1_walk_X3_greatestAmount
theorem dX1_walk_0 : decode cX1_walk 0 = .ok (.iconst 0, 1) := by decide +kernel
theorem dX1_walk_1 : decode cX1_walk 1 = .ok (.istore 5, 2) := by decide +kernel
theorem dX1_walk_3 : decode cX1_walk 3 = .ok (.iload 5, 2) := by decide +kernel
theorem dX1_walk_5 : decode cX1_walk 5 = .ok (.iconst 3, 1) := by decide +kernel
theorem dX1_walk_6 : decode cX1_walk 6 = .ok (.if_icmp .ge 20, 3) := by decide +kernel
theorem dX1_walk_9 : decode cX1_walk 9 = .ok (.aload_n 0, 1) := by decide +kernel
theorem dX1_walk_10 : decode cX1_walk 10 = .ok (.getfield 9, 3) := by decide +kernel
theorem dX1_walk_13 : decode cX1_walk 13 = .ok (.iload 5, 2) := by decide +kernel
theorem dX1_walk_15 : decode cX1_walk 15 = .ok (.aload_n 1, 1) := by decide +kernel
theorem dX1_walk_16 : decode cX1_walk 16 = .ok (.iload 5, 2) := by decide +kernel
theorem dX1_walk_18 : decode cX1_walk 18 = .ok (.iaload, 1) := by decide +kernel
theorem dX1_walk_19 : decode cX1_walk 19 = .ok (.iastore, 1) := by decide +kernel
theorem dX1_walk_20 : decode cX1_walk 20 = .ok (.iinc 5 1, 3) := by decide +kernel
theorem dX1_walk_23 : decode cX1_walk 23 = .ok (.goto (-20), 3) := by decide +kernel
theorem dX1_walk_26 : decode cX1_walk 26 = .ok (.aload_n 0, 1) := by decide +kernel
theorem dX1_walk_27 : decode cX1_walk 27 = .ok (.getfield 15, 3) := by decide +kernel
theorem dX1_walk_30 : decode cX1_walk 30 = .ok (.iconst 0, 1) := by decide +kernel
theorem dX1_walk_31 : decode cX1_walk 31 = .ok (.iload_n 2, 1) := by decide +kernel
theorem dX1_walk_32 : decode cX1_walk 32 = .ok (.aload_n 0, 1) := by decide +kernel
theorem dX1_walk_33 : decode cX1_walk 33 = .ok (.getfield 9, 3) := by decide +kernel
theorem dX1_walk_36 : decode cX1_walk 36 = .ok (.iconst 0, 1) := by decide +kernel
theorem dX1_walk_37 : decode cX1_walk 37 = .ok (.iaload, 1) := by decide +kernel
theorem dX1_walk_38 : decode cX1_walk 38 = .ok (.isub, 1) := by decide +kernel
theorem dX1_walk_39 : decode cX1_walk 39 = .ok (.iastore, 1) := by decide +kernel
theorem dX1_walk_40 : decode cX1_walk 40 = .ok (.aload_n 0, 1) := by decide +kernel
theorem dX1_walk_41 : decode cX1_walk 41 = .ok (.getfield 15, 3) := by decide +kernel
theorem dX1_walk_44 : decode cX1_walk 44 = .ok (.iconst 1, 1) := by decide +kernel
theorem dX1_walk_45 : decode cX1_walk 45 = .ok (.iload_n 3, 1) := by decide +kernel
theorem dX1_walk_46 : decode cX1_walk 46 = .ok (.aload_n 0, 1) := by decide +kernel
theorem dX1_walk_47 : decode cX1_walk 47 = .ok (.getfield 9, 3) := by decide +kernel
theorem dX1_walk_50 : decode cX1_walk 50 = .ok (.iconst 1, 1) := by decide +kernel
theorem dX1_walk_51 : decode cX1_walk 51 = .ok (.iaload, 1) := by decide +kernel
theorem dX1_walk_52 : decode cX1_walk 52 = .ok (.isub, 1) := by decide +kernel
theorem dX1_walk_53 : decode cX1_walk 53 = .ok (.iastore, 1) := by decide +kernel
theorem dX1_walk_54 : decode cX1_walk 54 = .ok (.aload_n 0, 1) := by decide +kernel
theorem dX1_walk_55 : decode cX1_walk 55 = .ok (.getfield 15, 3) := by decide +kernel
theorem dX1_walk_58 : decode cX1_walk 58 = .ok (.iconst 2, 1) := by decide +kernel
theorem dX1_walk_59 : decode cX1_walk 59 = .ok (.iload 4, 2) := by decide +kernel
theorem dX1_walk_61 : decode cX1_walk 61 = .ok (.aload_n 0, 1) := by decide +kernel
theorem dX1_walk_62 : decode cX1_walk 62 = .ok (.getfield 9, 3) := by decide +kernel
theorem dX1_walk_65 : decode cX1_walk 65 = .ok (.iconst 2, 1) := by decide +kernel
theorem dX1_walk_66 : decode cX1_walk 66 = .ok (.iaload, 1) := by decide +kernel
theorem dX1_walk_67 : decode cX1_walk 67 = .ok (.isub, 1) := by decide +kernel
theorem dX1_walk_68 : decode cX1_walk 68 = .ok (.iastore, 1) := by decide +kernel
theorem dX1_walk_69 : decode cX1_walk 69 = .ok (.aload_n 0, 1) := by decide +kernel
theorem dX1_walk_70 : decode cX1_walk 70 = .ok (.aload_n 0, 1) := by decide +kernel
theorem dX1_walk_71 : decode cX1_walk 71 = .ok (.getfield 15, 3) := by decide +kernel
theorem dX1_walk_74 : decode cX1_walk 74 = .ok (.iconst 0, 1) := by decide +kernel
theorem dX1_walk_75 : decode cX1_walk 75 = .ok (.iaload, 1) := by decide +kernel
theorem dX1_walk_76 : decode cX1_walk 76 = .ok (.aload_n 0, 1) := by decide +kernel
theorem dX1_walk_77 : decode cX1_walk 77 = .ok (.getfield 15, 3) := by decide +kernel
theorem dX1_walk_80 : decode cX1_walk 80 = .ok (.iconst 1, 1) := by decide +kernel
theorem dX1_walk_81 : decode cX1_walk 81 = .ok (.iaload, 1) := by decide +kernel
theorem dX1_walk_82 : decode cX1_walk 82 = .ok (.aload_n 0, 1) := by decide +kernel
theorem dX1_walk_83 : decode cX1_walk 83 = .ok (.getfield 15, 3) := by decide +kernel
theorem dX1_walk_86 : decode cX1_walk 86 = .ok (.iconst 2, 1) := by decide +kernel
theorem dX1_walk_87 : decode cX1_walk 87 = .ok (.iaload, 1) := by decide +kernel
theorem dX1_walk_88 : decode cX1_walk 88 = .ok (.invokestatic 25, 3) := by decide +kernel
theorem dX1_walk_91 : decode cX1_walk 91 = .ok (.putfield 18, 3) := by decide +kernel
theorem dX1_walk_94 : decode cX1_walk 94 = .ok (.aload_n 0, 1) := by decide +kernel
theorem dX1_walk_95 : decode cX1_walk 95 = .ok (.iconst (-1), 1) := by decide +kernel
theorem dX1_walk_96 : decode cX1_walk 96 = .ok (.putfield 22, 3) := by decide +kernel
theorem dX1_walk_99 : decode cX1_walk 99 = .ok (.return_, 1) := by decide +kernel
theorem dX1_length_0 : decode cX1_length 0 = .ok (.aload_n 0, 1) := by decide +kernel
theorem dX1_length_1 : decode cX1_length 1 = .ok (.getfield 18, 3) := by decide +kernel
theorem dX1_length_4 : decode cX1_length 4 = .ok (.ireturn, 1) := by decide +kernel
set_option maxRecDepth 20000 in
theorem ggX1_placeBehind_J9_floorDiv_f86c9 : GoodIn wsX1_placeBehind wsJ9_floorDiv_f86c9 := goodIn_r _ [8] (by decide +kernel) (by decide +kernel)
set_option maxRecDepth 20000 in
theorem gX1_placeBehind_J9_floorDiv_f86c9 : GoodIn wsX1_placeBehind (va_wsS RX1 31 yJ9_floorDiv_f86c9 wsJ9_floorDiv_f86c9) := goodIn_app (goodIn_of _ (by decide +kernel)) ggX1_placeBehind_J9_floorDiv_f86c9
theorem dX1_placeBehind_0 : decode cX1_placeBehind 0 = .ok (.aload_n 0, 1) := by decide +kernel
theorem dX1_placeBehind_1 : decode cX1_placeBehind 1 = .ok (.getfield 18, 3) := by decide +kernel
theorem dX1_placeBehind_4 : decode cX1_placeBehind 4 = .ok (.ifCond .ne 10, 3) := by decide +kernel
theorem dX1_placeBehind_7 : decode cX1_placeBehind 7 = .ok (.aload_n 0, 1) := by decide +kernel
theorem dX1_placeBehind_8 : decode cX1_placeBehind 8 = .ok (.getfield 9, 3) := by decide +kernel
theorem dX1_placeBehind_11 : decode cX1_placeBehind 11 = .ok (.iload_n 2, 1) := by decide +kernel
theorem dX1_placeBehind_12 : decode cX1_placeBehind 12 = .ok (.iaload, 1) := by decide +kernel
theorem dX1_placeBehind_13 : decode cX1_placeBehind 13 = .ok (.ireturn, 1) := by decide +kernel
theorem dX1_placeBehind_14 : decode cX1_placeBehind 14 = .ok (.aload_n 0, 1) := by decide +kernel
theorem dX1_placeBehind_15 : decode cX1_placeBehind 15 = .ok (.getfield 18, 3) := by decide +kernel
theorem dX1_placeBehind_18 : decode cX1_placeBehind 18 = .ok (.i2l, 1) := by decide +kernel
theorem dX1_placeBehind_19 : decode cX1_placeBehind 19 = .ok (.lstore_n 3, 1) := by decide +kernel
theorem dX1_placeBehind_20 : decode cX1_placeBehind 20 = .ok (.aload_n 0, 1) := by decide +kernel
theorem dX1_placeBehind_21 : decode cX1_placeBehind 21 = .ok (.getfield 9, 3) := by decide +kernel
theorem dX1_placeBehind_24 : decode cX1_placeBehind 24 = .ok (.iload_n 2, 1) := by decide +kernel
