theorem dX4_begin_0 : decode cX4_begin 0 = .ok (.aload_n 0, 1) := by decide +kernel
theorem dX4_begin_1 : decode cX4_begin 1 = .ok (.iconst 1, 1) := by decide +kernel
theorem dX4_begin_2 : decode cX4_begin 2 = .ok (.putfield 32, 3) := by decide +kernel
theorem dX4_begin_5 : decode cX4_begin 5 = .ok (.aload_n 0, 1) := by decide +kernel
theorem dX4_begin_6 : decode cX4_begin 6 = .ok (.iload_n 1, 1) := by decide +kernel
theorem dX4_begin_7 : decode cX4_begin 7 = .ok (.putfield 42, 3) := by decide +kernel
theorem dX4_begin_10 : decode cX4_begin 10 = .ok (.aload_n 0, 1) := by decide +kernel
theorem dX4_begin_11 : decode cX4_begin 11 = .ok (.aload_n 0, 1) := by decide +kernel
theorem dX4_begin_12 : decode cX4_begin 12 = .ok (.getfield 22, 3) := by decide +kernel
theorem dX4_begin_15 : decode cX4_begin 15 = .ok (.putfield 45, 3) := by decide +kernel
theorem dX4_begin_18 : decode cX4_begin 18 = .ok (.aload_n 0, 1) := by decide +kernel
theorem dX4_begin_19 : decode cX4_begin 19 = .ok (.aload_n 0, 1) := by decide +kernel
theorem dX4_begin_20 : decode cX4_begin 20 = .ok (.getfield 26, 3) := by decide +kernel
theorem dX4_begin_23 : decode cX4_begin 23 = .ok (.putfield 48, 3) := by decide +kernel
theorem dX4_begin_26 : decode cX4_begin 26 = .ok (.aload_n 0, 1) := by decide +kernel
theorem dX4_begin_27 : decode cX4_begin 27 = .ok (.aload_n 0, 1) := by decide +kernel
theorem dX4_begin_28 : decode cX4_begin 28 = .ok (.getfield 29, 3) := by decide +kernel
theorem dX4_begin_31 : decode cX4_begin 31 = .ok (.putfield 51, 3) := by decide +kernel
theorem dX4_begin_34 : decode cX4_begin 34 = .ok (.aload_n 0, 1) := by decide +kernel
theorem dX4_begin_35 : decode cX4_begin 35 = .ok (.iload_n 2, 1) := by decide +kernel
theorem dX4_begin_36 : decode cX4_begin 36 = .ok (.putfield 36, 3) := by decide +kernel
theorem dX4_begin_39 : decode cX4_begin 39 = .ok (.aload_n 0, 1) := by decide +kernel
theorem dX4_begin_40 : decode cX4_begin 40 = .ok (.iconst 0, 1) := by decide +kernel
theorem dX4_begin_41 : decode cX4_begin 41 = .ok (.putfield 39, 3) := by decide +kernel
theorem dX4_begin_44 : decode cX4_begin 44 = .ok (.return_, 1) := by decide +kernel
set_option maxRecDepth 20000 in
theorem ggX4_line_X4_isPlace : GoodIn wsX4_line wsX4_isPlace := goodIn_r _ [15] (by decide +kernel) (by decide +kernel)
set_option maxRecDepth 20000 in
theorem gX4_line_X4_isPlace : GoodIn wsX4_line (va_wsS RX4 18 yX4_isPlace wsX4_isPlace) := goodIn_app (goodIn_of _ (by decide +kernel)) ggX4_line_X4_isPlace
set_option maxRecDepth 20000 in
theorem ggX4_line_X4_amount : GoodIn wsX4_line wsX4_amount := goodIn_r _ [18] (by decide +kernel) (by decide +kernel)
set_option maxRecDepth 20000 in
theorem gX4_line_X4_amount : GoodIn wsX4_line (va_wsS RX4 63 yX4_amount wsX4_amount) := goodIn_app (goodIn_of _ (by decide +kernel)) ggX4_line_X4_amount
set_option maxRecDepth 20000 in
theorem ggX4_line_X4_begin : GoodIn wsX4_line wsX4_begin := goodIn_r _ [22, 23, 24, 1, 25, 3, 26, 5, 27, 11, 28, 29, 30, 31, 32, 33, 34, 35, 36, 37, 38, 39, 40, 41, 42, 43] (by decide +kernel) (by decide +kernel)
set_option maxRecDepth 20000 in
theorem gX4_line_X4_begin : GoodIn wsX4_line (wsV RX4 73 RX4 yX4_begin wsX4_begin) := goodIn_app (goodIn_of _ (by decide +kernel)) ggX4_line_X4_begin
theorem dX4_line_0 : decode cX4_line 0 = .ok (.iload_n 1, 1) := by decide +kernel
theorem dX4_line_1 : decode cX4_line 1 = .ok (.invokestatic 18, 3) := by decide +kernel
theorem dX4_line_4 : decode cX4_line 4 = .ok (.ifCond .eq 17, 3) := by decide +kernel
theorem dX4_line_7 : decode cX4_line 7 = .ok (.iload_n 2, 1) := by decide +kernel
theorem dX4_line_8 : decode cX4_line 8 = .ok (.invokestatic 18, 3) := by decide +kernel
theorem dX4_line_11 : decode cX4_line 11 = .ok (.ifCond .eq 10, 3) := by decide +kernel
theorem dX4_line_14 : decode cX4_line 14 = .ok (.iload_n 3, 1) := by decide +kernel
theorem dX4_line_15 : decode cX4_line 15 = .ok (.invokestatic 18, 3) := by decide +kernel
theorem dX4_line_18 : decode cX4_line 18 = .ok (.ifCond .ne 5, 3) := by decide +kernel
theorem dX4_line_21 : decode cX4_line 21 = .ok (.iconst (-1), 1) := by decide +kernel
theorem dX4_line_22 : decode cX4_line 22 = .ok (.ireturn, 1) := by decide +kernel
theorem dX4_line_23 : decode cX4_line 23 = .ok (.aload_n 0, 1) := by decide +kernel
theorem dX4_line_24 : decode cX4_line 24 = .ok (.iload_n 1, 1) := by decide +kernel
theorem dX4_line_25 : decode cX4_line 25 = .ok (.aload_n 0, 1) := by decide +kernel
theorem dX4_line_26 : decode cX4_line 26 = .ok (.getfield 22, 3) := by decide +kernel
theorem dX4_line_29 : decode cX4_line 29 = .ok (.isub, 1) := by decide +kernel
theorem dX4_line_30 : decode cX4_line 30 = .ok (.putfield 54, 3) := by decide +kernel
theorem dX4_line_33 : decode cX4_line 33 = .ok (.aload_n 0, 1) := by decide +kernel
theorem dX4_line_34 : decode cX4_line 34 = .ok (.iload_n 2, 1) := by decide +kernel
theorem dX4_line_35 : decode cX4_line 35 = .ok (.aload_n 0, 1) := by decide +kernel
theorem dX4_line_36 : decode cX4_line 36 = .ok (.getfield 26, 3) := by decide +kernel
theorem dX4_line_39 : decode cX4_line 39 = .ok (.isub, 1) := by decide +kernel
theorem dX4_line_40 : decode cX4_line 40 = .ok (.putfield 57, 3) := by decide +kernel
theorem dX4_line_43 : decode cX4_line 43 = .ok (.aload_n 0, 1) := by decide +kernel
theorem dX4_line_44 : decode cX4_line 44 = .ok (.iload_n 3, 1) := by decide +kernel
theorem dX4_line_45 : decode cX4_line 45 = .ok (.aload_n 0, 1) := by decide +kernel
theorem dX4_line_46 : decode cX4_line 46 = .ok (.getfield 29, 3) := by decide +kernel
theorem dX4_line_49 : decode cX4_line 49 = .ok (.isub, 1) := by decide +kernel
theorem dX4_line_50 : decode cX4_line 50 = .ok (.putfield 60, 3) := by decide +kernel
theorem dX4_line_53 : decode cX4_line 53 = .ok (.aload_n 0, 1) := by decide +kernel
theorem dX4_line_54 : decode cX4_line 54 = .ok (.iconst 0, 1) := by decide +kernel
theorem dX4_line_55 : decode cX4_line 55 = .ok (.aload_n 0, 1) := by decide +kernel
theorem dX4_line_56 : decode cX4_line 56 = .ok (.getfield 54, 3) := by decide +kernel
theorem dX4_line_59 : decode cX4_line 59 = .ok (.invokestatic 63, 3) := by decide +kernel
theorem dX4_line_62 : decode cX4_line 62 = .ok (.aload_n 0, 1) := by decide +kernel
theorem dX4_line_63 : decode cX4_line 63 = .ok (.getfield 57, 3) := by decide +kernel
theorem dX4_line_66 : decode cX4_line 66 = .ok (.invokestatic 63, 3) := by decide +kernel
theorem dX4_line_69 : decode cX4_line 69 = .ok (.aload_n 0, 1) := by decide +kernel
theorem dX4_line_70 : decode cX4_line 70 = .ok (.getfield 60, 3) := by decide +kernel
theorem dX4_line_73 : decode cX4_line 73 = .ok (.invokestatic 63, 3) := by decide +kernel
theorem dX4_line_76 : decode cX4_line 76 = .ok (.invokestatic 67, 3) := by decide +kernel
theorem dX4_line_79 : decode cX4_line 79 = .ok (.invokestatic 67, 3) := by decide +kernel
theorem dX4_line_82 : decode cX4_line 82 = .ok (.invokevirtual 73, 3) := by decide +kernel
theorem dX4_line_85 : decode cX4_line 85 = .ok (.aload_n 0, 1) := by decide +kernel
theorem dX4_line_86 : decode cX4_line 86 = .ok (.iload_n 1, 1) := by decide +kernel
theorem dX4_line_87 : decode cX4_line 87 = .ok (.putfield 22, 3) := by decide +kernel
theorem dX4_line_90 : decode cX4_line 90 = .ok (.aload_n 0, 1) := by decide +kernel
theorem dX4_line_91 : decode cX4_line 91 = .ok (.iload_n 2, 1) := by decide +kernel
theorem dX4_line_92 : decode cX4_line 92 = .ok (.putfield 26, 3) := by decide +kernel
theorem dX4_line_95 : decode cX4_line 95 = .ok (.aload_n 0, 1) := by decide +kernel
theorem dX4_line_96 : decode cX4_line 96 = .ok (.iload_n 3, 1) := by decide +kernel
theorem dX4_line_97 : decode cX4_line 97 = .ok (.putfield 29, 3) := by decide +kernel
theorem dX4_line_100 : decode cX4_line 100 = .ok (.aload_n 0, 1) := by decide +kernel
theorem dX4_line_101 : decode cX4_line 101 = .ok (.getfield 36, 3) := by decide +kernel
theorem dX4_line_104 : decode cX4_line 104 = .ok (.ireturn, 1) := by decide +kernel
theorem dX4_eastOf_0 : decode cX4_eastOf 0 = .ok (.iload_n 0, 1) := by decide +kernel
theorem dX4_eastOf_1 : decode cX4_eastOf 1 = .ok (.ifCond .eq 14, 3) := by decide +kernel
theorem dX4_eastOf_4 : decode cX4_eastOf 4 = .ok (.iload_n 0, 1) := by decide +kernel
theorem dX4_eastOf_5 : decode cX4_eastOf 5 = .ok (.iconst 1, 1) := by decide +kernel
theorem dX4_eastOf_6 : decode cX4_eastOf 6 = .ok (.if_icmp .eq 9, 3) := by decide +kernel
theorem dX4_eastOf_9 : decode cX4_eastOf 9 = .ok (.iload_n 0, 1) := by decide +kernel
theorem dX4_eastOf_10 : decode cX4_eastOf 10 = .ok (.bipush 7, 2) := by decide +kernel
theorem dX4_eastOf_12 : decode cX4_eastOf 12 = .ok (.if_icmp .ne 7, 3) := by decide +kernel
theorem dX4_eastOf_15 : decode cX4_eastOf 15 = .ok (.iconst 1, 1) := by decide +kernel
theorem dX4_eastOf_16 : decode cX4_eastOf 16 = .ok (.goto 19, 3) := by decide +kernel
theorem dX4_eastOf_19 : decode cX4_eastOf 19 = .ok (.iload_n 0, 1) := by decide +kernel
theorem dX4_eastOf_20 : decode cX4_eastOf 20 = .ok (.iconst 2, 1) := by decide +kernel
theorem dX4_eastOf_21 : decode cX4_eastOf 21 = .ok (.if_icmp .eq 9, 3) := by decide +kernel
theorem dX4_eastOf_24 : decode cX4_eastOf 24 = .ok (.iload_n 0, 1) := by decide +kernel
theorem dX4_eastOf_25 : decode cX4_eastOf 25 = .ok (.bipush 6, 2) := by decide +kernel
theorem dX4_eastOf_27 : decode cX4_eastOf 27 = .ok (.if_icmp .ne 7, 3) := by decide +kernel
theorem dX4_eastOf_30 : decode cX4_eastOf 30 = .ok (.iconst 0, 1) := by decide +kernel
theorem dX4_eastOf_31 : decode cX4_eastOf 31 = .ok (.goto 4, 3) := by decide +kernel
theorem dX4_eastOf_34 : decode cX4_eastOf 34 = .ok (.iconst (-1), 1) := by decide +kernel
theorem dX4_eastOf_35 : decode cX4_eastOf 35 = .ok (.ireturn, 1) := by decide +kernel
theorem dX4_northOf_0 : decode cX4_northOf 0 = .ok (.iload_n 0, 1) := by decide +kernel
theorem dX4_northOf_1 : decode cX4_northOf 1 = .ok (.iconst 1, 1) := by decide +kernel
theorem dX4_northOf_2 : decode cX4_northOf 2 = .ok (.if_icmp .eq 13, 3) := by decide +kernel
theorem dX4_northOf_5 : decode cX4_northOf 5 = .ok (.iload_n 0, 1) := by decide +kernel
theorem dX4_northOf_6 : decode cX4_northOf 6 = .ok (.iconst 2, 1) := by decide +kernel
theorem dX4_northOf_7 : decode cX4_northOf 7 = .ok (.if_icmp .eq 8, 3) := by decide +kernel
theorem dX4_northOf_10 : decode cX4_northOf 10 = .ok (.iload_n 0, 1) := by decide +kernel
theorem dX4_northOf_11 : decode cX4_northOf 11 = .ok (.iconst 3, 1) := by decide +kernel
theorem dX4_northOf_12 : decode cX4_northOf 12 = .ok (.if_icmp .ne 7, 3) := by decide +kernel
theorem dX4_northOf_15 : decode cX4_northOf 15 = .ok (.iconst 1, 1) := by decide +kernel
theorem dX4_northOf_16 : decode cX4_northOf 16 = .ok (.goto 17, 3) := by decide +kernel
theorem dX4_northOf_19 : decode cX4_northOf 19 = .ok (.iload_n 0, 1) := by decide +kernel
theorem dX4_northOf_20 : decode cX4_northOf 20 = .ok (.ifCond .eq 8, 3) := by decide +kernel
theorem dX4_northOf_23 : decode cX4_northOf 23 = .ok (.iload_n 0, 1) := by decide +kernel
theorem dX4_northOf_24 : decode cX4_northOf 24 = .ok (.iconst 4, 1) := by decide +kernel
theorem dX4_northOf_25 : decode cX4_northOf 25 = .ok (.if_icmp .ne 7, 3) := by decide +kernel
theorem dX4_northOf_28 : decode cX4_northOf 28 = .ok (.iconst 0, 1) := by decide +kernel
theorem dX4_northOf_29 : decode cX4_northOf 29 = .ok (.goto 4, 3) := by decide +kernel
theorem dX4_northOf_32 : decode cX4_northOf 32 = .ok (.iconst (-1), 1) := by decide +kernel
theorem dX4_northOf_33 : decode cX4_northOf 33 = .ok (.ireturn, 1) := by decide +kernel
theorem dX4_square_0 : decode cX4_square 0 = .ok (.lload_n 0, 1) := by decide +kernel
theorem dX4_square_1 : decode cX4_square 1 = .ok (.lload_n 0, 1) := by decide +kernel
theorem dX4_square_2 : decode cX4_square 2 = .ok (.lmul, 1) := by decide +kernel
theorem dX4_square_3 : decode cX4_square 3 = .ok (.lreturn, 1) := by decide +kernel
set_option maxRecDepth 20000 in
theorem ggX4_arc_X4_isPlace : GoodIn wsX4_arc wsX4_isPlace := goodIn_r _ [14] (by decide +kernel) (by decide +kernel)
set_option maxRecDepth 20000 in
theorem gX4_arc_X4_isPlace : GoodIn wsX4_arc (va_wsS RX4 18 yX4_isPlace wsX4_isPlace) := goodIn_app (goodIn_of _ (by decide +kernel)) ggX4_arc_X4_isPlace
set_option maxRecDepth 20000 in
theorem ggX4_arc_X4_isCentre : GoodIn wsX4_arc wsX4_isCentre := goodIn_r _ [17, 18, 19] (by decide +kernel) (by decide +kernel)
set_option maxRecDepth 20000 in
theorem gX4_arc_X4_isCentre : GoodIn wsX4_arc (va_wsS RX4 77 yX4_isCentre wsX4_isCentre) := goodIn_app (goodIn_of _ (by decide +kernel)) ggX4_arc_X4_isCentre
set_option maxRecDepth 20000 in
theorem ggX4_arc_X4_square : GoodIn wsX4_arc wsX4_square := goodIn_r _ [22] (by decide +kernel) (by decide +kernel)
set_option maxRecDepth 20000 in
theorem gX4_arc_X4_square : GoodIn wsX4_arc (va_wsS RX4 80 yX4_square wsX4_square) := goodIn_app (goodIn_of _ (by decide +kernel)) ggX4_arc_X4_square
set_option maxRecDepth 20000 in
theorem ggX4_arc_X4_tried : GoodIn wsX4_arc wsX4_tried := goodIn_r _ [26, 1, 2, 19, 5, 27, 28, 13, 29, 30, 31, 32, 44, 45, 46, 47, 48, 49, 50, 51, 52, 53, 54, 55, 56, 57, 58] (by decide +kernel) (by decide +kernel)
set_option maxRecDepth 20000 in
theorem gX4_arc_X4_tried : GoodIn wsX4_arc (wsV RX4 86 RX4 yX4_tried wsX4_tried) := goodIn_app (goodIn_of _ (by decide +kernel)) ggX4_arc_X4_tried
set_option maxRecDepth 20000 in
theorem ggX4_arc_X4_begin : GoodIn wsX4_arc wsX4_begin := goodIn_r _ [36, 37, 38, 1, 39, 2, 40, 41, 42, 43, 10, 44, 45, 46, 47, 48, 49, 50, 51, 52, 53, 54, 55, 56, 57, 58] (by decide +kernel) (by decide +kernel)
set_option maxRecDepth 20000 in
theorem gX4_arc_X4_begin : GoodIn wsX4_arc (wsV RX4 73 RX4 yX4_begin wsX4_begin) := goodIn_app (goodIn_of _ (by decide +kernel)) ggX4_arc_X4_begin
set_option maxRecDepth 20000 in
theorem ggX4_arc_X4_eastOf : GoodIn wsX4_arc wsX4_eastOf := goodIn_r _ [29] (by decide +kernel) (by decide +kernel)
set_option maxRecDepth 20000 in
theorem gX4_arc_X4_eastOf : GoodIn wsX4_arc (va_wsS RX4 89 yX4_eastOf wsX4_eastOf) := goodIn_app (goodIn_of _ (by decide +kernel)) ggX4_arc_X4_eastOf
set_option maxRecDepth 20000 in
theorem ggX4_arc_X4_northOf : GoodIn wsX4_arc wsX4_northOf := goodIn_r _ [32] (by decide +kernel) (by decide +kernel)
set_option maxRecDepth 20000 in
theorem gX4_arc_X4_northOf : GoodIn wsX4_arc (va_wsS RX4 92 yX4_northOf wsX4_northOf) := goodIn_app (goodIn_of _ (by decide +kernel)) ggX4_arc_X4_northOf
theorem dX4_arc_0 : decode cX4_arc 0 = .ok (.iload_n 1, 1) := by decide +kernel
theorem dX4_arc_1 : decode cX4_arc 1 = .ok (.invokestatic 18, 3) := by decide +kernel
theorem dX4_arc_4 : decode cX4_arc 4 = .ok (.ifCond .eq 25, 3) := by decide +kernel
theorem dX4_arc_7 : decode cX4_arc 7 = .ok (.iload_n 2, 1) := by decide +kernel
theorem dX4_arc_8 : decode cX4_arc 8 = .ok (.invokestatic 18, 3) := by decide +kernel
theorem dX4_arc_11 : decode cX4_arc 11 = .ok (.ifCond .eq 18, 3) := by decide +kernel
theorem dX4_arc_14 : decode cX4_arc 14 = .ok (.iload_n 3, 1) := by decide +kernel
theorem dX4_arc_15 : decode cX4_arc 15 = .ok (.invokestatic 77, 3) := by decide +kernel
theorem dX4_arc_18 : decode cX4_arc 18 = .ok (.ifCond .eq 11, 3) := by decide +kernel
theorem dX4_arc_21 : decode cX4_arc 21 = .ok (.iload 4, 2) := by decide +kernel
theorem dX4_arc_23 : decode cX4_arc 23 = .ok (.invokestatic 77, 3) := by decide +kernel
theorem dX4_arc_26 : decode cX4_arc 26 = .ok (.ifCond .ne 5, 3) := by decide +kernel
theorem dX4_arc_29 : decode cX4_arc 29 = .ok (.iconst (-1), 1) := by decide +kernel
theorem dX4_arc_30 : decode cX4_arc 30 = .ok (.ireturn, 1) := by decide +kernel
theorem dX4_arc_31 : decode cX4_arc 31 = .ok (.aload_n 0, 1) := by decide +kernel
theorem dX4_arc_32 : decode cX4_arc 32 = .ok (.getfield 22, 3) := by decide +kernel
theorem dX4_arc_35 : decode cX4_arc 35 = .ok (.iload_n 3, 1) := by decide +kernel
theorem dX4_arc_36 : decode cX4_arc 36 = .ok (.isub, 1) := by decide +kernel
theorem dX4_arc_37 : decode cX4_arc 37 = .ok (.i2l, 1) := by decide +kernel
theorem dX4_arc_38 : decode cX4_arc 38 = .ok (.invokestatic 80, 3) := by decide +kernel
theorem dX4_arc_41 : decode cX4_arc 41 = .ok (.aload_n 0, 1) := by decide +kernel
theorem dX4_arc_42 : decode cX4_arc 42 = .ok (.getfield 26, 3) := by decide +kernel
theorem dX4_arc_45 : decode cX4_arc 45 = .ok (.iload 4, 2) := by decide +kernel
theorem dX4_arc_47 : decode cX4_arc 47 = .ok (.isub, 1) := by decide +kernel
theorem dX4_arc_48 : decode cX4_arc 48 = .ok (.i2l, 1) := by decide +kernel
theorem dX4_arc_49 : decode cX4_arc 49 = .ok (.invokestatic 80, 3) := by decide +kernel
theorem dX4_arc_52 : decode cX4_arc 52 = .ok (.ladd, 1) := by decide +kernel
theorem dX4_arc_53 : decode cX4_arc 53 = .ok (.lstore 6, 2) := by decide +kernel
theorem dX4_arc_55 : decode cX4_arc 55 = .ok (.lload 6, 2) := by decide +kernel
theorem dX4_arc_57 : decode cX4_arc 57 = .ok (.lconst 1, 1) := by decide +kernel
theorem dX4_arc_58 : decode cX4_arc 58 = .ok (.lcmp, 1) := by decide +kernel
theorem dX4_arc_59 : decode cX4_arc 59 = .ok (.ifCond .lt 12, 3) := by decide +kernel
theorem dX4_arc_62 : decode cX4_arc 62 = .ok (.lload 6, 2) := by decide +kernel
theorem dX4_arc_64 : decode cX4_arc 64 = .ok (.ldc2_w 84, 3) := by decide +kernel
theorem dX4_arc_67 : decode cX4_arc 67 = .ok (.lcmp, 1) := by decide +kernel
theorem dX4_arc_68 : decode cX4_arc 68 = .ok (.ifCond .le 5, 3) := by decide +kernel
theorem dX4_arc_71 : decode cX4_arc 71 = .ok (.iconst (-1), 1) := by decide +kernel
theorem dX4_arc_72 : decode cX4_arc 72 = .ok (.ireturn, 1) := by decide +kernel
theorem dX4_arc_73 : decode cX4_arc 73 = .ok (.aload_n 0, 1) := by decide +kernel
theorem dX4_arc_74 : decode cX4_arc 74 = .ok (.iload_n 1, 1) := by decide +kernel
theorem dX4_arc_75 : decode cX4_arc 75 = .ok (.iload_n 3, 1) := by decide +kernel
theorem dX4_arc_76 : decode cX4_arc 76 = .ok (.isub, 1) := by decide +kernel
theorem dX4_arc_77 : decode cX4_arc 77 = .ok (.i2l, 1) := by decide +kernel
theorem dX4_arc_78 : decode cX4_arc 78 = .ok (.iload_n 2, 1) := by decide +kernel
theorem dX4_arc_79 : decode cX4_arc 79 = .ok (.iload 4, 2) := by decide +kernel
theorem dX4_arc_81 : decode cX4_arc 81 = .ok (.isub, 1) := by decide +kernel
theorem dX4_arc_82 : decode cX4_arc 82 = .ok (.i2l, 1) := by decide +kernel
theorem dX4_arc_83 : decode cX4_arc 83 = .ok (.iload_n 3, 1) := by decide +kernel
theorem dX4_arc_84 : decode cX4_arc 84 = .ok (.iload 4, 2) := by decide +kernel
theorem dX4_arc_86 : decode cX4_arc 86 = .ok (.lload 6, 2) := by decide +kernel
theorem dX4_arc_88 : decode cX4_arc 88 = .ok (.iload 5, 2) := by decide +kernel
theorem dX4_arc_90 : decode cX4_arc 90 = .ok (.invokevirtual 86, 3) := by decide +kernel
theorem dX4_arc_93 : decode cX4_arc 93 = .ok (.istore 8, 2) := by decide +kernel
theorem dX4_arc_95 : decode cX4_arc 95 = .ok (.iload 8, 2) := by decide +kernel
theorem dX4_arc_97 : decode cX4_arc 97 = .ok (.ifCond .ge 5, 3) := by decide +kernel
theorem dX4_arc_100 : decode cX4_arc 100 = .ok (.iconst (-1), 1) := by decide +kernel
theorem dX4_arc_101 : decode cX4_arc 101 = .ok (.ireturn, 1) := by decide +kernel
theorem dX4_arc_102 : decode cX4_arc 102 = .ok (.aload_n 0, 1) := by decide +kernel
theorem dX4_arc_103 : decode cX4_arc 103 = .ok (.iconst 1, 1) := by decide +kernel
theorem dX4_arc_104 : decode cX4_arc 104 = .ok (.iload 8, 2) := by decide +kernel
theorem dX4_arc_106 : decode cX4_arc 106 = .ok (.invokevirtual 73, 3) := by decide +kernel
theorem dX4_arc_109 : decode cX4_arc 109 = .ok (.lconst 0, 1) := by decide +kernel
theorem dX4_arc_110 : decode cX4_arc 110 = .ok (.lstore 9, 2) := by decide +kernel
theorem dX4_arc_112 : decode cX4_arc 112 = .ok (.iconst 0, 1) := by decide +kernel
theorem dX4_arc_113 : decode cX4_arc 113 = .ok (.istore 11, 2) := by decide +kernel
theorem dX4_arc_115 : decode cX4_arc 115 = .ok (.iload 11, 2) := by decide +kernel
theorem dX4_arc_117 : decode cX4_arc 117 = .ok (.iload 8, 2) := by decide +kernel
theorem dX4_arc_119 : decode cX4_arc 119 = .ok (.if_icmp .ge 110, 3) := by decide +kernel
theorem dX4_arc_122 : decode cX4_arc 122 = .ok (.aload_n 0, 1) := by decide +kernel
theorem dX4_arc_123 : decode cX4_arc 123 = .ok (.getfield 10, 3) := by decide +kernel
theorem dX4_arc_126 : decode cX4_arc 126 = .ok (.iload 11, 2) := by decide +kernel
theorem dX4_arc_128 : decode cX4_arc 128 = .ok (.aload_n 0, 1) := by decide +kernel
theorem dX4_arc_129 : decode cX4_arc 129 = .ok (.getfield 14, 3) := by decide +kernel
theorem dX4_arc_132 : decode cX4_arc 132 = .ok (.iload 11, 2) := by decide +kernel
theorem dX4_arc_134 : decode cX4_arc 134 = .ok (.baload, 1) := by decide +kernel
theorem dX4_arc_135 : decode cX4_arc 135 = .ok (.bastore, 1) := by decide +kernel
theorem dX4_arc_136 : decode cX4_arc 136 = .ok (.aload_n 0, 1) := by decide +kernel
theorem dX4_arc_137 : decode cX4_arc 137 = .ok (.dup, 1) := by decide +kernel
theorem dX4_arc_138 : decode cX4_arc 138 = .ok (.getfield 22, 3) := by decide +kernel
theorem dX4_arc_141 : decode cX4_arc 141 = .ok (.aload_n 0, 1) := by decide +kernel
theorem dX4_arc_142 : decode cX4_arc 142 = .ok (.getfield 10, 3) := by decide +kernel
theorem dX4_arc_145 : decode cX4_arc 145 = .ok (.iload 11, 2) := by decide +kernel
theorem dX4_arc_147 : decode cX4_arc 147 = .ok (.baload, 1) := by decide +kernel
theorem dX4_arc_148 : decode cX4_arc 148 = .ok (.invokestatic 89, 3) := by decide +kernel
theorem dX4_arc_151 : decode cX4_arc 151 = .ok (.iadd, 1) := by decide +kernel
theorem dX4_arc_152 : decode cX4_arc 152 = .ok (.putfield 22, 3) := by decide +kernel
theorem dX4_arc_155 : decode cX4_arc 155 = .ok (.aload_n 0, 1) := by decide +kernel
theorem dX4_arc_156 : decode cX4_arc 156 = .ok (.dup, 1) := by decide +kernel
theorem dX4_arc_157 : decode cX4_arc 157 = .ok (.getfield 26, 3) := by decide +kernel
theorem dX4_arc_160 : decode cX4_arc 160 = .ok (.aload_n 0, 1) := by decide +kernel
theorem dX4_arc_161 : decode cX4_arc 161 = .ok (.getfield 10, 3) := by decide +kernel
theorem dX4_arc_164 : decode cX4_arc 164 = .ok (.iload 11, 2) := by decide +kernel
theorem dX4_arc_166 : decode cX4_arc 166 = .ok (.baload, 1) := by decide +kernel
theorem dX4_arc_167 : decode cX4_arc 167 = .ok (.invokestatic 92, 3) := by decide +kernel
theorem dX4_arc_170 : decode cX4_arc 170 = .ok (.iadd, 1) := by decide +kernel
theorem dX4_arc_171 : decode cX4_arc 171 = .ok (.putfield 26, 3) := by decide +kernel
theorem dX4_arc_174 : decode cX4_arc 174 = .ok (.aload_n 0, 1) := by decide +kernel
theorem dX4_arc_175 : decode cX4_arc 175 = .ok (.getfield 22, 3) := by decide +kernel
theorem dX4_arc_178 : decode cX4_arc 178 = .ok (.iload_n 3, 1) := by decide +kernel
theorem dX4_arc_179 : decode cX4_arc 179 = .ok (.isub, 1) := by decide +kernel
theorem dX4_arc_180 : decode cX4_arc 180 = .ok (.i2l, 1) := by decide +kernel
theorem dX4_arc_181 : decode cX4_arc 181 = .ok (.invokestatic 80, 3) := by decide +kernel
theorem dX4_arc_184 : decode cX4_arc 184 = .ok (.aload_n 0, 1) := by decide +kernel
theorem dX4_arc_185 : decode cX4_arc 185 = .ok (.getfield 26, 3) := by decide +kernel
theorem dX4_arc_188 : decode cX4_arc 188 = .ok (.iload 4, 2) := by decide +kernel
theorem dX4_arc_190 : decode cX4_arc 190 = .ok (.isub, 1) := by decide +kernel
theorem dX4_arc_191 : decode cX4_arc 191 = .ok (.i2l, 1) := by decide +kernel
theorem dX4_arc_192 : decode cX4_arc 192 = .ok (.invokestatic 80, 3) := by decide +kernel
theorem dX4_arc_195 : decode cX4_arc 195 = .ok (.ladd, 1) := by decide +kernel
theorem dX4_arc_196 : decode cX4_arc 196 = .ok (.lload 6, 2) := by decide +kernel
theorem dX4_arc_198 : decode cX4_arc 198 = .ok (.lsub, 1) := by decide +kernel
theorem dX4_arc_199 : decode cX4_arc 199 = .ok (.lstore 12, 2) := by decide +kernel
theorem dX4_arc_201 : decode cX4_arc 201 = .ok (.lload 9, 2) := by decide +kernel
theorem dX4_arc_203 : decode cX4_arc 203 = .ok (.lload 12, 2) := by decide +kernel
theorem dX4_arc_205 : decode cX4_arc 205 = .ok (.lconst 0, 1) := by decide +kernel
theorem dX4_arc_206 : decode cX4_arc 206 = .ok (.lcmp, 1) := by decide +kernel
theorem dX4_arc_207 : decode cX4_arc 207 = .ok (.ifCond .ge 9, 3) := by decide +kernel
theorem dX4_arc_210 : decode cX4_arc 210 = .ok (.lload 12, 2) := by decide +kernel
theorem dX4_arc_212 : decode cX4_arc 212 = .ok (.lneg, 1) := by decide +kernel
theorem dX4_arc_213 : decode cX4_arc 213 = .ok (.goto 5, 3) := by decide +kernel
theorem dX4_arc_216 : decode cX4_arc 216 = .ok (.lload 12, 2) := by decide +kernel
theorem dX4_arc_218 : decode cX4_arc 218 = .ok (.invokestatic 95, 3) := by decide +kernel
theorem dX4_arc_221 : decode cX4_arc 221 = .ok (.lstore 9, 2) := by decide +kernel
theorem dX4_arc_223 : decode cX4_arc 223 = .ok (.iinc 11 1, 3) := by decide +kernel
theorem dX4_arc_226 : decode cX4_arc 226 = .ok (.goto (-111), 3) := by decide +kernel
theorem dX4_arc_229 : decode cX4_arc 229 = .ok (.aload_n 0, 1) := by decide +kernel
theorem dX4_arc_230 : decode cX4_arc 230 = .ok (.lload 9, 2) := by decide +kernel
theorem dX4_arc_232 : decode cX4_arc 232 = .ok (.l2i, 1) := by decide +kernel
theorem dX4_arc_233 : decode cX4_arc 233 = .ok (.putfield 39, 3) := by decide +kernel
theorem dX4_arc_236 : decode cX4_arc 236 = .ok (.iload 8, 2) := by decide +kernel
theorem dX4_arc_238 : decode cX4_arc 238 = .ok (.ireturn, 1) := by decide +kernel
set_option maxRecDepth 20000 in
theorem ggX4_tried_X4_eastOf : GoodIn wsX4_tried wsX4_eastOf := goodIn_r _ [8] (by decide +kernel) (by decide +kernel)
set_option maxRecDepth 20000 in
theorem gX4_tried_X4_eastOf : GoodIn wsX4_tried (va_wsS RX4 89 yX4_eastOf wsX4_eastOf) := goodIn_app (goodIn_of _ (by decide +kernel)) ggX4_tried_X4_eastOf
set_option maxRecDepth 20000 in
theorem ggX4_tried_X4_northOf : GoodIn wsX4_tried wsX4_northOf := goodIn_r _ [11] (by decide +kernel) (by decide +kernel)
set_option maxRecDepth 20000 in
theorem gX4_tried_X4_northOf : GoodIn wsX4_tried (va_wsS RX4 92 yX4_northOf wsX4_northOf) := goodIn_app (goodIn_of _ (by decide +kernel)) ggX4_tried_X4_northOf
theorem dX4_tried_0 : decode cX4_tried 0 = .ok (.aload_n 0, 1) := by decide +kernel
theorem dX4_tried_1 : decode cX4_tried 1 = .ok (.getfield 22, 3) := by decide +kernel
theorem dX4_tried_4 : decode cX4_tried 4 = .ok (.iload 5, 2) := by decide +kernel
theorem dX4_tried_6 : decode cX4_tried 6 = .ok (.isub, 1) := by decide +kernel
theorem dX4_tried_7 : decode cX4_tried 7 = .ok (.i2l, 1) := by decide +kernel
theorem dX4_tried_8 : decode cX4_tried 8 = .ok (.lstore 10, 2) := by decide +kernel
theorem dX4_tried_10 : decode cX4_tried 10 = .ok (.aload_n 0, 1) := by decide +kernel
theorem dX4_tried_11 : decode cX4_tried 11 = .ok (.getfield 26, 3) := by decide +kernel
theorem dX4_tried_14 : decode cX4_tried 14 = .ok (.iload 6, 2) := by decide +kernel
theorem dX4_tried_16 : decode cX4_tried 16 = .ok (.isub, 1) := by decide +kernel
theorem dX4_tried_17 : decode cX4_tried 17 = .ok (.i2l, 1) := by decide +kernel
theorem dX4_tried_18 : decode cX4_tried 18 = .ok (.lstore 12, 2) := by decide +kernel
theorem dX4_tried_20 : decode cX4_tried 20 = .ok (.iconst 0, 1) := by decide +kernel
theorem dX4_tried_21 : decode cX4_tried 21 = .ok (.istore 14, 2) := by decide +kernel
theorem dX4_tried_23 : decode cX4_tried 23 = .ok (.iload 14, 2) := by decide +kernel
theorem dX4_tried_25 : decode cX4_tried 25 = .ok (.ldc 9, 2) := by decide +kernel
theorem dX4_tried_27 : decode cX4_tried 27 = .ok (.if_icmp .ge 201, 3) := by decide +kernel
theorem dX4_tried_30 : decode cX4_tried 30 = .ok (.iconst (-1), 1) := by decide +kernel
theorem dX4_tried_31 : decode cX4_tried 31 = .ok (.istore 15, 2) := by decide +kernel
theorem dX4_tried_33 : decode cX4_tried 33 = .ok (.lconst 0, 1) := by decide +kernel
theorem dX4_tried_34 : decode cX4_tried 34 = .ok (.lstore 16, 2) := by decide +kernel
theorem dX4_tried_36 : decode cX4_tried 36 = .ok (.iconst 0, 1) := by decide +kernel
theorem dX4_tried_37 : decode cX4_tried 37 = .ok (.istore 18, 2) := by decide +kernel
theorem dX4_tried_39 : decode cX4_tried 39 = .ok (.iload 18, 2) := by decide +kernel
theorem dX4_tried_41 : decode cX4_tried 41 = .ok (.bipush 8, 2) := by decide +kernel
theorem dX4_tried_43 : decode cX4_tried 43 = .ok (.if_icmp .ge 121, 3) := by decide +kernel
theorem dX4_tried_46 : decode cX4_tried 46 = .ok (.lload 10, 2) := by decide +kernel
theorem dX4_tried_48 : decode cX4_tried 48 = .ok (.iload 18, 2) := by decide +kernel
theorem dX4_tried_50 : decode cX4_tried 50 = .ok (.invokestatic 89, 3) := by decide +kernel
theorem dX4_tried_53 : decode cX4_tried 53 = .ok (.i2l, 1) := by decide +kernel
theorem dX4_tried_54 : decode cX4_tried 54 = .ok (.ladd, 1) := by decide +kernel
theorem dX4_tried_55 : decode cX4_tried 55 = .ok (.lstore 19, 2) := by decide +kernel
theorem dX4_tried_57 : decode cX4_tried 57 = .ok (.lload 12, 2) := by decide +kernel
theorem dX4_tried_59 : decode cX4_tried 59 = .ok (.iload 18, 2) := by decide +kernel
theorem dX4_tried_61 : decode cX4_tried 61 = .ok (.invokestatic 92, 3) := by decide +kernel
theorem dX4_tried_64 : decode cX4_tried 64 = .ok (.i2l, 1) := by decide +kernel
theorem dX4_tried_65 : decode cX4_tried 65 = .ok (.ladd, 1) := by decide +kernel
theorem dX4_tried_66 : decode cX4_tried 66 = .ok (.lstore 21, 2) := by decide +kernel
theorem dX4_tried_68 : decode cX4_tried 68 = .ok (.lload 10, 2) := by decide +kernel
theorem dX4_tried_70 : decode cX4_tried 70 = .ok (.lload 21, 2) := by decide +kernel
theorem dX4_tried_72 : decode cX4_tried 72 = .ok (.lmul, 1) := by decide +kernel
theorem dX4_tried_73 : decode cX4_tried 73 = .ok (.lload 12, 2) := by decide +kernel
theorem dX4_tried_75 : decode cX4_tried 75 = .ok (.lload 19, 2) := by decide +kernel
theorem dX4_tried_77 : decode cX4_tried 77 = .ok (.lmul, 1) := by decide +kernel
theorem dX4_tried_78 : decode cX4_tried 78 = .ok (.lsub, 1) := by decide +kernel
theorem dX4_tried_79 : decode cX4_tried 79 = .ok (.lstore 23, 2) := by decide +kernel
theorem dX4_tried_81 : decode cX4_tried 81 = .ok (.iload 9, 2) := by decide +kernel
theorem dX4_tried_83 : decode cX4_tried 83 = .ok (.ifCond .eq 13, 3) := by decide +kernel
theorem dX4_tried_86 : decode cX4_tried 86 = .ok (.lload 23, 2) := by decide +kernel
theorem dX4_tried_88 : decode cX4_tried 88 = .ok (.lconst 0, 1) := by decide +kernel
theorem dX4_tried_89 : decode cX4_tried 89 = .ok (.lcmp, 1) := by decide +kernel
theorem dX4_tried_90 : decode cX4_tried 90 = .ok (.ifCond .gt 16, 3) := by decide +kernel
theorem dX4_tried_93 : decode cX4_tried 93 = .ok (.goto 65, 3) := by decide +kernel
theorem dX4_tried_96 : decode cX4_tried 96 = .ok (.lload 23, 2) := by decide +kernel
theorem dX4_tried_98 : decode cX4_tried 98 = .ok (.lconst 0, 1) := by decide +kernel
theorem dX4_tried_99 : decode cX4_tried 99 = .ok (.lcmp, 1) := by decide +kernel
theorem dX4_tried_100 : decode cX4_tried 100 = .ok (.ifCond .lt 6, 3) := by decide +kernel
theorem dX4_tried_103 : decode cX4_tried 103 = .ok (.goto 55, 3) := by decide +kernel
theorem dX4_tried_106 : decode cX4_tried 106 = .ok (.lload 19, 2) := by decide +kernel
theorem dX4_tried_108 : decode cX4_tried 108 = .ok (.lload 19, 2) := by decide +kernel
theorem dX4_tried_110 : decode cX4_tried 110 = .ok (.lmul, 1) := by decide +kernel
theorem dX4_tried_111 : decode cX4_tried 111 = .ok (.lload 21, 2) := by decide +kernel
theorem dX4_tried_113 : decode cX4_tried 113 = .ok (.lload 21, 2) := by decide +kernel
theorem dX4_tried_115 : decode cX4_tried 115 = .ok (.lmul, 1) := by decide +kernel
theorem dX4_tried_116 : decode cX4_tried 116 = .ok (.ladd, 1) := by decide +kernel
theorem dX4_tried_117 : decode cX4_tried 117 = .ok (.lload 7, 2) := by decide +kernel
theorem dX4_tried_119 : decode cX4_tried 119 = .ok (.lsub, 1) := by decide +kernel
theorem dX4_tried_120 : decode cX4_tried 120 = .ok (.lstore 25, 2) := by decide +kernel
theorem dX4_tried_122 : decode cX4_tried 122 = .ok (.lload 25, 2) := by decide +kernel
theorem dX4_tried_124 : decode cX4_tried 124 = .ok (.lconst 0, 1) := by decide +kernel
theorem dX4_tried_125 : decode cX4_tried 125 = .ok (.lcmp, 1) := by decide +kernel
theorem dX4_tried_126 : decode cX4_tried 126 = .ok (.ifCond .ge 8, 3) := by decide +kernel
theorem dX4_tried_129 : decode cX4_tried 129 = .ok (.lload 25, 2) := by decide +kernel
theorem dX4_tried_131 : decode cX4_tried 131 = .ok (.lneg, 1) := by decide +kernel
theorem dX4_tried_132 : decode cX4_tried 132 = .ok (.lstore 25, 2) := by decide +kernel
theorem dX4_tried_134 : decode cX4_tried 134 = .ok (.iload 15, 2) := by decide +kernel
theorem dX4_tried_136 : decode cX4_tried 136 = .ok (.ifCond .lt 14, 3) := by decide +kernel
theorem dX4_tried_139 : decode cX4_tried 139 = .ok (.lload 25, 2) := by decide +kernel
theorem dX4_tried_141 : decode cX4_tried 141 = .ok (.lload 16, 2) := by decide +kernel
theorem dX4_tried_143 : decode cX4_tried 143 = .ok (.lcmp, 1) := by decide +kernel
theorem dX4_tried_144 : decode cX4_tried 144 = .ok (.ifCond .lt 6, 3) := by decide +kernel
theorem dX4_tried_147 : decode cX4_tried 147 = .ok (.goto 11, 3) := by decide +kernel
theorem dX4_tried_150 : decode cX4_tried 150 = .ok (.iload 18, 2) := by decide +kernel
theorem dX4_tried_152 : decode cX4_tried 152 = .ok (.istore 15, 2) := by decide +kernel
theorem dX4_tried_154 : decode cX4_tried 154 = .ok (.lload 25, 2) := by decide +kernel
theorem dX4_tried_156 : decode cX4_tried 156 = .ok (.lstore 16, 2) := by decide +kernel
theorem dX4_tried_158 : decode cX4_tried 158 = .ok (.iinc 18 1, 3) := by decide +kernel
theorem dX4_tried_161 : decode cX4_tried 161 = .ok (.goto (-122), 3) := by decide +kernel
theorem dX4_tried_164 : decode cX4_tried 164 = .ok (.iload 15, 2) := by decide +kernel
theorem dX4_tried_166 : decode cX4_tried 166 = .ok (.ifCond .ge 5, 3) := by decide +kernel
theorem dX4_tried_169 : decode cX4_tried 169 = .ok (.iconst (-1), 1) := by decide +kernel
theorem dX4_tried_170 : decode cX4_tried 170 = .ok (.ireturn, 1) := by decide +kernel
theorem dX4_tried_171 : decode cX4_tried 171 = .ok (.aload_n 0, 1) := by decide +kernel
theorem dX4_tried_172 : decode cX4_tried 172 = .ok (.getfield 14, 3) := by decide +kernel
theorem dX4_tried_175 : decode cX4_tried 175 = .ok (.iload 14, 2) := by decide +kernel
theorem dX4_tried_177 : decode cX4_tried 177 = .ok (.iload 15, 2) := by decide +kernel
theorem dX4_tried_179 : decode cX4_tried 179 = .ok (.i2b, 1) := by decide +kernel
theorem dX4_tried_180 : decode cX4_tried 180 = .ok (.bastore, 1) := by decide +kernel
theorem dX4_tried_181 : decode cX4_tried 181 = .ok (.lload 10, 2) := by decide +kernel
theorem dX4_tried_183 : decode cX4_tried 183 = .ok (.iload 15, 2) := by decide +kernel
theorem dX4_tried_185 : decode cX4_tried 185 = .ok (.invokestatic 89, 3) := by decide +kernel
theorem dX4_tried_188 : decode cX4_tried 188 = .ok (.i2l, 1) := by decide +kernel
theorem dX4_tried_189 : decode cX4_tried 189 = .ok (.ladd, 1) := by decide +kernel
theorem dX4_tried_190 : decode cX4_tried 190 = .ok (.lstore 10, 2) := by decide +kernel
theorem dX4_tried_192 : decode cX4_tried 192 = .ok (.lload 12, 2) := by decide +kernel
theorem dX4_tried_194 : decode cX4_tried 194 = .ok (.iload 15, 2) := by decide +kernel
theorem dX4_tried_196 : decode cX4_tried 196 = .ok (.invokestatic 92, 3) := by decide +kernel
theorem dX4_tried_199 : decode cX4_tried 199 = .ok (.i2l, 1) := by decide +kernel
theorem dX4_tried_200 : decode cX4_tried 200 = .ok (.ladd, 1) := by decide +kernel
theorem dX4_tried_201 : decode cX4_tried 201 = .ok (.lstore 12, 2) := by decide +kernel
theorem dX4_tried_203 : decode cX4_tried 203 = .ok (.lload 10, 2) := by decide +kernel
theorem dX4_tried_205 : decode cX4_tried 205 = .ok (.lload_n 1, 1) := by decide +kernel
theorem dX4_tried_206 : decode cX4_tried 206 = .ok (.lcmp, 1) := by decide +kernel
theorem dX4_tried_207 : decode cX4_tried 207 = .ok (.ifCond .ne 15, 3) := by decide +kernel
theorem dX4_tried_210 : decode cX4_tried 210 = .ok (.lload 12, 2) := by decide +kernel
theorem dX4_tried_212 : decode cX4_tried 212 = .ok (.lload_n 3, 1) := by decide +kernel
theorem dX4_tried_213 : decode cX4_tried 213 = .ok (.lcmp, 1) := by decide +kernel
theorem dX4_tried_214 : decode cX4_tried 214 = .ok (.ifCond .ne 8, 3) := by decide +kernel
theorem dX4_tried_217 : decode cX4_tried 217 = .ok (.iload 14, 2) := by decide +kernel
theorem dX4_tried_219 : decode cX4_tried 219 = .ok (.iconst 1, 1) := by decide +kernel
theorem dX4_tried_220 : decode cX4_tried 220 = .ok (.iadd, 1) := by decide +kernel
theorem dX4_tried_221 : decode cX4_tried 221 = .ok (.ireturn, 1) := by decide +kernel
theorem dX4_tried_222 : decode cX4_tried 222 = .ok (.iinc 14 1, 3) := by decide +kernel
theorem dX4_tried_225 : decode cX4_tried 225 = .ok (.goto (-202), 3) := by decide +kernel
theorem dX4_tried_228 : decode cX4_tried 228 = .ok (.iconst (-1), 1) := by decide +kernel
theorem dX4_tried_229 : decode cX4_tried 229 = .ok (.ireturn, 1) := by decide +kernel
theorem dX4_down_0 : decode cX4_down 0 = .ok (.lload_n 0, 1) := by decide +kernel
theorem dX4_down_1 : decode cX4_down 1 = .ok (.lconst 0, 1) := by decide +kernel
theorem dX4_down_2 : decode cX4_down 2 = .ok (.lcmp, 1) := by decide +kernel
theorem dX4_down_3 : decode cX4_down 3 = .ok (.ifCond .ge 19, 3) := by decide +kernel
theorem dX4_down_6 : decode cX4_down 6 = .ok (.lload_n 0, 1) := by decide +kernel
theorem dX4_down_7 : decode cX4_down 7 = .ok (.lload_n 2, 1) := by decide +kernel
theorem dX4_down_8 : decode cX4_down 8 = .ok (.lrem, 1) := by decide +kernel
theorem dX4_down_9 : decode cX4_down 9 = .ok (.lconst 0, 1) := by decide +kernel
theorem dX4_down_10 : decode cX4_down 10 = .ok (.lcmp, 1) := by decide +kernel
theorem dX4_down_11 : decode cX4_down 11 = .ok (.ifCond .eq 11, 3) := by decide +kernel
theorem dX4_down_14 : decode cX4_down 14 = .ok (.lload_n 0, 1) := by decide +kernel
theorem dX4_down_15 : decode cX4_down 15 = .ok (.lload_n 2, 1) := by decide +kernel
theorem dX4_down_16 : decode cX4_down 16 = .ok (.ldiv, 1) := by decide +kernel
theorem dX4_down_17 : decode cX4_down 17 = .ok (.lconst 1, 1) := by decide +kernel
theorem dX4_down_18 : decode cX4_down 18 = .ok (.lsub, 1) := by decide +kernel
theorem dX4_down_19 : decode cX4_down 19 = .ok (.goto 6, 3) := by decide +kernel
theorem dX4_down_22 : decode cX4_down 22 = .ok (.lload_n 0, 1) := by decide +kernel
theorem dX4_down_23 : decode cX4_down 23 = .ok (.lload_n 2, 1) := by decide +kernel
theorem dX4_down_24 : decode cX4_down 24 = .ok (.ldiv, 1) := by decide +kernel
theorem dX4_down_25 : decode cX4_down 25 = .ok (.l2i, 1) := by decide +kernel
theorem dX4_down_26 : decode cX4_down 26 = .ok (.ireturn, 1) := by decide +kernel
set_option maxRecDepth 20000 in
theorem ggX4_partOf_X4_down : GoodIn wsX4_partOf wsX4_down := goodIn_r _ [6] (by decide +kernel) (by decide +kernel)
set_option maxRecDepth 20000 in
theorem gX4_partOf_X4_down : GoodIn wsX4_partOf (va_wsS RX4 100 yX4_down wsX4_down) := goodIn_app (goodIn_of _ (by decide +kernel)) ggX4_partOf_X4_down
theorem dX4_partOf_0 : decode cX4_partOf 0 = .ok (.aload_n 0, 1) := by decide +kernel
theorem dX4_partOf_1 : decode cX4_partOf 1 = .ok (.getfield 36, 3) := by decide +kernel
theorem dX4_partOf_4 : decode cX4_partOf 4 = .ok (.ifCond .ne 7, 3) := by decide +kernel
theorem dX4_partOf_7 : decode cX4_partOf 7 = .ok (.iconst 0, 1) := by decide +kernel
theorem dX4_partOf_8 : decode cX4_partOf 8 = .ok (.goto 30, 3) := by decide +kernel
theorem dX4_partOf_11 : decode cX4_partOf 11 = .ok (.ldc2_w 98, 3) := by decide +kernel
theorem dX4_partOf_14 : decode cX4_partOf 14 = .ok (.iload_n 1, 1) := by decide +kernel
theorem dX4_partOf_15 : decode cX4_partOf 15 = .ok (.i2l, 1) := by decide +kernel
theorem dX4_partOf_16 : decode cX4_partOf 16 = .ok (.lmul, 1) := by decide +kernel
theorem dX4_partOf_17 : decode cX4_partOf 17 = .ok (.iload_n 2, 1) := by decide +kernel
theorem dX4_partOf_18 : decode cX4_partOf 18 = .ok (.i2l, 1) := by decide +kernel
theorem dX4_partOf_19 : decode cX4_partOf 19 = .ok (.lmul, 1) := by decide +kernel
theorem dX4_partOf_20 : decode cX4_partOf 20 = .ok (.aload_n 0, 1) := by decide +kernel
theorem dX4_partOf_21 : decode cX4_partOf 21 = .ok (.getfield 36, 3) := by decide +kernel
theorem dX4_partOf_24 : decode cX4_partOf 24 = .ok (.i2l, 1) := by decide +kernel
theorem dX4_partOf_25 : decode cX4_partOf 25 = .ok (.ladd, 1) := by decide +kernel
theorem dX4_partOf_26 : decode cX4_partOf 26 = .ok (.ldc2_w 98, 3) := by decide +kernel
theorem dX4_partOf_29 : decode cX4_partOf 29 = .ok (.aload_n 0, 1) := by decide +kernel
theorem dX4_partOf_30 : decode cX4_partOf 30 = .ok (.getfield 36, 3) := by decide +kernel
theorem dX4_partOf_33 : decode cX4_partOf 33 = .ok (.i2l, 1) := by decide +kernel
theorem dX4_partOf_34 : decode cX4_partOf 34 = .ok (.lmul, 1) := by decide +kernel
theorem dX4_partOf_35 : decode cX4_partOf 35 = .ok (.invokestatic 100, 3) := by decide +kernel
theorem dX4_partOf_38 : decode cX4_partOf 38 = .ok (.ireturn, 1) := by decide +kernel
set_option maxRecDepth 20000 in
theorem ggX4_tick_X4_partOf : GoodIn wsX4_tick wsX4_partOf := goodIn_r _ [15, 2, 16, 17, 18, 14, 19, 26, 27, 28, 29, 30, 31, 32, 33, 34, 35, 36, 37, 38, 39, 40] (by decide +kernel) (by decide +kernel)
set_option maxRecDepth 20000 in
theorem gX4_tick_X4_partOf : GoodIn wsX4_tick (wsV RX4 104 RX4 yX4_partOf wsX4_partOf) := goodIn_app (goodIn_of _ (by decide +kernel)) ggX4_tick_X4_partOf
set_option maxRecDepth 20000 in
theorem ggX4_tick_X4_eastOf : GoodIn wsX4_tick wsX4_eastOf := goodIn_r _ [22] (by decide +kernel) (by decide +kernel)
set_option maxRecDepth 20000 in
theorem gX4_tick_X4_eastOf : GoodIn wsX4_tick (va_wsS RX4 89 yX4_eastOf wsX4_eastOf) := goodIn_app (goodIn_of _ (by decide +kernel)) ggX4_tick_X4_eastOf
set_option maxRecDepth 20000 in
theorem ggX4_tick_X4_northOf : GoodIn wsX4_tick wsX4_northOf := goodIn_r _ [25] (by decide +kernel) (by decide +kernel)
set_option maxRecDepth 20000 in
theorem gX4_tick_X4_northOf : GoodIn wsX4_tick (va_wsS RX4 92 yX4_northOf wsX4_northOf) := goodIn_app (goodIn_of _ (by decide +kernel)) ggX4_tick_X4_northOf
theorem dX4_tick_0 : decode cX4_tick 0 = .ok (.aload_n 0, 1) := by decide +kernel
theorem dX4_tick_1 : decode cX4_tick 1 = .ok (.getfield 32, 3) := by decide +kernel
theorem dX4_tick_4 : decode cX4_tick 4 = .ok (.ifCond .eq 24, 3) := by decide +kernel
theorem dX4_tick_7 : decode cX4_tick 7 = .ok (.iload_n 1, 1) := by decide +kernel
theorem dX4_tick_8 : decode cX4_tick 8 = .ok (.ifCond .lt 20, 3) := by decide +kernel
theorem dX4_tick_11 : decode cX4_tick 11 = .ok (.iload_n 1, 1) := by decide +kernel
theorem dX4_tick_12 : decode cX4_tick 12 = .ok (.aload_n 0, 1) := by decide +kernel
theorem dX4_tick_13 : decode cX4_tick 13 = .ok (.getfield 36, 3) := by decide +kernel
theorem dX4_tick_16 : decode cX4_tick 16 = .ok (.if_icmp .gt 12, 3) := by decide +kernel
theorem dX4_tick_19 : decode cX4_tick 19 = .ok (.iload_n 2, 1) := by decide +kernel
theorem dX4_tick_20 : decode cX4_tick 20 = .ok (.ifCond .lt 8, 3) := by decide +kernel
theorem dX4_tick_23 : decode cX4_tick 23 = .ok (.iload_n 2, 1) := by decide +kernel
theorem dX4_tick_24 : decode cX4_tick 24 = .ok (.iconst 2, 1) := by decide +kernel
theorem dX4_tick_25 : decode cX4_tick 25 = .ok (.if_icmp .le 5, 3) := by decide +kernel
theorem dX4_tick_28 : decode cX4_tick 28 = .ok (.iconst 0, 1) := by decide +kernel
theorem dX4_tick_29 : decode cX4_tick 29 = .ok (.ireturn, 1) := by decide +kernel
theorem dX4_tick_30 : decode cX4_tick 30 = .ok (.aload_n 0, 1) := by decide +kernel
theorem dX4_tick_31 : decode cX4_tick 31 = .ok (.getfield 42, 3) := by decide +kernel
theorem dX4_tick_34 : decode cX4_tick 34 = .ok (.ifCond .ne 61, 3) := by decide +kernel
theorem dX4_tick_37 : decode cX4_tick 37 = .ok (.iload_n 2, 1) := by decide +kernel
theorem dX4_tick_38 : decode cX4_tick 38 = .ok (.ifCond .ne 20, 3) := by decide +kernel
theorem dX4_tick_41 : decode cX4_tick 41 = .ok (.aload_n 0, 1) := by decide +kernel
theorem dX4_tick_42 : decode cX4_tick 42 = .ok (.getfield 45, 3) := by decide +kernel
theorem dX4_tick_45 : decode cX4_tick 45 = .ok (.aload_n 0, 1) := by decide +kernel
theorem dX4_tick_46 : decode cX4_tick 46 = .ok (.aload_n 0, 1) := by decide +kernel
theorem dX4_tick_47 : decode cX4_tick 47 = .ok (.getfield 54, 3) := by decide +kernel
theorem dX4_tick_50 : decode cX4_tick 50 = .ok (.iload_n 1, 1) := by decide +kernel
theorem dX4_tick_51 : decode cX4_tick 51 = .ok (.invokevirtual 104, 3) := by decide +kernel
theorem dX4_tick_54 : decode cX4_tick 54 = .ok (.iadd, 1) := by decide +kernel
theorem dX4_tick_55 : decode cX4_tick 55 = .ok (.goto 39, 3) := by decide +kernel
theorem dX4_tick_58 : decode cX4_tick 58 = .ok (.iload_n 2, 1) := by decide +kernel
theorem dX4_tick_59 : decode cX4_tick 59 = .ok (.iconst 1, 1) := by decide +kernel
theorem dX4_tick_60 : decode cX4_tick 60 = .ok (.if_icmp .ne 20, 3) := by decide +kernel
theorem dX4_tick_63 : decode cX4_tick 63 = .ok (.aload_n 0, 1) := by decide +kernel
theorem dX4_tick_64 : decode cX4_tick 64 = .ok (.getfield 48, 3) := by decide +kernel
theorem dX4_tick_67 : decode cX4_tick 67 = .ok (.aload_n 0, 1) := by decide +kernel
theorem dX4_tick_68 : decode cX4_tick 68 = .ok (.aload_n 0, 1) := by decide +kernel
theorem dX4_tick_69 : decode cX4_tick 69 = .ok (.getfield 57, 3) := by decide +kernel
theorem dX4_tick_72 : decode cX4_tick 72 = .ok (.iload_n 1, 1) := by decide +kernel
theorem dX4_tick_73 : decode cX4_tick 73 = .ok (.invokevirtual 104, 3) := by decide +kernel
theorem dX4_tick_76 : decode cX4_tick 76 = .ok (.iadd, 1) := by decide +kernel
theorem dX4_tick_77 : decode cX4_tick 77 = .ok (.goto 17, 3) := by decide +kernel
theorem dX4_tick_80 : decode cX4_tick 80 = .ok (.aload_n 0, 1) := by decide +kernel
theorem dX4_tick_81 : decode cX4_tick 81 = .ok (.getfield 51, 3) := by decide +kernel
theorem dX4_tick_84 : decode cX4_tick 84 = .ok (.aload_n 0, 1) := by decide +kernel
theorem dX4_tick_85 : decode cX4_tick 85 = .ok (.aload_n 0, 1) := by decide +kernel
theorem dX4_tick_86 : decode cX4_tick 86 = .ok (.getfield 60, 3) := by decide +kernel
theorem dX4_tick_89 : decode cX4_tick 89 = .ok (.iload_n 1, 1) := by decide +kernel
theorem dX4_tick_90 : decode cX4_tick 90 = .ok (.invokevirtual 104, 3) := by decide +kernel
theorem dX4_tick_93 : decode cX4_tick 93 = .ok (.iadd, 1) := by decide +kernel
theorem dX4_tick_94 : decode cX4_tick 94 = .ok (.ireturn, 1) := by decide +kernel
theorem dX4_tick_95 : decode cX4_tick 95 = .ok (.iload_n 2, 1) := by decide +kernel
theorem dX4_tick_96 : decode cX4_tick 96 = .ok (.iconst 2, 1) := by decide +kernel
theorem dX4_tick_97 : decode cX4_tick 97 = .ok (.if_icmp .ne 8, 3) := by decide +kernel
theorem dX4_tick_100 : decode cX4_tick 100 = .ok (.aload_n 0, 1) := by decide +kernel
theorem dX4_tick_101 : decode cX4_tick 101 = .ok (.getfield 51, 3) := by decide +kernel
theorem dX4_tick_104 : decode cX4_tick 104 = .ok (.ireturn, 1) := by decide +kernel
theorem dX4_tick_105 : decode cX4_tick 105 = .ok (.iload_n 2, 1) := by decide +kernel
theorem dX4_tick_106 : decode cX4_tick 106 = .ok (.ifCond .ne 10, 3) := by decide +kernel
theorem dX4_tick_109 : decode cX4_tick 109 = .ok (.aload_n 0, 1) := by decide +kernel
theorem dX4_tick_110 : decode cX4_tick 110 = .ok (.getfield 45, 3) := by decide +kernel
