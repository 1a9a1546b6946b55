theorem dX4_tick_113 : decode cX4_tick 113 = .ok (.goto 7, 3) := by decide +kernel
theorem dX4_tick_116 : decode cX4_tick 116 = .ok (.aload_n 0, 1) := by decide +kernel
theorem dX4_tick_117 : decode cX4_tick 117 = .ok (.getfield 48, 3) := by decide +kernel
theorem dX4_tick_120 : decode cX4_tick 120 = .ok (.istore_n 3, 1) := by decide +kernel
theorem dX4_tick_121 : decode cX4_tick 121 = .ok (.iconst 0, 1) := by decide +kernel
theorem dX4_tick_122 : decode cX4_tick 122 = .ok (.istore 4, 2) := by decide +kernel
theorem dX4_tick_124 : decode cX4_tick 124 = .ok (.iload 4, 2) := by decide +kernel
theorem dX4_tick_126 : decode cX4_tick 126 = .ok (.iload_n 1, 1) := by decide +kernel
theorem dX4_tick_127 : decode cX4_tick 127 = .ok (.if_icmp .ge 39, 3) := by decide +kernel
theorem dX4_tick_130 : decode cX4_tick 130 = .ok (.iload_n 3, 1) := by decide +kernel
theorem dX4_tick_131 : decode cX4_tick 131 = .ok (.iload_n 2, 1) := by decide +kernel
theorem dX4_tick_132 : decode cX4_tick 132 = .ok (.ifCond .ne 16, 3) := by decide +kernel
theorem dX4_tick_135 : decode cX4_tick 135 = .ok (.aload_n 0, 1) := by decide +kernel
theorem dX4_tick_136 : decode cX4_tick 136 = .ok (.getfield 10, 3) := by decide +kernel
theorem dX4_tick_139 : decode cX4_tick 139 = .ok (.iload 4, 2) := by decide +kernel
theorem dX4_tick_141 : decode cX4_tick 141 = .ok (.baload, 1) := by decide +kernel
theorem dX4_tick_142 : decode cX4_tick 142 = .ok (.invokestatic 89, 3) := by decide +kernel
theorem dX4_tick_145 : decode cX4_tick 145 = .ok (.goto 13, 3) := by decide +kernel
theorem dX4_tick_148 : decode cX4_tick 148 = .ok (.aload_n 0, 1) := by decide +kernel
theorem dX4_tick_149 : decode cX4_tick 149 = .ok (.getfield 10, 3) := by decide +kernel
theorem dX4_tick_152 : decode cX4_tick 152 = .ok (.iload 4, 2) := by decide +kernel
theorem dX4_tick_154 : decode cX4_tick 154 = .ok (.baload, 1) := by decide +kernel
theorem dX4_tick_155 : decode cX4_tick 155 = .ok (.invokestatic 92, 3) := by decide +kernel
theorem dX4_tick_158 : decode cX4_tick 158 = .ok (.iadd, 1) := by decide +kernel
theorem dX4_tick_159 : decode cX4_tick 159 = .ok (.istore_n 3, 1) := by decide +kernel
theorem dX4_tick_160 : decode cX4_tick 160 = .ok (.iinc 4 1, 3) := by decide +kernel
theorem dX4_tick_163 : decode cX4_tick 163 = .ok (.goto (-39), 3) := by decide +kernel
theorem dX4_tick_166 : decode cX4_tick 166 = .ok (.iload_n 3, 1) := by decide +kernel
theorem dX4_tick_167 : decode cX4_tick 167 = .ok (.ireturn, 1) := by decide +kernel
theorem dX4_ticks_0 : decode cX4_ticks 0 = .ok (.aload_n 0, 1) := by decide +kernel
theorem dX4_ticks_1 : decode cX4_ticks 1 = .ok (.getfield 36, 3) := by decide +kernel
theorem dX4_ticks_4 : decode cX4_ticks 4 = .ok (.ireturn, 1) := by decide +kernel
theorem dX4_at_0 : decode cX4_at 0 = .ok (.iload_n 1, 1) := by decide +kernel
theorem dX4_at_1 : decode cX4_at 1 = .ok (.ifCond .ne 10, 3) := by decide +kernel
theorem dX4_at_4 : decode cX4_at 4 = .ok (.aload_n 0, 1) := by decide +kernel
theorem dX4_at_5 : decode cX4_at 5 = .ok (.getfield 22, 3) := by decide +kernel
theorem dX4_at_8 : decode cX4_at 8 = .ok (.goto 28, 3) := by decide +kernel
theorem dX4_at_11 : decode cX4_at 11 = .ok (.iload_n 1, 1) := by decide +kernel
theorem dX4_at_12 : decode cX4_at 12 = .ok (.iconst 1, 1) := by decide +kernel
theorem dX4_at_13 : decode cX4_at 13 = .ok (.if_icmp .ne 10, 3) := by decide +kernel
theorem dX4_at_16 : decode cX4_at 16 = .ok (.aload_n 0, 1) := by decide +kernel
theorem dX4_at_17 : decode cX4_at 17 = .ok (.getfield 26, 3) := by decide +kernel
theorem dX4_at_20 : decode cX4_at 20 = .ok (.goto 16, 3) := by decide +kernel
theorem dX4_at_23 : decode cX4_at 23 = .ok (.iload_n 1, 1) := by decide +kernel
theorem dX4_at_24 : decode cX4_at 24 = .ok (.iconst 2, 1) := by decide +kernel
theorem dX4_at_25 : decode cX4_at 25 = .ok (.if_icmp .ne 10, 3) := by decide +kernel
theorem dX4_at_28 : decode cX4_at 28 = .ok (.aload_n 0, 1) := by decide +kernel
theorem dX4_at_29 : decode cX4_at 29 = .ok (.getfield 29, 3) := by decide +kernel
theorem dX4_at_32 : decode cX4_at 32 = .ok (.goto 4, 3) := by decide +kernel
theorem dX4_at_35 : decode cX4_at 35 = .ok (.iconst 0, 1) := by decide +kernel
theorem dX4_at_36 : decode cX4_at 36 = .ok (.ireturn, 1) := by decide +kernel
theorem dX4_off_0 : decode cX4_off 0 = .ok (.aload_n 0, 1) := by decide +kernel
theorem dX4_off_1 : decode cX4_off 1 = .ok (.getfield 39, 3) := by decide +kernel
theorem dX4_off_4 : decode cX4_off 4 = .ok (.ireturn, 1) := by decide +kernel
set_option maxRecDepth 20000 in
theorem ggX4_strays_X4_partOf : GoodIn wsX4_strays wsX4_partOf := goodIn_r _ [10, 1, 11, 12, 13, 9, 14, 18, 19, 20, 21, 22, 23, 24, 25, 26, 27, 28, 29, 30, 31, 32] (by decide +kernel) (by decide +kernel)
set_option maxRecDepth 20000 in
theorem gX4_strays_X4_partOf : GoodIn wsX4_strays (wsV RX4 104 RX4 yX4_partOf wsX4_partOf) := goodIn_app (goodIn_of _ (by decide +kernel)) ggX4_strays_X4_partOf
set_option maxRecDepth 20000 in
theorem ggX4_strays_X4_amount : GoodIn wsX4_strays wsX4_amount := goodIn_r _ [17] (by decide +kernel) (by decide +kernel)
set_option maxRecDepth 20000 in
theorem gX4_strays_X4_amount : GoodIn wsX4_strays (va_wsS RX4 63 yX4_amount wsX4_amount) := goodIn_app (goodIn_of _ (by decide +kernel)) ggX4_strays_X4_amount
theorem dX4_strays_0 : decode cX4_strays 0 = .ok (.iconst 0, 1) := by decide +kernel
theorem dX4_strays_1 : decode cX4_strays 1 = .ok (.istore_n 1, 1) := by decide +kernel
theorem dX4_strays_2 : decode cX4_strays 2 = .ok (.iconst 1, 1) := by decide +kernel
theorem dX4_strays_3 : decode cX4_strays 3 = .ok (.istore_n 2, 1) := by decide +kernel
theorem dX4_strays_4 : decode cX4_strays 4 = .ok (.iload_n 2, 1) := by decide +kernel
theorem dX4_strays_5 : decode cX4_strays 5 = .ok (.aload_n 0, 1) := by decide +kernel
theorem dX4_strays_6 : decode cX4_strays 6 = .ok (.getfield 36, 3) := by decide +kernel
theorem dX4_strays_9 : decode cX4_strays 9 = .ok (.if_icmp .gt 123, 3) := by decide +kernel
theorem dX4_strays_12 : decode cX4_strays 12 = .ok (.aload_n 0, 1) := by decide +kernel
theorem dX4_strays_13 : decode cX4_strays 13 = .ok (.getfield 42, 3) := by decide +kernel
theorem dX4_strays_16 : decode cX4_strays 16 = .ok (.ifCond .ne 116, 3) := by decide +kernel
theorem dX4_strays_19 : decode cX4_strays 19 = .ok (.aload_n 0, 1) := by decide +kernel
theorem dX4_strays_20 : decode cX4_strays 20 = .ok (.aload_n 0, 1) := by decide +kernel
theorem dX4_strays_21 : decode cX4_strays 21 = .ok (.getfield 54, 3) := by decide +kernel
theorem dX4_strays_24 : decode cX4_strays 24 = .ok (.iload_n 2, 1) := by decide +kernel
theorem dX4_strays_25 : decode cX4_strays 25 = .ok (.invokevirtual 104, 3) := by decide +kernel
theorem dX4_strays_28 : decode cX4_strays 28 = .ok (.aload_n 0, 1) := by decide +kernel
theorem dX4_strays_29 : decode cX4_strays 29 = .ok (.aload_n 0, 1) := by decide +kernel
theorem dX4_strays_30 : decode cX4_strays 30 = .ok (.getfield 54, 3) := by decide +kernel
theorem dX4_strays_33 : decode cX4_strays 33 = .ok (.iload_n 2, 1) := by decide +kernel
theorem dX4_strays_34 : decode cX4_strays 34 = .ok (.iconst 1, 1) := by decide +kernel
theorem dX4_strays_35 : decode cX4_strays 35 = .ok (.isub, 1) := by decide +kernel
theorem dX4_strays_36 : decode cX4_strays 36 = .ok (.invokevirtual 104, 3) := by decide +kernel
theorem dX4_strays_39 : decode cX4_strays 39 = .ok (.isub, 1) := by decide +kernel
theorem dX4_strays_40 : decode cX4_strays 40 = .ok (.invokestatic 63, 3) := by decide +kernel
theorem dX4_strays_43 : decode cX4_strays 43 = .ok (.istore_n 3, 1) := by decide +kernel
theorem dX4_strays_44 : decode cX4_strays 44 = .ok (.aload_n 0, 1) := by decide +kernel
theorem dX4_strays_45 : decode cX4_strays 45 = .ok (.aload_n 0, 1) := by decide +kernel
theorem dX4_strays_46 : decode cX4_strays 46 = .ok (.getfield 57, 3) := by decide +kernel
theorem dX4_strays_49 : decode cX4_strays 49 = .ok (.iload_n 2, 1) := by decide +kernel
theorem dX4_strays_50 : decode cX4_strays 50 = .ok (.invokevirtual 104, 3) := by decide +kernel
theorem dX4_strays_53 : decode cX4_strays 53 = .ok (.aload_n 0, 1) := by decide +kernel
theorem dX4_strays_54 : decode cX4_strays 54 = .ok (.aload_n 0, 1) := by decide +kernel
theorem dX4_strays_55 : decode cX4_strays 55 = .ok (.getfield 57, 3) := by decide +kernel
theorem dX4_strays_58 : decode cX4_strays 58 = .ok (.iload_n 2, 1) := by decide +kernel
theorem dX4_strays_59 : decode cX4_strays 59 = .ok (.iconst 1, 1) := by decide +kernel
theorem dX4_strays_60 : decode cX4_strays 60 = .ok (.isub, 1) := by decide +kernel
theorem dX4_strays_61 : decode cX4_strays 61 = .ok (.invokevirtual 104, 3) := by decide +kernel
theorem dX4_strays_64 : decode cX4_strays 64 = .ok (.isub, 1) := by decide +kernel
theorem dX4_strays_65 : decode cX4_strays 65 = .ok (.invokestatic 63, 3) := by decide +kernel
theorem dX4_strays_68 : decode cX4_strays 68 = .ok (.istore 4, 2) := by decide +kernel
theorem dX4_strays_70 : decode cX4_strays 70 = .ok (.aload_n 0, 1) := by decide +kernel
theorem dX4_strays_71 : decode cX4_strays 71 = .ok (.aload_n 0, 1) := by decide +kernel
theorem dX4_strays_72 : decode cX4_strays 72 = .ok (.getfield 60, 3) := by decide +kernel
theorem dX4_strays_75 : decode cX4_strays 75 = .ok (.iload_n 2, 1) := by decide +kernel
theorem dX4_strays_76 : decode cX4_strays 76 = .ok (.invokevirtual 104, 3) := by decide +kernel
theorem dX4_strays_79 : decode cX4_strays 79 = .ok (.aload_n 0, 1) := by decide +kernel
theorem dX4_strays_80 : decode cX4_strays 80 = .ok (.aload_n 0, 1) := by decide +kernel
theorem dX4_strays_81 : decode cX4_strays 81 = .ok (.getfield 60, 3) := by decide +kernel
theorem dX4_strays_84 : decode cX4_strays 84 = .ok (.iload_n 2, 1) := by decide +kernel
theorem dX4_strays_85 : decode cX4_strays 85 = .ok (.iconst 1, 1) := by decide +kernel
theorem dX4_strays_86 : decode cX4_strays 86 = .ok (.isub, 1) := by decide +kernel
theorem dX4_strays_87 : decode cX4_strays 87 = .ok (.invokevirtual 104, 3) := by decide +kernel
theorem dX4_strays_90 : decode cX4_strays 90 = .ok (.isub, 1) := by decide +kernel
theorem dX4_strays_91 : decode cX4_strays 91 = .ok (.invokestatic 63, 3) := by decide +kernel
theorem dX4_strays_94 : decode cX4_strays 94 = .ok (.istore 5, 2) := by decide +kernel
theorem dX4_strays_96 : decode cX4_strays 96 = .ok (.iload_n 3, 1) := by decide +kernel
theorem dX4_strays_97 : decode cX4_strays 97 = .ok (.iconst 1, 1) := by decide +kernel
theorem dX4_strays_98 : decode cX4_strays 98 = .ok (.if_icmp .gt 25, 3) := by decide +kernel
theorem dX4_strays_101 : decode cX4_strays 101 = .ok (.iload 4, 2) := by decide +kernel
theorem dX4_strays_103 : decode cX4_strays 103 = .ok (.iconst 1, 1) := by decide +kernel
theorem dX4_strays_104 : decode cX4_strays 104 = .ok (.if_icmp .gt 19, 3) := by decide +kernel
theorem dX4_strays_107 : decode cX4_strays 107 = .ok (.iload 5, 2) := by decide +kernel
theorem dX4_strays_109 : decode cX4_strays 109 = .ok (.iconst 1, 1) := by decide +kernel
theorem dX4_strays_110 : decode cX4_strays 110 = .ok (.if_icmp .gt 13, 3) := by decide +kernel
theorem dX4_strays_113 : decode cX4_strays 113 = .ok (.iload_n 3, 1) := by decide +kernel
theorem dX4_strays_114 : decode cX4_strays 114 = .ok (.iload 4, 2) := by decide +kernel
theorem dX4_strays_116 : decode cX4_strays 116 = .ok (.iadd, 1) := by decide +kernel
theorem dX4_strays_117 : decode cX4_strays 117 = .ok (.iload 5, 2) := by decide +kernel
theorem dX4_strays_119 : decode cX4_strays 119 = .ok (.iadd, 1) := by decide +kernel
theorem dX4_strays_120 : decode cX4_strays 120 = .ok (.ifCond .ne 6, 3) := by decide +kernel
theorem dX4_strays_123 : decode cX4_strays 123 = .ok (.iinc 1 1, 3) := by decide +kernel
theorem dX4_strays_126 : decode cX4_strays 126 = .ok (.iinc 2 1, 3) := by decide +kernel
theorem dX4_strays_129 : decode cX4_strays 129 = .ok (.goto (-125), 3) := by decide +kernel
theorem dX4_strays_132 : decode cX4_strays 132 = .ok (.iload_n 1, 1) := by decide +kernel
theorem dX4_strays_133 : decode cX4_strays 133 = .ok (.ireturn, 1) := by decide +kernel
theorem dJ9_floorDiv_f86c9_0 : decode cJ9_floorDiv_f86c9 0 = .ok (.lload_n 0, 1) := by decide +kernel
theorem dJ9_floorDiv_f86c9_1 : decode cJ9_floorDiv_f86c9 1 = .ok (.lload_n 2, 1) := by decide +kernel
theorem dJ9_floorDiv_f86c9_2 : decode cJ9_floorDiv_f86c9 2 = .ok (.ldiv, 1) := by decide +kernel
theorem dJ9_floorDiv_f86c9_3 : decode cJ9_floorDiv_f86c9 3 = .ok (.lstore 4, 2) := by decide +kernel
theorem dJ9_floorDiv_f86c9_5 : decode cJ9_floorDiv_f86c9 5 = .ok (.lload_n 0, 1) := by decide +kernel
theorem dJ9_floorDiv_f86c9_6 : decode cJ9_floorDiv_f86c9 6 = .ok (.lload_n 2, 1) := by decide +kernel
theorem dJ9_floorDiv_f86c9_7 : decode cJ9_floorDiv_f86c9 7 = .ok (.lxor, 1) := by decide +kernel
theorem dJ9_floorDiv_f86c9_8 : decode cJ9_floorDiv_f86c9 8 = .ok (.lconst 0, 1) := by decide +kernel
theorem dJ9_floorDiv_f86c9_9 : decode cJ9_floorDiv_f86c9 9 = .ok (.lcmp, 1) := by decide +kernel
theorem dJ9_floorDiv_f86c9_10 : decode cJ9_floorDiv_f86c9 10 = .ok (.ifCond .ge 17, 3) := by decide +kernel
theorem dJ9_floorDiv_f86c9_13 : decode cJ9_floorDiv_f86c9 13 = .ok (.lload 4, 2) := by decide +kernel
theorem dJ9_floorDiv_f86c9_15 : decode cJ9_floorDiv_f86c9 15 = .ok (.lload_n 2, 1) := by decide +kernel
theorem dJ9_floorDiv_f86c9_16 : decode cJ9_floorDiv_f86c9 16 = .ok (.lmul, 1) := by decide +kernel
theorem dJ9_floorDiv_f86c9_17 : decode cJ9_floorDiv_f86c9 17 = .ok (.lload_n 0, 1) := by decide +kernel
theorem dJ9_floorDiv_f86c9_18 : decode cJ9_floorDiv_f86c9 18 = .ok (.lcmp, 1) := by decide +kernel
theorem dJ9_floorDiv_f86c9_19 : decode cJ9_floorDiv_f86c9 19 = .ok (.ifCond .eq 8, 3) := by decide +kernel
theorem dJ9_floorDiv_f86c9_22 : decode cJ9_floorDiv_f86c9 22 = .ok (.lload 4, 2) := by decide +kernel
theorem dJ9_floorDiv_f86c9_24 : decode cJ9_floorDiv_f86c9 24 = .ok (.lconst 1, 1) := by decide +kernel
theorem dJ9_floorDiv_f86c9_25 : decode cJ9_floorDiv_f86c9 25 = .ok (.lsub, 1) := by decide +kernel
theorem dJ9_floorDiv_f86c9_26 : decode cJ9_floorDiv_f86c9 26 = .ok (.lreturn, 1) := by decide +kernel
theorem dJ9_floorDiv_f86c9_27 : decode cJ9_floorDiv_f86c9 27 = .ok (.lload 4, 2) := by decide +kernel
theorem dJ9_floorDiv_f86c9_29 : decode cJ9_floorDiv_f86c9 29 = .ok (.lreturn, 1) := by decide +kernel
theorem dJ9_abs_0f7a4_0 : decode cJ9_abs_0f7a4 0 = .ok (.iload_n 0, 1) := by decide +kernel
theorem dJ9_abs_0f7a4_1 : decode cJ9_abs_0f7a4 1 = .ok (.ifCond .ge 8, 3) := by decide +kernel
theorem dJ9_abs_0f7a4_4 : decode cJ9_abs_0f7a4 4 = .ok (.iload_n 0, 1) := by decide +kernel
theorem dJ9_abs_0f7a4_5 : decode cJ9_abs_0f7a4 5 = .ok (.ineg, 1) := by decide +kernel
theorem dJ9_abs_0f7a4_6 : decode cJ9_abs_0f7a4 6 = .ok (.goto 4, 3) := by decide +kernel
theorem dJ9_abs_0f7a4_9 : decode cJ9_abs_0f7a4 9 = .ok (.iload_n 0, 1) := by decide +kernel
theorem dJ9_abs_0f7a4_10 : decode cJ9_abs_0f7a4 10 = .ok (.ireturn, 1) := by decide +kernel
theorem dJ9_abs_067f4_0 : decode cJ9_abs_067f4 0 = .ok (.lload_n 0, 1) := by decide +kernel
theorem dJ9_abs_067f4_1 : decode cJ9_abs_067f4 1 = .ok (.lconst 0, 1) := by decide +kernel
theorem dJ9_abs_067f4_2 : decode cJ9_abs_067f4 2 = .ok (.lcmp, 1) := by decide +kernel
theorem dJ9_abs_067f4_3 : decode cJ9_abs_067f4 3 = .ok (.ifCond .ge 8, 3) := by decide +kernel
theorem dJ9_abs_067f4_6 : decode cJ9_abs_067f4 6 = .ok (.lload_n 0, 1) := by decide +kernel
theorem dJ9_abs_067f4_7 : decode cJ9_abs_067f4 7 = .ok (.lneg, 1) := by decide +kernel
theorem dJ9_abs_067f4_8 : decode cJ9_abs_067f4 8 = .ok (.goto 4, 3) := by decide +kernel
theorem dJ9_abs_067f4_11 : decode cJ9_abs_067f4 11 = .ok (.lload_n 0, 1) := by decide +kernel
theorem dJ9_abs_067f4_12 : decode cJ9_abs_067f4 12 = .ok (.lreturn, 1) := by decide +kernel
theorem dJ9_max_7cf53_0 : decode cJ9_max_7cf53 0 = .ok (.iload_n 0, 1) := by decide +kernel
theorem dJ9_max_7cf53_1 : decode cJ9_max_7cf53 1 = .ok (.iload_n 1, 1) := by decide +kernel
theorem dJ9_max_7cf53_2 : decode cJ9_max_7cf53 2 = .ok (.if_icmp .lt 7, 3) := by decide +kernel
theorem dJ9_max_7cf53_5 : decode cJ9_max_7cf53 5 = .ok (.iload_n 0, 1) := by decide +kernel
theorem dJ9_max_7cf53_6 : decode cJ9_max_7cf53 6 = .ok (.goto 4, 3) := by decide +kernel
theorem dJ9_max_7cf53_9 : decode cJ9_max_7cf53 9 = .ok (.iload_n 1, 1) := by decide +kernel
theorem dJ9_max_7cf53_10 : decode cJ9_max_7cf53 10 = .ok (.ireturn, 1) := by decide +kernel
theorem dJ9_max_f86c9_0 : decode cJ9_max_f86c9 0 = .ok (.lload_n 0, 1) := by decide +kernel
theorem dJ9_max_f86c9_1 : decode cJ9_max_f86c9 1 = .ok (.lload_n 2, 1) := by decide +kernel
theorem dJ9_max_f86c9_2 : decode cJ9_max_f86c9 2 = .ok (.lcmp, 1) := by decide +kernel
theorem dJ9_max_f86c9_3 : decode cJ9_max_f86c9 3 = .ok (.ifCond .lt 7, 3) := by decide +kernel
theorem dJ9_max_f86c9_6 : decode cJ9_max_f86c9 6 = .ok (.lload_n 0, 1) := by decide +kernel
theorem dJ9_max_f86c9_7 : decode cJ9_max_f86c9 7 = .ok (.goto 4, 3) := by decide +kernel
theorem dJ9_max_f86c9_10 : decode cJ9_max_f86c9 10 = .ok (.lload_n 2, 1) := by decide +kernel
theorem dJ9_max_f86c9_11 : decode cJ9_max_f86c9 11 = .ok (.lreturn, 1) := by decide +kernel
set_option maxRecDepth 20000 in
theorem ggL_law_X3_init : GoodIn wsL_law wsX3_init := goodIn_r _ [8, 9, 10, 11, 12, 13, 14, 15, 16, 17, 18, 19, 20, 21, 22, 23, 24, 25, 26, 27, 28, 29, 30, 31, 32, 33, 34, 35, 36, 37, 38, 39, 40, 41, 42, 43, 44, 45, 46, 47, 284, 285, 286, 287, 288, 304, 305, 306, 307, 308, 309, 310, 311, 312, 313, 314, 315, 316, 317, 318, 319] (by decide +kernel) (by decide +kernel)
set_option maxRecDepth 20000 in
theorem gL_law_X3_init : GoodIn wsL_law (wsX3_init) := ggL_law_X3_init
set_option maxRecDepth 20000 in
theorem ggL_law_X4_init : GoodIn wsL_law wsX4_init := goodIn_r _ [50, 51, 10, 11, 52, 53, 54, 55, 289, 290, 291, 292, 293, 294, 295, 296, 297, 298, 299, 300, 301, 302, 303] (by decide +kernel) (by decide +kernel)
set_option maxRecDepth 20000 in
theorem gL_law_X4_init : GoodIn wsL_law (wsX4_init) := ggL_law_X4_init
set_option maxRecDepth 20000 in
theorem ggL_law_X3_place : GoodIn wsL_law wsX3_place := goodIn_r _ [59, 23, 60, 61, 2, 62, 63, 64, 65, 66, 67, 68, 69, 13, 284, 285, 286, 287, 288] (by decide +kernel) (by decide +kernel)
set_option maxRecDepth 20000 in
theorem gL_law_X3_place : GoodIn wsL_law (wsV RL 13 RX3 yX3_place wsX3_place) := goodIn_app (goodIn_of _ (by decide +kernel)) ggL_law_X3_place
set_option maxRecDepth 20000 in
theorem ggL_law_X4_place : GoodIn wsL_law wsX4_place := goodIn_r _ [73, 74, 75, 76, 77, 78, 79, 80, 81, 5, 82, 289, 290, 291, 292, 293, 294, 295, 296, 297, 298, 299, 300, 301, 302, 303] (by decide +kernel) (by decide +kernel)
set_option maxRecDepth 20000 in
theorem gL_law_X4_place : GoodIn wsL_law (wsV RL 17 RX4 yX4_place wsX4_place) := goodIn_app (goodIn_of _ (by decide +kernel)) ggL_law_X4_place
set_option maxRecDepth 20000 in
theorem ggL_law_X3_line : GoodIn wsL_law wsX3_line := goodIn_r _ [86, 17, 13, 23, 60, 61, 2, 62, 63, 64, 65, 87, 88, 89, 16, 90, 26, 27, 28, 29, 91, 92, 93, 94, 95, 96, 97, 98, 99, 66, 67, 68, 69, 100, 101, 102, 103, 284, 285, 286, 287, 288, 304, 305, 306, 307] (by decide +kernel) (by decide +kernel)
set_option maxRecDepth 20000 in
theorem gL_law_X3_line : GoodIn wsL_law (wsV RL 18 RX3 yX3_line wsX3_line) := goodIn_app (goodIn_of _ (by decide +kernel)) ggL_law_X3_line
set_option maxRecDepth 20000 in
theorem ggL_law_X4_line : GoodIn wsL_law wsX4_line := goodIn_r _ [107, 74, 108, 75, 109, 76, 110, 111, 98, 95, 99, 78, 80, 81, 5, 82, 112, 113, 114, 115, 116, 117, 118, 77, 119, 120, 121, 122, 79, 289, 290, 291, 292, 293, 294, 295, 296, 297, 298, 299, 300, 301, 302, 303] (by decide +kernel) (by decide +kernel)
set_option maxRecDepth 20000 in
theorem gL_law_X4_line : GoodIn wsL_law (wsV RL 22 RX4 yX4_line wsX4_line) := goodIn_app (goodIn_of _ (by decide +kernel)) ggL_law_X4_line
set_option maxRecDepth 20000 in
theorem ggL_law_X3_arc : GoodIn wsL_law wsX3_arc := goodIn_r _ [126, 13, 127, 22, 21, 23, 60, 61, 2, 62, 63, 64, 65, 128, 129, 130, 20, 131, 46, 47, 38, 39, 40, 41, 42, 43, 44, 45, 132, 133, 134, 135, 136, 137, 138, 139, 36, 37, 140, 141, 142, 143, 144, 145, 146, 147, 148, 149, 150, 151, 95, 152, 153, 154, 155, 156, 157, 98, 99, 158, 159, 160, 91, 92, 93, 94, 96, 97, 66, 67, 68, 69, 161, 162, 163, 164, 284, 285, 286, 287, 288, 308, 309, 310, 311, 312, 313, 314, 315, 316, 317, 318, 319] (by decide +kernel) (by decide +kernel)
set_option maxRecDepth 20000 in
theorem gL_law_X3_arc : GoodIn wsL_law (wsV RL 23 RX3 yX3_arc wsX3_arc) := goodIn_app (goodIn_of _ (by decide +kernel)) ggL_law_X3_arc
set_option maxRecDepth 20000 in
theorem ggL_law_X4_arc : GoodIn wsL_law wsX4_arc := goodIn_r _ [168, 74, 75, 169, 54, 55, 170, 171, 95, 172, 79, 80, 81, 5, 82, 173, 174, 175, 176, 52, 177, 178, 179, 180, 181, 182, 183, 184, 185, 186, 187, 188, 189, 115, 116, 117, 118, 77, 119, 120, 121, 76, 122, 78, 289, 290, 291, 292, 293, 294, 295, 296, 297, 298, 299, 300, 301, 302, 303] (by decide +kernel) (by decide +kernel)
set_option maxRecDepth 20000 in
theorem gL_law_X4_arc : GoodIn wsL_law (wsV RL 27 RX4 yX4_arc wsX4_arc) := goodIn_app (goodIn_of _ (by decide +kernel)) ggL_law_X4_arc
set_option maxRecDepth 20000 in
theorem ggL_law_X3_tick : GoodIn wsL_law wsX3_tick := goodIn_r _ [193, 23, 194, 195, 2, 196, 197, 198, 199, 162, 20, 164, 43, 200, 101, 16, 103, 28, 201, 202, 203, 204, 205, 38, 46, 47, 206, 207, 208, 209, 36, 37, 146, 147, 148, 149, 39, 40, 41, 42, 150, 151, 95, 152, 210, 211, 212, 26, 213, 27, 214, 215, 216, 217, 284, 285, 286, 287, 288, 308, 309, 310, 311, 312, 313, 314, 315, 316, 317, 318, 319, 304, 305, 306, 307] (by decide +kernel) (by decide +kernel)
set_option maxRecDepth 20000 in
theorem gL_law_X3_tick : GoodIn wsL_law (wsV RL 28 RX3 yX3_tick wsX3_tick) := goodIn_app (goodIn_of _ (by decide +kernel)) ggL_law_X3_tick
set_option maxRecDepth 20000 in
theorem ggL_law_X4_tick : GoodIn wsL_law wsX4_tick := goodIn_r _ [221, 77, 78, 119, 120, 108, 121, 109, 122, 110, 54, 222, 223, 224, 5, 225, 226, 227, 228, 229, 184, 185, 186, 187, 188, 189, 289, 290, 291, 292, 293, 294, 295, 296, 297, 298, 299, 300, 301, 302, 303] (by decide +kernel) (by decide +kernel)
set_option maxRecDepth 20000 in
theorem gL_law_X4_tick : GoodIn wsL_law (wsV RL 32 RX4 yX4_tick wsX4_tick) := goodIn_app (goodIn_of _ (by decide +kernel)) ggL_law_X4_tick
set_option maxRecDepth 20000 in
theorem ggL_law_X3_ticks : GoodIn wsL_law wsX3_ticks := goodIn_r _ [233, 23, 197, 198, 199, 162, 20, 164, 43, 200, 101, 16, 103, 28, 284, 285, 286, 287, 288, 308, 309, 310, 311, 312, 313, 314, 315, 316, 317, 318, 319, 304, 305, 306, 307] (by decide +kernel) (by decide +kernel)
set_option maxRecDepth 20000 in
theorem gL_law_X3_ticks : GoodIn wsL_law (wsV RL 33 RX3 yX3_ticks wsX3_ticks) := goodIn_app (goodIn_of _ (by decide +kernel)) ggL_law_X3_ticks
set_option maxRecDepth 20000 in
theorem ggL_law_X4_ticks : GoodIn wsL_law wsX4_ticks := goodIn_r _ [237, 78, 289, 290, 291, 292, 293, 294, 295, 296, 297, 298, 299, 300, 301, 302, 303] (by decide +kernel) (by decide +kernel)
set_option maxRecDepth 20000 in
theorem gL_law_X4_ticks : GoodIn wsL_law (wsV RL 37 RX4 yX4_ticks wsX4_ticks) := goodIn_app (goodIn_of _ (by decide +kernel)) ggL_law_X4_ticks
set_option maxRecDepth 20000 in
theorem ggL_law_X3_at : GoodIn wsL_law wsX3_at := goodIn_r _ [241, 13, 194, 195, 2, 196, 284, 285, 286, 287, 288] (by decide +kernel) (by decide +kernel)
set_option maxRecDepth 20000 in
theorem gL_law_X3_at : GoodIn wsL_law (wsV RL 38 RX3 yX3_at wsX3_at) := goodIn_app (goodIn_of _ (by decide +kernel)) ggL_law_X3_at
set_option maxRecDepth 20000 in
theorem ggL_law_X4_at : GoodIn wsL_law wsX4_at := goodIn_r _ [245, 74, 75, 76, 289, 290, 291, 292, 293, 294, 295, 296, 297, 298, 299, 300, 301, 302, 303] (by decide +kernel) (by decide +kernel)
set_option maxRecDepth 20000 in
theorem gL_law_X4_at : GoodIn wsL_law (wsV RL 42 RX4 yX4_at wsX4_at) := goodIn_app (goodIn_of _ (by decide +kernel)) ggL_law_X4_at
set_option maxRecDepth 20000 in
theorem ggL_law_X3_off : GoodIn wsL_law wsX3_off := goodIn_r _ [249, 23, 250, 251, 252, 253, 20, 254, 44, 255, 256, 16, 257, 284, 285, 286, 287, 288, 308, 309, 310, 311, 312, 313, 314, 315, 316, 317, 318, 319] (by decide +kernel) (by decide +kernel)
set_option maxRecDepth 20000 in
theorem gL_law_X3_off : GoodIn wsL_law (wsV RL 43 RX3 yX3_off wsX3_off) := goodIn_app (goodIn_of _ (by decide +kernel)) ggL_law_X3_off
set_option maxRecDepth 20000 in
theorem ggL_law_X4_off : GoodIn wsL_law wsX4_off := goodIn_r _ [261, 79, 289, 290, 291, 292, 293, 294, 295, 296, 297, 298, 299, 300, 301, 302, 303] (by decide +kernel) (by decide +kernel)
set_option maxRecDepth 20000 in
theorem gL_law_X4_off : GoodIn wsL_law (wsV RL 46 RX4 yX4_off wsX4_off) := goodIn_app (goodIn_of _ (by decide +kernel)) ggL_law_X4_off
set_option maxRecDepth 20000 in
theorem ggL_law_X3_strays : GoodIn wsL_law wsX3_strays := goodIn_r _ [265, 23, 266, 267, 268, 269, 20, 270, 45, 271, 272, 16, 273, 29, 274, 275, 276, 277, 26, 28, 278, 211, 279, 212, 213, 27, 214, 215, 216, 217, 158, 2, 159, 160, 91, 92, 93, 94, 95, 96, 97, 98, 99, 284, 285, 286, 287, 288, 308, 309, 310, 311, 312, 313, 314, 315, 316, 317, 318, 319, 304, 305, 306, 307] (by decide +kernel) (by decide +kernel)
set_option maxRecDepth 20000 in
theorem gL_law_X3_strays : GoodIn wsL_law (wsV RL 47 RX3 yX3_strays wsX3_strays) := goodIn_app (goodIn_of _ (by decide +kernel)) ggL_law_X3_strays
set_option maxRecDepth 20000 in
theorem ggL_law_X4_strays : GoodIn wsL_law wsX4_strays := goodIn_r _ [283, 78, 119, 108, 109, 110, 222, 223, 224, 5, 225, 226, 227, 228, 229, 112, 113, 114, 289, 290, 291, 292, 293, 294, 295, 296, 297, 298, 299, 300, 301, 302, 303] (by decide +kernel) (by decide +kernel)
set_option maxRecDepth 20000 in
theorem gL_law_X4_strays : GoodIn wsL_law (wsV RL 50 RX4 yX4_strays wsX4_strays) := goodIn_app (goodIn_of _ (by decide +kernel)) ggL_law_X4_strays
theorem dL_law_0 : decode cL_law 0 = .ok (.new 7, 3) := by decide +kernel
theorem dL_law_3 : decode cL_law 3 = .ok (.dup, 1) := by decide +kernel
theorem dL_law_4 : decode cL_law 4 = .ok (.invokespecial 9, 3) := by decide +kernel
theorem dL_law_7 : decode cL_law 7 = .ok (.astore_n 1, 1) := by decide +kernel
theorem dL_law_8 : decode cL_law 8 = .ok (.new 10, 3) := by decide +kernel
theorem dL_law_11 : decode cL_law 11 = .ok (.dup, 1) := by decide +kernel
theorem dL_law_12 : decode cL_law 12 = .ok (.invokespecial 12, 3) := by decide +kernel
theorem dL_law_15 : decode cL_law 15 = .ok (.astore_n 2, 1) := by decide +kernel
theorem dL_law_16 : decode cL_law 16 = .ok (.iconst 0, 1) := by decide +kernel
theorem dL_law_17 : decode cL_law 17 = .ok (.istore_n 3, 1) := by decide +kernel
theorem dL_law_18 : decode cL_law 18 = .ok (.iload_n 3, 1) := by decide +kernel
theorem dL_law_19 : decode cL_law 19 = .ok (.aload_n 0, 1) := by decide +kernel
theorem dL_law_20 : decode cL_law 20 = .ok (.arraylength, 1) := by decide +kernel
theorem dL_law_21 : decode cL_law 21 = .ok (.bipush 6, 2) := by decide +kernel
theorem dL_law_23 : decode cL_law 23 = .ok (.isub, 1) := by decide +kernel
theorem dL_law_24 : decode cL_law 24 = .ok (.if_icmp .gt 322, 3) := by decide +kernel
theorem dL_law_27 : decode cL_law 27 = .ok (.aload_n 0, 1) := by decide +kernel
theorem dL_law_28 : decode cL_law 28 = .ok (.iload_n 3, 1) := by decide +kernel
theorem dL_law_29 : decode cL_law 29 = .ok (.iaload, 1) := by decide +kernel
theorem dL_law_30 : decode cL_law 30 = .ok (.bipush 7, 2) := by decide +kernel
theorem dL_law_32 : decode cL_law 32 = .ok (.iand, 1) := by decide +kernel
theorem dL_law_33 : decode cL_law 33 = .ok (.tableswitch 307 0 7 #[47, 90, 133, 212, 245, 258, 281, 294], 47) := by decide +kernel
theorem dL_law_80 : decode cL_law 80 = .ok (.aload_n 1, 1) := by decide +kernel
theorem dL_law_81 : decode cL_law 81 = .ok (.aload_n 0, 1) := by decide +kernel
theorem dL_law_82 : decode cL_law 82 = .ok (.iload_n 3, 1) := by decide +kernel
theorem dL_law_83 : decode cL_law 83 = .ok (.iconst 1, 1) := by decide +kernel
theorem dL_law_84 : decode cL_law 84 = .ok (.iadd, 1) := by decide +kernel
theorem dL_law_85 : decode cL_law 85 = .ok (.iaload, 1) := by decide +kernel
theorem dL_law_86 : decode cL_law 86 = .ok (.aload_n 0, 1) := by decide +kernel
theorem dL_law_87 : decode cL_law 87 = .ok (.iload_n 3, 1) := by decide +kernel
theorem dL_law_88 : decode cL_law 88 = .ok (.iconst 2, 1) := by decide +kernel
theorem dL_law_89 : decode cL_law 89 = .ok (.iadd, 1) := by decide +kernel
theorem dL_law_90 : decode cL_law 90 = .ok (.iaload, 1) := by decide +kernel
theorem dL_law_91 : decode cL_law 91 = .ok (.aload_n 0, 1) := by decide +kernel
theorem dL_law_92 : decode cL_law 92 = .ok (.iload_n 3, 1) := by decide +kernel
theorem dL_law_93 : decode cL_law 93 = .ok (.iconst 3, 1) := by decide +kernel
theorem dL_law_94 : decode cL_law 94 = .ok (.iadd, 1) := by decide +kernel
theorem dL_law_95 : decode cL_law 95 = .ok (.iaload, 1) := by decide +kernel
theorem dL_law_96 : decode cL_law 96 = .ok (.invokevirtual 13, 3) := by decide +kernel
theorem dL_law_99 : decode cL_law 99 = .ok (.aload_n 2, 1) := by decide +kernel
theorem dL_law_100 : decode cL_law 100 = .ok (.aload_n 0, 1) := by decide +kernel
theorem dL_law_101 : decode cL_law 101 = .ok (.iload_n 3, 1) := by decide +kernel
theorem dL_law_102 : decode cL_law 102 = .ok (.iconst 1, 1) := by decide +kernel
theorem dL_law_103 : decode cL_law 103 = .ok (.iadd, 1) := by decide +kernel
theorem dL_law_104 : decode cL_law 104 = .ok (.iaload, 1) := by decide +kernel
theorem dL_law_105 : decode cL_law 105 = .ok (.aload_n 0, 1) := by decide +kernel
theorem dL_law_106 : decode cL_law 106 = .ok (.iload_n 3, 1) := by decide +kernel
theorem dL_law_107 : decode cL_law 107 = .ok (.iconst 2, 1) := by decide +kernel
theorem dL_law_108 : decode cL_law 108 = .ok (.iadd, 1) := by decide +kernel
theorem dL_law_109 : decode cL_law 109 = .ok (.iaload, 1) := by decide +kernel
theorem dL_law_110 : decode cL_law 110 = .ok (.aload_n 0, 1) := by decide +kernel
theorem dL_law_111 : decode cL_law 111 = .ok (.iload_n 3, 1) := by decide +kernel
theorem dL_law_112 : decode cL_law 112 = .ok (.iconst 3, 1) := by decide +kernel
theorem dL_law_113 : decode cL_law 113 = .ok (.iadd, 1) := by decide +kernel
theorem dL_law_114 : decode cL_law 114 = .ok (.iaload, 1) := by decide +kernel
theorem dL_law_115 : decode cL_law 115 = .ok (.invokevirtual 17, 3) := by decide +kernel
theorem dL_law_118 : decode cL_law 118 = .ok (.if_icmp .eq 222, 3) := by decide +kernel
theorem dL_law_121 : decode cL_law 121 = .ok (.iconst 0, 1) := by decide +kernel
theorem dL_law_122 : decode cL_law 122 = .ok (.ireturn, 1) := by decide +kernel
theorem dL_law_123 : decode cL_law 123 = .ok (.aload_n 1, 1) := by decide +kernel
theorem dL_law_124 : decode cL_law 124 = .ok (.aload_n 0, 1) := by decide +kernel
theorem dL_law_125 : decode cL_law 125 = .ok (.iload_n 3, 1) := by decide +kernel
theorem dL_law_126 : decode cL_law 126 = .ok (.iconst 1, 1) := by decide +kernel
theorem dL_law_127 : decode cL_law 127 = .ok (.iadd, 1) := by decide +kernel
theorem dL_law_128 : decode cL_law 128 = .ok (.iaload, 1) := by decide +kernel
theorem dL_law_129 : decode cL_law 129 = .ok (.aload_n 0, 1) := by decide +kernel
theorem dL_law_130 : decode cL_law 130 = .ok (.iload_n 3, 1) := by decide +kernel
theorem dL_law_131 : decode cL_law 131 = .ok (.iconst 2, 1) := by decide +kernel
theorem dL_law_132 : decode cL_law 132 = .ok (.iadd, 1) := by decide +kernel
theorem dL_law_133 : decode cL_law 133 = .ok (.iaload, 1) := by decide +kernel
theorem dL_law_134 : decode cL_law 134 = .ok (.aload_n 0, 1) := by decide +kernel
theorem dL_law_135 : decode cL_law 135 = .ok (.iload_n 3, 1) := by decide +kernel
theorem dL_law_136 : decode cL_law 136 = .ok (.iconst 3, 1) := by decide +kernel
theorem dL_law_137 : decode cL_law 137 = .ok (.iadd, 1) := by decide +kernel
theorem dL_law_138 : decode cL_law 138 = .ok (.iaload, 1) := by decide +kernel
theorem dL_law_139 : decode cL_law 139 = .ok (.invokevirtual 18, 3) := by decide +kernel
theorem dL_law_142 : decode cL_law 142 = .ok (.aload_n 2, 1) := by decide +kernel
theorem dL_law_143 : decode cL_law 143 = .ok (.aload_n 0, 1) := by decide +kernel
theorem dL_law_144 : decode cL_law 144 = .ok (.iload_n 3, 1) := by decide +kernel
theorem dL_law_145 : decode cL_law 145 = .ok (.iconst 1, 1) := by decide +kernel
theorem dL_law_146 : decode cL_law 146 = .ok (.iadd, 1) := by decide +kernel
theorem dL_law_147 : decode cL_law 147 = .ok (.iaload, 1) := by decide +kernel
theorem dL_law_148 : decode cL_law 148 = .ok (.aload_n 0, 1) := by decide +kernel
theorem dL_law_149 : decode cL_law 149 = .ok (.iload_n 3, 1) := by decide +kernel
theorem dL_law_150 : decode cL_law 150 = .ok (.iconst 2, 1) := by decide +kernel
theorem dL_law_151 : decode cL_law 151 = .ok (.iadd, 1) := by decide +kernel
theorem dL_law_152 : decode cL_law 152 = .ok (.iaload, 1) := by decide +kernel
theorem dL_law_153 : decode cL_law 153 = .ok (.aload_n 0, 1) := by decide +kernel
theorem dL_law_154 : decode cL_law 154 = .ok (.iload_n 3, 1) := by decide +kernel
theorem dL_law_155 : decode cL_law 155 = .ok (.iconst 3, 1) := by decide +kernel
theorem dL_law_156 : decode cL_law 156 = .ok (.iadd, 1) := by decide +kernel
theorem dL_law_157 : decode cL_law 157 = .ok (.iaload, 1) := by decide +kernel
theorem dL_law_158 : decode cL_law 158 = .ok (.invokevirtual 22, 3) := by decide +kernel
theorem dL_law_161 : decode cL_law 161 = .ok (.if_icmp .eq 179, 3) := by decide +kernel
theorem dL_law_164 : decode cL_law 164 = .ok (.iconst 0, 1) := by decide +kernel
theorem dL_law_165 : decode cL_law 165 = .ok (.ireturn, 1) := by decide +kernel
theorem dL_law_166 : decode cL_law 166 = .ok (.aload_n 1, 1) := by decide +kernel
theorem dL_law_167 : decode cL_law 167 = .ok (.aload_n 0, 1) := by decide +kernel
theorem dL_law_168 : decode cL_law 168 = .ok (.iload_n 3, 1) := by decide +kernel
theorem dL_law_169 : decode cL_law 169 = .ok (.iconst 1, 1) := by decide +kernel
theorem dL_law_170 : decode cL_law 170 = .ok (.iadd, 1) := by decide +kernel
theorem dL_law_171 : decode cL_law 171 = .ok (.iaload, 1) := by decide +kernel
theorem dL_law_172 : decode cL_law 172 = .ok (.aload_n 0, 1) := by decide +kernel
theorem dL_law_173 : decode cL_law 173 = .ok (.iload_n 3, 1) := by decide +kernel
theorem dL_law_174 : decode cL_law 174 = .ok (.iconst 2, 1) := by decide +kernel
theorem dL_law_175 : decode cL_law 175 = .ok (.iadd, 1) := by decide +kernel
theorem dL_law_176 : decode cL_law 176 = .ok (.iaload, 1) := by decide +kernel
theorem dL_law_177 : decode cL_law 177 = .ok (.aload_n 0, 1) := by decide +kernel
theorem dL_law_178 : decode cL_law 178 = .ok (.iload_n 3, 1) := by decide +kernel
theorem dL_law_179 : decode cL_law 179 = .ok (.iconst 3, 1) := by decide +kernel
theorem dL_law_180 : decode cL_law 180 = .ok (.iadd, 1) := by decide +kernel
theorem dL_law_181 : decode cL_law 181 = .ok (.iaload, 1) := by decide +kernel
theorem dL_law_182 : decode cL_law 182 = .ok (.aload_n 0, 1) := by decide +kernel
theorem dL_law_183 : decode cL_law 183 = .ok (.iload_n 3, 1) := by decide +kernel
theorem dL_law_184 : decode cL_law 184 = .ok (.iconst 4, 1) := by decide +kernel
theorem dL_law_185 : decode cL_law 185 = .ok (.iadd, 1) := by decide +kernel
theorem dL_law_186 : decode cL_law 186 = .ok (.iaload, 1) := by decide +kernel
theorem dL_law_187 : decode cL_law 187 = .ok (.aload_n 0, 1) := by decide +kernel
theorem dL_law_188 : decode cL_law 188 = .ok (.iload_n 3, 1) := by decide +kernel
theorem dL_law_189 : decode cL_law 189 = .ok (.iconst 5, 1) := by decide +kernel
theorem dL_law_190 : decode cL_law 190 = .ok (.iadd, 1) := by decide +kernel
theorem dL_law_191 : decode cL_law 191 = .ok (.iaload, 1) := by decide +kernel
theorem dL_law_192 : decode cL_law 192 = .ok (.ifCond .eq 7, 3) := by decide +kernel
theorem dL_law_195 : decode cL_law 195 = .ok (.iconst 1, 1) := by decide +kernel
theorem dL_law_196 : decode cL_law 196 = .ok (.goto 4, 3) := by decide +kernel
theorem dL_law_199 : decode cL_law 199 = .ok (.iconst 0, 1) := by decide +kernel
theorem dL_law_200 : decode cL_law 200 = .ok (.invokevirtual 23, 3) := by decide +kernel
theorem dL_law_203 : decode cL_law 203 = .ok (.aload_n 2, 1) := by decide +kernel
theorem dL_law_204 : decode cL_law 204 = .ok (.aload_n 0, 1) := by decide +kernel
theorem dL_law_205 : decode cL_law 205 = .ok (.iload_n 3, 1) := by decide +kernel
theorem dL_law_206 : decode cL_law 206 = .ok (.iconst 1, 1) := by decide +kernel
theorem dL_law_207 : decode cL_law 207 = .ok (.iadd, 1) := by decide +kernel
theorem dL_law_208 : decode cL_law 208 = .ok (.iaload, 1) := by decide +kernel
theorem dL_law_209 : decode cL_law 209 = .ok (.aload_n 0, 1) := by decide +kernel
theorem dL_law_210 : decode cL_law 210 = .ok (.iload_n 3, 1) := by decide +kernel
theorem dL_law_211 : decode cL_law 211 = .ok (.iconst 2, 1) := by decide +kernel
theorem dL_law_212 : decode cL_law 212 = .ok (.iadd, 1) := by decide +kernel
theorem dL_law_213 : decode cL_law 213 = .ok (.iaload, 1) := by decide +kernel
theorem dL_law_214 : decode cL_law 214 = .ok (.aload_n 0, 1) := by decide +kernel
theorem dL_law_215 : decode cL_law 215 = .ok (.iload_n 3, 1) := by decide +kernel
theorem dL_law_216 : decode cL_law 216 = .ok (.iconst 3, 1) := by decide +kernel
theorem dL_law_217 : decode cL_law 217 = .ok (.iadd, 1) := by decide +kernel
theorem dL_law_218 : decode cL_law 218 = .ok (.iaload, 1) := by decide +kernel
theorem dL_law_219 : decode cL_law 219 = .ok (.aload_n 0, 1) := by decide +kernel
theorem dL_law_220 : decode cL_law 220 = .ok (.iload_n 3, 1) := by decide +kernel
theorem dL_law_221 : decode cL_law 221 = .ok (.iconst 4, 1) := by decide +kernel
theorem dL_law_222 : decode cL_law 222 = .ok (.iadd, 1) := by decide +kernel
theorem dL_law_223 : decode cL_law 223 = .ok (.iaload, 1) := by decide +kernel
theorem dL_law_224 : decode cL_law 224 = .ok (.aload_n 0, 1) := by decide +kernel
theorem dL_law_225 : decode cL_law 225 = .ok (.iload_n 3, 1) := by decide +kernel
theorem dL_law_226 : decode cL_law 226 = .ok (.iconst 5, 1) := by decide +kernel
theorem dL_law_227 : decode cL_law 227 = .ok (.iadd, 1) := by decide +kernel
theorem dL_law_228 : decode cL_law 228 = .ok (.iaload, 1) := by decide +kernel
theorem dL_law_229 : decode cL_law 229 = .ok (.ifCond .eq 7, 3) := by decide +kernel
theorem dL_law_232 : decode cL_law 232 = .ok (.iconst 1, 1) := by decide +kernel
theorem dL_law_233 : decode cL_law 233 = .ok (.goto 4, 3) := by decide +kernel
theorem dL_law_236 : decode cL_law 236 = .ok (.iconst 0, 1) := by decide +kernel
theorem dL_law_237 : decode cL_law 237 = .ok (.invokevirtual 27, 3) := by decide +kernel
theorem dL_law_240 : decode cL_law 240 = .ok (.if_icmp .eq 100, 3) := by decide +kernel
theorem dL_law_243 : decode cL_law 243 = .ok (.iconst 0, 1) := by decide +kernel
theorem dL_law_244 : decode cL_law 244 = .ok (.ireturn, 1) := by decide +kernel
theorem dL_law_245 : decode cL_law 245 = .ok (.aload_n 1, 1) := by decide +kernel
theorem dL_law_246 : decode cL_law 246 = .ok (.aload_n 0, 1) := by decide +kernel
theorem dL_law_247 : decode cL_law 247 = .ok (.iload_n 3, 1) := by decide +kernel
theorem dL_law_248 : decode cL_law 248 = .ok (.iconst 1, 1) := by decide +kernel
theorem dL_law_249 : decode cL_law 249 = .ok (.iadd, 1) := by decide +kernel
theorem dL_law_250 : decode cL_law 250 = .ok (.iaload, 1) := by decide +kernel
theorem dL_law_251 : decode cL_law 251 = .ok (.aload_n 0, 1) := by decide +kernel
theorem dL_law_252 : decode cL_law 252 = .ok (.iload_n 3, 1) := by decide +kernel
theorem dL_law_253 : decode cL_law 253 = .ok (.iconst 2, 1) := by decide +kernel
theorem dL_law_254 : decode cL_law 254 = .ok (.iadd, 1) := by decide +kernel
theorem dL_law_255 : decode cL_law 255 = .ok (.iaload, 1) := by decide +kernel
theorem dL_law_256 : decode cL_law 256 = .ok (.invokevirtual 28, 3) := by decide +kernel
theorem dL_law_259 : decode cL_law 259 = .ok (.aload_n 2, 1) := by decide +kernel
theorem dL_law_260 : decode cL_law 260 = .ok (.aload_n 0, 1) := by decide +kernel
theorem dL_law_261 : decode cL_law 261 = .ok (.iload_n 3, 1) := by decide +kernel
theorem dL_law_262 : decode cL_law 262 = .ok (.iconst 1, 1) := by decide +kernel
theorem dL_law_263 : decode cL_law 263 = .ok (.iadd, 1) := by decide +kernel
theorem dL_law_264 : decode cL_law 264 = .ok (.iaload, 1) := by decide +kernel
theorem dL_law_265 : decode cL_law 265 = .ok (.aload_n 0, 1) := by decide +kernel
theorem dL_law_266 : decode cL_law 266 = .ok (.iload_n 3, 1) := by decide +kernel
theorem dL_law_267 : decode cL_law 267 = .ok (.iconst 2, 1) := by decide +kernel
theorem dL_law_268 : decode cL_law 268 = .ok (.iadd, 1) := by decide +kernel
theorem dL_law_269 : decode cL_law 269 = .ok (.iaload, 1) := by decide +kernel
theorem dL_law_270 : decode cL_law 270 = .ok (.invokevirtual 32, 3) := by decide +kernel
theorem dL_law_273 : decode cL_law 273 = .ok (.if_icmp .eq 67, 3) := by decide +kernel
theorem dL_law_276 : decode cL_law 276 = .ok (.iconst 0, 1) := by decide +kernel
theorem dL_law_277 : decode cL_law 277 = .ok (.ireturn, 1) := by decide +kernel
theorem dL_law_278 : decode cL_law 278 = .ok (.aload_n 1, 1) := by decide +kernel
theorem dL_law_279 : decode cL_law 279 = .ok (.invokevirtual 33, 3) := by decide +kernel
theorem dL_law_282 : decode cL_law 282 = .ok (.aload_n 2, 1) := by decide +kernel
theorem dL_law_283 : decode cL_law 283 = .ok (.invokevirtual 37, 3) := by decide +kernel
theorem dL_law_286 : decode cL_law 286 = .ok (.if_icmp .eq 54, 3) := by decide +kernel
theorem dL_law_289 : decode cL_law 289 = .ok (.iconst 0, 1) := by decide +kernel
theorem dL_law_290 : decode cL_law 290 = .ok (.ireturn, 1) := by decide +kernel
theorem dL_law_291 : decode cL_law 291 = .ok (.aload_n 1, 1) := by decide +kernel
theorem dL_law_292 : decode cL_law 292 = .ok (.aload_n 0, 1) := by decide +kernel
theorem dL_law_293 : decode cL_law 293 = .ok (.iload_n 3, 1) := by decide +kernel
theorem dL_law_294 : decode cL_law 294 = .ok (.iconst 1, 1) := by decide +kernel
theorem dL_law_295 : decode cL_law 295 = .ok (.iadd, 1) := by decide +kernel
theorem dL_law_296 : decode cL_law 296 = .ok (.iaload, 1) := by decide +kernel
theorem dL_law_297 : decode cL_law 297 = .ok (.invokevirtual 38, 3) := by decide +kernel
theorem dL_law_300 : decode cL_law 300 = .ok (.aload_n 2, 1) := by decide +kernel
theorem dL_law_301 : decode cL_law 301 = .ok (.aload_n 0, 1) := by decide +kernel
theorem dL_law_302 : decode cL_law 302 = .ok (.iload_n 3, 1) := by decide +kernel
theorem dL_law_303 : decode cL_law 303 = .ok (.iconst 1, 1) := by decide +kernel
theorem dL_law_304 : decode cL_law 304 = .ok (.iadd, 1) := by decide +kernel
theorem dL_law_305 : decode cL_law 305 = .ok (.iaload, 1) := by decide +kernel
theorem dL_law_306 : decode cL_law 306 = .ok (.invokevirtual 42, 3) := by decide +kernel
theorem dL_law_309 : decode cL_law 309 = .ok (.if_icmp .eq 31, 3) := by decide +kernel
theorem dL_law_312 : decode cL_law 312 = .ok (.iconst 0, 1) := by decide +kernel
theorem dL_law_313 : decode cL_law 313 = .ok (.ireturn, 1) := by decide +kernel
theorem dL_law_314 : decode cL_law 314 = .ok (.aload_n 1, 1) := by decide +kernel
theorem dL_law_315 : decode cL_law 315 = .ok (.invokevirtual 43, 3) := by decide +kernel
theorem dL_law_318 : decode cL_law 318 = .ok (.aload_n 2, 1) := by decide +kernel
theorem dL_law_319 : decode cL_law 319 = .ok (.invokevirtual 46, 3) := by decide +kernel
theorem dL_law_322 : decode cL_law 322 = .ok (.if_icmp .eq 18, 3) := by decide +kernel
theorem dL_law_325 : decode cL_law 325 = .ok (.iconst 0, 1) := by decide +kernel
theorem dL_law_326 : decode cL_law 326 = .ok (.ireturn, 1) := by decide +kernel
theorem dL_law_327 : decode cL_law 327 = .ok (.aload_n 1, 1) := by decide +kernel
theorem dL_law_328 : decode cL_law 328 = .ok (.invokevirtual 47, 3) := by decide +kernel
theorem dL_law_331 : decode cL_law 331 = .ok (.aload_n 2, 1) := by decide +kernel
theorem dL_law_332 : decode cL_law 332 = .ok (.invokevirtual 50, 3) := by decide +kernel
theorem dL_law_335 : decode cL_law 335 = .ok (.if_icmp .eq 5, 3) := by decide +kernel
theorem dL_law_338 : decode cL_law 338 = .ok (.iconst 0, 1) := by decide +kernel
theorem dL_law_339 : decode cL_law 339 = .ok (.ireturn, 1) := by decide +kernel
theorem dL_law_340 : decode cL_law 340 = .ok (.iinc 3 6, 3) := by decide +kernel
theorem dL_law_343 : decode cL_law 343 = .ok (.goto (-325), 3) := by decide +kernel
theorem dL_law_346 : decode cL_law 346 = .ok (.iconst 1, 1) := by decide +kernel
theorem dL_law_347 : decode cL_law 347 = .ok (.ireturn, 1) := by decide +kernel
abbrev vwCl : List vw_C := [(RX0, TX0, 12), (RX1, TX1, 4), (RX3, TX3, 5), (RX4, TX4, 15)]
