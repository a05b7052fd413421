set_option maxRecDepth 20000 in
theorem ggX6_init_X6_empties : GoodIn wsX6_init wsX6_empties := goodIn_r _ [29, 8, 30, 31, 32, 33, 34, 35, 36, 37, 38, 39, 40, 41, 42, 43, 44, 45, 46, 47, 48, 49, 50, 51, 52, 53, 54, 55, 56, 57, 58, 59, 60, 61, 62] (by decide +kernel) (by decide +kernel)
set_option maxRecDepth 20000 in
theorem gX6_init_X6_empties : GoodIn wsX6_init (wsV RX6 69 RX6 yX6_empties wsX6_empties) := goodIn_app (goodIn_of _ (by decide +kernel)) ggX6_init_X6_empties
theorem dX6_init_0 : decode cX6_init 0 = .ok (.aload_n 0, 1) := by decide +kernel
theorem dX6_init_1 : decode cX6_init 1 = .ok (.invokespecial 1, 3) := by decide +kernel
theorem dX6_init_4 : decode cX6_init 4 = .ok (.aload_n 0, 1) := by decide +kernel
theorem dX6_init_5 : decode cX6_init 5 = .ok (.bipush 6, 2) := by decide +kernel
theorem dX6_init_7 : decode cX6_init 7 = .ok (.newarray .int, 2) := by decide +kernel
theorem dX6_init_9 : decode cX6_init 9 = .ok (.putfield 7, 3) := by decide +kernel
theorem dX6_init_12 : decode cX6_init 12 = .ok (.aload_n 0, 1) := by decide +kernel
theorem dX6_init_13 : decode cX6_init 13 = .ok (.iconst 5, 1) := by decide +kernel
theorem dX6_init_14 : decode cX6_init 14 = .ok (.newarray .int, 2) := by decide +kernel
theorem dX6_init_16 : decode cX6_init 16 = .ok (.putfield 13, 3) := by decide +kernel
theorem dX6_init_19 : decode cX6_init 19 = .ok (.aload_n 0, 1) := by decide +kernel
theorem dX6_init_20 : decode cX6_init 20 = .ok (.bipush 6, 2) := by decide +kernel
theorem dX6_init_22 : decode cX6_init 22 = .ok (.newarray .int, 2) := by decide +kernel
theorem dX6_init_24 : decode cX6_init 24 = .ok (.putfield 16, 3) := by decide +kernel
theorem dX6_init_27 : decode cX6_init 27 = .ok (.aload_n 0, 1) := by decide +kernel
theorem dX6_init_28 : decode cX6_init 28 = .ok (.bipush 82, 2) := by decide +kernel
theorem dX6_init_30 : decode cX6_init 30 = .ok (.newarray .int, 2) := by decide +kernel
theorem dX6_init_32 : decode cX6_init 32 = .ok (.putfield 19, 3) := by decide +kernel
theorem dX6_init_35 : decode cX6_init 35 = .ok (.aload_n 0, 1) := by decide +kernel
theorem dX6_init_36 : decode cX6_init 36 = .ok (.sipush 240, 3) := by decide +kernel
theorem dX6_init_39 : decode cX6_init 39 = .ok (.newarray .int, 2) := by decide +kernel
theorem dX6_init_41 : decode cX6_init 41 = .ok (.putfield 22, 3) := by decide +kernel
theorem dX6_init_44 : decode cX6_init 44 = .ok (.aload_n 0, 1) := by decide +kernel
theorem dX6_init_45 : decode cX6_init 45 = .ok (.iconst (-1), 1) := by decide +kernel
theorem dX6_init_46 : decode cX6_init 46 = .ok (.putfield 25, 3) := by decide +kernel
theorem dX6_init_49 : decode cX6_init 49 = .ok (.aload_n 0, 1) := by decide +kernel
theorem dX6_init_50 : decode cX6_init 50 = .ok (.bipush 6, 2) := by decide +kernel
theorem dX6_init_52 : decode cX6_init 52 = .ok (.newarray .int, 2) := by decide +kernel
theorem dX6_init_54 : decode cX6_init 54 = .ok (.putfield 29, 3) := by decide +kernel
theorem dX6_init_57 : decode cX6_init 57 = .ok (.aload_n 0, 1) := by decide +kernel
theorem dX6_init_58 : decode cX6_init 58 = .ok (.iconst 5, 1) := by decide +kernel
theorem dX6_init_59 : decode cX6_init 59 = .ok (.newarray .int, 2) := by decide +kernel
theorem dX6_init_61 : decode cX6_init 61 = .ok (.putfield 32, 3) := by decide +kernel
theorem dX6_init_64 : decode cX6_init 64 = .ok (.aload_n 0, 1) := by decide +kernel
theorem dX6_init_65 : decode cX6_init 65 = .ok (.bipush 6, 2) := by decide +kernel
theorem dX6_init_67 : decode cX6_init 67 = .ok (.newarray .int, 2) := by decide +kernel
theorem dX6_init_69 : decode cX6_init 69 = .ok (.putfield 35, 3) := by decide +kernel
theorem dX6_init_72 : decode cX6_init 72 = .ok (.aload_n 0, 1) := by decide +kernel
theorem dX6_init_73 : decode cX6_init 73 = .ok (.sipush 1312, 3) := by decide +kernel
theorem dX6_init_76 : decode cX6_init 76 = .ok (.newarray .int, 2) := by decide +kernel
theorem dX6_init_78 : decode cX6_init 78 = .ok (.putfield 38, 3) := by decide +kernel
theorem dX6_init_81 : decode cX6_init 81 = .ok (.aload_n 0, 1) := by decide +kernel
theorem dX6_init_82 : decode cX6_init 82 = .ok (.bipush 6, 2) := by decide +kernel
theorem dX6_init_84 : decode cX6_init 84 = .ok (.newarray .int, 2) := by decide +kernel
theorem dX6_init_86 : decode cX6_init 86 = .ok (.putfield 41, 3) := by decide +kernel
theorem dX6_init_89 : decode cX6_init 89 = .ok (.aload_n 0, 1) := by decide +kernel
theorem dX6_init_90 : decode cX6_init 90 = .ok (.iconst 5, 1) := by decide +kernel
theorem dX6_init_91 : decode cX6_init 91 = .ok (.newarray .int, 2) := by decide +kernel
theorem dX6_init_93 : decode cX6_init 93 = .ok (.putfield 44, 3) := by decide +kernel
theorem dX6_init_96 : decode cX6_init 96 = .ok (.aload_n 0, 1) := by decide +kernel
theorem dX6_init_97 : decode cX6_init 97 = .ok (.bipush 30, 2) := by decide +kernel
theorem dX6_init_99 : decode cX6_init 99 = .ok (.newarray .int, 2) := by decide +kernel
theorem dX6_init_101 : decode cX6_init 101 = .ok (.putfield 47, 3) := by decide +kernel
theorem dX6_init_104 : decode cX6_init 104 = .ok (.aload_n 0, 1) := by decide +kernel
theorem dX6_init_105 : decode cX6_init 105 = .ok (.bipush 6, 2) := by decide +kernel
theorem dX6_init_107 : decode cX6_init 107 = .ok (.newarray .int, 2) := by decide +kernel
theorem dX6_init_109 : decode cX6_init 109 = .ok (.putfield 50, 3) := by decide +kernel
theorem dX6_init_112 : decode cX6_init 112 = .ok (.aload_n 0, 1) := by decide +kernel
theorem dX6_init_113 : decode cX6_init 113 = .ok (.bipush 6, 2) := by decide +kernel
theorem dX6_init_115 : decode cX6_init 115 = .ok (.newarray .int, 2) := by decide +kernel
theorem dX6_init_117 : decode cX6_init 117 = .ok (.putfield 53, 3) := by decide +kernel
theorem dX6_init_120 : decode cX6_init 120 = .ok (.aload_n 0, 1) := by decide +kernel
theorem dX6_init_121 : decode cX6_init 121 = .ok (.bipush 30, 2) := by decide +kernel
theorem dX6_init_123 : decode cX6_init 123 = .ok (.newarray .int, 2) := by decide +kernel
theorem dX6_init_125 : decode cX6_init 125 = .ok (.putfield 56, 3) := by decide +kernel
theorem dX6_init_128 : decode cX6_init 128 = .ok (.aload_n 0, 1) := by decide +kernel
theorem dX6_init_129 : decode cX6_init 129 = .ok (.sipush 166, 3) := by decide +kernel
theorem dX6_init_132 : decode cX6_init 132 = .ok (.newarray .int, 2) := by decide +kernel
theorem dX6_init_134 : decode cX6_init 134 = .ok (.putfield 59, 3) := by decide +kernel
theorem dX6_init_137 : decode cX6_init 137 = .ok (.aload_n 0, 1) := by decide +kernel
theorem dX6_init_138 : decode cX6_init 138 = .ok (.iconst 2, 1) := by decide +kernel
theorem dX6_init_139 : decode cX6_init 139 = .ok (.newarray .boolean, 2) := by decide +kernel
theorem dX6_init_141 : decode cX6_init 141 = .ok (.putfield 62, 3) := by decide +kernel
theorem dX6_init_144 : decode cX6_init 144 = .ok (.aload_n 0, 1) := by decide +kernel
theorem dX6_init_145 : decode cX6_init 145 = .ok (.iconst 0, 1) := by decide +kernel
theorem dX6_init_146 : decode cX6_init 146 = .ok (.putfield 66, 3) := by decide +kernel
theorem dX6_init_149 : decode cX6_init 149 = .ok (.aload_n 0, 1) := by decide +kernel
theorem dX6_init_150 : decode cX6_init 150 = .ok (.invokevirtual 69, 3) := by decide +kernel
theorem dX6_init_153 : decode cX6_init 153 = .ok (.return_, 1) := by decide +kernel
theorem dX6_in_0 : decode cX6_in 0 = .ok (.lload_n 0, 1) := by decide +kernel
theorem dX6_in_1 : decode cX6_in 1 = .ok (.lload_n 2, 1) := by decide +kernel
theorem dX6_in_2 : decode cX6_in 2 = .ok (.lcmp, 1) := by decide +kernel
theorem dX6_in_3 : decode cX6_in 3 = .ok (.ifCond .lt 14, 3) := by decide +kernel
theorem dX6_in_6 : decode cX6_in 6 = .ok (.lload_n 0, 1) := by decide +kernel
theorem dX6_in_7 : decode cX6_in 7 = .ok (.lload 4, 2) := by decide +kernel
theorem dX6_in_9 : decode cX6_in 9 = .ok (.lcmp, 1) := by decide +kernel
theorem dX6_in_10 : decode cX6_in 10 = .ok (.ifCond .gt 7, 3) := by decide +kernel
theorem dX6_in_13 : decode cX6_in 13 = .ok (.iconst 1, 1) := by decide +kernel
theorem dX6_in_14 : decode cX6_in 14 = .ok (.goto 4, 3) := by decide +kernel
theorem dX6_in_17 : decode cX6_in 17 = .ok (.iconst 0, 1) := by decide +kernel
theorem dX6_in_18 : decode cX6_in 18 = .ok (.ireturn, 1) := by decide +kernel
theorem dX6_has_0 : decode cX6_has 0 = .ok (.iload_n 0, 1) := by decide +kernel
theorem dX6_has_1 : decode cX6_has 1 = .ok (.iload_n 1, 1) := by decide +kernel
theorem dX6_has_2 : decode cX6_has 2 = .ok (.ishr, 1) := by decide +kernel
theorem dX6_has_3 : decode cX6_has 3 = .ok (.iconst 1, 1) := by decide +kernel
theorem dX6_has_4 : decode cX6_has 4 = .ok (.iand, 1) := by decide +kernel
theorem dX6_has_5 : decode cX6_has 5 = .ok (.iconst 1, 1) := by decide +kernel
theorem dX6_has_6 : decode cX6_has 6 = .ok (.if_icmp .ne 7, 3) := by decide +kernel
theorem dX6_has_9 : decode cX6_has 9 = .ok (.iconst 1, 1) := by decide +kernel
theorem dX6_has_10 : decode cX6_has 10 = .ok (.goto 4, 3) := by decide +kernel
theorem dX6_has_13 : decode cX6_has 13 = .ok (.iconst 0, 1) := by decide +kernel
theorem dX6_has_14 : decode cX6_has 14 = .ok (.ireturn, 1) := by decide +kernel
theorem dX6_ones_0 : decode cX6_ones 0 = .ok (.iconst 0, 1) := by decide +kernel
theorem dX6_ones_1 : decode cX6_ones 1 = .ok (.istore_n 1, 1) := by decide +kernel
theorem dX6_ones_2 : decode cX6_ones 2 = .ok (.iconst 0, 1) := by decide +kernel
theorem dX6_ones_3 : decode cX6_ones 3 = .ok (.istore_n 2, 1) := by decide +kernel
theorem dX6_ones_4 : decode cX6_ones 4 = .ok (.iload_n 2, 1) := by decide +kernel
theorem dX6_ones_5 : decode cX6_ones 5 = .ok (.bipush 30, 2) := by decide +kernel
theorem dX6_ones_7 : decode cX6_ones 7 = .ok (.if_icmp .ge 17, 3) := by decide +kernel
theorem dX6_ones_10 : decode cX6_ones 10 = .ok (.iload_n 1, 1) := by decide +kernel
theorem dX6_ones_11 : decode cX6_ones 11 = .ok (.iload_n 0, 1) := by decide +kernel
theorem dX6_ones_12 : decode cX6_ones 12 = .ok (.iload_n 2, 1) := by decide +kernel
theorem dX6_ones_13 : decode cX6_ones 13 = .ok (.ishr, 1) := by decide +kernel
theorem dX6_ones_14 : decode cX6_ones 14 = .ok (.iconst 1, 1) := by decide +kernel
theorem dX6_ones_15 : decode cX6_ones 15 = .ok (.iand, 1) := by decide +kernel
theorem dX6_ones_16 : decode cX6_ones 16 = .ok (.iadd, 1) := by decide +kernel
theorem dX6_ones_17 : decode cX6_ones 17 = .ok (.istore_n 1, 1) := by decide +kernel
theorem dX6_ones_18 : decode cX6_ones 18 = .ok (.iinc 2 1, 3) := by decide +kernel
theorem dX6_ones_21 : decode cX6_ones 21 = .ok (.goto (-17), 3) := by decide +kernel
theorem dX6_ones_24 : decode cX6_ones 24 = .ok (.iload_n 1, 1) := by decide +kernel
theorem dX6_ones_25 : decode cX6_ones 25 = .ok (.ireturn, 1) := by decide +kernel
theorem dX6_isCapital_0 : decode cX6_isCapital 0 = .ok (.aload_n 0, 1) := by decide +kernel
theorem dX6_isCapital_1 : decode cX6_isCapital 1 = .ok (.getfield 66, 3) := by decide +kernel
theorem dX6_isCapital_4 : decode cX6_isCapital 4 = .ok (.ifCond .le 7, 3) := by decide +kernel
theorem dX6_isCapital_7 : decode cX6_isCapital 7 = .ok (.iconst 1, 1) := by decide +kernel
theorem dX6_isCapital_8 : decode cX6_isCapital 8 = .ok (.goto 4, 3) := by decide +kernel
theorem dX6_isCapital_11 : decode cX6_isCapital 11 = .ok (.iconst 0, 1) := by decide +kernel
theorem dX6_isCapital_12 : decode cX6_isCapital 12 = .ok (.ireturn, 1) := by decide +kernel
set_option maxRecDepth 20000 in
theorem ggX6_isSitter_X6_in : GoodIn wsX6_isSitter wsX6_in := goodIn_r _ [5] (by decide +kernel) (by decide +kernel)
set_option maxRecDepth 20000 in
theorem gX6_isSitter_X6_in : GoodIn wsX6_isSitter (va_wsS RX6 75 yX6_in wsX6_in) := goodIn_app (goodIn_of _ (by decide +kernel)) ggX6_isSitter_X6_in
theorem dX6_isSitter_0 : decode cX6_isSitter 0 = .ok (.iload_n 1, 1) := by decide +kernel
theorem dX6_isSitter_1 : decode cX6_isSitter 1 = .ok (.i2l, 1) := by decide +kernel
theorem dX6_isSitter_2 : decode cX6_isSitter 2 = .ok (.lconst 0, 1) := by decide +kernel
theorem dX6_isSitter_3 : decode cX6_isSitter 3 = .ok (.aload_n 0, 1) := by decide +kernel
theorem dX6_isSitter_4 : decode cX6_isSitter 4 = .ok (.getfield 72, 3) := by decide +kernel
theorem dX6_isSitter_7 : decode cX6_isSitter 7 = .ok (.iconst 1, 1) := by decide +kernel
theorem dX6_isSitter_8 : decode cX6_isSitter 8 = .ok (.isub, 1) := by decide +kernel
theorem dX6_isSitter_9 : decode cX6_isSitter 9 = .ok (.i2l, 1) := by decide +kernel
theorem dX6_isSitter_10 : decode cX6_isSitter 10 = .ok (.invokestatic 75, 3) := by decide +kernel
theorem dX6_isSitter_13 : decode cX6_isSitter 13 = .ok (.ireturn, 1) := by decide +kernel
set_option maxRecDepth 20000 in
theorem ggX6_isWindow_X6_in : GoodIn wsX6_isWindow wsX6_in := goodIn_r _ [5] (by decide +kernel) (by decide +kernel)
set_option maxRecDepth 20000 in
theorem gX6_isWindow_X6_in : GoodIn wsX6_isWindow (va_wsS RX6 75 yX6_in wsX6_in) := goodIn_app (goodIn_of _ (by decide +kernel)) ggX6_isWindow_X6_in
theorem dX6_isWindow_0 : decode cX6_isWindow 0 = .ok (.iload_n 1, 1) := by decide +kernel
theorem dX6_isWindow_1 : decode cX6_isWindow 1 = .ok (.i2l, 1) := by decide +kernel
theorem dX6_isWindow_2 : decode cX6_isWindow 2 = .ok (.lconst 0, 1) := by decide +kernel
theorem dX6_isWindow_3 : decode cX6_isWindow 3 = .ok (.aload_n 0, 1) := by decide +kernel
theorem dX6_isWindow_4 : decode cX6_isWindow 4 = .ok (.getfield 79, 3) := by decide +kernel
theorem dX6_isWindow_7 : decode cX6_isWindow 7 = .ok (.iconst 1, 1) := by decide +kernel
theorem dX6_isWindow_8 : decode cX6_isWindow 8 = .ok (.isub, 1) := by decide +kernel
theorem dX6_isWindow_9 : decode cX6_isWindow 9 = .ok (.i2l, 1) := by decide +kernel
theorem dX6_isWindow_10 : decode cX6_isWindow 10 = .ok (.invokestatic 75, 3) := by decide +kernel
theorem dX6_isWindow_13 : decode cX6_isWindow 13 = .ok (.ireturn, 1) := by decide +kernel
theorem dX6_empties_0 : decode cX6_empties 0 = .ok (.iconst 0, 1) := by decide +kernel
theorem dX6_empties_1 : decode cX6_empties 1 = .ok (.istore_n 1, 1) := by decide +kernel
theorem dX6_empties_2 : decode cX6_empties 2 = .ok (.iload_n 1, 1) := by decide +kernel
theorem dX6_empties_3 : decode cX6_empties 3 = .ok (.bipush 82, 2) := by decide +kernel
theorem dX6_empties_5 : decode cX6_empties 5 = .ok (.if_icmp .ge 16, 3) := by decide +kernel
theorem dX6_empties_8 : decode cX6_empties 8 = .ok (.aload_n 0, 1) := by decide +kernel
theorem dX6_empties_9 : decode cX6_empties 9 = .ok (.getfield 19, 3) := by decide +kernel
theorem dX6_empties_12 : decode cX6_empties 12 = .ok (.iload_n 1, 1) := by decide +kernel
theorem dX6_empties_13 : decode cX6_empties 13 = .ok (.iconst 0, 1) := by decide +kernel
theorem dX6_empties_14 : decode cX6_empties 14 = .ok (.iastore, 1) := by decide +kernel
theorem dX6_empties_15 : decode cX6_empties 15 = .ok (.iinc 1 1, 3) := by decide +kernel
theorem dX6_empties_18 : decode cX6_empties 18 = .ok (.goto (-16), 3) := by decide +kernel
theorem dX6_empties_21 : decode cX6_empties 21 = .ok (.iconst 0, 1) := by decide +kernel
theorem dX6_empties_22 : decode cX6_empties 22 = .ok (.istore_n 1, 1) := by decide +kernel
theorem dX6_empties_23 : decode cX6_empties 23 = .ok (.iload_n 1, 1) := by decide +kernel
theorem dX6_empties_24 : decode cX6_empties 24 = .ok (.bipush 6, 2) := by decide +kernel
theorem dX6_empties_26 : decode cX6_empties 26 = .ok (.if_icmp .ge 19, 3) := by decide +kernel
theorem dX6_empties_29 : decode cX6_empties 29 = .ok (.aload_n 0, 1) := by decide +kernel
theorem dX6_empties_30 : decode cX6_empties 30 = .ok (.getfield 19, 3) := by decide +kernel
theorem dX6_empties_33 : decode cX6_empties 33 = .ok (.bipush 6, 2) := by decide +kernel
theorem dX6_empties_35 : decode cX6_empties 35 = .ok (.iload_n 1, 1) := by decide +kernel
theorem dX6_empties_36 : decode cX6_empties 36 = .ok (.iadd, 1) := by decide +kernel
theorem dX6_empties_37 : decode cX6_empties 37 = .ok (.iconst (-1), 1) := by decide +kernel
theorem dX6_empties_38 : decode cX6_empties 38 = .ok (.iastore, 1) := by decide +kernel
theorem dX6_empties_39 : decode cX6_empties 39 = .ok (.iinc 1 1, 3) := by decide +kernel
theorem dX6_empties_42 : decode cX6_empties 42 = .ok (.goto (-19), 3) := by decide +kernel
theorem dX6_empties_45 : decode cX6_empties 45 = .ok (.return_, 1) := by decide +kernel
set_option maxRecDepth 20000 in
theorem ggX6_feed_X6_in : GoodIn wsX6_feed wsX6_in := goodIn_r _ [9] (by decide +kernel) (by decide +kernel)
set_option maxRecDepth 20000 in
theorem gX6_feed_X6_in : GoodIn wsX6_feed (va_wsS RX6 75 yX6_in wsX6_in) := goodIn_app (goodIn_of _ (by decide +kernel)) ggX6_feed_X6_in
theorem dX6_feed_0 : decode cX6_feed 0 = .ok (.iload_n 1, 1) := by decide +kernel
theorem dX6_feed_1 : decode cX6_feed 1 = .ok (.i2l, 1) := by decide +kernel
theorem dX6_feed_2 : decode cX6_feed 2 = .ok (.lconst 0, 1) := by decide +kernel
theorem dX6_feed_3 : decode cX6_feed 3 = .ok (.ldc2_w 82, 3) := by decide +kernel
theorem dX6_feed_6 : decode cX6_feed 6 = .ok (.invokestatic 75, 3) := by decide +kernel
theorem dX6_feed_9 : decode cX6_feed 9 = .ok (.ifCond .ne 6, 3) := by decide +kernel
theorem dX6_feed_12 : decode cX6_feed 12 = .ok (.ldc 84, 2) := by decide +kernel
theorem dX6_feed_14 : decode cX6_feed 14 = .ok (.ireturn, 1) := by decide +kernel
theorem dX6_feed_15 : decode cX6_feed 15 = .ok (.aload_n 0, 1) := by decide +kernel
theorem dX6_feed_16 : decode cX6_feed 16 = .ok (.getfield 85, 3) := by decide +kernel
theorem dX6_feed_19 : decode cX6_feed 19 = .ok (.sipush 240, 3) := by decide +kernel
theorem dX6_feed_22 : decode cX6_feed 22 = .ok (.if_icmp .ne 6, 3) := by decide +kernel
theorem dX6_feed_25 : decode cX6_feed 25 = .ok (.ldc 88, 2) := by decide +kernel
theorem dX6_feed_27 : decode cX6_feed 27 = .ok (.ireturn, 1) := by decide +kernel
theorem dX6_feed_28 : decode cX6_feed 28 = .ok (.aload_n 0, 1) := by decide +kernel
theorem dX6_feed_29 : decode cX6_feed 29 = .ok (.getfield 22, 3) := by decide +kernel
theorem dX6_feed_32 : decode cX6_feed 32 = .ok (.aload_n 0, 1) := by decide +kernel
theorem dX6_feed_33 : decode cX6_feed 33 = .ok (.getfield 85, 3) := by decide +kernel
theorem dX6_feed_36 : decode cX6_feed 36 = .ok (.iload_n 1, 1) := by decide +kernel
theorem dX6_feed_37 : decode cX6_feed 37 = .ok (.iastore, 1) := by decide +kernel
theorem dX6_feed_38 : decode cX6_feed 38 = .ok (.aload_n 0, 1) := by decide +kernel
theorem dX6_feed_39 : decode cX6_feed 39 = .ok (.dup, 1) := by decide +kernel
theorem dX6_feed_40 : decode cX6_feed 40 = .ok (.getfield 85, 3) := by decide +kernel
theorem dX6_feed_43 : decode cX6_feed 43 = .ok (.iconst 1, 1) := by decide +kernel
theorem dX6_feed_44 : decode cX6_feed 44 = .ok (.iadd, 1) := by decide +kernel
theorem dX6_feed_45 : decode cX6_feed 45 = .ok (.putfield 85, 3) := by decide +kernel
theorem dX6_feed_48 : decode cX6_feed 48 = .ok (.aload_n 0, 1) := by decide +kernel
theorem dX6_feed_49 : decode cX6_feed 49 = .ok (.getfield 85, 3) := by decide +kernel
theorem dX6_feed_52 : decode cX6_feed 52 = .ok (.ireturn, 1) := by decide +kernel
theorem dX6_here_0 : decode cX6_here 0 = .ok (.aload_n 0, 1) := by decide +kernel
theorem dX6_here_1 : decode cX6_here 1 = .ok (.getfield 89, 3) := by decide +kernel
theorem dX6_here_4 : decode cX6_here 4 = .ok (.aload_n 0, 1) := by decide +kernel
theorem dX6_here_5 : decode cX6_here 5 = .ok (.getfield 85, 3) := by decide +kernel
theorem dX6_here_8 : decode cX6_here 8 = .ok (.if_icmp .ge 30, 3) := by decide +kernel
theorem dX6_here_11 : decode cX6_here 11 = .ok (.aload_n 0, 1) := by decide +kernel
theorem dX6_here_12 : decode cX6_here 12 = .ok (.getfield 22, 3) := by decide +kernel
theorem dX6_here_15 : decode cX6_here 15 = .ok (.aload_n 0, 1) := by decide +kernel
theorem dX6_here_16 : decode cX6_here 16 = .ok (.getfield 89, 3) := by decide +kernel
theorem dX6_here_19 : decode cX6_here 19 = .ok (.iaload, 1) := by decide +kernel
theorem dX6_here_20 : decode cX6_here 20 = .ok (.bipush 32, 2) := by decide +kernel
theorem dX6_here_22 : decode cX6_here 22 = .ok (.if_icmp .ne 16, 3) := by decide +kernel
theorem dX6_here_25 : decode cX6_here 25 = .ok (.aload_n 0, 1) := by decide +kernel
theorem dX6_here_26 : decode cX6_here 26 = .ok (.dup, 1) := by decide +kernel
theorem dX6_here_27 : decode cX6_here 27 = .ok (.getfield 89, 3) := by decide +kernel
theorem dX6_here_30 : decode cX6_here 30 = .ok (.iconst 1, 1) := by decide +kernel
theorem dX6_here_31 : decode cX6_here 31 = .ok (.iadd, 1) := by decide +kernel
theorem dX6_here_32 : decode cX6_here 32 = .ok (.putfield 89, 3) := by decide +kernel
theorem dX6_here_35 : decode cX6_here 35 = .ok (.goto (-35), 3) := by decide +kernel
theorem dX6_here_38 : decode cX6_here 38 = .ok (.aload_n 0, 1) := by decide +kernel
theorem dX6_here_39 : decode cX6_here 39 = .ok (.getfield 89, 3) := by decide +kernel
theorem dX6_here_42 : decode cX6_here 42 = .ok (.aload_n 0, 1) := by decide +kernel
theorem dX6_here_43 : decode cX6_here 43 = .ok (.getfield 85, 3) := by decide +kernel
theorem dX6_here_46 : decode cX6_here 46 = .ok (.if_icmp .ge 15, 3) := by decide +kernel
theorem dX6_here_49 : decode cX6_here 49 = .ok (.aload_n 0, 1) := by decide +kernel
theorem dX6_here_50 : decode cX6_here 50 = .ok (.getfield 22, 3) := by decide +kernel
theorem dX6_here_53 : decode cX6_here 53 = .ok (.aload_n 0, 1) := by decide +kernel
theorem dX6_here_54 : decode cX6_here 54 = .ok (.getfield 89, 3) := by decide +kernel
theorem dX6_here_57 : decode cX6_here 57 = .ok (.iaload, 1) := by decide +kernel
theorem dX6_here_58 : decode cX6_here 58 = .ok (.goto 4, 3) := by decide +kernel
theorem dX6_here_61 : decode cX6_here 61 = .ok (.iconst (-1), 1) := by decide +kernel
theorem dX6_here_62 : decode cX6_here 62 = .ok (.ireturn, 1) := by decide +kernel
theorem dX6_fails_0 : decode cX6_fails 0 = .ok (.aload_n 0, 1) := by decide +kernel
theorem dX6_fails_1 : decode cX6_fails 1 = .ok (.iload_n 2, 1) := by decide +kernel
theorem dX6_fails_2 : decode cX6_fails 2 = .ok (.putfield 25, 3) := by decide +kernel
theorem dX6_fails_5 : decode cX6_fails 5 = .ok (.iload_n 1, 1) := by decide +kernel
theorem dX6_fails_6 : decode cX6_fails 6 = .ok (.ireturn, 1) := by decide +kernel
set_option maxRecDepth 20000 in
theorem ggX6_takeNumber_X6_here : GoodIn wsX6_takeNumber wsX6_here := goodIn_r _ [12, 3, 6, 7, 21, 22, 23, 24, 25, 26, 27, 28, 29, 30, 31, 32, 33, 34, 35, 36, 37, 38, 39, 40, 41, 42, 43, 44, 45, 46, 47, 48, 49, 50, 51, 52, 53] (by decide +kernel) (by decide +kernel)
set_option maxRecDepth 20000 in
theorem gX6_takeNumber_X6_here : GoodIn wsX6_takeNumber (wsV RX6 92 RX6 yX6_here wsX6_here) := goodIn_app (goodIn_of _ (by decide +kernel)) ggX6_takeNumber_X6_here
set_option maxRecDepth 20000 in
theorem ggX6_takeNumber_X6_in : GoodIn wsX6_takeNumber wsX6_in := goodIn_r _ [15] (by decide +kernel) (by decide +kernel)
set_option maxRecDepth 20000 in
theorem gX6_takeNumber_X6_in : GoodIn wsX6_takeNumber (va_wsS RX6 75 yX6_in wsX6_in) := goodIn_app (goodIn_of _ (by decide +kernel)) ggX6_takeNumber_X6_in
set_option maxRecDepth 20000 in
theorem ggX6_takeNumber_X6_fails : GoodIn wsX6_takeNumber wsX6_fails := goodIn_r _ [19, 20, 21, 22, 23, 24, 25, 26, 27, 28, 29, 30, 31, 32, 33, 34, 35, 36, 37, 38, 39, 40, 41, 42, 43, 44, 45, 46, 47, 48, 49, 50, 51, 52, 53] (by decide +kernel) (by decide +kernel)
set_option maxRecDepth 20000 in
theorem gX6_takeNumber_X6_fails : GoodIn wsX6_takeNumber (wsV RX6 100 RX6 yX6_fails wsX6_fails) := goodIn_app (goodIn_of _ (by decide +kernel)) ggX6_takeNumber_X6_fails
theorem dX6_takeNumber_0 : decode cX6_takeNumber 0 = .ok (.aload_n 0, 1) := by decide +kernel
theorem dX6_takeNumber_1 : decode cX6_takeNumber 1 = .ok (.invokevirtual 92, 3) := by decide +kernel
theorem dX6_takeNumber_4 : decode cX6_takeNumber 4 = .ok (.istore_n 3, 1) := by decide +kernel
theorem dX6_takeNumber_5 : decode cX6_takeNumber 5 = .ok (.iload_n 3, 1) := by decide +kernel
theorem dX6_takeNumber_6 : decode cX6_takeNumber 6 = .ok (.i2l, 1) := by decide +kernel
theorem dX6_takeNumber_7 : decode cX6_takeNumber 7 = .ok (.ldc2_w 96, 3) := by decide +kernel
theorem dX6_takeNumber_10 : decode cX6_takeNumber 10 = .ok (.ldc2_w 98, 3) := by decide +kernel
theorem dX6_takeNumber_13 : decode cX6_takeNumber 13 = .ok (.invokestatic 75, 3) := by decide +kernel
theorem dX6_takeNumber_16 : decode cX6_takeNumber 16 = .ok (.ifCond .ne 13, 3) := by decide +kernel
theorem dX6_takeNumber_19 : decode cX6_takeNumber 19 = .ok (.aload_n 0, 1) := by decide +kernel
theorem dX6_takeNumber_20 : decode cX6_takeNumber 20 = .ok (.iconst 1, 1) := by decide +kernel
theorem dX6_takeNumber_21 : decode cX6_takeNumber 21 = .ok (.aload_n 0, 1) := by decide +kernel
theorem dX6_takeNumber_22 : decode cX6_takeNumber 22 = .ok (.getfield 89, 3) := by decide +kernel
theorem dX6_takeNumber_25 : decode cX6_takeNumber 25 = .ok (.invokevirtual 100, 3) := by decide +kernel
theorem dX6_takeNumber_28 : decode cX6_takeNumber 28 = .ok (.ireturn, 1) := by decide +kernel
theorem dX6_takeNumber_29 : decode cX6_takeNumber 29 = .ok (.aload_n 0, 1) := by decide +kernel
theorem dX6_takeNumber_30 : decode cX6_takeNumber 30 = .ok (.aload_n 0, 1) := by decide +kernel
theorem dX6_takeNumber_31 : decode cX6_takeNumber 31 = .ok (.getfield 89, 3) := by decide +kernel
theorem dX6_takeNumber_34 : decode cX6_takeNumber 34 = .ok (.putfield 104, 3) := by decide +kernel
theorem dX6_takeNumber_37 : decode cX6_takeNumber 37 = .ok (.aload_n 0, 1) := by decide +kernel
theorem dX6_takeNumber_38 : decode cX6_takeNumber 38 = .ok (.iconst 0, 1) := by decide +kernel
theorem dX6_takeNumber_39 : decode cX6_takeNumber 39 = .ok (.putfield 107, 3) := by decide +kernel
theorem dX6_takeNumber_42 : decode cX6_takeNumber 42 = .ok (.aload_n 0, 1) := by decide +kernel
theorem dX6_takeNumber_43 : decode cX6_takeNumber 43 = .ok (.getfield 89, 3) := by decide +kernel
theorem dX6_takeNumber_46 : decode cX6_takeNumber 46 = .ok (.aload_n 0, 1) := by decide +kernel
theorem dX6_takeNumber_47 : decode cX6_takeNumber 47 = .ok (.getfield 85, 3) := by decide +kernel
theorem dX6_takeNumber_50 : decode cX6_takeNumber 50 = .ok (.if_icmp .ge 79, 3) := by decide +kernel
theorem dX6_takeNumber_53 : decode cX6_takeNumber 53 = .ok (.aload_n 0, 1) := by decide +kernel
theorem dX6_takeNumber_54 : decode cX6_takeNumber 54 = .ok (.getfield 22, 3) := by decide +kernel
theorem dX6_takeNumber_57 : decode cX6_takeNumber 57 = .ok (.aload_n 0, 1) := by decide +kernel
theorem dX6_takeNumber_58 : decode cX6_takeNumber 58 = .ok (.getfield 89, 3) := by decide +kernel
theorem dX6_takeNumber_61 : decode cX6_takeNumber 61 = .ok (.iaload, 1) := by decide +kernel
theorem dX6_takeNumber_62 : decode cX6_takeNumber 62 = .ok (.i2l, 1) := by decide +kernel
theorem dX6_takeNumber_63 : decode cX6_takeNumber 63 = .ok (.ldc2_w 96, 3) := by decide +kernel
theorem dX6_takeNumber_66 : decode cX6_takeNumber 66 = .ok (.ldc2_w 98, 3) := by decide +kernel
theorem dX6_takeNumber_69 : decode cX6_takeNumber 69 = .ok (.invokestatic 75, 3) := by decide +kernel
theorem dX6_takeNumber_72 : decode cX6_takeNumber 72 = .ok (.ifCond .eq 57, 3) := by decide +kernel
theorem dX6_takeNumber_75 : decode cX6_takeNumber 75 = .ok (.aload_n 0, 1) := by decide +kernel
theorem dX6_takeNumber_76 : decode cX6_takeNumber 76 = .ok (.aload_n 0, 1) := by decide +kernel
theorem dX6_takeNumber_77 : decode cX6_takeNumber 77 = .ok (.getfield 107, 3) := by decide +kernel
theorem dX6_takeNumber_80 : decode cX6_takeNumber 80 = .ok (.sipush 10000, 3) := by decide +kernel
theorem dX6_takeNumber_83 : decode cX6_takeNumber 83 = .ok (.if_icmp .le 10, 3) := by decide +kernel
theorem dX6_takeNumber_86 : decode cX6_takeNumber 86 = .ok (.aload_n 0, 1) := by decide +kernel
theorem dX6_takeNumber_87 : decode cX6_takeNumber 87 = .ok (.getfield 107, 3) := by decide +kernel
theorem dX6_takeNumber_90 : decode cX6_takeNumber 90 = .ok (.goto 23, 3) := by decide +kernel
theorem dX6_takeNumber_93 : decode cX6_takeNumber 93 = .ok (.bipush 10, 2) := by decide +kernel
theorem dX6_takeNumber_95 : decode cX6_takeNumber 95 = .ok (.aload_n 0, 1) := by decide +kernel
theorem dX6_takeNumber_96 : decode cX6_takeNumber 96 = .ok (.getfield 107, 3) := by decide +kernel
theorem dX6_takeNumber_99 : decode cX6_takeNumber 99 = .ok (.imul, 1) := by decide +kernel
theorem dX6_takeNumber_100 : decode cX6_takeNumber 100 = .ok (.aload_n 0, 1) := by decide +kernel
theorem dX6_takeNumber_101 : decode cX6_takeNumber 101 = .ok (.getfield 22, 3) := by decide +kernel
theorem dX6_takeNumber_104 : decode cX6_takeNumber 104 = .ok (.aload_n 0, 1) := by decide +kernel
theorem dX6_takeNumber_105 : decode cX6_takeNumber 105 = .ok (.getfield 89, 3) := by decide +kernel
theorem dX6_takeNumber_108 : decode cX6_takeNumber 108 = .ok (.iaload, 1) := by decide +kernel
theorem dX6_takeNumber_109 : decode cX6_takeNumber 109 = .ok (.iadd, 1) := by decide +kernel
theorem dX6_takeNumber_110 : decode cX6_takeNumber 110 = .ok (.bipush 48, 2) := by decide +kernel
theorem dX6_takeNumber_112 : decode cX6_takeNumber 112 = .ok (.isub, 1) := by decide +kernel
theorem dX6_takeNumber_113 : decode cX6_takeNumber 113 = .ok (.putfield 107, 3) := by decide +kernel
theorem dX6_takeNumber_116 : decode cX6_takeNumber 116 = .ok (.aload_n 0, 1) := by decide +kernel
theorem dX6_takeNumber_117 : decode cX6_takeNumber 117 = .ok (.dup, 1) := by decide +kernel
theorem dX6_takeNumber_118 : decode cX6_takeNumber 118 = .ok (.getfield 89, 3) := by decide +kernel
theorem dX6_takeNumber_121 : decode cX6_takeNumber 121 = .ok (.iconst 1, 1) := by decide +kernel
theorem dX6_takeNumber_122 : decode cX6_takeNumber 122 = .ok (.iadd, 1) := by decide +kernel
theorem dX6_takeNumber_123 : decode cX6_takeNumber 123 = .ok (.putfield 89, 3) := by decide +kernel
theorem dX6_takeNumber_126 : decode cX6_takeNumber 126 = .ok (.goto (-84), 3) := by decide +kernel
theorem dX6_takeNumber_129 : decode cX6_takeNumber 129 = .ok (.aload_n 0, 1) := by decide +kernel
theorem dX6_takeNumber_130 : decode cX6_takeNumber 130 = .ok (.getfield 89, 3) := by decide +kernel
theorem dX6_takeNumber_133 : decode cX6_takeNumber 133 = .ok (.aload_n 0, 1) := by decide +kernel
theorem dX6_takeNumber_134 : decode cX6_takeNumber 134 = .ok (.getfield 104, 3) := by decide +kernel
theorem dX6_takeNumber_137 : decode cX6_takeNumber 137 = .ok (.isub, 1) := by decide +kernel
theorem dX6_takeNumber_138 : decode cX6_takeNumber 138 = .ok (.iconst 3, 1) := by decide +kernel
theorem dX6_takeNumber_139 : decode cX6_takeNumber 139 = .ok (.if_icmp .gt 18, 3) := by decide +kernel
theorem dX6_takeNumber_142 : decode cX6_takeNumber 142 = .ok (.aload_n 0, 1) := by decide +kernel
theorem dX6_takeNumber_143 : decode cX6_takeNumber 143 = .ok (.getfield 107, 3) := by decide +kernel
theorem dX6_takeNumber_146 : decode cX6_takeNumber 146 = .ok (.i2l, 1) := by decide +kernel
theorem dX6_takeNumber_147 : decode cX6_takeNumber 147 = .ok (.iload_n 1, 1) := by decide +kernel
theorem dX6_takeNumber_148 : decode cX6_takeNumber 148 = .ok (.i2l, 1) := by decide +kernel
theorem dX6_takeNumber_149 : decode cX6_takeNumber 149 = .ok (.iload_n 2, 1) := by decide +kernel
theorem dX6_takeNumber_150 : decode cX6_takeNumber 150 = .ok (.i2l, 1) := by decide +kernel
theorem dX6_takeNumber_151 : decode cX6_takeNumber 151 = .ok (.invokestatic 75, 3) := by decide +kernel
theorem dX6_takeNumber_154 : decode cX6_takeNumber 154 = .ok (.ifCond .ne 15, 3) := by decide +kernel
theorem dX6_takeNumber_157 : decode cX6_takeNumber 157 = .ok (.aload_n 0, 1) := by decide +kernel
theorem dX6_takeNumber_158 : decode cX6_takeNumber 158 = .ok (.iconst 2, 1) := by decide +kernel
theorem dX6_takeNumber_159 : decode cX6_takeNumber 159 = .ok (.aload_n 0, 1) := by decide +kernel
theorem dX6_takeNumber_160 : decode cX6_takeNumber 160 = .ok (.getfield 104, 3) := by decide +kernel
theorem dX6_takeNumber_163 : decode cX6_takeNumber 163 = .ok (.invokevirtual 100, 3) := by decide +kernel
theorem dX6_takeNumber_166 : decode cX6_takeNumber 166 = .ok (.goto 4, 3) := by decide +kernel
theorem dX6_takeNumber_169 : decode cX6_takeNumber 169 = .ok (.iconst 0, 1) := by decide +kernel
theorem dX6_takeNumber_170 : decode cX6_takeNumber 170 = .ok (.ireturn, 1) := by decide +kernel
set_option maxRecDepth 20000 in
theorem ggX6_takeGnats_X6_takeNumber : GoodIn wsX6_takeGnats wsX6_takeNumber := goodIn_r _ [7, 8, 9, 10, 11, 1, 12, 13, 14, 15, 16, 6, 17, 18, 19, 20, 21, 22, 23, 24, 25, 26, 27, 28, 29, 30, 31, 32, 33, 34, 35, 36, 37, 38, 39, 40, 41, 42, 43, 44, 45, 46, 47, 48, 49, 50, 51, 52, 53, 54, 55, 56, 57, 58] (by decide +kernel) (by decide +kernel)
set_option maxRecDepth 20000 in
theorem gX6_takeGnats_X6_takeNumber : GoodIn wsX6_takeGnats (wsV RX6 110 RX6 yX6_takeNumber wsX6_takeNumber) := goodIn_app (goodIn_of _ (by decide +kernel)) ggX6_takeGnats_X6_takeNumber
theorem dX6_takeGnats_0 : decode cX6_takeGnats 0 = .ok (.aload_n 0, 1) := by decide +kernel
theorem dX6_takeGnats_1 : decode cX6_takeGnats 1 = .ok (.iconst 1, 1) := by decide +kernel
theorem dX6_takeGnats_2 : decode cX6_takeGnats 2 = .ok (.bipush 30, 2) := by decide +kernel
theorem dX6_takeGnats_4 : decode cX6_takeGnats 4 = .ok (.invokevirtual 110, 3) := by decide +kernel
theorem dX6_takeGnats_7 : decode cX6_takeGnats 7 = .ok (.istore_n 1, 1) := by decide +kernel
theorem dX6_takeGnats_8 : decode cX6_takeGnats 8 = .ok (.aload_n 0, 1) := by decide +kernel
theorem dX6_takeGnats_9 : decode cX6_takeGnats 9 = .ok (.aload_n 0, 1) := by decide +kernel
theorem dX6_takeGnats_10 : decode cX6_takeGnats 10 = .ok (.getfield 107, 3) := by decide +kernel
theorem dX6_takeGnats_13 : decode cX6_takeGnats 13 = .ok (.putfield 113, 3) := by decide +kernel
theorem dX6_takeGnats_16 : decode cX6_takeGnats 16 = .ok (.iload_n 1, 1) := by decide +kernel
theorem dX6_takeGnats_17 : decode cX6_takeGnats 17 = .ok (.ireturn, 1) := by decide +kernel
set_option maxRecDepth 20000 in
theorem ggX6_takeSitter_X6_here : GoodIn wsX6_takeSitter wsX6_here := goodIn_r _ [9, 1, 10, 11, 27, 28, 29, 30, 31, 32, 33, 34, 35, 36, 37, 38, 39, 40, 41, 42, 43, 44, 45, 46, 47, 48, 49, 50, 51, 52, 53, 54, 55, 56, 57, 58, 59] (by decide +kernel) (by decide +kernel)
set_option maxRecDepth 20000 in
theorem gX6_takeSitter_X6_here : GoodIn wsX6_takeSitter (wsV RX6 92 RX6 yX6_here wsX6_here) := goodIn_app (goodIn_of _ (by decide +kernel)) ggX6_takeSitter_X6_here
set_option maxRecDepth 20000 in
theorem ggX6_takeSitter_X6_fails : GoodIn wsX6_takeSitter wsX6_fails := goodIn_r _ [15, 16, 27, 28, 29, 30, 31, 32, 33, 34, 35, 36, 37, 38, 39, 40, 41, 42, 43, 44, 45, 46, 47, 48, 49, 50, 51, 52, 53, 54, 55, 56, 57, 58, 59] (by decide +kernel) (by decide +kernel)
set_option maxRecDepth 20000 in
theorem gX6_takeSitter_X6_fails : GoodIn wsX6_takeSitter (wsV RX6 100 RX6 yX6_fails wsX6_fails) := goodIn_app (goodIn_of _ (by decide +kernel)) ggX6_takeSitter_X6_fails
set_option maxRecDepth 20000 in
theorem ggX6_takeSitter_X6_takeNumber : GoodIn wsX6_takeSitter wsX6_takeNumber := goodIn_r _ [20, 21, 22, 1, 23, 2, 10, 11, 5, 6, 7, 8, 9, 24, 25, 26, 12, 13, 14, 15, 16, 27, 28, 29, 30, 31, 32, 33, 34, 35, 36, 37, 38, 39, 40, 41, 42, 43, 44, 45, 46, 47, 48, 49, 50, 51, 52, 53, 54, 55, 56, 57, 58, 59] (by decide +kernel) (by decide +kernel)
set_option maxRecDepth 20000 in
theorem gX6_takeSitter_X6_takeNumber : GoodIn wsX6_takeSitter (wsV RX6 110 RX6 yX6_takeNumber wsX6_takeNumber) := goodIn_app (goodIn_of _ (by decide +kernel)) ggX6_takeSitter_X6_takeNumber
theorem dX6_takeSitter_0 : decode cX6_takeSitter 0 = .ok (.iconst 0, 1) := by decide +kernel
theorem dX6_takeSitter_1 : decode cX6_takeSitter 1 = .ok (.istore_n 1, 1) := by decide +kernel
theorem dX6_takeSitter_2 : decode cX6_takeSitter 2 = .ok (.iconst 0, 1) := by decide +kernel
theorem dX6_takeSitter_3 : decode cX6_takeSitter 3 = .ok (.istore_n 2, 1) := by decide +kernel
theorem dX6_takeSitter_4 : decode cX6_takeSitter 4 = .ok (.iload_n 2, 1) := by decide +kernel
theorem dX6_takeSitter_5 : decode cX6_takeSitter 5 = .ok (.iconst 5, 1) := by decide +kernel
theorem dX6_takeSitter_6 : decode cX6_takeSitter 6 = .ok (.if_icmp .ge 68, 3) := by decide +kernel
theorem dX6_takeSitter_9 : decode cX6_takeSitter 9 = .ok (.iload_n 2, 1) := by decide +kernel
theorem dX6_takeSitter_10 : decode cX6_takeSitter 10 = .ok (.ifCond .le 32, 3) := by decide +kernel
theorem dX6_takeSitter_13 : decode cX6_takeSitter 13 = .ok (.aload_n 0, 1) := by decide +kernel
theorem dX6_takeSitter_14 : decode cX6_takeSitter 14 = .ok (.invokevirtual 92, 3) := by decide +kernel
theorem dX6_takeSitter_17 : decode cX6_takeSitter 17 = .ok (.bipush 44, 2) := by decide +kernel
theorem dX6_takeSitter_19 : decode cX6_takeSitter 19 = .ok (.if_icmp .eq 13, 3) := by decide +kernel
theorem dX6_takeSitter_22 : decode cX6_takeSitter 22 = .ok (.aload_n 0, 1) := by decide +kernel
theorem dX6_takeSitter_23 : decode cX6_takeSitter 23 = .ok (.iconst 1, 1) := by decide +kernel
theorem dX6_takeSitter_24 : decode cX6_takeSitter 24 = .ok (.aload_n 0, 1) := by decide +kernel
theorem dX6_takeSitter_25 : decode cX6_takeSitter 25 = .ok (.getfield 89, 3) := by decide +kernel
theorem dX6_takeSitter_28 : decode cX6_takeSitter 28 = .ok (.invokevirtual 100, 3) := by decide +kernel
theorem dX6_takeSitter_31 : decode cX6_takeSitter 31 = .ok (.ireturn, 1) := by decide +kernel
theorem dX6_takeSitter_32 : decode cX6_takeSitter 32 = .ok (.aload_n 0, 1) := by decide +kernel
theorem dX6_takeSitter_33 : decode cX6_takeSitter 33 = .ok (.dup, 1) := by decide +kernel
theorem dX6_takeSitter_34 : decode cX6_takeSitter 34 = .ok (.getfield 89, 3) := by decide +kernel
theorem dX6_takeSitter_37 : decode cX6_takeSitter 37 = .ok (.iconst 1, 1) := by decide +kernel
theorem dX6_takeSitter_38 : decode cX6_takeSitter 38 = .ok (.iadd, 1) := by decide +kernel
theorem dX6_takeSitter_39 : decode cX6_takeSitter 39 = .ok (.putfield 89, 3) := by decide +kernel
theorem dX6_takeSitter_42 : decode cX6_takeSitter 42 = .ok (.aload_n 0, 1) := by decide +kernel
theorem dX6_takeSitter_43 : decode cX6_takeSitter 43 = .ok (.iconst 0, 1) := by decide +kernel
theorem dX6_takeSitter_44 : decode cX6_takeSitter 44 = .ok (.bipush 63, 2) := by decide +kernel
theorem dX6_takeSitter_46 : decode cX6_takeSitter 46 = .ok (.invokevirtual 110, 3) := by decide +kernel
theorem dX6_takeSitter_49 : decode cX6_takeSitter 49 = .ok (.istore_n 3, 1) := by decide +kernel
theorem dX6_takeSitter_50 : decode cX6_takeSitter 50 = .ok (.iload_n 3, 1) := by decide +kernel
theorem dX6_takeSitter_51 : decode cX6_takeSitter 51 = .ok (.ifCond .le 5, 3) := by decide +kernel
theorem dX6_takeSitter_54 : decode cX6_takeSitter 54 = .ok (.iload_n 3, 1) := by decide +kernel
theorem dX6_takeSitter_55 : decode cX6_takeSitter 55 = .ok (.ireturn, 1) := by decide +kernel
theorem dX6_takeSitter_56 : decode cX6_takeSitter 56 = .ok (.iload_n 1, 1) := by decide +kernel
theorem dX6_takeSitter_57 : decode cX6_takeSitter 57 = .ok (.aload_n 0, 1) := by decide +kernel
theorem dX6_takeSitter_58 : decode cX6_takeSitter 58 = .ok (.getfield 107, 3) := by decide +kernel
theorem dX6_takeSitter_61 : decode cX6_takeSitter 61 = .ok (.bipush 6, 2) := by decide +kernel
theorem dX6_takeSitter_63 : decode cX6_takeSitter 63 = .ok (.iload_n 2, 1) := by decide +kernel
theorem dX6_takeSitter_64 : decode cX6_takeSitter 64 = .ok (.imul, 1) := by decide +kernel
theorem dX6_takeSitter_65 : decode cX6_takeSitter 65 = .ok (.ishl, 1) := by decide +kernel
theorem dX6_takeSitter_66 : decode cX6_takeSitter 66 = .ok (.ior, 1) := by decide +kernel
theorem dX6_takeSitter_67 : decode cX6_takeSitter 67 = .ok (.istore_n 1, 1) := by decide +kernel
theorem dX6_takeSitter_68 : decode cX6_takeSitter 68 = .ok (.iinc 2 1, 3) := by decide +kernel
theorem dX6_takeSitter_71 : decode cX6_takeSitter 71 = .ok (.goto (-67), 3) := by decide +kernel
theorem dX6_takeSitter_74 : decode cX6_takeSitter 74 = .ok (.aload_n 0, 1) := by decide +kernel
theorem dX6_takeSitter_75 : decode cX6_takeSitter 75 = .ok (.getfield 29, 3) := by decide +kernel
theorem dX6_takeSitter_78 : decode cX6_takeSitter 78 = .ok (.aload_n 0, 1) := by decide +kernel
theorem dX6_takeSitter_79 : decode cX6_takeSitter 79 = .ok (.getfield 116, 3) := by decide +kernel
theorem dX6_takeSitter_82 : decode cX6_takeSitter 82 = .ok (.iload_n 1, 1) := by decide +kernel
theorem dX6_takeSitter_83 : decode cX6_takeSitter 83 = .ok (.iastore, 1) := by decide +kernel
theorem dX6_takeSitter_84 : decode cX6_takeSitter 84 = .ok (.aload_n 0, 1) := by decide +kernel
theorem dX6_takeSitter_85 : decode cX6_takeSitter 85 = .ok (.dup, 1) := by decide +kernel
theorem dX6_takeSitter_86 : decode cX6_takeSitter 86 = .ok (.getfield 116, 3) := by decide +kernel
theorem dX6_takeSitter_89 : decode cX6_takeSitter 89 = .ok (.iconst 1, 1) := by decide +kernel
theorem dX6_takeSitter_90 : decode cX6_takeSitter 90 = .ok (.iadd, 1) := by decide +kernel
theorem dX6_takeSitter_91 : decode cX6_takeSitter 91 = .ok (.putfield 116, 3) := by decide +kernel
theorem dX6_takeSitter_94 : decode cX6_takeSitter 94 = .ok (.iconst 0, 1) := by decide +kernel
theorem dX6_takeSitter_95 : decode cX6_takeSitter 95 = .ok (.ireturn, 1) := by decide +kernel
set_option maxRecDepth 20000 in
theorem ggX6_takeWindow_X6_takeNumber : GoodIn wsX6_takeWindow wsX6_takeNumber := goodIn_r _ [8, 9, 10, 11, 12, 3, 13, 14, 15, 16, 17, 7, 18, 19, 20, 21, 22, 23, 24, 25, 26, 27, 28, 29, 30, 31, 32, 33, 34, 35, 36, 37, 38, 39, 40, 41, 42, 43, 44, 45, 46, 47, 48, 49, 50, 51, 52, 53, 54, 55, 56, 57, 58, 59] (by decide +kernel) (by decide +kernel)
set_option maxRecDepth 20000 in
theorem gX6_takeWindow_X6_takeNumber : GoodIn wsX6_takeWindow (wsV RX6 110 RX6 yX6_takeNumber wsX6_takeNumber) := goodIn_app (goodIn_of _ (by decide +kernel)) ggX6_takeWindow_X6_takeNumber
theorem dX6_takeWindow_0 : decode cX6_takeWindow 0 = .ok (.aload_n 0, 1) := by decide +kernel
theorem dX6_takeWindow_1 : decode cX6_takeWindow 1 = .ok (.iconst 0, 1) := by decide +kernel
theorem dX6_takeWindow_2 : decode cX6_takeWindow 2 = .ok (.iconst 5, 1) := by decide +kernel
theorem dX6_takeWindow_3 : decode cX6_takeWindow 3 = .ok (.invokevirtual 110, 3) := by decide +kernel
theorem dX6_takeWindow_6 : decode cX6_takeWindow 6 = .ok (.istore_n 1, 1) := by decide +kernel
theorem dX6_takeWindow_7 : decode cX6_takeWindow 7 = .ok (.aload_n 0, 1) := by decide +kernel
theorem dX6_takeWindow_8 : decode cX6_takeWindow 8 = .ok (.getfield 32, 3) := by decide +kernel
theorem dX6_takeWindow_11 : decode cX6_takeWindow 11 = .ok (.aload_n 0, 1) := by decide +kernel
theorem dX6_takeWindow_12 : decode cX6_takeWindow 12 = .ok (.getfield 119, 3) := by decide +kernel
theorem dX6_takeWindow_15 : decode cX6_takeWindow 15 = .ok (.aload_n 0, 1) := by decide +kernel
theorem dX6_takeWindow_16 : decode cX6_takeWindow 16 = .ok (.getfield 107, 3) := by decide +kernel
theorem dX6_takeWindow_19 : decode cX6_takeWindow 19 = .ok (.iastore, 1) := by decide +kernel
theorem dX6_takeWindow_20 : decode cX6_takeWindow 20 = .ok (.aload_n 0, 1) := by decide +kernel
theorem dX6_takeWindow_21 : decode cX6_takeWindow 21 = .ok (.dup, 1) := by decide +kernel
theorem dX6_takeWindow_22 : decode cX6_takeWindow 22 = .ok (.getfield 119, 3) := by decide +kernel
theorem dX6_takeWindow_25 : decode cX6_takeWindow 25 = .ok (.iconst 1, 1) := by decide +kernel
theorem dX6_takeWindow_26 : decode cX6_takeWindow 26 = .ok (.iadd, 1) := by decide +kernel
theorem dX6_takeWindow_27 : decode cX6_takeWindow 27 = .ok (.putfield 119, 3) := by decide +kernel
theorem dX6_takeWindow_30 : decode cX6_takeWindow 30 = .ok (.iload_n 1, 1) := by decide +kernel
theorem dX6_takeWindow_31 : decode cX6_takeWindow 31 = .ok (.ireturn, 1) := by decide +kernel
set_option maxRecDepth 20000 in
theorem ggX6_takeCritic_X6_takeNumber : GoodIn wsX6_takeCritic wsX6_takeNumber := goodIn_r _ [8, 9, 10, 11, 12, 3, 13, 14, 15, 16, 17, 7, 18, 19, 20, 21, 22, 23, 24, 25, 26, 27, 28, 29, 30, 31, 32, 33, 34, 35, 36, 37, 38, 39, 40, 41, 42, 43, 44, 45, 46, 47, 48, 49, 50, 51, 52, 53, 54, 55, 56, 57, 58, 59] (by decide +kernel) (by decide +kernel)
set_option maxRecDepth 20000 in
theorem gX6_takeCritic_X6_takeNumber : GoodIn wsX6_takeCritic (wsV RX6 110 RX6 yX6_takeNumber wsX6_takeNumber) := goodIn_app (goodIn_of _ (by decide +kernel)) ggX6_takeCritic_X6_takeNumber
theorem dX6_takeCritic_0 : decode cX6_takeCritic 0 = .ok (.aload_n 0, 1) := by decide +kernel
theorem dX6_takeCritic_1 : decode cX6_takeCritic 1 = .ok (.iconst 1, 1) := by decide +kernel
theorem dX6_takeCritic_2 : decode cX6_takeCritic 2 = .ok (.bipush 63, 2) := by decide +kernel
theorem dX6_takeCritic_4 : decode cX6_takeCritic 4 = .ok (.invokevirtual 110, 3) := by decide +kernel
theorem dX6_takeCritic_7 : decode cX6_takeCritic 7 = .ok (.istore_n 1, 1) := by decide +kernel
theorem dX6_takeCritic_8 : decode cX6_takeCritic 8 = .ok (.aload_n 0, 1) := by decide +kernel
theorem dX6_takeCritic_9 : decode cX6_takeCritic 9 = .ok (.getfield 35, 3) := by decide +kernel
theorem dX6_takeCritic_12 : decode cX6_takeCritic 12 = .ok (.aload_n 0, 1) := by decide +kernel
theorem dX6_takeCritic_13 : decode cX6_takeCritic 13 = .ok (.getfield 122, 3) := by decide +kernel
theorem dX6_takeCritic_16 : decode cX6_takeCritic 16 = .ok (.aload_n 0, 1) := by decide +kernel
theorem dX6_takeCritic_17 : decode cX6_takeCritic 17 = .ok (.getfield 107, 3) := by decide +kernel
theorem dX6_takeCritic_20 : decode cX6_takeCritic 20 = .ok (.iastore, 1) := by decide +kernel
theorem dX6_takeCritic_21 : decode cX6_takeCritic 21 = .ok (.aload_n 0, 1) := by decide +kernel
theorem dX6_takeCritic_22 : decode cX6_takeCritic 22 = .ok (.dup, 1) := by decide +kernel
theorem dX6_takeCritic_23 : decode cX6_takeCritic 23 = .ok (.getfield 122, 3) := by decide +kernel
theorem dX6_takeCritic_26 : decode cX6_takeCritic 26 = .ok (.iconst 1, 1) := by decide +kernel
theorem dX6_takeCritic_27 : decode cX6_takeCritic 27 = .ok (.iadd, 1) := by decide +kernel
theorem dX6_takeCritic_28 : decode cX6_takeCritic 28 = .ok (.putfield 122, 3) := by decide +kernel
theorem dX6_takeCritic_31 : decode cX6_takeCritic 31 = .ok (.iload_n 1, 1) := by decide +kernel
theorem dX6_takeCritic_32 : decode cX6_takeCritic 32 = .ok (.ireturn, 1) := by decide +kernel
theorem dX6_isFull_0 : decode cX6_isFull 0 = .ok (.iload_n 1, 1) := by decide +kernel
theorem dX6_isFull_1 : decode cX6_isFull 1 = .ok (.ifCond .ne 18, 3) := by decide +kernel
theorem dX6_isFull_4 : decode cX6_isFull 4 = .ok (.aload_n 0, 1) := by decide +kernel
theorem dX6_isFull_5 : decode cX6_isFull 5 = .ok (.getfield 113, 3) := by decide +kernel
theorem dX6_isFull_8 : decode cX6_isFull 8 = .ok (.ifCond .le 7, 3) := by decide +kernel
theorem dX6_isFull_11 : decode cX6_isFull 11 = .ok (.iconst 1, 1) := by decide +kernel
theorem dX6_isFull_12 : decode cX6_isFull 12 = .ok (.goto 64, 3) := by decide +kernel
theorem dX6_isFull_15 : decode cX6_isFull 15 = .ok (.iconst 0, 1) := by decide +kernel
theorem dX6_isFull_16 : decode cX6_isFull 16 = .ok (.goto 60, 3) := by decide +kernel
theorem dX6_isFull_19 : decode cX6_isFull 19 = .ok (.iload_n 1, 1) := by decide +kernel
theorem dX6_isFull_20 : decode cX6_isFull 20 = .ok (.iconst 1, 1) := by decide +kernel
theorem dX6_isFull_21 : decode cX6_isFull 21 = .ok (.if_icmp .ne 20, 3) := by decide +kernel
theorem dX6_isFull_24 : decode cX6_isFull 24 = .ok (.aload_n 0, 1) := by decide +kernel
theorem dX6_isFull_25 : decode cX6_isFull 25 = .ok (.getfield 116, 3) := by decide +kernel
theorem dX6_isFull_28 : decode cX6_isFull 28 = .ok (.bipush 6, 2) := by decide +kernel
theorem dX6_isFull_30 : decode cX6_isFull 30 = .ok (.if_icmp .ne 7, 3) := by decide +kernel
theorem dX6_isFull_33 : decode cX6_isFull 33 = .ok (.iconst 1, 1) := by decide +kernel
theorem dX6_isFull_34 : decode cX6_isFull 34 = .ok (.goto 42, 3) := by decide +kernel
theorem dX6_isFull_37 : decode cX6_isFull 37 = .ok (.iconst 0, 1) := by decide +kernel
theorem dX6_isFull_38 : decode cX6_isFull 38 = .ok (.goto 38, 3) := by decide +kernel
theorem dX6_isFull_41 : decode cX6_isFull 41 = .ok (.iload_n 1, 1) := by decide +kernel
theorem dX6_isFull_42 : decode cX6_isFull 42 = .ok (.iconst 2, 1) := by decide +kernel
theorem dX6_isFull_43 : decode cX6_isFull 43 = .ok (.if_icmp .ne 19, 3) := by decide +kernel
theorem dX6_isFull_46 : decode cX6_isFull 46 = .ok (.aload_n 0, 1) := by decide +kernel
theorem dX6_isFull_47 : decode cX6_isFull 47 = .ok (.getfield 119, 3) := by decide +kernel
theorem dX6_isFull_50 : decode cX6_isFull 50 = .ok (.iconst 5, 1) := by decide +kernel
theorem dX6_isFull_51 : decode cX6_isFull 51 = .ok (.if_icmp .ne 7, 3) := by decide +kernel
theorem dX6_isFull_54 : decode cX6_isFull 54 = .ok (.iconst 1, 1) := by decide +kernel
theorem dX6_isFull_55 : decode cX6_isFull 55 = .ok (.goto 21, 3) := by decide +kernel
theorem dX6_isFull_58 : decode cX6_isFull 58 = .ok (.iconst 0, 1) := by decide +kernel
theorem dX6_isFull_59 : decode cX6_isFull 59 = .ok (.goto 17, 3) := by decide +kernel
theorem dX6_isFull_62 : decode cX6_isFull 62 = .ok (.aload_n 0, 1) := by decide +kernel
theorem dX6_isFull_63 : decode cX6_isFull 63 = .ok (.getfield 122, 3) := by decide +kernel
theorem dX6_isFull_66 : decode cX6_isFull 66 = .ok (.bipush 6, 2) := by decide +kernel
theorem dX6_isFull_68 : decode cX6_isFull 68 = .ok (.if_icmp .ne 7, 3) := by decide +kernel
theorem dX6_isFull_71 : decode cX6_isFull 71 = .ok (.iconst 1, 1) := by decide +kernel
theorem dX6_isFull_72 : decode cX6_isFull 72 = .ok (.goto 4, 3) := by decide +kernel
theorem dX6_isFull_75 : decode cX6_isFull 75 = .ok (.iconst 0, 1) := by decide +kernel
theorem dX6_isFull_76 : decode cX6_isFull 76 = .ok (.ireturn, 1) := by decide +kernel
set_option maxRecDepth 20000 in
theorem ggX6_takeBody_X6_takeGnats : GoodIn wsX6_takeBody wsX6_takeGnats := goodIn_r _ [5, 6, 7, 8, 9, 10, 4, 11, 12, 13, 14, 15, 16, 17, 18, 19, 20, 21, 22, 23, 24, 25, 26, 27, 28, 29, 48, 49, 50, 51, 52, 53, 54, 55, 56, 57, 58, 59, 60, 61, 62, 63, 64, 65, 66, 67, 68, 69, 70, 71, 72, 73, 74, 75, 76, 77, 78, 79, 80] (by decide +kernel) (by decide +kernel)
set_option maxRecDepth 20000 in
theorem gX6_takeBody_X6_takeGnats : GoodIn wsX6_takeBody (wsV RX6 125 RX6 yX6_takeGnats wsX6_takeGnats) := goodIn_app (goodIn_of _ (by decide +kernel)) ggX6_takeBody_X6_takeGnats
set_option maxRecDepth 20000 in
theorem ggX6_takeBody_X6_takeSitter : GoodIn wsX6_takeBody wsX6_takeSitter := goodIn_r _ [33, 14, 6, 34, 35, 18, 19, 20, 4, 21, 16, 17, 25, 26, 27, 28, 29, 8, 9, 10, 11, 12, 13, 15, 22, 23, 24, 48, 49, 50, 51, 52, 53, 54, 55, 56, 57, 58, 59, 60, 61, 62, 63, 64, 65, 66, 67, 68, 69, 70, 71, 72, 73, 74, 75, 76, 77, 78, 79, 80] (by decide +kernel) (by decide +kernel)
set_option maxRecDepth 20000 in
theorem gX6_takeBody_X6_takeSitter : GoodIn wsX6_takeBody (wsV RX6 128 RX6 yX6_takeSitter wsX6_takeSitter) := goodIn_app (goodIn_of _ (by decide +kernel)) ggX6_takeBody_X6_takeSitter
set_option maxRecDepth 20000 in
theorem ggX6_takeBody_X6_takeWindow : GoodIn wsX6_takeBody wsX6_takeWindow := goodIn_r _ [39, 40, 41, 6, 8, 9, 10, 4, 11, 12, 13, 14, 15, 16, 17, 18, 19, 20, 21, 22, 23, 24, 25, 26, 27, 28, 29, 48, 49, 50, 51, 52, 53, 54, 55, 56, 57, 58, 59, 60, 61, 62, 63, 64, 65, 66, 67, 68, 69, 70, 71, 72, 73, 74, 75, 76, 77, 78, 79, 80] (by decide +kernel) (by decide +kernel)
set_option maxRecDepth 20000 in
theorem gX6_takeBody_X6_takeWindow : GoodIn wsX6_takeBody (wsV RX6 131 RX6 yX6_takeWindow wsX6_takeWindow) := goodIn_app (goodIn_of _ (by decide +kernel)) ggX6_takeBody_X6_takeWindow
set_option maxRecDepth 20000 in
theorem ggX6_takeBody_X6_takeCritic : GoodIn wsX6_takeBody wsX6_takeCritic := goodIn_r _ [45, 46, 47, 6, 8, 9, 10, 4, 11, 12, 13, 14, 15, 16, 17, 18, 19, 20, 21, 22, 23, 24, 25, 26, 27, 28, 29, 48, 49, 50, 51, 52, 53, 54, 55, 56, 57, 58, 59, 60, 61, 62, 63, 64, 65, 66, 67, 68, 69, 70, 71, 72, 73, 74, 75, 76, 77, 78, 79, 80] (by decide +kernel) (by decide +kernel)
set_option maxRecDepth 20000 in
theorem gX6_takeBody_X6_takeCritic : GoodIn wsX6_takeBody (wsV RX6 134 RX6 yX6_takeCritic wsX6_takeCritic) := goodIn_app (goodIn_of _ (by decide +kernel)) ggX6_takeBody_X6_takeCritic
theorem dX6_takeBody_0 : decode cX6_takeBody 0 = .ok (.iload_n 1, 1) := by decide +kernel
theorem dX6_takeBody_1 : decode cX6_takeBody 1 = .ok (.ifCond .ne 10, 3) := by decide +kernel
theorem dX6_takeBody_4 : decode cX6_takeBody 4 = .ok (.aload_n 0, 1) := by decide +kernel
theorem dX6_takeBody_5 : decode cX6_takeBody 5 = .ok (.invokevirtual 125, 3) := by decide +kernel
theorem dX6_takeBody_8 : decode cX6_takeBody 8 = .ok (.goto 31, 3) := by decide +kernel
theorem dX6_takeBody_11 : decode cX6_takeBody 11 = .ok (.iload_n 1, 1) := by decide +kernel
theorem dX6_takeBody_12 : decode cX6_takeBody 12 = .ok (.iconst 1, 1) := by decide +kernel
theorem dX6_takeBody_13 : decode cX6_takeBody 13 = .ok (.if_icmp .ne 10, 3) := by decide +kernel
theorem dX6_takeBody_16 : decode cX6_takeBody 16 = .ok (.aload_n 0, 1) := by decide +kernel
theorem dX6_takeBody_17 : decode cX6_takeBody 17 = .ok (.invokevirtual 128, 3) := by decide +kernel
theorem dX6_takeBody_20 : decode cX6_takeBody 20 = .ok (.goto 19, 3) := by decide +kernel
theorem dX6_takeBody_23 : decode cX6_takeBody 23 = .ok (.iload_n 1, 1) := by decide +kernel
theorem dX6_takeBody_24 : decode cX6_takeBody 24 = .ok (.iconst 2, 1) := by decide +kernel
theorem dX6_takeBody_25 : decode cX6_takeBody 25 = .ok (.if_icmp .ne 10, 3) := by decide +kernel
theorem dX6_takeBody_28 : decode cX6_takeBody 28 = .ok (.aload_n 0, 1) := by decide +kernel
theorem dX6_takeBody_29 : decode cX6_takeBody 29 = .ok (.invokevirtual 131, 3) := by decide +kernel
theorem dX6_takeBody_32 : decode cX6_takeBody 32 = .ok (.goto 7, 3) := by decide +kernel
theorem dX6_takeBody_35 : decode cX6_takeBody 35 = .ok (.aload_n 0, 1) := by decide +kernel
theorem dX6_takeBody_36 : decode cX6_takeBody 36 = .ok (.invokevirtual 134, 3) := by decide +kernel
theorem dX6_takeBody_39 : decode cX6_takeBody 39 = .ok (.ireturn, 1) := by decide +kernel
set_option maxRecDepth 20000 in
theorem ggX6_takeClause_X6_here : GoodIn wsX6_takeClause wsX6_here := goodIn_r _ [7, 2, 8, 9, 56, 57, 58, 59, 60, 61, 62, 63, 64, 65, 66, 67, 68, 69, 70, 71, 72, 73, 74, 75, 76, 77, 78, 79, 80, 81, 82, 83, 84, 85, 86, 87, 88] (by decide +kernel) (by decide +kernel)
set_option maxRecDepth 20000 in
theorem gX6_takeClause_X6_here : GoodIn wsX6_takeClause (wsV RX6 92 RX6 yX6_here wsX6_here) := goodIn_app (goodIn_of _ (by decide +kernel)) ggX6_takeClause_X6_here
set_option maxRecDepth 20000 in
theorem ggX6_takeClause_X6_fails : GoodIn wsX6_takeClause wsX6_fails := goodIn_r _ [13, 14, 56, 57, 58, 59, 60, 61, 62, 63, 64, 65, 66, 67, 68, 69, 70, 71, 72, 73, 74, 75, 76, 77, 78, 79, 80, 81, 82, 83, 84, 85, 86, 87, 88] (by decide +kernel) (by decide +kernel)
set_option maxRecDepth 20000 in
theorem gX6_takeClause_X6_fails : GoodIn wsX6_takeClause (wsV RX6 100 RX6 yX6_fails wsX6_fails) := goodIn_app (goodIn_of _ (by decide +kernel)) ggX6_takeClause_X6_fails
set_option maxRecDepth 20000 in
theorem ggX6_takeClause_X6_isFull : GoodIn wsX6_takeClause wsX6_isFull := goodIn_r _ [18, 1, 19, 20, 21, 56, 57, 58, 59, 60, 61, 62, 63, 64, 65, 66, 67, 68, 69, 70, 71, 72, 73, 74, 75, 76, 77, 78, 79, 80, 81, 82, 83, 84, 85, 86, 87, 88] (by decide +kernel) (by decide +kernel)
set_option maxRecDepth 20000 in
theorem gX6_takeClause_X6_isFull : GoodIn wsX6_takeClause (wsV RX6 137 RX6 yX6_isFull wsX6_isFull) := goodIn_app (goodIn_of _ (by decide +kernel)) ggX6_takeClause_X6_isFull
set_option maxRecDepth 20000 in
theorem ggX6_takeClause_X6_takeBody : GoodIn wsX6_takeClause wsX6_takeBody := goodIn_r _ [25, 26, 27, 28, 6, 29, 30, 1, 31, 32, 33, 34, 35, 36, 2, 37, 8, 9, 3, 4, 5, 7, 38, 39, 40, 10, 11, 12, 13, 14, 41, 42, 43, 44, 45, 19, 46, 47, 48, 49, 50, 20, 51, 52, 53, 54, 55, 21, 56, 57, 58, 59, 60, 61, 62, 63, 64, 65, 66, 67, 68, 69, 70, 71, 72, 73, 74, 75, 76, 77, 78, 79, 80, 81, 82, 83, 84, 85, 86, 87, 88] (by decide +kernel) (by decide +kernel)
set_option maxRecDepth 20000 in
theorem gX6_takeClause_X6_takeBody : GoodIn wsX6_takeClause (wsV RX6 141 RX6 yX6_takeBody wsX6_takeBody) := goodIn_app (goodIn_of _ (by decide +kernel)) ggX6_takeClause_X6_takeBody
theorem dX6_takeClause_0 : decode cX6_takeClause 0 = .ok (.aload_n 0, 1) := by decide +kernel
theorem dX6_takeClause_1 : decode cX6_takeClause 1 = .ok (.invokevirtual 92, 3) := by decide +kernel
theorem dX6_takeClause_4 : decode cX6_takeClause 4 = .ok (.istore_n 1, 1) := by decide +kernel
theorem dX6_takeClause_5 : decode cX6_takeClause 5 = .ok (.iload_n 1, 1) := by decide +kernel
theorem dX6_takeClause_6 : decode cX6_takeClause 6 = .ok (.bipush 103, 2) := by decide +kernel
theorem dX6_takeClause_8 : decode cX6_takeClause 8 = .ok (.if_icmp .ne 7, 3) := by decide +kernel
theorem dX6_takeClause_11 : decode cX6_takeClause 11 = .ok (.iconst 0, 1) := by decide +kernel
theorem dX6_takeClause_12 : decode cX6_takeClause 12 = .ok (.goto 34, 3) := by decide +kernel
theorem dX6_takeClause_15 : decode cX6_takeClause 15 = .ok (.iload_n 1, 1) := by decide +kernel
theorem dX6_takeClause_16 : decode cX6_takeClause 16 = .ok (.bipush 115, 2) := by decide +kernel
theorem dX6_takeClause_18 : decode cX6_takeClause 18 = .ok (.if_icmp .ne 7, 3) := by decide +kernel
theorem dX6_takeClause_21 : decode cX6_takeClause 21 = .ok (.iconst 1, 1) := by decide +kernel
theorem dX6_takeClause_22 : decode cX6_takeClause 22 = .ok (.goto 24, 3) := by decide +kernel
theorem dX6_takeClause_25 : decode cX6_takeClause 25 = .ok (.iload_n 1, 1) := by decide +kernel
theorem dX6_takeClause_26 : decode cX6_takeClause 26 = .ok (.bipush 119, 2) := by decide +kernel
theorem dX6_takeClause_28 : decode cX6_takeClause 28 = .ok (.if_icmp .ne 7, 3) := by decide +kernel
theorem dX6_takeClause_31 : decode cX6_takeClause 31 = .ok (.iconst 2, 1) := by decide +kernel
theorem dX6_takeClause_32 : decode cX6_takeClause 32 = .ok (.goto 14, 3) := by decide +kernel
theorem dX6_takeClause_35 : decode cX6_takeClause 35 = .ok (.iload_n 1, 1) := by decide +kernel
theorem dX6_takeClause_36 : decode cX6_takeClause 36 = .ok (.bipush 99, 2) := by decide +kernel
theorem dX6_takeClause_38 : decode cX6_takeClause 38 = .ok (.if_icmp .ne 7, 3) := by decide +kernel
theorem dX6_takeClause_41 : decode cX6_takeClause 41 = .ok (.iconst 3, 1) := by decide +kernel
theorem dX6_takeClause_42 : decode cX6_takeClause 42 = .ok (.goto 4, 3) := by decide +kernel
theorem dX6_takeClause_45 : decode cX6_takeClause 45 = .ok (.iconst (-1), 1) := by decide +kernel
theorem dX6_takeClause_46 : decode cX6_takeClause 46 = .ok (.istore_n 2, 1) := by decide +kernel
theorem dX6_takeClause_47 : decode cX6_takeClause 47 = .ok (.iload_n 2, 1) := by decide +kernel
theorem dX6_takeClause_48 : decode cX6_takeClause 48 = .ok (.ifCond .lt 14, 3) := by decide +kernel
theorem dX6_takeClause_51 : decode cX6_takeClause 51 = .ok (.iload_n 2, 1) := by decide +kernel
theorem dX6_takeClause_52 : decode cX6_takeClause 52 = .ok (.ifCond .le 20, 3) := by decide +kernel
theorem dX6_takeClause_55 : decode cX6_takeClause 55 = .ok (.aload_n 0, 1) := by decide +kernel
theorem dX6_takeClause_56 : decode cX6_takeClause 56 = .ok (.getfield 113, 3) := by decide +kernel
theorem dX6_takeClause_59 : decode cX6_takeClause 59 = .ok (.ifCond .ne 13, 3) := by decide +kernel
theorem dX6_takeClause_62 : decode cX6_takeClause 62 = .ok (.aload_n 0, 1) := by decide +kernel
theorem dX6_takeClause_63 : decode cX6_takeClause 63 = .ok (.iconst 1, 1) := by decide +kernel
theorem dX6_takeClause_64 : decode cX6_takeClause 64 = .ok (.aload_n 0, 1) := by decide +kernel
theorem dX6_takeClause_65 : decode cX6_takeClause 65 = .ok (.getfield 89, 3) := by decide +kernel
theorem dX6_takeClause_68 : decode cX6_takeClause 68 = .ok (.invokevirtual 100, 3) := by decide +kernel
theorem dX6_takeClause_71 : decode cX6_takeClause 71 = .ok (.ireturn, 1) := by decide +kernel
theorem dX6_takeClause_72 : decode cX6_takeClause 72 = .ok (.aload_n 0, 1) := by decide +kernel
theorem dX6_takeClause_73 : decode cX6_takeClause 73 = .ok (.iload_n 2, 1) := by decide +kernel
theorem dX6_takeClause_74 : decode cX6_takeClause 74 = .ok (.invokevirtual 137, 3) := by decide +kernel
theorem dX6_takeClause_77 : decode cX6_takeClause 77 = .ok (.ifCond .eq 13, 3) := by decide +kernel
theorem dX6_takeClause_80 : decode cX6_takeClause 80 = .ok (.aload_n 0, 1) := by decide +kernel
theorem dX6_takeClause_81 : decode cX6_takeClause 81 = .ok (.iconst 3, 1) := by decide +kernel
theorem dX6_takeClause_82 : decode cX6_takeClause 82 = .ok (.aload_n 0, 1) := by decide +kernel
theorem dX6_takeClause_83 : decode cX6_takeClause 83 = .ok (.getfield 89, 3) := by decide +kernel
theorem dX6_takeClause_86 : decode cX6_takeClause 86 = .ok (.invokevirtual 100, 3) := by decide +kernel
theorem dX6_takeClause_89 : decode cX6_takeClause 89 = .ok (.ireturn, 1) := by decide +kernel
theorem dX6_takeClause_90 : decode cX6_takeClause 90 = .ok (.aload_n 0, 1) := by decide +kernel
theorem dX6_takeClause_91 : decode cX6_takeClause 91 = .ok (.dup, 1) := by decide +kernel
theorem dX6_takeClause_92 : decode cX6_takeClause 92 = .ok (.getfield 89, 3) := by decide +kernel
theorem dX6_takeClause_95 : decode cX6_takeClause 95 = .ok (.iconst 1, 1) := by decide +kernel
theorem dX6_takeClause_96 : decode cX6_takeClause 96 = .ok (.iadd, 1) := by decide +kernel
theorem dX6_takeClause_97 : decode cX6_takeClause 97 = .ok (.putfield 89, 3) := by decide +kernel
theorem dX6_takeClause_100 : decode cX6_takeClause 100 = .ok (.aload_n 0, 1) := by decide +kernel
theorem dX6_takeClause_101 : decode cX6_takeClause 101 = .ok (.iload_n 2, 1) := by decide +kernel
theorem dX6_takeClause_102 : decode cX6_takeClause 102 = .ok (.invokevirtual 141, 3) := by decide +kernel
theorem dX6_takeClause_105 : decode cX6_takeClause 105 = .ok (.istore_n 3, 1) := by decide +kernel
theorem dX6_takeClause_106 : decode cX6_takeClause 106 = .ok (.iload_n 3, 1) := by decide +kernel
theorem dX6_takeClause_107 : decode cX6_takeClause 107 = .ok (.ifCond .le 5, 3) := by decide +kernel
theorem dX6_takeClause_110 : decode cX6_takeClause 110 = .ok (.iload_n 3, 1) := by decide +kernel
theorem dX6_takeClause_111 : decode cX6_takeClause 111 = .ok (.ireturn, 1) := by decide +kernel
theorem dX6_takeClause_112 : decode cX6_takeClause 112 = .ok (.aload_n 0, 1) := by decide +kernel
theorem dX6_takeClause_113 : decode cX6_takeClause 113 = .ok (.invokevirtual 92, 3) := by decide +kernel
theorem dX6_takeClause_116 : decode cX6_takeClause 116 = .ok (.bipush 59, 2) := by decide +kernel
theorem dX6_takeClause_118 : decode cX6_takeClause 118 = .ok (.if_icmp .eq 13, 3) := by decide +kernel
theorem dX6_takeClause_121 : decode cX6_takeClause 121 = .ok (.aload_n 0, 1) := by decide +kernel
theorem dX6_takeClause_122 : decode cX6_takeClause 122 = .ok (.iconst 1, 1) := by decide +kernel
theorem dX6_takeClause_123 : decode cX6_takeClause 123 = .ok (.aload_n 0, 1) := by decide +kernel
theorem dX6_takeClause_124 : decode cX6_takeClause 124 = .ok (.getfield 89, 3) := by decide +kernel
theorem dX6_takeClause_127 : decode cX6_takeClause 127 = .ok (.invokevirtual 100, 3) := by decide +kernel
theorem dX6_takeClause_130 : decode cX6_takeClause 130 = .ok (.ireturn, 1) := by decide +kernel
theorem dX6_takeClause_131 : decode cX6_takeClause 131 = .ok (.aload_n 0, 1) := by decide +kernel
theorem dX6_takeClause_132 : decode cX6_takeClause 132 = .ok (.dup, 1) := by decide +kernel
theorem dX6_takeClause_133 : decode cX6_takeClause 133 = .ok (.getfield 89, 3) := by decide +kernel
theorem dX6_takeClause_136 : decode cX6_takeClause 136 = .ok (.iconst 1, 1) := by decide +kernel
theorem dX6_takeClause_137 : decode cX6_takeClause 137 = .ok (.iadd, 1) := by decide +kernel
theorem dX6_takeClause_138 : decode cX6_takeClause 138 = .ok (.putfield 89, 3) := by decide +kernel
theorem dX6_takeClause_141 : decode cX6_takeClause 141 = .ok (.iconst 0, 1) := by decide +kernel
theorem dX6_takeClause_142 : decode cX6_takeClause 142 = .ok (.ireturn, 1) := by decide +kernel
set_option maxRecDepth 20000 in
theorem ggX6_takeRead_X6_empties : GoodIn wsX6_takeRead wsX6_empties := goodIn_r _ [20, 15, 21, 22, 23, 24, 25, 26, 27, 28, 29, 30, 31, 32, 33, 34, 35, 36, 37, 38, 39, 40, 41, 42, 43, 44, 45, 46, 47, 48, 49, 50, 51, 52, 53] (by decide +kernel) (by decide +kernel)
set_option maxRecDepth 20000 in
theorem gX6_takeRead_X6_empties : GoodIn wsX6_takeRead (wsV RX6 69 RX6 yX6_empties wsX6_empties) := goodIn_app (goodIn_of _ (by decide +kernel)) ggX6_takeRead_X6_empties
theorem dX6_takeRead_0 : decode cX6_takeRead 0 = .ok (.aload_n 0, 1) := by decide +kernel
theorem dX6_takeRead_1 : decode cX6_takeRead 1 = .ok (.aload_n 0, 1) := by decide +kernel
theorem dX6_takeRead_2 : decode cX6_takeRead 2 = .ok (.getfield 113, 3) := by decide +kernel
theorem dX6_takeRead_5 : decode cX6_takeRead 5 = .ok (.putfield 66, 3) := by decide +kernel
theorem dX6_takeRead_8 : decode cX6_takeRead 8 = .ok (.aload_n 0, 1) := by decide +kernel
theorem dX6_takeRead_9 : decode cX6_takeRead 9 = .ok (.aload_n 0, 1) := by decide +kernel
theorem dX6_takeRead_10 : decode cX6_takeRead 10 = .ok (.getfield 116, 3) := by decide +kernel
theorem dX6_takeRead_13 : decode cX6_takeRead 13 = .ok (.putfield 72, 3) := by decide +kernel
theorem dX6_takeRead_16 : decode cX6_takeRead 16 = .ok (.aload_n 0, 1) := by decide +kernel
theorem dX6_takeRead_17 : decode cX6_takeRead 17 = .ok (.aload_n 0, 1) := by decide +kernel
theorem dX6_takeRead_18 : decode cX6_takeRead 18 = .ok (.getfield 119, 3) := by decide +kernel
theorem dX6_takeRead_21 : decode cX6_takeRead 21 = .ok (.putfield 79, 3) := by decide +kernel
theorem dX6_takeRead_24 : decode cX6_takeRead 24 = .ok (.aload_n 0, 1) := by decide +kernel
theorem dX6_takeRead_25 : decode cX6_takeRead 25 = .ok (.aload_n 0, 1) := by decide +kernel
theorem dX6_takeRead_26 : decode cX6_takeRead 26 = .ok (.getfield 122, 3) := by decide +kernel
theorem dX6_takeRead_29 : decode cX6_takeRead 29 = .ok (.putfield 145, 3) := by decide +kernel
theorem dX6_takeRead_32 : decode cX6_takeRead 32 = .ok (.iconst 0, 1) := by decide +kernel
theorem dX6_takeRead_33 : decode cX6_takeRead 33 = .ok (.istore_n 1, 1) := by decide +kernel
theorem dX6_takeRead_34 : decode cX6_takeRead 34 = .ok (.iload_n 1, 1) := by decide +kernel
theorem dX6_takeRead_35 : decode cX6_takeRead 35 = .ok (.bipush 6, 2) := by decide +kernel
theorem dX6_takeRead_37 : decode cX6_takeRead 37 = .ok (.if_icmp .ge 33, 3) := by decide +kernel
theorem dX6_takeRead_40 : decode cX6_takeRead 40 = .ok (.aload_n 0, 1) := by decide +kernel
theorem dX6_takeRead_41 : decode cX6_takeRead 41 = .ok (.getfield 7, 3) := by decide +kernel
theorem dX6_takeRead_44 : decode cX6_takeRead 44 = .ok (.iload_n 1, 1) := by decide +kernel
theorem dX6_takeRead_45 : decode cX6_takeRead 45 = .ok (.aload_n 0, 1) := by decide +kernel
theorem dX6_takeRead_46 : decode cX6_takeRead 46 = .ok (.getfield 29, 3) := by decide +kernel
theorem dX6_takeRead_49 : decode cX6_takeRead 49 = .ok (.iload_n 1, 1) := by decide +kernel
theorem dX6_takeRead_50 : decode cX6_takeRead 50 = .ok (.iaload, 1) := by decide +kernel
theorem dX6_takeRead_51 : decode cX6_takeRead 51 = .ok (.iastore, 1) := by decide +kernel
theorem dX6_takeRead_52 : decode cX6_takeRead 52 = .ok (.aload_n 0, 1) := by decide +kernel
theorem dX6_takeRead_53 : decode cX6_takeRead 53 = .ok (.getfield 16, 3) := by decide +kernel
theorem dX6_takeRead_56 : decode cX6_takeRead 56 = .ok (.iload_n 1, 1) := by decide +kernel
theorem dX6_takeRead_57 : decode cX6_takeRead 57 = .ok (.aload_n 0, 1) := by decide +kernel
theorem dX6_takeRead_58 : decode cX6_takeRead 58 = .ok (.getfield 35, 3) := by decide +kernel
theorem dX6_takeRead_61 : decode cX6_takeRead 61 = .ok (.iload_n 1, 1) := by decide +kernel
theorem dX6_takeRead_62 : decode cX6_takeRead 62 = .ok (.iaload, 1) := by decide +kernel
theorem dX6_takeRead_63 : decode cX6_takeRead 63 = .ok (.iastore, 1) := by decide +kernel
theorem dX6_takeRead_64 : decode cX6_takeRead 64 = .ok (.iinc 1 1, 3) := by decide +kernel
theorem dX6_takeRead_67 : decode cX6_takeRead 67 = .ok (.goto (-33), 3) := by decide +kernel
theorem dX6_takeRead_70 : decode cX6_takeRead 70 = .ok (.aload_n 0, 1) := by decide +kernel
theorem dX6_takeRead_71 : decode cX6_takeRead 71 = .ok (.invokevirtual 69, 3) := by decide +kernel
theorem dX6_takeRead_74 : decode cX6_takeRead 74 = .ok (.iconst 0, 1) := by decide +kernel
theorem dX6_takeRead_75 : decode cX6_takeRead 75 = .ok (.istore_n 1, 1) := by decide +kernel
theorem dX6_takeRead_76 : decode cX6_takeRead 76 = .ok (.iload_n 1, 1) := by decide +kernel
theorem dX6_takeRead_77 : decode cX6_takeRead 77 = .ok (.aload_n 0, 1) := by decide +kernel
theorem dX6_takeRead_78 : decode cX6_takeRead 78 = .ok (.getfield 79, 3) := by decide +kernel
theorem dX6_takeRead_81 : decode cX6_takeRead 81 = .ok (.if_icmp .ge 36, 3) := by decide +kernel
theorem dX6_takeRead_84 : decode cX6_takeRead 84 = .ok (.aload_n 0, 1) := by decide +kernel
theorem dX6_takeRead_85 : decode cX6_takeRead 85 = .ok (.getfield 13, 3) := by decide +kernel
theorem dX6_takeRead_88 : decode cX6_takeRead 88 = .ok (.iload_n 1, 1) := by decide +kernel
theorem dX6_takeRead_89 : decode cX6_takeRead 89 = .ok (.aload_n 0, 1) := by decide +kernel
theorem dX6_takeRead_90 : decode cX6_takeRead 90 = .ok (.getfield 32, 3) := by decide +kernel
theorem dX6_takeRead_93 : decode cX6_takeRead 93 = .ok (.iload_n 1, 1) := by decide +kernel
theorem dX6_takeRead_94 : decode cX6_takeRead 94 = .ok (.iaload, 1) := by decide +kernel
theorem dX6_takeRead_95 : decode cX6_takeRead 95 = .ok (.iastore, 1) := by decide +kernel
theorem dX6_takeRead_96 : decode cX6_takeRead 96 = .ok (.aload_n 0, 1) := by decide +kernel
theorem dX6_takeRead_97 : decode cX6_takeRead 97 = .ok (.getfield 19, 3) := by decide +kernel
theorem dX6_takeRead_100 : decode cX6_takeRead 100 = .ok (.bipush 12, 2) := by decide +kernel
theorem dX6_takeRead_102 : decode cX6_takeRead 102 = .ok (.iload_n 1, 1) := by decide +kernel
theorem dX6_takeRead_103 : decode cX6_takeRead 103 = .ok (.iadd, 1) := by decide +kernel
theorem dX6_takeRead_104 : decode cX6_takeRead 104 = .ok (.aload_n 0, 1) := by decide +kernel
theorem dX6_takeRead_105 : decode cX6_takeRead 105 = .ok (.getfield 32, 3) := by decide +kernel
theorem dX6_takeRead_108 : decode cX6_takeRead 108 = .ok (.iload_n 1, 1) := by decide +kernel
theorem dX6_takeRead_109 : decode cX6_takeRead 109 = .ok (.iaload, 1) := by decide +kernel
theorem dX6_takeRead_110 : decode cX6_takeRead 110 = .ok (.iastore, 1) := by decide +kernel
theorem dX6_takeRead_111 : decode cX6_takeRead 111 = .ok (.iinc 1 1, 3) := by decide +kernel
theorem dX6_takeRead_114 : decode cX6_takeRead 114 = .ok (.goto (-38), 3) := by decide +kernel
theorem dX6_takeRead_117 : decode cX6_takeRead 117 = .ok (.return_, 1) := by decide +kernel
set_option maxRecDepth 20000 in
theorem ggX6_capital_X6_here : GoodIn wsX6_capital wsX6_here := goodIn_r _ [16, 2, 7, 17, 79, 80, 81, 82, 83, 84, 85, 86, 87, 88, 89, 90, 91, 92, 93, 94, 95, 96, 97, 98, 99, 100, 101, 102, 103, 104, 105, 106, 107, 108, 109, 110, 111] (by decide +kernel) (by decide +kernel)
set_option maxRecDepth 20000 in
theorem gX6_capital_X6_here : GoodIn wsX6_capital (wsV RX6 92 RX6 yX6_here wsX6_here) := goodIn_app (goodIn_of _ (by decide +kernel)) ggX6_capital_X6_here
set_option maxRecDepth 20000 in
theorem ggX6_capital_X6_takeClause : GoodIn wsX6_capital wsX6_takeClause := goodIn_r _ [21, 3, 2, 12, 13, 14, 15, 16, 7, 17, 22, 23, 24, 25, 1, 26, 27, 28, 29, 4, 5, 6, 30, 31, 32, 33, 34, 35, 36, 37, 38, 39, 40, 41, 42, 43, 44, 45, 46, 47, 48, 49, 50, 51, 52, 53, 54, 55, 56, 57, 58, 59, 60, 61, 62, 63, 79, 80, 81, 82, 83, 84, 85, 86, 87, 88, 89, 90, 91, 92, 93, 94, 95, 96, 97, 98, 99, 100, 101, 102, 103, 104, 105, 106, 107, 108, 109, 110, 111] (by decide +kernel) (by decide +kernel)
set_option maxRecDepth 20000 in
theorem gX6_capital_X6_takeClause : GoodIn wsX6_capital (wsV RX6 148 RX6 yX6_takeClause wsX6_takeClause) := goodIn_app (goodIn_of _ (by decide +kernel)) ggX6_capital_X6_takeClause
set_option maxRecDepth 20000 in
theorem ggX6_capital_X6_takeRead : GoodIn wsX6_capital wsX6_takeRead := goodIn_r _ [67, 3, 68, 4, 11, 5, 69, 6, 70, 71, 53, 72, 63, 73, 58, 74, 75, 76, 77, 15, 78, 79, 80, 81, 82, 83, 84, 85, 86, 87, 88, 89, 90, 91, 92, 93, 94, 95, 96, 97, 98, 99, 100, 101, 102, 103, 104, 105, 106, 107, 108, 109, 110, 111] (by decide +kernel) (by decide +kernel)
set_option maxRecDepth 20000 in
theorem gX6_capital_X6_takeRead : GoodIn wsX6_capital (wsV RX6 151 RX6 yX6_takeRead wsX6_takeRead) := goodIn_app (goodIn_of _ (by decide +kernel)) ggX6_capital_X6_takeRead
theorem dX6_capital_0 : decode cX6_capital 0 = .ok (.aload_n 0, 1) := by decide +kernel
theorem dX6_capital_1 : decode cX6_capital 1 = .ok (.iconst (-1), 1) := by decide +kernel
theorem dX6_capital_2 : decode cX6_capital 2 = .ok (.putfield 25, 3) := by decide +kernel
theorem dX6_capital_5 : decode cX6_capital 5 = .ok (.aload_n 0, 1) := by decide +kernel
theorem dX6_capital_6 : decode cX6_capital 6 = .ok (.iconst 0, 1) := by decide +kernel
theorem dX6_capital_7 : decode cX6_capital 7 = .ok (.putfield 89, 3) := by decide +kernel
theorem dX6_capital_10 : decode cX6_capital 10 = .ok (.aload_n 0, 1) := by decide +kernel
theorem dX6_capital_11 : decode cX6_capital 11 = .ok (.iconst 0, 1) := by decide +kernel
theorem dX6_capital_12 : decode cX6_capital 12 = .ok (.putfield 113, 3) := by decide +kernel
theorem dX6_capital_15 : decode cX6_capital 15 = .ok (.aload_n 0, 1) := by decide +kernel
theorem dX6_capital_16 : decode cX6_capital 16 = .ok (.iconst 0, 1) := by decide +kernel
theorem dX6_capital_17 : decode cX6_capital 17 = .ok (.putfield 116, 3) := by decide +kernel
theorem dX6_capital_20 : decode cX6_capital 20 = .ok (.aload_n 0, 1) := by decide +kernel
theorem dX6_capital_21 : decode cX6_capital 21 = .ok (.iconst 0, 1) := by decide +kernel
theorem dX6_capital_22 : decode cX6_capital 22 = .ok (.putfield 119, 3) := by decide +kernel
theorem dX6_capital_25 : decode cX6_capital 25 = .ok (.aload_n 0, 1) := by decide +kernel
theorem dX6_capital_26 : decode cX6_capital 26 = .ok (.iconst 0, 1) := by decide +kernel
theorem dX6_capital_27 : decode cX6_capital 27 = .ok (.putfield 122, 3) := by decide +kernel
theorem dX6_capital_30 : decode cX6_capital 30 = .ok (.iconst 0, 1) := by decide +kernel
theorem dX6_capital_31 : decode cX6_capital 31 = .ok (.istore_n 1, 1) := by decide +kernel
theorem dX6_capital_32 : decode cX6_capital 32 = .ok (.iload_n 1, 1) := by decide +kernel
theorem dX6_capital_33 : decode cX6_capital 33 = .ok (.ifCond .ne 18, 3) := by decide +kernel
theorem dX6_capital_36 : decode cX6_capital 36 = .ok (.aload_n 0, 1) := by decide +kernel
theorem dX6_capital_37 : decode cX6_capital 37 = .ok (.invokevirtual 92, 3) := by decide +kernel
theorem dX6_capital_40 : decode cX6_capital 40 = .ok (.ifCond .lt 11, 3) := by decide +kernel
theorem dX6_capital_43 : decode cX6_capital 43 = .ok (.aload_n 0, 1) := by decide +kernel
theorem dX6_capital_44 : decode cX6_capital 44 = .ok (.invokevirtual 148, 3) := by decide +kernel
theorem dX6_capital_47 : decode cX6_capital 47 = .ok (.istore_n 1, 1) := by decide +kernel
theorem dX6_capital_48 : decode cX6_capital 48 = .ok (.goto (-16), 3) := by decide +kernel
theorem dX6_capital_51 : decode cX6_capital 51 = .ok (.aload_n 0, 1) := by decide +kernel
theorem dX6_capital_52 : decode cX6_capital 52 = .ok (.iconst 0, 1) := by decide +kernel
theorem dX6_capital_53 : decode cX6_capital 53 = .ok (.putfield 85, 3) := by decide +kernel
theorem dX6_capital_56 : decode cX6_capital 56 = .ok (.iload_n 1, 1) := by decide +kernel
theorem dX6_capital_57 : decode cX6_capital 57 = .ok (.ifCond .le 8, 3) := by decide +kernel
theorem dX6_capital_60 : decode cX6_capital 60 = .ok (.bipush (-10), 2) := by decide +kernel
theorem dX6_capital_62 : decode cX6_capital 62 = .ok (.iload_n 1, 1) := by decide +kernel
theorem dX6_capital_63 : decode cX6_capital 63 = .ok (.isub, 1) := by decide +kernel
theorem dX6_capital_64 : decode cX6_capital 64 = .ok (.ireturn, 1) := by decide +kernel
theorem dX6_capital_65 : decode cX6_capital 65 = .ok (.aload_n 0, 1) := by decide +kernel
theorem dX6_capital_66 : decode cX6_capital 66 = .ok (.invokevirtual 151, 3) := by decide +kernel
theorem dX6_capital_69 : decode cX6_capital 69 = .ok (.aload_n 0, 1) := by decide +kernel
theorem dX6_capital_70 : decode cX6_capital 70 = .ok (.iconst 0, 1) := by decide +kernel
theorem dX6_capital_71 : decode cX6_capital 71 = .ok (.putfield 154, 3) := by decide +kernel
theorem dX6_capital_74 : decode cX6_capital 74 = .ok (.aload_n 0, 1) := by decide +kernel
theorem dX6_capital_75 : decode cX6_capital 75 = .ok (.iconst 0, 1) := by decide +kernel
theorem dX6_capital_76 : decode cX6_capital 76 = .ok (.putfield 157, 3) := by decide +kernel
theorem dX6_capital_79 : decode cX6_capital 79 = .ok (.aload_n 0, 1) := by decide +kernel
theorem dX6_capital_80 : decode cX6_capital 80 = .ok (.getfield 62, 3) := by decide +kernel
theorem dX6_capital_83 : decode cX6_capital 83 = .ok (.iconst 0, 1) := by decide +kernel
theorem dX6_capital_84 : decode cX6_capital 84 = .ok (.iconst 0, 1) := by decide +kernel
theorem dX6_capital_85 : decode cX6_capital 85 = .ok (.bastore, 1) := by decide +kernel
theorem dX6_capital_86 : decode cX6_capital 86 = .ok (.aload_n 0, 1) := by decide +kernel
theorem dX6_capital_87 : decode cX6_capital 87 = .ok (.getfield 62, 3) := by decide +kernel
theorem dX6_capital_90 : decode cX6_capital 90 = .ok (.iconst 1, 1) := by decide +kernel
theorem dX6_capital_91 : decode cX6_capital 91 = .ok (.iconst 0, 1) := by decide +kernel
theorem dX6_capital_92 : decode cX6_capital 92 = .ok (.bastore, 1) := by decide +kernel
theorem dX6_capital_93 : decode cX6_capital 93 = .ok (.aload_n 0, 1) := by decide +kernel
theorem dX6_capital_94 : decode cX6_capital 94 = .ok (.getfield 72, 3) := by decide +kernel
theorem dX6_capital_97 : decode cX6_capital 97 = .ok (.ireturn, 1) := by decide +kernel
theorem dX6_fault_0 : decode cX6_fault 0 = .ok (.aload_n 0, 1) := by decide +kernel
theorem dX6_fault_1 : decode cX6_fault 1 = .ok (.getfield 25, 3) := by decide +kernel
theorem dX6_fault_4 : decode cX6_fault 4 = .ok (.ireturn, 1) := by decide +kernel
set_option maxRecDepth 20000 in
theorem ggX6_shifted_X6_has : GoodIn wsX6_shifted wsX6_has := goodIn_r _ [5] (by decide +kernel) (by decide +kernel)
set_option maxRecDepth 20000 in
theorem gX6_shifted_X6_has : GoodIn wsX6_shifted (va_wsS RX6 160 yX6_has wsX6_has) := goodIn_app (goodIn_of _ (by decide +kernel)) ggX6_shifted_X6_has
set_option maxRecDepth 20000 in
theorem ggX6_shifted_X6_in : GoodIn wsX6_shifted wsX6_in := goodIn_r _ [8] (by decide +kernel) (by decide +kernel)
set_option maxRecDepth 20000 in
theorem gX6_shifted_X6_in : GoodIn wsX6_shifted (va_wsS RX6 75 yX6_in wsX6_in) := goodIn_app (goodIn_of _ (by decide +kernel)) ggX6_shifted_X6_in
theorem dX6_shifted_0 : decode cX6_shifted 0 = .ok (.iconst 0, 1) := by decide +kernel
theorem dX6_shifted_1 : decode cX6_shifted 1 = .ok (.istore_n 2, 1) := by decide +kernel
theorem dX6_shifted_2 : decode cX6_shifted 2 = .ok (.iconst 0, 1) := by decide +kernel
theorem dX6_shifted_3 : decode cX6_shifted 3 = .ok (.istore_n 3, 1) := by decide +kernel
theorem dX6_shifted_4 : decode cX6_shifted 4 = .ok (.iload_n 3, 1) := by decide +kernel
theorem dX6_shifted_5 : decode cX6_shifted 5 = .ok (.bipush 30, 2) := by decide +kernel
theorem dX6_shifted_7 : decode cX6_shifted 7 = .ok (.if_icmp .ge 50, 3) := by decide +kernel
theorem dX6_shifted_10 : decode cX6_shifted 10 = .ok (.iload_n 3, 1) := by decide +kernel
theorem dX6_shifted_11 : decode cX6_shifted 11 = .ok (.bipush 6, 2) := by decide +kernel
theorem dX6_shifted_13 : decode cX6_shifted 13 = .ok (.irem, 1) := by decide +kernel
theorem dX6_shifted_14 : decode cX6_shifted 14 = .ok (.iload_n 1, 1) := by decide +kernel
theorem dX6_shifted_15 : decode cX6_shifted 15 = .ok (.iadd, 1) := by decide +kernel
theorem dX6_shifted_16 : decode cX6_shifted 16 = .ok (.istore 4, 2) := by decide +kernel
theorem dX6_shifted_18 : decode cX6_shifted 18 = .ok (.iload_n 2, 1) := by decide +kernel
theorem dX6_shifted_19 : decode cX6_shifted 19 = .ok (.iload_n 0, 1) := by decide +kernel
theorem dX6_shifted_20 : decode cX6_shifted 20 = .ok (.iload_n 3, 1) := by decide +kernel
theorem dX6_shifted_21 : decode cX6_shifted 21 = .ok (.invokestatic 160, 3) := by decide +kernel
theorem dX6_shifted_24 : decode cX6_shifted 24 = .ok (.ifCond .eq 24, 3) := by decide +kernel
theorem dX6_shifted_27 : decode cX6_shifted 27 = .ok (.iload 4, 2) := by decide +kernel
theorem dX6_shifted_29 : decode cX6_shifted 29 = .ok (.i2l, 1) := by decide +kernel
theorem dX6_shifted_30 : decode cX6_shifted 30 = .ok (.lconst 0, 1) := by decide +kernel
theorem dX6_shifted_31 : decode cX6_shifted 31 = .ok (.ldc2_w 164, 3) := by decide +kernel
theorem dX6_shifted_34 : decode cX6_shifted 34 = .ok (.invokestatic 75, 3) := by decide +kernel
theorem dX6_shifted_37 : decode cX6_shifted 37 = .ok (.ifCond .eq 11, 3) := by decide +kernel
theorem dX6_shifted_40 : decode cX6_shifted 40 = .ok (.iconst 1, 1) := by decide +kernel
theorem dX6_shifted_41 : decode cX6_shifted 41 = .ok (.iload_n 3, 1) := by decide +kernel
theorem dX6_shifted_42 : decode cX6_shifted 42 = .ok (.iload_n 1, 1) := by decide +kernel
theorem dX6_shifted_43 : decode cX6_shifted 43 = .ok (.iadd, 1) := by decide +kernel
theorem dX6_shifted_44 : decode cX6_shifted 44 = .ok (.ishl, 1) := by decide +kernel
theorem dX6_shifted_45 : decode cX6_shifted 45 = .ok (.goto 4, 3) := by decide +kernel
theorem dX6_shifted_48 : decode cX6_shifted 48 = .ok (.iconst 0, 1) := by decide +kernel
theorem dX6_shifted_49 : decode cX6_shifted 49 = .ok (.ior, 1) := by decide +kernel
theorem dX6_shifted_50 : decode cX6_shifted 50 = .ok (.istore_n 2, 1) := by decide +kernel
theorem dX6_shifted_51 : decode cX6_shifted 51 = .ok (.iinc 3 1, 3) := by decide +kernel
theorem dX6_shifted_54 : decode cX6_shifted 54 = .ok (.goto (-50), 3) := by decide +kernel
theorem dX6_shifted_57 : decode cX6_shifted 57 = .ok (.iload_n 2, 1) := by decide +kernel
theorem dX6_shifted_58 : decode cX6_shifted 58 = .ok (.ireturn, 1) := by decide +kernel
set_option maxRecDepth 20000 in
theorem ggX6_drawnBy_X6_shifted : GoodIn wsX6_drawnBy wsX6_shifted := goodIn_r _ [7, 8, 9, 10, 6, 11, 12, 13, 14] (by decide +kernel) (by decide +kernel)
set_option maxRecDepth 20000 in
theorem gX6_drawnBy_X6_shifted : GoodIn wsX6_drawnBy (va_wsS RX6 166 yX6_shifted wsX6_shifted) := goodIn_app (goodIn_of _ (by decide +kernel)) ggX6_drawnBy_X6_shifted
set_option maxRecDepth 20000 in
theorem ggX6_drawnBy_X6_has : GoodIn wsX6_drawnBy wsX6_has := goodIn_r _ [11] (by decide +kernel) (by decide +kernel)
set_option maxRecDepth 20000 in
theorem gX6_drawnBy_X6_has : GoodIn wsX6_drawnBy (va_wsS RX6 160 yX6_has wsX6_has) := goodIn_app (goodIn_of _ (by decide +kernel)) ggX6_drawnBy_X6_has
theorem dX6_drawnBy_0 : decode cX6_drawnBy 0 = .ok (.aload_n 0, 1) := by decide +kernel
theorem dX6_drawnBy_1 : decode cX6_drawnBy 1 = .ok (.getfield 7, 3) := by decide +kernel
theorem dX6_drawnBy_4 : decode cX6_drawnBy 4 = .ok (.iload_n 1, 1) := by decide +kernel
theorem dX6_drawnBy_5 : decode cX6_drawnBy 5 = .ok (.iaload, 1) := by decide +kernel
theorem dX6_drawnBy_6 : decode cX6_drawnBy 6 = .ok (.iload_n 2, 1) := by decide +kernel
theorem dX6_drawnBy_7 : decode cX6_drawnBy 7 = .ok (.invokestatic 166, 3) := by decide +kernel
theorem dX6_drawnBy_10 : decode cX6_drawnBy 10 = .ok (.aload_n 0, 1) := by decide +kernel
theorem dX6_drawnBy_11 : decode cX6_drawnBy 11 = .ok (.getfield 19, 3) := by decide +kernel
theorem dX6_drawnBy_14 : decode cX6_drawnBy 14 = .ok (.iconst 3, 1) := by decide +kernel
theorem dX6_drawnBy_15 : decode cX6_drawnBy 15 = .ok (.iaload, 1) := by decide +kernel
theorem dX6_drawnBy_16 : decode cX6_drawnBy 16 = .ok (.iconst (-1), 1) := by decide +kernel
theorem dX6_drawnBy_17 : decode cX6_drawnBy 17 = .ok (.ixor, 1) := by decide +kernel
theorem dX6_drawnBy_18 : decode cX6_drawnBy 18 = .ok (.iand, 1) := by decide +kernel
theorem dX6_drawnBy_19 : decode cX6_drawnBy 19 = .ok (.istore_n 3, 1) := by decide +kernel
theorem dX6_drawnBy_20 : decode cX6_drawnBy 20 = .ok (.aload_n 0, 1) := by decide +kernel
theorem dX6_drawnBy_21 : decode cX6_drawnBy 21 = .ok (.getfield 66, 3) := by decide +kernel
theorem dX6_drawnBy_24 : decode cX6_drawnBy 24 = .ok (.istore 4, 2) := by decide +kernel
theorem dX6_drawnBy_26 : decode cX6_drawnBy 26 = .ok (.iconst 0, 1) := by decide +kernel
theorem dX6_drawnBy_27 : decode cX6_drawnBy 27 = .ok (.istore 5, 2) := by decide +kernel
theorem dX6_drawnBy_29 : decode cX6_drawnBy 29 = .ok (.iconst 0, 1) := by decide +kernel
theorem dX6_drawnBy_30 : decode cX6_drawnBy 30 = .ok (.istore 6, 2) := by decide +kernel
theorem dX6_drawnBy_32 : decode cX6_drawnBy 32 = .ok (.iload 6, 2) := by decide +kernel
theorem dX6_drawnBy_34 : decode cX6_drawnBy 34 = .ok (.bipush 30, 2) := by decide +kernel
theorem dX6_drawnBy_36 : decode cX6_drawnBy 36 = .ok (.if_icmp .ge 80, 3) := by decide +kernel
theorem dX6_drawnBy_39 : decode cX6_drawnBy 39 = .ok (.iload_n 3, 1) := by decide +kernel
theorem dX6_drawnBy_40 : decode cX6_drawnBy 40 = .ok (.iload 6, 2) := by decide +kernel
theorem dX6_drawnBy_42 : decode cX6_drawnBy 42 = .ok (.invokestatic 160, 3) := by decide +kernel
theorem dX6_drawnBy_45 : decode cX6_drawnBy 45 = .ok (.ifCond .eq 29, 3) := by decide +kernel
theorem dX6_drawnBy_48 : decode cX6_drawnBy 48 = .ok (.aload_n 0, 1) := by decide +kernel
theorem dX6_drawnBy_49 : decode cX6_drawnBy 49 = .ok (.getfield 19, 3) := by decide +kernel
theorem dX6_drawnBy_52 : decode cX6_drawnBy 52 = .ok (.iconst 2, 1) := by decide +kernel
theorem dX6_drawnBy_53 : decode cX6_drawnBy 53 = .ok (.iaload, 1) := by decide +kernel
theorem dX6_drawnBy_54 : decode cX6_drawnBy 54 = .ok (.iload 6, 2) := by decide +kernel
theorem dX6_drawnBy_56 : decode cX6_drawnBy 56 = .ok (.bipush 6, 2) := by decide +kernel
theorem dX6_drawnBy_58 : decode cX6_drawnBy 58 = .ok (.irem, 1) := by decide +kernel
theorem dX6_drawnBy_59 : decode cX6_drawnBy 59 = .ok (.invokestatic 160, 3) := by decide +kernel
theorem dX6_drawnBy_62 : decode cX6_drawnBy 62 = .ok (.ifCond .ne 12, 3) := by decide +kernel
theorem dX6_drawnBy_65 : decode cX6_drawnBy 65 = .ok (.iload 4, 2) := by decide +kernel
theorem dX6_drawnBy_67 : decode cX6_drawnBy 67 = .ok (.ifCond .le 7, 3) := by decide +kernel
theorem dX6_drawnBy_70 : decode cX6_drawnBy 70 = .ok (.iconst 1, 1) := by decide +kernel
theorem dX6_drawnBy_71 : decode cX6_drawnBy 71 = .ok (.goto 4, 3) := by decide +kernel
theorem dX6_drawnBy_74 : decode cX6_drawnBy 74 = .ok (.iconst 0, 1) := by decide +kernel
theorem dX6_drawnBy_75 : decode cX6_drawnBy 75 = .ok (.istore 7, 2) := by decide +kernel
theorem dX6_drawnBy_77 : decode cX6_drawnBy 77 = .ok (.iload 5, 2) := by decide +kernel
theorem dX6_drawnBy_79 : decode cX6_drawnBy 79 = .ok (.iload 7, 2) := by decide +kernel
theorem dX6_drawnBy_81 : decode cX6_drawnBy 81 = .ok (.ifCond .eq 10, 3) := by decide +kernel
theorem dX6_drawnBy_84 : decode cX6_drawnBy 84 = .ok (.iconst 1, 1) := by decide +kernel
theorem dX6_drawnBy_85 : decode cX6_drawnBy 85 = .ok (.iload 6, 2) := by decide +kernel
theorem dX6_drawnBy_87 : decode cX6_drawnBy 87 = .ok (.ishl, 1) := by decide +kernel
theorem dX6_drawnBy_88 : decode cX6_drawnBy 88 = .ok (.goto 4, 3) := by decide +kernel
theorem dX6_drawnBy_91 : decode cX6_drawnBy 91 = .ok (.iconst 0, 1) := by decide +kernel
theorem dX6_drawnBy_92 : decode cX6_drawnBy 92 = .ok (.ior, 1) := by decide +kernel
theorem dX6_drawnBy_93 : decode cX6_drawnBy 93 = .ok (.istore 5, 2) := by decide +kernel
theorem dX6_drawnBy_95 : decode cX6_drawnBy 95 = .ok (.iload 4, 2) := by decide +kernel
theorem dX6_drawnBy_97 : decode cX6_drawnBy 97 = .ok (.iload 7, 2) := by decide +kernel
theorem dX6_drawnBy_99 : decode cX6_drawnBy 99 = .ok (.ifCond .eq 7, 3) := by decide +kernel
theorem dX6_drawnBy_102 : decode cX6_drawnBy 102 = .ok (.iconst 1, 1) := by decide +kernel
theorem dX6_drawnBy_103 : decode cX6_drawnBy 103 = .ok (.goto 4, 3) := by decide +kernel
theorem dX6_drawnBy_106 : decode cX6_drawnBy 106 = .ok (.iconst 0, 1) := by decide +kernel
theorem dX6_drawnBy_107 : decode cX6_drawnBy 107 = .ok (.isub, 1) := by decide +kernel
theorem dX6_drawnBy_108 : decode cX6_drawnBy 108 = .ok (.istore 4, 2) := by decide +kernel
theorem dX6_drawnBy_110 : decode cX6_drawnBy 110 = .ok (.iinc 6 1, 3) := by decide +kernel
theorem dX6_drawnBy_113 : decode cX6_drawnBy 113 = .ok (.goto (-81), 3) := by decide +kernel
theorem dX6_drawnBy_116 : decode cX6_drawnBy 116 = .ok (.iload 5, 2) := by decide +kernel
theorem dX6_drawnBy_118 : decode cX6_drawnBy 118 = .ok (.ireturn, 1) := by decide +kernel
theorem dX6_whoIsAt_0 : decode cX6_whoIsAt 0 = .ok (.iconst (-1), 1) := by decide +kernel
theorem dX6_whoIsAt_1 : decode cX6_whoIsAt 1 = .ok (.istore_n 2, 1) := by decide +kernel
theorem dX6_whoIsAt_2 : decode cX6_whoIsAt 2 = .ok (.iconst 0, 1) := by decide +kernel
theorem dX6_whoIsAt_3 : decode cX6_whoIsAt 3 = .ok (.istore_n 3, 1) := by decide +kernel
theorem dX6_whoIsAt_4 : decode cX6_whoIsAt 4 = .ok (.iload_n 3, 1) := by decide +kernel
theorem dX6_whoIsAt_5 : decode cX6_whoIsAt 5 = .ok (.aload_n 0, 1) := by decide +kernel
theorem dX6_whoIsAt_6 : decode cX6_whoIsAt 6 = .ok (.getfield 72, 3) := by decide +kernel
theorem dX6_whoIsAt_9 : decode cX6_whoIsAt 9 = .ok (.if_icmp .ge 28, 3) := by decide +kernel
theorem dX6_whoIsAt_12 : decode cX6_whoIsAt 12 = .ok (.aload_n 0, 1) := by decide +kernel
theorem dX6_whoIsAt_13 : decode cX6_whoIsAt 13 = .ok (.getfield 19, 3) := by decide +kernel
theorem dX6_whoIsAt_16 : decode cX6_whoIsAt 16 = .ok (.bipush 6, 2) := by decide +kernel
theorem dX6_whoIsAt_18 : decode cX6_whoIsAt 18 = .ok (.iload_n 3, 1) := by decide +kernel
theorem dX6_whoIsAt_19 : decode cX6_whoIsAt 19 = .ok (.iadd, 1) := by decide +kernel
theorem dX6_whoIsAt_20 : decode cX6_whoIsAt 20 = .ok (.iaload, 1) := by decide +kernel
theorem dX6_whoIsAt_21 : decode cX6_whoIsAt 21 = .ok (.iload_n 1, 1) := by decide +kernel
theorem dX6_whoIsAt_22 : decode cX6_whoIsAt 22 = .ok (.if_icmp .ne 7, 3) := by decide +kernel
theorem dX6_whoIsAt_25 : decode cX6_whoIsAt 25 = .ok (.iload_n 3, 1) := by decide +kernel
theorem dX6_whoIsAt_26 : decode cX6_whoIsAt 26 = .ok (.goto 4, 3) := by decide +kernel
theorem dX6_whoIsAt_29 : decode cX6_whoIsAt 29 = .ok (.iload_n 2, 1) := by decide +kernel
theorem dX6_whoIsAt_30 : decode cX6_whoIsAt 30 = .ok (.istore_n 2, 1) := by decide +kernel
theorem dX6_whoIsAt_31 : decode cX6_whoIsAt 31 = .ok (.iinc 3 1, 3) := by decide +kernel
theorem dX6_whoIsAt_34 : decode cX6_whoIsAt 34 = .ok (.goto (-30), 3) := by decide +kernel
theorem dX6_whoIsAt_37 : decode cX6_whoIsAt 37 = .ok (.iload_n 2, 1) := by decide +kernel
theorem dX6_whoIsAt_38 : decode cX6_whoIsAt 38 = .ok (.ireturn, 1) := by decide +kernel
set_option maxRecDepth 20000 in
theorem ggX6_drawnAt_X6_whoIsAt : GoodIn wsX6_drawnAt wsX6_whoIsAt := goodIn_r _ [6, 7, 1, 24, 25, 26, 27, 28, 29, 30, 31, 32, 33, 34, 35, 36, 37, 38, 39, 40, 41, 42, 43, 44, 45, 46, 47, 48, 49, 50, 51, 52, 53, 54, 55, 56] (by decide +kernel) (by decide +kernel)
set_option maxRecDepth 20000 in
theorem gX6_drawnAt_X6_whoIsAt : GoodIn wsX6_drawnAt (wsV RX6 169 RX6 yX6_whoIsAt wsX6_whoIsAt) := goodIn_app (goodIn_of _ (by decide +kernel)) ggX6_drawnAt_X6_whoIsAt
set_option maxRecDepth 20000 in
theorem ggX6_drawnAt_X6_has : GoodIn wsX6_drawnAt wsX6_has := goodIn_r _ [10] (by decide +kernel) (by decide +kernel)
set_option maxRecDepth 20000 in
theorem gX6_drawnAt_X6_has : GoodIn wsX6_drawnAt (va_wsS RX6 160 yX6_has wsX6_has) := goodIn_app (goodIn_of _ (by decide +kernel)) ggX6_drawnAt_X6_has
set_option maxRecDepth 20000 in
theorem ggX6_drawnAt_X6_drawnBy : GoodIn wsX6_drawnAt wsX6_drawnBy := goodIn_r _ [14, 15, 1, 16, 17, 18, 5, 19, 20, 8, 9, 10, 21, 22, 23, 24, 25, 26, 27, 28, 29, 30, 31, 32, 33, 34, 35, 36, 37, 38, 39, 40, 41, 42, 43, 44, 45, 46, 47, 48, 49, 50, 51, 52, 53, 54, 55, 56] (by decide +kernel) (by decide +kernel)
set_option maxRecDepth 20000 in
theorem gX6_drawnAt_X6_drawnBy : GoodIn wsX6_drawnAt (wsV RX6 172 RX6 yX6_drawnBy wsX6_drawnBy) := goodIn_app (goodIn_of _ (by decide +kernel)) ggX6_drawnAt_X6_drawnBy
theorem dX6_drawnAt_0 : decode cX6_drawnAt 0 = .ok (.aload_n 0, 1) := by decide +kernel
theorem dX6_drawnAt_1 : decode cX6_drawnAt 1 = .ok (.iload_n 1, 1) := by decide +kernel
theorem dX6_drawnAt_2 : decode cX6_drawnAt 2 = .ok (.invokevirtual 169, 3) := by decide +kernel
theorem dX6_drawnAt_5 : decode cX6_drawnAt 5 = .ok (.istore_n 2, 1) := by decide +kernel
theorem dX6_drawnAt_6 : decode cX6_drawnAt 6 = .ok (.iload_n 2, 1) := by decide +kernel
theorem dX6_drawnAt_7 : decode cX6_drawnAt 7 = .ok (.iconst (-1), 1) := by decide +kernel
theorem dX6_drawnAt_8 : decode cX6_drawnAt 8 = .ok (.if_icmp .eq 26, 3) := by decide +kernel
theorem dX6_drawnAt_11 : decode cX6_drawnAt 11 = .ok (.aload_n 0, 1) := by decide +kernel
theorem dX6_drawnAt_12 : decode cX6_drawnAt 12 = .ok (.getfield 19, 3) := by decide +kernel
theorem dX6_drawnAt_15 : decode cX6_drawnAt 15 = .ok (.iconst 4, 1) := by decide +kernel
theorem dX6_drawnAt_16 : decode cX6_drawnAt 16 = .ok (.iaload, 1) := by decide +kernel
theorem dX6_drawnAt_17 : decode cX6_drawnAt 17 = .ok (.iconst 1, 1) := by decide +kernel
theorem dX6_drawnAt_18 : decode cX6_drawnAt 18 = .ok (.if_icmp .eq 16, 3) := by decide +kernel
theorem dX6_drawnAt_21 : decode cX6_drawnAt 21 = .ok (.aload_n 0, 1) := by decide +kernel
theorem dX6_drawnAt_22 : decode cX6_drawnAt 22 = .ok (.getfield 19, 3) := by decide +kernel
theorem dX6_drawnAt_25 : decode cX6_drawnAt 25 = .ok (.iconst 5, 1) := by decide +kernel
theorem dX6_drawnAt_26 : decode cX6_drawnAt 26 = .ok (.iaload, 1) := by decide +kernel
theorem dX6_drawnAt_27 : decode cX6_drawnAt 27 = .ok (.iload_n 1, 1) := by decide +kernel
theorem dX6_drawnAt_28 : decode cX6_drawnAt 28 = .ok (.invokestatic 160, 3) := by decide +kernel
theorem dX6_drawnAt_31 : decode cX6_drawnAt 31 = .ok (.ifCond .eq 7, 3) := by decide +kernel
theorem dX6_drawnAt_34 : decode cX6_drawnAt 34 = .ok (.iconst 0, 1) := by decide +kernel
theorem dX6_drawnAt_35 : decode cX6_drawnAt 35 = .ok (.goto 24, 3) := by decide +kernel
theorem dX6_drawnAt_38 : decode cX6_drawnAt 38 = .ok (.aload_n 0, 1) := by decide +kernel
theorem dX6_drawnAt_39 : decode cX6_drawnAt 39 = .ok (.iload_n 2, 1) := by decide +kernel
theorem dX6_drawnAt_40 : decode cX6_drawnAt 40 = .ok (.aload_n 0, 1) := by decide +kernel
theorem dX6_drawnAt_41 : decode cX6_drawnAt 41 = .ok (.getfield 19, 3) := by decide +kernel
theorem dX6_drawnAt_44 : decode cX6_drawnAt 44 = .ok (.bipush 12, 2) := by decide +kernel
theorem dX6_drawnAt_46 : decode cX6_drawnAt 46 = .ok (.iload_n 1, 1) := by decide +kernel
theorem dX6_drawnAt_47 : decode cX6_drawnAt 47 = .ok (.iadd, 1) := by decide +kernel
theorem dX6_drawnAt_48 : decode cX6_drawnAt 48 = .ok (.iaload, 1) := by decide +kernel
theorem dX6_drawnAt_49 : decode cX6_drawnAt 49 = .ok (.aload_n 0, 1) := by decide +kernel
theorem dX6_drawnAt_50 : decode cX6_drawnAt 50 = .ok (.getfield 19, 3) := by decide +kernel
theorem dX6_drawnAt_53 : decode cX6_drawnAt 53 = .ok (.iconst 1, 1) := by decide +kernel
theorem dX6_drawnAt_54 : decode cX6_drawnAt 54 = .ok (.iaload, 1) := by decide +kernel
theorem dX6_drawnAt_55 : decode cX6_drawnAt 55 = .ok (.iadd, 1) := by decide +kernel
theorem dX6_drawnAt_56 : decode cX6_drawnAt 56 = .ok (.invokevirtual 172, 3) := by decide +kernel
theorem dX6_drawnAt_59 : decode cX6_drawnAt 59 = .ok (.ireturn, 1) := by decide +kernel
set_option maxRecDepth 20000 in
theorem ggX6_cloud_X6_drawnAt : GoodIn wsX6_cloud wsX6_drawnAt := goodIn_r _ [6, 7, 8, 9, 10, 5, 11, 12, 13, 14, 15, 16, 17, 18, 19, 20, 21, 22, 23, 24, 25, 26, 27, 28, 29, 30, 31, 32, 33, 34, 35, 36, 37, 38, 39, 40, 41, 42, 43, 44, 45, 46, 47, 48, 49, 50, 51, 52, 53, 54, 55, 56, 57, 58, 59, 60, 61] (by decide +kernel) (by decide +kernel)
set_option maxRecDepth 20000 in
theorem gX6_cloud_X6_drawnAt : GoodIn wsX6_cloud (wsV RX6 175 RX6 yX6_drawnAt wsX6_drawnAt) := goodIn_app (goodIn_of _ (by decide +kernel)) ggX6_cloud_X6_drawnAt
theorem dX6_cloud_0 : decode cX6_cloud 0 = .ok (.iconst 0, 1) := by decide +kernel
theorem dX6_cloud_1 : decode cX6_cloud 1 = .ok (.istore_n 1, 1) := by decide +kernel
theorem dX6_cloud_2 : decode cX6_cloud 2 = .ok (.iconst 0, 1) := by decide +kernel
theorem dX6_cloud_3 : decode cX6_cloud 3 = .ok (.istore_n 2, 1) := by decide +kernel
theorem dX6_cloud_4 : decode cX6_cloud 4 = .ok (.iload_n 2, 1) := by decide +kernel
theorem dX6_cloud_5 : decode cX6_cloud 5 = .ok (.aload_n 0, 1) := by decide +kernel
theorem dX6_cloud_6 : decode cX6_cloud 6 = .ok (.getfield 79, 3) := by decide +kernel
theorem dX6_cloud_9 : decode cX6_cloud 9 = .ok (.if_icmp .ge 17, 3) := by decide +kernel
theorem dX6_cloud_12 : decode cX6_cloud 12 = .ok (.iload_n 1, 1) := by decide +kernel
theorem dX6_cloud_13 : decode cX6_cloud 13 = .ok (.aload_n 0, 1) := by decide +kernel
theorem dX6_cloud_14 : decode cX6_cloud 14 = .ok (.iload_n 2, 1) := by decide +kernel
theorem dX6_cloud_15 : decode cX6_cloud 15 = .ok (.invokevirtual 175, 3) := by decide +kernel
theorem dX6_cloud_18 : decode cX6_cloud 18 = .ok (.ior, 1) := by decide +kernel
theorem dX6_cloud_19 : decode cX6_cloud 19 = .ok (.istore_n 1, 1) := by decide +kernel
theorem dX6_cloud_20 : decode cX6_cloud 20 = .ok (.iinc 2 1, 3) := by decide +kernel
theorem dX6_cloud_23 : decode cX6_cloud 23 = .ok (.goto (-19), 3) := by decide +kernel
theorem dX6_cloud_26 : decode cX6_cloud 26 = .ok (.iload_n 1, 1) := by decide +kernel
theorem dX6_cloud_27 : decode cX6_cloud 27 = .ok (.ireturn, 1) := by decide +kernel
set_option maxRecDepth 20000 in
theorem ggX6_likeBy_X6_ones : GoodIn wsX6_likeBy wsX6_ones := goodIn_r _ [5] (by decide +kernel) (by decide +kernel)
set_option maxRecDepth 20000 in
theorem gX6_likeBy_X6_ones : GoodIn wsX6_likeBy (va_wsS RX6 178 yX6_ones wsX6_ones) := goodIn_app (goodIn_of _ (by decide +kernel)) ggX6_likeBy_X6_ones
theorem dX6_likeBy_0 : decode cX6_likeBy 0 = .ok (.bipush 30, 2) := by decide +kernel
theorem dX6_likeBy_2 : decode cX6_likeBy 2 = .ok (.aload_n 0, 1) := by decide +kernel
theorem dX6_likeBy_3 : decode cX6_likeBy 3 = .ok (.getfield 7, 3) := by decide +kernel
theorem dX6_likeBy_6 : decode cX6_likeBy 6 = .ok (.iload_n 1, 1) := by decide +kernel
theorem dX6_likeBy_7 : decode cX6_likeBy 7 = .ok (.iaload, 1) := by decide +kernel
theorem dX6_likeBy_8 : decode cX6_likeBy 8 = .ok (.iload_n 2, 1) := by decide +kernel
theorem dX6_likeBy_9 : decode cX6_likeBy 9 = .ok (.ixor, 1) := by decide +kernel
theorem dX6_likeBy_10 : decode cX6_likeBy 10 = .ok (.invokestatic 178, 3) := by decide +kernel
theorem dX6_likeBy_13 : decode cX6_likeBy 13 = .ok (.isub, 1) := by decide +kernel
theorem dX6_likeBy_14 : decode cX6_likeBy 14 = .ok (.ireturn, 1) := by decide +kernel
set_option maxRecDepth 20000 in
theorem ggX6_mostLike_X6_ones : GoodIn wsX6_mostLike wsX6_ones := goodIn_r _ [6] (by decide +kernel) (by decide +kernel)
set_option maxRecDepth 20000 in
theorem gX6_mostLike_X6_ones : GoodIn wsX6_mostLike (va_wsS RX6 178 yX6_ones wsX6_ones) := goodIn_app (goodIn_of _ (by decide +kernel)) ggX6_mostLike_X6_ones
theorem dX6_mostLike_0 : decode cX6_mostLike 0 = .ok (.iconst (-1), 1) := by decide +kernel
theorem dX6_mostLike_1 : decode cX6_mostLike 1 = .ok (.istore_n 3, 1) := by decide +kernel
theorem dX6_mostLike_2 : decode cX6_mostLike 2 = .ok (.iconst (-1), 1) := by decide +kernel
theorem dX6_mostLike_3 : decode cX6_mostLike 3 = .ok (.istore 4, 2) := by decide +kernel
theorem dX6_mostLike_5 : decode cX6_mostLike 5 = .ok (.iconst 0, 1) := by decide +kernel
theorem dX6_mostLike_6 : decode cX6_mostLike 6 = .ok (.istore 5, 2) := by decide +kernel
theorem dX6_mostLike_8 : decode cX6_mostLike 8 = .ok (.iload 5, 2) := by decide +kernel
theorem dX6_mostLike_10 : decode cX6_mostLike 10 = .ok (.aload_n 0, 1) := by decide +kernel
theorem dX6_mostLike_11 : decode cX6_mostLike 11 = .ok (.getfield 72, 3) := by decide +kernel
theorem dX6_mostLike_14 : decode cX6_mostLike 14 = .ok (.if_icmp .ge 58, 3) := by decide +kernel
theorem dX6_mostLike_17 : decode cX6_mostLike 17 = .ok (.bipush 30, 2) := by decide +kernel
theorem dX6_mostLike_19 : decode cX6_mostLike 19 = .ok (.aload_n 0, 1) := by decide +kernel
theorem dX6_mostLike_20 : decode cX6_mostLike 20 = .ok (.getfield 7, 3) := by decide +kernel
theorem dX6_mostLike_23 : decode cX6_mostLike 23 = .ok (.iload 5, 2) := by decide +kernel
theorem dX6_mostLike_25 : decode cX6_mostLike 25 = .ok (.iaload, 1) := by decide +kernel
theorem dX6_mostLike_26 : decode cX6_mostLike 26 = .ok (.iload_n 1, 1) := by decide +kernel
theorem dX6_mostLike_27 : decode cX6_mostLike 27 = .ok (.ixor, 1) := by decide +kernel
theorem dX6_mostLike_28 : decode cX6_mostLike 28 = .ok (.iload_n 2, 1) := by decide +kernel
theorem dX6_mostLike_29 : decode cX6_mostLike 29 = .ok (.iand, 1) := by decide +kernel
theorem dX6_mostLike_30 : decode cX6_mostLike 30 = .ok (.invokestatic 178, 3) := by decide +kernel
theorem dX6_mostLike_33 : decode cX6_mostLike 33 = .ok (.isub, 1) := by decide +kernel
theorem dX6_mostLike_34 : decode cX6_mostLike 34 = .ok (.istore 6, 2) := by decide +kernel
theorem dX6_mostLike_36 : decode cX6_mostLike 36 = .ok (.iload 6, 2) := by decide +kernel
theorem dX6_mostLike_38 : decode cX6_mostLike 38 = .ok (.iload 4, 2) := by decide +kernel
theorem dX6_mostLike_40 : decode cX6_mostLike 40 = .ok (.if_icmp .le 8, 3) := by decide +kernel
theorem dX6_mostLike_43 : decode cX6_mostLike 43 = .ok (.iload 5, 2) := by decide +kernel
theorem dX6_mostLike_45 : decode cX6_mostLike 45 = .ok (.goto 4, 3) := by decide +kernel
theorem dX6_mostLike_48 : decode cX6_mostLike 48 = .ok (.iload_n 3, 1) := by decide +kernel
theorem dX6_mostLike_49 : decode cX6_mostLike 49 = .ok (.istore_n 3, 1) := by decide +kernel
theorem dX6_mostLike_50 : decode cX6_mostLike 50 = .ok (.iload 6, 2) := by decide +kernel
theorem dX6_mostLike_52 : decode cX6_mostLike 52 = .ok (.iload 4, 2) := by decide +kernel
theorem dX6_mostLike_54 : decode cX6_mostLike 54 = .ok (.if_icmp .le 8, 3) := by decide +kernel
theorem dX6_mostLike_57 : decode cX6_mostLike 57 = .ok (.iload 6, 2) := by decide +kernel
theorem dX6_mostLike_59 : decode cX6_mostLike 59 = .ok (.goto 5, 3) := by decide +kernel
theorem dX6_mostLike_62 : decode cX6_mostLike 62 = .ok (.iload 4, 2) := by decide +kernel
theorem dX6_mostLike_64 : decode cX6_mostLike 64 = .ok (.istore 4, 2) := by decide +kernel
theorem dX6_mostLike_66 : decode cX6_mostLike 66 = .ok (.iinc 5 1, 3) := by decide +kernel
theorem dX6_mostLike_69 : decode cX6_mostLike 69 = .ok (.goto (-61), 3) := by decide +kernel
theorem dX6_mostLike_72 : decode cX6_mostLike 72 = .ok (.iload_n 3, 1) := by decide +kernel
theorem dX6_mostLike_73 : decode cX6_mostLike 73 = .ok (.ireturn, 1) := by decide +kernel
theorem dX6_often_0 : decode cX6_often 0 = .ok (.iconst 0, 1) := by decide +kernel
theorem dX6_often_1 : decode cX6_often 1 = .ok (.istore_n 2, 1) := by decide +kernel
theorem dX6_often_2 : decode cX6_often 2 = .ok (.iconst 0, 1) := by decide +kernel
theorem dX6_often_3 : decode cX6_often 3 = .ok (.istore_n 3, 1) := by decide +kernel
theorem dX6_often_4 : decode cX6_often 4 = .ok (.iload_n 3, 1) := by decide +kernel
theorem dX6_often_5 : decode cX6_often 5 = .ok (.aload_n 0, 1) := by decide +kernel
theorem dX6_often_6 : decode cX6_often 6 = .ok (.getfield 19, 3) := by decide +kernel
theorem dX6_often_9 : decode cX6_often 9 = .ok (.bipush 21, 2) := by decide +kernel
theorem dX6_often_11 : decode cX6_often 11 = .ok (.iaload, 1) := by decide +kernel
theorem dX6_often_12 : decode cX6_often 12 = .ok (.if_icmp .ge 34, 3) := by decide +kernel
theorem dX6_often_15 : decode cX6_often 15 = .ok (.iload_n 2, 1) := by decide +kernel
theorem dX6_often_16 : decode cX6_often 16 = .ok (.aload_n 0, 1) := by decide +kernel
theorem dX6_often_17 : decode cX6_often 17 = .ok (.getfield 19, 3) := by decide +kernel
theorem dX6_often_20 : decode cX6_often 20 = .ok (.bipush 22, 2) := by decide +kernel
theorem dX6_often_22 : decode cX6_often 22 = .ok (.iconst 3, 1) := by decide +kernel
theorem dX6_often_23 : decode cX6_often 23 = .ok (.iload_n 3, 1) := by decide +kernel
theorem dX6_often_24 : decode cX6_often 24 = .ok (.imul, 1) := by decide +kernel
theorem dX6_often_25 : decode cX6_often 25 = .ok (.iadd, 1) := by decide +kernel
theorem dX6_often_26 : decode cX6_often 26 = .ok (.iconst 1, 1) := by decide +kernel
theorem dX6_often_27 : decode cX6_often 27 = .ok (.iadd, 1) := by decide +kernel
theorem dX6_often_28 : decode cX6_often 28 = .ok (.iaload, 1) := by decide +kernel
theorem dX6_often_29 : decode cX6_often 29 = .ok (.iload_n 1, 1) := by decide +kernel
theorem dX6_often_30 : decode cX6_often 30 = .ok (.if_icmp .ne 7, 3) := by decide +kernel
theorem dX6_often_33 : decode cX6_often 33 = .ok (.iconst 1, 1) := by decide +kernel
theorem dX6_often_34 : decode cX6_often 34 = .ok (.goto 4, 3) := by decide +kernel
theorem dX6_often_37 : decode cX6_often 37 = .ok (.iconst 0, 1) := by decide +kernel
theorem dX6_often_38 : decode cX6_often 38 = .ok (.iadd, 1) := by decide +kernel
theorem dX6_often_39 : decode cX6_often 39 = .ok (.istore_n 2, 1) := by decide +kernel
theorem dX6_often_40 : decode cX6_often 40 = .ok (.iinc 3 1, 3) := by decide +kernel
theorem dX6_often_43 : decode cX6_often 43 = .ok (.goto (-39), 3) := by decide +kernel
theorem dX6_often_46 : decode cX6_often 46 = .ok (.iload_n 2, 1) := by decide +kernel
theorem dX6_often_47 : decode cX6_often 47 = .ok (.ireturn, 1) := by decide +kernel
set_option maxRecDepth 20000 in
theorem ggX6_told_X6_cloud : GoodIn wsX6_told wsX6_cloud := goodIn_r _ [14, 3, 15, 16, 17, 13, 18, 6, 19, 20, 21, 22, 2, 23, 24, 25, 26, 27, 28, 29, 30, 1, 31, 32, 33, 34, 35, 36, 37, 48, 49, 50, 51, 52, 53, 54, 55, 56, 57, 58, 59, 60, 61, 62, 63, 64, 65, 66, 67, 68, 69, 70, 71, 72, 73, 74, 75, 76, 77, 78, 79, 80] (by decide +kernel) (by decide +kernel)
set_option maxRecDepth 20000 in
theorem gX6_told_X6_cloud : GoodIn wsX6_told (wsV RX6 181 RX6 yX6_cloud wsX6_cloud) := goodIn_app (goodIn_of _ (by decide +kernel)) ggX6_told_X6_cloud
set_option maxRecDepth 20000 in
theorem ggX6_told_X6_mayBe : GoodIn wsX6_told wsX6_mayBe := goodIn_r _ [41, 2, 30, 31, 32, 13, 33, 34, 23, 24, 25, 35, 36, 37, 42, 43, 44, 45, 7, 46, 47, 48, 49, 50, 51, 52, 53, 54, 55, 56, 57, 58, 59, 60, 61, 62, 63, 64, 65, 66, 67, 68, 69, 70, 71, 72, 73, 74, 75, 76, 77, 78, 79, 80] (by decide +kernel) (by decide +kernel)
set_option maxRecDepth 20000 in
theorem gX6_told_X6_mayBe : GoodIn wsX6_told (wsV RX6 184 RX6 yX6_mayBe wsX6_mayBe) := goodIn_app (goodIn_of _ (by decide +kernel)) ggX6_told_X6_mayBe
theorem dX6_told_0 : decode cX6_told 0 = .ok (.iload_n 1, 1) := by decide +kernel
theorem dX6_told_1 : decode cX6_told 1 = .ok (.tableswitch 176 0 15 #[79, 84, 89, 94, 99, 104, 111, 120, 127, 134, 141, 148, 153, 161, 166, 171], 79) := by decide +kernel
theorem dX6_told_80 : decode cX6_told 80 = .ok (.aload_n 0, 1) := by decide +kernel
theorem dX6_told_81 : decode cX6_told 81 = .ok (.getfield 66, 3) := by decide +kernel
theorem dX6_told_84 : decode cX6_told 84 = .ok (.ireturn, 1) := by decide +kernel
theorem dX6_told_85 : decode cX6_told 85 = .ok (.aload_n 0, 1) := by decide +kernel
theorem dX6_told_86 : decode cX6_told 86 = .ok (.getfield 72, 3) := by decide +kernel
theorem dX6_told_89 : decode cX6_told 89 = .ok (.ireturn, 1) := by decide +kernel
theorem dX6_told_90 : decode cX6_told 90 = .ok (.aload_n 0, 1) := by decide +kernel
theorem dX6_told_91 : decode cX6_told 91 = .ok (.getfield 79, 3) := by decide +kernel
theorem dX6_told_94 : decode cX6_told 94 = .ok (.ireturn, 1) := by decide +kernel
theorem dX6_told_95 : decode cX6_told 95 = .ok (.aload_n 0, 1) := by decide +kernel
theorem dX6_told_96 : decode cX6_told 96 = .ok (.getfield 145, 3) := by decide +kernel
theorem dX6_told_99 : decode cX6_told 99 = .ok (.ireturn, 1) := by decide +kernel
theorem dX6_told_100 : decode cX6_told 100 = .ok (.aload_n 0, 1) := by decide +kernel
theorem dX6_told_101 : decode cX6_told 101 = .ok (.getfield 85, 3) := by decide +kernel
theorem dX6_told_104 : decode cX6_told 104 = .ok (.ireturn, 1) := by decide +kernel
theorem dX6_told_105 : decode cX6_told 105 = .ok (.aload_n 0, 1) := by decide +kernel
theorem dX6_told_106 : decode cX6_told 106 = .ok (.getfield 19, 3) := by decide +kernel
theorem dX6_told_109 : decode cX6_told 109 = .ok (.iconst 0, 1) := by decide +kernel
theorem dX6_told_110 : decode cX6_told 110 = .ok (.iaload, 1) := by decide +kernel
theorem dX6_told_111 : decode cX6_told 111 = .ok (.ireturn, 1) := by decide +kernel
theorem dX6_told_112 : decode cX6_told 112 = .ok (.aload_n 0, 1) := by decide +kernel
theorem dX6_told_113 : decode cX6_told 113 = .ok (.getfield 19, 3) := by decide +kernel
theorem dX6_told_116 : decode cX6_told 116 = .ok (.iconst 1, 1) := by decide +kernel
theorem dX6_told_117 : decode cX6_told 117 = .ok (.iaload, 1) := by decide +kernel
theorem dX6_told_118 : decode cX6_told 118 = .ok (.iconst 3, 1) := by decide +kernel
theorem dX6_told_119 : decode cX6_told 119 = .ok (.iadd, 1) := by decide +kernel
theorem dX6_told_120 : decode cX6_told 120 = .ok (.ireturn, 1) := by decide +kernel
theorem dX6_told_121 : decode cX6_told 121 = .ok (.aload_n 0, 1) := by decide +kernel
theorem dX6_told_122 : decode cX6_told 122 = .ok (.getfield 19, 3) := by decide +kernel
theorem dX6_told_125 : decode cX6_told 125 = .ok (.iconst 2, 1) := by decide +kernel
theorem dX6_told_126 : decode cX6_told 126 = .ok (.iaload, 1) := by decide +kernel
theorem dX6_told_127 : decode cX6_told 127 = .ok (.ireturn, 1) := by decide +kernel
theorem dX6_told_128 : decode cX6_told 128 = .ok (.aload_n 0, 1) := by decide +kernel
theorem dX6_told_129 : decode cX6_told 129 = .ok (.getfield 19, 3) := by decide +kernel
theorem dX6_told_132 : decode cX6_told 132 = .ok (.iconst 3, 1) := by decide +kernel
theorem dX6_told_133 : decode cX6_told 133 = .ok (.iaload, 1) := by decide +kernel
theorem dX6_told_134 : decode cX6_told 134 = .ok (.ireturn, 1) := by decide +kernel
theorem dX6_told_135 : decode cX6_told 135 = .ok (.aload_n 0, 1) := by decide +kernel
theorem dX6_told_136 : decode cX6_told 136 = .ok (.getfield 19, 3) := by decide +kernel
theorem dX6_told_139 : decode cX6_told 139 = .ok (.iconst 4, 1) := by decide +kernel
theorem dX6_told_140 : decode cX6_told 140 = .ok (.iaload, 1) := by decide +kernel
theorem dX6_told_141 : decode cX6_told 141 = .ok (.ireturn, 1) := by decide +kernel
theorem dX6_told_142 : decode cX6_told 142 = .ok (.aload_n 0, 1) := by decide +kernel
theorem dX6_told_143 : decode cX6_told 143 = .ok (.getfield 19, 3) := by decide +kernel
theorem dX6_told_146 : decode cX6_told 146 = .ok (.iconst 5, 1) := by decide +kernel
theorem dX6_told_147 : decode cX6_told 147 = .ok (.iaload, 1) := by decide +kernel
theorem dX6_told_148 : decode cX6_told 148 = .ok (.ireturn, 1) := by decide +kernel
theorem dX6_told_149 : decode cX6_told 149 = .ok (.aload_n 0, 1) := by decide +kernel
theorem dX6_told_150 : decode cX6_told 150 = .ok (.invokevirtual 181, 3) := by decide +kernel
theorem dX6_told_153 : decode cX6_told 153 = .ok (.ireturn, 1) := by decide +kernel
theorem dX6_told_154 : decode cX6_told 154 = .ok (.aload_n 0, 1) := by decide +kernel
theorem dX6_told_155 : decode cX6_told 155 = .ok (.getfield 19, 3) := by decide +kernel
theorem dX6_told_158 : decode cX6_told 158 = .ok (.bipush 21, 2) := by decide +kernel
theorem dX6_told_160 : decode cX6_told 160 = .ok (.iaload, 1) := by decide +kernel
theorem dX6_told_161 : decode cX6_told 161 = .ok (.ireturn, 1) := by decide +kernel
theorem dX6_told_162 : decode cX6_told 162 = .ok (.aload_n 0, 1) := by decide +kernel
theorem dX6_told_163 : decode cX6_told 163 = .ok (.getfield 154, 3) := by decide +kernel
theorem dX6_told_166 : decode cX6_told 166 = .ok (.ireturn, 1) := by decide +kernel
theorem dX6_told_167 : decode cX6_told 167 = .ok (.aload_n 0, 1) := by decide +kernel
theorem dX6_told_168 : decode cX6_told 168 = .ok (.invokevirtual 184, 3) := by decide +kernel
theorem dX6_told_171 : decode cX6_told 171 = .ok (.ireturn, 1) := by decide +kernel
theorem dX6_told_172 : decode cX6_told 172 = .ok (.aload_n 0, 1) := by decide +kernel
theorem dX6_told_173 : decode cX6_told 173 = .ok (.getfield 157, 3) := by decide +kernel
theorem dX6_told_176 : decode cX6_told 176 = .ok (.ireturn, 1) := by decide +kernel
theorem dX6_told_177 : decode cX6_told 177 = .ok (.ldc 84, 2) := by decide +kernel
theorem dX6_told_179 : decode cX6_told 179 = .ok (.ireturn, 1) := by decide +kernel
set_option maxRecDepth 20000 in
theorem ggX6_sitter_X6_isSitter : GoodIn wsX6_sitter wsX6_isSitter := goodIn_r _ [9, 10, 11, 12, 8, 13, 18, 19, 20, 21, 22, 23, 24, 25, 26, 27, 28, 29, 30, 31, 32, 33, 34, 35, 36, 37, 38, 39, 40, 41, 42, 43, 44, 45, 46, 47, 48, 49, 50] (by decide +kernel) (by decide +kernel)
set_option maxRecDepth 20000 in
theorem gX6_sitter_X6_isSitter : GoodIn wsX6_sitter (wsV RX6 187 RX6 yX6_isSitter wsX6_isSitter) := goodIn_app (goodIn_of _ (by decide +kernel)) ggX6_sitter_X6_isSitter
set_option maxRecDepth 20000 in
theorem ggX6_sitter_X6_often : GoodIn wsX6_sitter wsX6_often := goodIn_r _ [17, 3, 18, 19, 20, 21, 22, 23, 24, 25, 26, 27, 28, 29, 30, 31, 32, 33, 34, 35, 36, 37, 38, 39, 40, 41, 42, 43, 44, 45, 46, 47, 48, 49, 50] (by decide +kernel) (by decide +kernel)
set_option maxRecDepth 20000 in
theorem gX6_sitter_X6_often : GoodIn wsX6_sitter (wsV RX6 191 RX6 yX6_often wsX6_often) := goodIn_app (goodIn_of _ (by decide +kernel)) ggX6_sitter_X6_often
theorem dX6_sitter_0 : decode cX6_sitter 0 = .ok (.aload_n 0, 1) := by decide +kernel
theorem dX6_sitter_1 : decode cX6_sitter 1 = .ok (.iload_n 1, 1) := by decide +kernel
theorem dX6_sitter_2 : decode cX6_sitter 2 = .ok (.invokevirtual 187, 3) := by decide +kernel
theorem dX6_sitter_5 : decode cX6_sitter 5 = .ok (.ifCond .ne 6, 3) := by decide +kernel
theorem dX6_sitter_8 : decode cX6_sitter 8 = .ok (.ldc 190, 2) := by decide +kernel
theorem dX6_sitter_10 : decode cX6_sitter 10 = .ok (.ireturn, 1) := by decide +kernel
theorem dX6_sitter_11 : decode cX6_sitter 11 = .ok (.iload_n 2, 1) := by decide +kernel
theorem dX6_sitter_12 : decode cX6_sitter 12 = .ok (.ifCond .ne 12, 3) := by decide +kernel
theorem dX6_sitter_15 : decode cX6_sitter 15 = .ok (.aload_n 0, 1) := by decide +kernel
theorem dX6_sitter_16 : decode cX6_sitter 16 = .ok (.getfield 7, 3) := by decide +kernel
theorem dX6_sitter_19 : decode cX6_sitter 19 = .ok (.iload_n 1, 1) := by decide +kernel
theorem dX6_sitter_20 : decode cX6_sitter 20 = .ok (.iaload, 1) := by decide +kernel
theorem dX6_sitter_21 : decode cX6_sitter 21 = .ok (.goto 35, 3) := by decide +kernel
theorem dX6_sitter_24 : decode cX6_sitter 24 = .ok (.iload_n 2, 1) := by decide +kernel
theorem dX6_sitter_25 : decode cX6_sitter 25 = .ok (.iconst 1, 1) := by decide +kernel
theorem dX6_sitter_26 : decode cX6_sitter 26 = .ok (.if_icmp .ne 15, 3) := by decide +kernel
theorem dX6_sitter_29 : decode cX6_sitter 29 = .ok (.aload_n 0, 1) := by decide +kernel
theorem dX6_sitter_30 : decode cX6_sitter 30 = .ok (.getfield 19, 3) := by decide +kernel
theorem dX6_sitter_33 : decode cX6_sitter 33 = .ok (.bipush 6, 2) := by decide +kernel
theorem dX6_sitter_35 : decode cX6_sitter 35 = .ok (.iload_n 1, 1) := by decide +kernel
theorem dX6_sitter_36 : decode cX6_sitter 36 = .ok (.iadd, 1) := by decide +kernel
theorem dX6_sitter_37 : decode cX6_sitter 37 = .ok (.iaload, 1) := by decide +kernel
theorem dX6_sitter_38 : decode cX6_sitter 38 = .ok (.goto 18, 3) := by decide +kernel
theorem dX6_sitter_41 : decode cX6_sitter 41 = .ok (.iload_n 2, 1) := by decide +kernel
theorem dX6_sitter_42 : decode cX6_sitter 42 = .ok (.iconst 2, 1) := by decide +kernel
theorem dX6_sitter_43 : decode cX6_sitter 43 = .ok (.if_icmp .ne 11, 3) := by decide +kernel
theorem dX6_sitter_46 : decode cX6_sitter 46 = .ok (.aload_n 0, 1) := by decide +kernel
theorem dX6_sitter_47 : decode cX6_sitter 47 = .ok (.iload_n 1, 1) := by decide +kernel
theorem dX6_sitter_48 : decode cX6_sitter 48 = .ok (.invokevirtual 191, 3) := by decide +kernel
theorem dX6_sitter_51 : decode cX6_sitter 51 = .ok (.goto 5, 3) := by decide +kernel
theorem dX6_sitter_54 : decode cX6_sitter 54 = .ok (.ldc 84, 2) := by decide +kernel
theorem dX6_sitter_56 : decode cX6_sitter 56 = .ok (.ireturn, 1) := by decide +kernel
set_option maxRecDepth 20000 in
theorem ggX6_window_X6_isWindow : GoodIn wsX6_window wsX6_isWindow := goodIn_r _ [9, 10, 11, 12, 8, 13, 43, 44, 45, 46, 47, 48, 49, 50, 51, 52, 53, 54, 55, 56, 57, 58, 59, 60, 61, 62, 63, 64, 65, 66, 67, 68, 69, 70, 71, 72, 73, 74, 75] (by decide +kernel) (by decide +kernel)
set_option maxRecDepth 20000 in
theorem gX6_window_X6_isWindow : GoodIn wsX6_window (wsV RX6 194 RX6 yX6_isWindow wsX6_isWindow) := goodIn_app (goodIn_of _ (by decide +kernel)) ggX6_window_X6_isWindow
set_option maxRecDepth 20000 in
theorem ggX6_window_X6_whoIsAt : GoodIn wsX6_window wsX6_whoIsAt := goodIn_r _ [17, 18, 2, 43, 44, 45, 46, 47, 48, 49, 50, 51, 52, 53, 54, 55, 56, 57, 58, 59, 60, 61, 62, 63, 64, 65, 66, 67, 68, 69, 70, 71, 72, 73, 74, 75] (by decide +kernel) (by decide +kernel)
set_option maxRecDepth 20000 in
theorem gX6_window_X6_whoIsAt : GoodIn wsX6_window (wsV RX6 169 RX6 yX6_whoIsAt wsX6_whoIsAt) := goodIn_app (goodIn_of _ (by decide +kernel)) ggX6_window_X6_whoIsAt
set_option maxRecDepth 20000 in
theorem ggX6_window_X6_drawnAt : GoodIn wsX6_window wsX6_drawnAt := goodIn_r _ [22, 2, 14, 15, 16, 8, 17, 18, 23, 24, 25, 26, 27, 28, 29, 30, 31, 32, 33, 34, 35, 11, 12, 13, 43, 44, 45, 46, 47, 48, 49, 50, 51, 52, 53, 54, 55, 56, 57, 58, 59, 60, 61, 62, 63, 64, 65, 66, 67, 68, 69, 70, 71, 72, 73, 74, 75] (by decide +kernel) (by decide +kernel)
set_option maxRecDepth 20000 in
theorem gX6_window_X6_drawnAt : GoodIn wsX6_window (wsV RX6 175 RX6 yX6_drawnAt wsX6_drawnAt) := goodIn_app (goodIn_of _ (by decide +kernel)) ggX6_window_X6_drawnAt
set_option maxRecDepth 20000 in
theorem ggX6_window_X6_mostLike : GoodIn wsX6_window wsX6_mostLike := goodIn_r _ [39, 18, 30, 40, 41, 8, 42, 43, 44, 45, 46, 47, 48, 49, 50, 51, 52, 53, 54, 55, 56, 57, 58, 59, 60, 61, 62, 63, 64, 65, 66, 67, 68, 69, 70, 71, 72, 73, 74, 75] (by decide +kernel) (by decide +kernel)
set_option maxRecDepth 20000 in
theorem gX6_window_X6_mostLike : GoodIn wsX6_window (wsV RX6 198 RX6 yX6_mostLike wsX6_mostLike) := goodIn_app (goodIn_of _ (by decide +kernel)) ggX6_window_X6_mostLike
theorem dX6_window_0 : decode cX6_window 0 = .ok (.aload_n 0, 1) := by decide +kernel
theorem dX6_window_1 : decode cX6_window 1 = .ok (.iload_n 1, 1) := by decide +kernel
theorem dX6_window_2 : decode cX6_window 2 = .ok (.invokevirtual 194, 3) := by decide +kernel
theorem dX6_window_5 : decode cX6_window 5 = .ok (.ifCond .ne 6, 3) := by decide +kernel
theorem dX6_window_8 : decode cX6_window 8 = .ok (.ldc 190, 2) := by decide +kernel
theorem dX6_window_10 : decode cX6_window 10 = .ok (.ireturn, 1) := by decide +kernel
theorem dX6_window_11 : decode cX6_window 11 = .ok (.iload_n 2, 1) := by decide +kernel
theorem dX6_window_12 : decode cX6_window 12 = .ok (.tableswitch 78 0 3 #[32, 42, 48, 54], 32) := by decide +kernel
theorem dX6_window_44 : decode cX6_window 44 = .ok (.aload_n 0, 1) := by decide +kernel
theorem dX6_window_45 : decode cX6_window 45 = .ok (.getfield 19, 3) := by decide +kernel
theorem dX6_window_48 : decode cX6_window 48 = .ok (.bipush 12, 2) := by decide +kernel
theorem dX6_window_50 : decode cX6_window 50 = .ok (.iload_n 1, 1) := by decide +kernel
theorem dX6_window_51 : decode cX6_window 51 = .ok (.iadd, 1) := by decide +kernel
theorem dX6_window_52 : decode cX6_window 52 = .ok (.iaload, 1) := by decide +kernel
theorem dX6_window_53 : decode cX6_window 53 = .ok (.ireturn, 1) := by decide +kernel
theorem dX6_window_54 : decode cX6_window 54 = .ok (.aload_n 0, 1) := by decide +kernel
theorem dX6_window_55 : decode cX6_window 55 = .ok (.iload_n 1, 1) := by decide +kernel
theorem dX6_window_56 : decode cX6_window 56 = .ok (.invokevirtual 169, 3) := by decide +kernel
theorem dX6_window_59 : decode cX6_window 59 = .ok (.ireturn, 1) := by decide +kernel
theorem dX6_window_60 : decode cX6_window 60 = .ok (.aload_n 0, 1) := by decide +kernel
theorem dX6_window_61 : decode cX6_window 61 = .ok (.iload_n 1, 1) := by decide +kernel
theorem dX6_window_62 : decode cX6_window 62 = .ok (.invokevirtual 175, 3) := by decide +kernel
theorem dX6_window_65 : decode cX6_window 65 = .ok (.ireturn, 1) := by decide +kernel
theorem dX6_window_66 : decode cX6_window 66 = .ok (.aload_n 0, 1) := by decide +kernel
theorem dX6_window_67 : decode cX6_window 67 = .ok (.iload_n 1, 1) := by decide +kernel
theorem dX6_window_68 : decode cX6_window 68 = .ok (.invokevirtual 175, 3) := by decide +kernel
theorem dX6_window_71 : decode cX6_window 71 = .ok (.ifCond .ne 7, 3) := by decide +kernel
theorem dX6_window_74 : decode cX6_window 74 = .ok (.iconst (-1), 1) := by decide +kernel
theorem dX6_window_75 : decode cX6_window 75 = .ok (.goto 14, 3) := by decide +kernel
theorem dX6_window_78 : decode cX6_window 78 = .ok (.aload_n 0, 1) := by decide +kernel
theorem dX6_window_79 : decode cX6_window 79 = .ok (.aload_n 0, 1) := by decide +kernel
theorem dX6_window_80 : decode cX6_window 80 = .ok (.iload_n 1, 1) := by decide +kernel
theorem dX6_window_81 : decode cX6_window 81 = .ok (.invokevirtual 175, 3) := by decide +kernel
theorem dX6_window_84 : decode cX6_window 84 = .ok (.ldc 197, 2) := by decide +kernel
theorem dX6_window_86 : decode cX6_window 86 = .ok (.invokevirtual 198, 3) := by decide +kernel
theorem dX6_window_89 : decode cX6_window 89 = .ok (.ireturn, 1) := by decide +kernel
theorem dX6_window_90 : decode cX6_window 90 = .ok (.ldc 84, 2) := by decide +kernel
theorem dX6_window_92 : decode cX6_window 92 = .ok (.ireturn, 1) := by decide +kernel
set_option maxRecDepth 20000 in
theorem ggX6_album_X6_in : GoodIn wsX6_album wsX6_in := goodIn_r _ [7] (by decide +kernel) (by decide +kernel)
set_option maxRecDepth 20000 in
theorem gX6_album_X6_in : GoodIn wsX6_album (va_wsS RX6 75 yX6_in wsX6_in) := goodIn_app (goodIn_of _ (by decide +kernel)) ggX6_album_X6_in
theorem dX6_album_0 : decode cX6_album 0 = .ok (.iload_n 2, 1) := by decide +kernel
theorem dX6_album_1 : decode cX6_album 1 = .ok (.i2l, 1) := by decide +kernel
theorem dX6_album_2 : decode cX6_album 2 = .ok (.lconst 0, 1) := by decide +kernel
theorem dX6_album_3 : decode cX6_album 3 = .ok (.ldc2_w 201, 3) := by decide +kernel
theorem dX6_album_6 : decode cX6_album 6 = .ok (.invokestatic 75, 3) := by decide +kernel
theorem dX6_album_9 : decode cX6_album 9 = .ok (.ifCond .ne 6, 3) := by decide +kernel
theorem dX6_album_12 : decode cX6_album 12 = .ok (.ldc 84, 2) := by decide +kernel
theorem dX6_album_14 : decode cX6_album 14 = .ok (.ireturn, 1) := by decide +kernel
theorem dX6_album_15 : decode cX6_album 15 = .ok (.iload_n 1, 1) := by decide +kernel
theorem dX6_album_16 : decode cX6_album 16 = .ok (.i2l, 1) := by decide +kernel
theorem dX6_album_17 : decode cX6_album 17 = .ok (.lconst 0, 1) := by decide +kernel
theorem dX6_album_18 : decode cX6_album 18 = .ok (.aload_n 0, 1) := by decide +kernel
theorem dX6_album_19 : decode cX6_album 19 = .ok (.getfield 19, 3) := by decide +kernel
theorem dX6_album_22 : decode cX6_album 22 = .ok (.bipush 21, 2) := by decide +kernel
theorem dX6_album_24 : decode cX6_album 24 = .ok (.iaload, 1) := by decide +kernel
theorem dX6_album_25 : decode cX6_album 25 = .ok (.iconst 1, 1) := by decide +kernel
theorem dX6_album_26 : decode cX6_album 26 = .ok (.isub, 1) := by decide +kernel
theorem dX6_album_27 : decode cX6_album 27 = .ok (.i2l, 1) := by decide +kernel
theorem dX6_album_28 : decode cX6_album 28 = .ok (.invokestatic 75, 3) := by decide +kernel
theorem dX6_album_31 : decode cX6_album 31 = .ok (.ifCond .eq 29, 3) := by decide +kernel
theorem dX6_album_34 : decode cX6_album 34 = .ok (.aload_n 0, 1) := by decide +kernel
theorem dX6_album_35 : decode cX6_album 35 = .ok (.getfield 19, 3) := by decide +kernel
theorem dX6_album_38 : decode cX6_album 38 = .ok (.bipush 22, 2) := by decide +kernel
theorem dX6_album_40 : decode cX6_album 40 = .ok (.iconst 3, 1) := by decide +kernel
theorem dX6_album_41 : decode cX6_album 41 = .ok (.aload_n 0, 1) := by decide +kernel
theorem dX6_album_42 : decode cX6_album 42 = .ok (.getfield 19, 3) := by decide +kernel
theorem dX6_album_45 : decode cX6_album 45 = .ok (.bipush 21, 2) := by decide +kernel
theorem dX6_album_47 : decode cX6_album 47 = .ok (.iaload, 1) := by decide +kernel
theorem dX6_album_48 : decode cX6_album 48 = .ok (.iconst 1, 1) := by decide +kernel
theorem dX6_album_49 : decode cX6_album 49 = .ok (.isub, 1) := by decide +kernel
theorem dX6_album_50 : decode cX6_album 50 = .ok (.iload_n 1, 1) := by decide +kernel
theorem dX6_album_51 : decode cX6_album 51 = .ok (.isub, 1) := by decide +kernel
theorem dX6_album_52 : decode cX6_album 52 = .ok (.imul, 1) := by decide +kernel
theorem dX6_album_53 : decode cX6_album 53 = .ok (.iadd, 1) := by decide +kernel
theorem dX6_album_54 : decode cX6_album 54 = .ok (.iload_n 2, 1) := by decide +kernel
theorem dX6_album_55 : decode cX6_album 55 = .ok (.iadd, 1) := by decide +kernel
theorem dX6_album_56 : decode cX6_album 56 = .ok (.iaload, 1) := by decide +kernel
theorem dX6_album_57 : decode cX6_album 57 = .ok (.goto 4, 3) := by decide +kernel
theorem dX6_album_60 : decode cX6_album 60 = .ok (.iconst (-1), 1) := by decide +kernel
theorem dX6_album_61 : decode cX6_album 61 = .ok (.ireturn, 1) := by decide +kernel
set_option maxRecDepth 20000 in
theorem ggX6_glass_X6_in : GoodIn wsX6_glass wsX6_in := goodIn_r _ [7] (by decide +kernel) (by decide +kernel)
set_option maxRecDepth 20000 in
theorem gX6_glass_X6_in : GoodIn wsX6_glass (va_wsS RX6 75 yX6_in wsX6_in) := goodIn_app (goodIn_of _ (by decide +kernel)) ggX6_glass_X6_in
theorem dX6_glass_0 : decode cX6_glass 0 = .ok (.iload_n 1, 1) := by decide +kernel
theorem dX6_glass_1 : decode cX6_glass 1 = .ok (.i2l, 1) := by decide +kernel
theorem dX6_glass_2 : decode cX6_glass 2 = .ok (.lconst 0, 1) := by decide +kernel
theorem dX6_glass_3 : decode cX6_glass 3 = .ok (.ldc2_w 203, 3) := by decide +kernel
theorem dX6_glass_6 : decode cX6_glass 6 = .ok (.invokestatic 75, 3) := by decide +kernel
theorem dX6_glass_9 : decode cX6_glass 9 = .ok (.ifCond .eq 15, 3) := by decide +kernel
theorem dX6_glass_12 : decode cX6_glass 12 = .ok (.aload_n 0, 1) := by decide +kernel
theorem dX6_glass_13 : decode cX6_glass 13 = .ok (.getfield 19, 3) := by decide +kernel
theorem dX6_glass_16 : decode cX6_glass 16 = .ok (.bipush 17, 2) := by decide +kernel
theorem dX6_glass_18 : decode cX6_glass 18 = .ok (.iload_n 1, 1) := by decide +kernel
theorem dX6_glass_19 : decode cX6_glass 19 = .ok (.iadd, 1) := by decide +kernel
theorem dX6_glass_20 : decode cX6_glass 20 = .ok (.iaload, 1) := by decide +kernel
theorem dX6_glass_21 : decode cX6_glass 21 = .ok (.goto 5, 3) := by decide +kernel
theorem dX6_glass_24 : decode cX6_glass 24 = .ok (.ldc 190, 2) := by decide +kernel
theorem dX6_glass_26 : decode cX6_glass 26 = .ok (.ireturn, 1) := by decide +kernel
theorem dX6_remember_0 : decode cX6_remember 0 = .ok (.aload_n 0, 1) := by decide +kernel
theorem dX6_remember_1 : decode cX6_remember 1 = .ok (.getfield 157, 3) := by decide +kernel
theorem dX6_remember_4 : decode cX6_remember 4 = .ok (.bipush 16, 2) := by decide +kernel
theorem dX6_remember_6 : decode cX6_remember 6 = .ok (.if_icmp .ne 44, 3) := by decide +kernel
theorem dX6_remember_9 : decode cX6_remember 9 = .ok (.bipush 82, 2) := by decide +kernel
theorem dX6_remember_11 : decode cX6_remember 11 = .ok (.istore_n 1, 1) := by decide +kernel
theorem dX6_remember_12 : decode cX6_remember 12 = .ok (.iload_n 1, 1) := by decide +kernel
theorem dX6_remember_13 : decode cX6_remember 13 = .ok (.sipush 1312, 3) := by decide +kernel
theorem dX6_remember_16 : decode cX6_remember 16 = .ok (.if_icmp .ge 24, 3) := by decide +kernel
theorem dX6_remember_19 : decode cX6_remember 19 = .ok (.aload_n 0, 1) := by decide +kernel
theorem dX6_remember_20 : decode cX6_remember 20 = .ok (.getfield 38, 3) := by decide +kernel
theorem dX6_remember_23 : decode cX6_remember 23 = .ok (.iload_n 1, 1) := by decide +kernel
theorem dX6_remember_24 : decode cX6_remember 24 = .ok (.bipush 82, 2) := by decide +kernel
theorem dX6_remember_26 : decode cX6_remember 26 = .ok (.isub, 1) := by decide +kernel
theorem dX6_remember_27 : decode cX6_remember 27 = .ok (.aload_n 0, 1) := by decide +kernel
theorem dX6_remember_28 : decode cX6_remember 28 = .ok (.getfield 38, 3) := by decide +kernel
theorem dX6_remember_31 : decode cX6_remember 31 = .ok (.iload_n 1, 1) := by decide +kernel
theorem dX6_remember_32 : decode cX6_remember 32 = .ok (.iaload, 1) := by decide +kernel
theorem dX6_remember_33 : decode cX6_remember 33 = .ok (.iastore, 1) := by decide +kernel
theorem dX6_remember_34 : decode cX6_remember 34 = .ok (.iinc 1 1, 3) := by decide +kernel
theorem dX6_remember_37 : decode cX6_remember 37 = .ok (.goto (-25), 3) := by decide +kernel
theorem dX6_remember_40 : decode cX6_remember 40 = .ok (.aload_n 0, 1) := by decide +kernel
theorem dX6_remember_41 : decode cX6_remember 41 = .ok (.dup, 1) := by decide +kernel
theorem dX6_remember_42 : decode cX6_remember 42 = .ok (.getfield 157, 3) := by decide +kernel
theorem dX6_remember_45 : decode cX6_remember 45 = .ok (.iconst 1, 1) := by decide +kernel
theorem dX6_remember_46 : decode cX6_remember 46 = .ok (.isub, 1) := by decide +kernel
theorem dX6_remember_47 : decode cX6_remember 47 = .ok (.putfield 157, 3) := by decide +kernel
theorem dX6_remember_50 : decode cX6_remember 50 = .ok (.iconst 0, 1) := by decide +kernel
theorem dX6_remember_51 : decode cX6_remember 51 = .ok (.istore_n 1, 1) := by decide +kernel
theorem dX6_remember_52 : decode cX6_remember 52 = .ok (.iload_n 1, 1) := by decide +kernel
theorem dX6_remember_53 : decode cX6_remember 53 = .ok (.bipush 82, 2) := by decide +kernel
theorem dX6_remember_55 : decode cX6_remember 55 = .ok (.if_icmp .ge 29, 3) := by decide +kernel
theorem dX6_remember_58 : decode cX6_remember 58 = .ok (.aload_n 0, 1) := by decide +kernel
theorem dX6_remember_59 : decode cX6_remember 59 = .ok (.getfield 38, 3) := by decide +kernel
theorem dX6_remember_62 : decode cX6_remember 62 = .ok (.bipush 82, 2) := by decide +kernel
theorem dX6_remember_64 : decode cX6_remember 64 = .ok (.aload_n 0, 1) := by decide +kernel
theorem dX6_remember_65 : decode cX6_remember 65 = .ok (.getfield 157, 3) := by decide +kernel
theorem dX6_remember_68 : decode cX6_remember 68 = .ok (.imul, 1) := by decide +kernel
theorem dX6_remember_69 : decode cX6_remember 69 = .ok (.iload_n 1, 1) := by decide +kernel
theorem dX6_remember_70 : decode cX6_remember 70 = .ok (.iadd, 1) := by decide +kernel
theorem dX6_remember_71 : decode cX6_remember 71 = .ok (.aload_n 0, 1) := by decide +kernel
theorem dX6_remember_72 : decode cX6_remember 72 = .ok (.getfield 19, 3) := by decide +kernel
theorem dX6_remember_75 : decode cX6_remember 75 = .ok (.iload_n 1, 1) := by decide +kernel
theorem dX6_remember_76 : decode cX6_remember 76 = .ok (.iaload, 1) := by decide +kernel
theorem dX6_remember_77 : decode cX6_remember 77 = .ok (.iastore, 1) := by decide +kernel
theorem dX6_remember_78 : decode cX6_remember 78 = .ok (.iinc 1 1, 3) := by decide +kernel
theorem dX6_remember_81 : decode cX6_remember 81 = .ok (.goto (-29), 3) := by decide +kernel
theorem dX6_remember_84 : decode cX6_remember 84 = .ok (.aload_n 0, 1) := by decide +kernel
theorem dX6_remember_85 : decode cX6_remember 85 = .ok (.dup, 1) := by decide +kernel
theorem dX6_remember_86 : decode cX6_remember 86 = .ok (.getfield 157, 3) := by decide +kernel
theorem dX6_remember_89 : decode cX6_remember 89 = .ok (.iconst 1, 1) := by decide +kernel
theorem dX6_remember_90 : decode cX6_remember 90 = .ok (.iadd, 1) := by decide +kernel
theorem dX6_remember_91 : decode cX6_remember 91 = .ok (.putfield 157, 3) := by decide +kernel
theorem dX6_remember_94 : decode cX6_remember 94 = .ok (.return_, 1) := by decide +kernel
set_option maxRecDepth 20000 in
theorem ggX6_stand_X6_isSitter : GoodIn wsX6_stand wsX6_isSitter := goodIn_r _ [8, 9, 10, 11, 7, 12, 28, 29, 30, 31, 32, 33, 34, 35, 36, 37, 38, 39, 40, 41, 42, 43, 44, 45, 46, 47, 48, 49, 50, 51, 52, 53, 54, 55, 56, 57, 58, 59, 60] (by decide +kernel) (by decide +kernel)
set_option maxRecDepth 20000 in
theorem gX6_stand_X6_isSitter : GoodIn wsX6_stand (wsV RX6 187 RX6 yX6_isSitter wsX6_isSitter) := goodIn_app (goodIn_of _ (by decide +kernel)) ggX6_stand_X6_isSitter
set_option maxRecDepth 20000 in
theorem ggX6_stand_X6_isWindow : GoodIn wsX6_stand wsX6_isWindow := goodIn_r _ [16, 17, 10, 11, 7, 12, 28, 29, 30, 31, 32, 33, 34, 35, 36, 37, 38, 39, 40, 41, 42, 43, 44, 45, 46, 47, 48, 49, 50, 51, 52, 53, 54, 55, 56, 57, 58, 59, 60] (by decide +kernel) (by decide +kernel)
set_option maxRecDepth 20000 in
theorem gX6_stand_X6_isWindow : GoodIn wsX6_stand (wsV RX6 194 RX6 yX6_isWindow wsX6_isWindow) := goodIn_app (goodIn_of _ (by decide +kernel)) ggX6_stand_X6_isWindow
set_option maxRecDepth 20000 in
theorem ggX6_stand_X6_whoIsAt : GoodIn wsX6_stand wsX6_whoIsAt := goodIn_r _ [21, 9, 3, 28, 29, 30, 31, 32, 33, 34, 35, 36, 37, 38, 39, 40, 41, 42, 43, 44, 45, 46, 47, 48, 49, 50, 51, 52, 53, 54, 55, 56, 57, 58, 59, 60] (by decide +kernel) (by decide +kernel)
set_option maxRecDepth 20000 in
theorem gX6_stand_X6_whoIsAt : GoodIn wsX6_stand (wsV RX6 169 RX6 yX6_whoIsAt wsX6_whoIsAt) := goodIn_app (goodIn_of _ (by decide +kernel)) ggX6_stand_X6_whoIsAt
set_option maxRecDepth 20000 in
theorem ggX6_stand_X6_remember : GoodIn wsX6_stand wsX6_remember := goodIn_r _ [25, 26, 27, 3, 28, 29, 30, 31, 32, 33, 34, 35, 36, 37, 38, 39, 40, 41, 42, 43, 44, 45, 46, 47, 48, 49, 50, 51, 52, 53, 54, 55, 56, 57, 58, 59, 60] (by decide +kernel) (by decide +kernel)
set_option maxRecDepth 20000 in
theorem gX6_stand_X6_remember : GoodIn wsX6_stand (wsV RX6 206 RX6 yX6_remember wsX6_remember) := goodIn_app (goodIn_of _ (by decide +kernel)) ggX6_stand_X6_remember
theorem dX6_stand_0 : decode cX6_stand 0 = .ok (.aload_n 0, 1) := by decide +kernel
theorem dX6_stand_1 : decode cX6_stand 1 = .ok (.iload_n 1, 1) := by decide +kernel
theorem dX6_stand_2 : decode cX6_stand 2 = .ok (.invokevirtual 187, 3) := by decide +kernel
theorem dX6_stand_5 : decode cX6_stand 5 = .ok (.ifCond .eq 11, 3) := by decide +kernel
theorem dX6_stand_8 : decode cX6_stand 8 = .ok (.aload_n 0, 1) := by decide +kernel
theorem dX6_stand_9 : decode cX6_stand 9 = .ok (.iload_n 2, 1) := by decide +kernel
theorem dX6_stand_10 : decode cX6_stand 10 = .ok (.invokevirtual 194, 3) := by decide +kernel
theorem dX6_stand_13 : decode cX6_stand 13 = .ok (.ifCond .ne 6, 3) := by decide +kernel
theorem dX6_stand_16 : decode cX6_stand 16 = .ok (.ldc 190, 2) := by decide +kernel
theorem dX6_stand_18 : decode cX6_stand 18 = .ok (.ireturn, 1) := by decide +kernel
theorem dX6_stand_19 : decode cX6_stand 19 = .ok (.aload_n 0, 1) := by decide +kernel
theorem dX6_stand_20 : decode cX6_stand 20 = .ok (.iload_n 2, 1) := by decide +kernel
theorem dX6_stand_21 : decode cX6_stand 21 = .ok (.invokevirtual 169, 3) := by decide +kernel
theorem dX6_stand_24 : decode cX6_stand 24 = .ok (.iconst (-1), 1) := by decide +kernel
theorem dX6_stand_25 : decode cX6_stand 25 = .ok (.if_icmp .eq 6, 3) := by decide +kernel
theorem dX6_stand_28 : decode cX6_stand 28 = .ok (.ldc 205, 2) := by decide +kernel
theorem dX6_stand_30 : decode cX6_stand 30 = .ok (.ireturn, 1) := by decide +kernel
theorem dX6_stand_31 : decode cX6_stand 31 = .ok (.aload_n 0, 1) := by decide +kernel
theorem dX6_stand_32 : decode cX6_stand 32 = .ok (.invokevirtual 206, 3) := by decide +kernel
theorem dX6_stand_35 : decode cX6_stand 35 = .ok (.aload_n 0, 1) := by decide +kernel
theorem dX6_stand_36 : decode cX6_stand 36 = .ok (.getfield 19, 3) := by decide +kernel
theorem dX6_stand_39 : decode cX6_stand 39 = .ok (.bipush 6, 2) := by decide +kernel
theorem dX6_stand_41 : decode cX6_stand 41 = .ok (.iload_n 1, 1) := by decide +kernel
theorem dX6_stand_42 : decode cX6_stand 42 = .ok (.iadd, 1) := by decide +kernel
theorem dX6_stand_43 : decode cX6_stand 43 = .ok (.iaload, 1) := by decide +kernel
theorem dX6_stand_44 : decode cX6_stand 44 = .ok (.istore_n 3, 1) := by decide +kernel
theorem dX6_stand_45 : decode cX6_stand 45 = .ok (.aload_n 0, 1) := by decide +kernel
theorem dX6_stand_46 : decode cX6_stand 46 = .ok (.getfield 19, 3) := by decide +kernel
theorem dX6_stand_49 : decode cX6_stand 49 = .ok (.bipush 6, 2) := by decide +kernel
theorem dX6_stand_51 : decode cX6_stand 51 = .ok (.iload_n 1, 1) := by decide +kernel
theorem dX6_stand_52 : decode cX6_stand 52 = .ok (.iadd, 1) := by decide +kernel
theorem dX6_stand_53 : decode cX6_stand 53 = .ok (.iload_n 2, 1) := by decide +kernel
theorem dX6_stand_54 : decode cX6_stand 54 = .ok (.iastore, 1) := by decide +kernel
theorem dX6_stand_55 : decode cX6_stand 55 = .ok (.iload_n 3, 1) := by decide +kernel
theorem dX6_stand_56 : decode cX6_stand 56 = .ok (.ireturn, 1) := by decide +kernel
set_option maxRecDepth 20000 in
theorem ggX6_go_X6_isSitter : GoodIn wsX6_go wsX6_isSitter := goodIn_r _ [8, 9, 10, 11, 7, 12, 19, 20, 21, 22, 23, 24, 25, 26, 27, 28, 29, 30, 31, 32, 33, 34, 35, 36, 37, 38, 39, 40, 41, 42, 43, 44, 45, 46, 47, 48, 49, 50, 51] (by decide +kernel) (by decide +kernel)
set_option maxRecDepth 20000 in
theorem gX6_go_X6_isSitter : GoodIn wsX6_go (wsV RX6 187 RX6 yX6_isSitter wsX6_isSitter) := goodIn_app (goodIn_of _ (by decide +kernel)) ggX6_go_X6_isSitter
set_option maxRecDepth 20000 in
theorem ggX6_go_X6_remember : GoodIn wsX6_go wsX6_remember := goodIn_r _ [16, 17, 18, 2, 19, 20, 21, 22, 23, 24, 25, 26, 27, 28, 29, 30, 31, 32, 33, 34, 35, 36, 37, 38, 39, 40, 41, 42, 43, 44, 45, 46, 47, 48, 49, 50, 51] (by decide +kernel) (by decide +kernel)
set_option maxRecDepth 20000 in
theorem gX6_go_X6_remember : GoodIn wsX6_go (wsV RX6 206 RX6 yX6_remember wsX6_remember) := goodIn_app (goodIn_of _ (by decide +kernel)) ggX6_go_X6_remember
theorem dX6_go_0 : decode cX6_go 0 = .ok (.aload_n 0, 1) := by decide +kernel
theorem dX6_go_1 : decode cX6_go 1 = .ok (.iload_n 1, 1) := by decide +kernel
theorem dX6_go_2 : decode cX6_go 2 = .ok (.invokevirtual 187, 3) := by decide +kernel
theorem dX6_go_5 : decode cX6_go 5 = .ok (.ifCond .ne 6, 3) := by decide +kernel
theorem dX6_go_8 : decode cX6_go 8 = .ok (.ldc 190, 2) := by decide +kernel
theorem dX6_go_10 : decode cX6_go 10 = .ok (.ireturn, 1) := by decide +kernel
theorem dX6_go_11 : decode cX6_go 11 = .ok (.aload_n 0, 1) := by decide +kernel
theorem dX6_go_12 : decode cX6_go 12 = .ok (.getfield 19, 3) := by decide +kernel
theorem dX6_go_15 : decode cX6_go 15 = .ok (.bipush 6, 2) := by decide +kernel
theorem dX6_go_17 : decode cX6_go 17 = .ok (.iload_n 1, 1) := by decide +kernel
theorem dX6_go_18 : decode cX6_go 18 = .ok (.iadd, 1) := by decide +kernel
theorem dX6_go_19 : decode cX6_go 19 = .ok (.iaload, 1) := by decide +kernel
theorem dX6_go_20 : decode cX6_go 20 = .ok (.istore_n 2, 1) := by decide +kernel
theorem dX6_go_21 : decode cX6_go 21 = .ok (.iload_n 2, 1) := by decide +kernel
theorem dX6_go_22 : decode cX6_go 22 = .ok (.iconst (-1), 1) := by decide +kernel
theorem dX6_go_23 : decode cX6_go 23 = .ok (.if_icmp .ne 6, 3) := by decide +kernel
theorem dX6_go_26 : decode cX6_go 26 = .ok (.ldc 205, 2) := by decide +kernel
theorem dX6_go_28 : decode cX6_go 28 = .ok (.ireturn, 1) := by decide +kernel
theorem dX6_go_29 : decode cX6_go 29 = .ok (.aload_n 0, 1) := by decide +kernel
theorem dX6_go_30 : decode cX6_go 30 = .ok (.invokevirtual 206, 3) := by decide +kernel
theorem dX6_go_33 : decode cX6_go 33 = .ok (.aload_n 0, 1) := by decide +kernel
theorem dX6_go_34 : decode cX6_go 34 = .ok (.getfield 19, 3) := by decide +kernel
theorem dX6_go_37 : decode cX6_go 37 = .ok (.bipush 6, 2) := by decide +kernel
theorem dX6_go_39 : decode cX6_go 39 = .ok (.iload_n 1, 1) := by decide +kernel
theorem dX6_go_40 : decode cX6_go 40 = .ok (.iadd, 1) := by decide +kernel
theorem dX6_go_41 : decode cX6_go 41 = .ok (.iconst (-1), 1) := by decide +kernel
theorem dX6_go_42 : decode cX6_go 42 = .ok (.iastore, 1) := by decide +kernel
theorem dX6_go_43 : decode cX6_go 43 = .ok (.iload_n 2, 1) := by decide +kernel
theorem dX6_go_44 : decode cX6_go 44 = .ok (.ireturn, 1) := by decide +kernel
set_option maxRecDepth 20000 in
theorem ggX6_lamp_X6_isWindow : GoodIn wsX6_lamp wsX6_isWindow := goodIn_r _ [9, 10, 11, 12, 8, 13, 20, 21, 22, 23, 24, 25, 26, 27, 28, 29, 30, 31, 32, 33, 34, 35, 36, 37, 38, 39, 40, 41, 42, 43, 44, 45, 46, 47, 48, 49, 50, 51, 52] (by decide +kernel) (by decide +kernel)
set_option maxRecDepth 20000 in
theorem gX6_lamp_X6_isWindow : GoodIn wsX6_lamp (wsV RX6 194 RX6 yX6_isWindow wsX6_isWindow) := goodIn_app (goodIn_of _ (by decide +kernel)) ggX6_lamp_X6_isWindow
set_option maxRecDepth 20000 in
theorem ggX6_lamp_X6_in : GoodIn wsX6_lamp wsX6_in := goodIn_r _ [13] (by decide +kernel) (by decide +kernel)
set_option maxRecDepth 20000 in
theorem gX6_lamp_X6_in : GoodIn wsX6_lamp (va_wsS RX6 75 yX6_in wsX6_in) := goodIn_app (goodIn_of _ (by decide +kernel)) ggX6_lamp_X6_in
set_option maxRecDepth 20000 in
theorem ggX6_lamp_X6_remember : GoodIn wsX6_lamp wsX6_remember := goodIn_r _ [17, 18, 19, 4, 20, 21, 22, 23, 24, 25, 26, 27, 28, 29, 30, 31, 32, 33, 34, 35, 36, 37, 38, 39, 40, 41, 42, 43, 44, 45, 46, 47, 48, 49, 50, 51, 52] (by decide +kernel) (by decide +kernel)
set_option maxRecDepth 20000 in
theorem gX6_lamp_X6_remember : GoodIn wsX6_lamp (wsV RX6 206 RX6 yX6_remember wsX6_remember) := goodIn_app (goodIn_of _ (by decide +kernel)) ggX6_lamp_X6_remember
theorem dX6_lamp_0 : decode cX6_lamp 0 = .ok (.aload_n 0, 1) := by decide +kernel
theorem dX6_lamp_1 : decode cX6_lamp 1 = .ok (.iload_n 1, 1) := by decide +kernel
theorem dX6_lamp_2 : decode cX6_lamp 2 = .ok (.invokevirtual 194, 3) := by decide +kernel
theorem dX6_lamp_5 : decode cX6_lamp 5 = .ok (.ifCond .ne 6, 3) := by decide +kernel
theorem dX6_lamp_8 : decode cX6_lamp 8 = .ok (.ldc 190, 2) := by decide +kernel
theorem dX6_lamp_10 : decode cX6_lamp 10 = .ok (.ireturn, 1) := by decide +kernel
theorem dX6_lamp_11 : decode cX6_lamp 11 = .ok (.iload_n 2, 1) := by decide +kernel
theorem dX6_lamp_12 : decode cX6_lamp 12 = .ok (.i2l, 1) := by decide +kernel
theorem dX6_lamp_13 : decode cX6_lamp 13 = .ok (.lconst 0, 1) := by decide +kernel
theorem dX6_lamp_14 : decode cX6_lamp 14 = .ok (.ldc2_w 164, 3) := by decide +kernel
theorem dX6_lamp_17 : decode cX6_lamp 17 = .ok (.invokestatic 75, 3) := by decide +kernel
theorem dX6_lamp_20 : decode cX6_lamp 20 = .ok (.ifCond .ne 6, 3) := by decide +kernel
theorem dX6_lamp_23 : decode cX6_lamp 23 = .ok (.ldc 84, 2) := by decide +kernel
theorem dX6_lamp_25 : decode cX6_lamp 25 = .ok (.ireturn, 1) := by decide +kernel
theorem dX6_lamp_26 : decode cX6_lamp 26 = .ok (.aload_n 0, 1) := by decide +kernel
theorem dX6_lamp_27 : decode cX6_lamp 27 = .ok (.invokevirtual 206, 3) := by decide +kernel
theorem dX6_lamp_30 : decode cX6_lamp 30 = .ok (.aload_n 0, 1) := by decide +kernel
theorem dX6_lamp_31 : decode cX6_lamp 31 = .ok (.getfield 19, 3) := by decide +kernel
theorem dX6_lamp_34 : decode cX6_lamp 34 = .ok (.bipush 12, 2) := by decide +kernel
theorem dX6_lamp_36 : decode cX6_lamp 36 = .ok (.iload_n 1, 1) := by decide +kernel
theorem dX6_lamp_37 : decode cX6_lamp 37 = .ok (.iadd, 1) := by decide +kernel
theorem dX6_lamp_38 : decode cX6_lamp 38 = .ok (.iaload, 1) := by decide +kernel
theorem dX6_lamp_39 : decode cX6_lamp 39 = .ok (.istore_n 3, 1) := by decide +kernel
theorem dX6_lamp_40 : decode cX6_lamp 40 = .ok (.aload_n 0, 1) := by decide +kernel
theorem dX6_lamp_41 : decode cX6_lamp 41 = .ok (.getfield 19, 3) := by decide +kernel
theorem dX6_lamp_44 : decode cX6_lamp 44 = .ok (.bipush 12, 2) := by decide +kernel
theorem dX6_lamp_46 : decode cX6_lamp 46 = .ok (.iload_n 1, 1) := by decide +kernel
theorem dX6_lamp_47 : decode cX6_lamp 47 = .ok (.iadd, 1) := by decide +kernel
theorem dX6_lamp_48 : decode cX6_lamp 48 = .ok (.iload_n 2, 1) := by decide +kernel
theorem dX6_lamp_49 : decode cX6_lamp 49 = .ok (.iastore, 1) := by decide +kernel
theorem dX6_lamp_50 : decode cX6_lamp 50 = .ok (.iload_n 3, 1) := by decide +kernel
theorem dX6_lamp_51 : decode cX6_lamp 51 = .ok (.ireturn, 1) := by decide +kernel
set_option maxRecDepth 20000 in
theorem ggX6_wind_X6_in : GoodIn wsX6_wind wsX6_in := goodIn_r _ [9] (by decide +kernel) (by decide +kernel)
set_option maxRecDepth 20000 in
theorem gX6_wind_X6_in : GoodIn wsX6_wind (va_wsS RX6 75 yX6_in wsX6_in) := goodIn_app (goodIn_of _ (by decide +kernel)) ggX6_wind_X6_in
set_option maxRecDepth 20000 in
theorem ggX6_wind_X6_isCapital : GoodIn wsX6_wind wsX6_isCapital := goodIn_r _ [13, 14, 21, 22, 23, 24, 25, 26, 27, 28, 29, 30, 31, 32, 33, 34, 35, 36, 37, 38, 39, 40, 41, 42, 43, 44, 45, 46, 47, 48, 49, 50, 51, 52, 53] (by decide +kernel) (by decide +kernel)
set_option maxRecDepth 20000 in
theorem gX6_wind_X6_isCapital : GoodIn wsX6_wind (wsV RX6 211 RX6 yX6_isCapital wsX6_isCapital) := goodIn_app (goodIn_of _ (by decide +kernel)) ggX6_wind_X6_isCapital
set_option maxRecDepth 20000 in
theorem ggX6_wind_X6_remember : GoodIn wsX6_wind wsX6_remember := goodIn_r _ [18, 19, 20, 5, 21, 22, 23, 24, 25, 26, 27, 28, 29, 30, 31, 32, 33, 34, 35, 36, 37, 38, 39, 40, 41, 42, 43, 44, 45, 46, 47, 48, 49, 50, 51, 52, 53] (by decide +kernel) (by decide +kernel)
set_option maxRecDepth 20000 in
theorem gX6_wind_X6_remember : GoodIn wsX6_wind (wsV RX6 206 RX6 yX6_remember wsX6_remember) := goodIn_app (goodIn_of _ (by decide +kernel)) ggX6_wind_X6_remember
theorem dX6_wind_0 : decode cX6_wind 0 = .ok (.iload_n 1, 1) := by decide +kernel
theorem dX6_wind_1 : decode cX6_wind 1 = .ok (.i2l, 1) := by decide +kernel
theorem dX6_wind_2 : decode cX6_wind 2 = .ok (.ldc2_w 209, 3) := by decide +kernel
theorem dX6_wind_5 : decode cX6_wind 5 = .ok (.ldc2_w 203, 3) := by decide +kernel
theorem dX6_wind_8 : decode cX6_wind 8 = .ok (.invokestatic 75, 3) := by decide +kernel
theorem dX6_wind_11 : decode cX6_wind 11 = .ok (.ifCond .ne 6, 3) := by decide +kernel
theorem dX6_wind_14 : decode cX6_wind 14 = .ok (.ldc 84, 2) := by decide +kernel
theorem dX6_wind_16 : decode cX6_wind 16 = .ok (.ireturn, 1) := by decide +kernel
theorem dX6_wind_17 : decode cX6_wind 17 = .ok (.aload_n 0, 1) := by decide +kernel
theorem dX6_wind_18 : decode cX6_wind 18 = .ok (.invokevirtual 211, 3) := by decide +kernel
theorem dX6_wind_21 : decode cX6_wind 21 = .ok (.ifCond .ne 6, 3) := by decide +kernel
theorem dX6_wind_24 : decode cX6_wind 24 = .ok (.ldc 205, 2) := by decide +kernel
theorem dX6_wind_26 : decode cX6_wind 26 = .ok (.ireturn, 1) := by decide +kernel
theorem dX6_wind_27 : decode cX6_wind 27 = .ok (.aload_n 0, 1) := by decide +kernel
theorem dX6_wind_28 : decode cX6_wind 28 = .ok (.invokevirtual 206, 3) := by decide +kernel
theorem dX6_wind_31 : decode cX6_wind 31 = .ok (.aload_n 0, 1) := by decide +kernel
theorem dX6_wind_32 : decode cX6_wind 32 = .ok (.getfield 19, 3) := by decide +kernel
theorem dX6_wind_35 : decode cX6_wind 35 = .ok (.iconst 1, 1) := by decide +kernel
theorem dX6_wind_36 : decode cX6_wind 36 = .ok (.iaload, 1) := by decide +kernel
theorem dX6_wind_37 : decode cX6_wind 37 = .ok (.istore_n 2, 1) := by decide +kernel
theorem dX6_wind_38 : decode cX6_wind 38 = .ok (.aload_n 0, 1) := by decide +kernel
theorem dX6_wind_39 : decode cX6_wind 39 = .ok (.getfield 19, 3) := by decide +kernel
theorem dX6_wind_42 : decode cX6_wind 42 = .ok (.iconst 1, 1) := by decide +kernel
theorem dX6_wind_43 : decode cX6_wind 43 = .ok (.iload_n 1, 1) := by decide +kernel
theorem dX6_wind_44 : decode cX6_wind 44 = .ok (.iastore, 1) := by decide +kernel
theorem dX6_wind_45 : decode cX6_wind 45 = .ok (.iload_n 2, 1) := by decide +kernel
theorem dX6_wind_46 : decode cX6_wind 46 = .ok (.iconst 3, 1) := by decide +kernel
theorem dX6_wind_47 : decode cX6_wind 47 = .ok (.iadd, 1) := by decide +kernel
theorem dX6_wind_48 : decode cX6_wind 48 = .ok (.ireturn, 1) := by decide +kernel
set_option maxRecDepth 20000 in
theorem ggX6_bats_X6_in : GoodIn wsX6_bats wsX6_in := goodIn_r _ [8] (by decide +kernel) (by decide +kernel)
set_option maxRecDepth 20000 in
theorem gX6_bats_X6_in : GoodIn wsX6_bats (va_wsS RX6 75 yX6_in wsX6_in) := goodIn_app (goodIn_of _ (by decide +kernel)) ggX6_bats_X6_in
set_option maxRecDepth 20000 in
theorem ggX6_bats_X6_isCapital : GoodIn wsX6_bats wsX6_isCapital := goodIn_r _ [12, 13, 20, 21, 22, 23, 24, 25, 26, 27, 28, 29, 30, 31, 32, 33, 34, 35, 36, 37, 38, 39, 40, 41, 42, 43, 44, 45, 46, 47, 48, 49, 50, 51, 52] (by decide +kernel) (by decide +kernel)
set_option maxRecDepth 20000 in
theorem gX6_bats_X6_isCapital : GoodIn wsX6_bats (wsV RX6 211 RX6 yX6_isCapital wsX6_isCapital) := goodIn_app (goodIn_of _ (by decide +kernel)) ggX6_bats_X6_isCapital
set_option maxRecDepth 20000 in
theorem ggX6_bats_X6_remember : GoodIn wsX6_bats wsX6_remember := goodIn_r _ [17, 18, 19, 4, 20, 21, 22, 23, 24, 25, 26, 27, 28, 29, 30, 31, 32, 33, 34, 35, 36, 37, 38, 39, 40, 41, 42, 43, 44, 45, 46, 47, 48, 49, 50, 51, 52] (by decide +kernel) (by decide +kernel)
set_option maxRecDepth 20000 in
theorem gX6_bats_X6_remember : GoodIn wsX6_bats (wsV RX6 206 RX6 yX6_remember wsX6_remember) := goodIn_app (goodIn_of _ (by decide +kernel)) ggX6_bats_X6_remember
theorem dX6_bats_0 : decode cX6_bats 0 = .ok (.iload_n 1, 1) := by decide +kernel
theorem dX6_bats_1 : decode cX6_bats 1 = .ok (.i2l, 1) := by decide +kernel
theorem dX6_bats_2 : decode cX6_bats 2 = .ok (.lconst 0, 1) := by decide +kernel
theorem dX6_bats_3 : decode cX6_bats 3 = .ok (.ldc2_w 215, 3) := by decide +kernel
theorem dX6_bats_6 : decode cX6_bats 6 = .ok (.invokestatic 75, 3) := by decide +kernel
theorem dX6_bats_9 : decode cX6_bats 9 = .ok (.ifCond .ne 6, 3) := by decide +kernel
theorem dX6_bats_12 : decode cX6_bats 12 = .ok (.ldc 84, 2) := by decide +kernel
theorem dX6_bats_14 : decode cX6_bats 14 = .ok (.ireturn, 1) := by decide +kernel
theorem dX6_bats_15 : decode cX6_bats 15 = .ok (.aload_n 0, 1) := by decide +kernel
theorem dX6_bats_16 : decode cX6_bats 16 = .ok (.invokevirtual 211, 3) := by decide +kernel
theorem dX6_bats_19 : decode cX6_bats 19 = .ok (.ifCond .ne 6, 3) := by decide +kernel
theorem dX6_bats_22 : decode cX6_bats 22 = .ok (.ldc 205, 2) := by decide +kernel
theorem dX6_bats_24 : decode cX6_bats 24 = .ok (.ireturn, 1) := by decide +kernel
theorem dX6_bats_25 : decode cX6_bats 25 = .ok (.aload_n 0, 1) := by decide +kernel
theorem dX6_bats_26 : decode cX6_bats 26 = .ok (.invokevirtual 206, 3) := by decide +kernel
theorem dX6_bats_29 : decode cX6_bats 29 = .ok (.aload_n 0, 1) := by decide +kernel
theorem dX6_bats_30 : decode cX6_bats 30 = .ok (.getfield 19, 3) := by decide +kernel
theorem dX6_bats_33 : decode cX6_bats 33 = .ok (.iconst 2, 1) := by decide +kernel
theorem dX6_bats_34 : decode cX6_bats 34 = .ok (.iaload, 1) := by decide +kernel
theorem dX6_bats_35 : decode cX6_bats 35 = .ok (.istore_n 2, 1) := by decide +kernel
theorem dX6_bats_36 : decode cX6_bats 36 = .ok (.aload_n 0, 1) := by decide +kernel
theorem dX6_bats_37 : decode cX6_bats 37 = .ok (.getfield 19, 3) := by decide +kernel
theorem dX6_bats_40 : decode cX6_bats 40 = .ok (.iconst 2, 1) := by decide +kernel
theorem dX6_bats_41 : decode cX6_bats 41 = .ok (.iload_n 1, 1) := by decide +kernel
theorem dX6_bats_42 : decode cX6_bats 42 = .ok (.iastore, 1) := by decide +kernel
theorem dX6_bats_43 : decode cX6_bats 43 = .ok (.iload_n 2, 1) := by decide +kernel
theorem dX6_bats_44 : decode cX6_bats 44 = .ok (.ireturn, 1) := by decide +kernel
set_option maxRecDepth 20000 in
theorem ggX6_eye_X6_in : GoodIn wsX6_eye wsX6_in := goodIn_r _ [8] (by decide +kernel) (by decide +kernel)
set_option maxRecDepth 20000 in
theorem gX6_eye_X6_in : GoodIn wsX6_eye (va_wsS RX6 75 yX6_in wsX6_in) := goodIn_app (goodIn_of _ (by decide +kernel)) ggX6_eye_X6_in
set_option maxRecDepth 20000 in
theorem ggX6_eye_X6_isCapital : GoodIn wsX6_eye wsX6_isCapital := goodIn_r _ [12, 13, 20, 21, 22, 23, 24, 25, 26, 27, 28, 29, 30, 31, 32, 33, 34, 35, 36, 37, 38, 39, 40, 41, 42, 43, 44, 45, 46, 47, 48, 49, 50, 51, 52] (by decide +kernel) (by decide +kernel)
set_option maxRecDepth 20000 in
theorem gX6_eye_X6_isCapital : GoodIn wsX6_eye (wsV RX6 211 RX6 yX6_isCapital wsX6_isCapital) := goodIn_app (goodIn_of _ (by decide +kernel)) ggX6_eye_X6_isCapital
set_option maxRecDepth 20000 in
theorem ggX6_eye_X6_remember : GoodIn wsX6_eye wsX6_remember := goodIn_r _ [17, 18, 19, 4, 20, 21, 22, 23, 24, 25, 26, 27, 28, 29, 30, 31, 32, 33, 34, 35, 36, 37, 38, 39, 40, 41, 42, 43, 44, 45, 46, 47, 48, 49, 50, 51, 52] (by decide +kernel) (by decide +kernel)
set_option maxRecDepth 20000 in
theorem gX6_eye_X6_remember : GoodIn wsX6_eye (wsV RX6 206 RX6 yX6_remember wsX6_remember) := goodIn_app (goodIn_of _ (by decide +kernel)) ggX6_eye_X6_remember
theorem dX6_eye_0 : decode cX6_eye 0 = .ok (.iload_n 1, 1) := by decide +kernel
theorem dX6_eye_1 : decode cX6_eye 1 = .ok (.i2l, 1) := by decide +kernel
theorem dX6_eye_2 : decode cX6_eye 2 = .ok (.lconst 0, 1) := by decide +kernel
theorem dX6_eye_3 : decode cX6_eye 3 = .ok (.ldc2_w 217, 3) := by decide +kernel
theorem dX6_eye_6 : decode cX6_eye 6 = .ok (.invokestatic 75, 3) := by decide +kernel
theorem dX6_eye_9 : decode cX6_eye 9 = .ok (.ifCond .ne 6, 3) := by decide +kernel
theorem dX6_eye_12 : decode cX6_eye 12 = .ok (.ldc 84, 2) := by decide +kernel
theorem dX6_eye_14 : decode cX6_eye 14 = .ok (.ireturn, 1) := by decide +kernel
theorem dX6_eye_15 : decode cX6_eye 15 = .ok (.aload_n 0, 1) := by decide +kernel
theorem dX6_eye_16 : decode cX6_eye 16 = .ok (.invokevirtual 211, 3) := by decide +kernel
theorem dX6_eye_19 : decode cX6_eye 19 = .ok (.ifCond .ne 6, 3) := by decide +kernel
theorem dX6_eye_22 : decode cX6_eye 22 = .ok (.ldc 205, 2) := by decide +kernel
theorem dX6_eye_24 : decode cX6_eye 24 = .ok (.ireturn, 1) := by decide +kernel
theorem dX6_eye_25 : decode cX6_eye 25 = .ok (.aload_n 0, 1) := by decide +kernel
theorem dX6_eye_26 : decode cX6_eye 26 = .ok (.invokevirtual 206, 3) := by decide +kernel
theorem dX6_eye_29 : decode cX6_eye 29 = .ok (.aload_n 0, 1) := by decide +kernel
theorem dX6_eye_30 : decode cX6_eye 30 = .ok (.getfield 19, 3) := by decide +kernel
theorem dX6_eye_33 : decode cX6_eye 33 = .ok (.iconst 3, 1) := by decide +kernel
theorem dX6_eye_34 : decode cX6_eye 34 = .ok (.dup2, 1) := by decide +kernel
theorem dX6_eye_35 : decode cX6_eye 35 = .ok (.iaload, 1) := by decide +kernel
theorem dX6_eye_36 : decode cX6_eye 36 = .ok (.iconst 1, 1) := by decide +kernel
theorem dX6_eye_37 : decode cX6_eye 37 = .ok (.iload_n 1, 1) := by decide +kernel
theorem dX6_eye_38 : decode cX6_eye 38 = .ok (.ishl, 1) := by decide +kernel
theorem dX6_eye_39 : decode cX6_eye 39 = .ok (.ior, 1) := by decide +kernel
theorem dX6_eye_40 : decode cX6_eye 40 = .ok (.iastore, 1) := by decide +kernel
theorem dX6_eye_41 : decode cX6_eye 41 = .ok (.aload_n 0, 1) := by decide +kernel
theorem dX6_eye_42 : decode cX6_eye 42 = .ok (.getfield 19, 3) := by decide +kernel
theorem dX6_eye_45 : decode cX6_eye 45 = .ok (.iconst 3, 1) := by decide +kernel
theorem dX6_eye_46 : decode cX6_eye 46 = .ok (.iaload, 1) := by decide +kernel
theorem dX6_eye_47 : decode cX6_eye 47 = .ok (.ireturn, 1) := by decide +kernel
set_option maxRecDepth 20000 in
theorem ggX6_rain_X6_isCapital : GoodIn wsX6_rain wsX6_isCapital := goodIn_r _ [7, 8, 15, 16, 17, 18, 19, 20, 21, 22, 23, 24, 25, 26, 27, 28, 29, 30, 31, 32, 33, 34, 35, 36, 37, 38, 39, 40, 41, 42, 43, 44, 45, 46, 47] (by decide +kernel) (by decide +kernel)
set_option maxRecDepth 20000 in
theorem gX6_rain_X6_isCapital : GoodIn wsX6_rain (wsV RX6 211 RX6 yX6_isCapital wsX6_isCapital) := goodIn_app (goodIn_of _ (by decide +kernel)) ggX6_rain_X6_isCapital
set_option maxRecDepth 20000 in
theorem ggX6_rain_X6_remember : GoodIn wsX6_rain wsX6_remember := goodIn_r _ [12, 13, 14, 2, 15, 16, 17, 18, 19, 20, 21, 22, 23, 24, 25, 26, 27, 28, 29, 30, 31, 32, 33, 34, 35, 36, 37, 38, 39, 40, 41, 42, 43, 44, 45, 46, 47] (by decide +kernel) (by decide +kernel)
set_option maxRecDepth 20000 in
theorem gX6_rain_X6_remember : GoodIn wsX6_rain (wsV RX6 206 RX6 yX6_remember wsX6_remember) := goodIn_app (goodIn_of _ (by decide +kernel)) ggX6_rain_X6_remember
theorem dX6_rain_0 : decode cX6_rain 0 = .ok (.aload_n 0, 1) := by decide +kernel
theorem dX6_rain_1 : decode cX6_rain 1 = .ok (.invokevirtual 211, 3) := by decide +kernel
theorem dX6_rain_4 : decode cX6_rain 4 = .ok (.ifCond .ne 6, 3) := by decide +kernel
theorem dX6_rain_7 : decode cX6_rain 7 = .ok (.ldc 205, 2) := by decide +kernel
theorem dX6_rain_9 : decode cX6_rain 9 = .ok (.ireturn, 1) := by decide +kernel
theorem dX6_rain_10 : decode cX6_rain 10 = .ok (.aload_n 0, 1) := by decide +kernel
theorem dX6_rain_11 : decode cX6_rain 11 = .ok (.invokevirtual 206, 3) := by decide +kernel
theorem dX6_rain_14 : decode cX6_rain 14 = .ok (.aload_n 0, 1) := by decide +kernel
theorem dX6_rain_15 : decode cX6_rain 15 = .ok (.getfield 19, 3) := by decide +kernel
theorem dX6_rain_18 : decode cX6_rain 18 = .ok (.iconst 4, 1) := by decide +kernel
theorem dX6_rain_19 : decode cX6_rain 19 = .ok (.iaload, 1) := by decide +kernel
theorem dX6_rain_20 : decode cX6_rain 20 = .ok (.istore_n 2, 1) := by decide +kernel
theorem dX6_rain_21 : decode cX6_rain 21 = .ok (.aload_n 0, 1) := by decide +kernel
theorem dX6_rain_22 : decode cX6_rain 22 = .ok (.getfield 19, 3) := by decide +kernel
theorem dX6_rain_25 : decode cX6_rain 25 = .ok (.iconst 4, 1) := by decide +kernel
theorem dX6_rain_26 : decode cX6_rain 26 = .ok (.iload_n 1, 1) := by decide +kernel
theorem dX6_rain_27 : decode cX6_rain 27 = .ok (.ifCond .eq 7, 3) := by decide +kernel
theorem dX6_rain_30 : decode cX6_rain 30 = .ok (.iconst 1, 1) := by decide +kernel
theorem dX6_rain_31 : decode cX6_rain 31 = .ok (.goto 4, 3) := by decide +kernel
theorem dX6_rain_34 : decode cX6_rain 34 = .ok (.iconst 0, 1) := by decide +kernel
theorem dX6_rain_35 : decode cX6_rain 35 = .ok (.iastore, 1) := by decide +kernel
theorem dX6_rain_36 : decode cX6_rain 36 = .ok (.iload_n 2, 1) := by decide +kernel
theorem dX6_rain_37 : decode cX6_rain 37 = .ok (.ireturn, 1) := by decide +kernel
set_option maxRecDepth 20000 in
theorem ggX6_smoke_X6_isWindow : GoodIn wsX6_smoke wsX6_isWindow := goodIn_r _ [7, 8, 9, 10, 6, 11, 18, 19, 20, 21, 22, 23, 24, 25, 26, 27, 28, 29, 30, 31, 32, 33, 34, 35, 36, 37, 38, 39, 40, 41, 42, 43, 44, 45, 46, 47, 48, 49, 50] (by decide +kernel) (by decide +kernel)
set_option maxRecDepth 20000 in
theorem gX6_smoke_X6_isWindow : GoodIn wsX6_smoke (wsV RX6 194 RX6 yX6_isWindow wsX6_isWindow) := goodIn_app (goodIn_of _ (by decide +kernel)) ggX6_smoke_X6_isWindow
set_option maxRecDepth 20000 in
theorem ggX6_smoke_X6_remember : GoodIn wsX6_smoke wsX6_remember := goodIn_r _ [15, 16, 17, 2, 18, 19, 20, 21, 22, 23, 24, 25, 26, 27, 28, 29, 30, 31, 32, 33, 34, 35, 36, 37, 38, 39, 40, 41, 42, 43, 44, 45, 46, 47, 48, 49, 50] (by decide +kernel) (by decide +kernel)
set_option maxRecDepth 20000 in
theorem gX6_smoke_X6_remember : GoodIn wsX6_smoke (wsV RX6 206 RX6 yX6_remember wsX6_remember) := goodIn_app (goodIn_of _ (by decide +kernel)) ggX6_smoke_X6_remember
theorem dX6_smoke_0 : decode cX6_smoke 0 = .ok (.aload_n 0, 1) := by decide +kernel
theorem dX6_smoke_1 : decode cX6_smoke 1 = .ok (.iload_n 1, 1) := by decide +kernel
theorem dX6_smoke_2 : decode cX6_smoke 2 = .ok (.invokevirtual 194, 3) := by decide +kernel
theorem dX6_smoke_5 : decode cX6_smoke 5 = .ok (.ifCond .ne 6, 3) := by decide +kernel
theorem dX6_smoke_8 : decode cX6_smoke 8 = .ok (.ldc 190, 2) := by decide +kernel
theorem dX6_smoke_10 : decode cX6_smoke 10 = .ok (.ireturn, 1) := by decide +kernel
theorem dX6_smoke_11 : decode cX6_smoke 11 = .ok (.aload_n 0, 1) := by decide +kernel
theorem dX6_smoke_12 : decode cX6_smoke 12 = .ok (.invokevirtual 206, 3) := by decide +kernel
theorem dX6_smoke_15 : decode cX6_smoke 15 = .ok (.aload_n 0, 1) := by decide +kernel
theorem dX6_smoke_16 : decode cX6_smoke 16 = .ok (.getfield 19, 3) := by decide +kernel
theorem dX6_smoke_19 : decode cX6_smoke 19 = .ok (.iconst 5, 1) := by decide +kernel
theorem dX6_smoke_20 : decode cX6_smoke 20 = .ok (.iaload, 1) := by decide +kernel
theorem dX6_smoke_21 : decode cX6_smoke 21 = .ok (.iload_n 1, 1) := by decide +kernel
theorem dX6_smoke_22 : decode cX6_smoke 22 = .ok (.ishr, 1) := by decide +kernel
theorem dX6_smoke_23 : decode cX6_smoke 23 = .ok (.iconst 1, 1) := by decide +kernel
theorem dX6_smoke_24 : decode cX6_smoke 24 = .ok (.iand, 1) := by decide +kernel
theorem dX6_smoke_25 : decode cX6_smoke 25 = .ok (.istore_n 3, 1) := by decide +kernel
theorem dX6_smoke_26 : decode cX6_smoke 26 = .ok (.aload_n 0, 1) := by decide +kernel
theorem dX6_smoke_27 : decode cX6_smoke 27 = .ok (.getfield 19, 3) := by decide +kernel
theorem dX6_smoke_30 : decode cX6_smoke 30 = .ok (.iconst 5, 1) := by decide +kernel
theorem dX6_smoke_31 : decode cX6_smoke 31 = .ok (.iload_n 2, 1) := by decide +kernel
theorem dX6_smoke_32 : decode cX6_smoke 32 = .ok (.ifCond .eq 16, 3) := by decide +kernel
theorem dX6_smoke_35 : decode cX6_smoke 35 = .ok (.aload_n 0, 1) := by decide +kernel
theorem dX6_smoke_36 : decode cX6_smoke 36 = .ok (.getfield 19, 3) := by decide +kernel
theorem dX6_smoke_39 : decode cX6_smoke 39 = .ok (.iconst 5, 1) := by decide +kernel
theorem dX6_smoke_40 : decode cX6_smoke 40 = .ok (.iaload, 1) := by decide +kernel
theorem dX6_smoke_41 : decode cX6_smoke 41 = .ok (.iconst 1, 1) := by decide +kernel
theorem dX6_smoke_42 : decode cX6_smoke 42 = .ok (.iload_n 1, 1) := by decide +kernel
theorem dX6_smoke_43 : decode cX6_smoke 43 = .ok (.ishl, 1) := by decide +kernel
theorem dX6_smoke_44 : decode cX6_smoke 44 = .ok (.ior, 1) := by decide +kernel
theorem dX6_smoke_45 : decode cX6_smoke 45 = .ok (.goto 15, 3) := by decide +kernel
theorem dX6_smoke_48 : decode cX6_smoke 48 = .ok (.aload_n 0, 1) := by decide +kernel
theorem dX6_smoke_49 : decode cX6_smoke 49 = .ok (.getfield 19, 3) := by decide +kernel
theorem dX6_smoke_52 : decode cX6_smoke 52 = .ok (.iconst 5, 1) := by decide +kernel
theorem dX6_smoke_53 : decode cX6_smoke 53 = .ok (.iaload, 1) := by decide +kernel
theorem dX6_smoke_54 : decode cX6_smoke 54 = .ok (.iconst 1, 1) := by decide +kernel
theorem dX6_smoke_55 : decode cX6_smoke 55 = .ok (.iload_n 1, 1) := by decide +kernel
theorem dX6_smoke_56 : decode cX6_smoke 56 = .ok (.ishl, 1) := by decide +kernel
theorem dX6_smoke_57 : decode cX6_smoke 57 = .ok (.iconst (-1), 1) := by decide +kernel
theorem dX6_smoke_58 : decode cX6_smoke 58 = .ok (.ixor, 1) := by decide +kernel
theorem dX6_smoke_59 : decode cX6_smoke 59 = .ok (.iand, 1) := by decide +kernel
theorem dX6_smoke_60 : decode cX6_smoke 60 = .ok (.iastore, 1) := by decide +kernel
theorem dX6_smoke_61 : decode cX6_smoke 61 = .ok (.iload_n 3, 1) := by decide +kernel
theorem dX6_smoke_62 : decode cX6_smoke 62 = .ok (.ireturn, 1) := by decide +kernel
set_option maxRecDepth 20000 in
theorem ggX6_press_X6_in : GoodIn wsX6_press wsX6_in := goodIn_r _ [7] (by decide +kernel) (by decide +kernel)
set_option maxRecDepth 20000 in
theorem gX6_press_X6_in : GoodIn wsX6_press (va_wsS RX6 75 yX6_in wsX6_in) := goodIn_app (goodIn_of _ (by decide +kernel)) ggX6_press_X6_in
set_option maxRecDepth 20000 in
theorem ggX6_press_X6_isWindow : GoodIn wsX6_press wsX6_isWindow := goodIn_r _ [11, 12, 4, 5, 6, 7, 41, 42, 43, 44, 45, 46, 47, 48, 49, 50, 51, 52, 53, 54, 55, 56, 57, 58, 59, 60, 61, 62, 63, 64, 65, 66, 67, 68, 69, 70, 71, 72, 73] (by decide +kernel) (by decide +kernel)
set_option maxRecDepth 20000 in
theorem gX6_press_X6_isWindow : GoodIn wsX6_press (wsV RX6 194 RX6 yX6_isWindow wsX6_isWindow) := goodIn_app (goodIn_of _ (by decide +kernel)) ggX6_press_X6_isWindow
set_option maxRecDepth 20000 in
theorem ggX6_press_X6_remember : GoodIn wsX6_press wsX6_remember := goodIn_r _ [16, 17, 18, 3, 41, 42, 43, 44, 45, 46, 47, 48, 49, 50, 51, 52, 53, 54, 55, 56, 57, 58, 59, 60, 61, 62, 63, 64, 65, 66, 67, 68, 69, 70, 71, 72, 73] (by decide +kernel) (by decide +kernel)
set_option maxRecDepth 20000 in
theorem gX6_press_X6_remember : GoodIn wsX6_press (wsV RX6 206 RX6 yX6_remember wsX6_remember) := goodIn_app (goodIn_of _ (by decide +kernel)) ggX6_press_X6_remember
set_option maxRecDepth 20000 in
theorem ggX6_press_X6_drawnAt : GoodIn wsX6_press wsX6_drawnAt := goodIn_r _ [22, 3, 23, 24, 25, 6, 26, 27, 28, 29, 30, 31, 32, 33, 34, 35, 36, 37, 38, 39, 40, 4, 5, 7, 41, 42, 43, 44, 45, 46, 47, 48, 49, 50, 51, 52, 53, 54, 55, 56, 57, 58, 59, 60, 61, 62, 63, 64, 65, 66, 67, 68, 69, 70, 71, 72, 73] (by decide +kernel) (by decide +kernel)
set_option maxRecDepth 20000 in
theorem gX6_press_X6_drawnAt : GoodIn wsX6_press (wsV RX6 175 RX6 yX6_drawnAt wsX6_drawnAt) := goodIn_app (goodIn_of _ (by decide +kernel)) ggX6_press_X6_drawnAt
theorem dX6_press_0 : decode cX6_press 0 = .ok (.iload_n 1, 1) := by decide +kernel
theorem dX6_press_1 : decode cX6_press 1 = .ok (.i2l, 1) := by decide +kernel
theorem dX6_press_2 : decode cX6_press 2 = .ok (.lconst 0, 1) := by decide +kernel
theorem dX6_press_3 : decode cX6_press 3 = .ok (.ldc2_w 203, 3) := by decide +kernel
theorem dX6_press_6 : decode cX6_press 6 = .ok (.invokestatic 75, 3) := by decide +kernel
theorem dX6_press_9 : decode cX6_press 9 = .ok (.ifCond .eq 11, 3) := by decide +kernel
theorem dX6_press_12 : decode cX6_press 12 = .ok (.aload_n 0, 1) := by decide +kernel
theorem dX6_press_13 : decode cX6_press 13 = .ok (.iload_n 2, 1) := by decide +kernel
theorem dX6_press_14 : decode cX6_press 14 = .ok (.invokevirtual 194, 3) := by decide +kernel
theorem dX6_press_17 : decode cX6_press 17 = .ok (.ifCond .ne 6, 3) := by decide +kernel
theorem dX6_press_20 : decode cX6_press 20 = .ok (.ldc 190, 2) := by decide +kernel
theorem dX6_press_22 : decode cX6_press 22 = .ok (.ireturn, 1) := by decide +kernel
theorem dX6_press_23 : decode cX6_press 23 = .ok (.aload_n 0, 1) := by decide +kernel
theorem dX6_press_24 : decode cX6_press 24 = .ok (.invokevirtual 206, 3) := by decide +kernel
theorem dX6_press_27 : decode cX6_press 27 = .ok (.aload_n 0, 1) := by decide +kernel
theorem dX6_press_28 : decode cX6_press 28 = .ok (.getfield 19, 3) := by decide +kernel
theorem dX6_press_31 : decode cX6_press 31 = .ok (.bipush 17, 2) := by decide +kernel
theorem dX6_press_33 : decode cX6_press 33 = .ok (.iload_n 1, 1) := by decide +kernel
theorem dX6_press_34 : decode cX6_press 34 = .ok (.iadd, 1) := by decide +kernel
theorem dX6_press_35 : decode cX6_press 35 = .ok (.iaload, 1) := by decide +kernel
theorem dX6_press_36 : decode cX6_press 36 = .ok (.istore_n 3, 1) := by decide +kernel
theorem dX6_press_37 : decode cX6_press 37 = .ok (.aload_n 0, 1) := by decide +kernel
theorem dX6_press_38 : decode cX6_press 38 = .ok (.getfield 19, 3) := by decide +kernel
theorem dX6_press_41 : decode cX6_press 41 = .ok (.bipush 17, 2) := by decide +kernel
theorem dX6_press_43 : decode cX6_press 43 = .ok (.iload_n 1, 1) := by decide +kernel
theorem dX6_press_44 : decode cX6_press 44 = .ok (.iadd, 1) := by decide +kernel
theorem dX6_press_45 : decode cX6_press 45 = .ok (.aload_n 0, 1) := by decide +kernel
theorem dX6_press_46 : decode cX6_press 46 = .ok (.iload_n 2, 1) := by decide +kernel
theorem dX6_press_47 : decode cX6_press 47 = .ok (.invokevirtual 175, 3) := by decide +kernel
theorem dX6_press_50 : decode cX6_press 50 = .ok (.iastore, 1) := by decide +kernel
theorem dX6_press_51 : decode cX6_press 51 = .ok (.iload_n 3, 1) := by decide +kernel
theorem dX6_press_52 : decode cX6_press 52 = .ok (.ireturn, 1) := by decide +kernel
theorem dX6_keepsOne_0 : decode cX6_keepsOne 0 = .ok (.aload_n 0, 1) := by decide +kernel
theorem dX6_keepsOne_1 : decode cX6_keepsOne 1 = .ok (.getfield 19, 3) := by decide +kernel
theorem dX6_keepsOne_4 : decode cX6_keepsOne 4 = .ok (.bipush 21, 2) := by decide +kernel
theorem dX6_keepsOne_6 : decode cX6_keepsOne 6 = .ok (.iaload, 1) := by decide +kernel
theorem dX6_keepsOne_7 : decode cX6_keepsOne 7 = .ok (.bipush 20, 2) := by decide +kernel
theorem dX6_keepsOne_9 : decode cX6_keepsOne 9 = .ok (.if_icmp .ne 52, 3) := by decide +kernel
theorem dX6_keepsOne_12 : decode cX6_keepsOne 12 = .ok (.iconst 0, 1) := by decide +kernel
theorem dX6_keepsOne_13 : decode cX6_keepsOne 13 = .ok (.istore 4, 2) := by decide +kernel
theorem dX6_keepsOne_15 : decode cX6_keepsOne 15 = .ok (.iload 4, 2) := by decide +kernel
theorem dX6_keepsOne_17 : decode cX6_keepsOne 17 = .ok (.bipush 57, 2) := by decide +kernel
theorem dX6_keepsOne_19 : decode cX6_keepsOne 19 = .ok (.if_icmp .ge 31, 3) := by decide +kernel
theorem dX6_keepsOne_22 : decode cX6_keepsOne 22 = .ok (.aload_n 0, 1) := by decide +kernel
theorem dX6_keepsOne_23 : decode cX6_keepsOne 23 = .ok (.getfield 19, 3) := by decide +kernel
theorem dX6_keepsOne_26 : decode cX6_keepsOne 26 = .ok (.bipush 22, 2) := by decide +kernel
theorem dX6_keepsOne_28 : decode cX6_keepsOne 28 = .ok (.iload 4, 2) := by decide +kernel
theorem dX6_keepsOne_30 : decode cX6_keepsOne 30 = .ok (.iadd, 1) := by decide +kernel
theorem dX6_keepsOne_31 : decode cX6_keepsOne 31 = .ok (.aload_n 0, 1) := by decide +kernel
theorem dX6_keepsOne_32 : decode cX6_keepsOne 32 = .ok (.getfield 19, 3) := by decide +kernel
theorem dX6_keepsOne_35 : decode cX6_keepsOne 35 = .ok (.bipush 22, 2) := by decide +kernel
theorem dX6_keepsOne_37 : decode cX6_keepsOne 37 = .ok (.iload 4, 2) := by decide +kernel
theorem dX6_keepsOne_39 : decode cX6_keepsOne 39 = .ok (.iadd, 1) := by decide +kernel
theorem dX6_keepsOne_40 : decode cX6_keepsOne 40 = .ok (.iconst 3, 1) := by decide +kernel
theorem dX6_keepsOne_41 : decode cX6_keepsOne 41 = .ok (.iadd, 1) := by decide +kernel
theorem dX6_keepsOne_42 : decode cX6_keepsOne 42 = .ok (.iaload, 1) := by decide +kernel
theorem dX6_keepsOne_43 : decode cX6_keepsOne 43 = .ok (.iastore, 1) := by decide +kernel
theorem dX6_keepsOne_44 : decode cX6_keepsOne 44 = .ok (.iinc 4 1, 3) := by decide +kernel
theorem dX6_keepsOne_47 : decode cX6_keepsOne 47 = .ok (.goto (-32), 3) := by decide +kernel
theorem dX6_keepsOne_50 : decode cX6_keepsOne 50 = .ok (.aload_n 0, 1) := by decide +kernel
theorem dX6_keepsOne_51 : decode cX6_keepsOne 51 = .ok (.getfield 19, 3) := by decide +kernel
theorem dX6_keepsOne_54 : decode cX6_keepsOne 54 = .ok (.bipush 21, 2) := by decide +kernel
theorem dX6_keepsOne_56 : decode cX6_keepsOne 56 = .ok (.dup2, 1) := by decide +kernel
theorem dX6_keepsOne_57 : decode cX6_keepsOne 57 = .ok (.iaload, 1) := by decide +kernel
theorem dX6_keepsOne_58 : decode cX6_keepsOne 58 = .ok (.iconst 1, 1) := by decide +kernel
theorem dX6_keepsOne_59 : decode cX6_keepsOne 59 = .ok (.isub, 1) := by decide +kernel
theorem dX6_keepsOne_60 : decode cX6_keepsOne 60 = .ok (.iastore, 1) := by decide +kernel
theorem dX6_keepsOne_61 : decode cX6_keepsOne 61 = .ok (.bipush 22, 2) := by decide +kernel
theorem dX6_keepsOne_63 : decode cX6_keepsOne 63 = .ok (.iconst 3, 1) := by decide +kernel
theorem dX6_keepsOne_64 : decode cX6_keepsOne 64 = .ok (.aload_n 0, 1) := by decide +kernel
theorem dX6_keepsOne_65 : decode cX6_keepsOne 65 = .ok (.getfield 19, 3) := by decide +kernel
theorem dX6_keepsOne_68 : decode cX6_keepsOne 68 = .ok (.bipush 21, 2) := by decide +kernel
theorem dX6_keepsOne_70 : decode cX6_keepsOne 70 = .ok (.iaload, 1) := by decide +kernel
theorem dX6_keepsOne_71 : decode cX6_keepsOne 71 = .ok (.imul, 1) := by decide +kernel
theorem dX6_keepsOne_72 : decode cX6_keepsOne 72 = .ok (.iadd, 1) := by decide +kernel
theorem dX6_keepsOne_73 : decode cX6_keepsOne 73 = .ok (.istore 4, 2) := by decide +kernel
theorem dX6_keepsOne_75 : decode cX6_keepsOne 75 = .ok (.aload_n 0, 1) := by decide +kernel
theorem dX6_keepsOne_76 : decode cX6_keepsOne 76 = .ok (.getfield 19, 3) := by decide +kernel
theorem dX6_keepsOne_79 : decode cX6_keepsOne 79 = .ok (.iload 4, 2) := by decide +kernel
theorem dX6_keepsOne_81 : decode cX6_keepsOne 81 = .ok (.iload_n 1, 1) := by decide +kernel
theorem dX6_keepsOne_82 : decode cX6_keepsOne 82 = .ok (.iastore, 1) := by decide +kernel
theorem dX6_keepsOne_83 : decode cX6_keepsOne 83 = .ok (.aload_n 0, 1) := by decide +kernel
theorem dX6_keepsOne_84 : decode cX6_keepsOne 84 = .ok (.getfield 19, 3) := by decide +kernel
theorem dX6_keepsOne_87 : decode cX6_keepsOne 87 = .ok (.iload 4, 2) := by decide +kernel
theorem dX6_keepsOne_89 : decode cX6_keepsOne 89 = .ok (.iconst 1, 1) := by decide +kernel
theorem dX6_keepsOne_90 : decode cX6_keepsOne 90 = .ok (.iadd, 1) := by decide +kernel
theorem dX6_keepsOne_91 : decode cX6_keepsOne 91 = .ok (.iload_n 2, 1) := by decide +kernel
theorem dX6_keepsOne_92 : decode cX6_keepsOne 92 = .ok (.iastore, 1) := by decide +kernel
theorem dX6_keepsOne_93 : decode cX6_keepsOne 93 = .ok (.aload_n 0, 1) := by decide +kernel
theorem dX6_keepsOne_94 : decode cX6_keepsOne 94 = .ok (.getfield 19, 3) := by decide +kernel
theorem dX6_keepsOne_97 : decode cX6_keepsOne 97 = .ok (.iload 4, 2) := by decide +kernel
theorem dX6_keepsOne_99 : decode cX6_keepsOne 99 = .ok (.iconst 2, 1) := by decide +kernel
theorem dX6_keepsOne_100 : decode cX6_keepsOne 100 = .ok (.iadd, 1) := by decide +kernel
theorem dX6_keepsOne_101 : decode cX6_keepsOne 101 = .ok (.iload_n 3, 1) := by decide +kernel
theorem dX6_keepsOne_102 : decode cX6_keepsOne 102 = .ok (.iastore, 1) := by decide +kernel
theorem dX6_keepsOne_103 : decode cX6_keepsOne 103 = .ok (.aload_n 0, 1) := by decide +kernel
theorem dX6_keepsOne_104 : decode cX6_keepsOne 104 = .ok (.getfield 19, 3) := by decide +kernel
theorem dX6_keepsOne_107 : decode cX6_keepsOne 107 = .ok (.bipush 21, 2) := by decide +kernel
theorem dX6_keepsOne_109 : decode cX6_keepsOne 109 = .ok (.dup2, 1) := by decide +kernel
theorem dX6_keepsOne_110 : decode cX6_keepsOne 110 = .ok (.iaload, 1) := by decide +kernel
theorem dX6_keepsOne_111 : decode cX6_keepsOne 111 = .ok (.iconst 1, 1) := by decide +kernel
theorem dX6_keepsOne_112 : decode cX6_keepsOne 112 = .ok (.iadd, 1) := by decide +kernel
theorem dX6_keepsOne_113 : decode cX6_keepsOne 113 = .ok (.iastore, 1) := by decide +kernel
theorem dX6_keepsOne_114 : decode cX6_keepsOne 114 = .ok (.return_, 1) := by decide +kernel
set_option maxRecDepth 20000 in
theorem ggX6_passes_X6_drawnAt : GoodIn wsX6_passes wsX6_drawnAt := goodIn_r _ [7, 2, 8, 9, 10, 6, 11, 12, 13, 14, 15, 16, 17, 18, 19, 20, 21, 22, 23, 24, 25, 26, 27, 28, 33, 34, 35, 36, 37, 38, 39, 40, 41, 42, 43, 44, 45, 46, 47, 48, 49, 50, 51, 52, 53, 54, 55, 56, 57, 58, 59, 60, 61, 62, 63, 64, 65] (by decide +kernel) (by decide +kernel)
set_option maxRecDepth 20000 in
theorem gX6_passes_X6_drawnAt : GoodIn wsX6_passes (wsV RX6 175 RX6 yX6_drawnAt wsX6_drawnAt) := goodIn_app (goodIn_of _ (by decide +kernel)) ggX6_passes_X6_drawnAt
set_option maxRecDepth 20000 in
theorem ggX6_passes_X6_whoIsAt : GoodIn wsX6_passes wsX6_whoIsAt := goodIn_r _ [11, 12, 2, 33, 34, 35, 36, 37, 38, 39, 40, 41, 42, 43, 44, 45, 46, 47, 48, 49, 50, 51, 52, 53, 54, 55, 56, 57, 58, 59, 60, 61, 62, 63, 64, 65] (by decide +kernel) (by decide +kernel)
set_option maxRecDepth 20000 in
theorem gX6_passes_X6_whoIsAt : GoodIn wsX6_passes (wsV RX6 169 RX6 yX6_whoIsAt wsX6_whoIsAt) := goodIn_app (goodIn_of _ (by decide +kernel)) ggX6_passes_X6_whoIsAt
set_option maxRecDepth 20000 in
theorem ggX6_passes_X6_keepsOne : GoodIn wsX6_passes wsX6_keepsOne := goodIn_r _ [32, 2, 33, 34, 35, 36, 37, 38, 39, 40, 41, 42, 43, 44, 45, 46, 47, 48, 49, 50, 51, 52, 53, 54, 55, 56, 57, 58, 59, 60, 61, 62, 63, 64, 65] (by decide +kernel) (by decide +kernel)
set_option maxRecDepth 20000 in
theorem gX6_passes_X6_keepsOne : GoodIn wsX6_passes (wsV RX6 219 RX6 yX6_keepsOne wsX6_keepsOne) := goodIn_app (goodIn_of _ (by decide +kernel)) ggX6_passes_X6_keepsOne
theorem dX6_passes_0 : decode cX6_passes 0 = .ok (.iconst 0, 1) := by decide +kernel
theorem dX6_passes_1 : decode cX6_passes 1 = .ok (.istore_n 1, 1) := by decide +kernel
theorem dX6_passes_2 : decode cX6_passes 2 = .ok (.iload_n 1, 1) := by decide +kernel
theorem dX6_passes_3 : decode cX6_passes 3 = .ok (.aload_n 0, 1) := by decide +kernel
theorem dX6_passes_4 : decode cX6_passes 4 = .ok (.getfield 79, 3) := by decide +kernel
theorem dX6_passes_7 : decode cX6_passes 7 = .ok (.if_icmp .ge 30, 3) := by decide +kernel
theorem dX6_passes_10 : decode cX6_passes 10 = .ok (.aload_n 0, 1) := by decide +kernel
theorem dX6_passes_11 : decode cX6_passes 11 = .ok (.iload_n 1, 1) := by decide +kernel
theorem dX6_passes_12 : decode cX6_passes 12 = .ok (.invokevirtual 175, 3) := by decide +kernel
theorem dX6_passes_15 : decode cX6_passes 15 = .ok (.istore_n 2, 1) := by decide +kernel
theorem dX6_passes_16 : decode cX6_passes 16 = .ok (.iload_n 2, 1) := by decide +kernel
theorem dX6_passes_17 : decode cX6_passes 17 = .ok (.ifCond .eq 14, 3) := by decide +kernel
theorem dX6_passes_20 : decode cX6_passes 20 = .ok (.aload_n 0, 1) := by decide +kernel
theorem dX6_passes_21 : decode cX6_passes 21 = .ok (.iload_n 1, 1) := by decide +kernel
theorem dX6_passes_22 : decode cX6_passes 22 = .ok (.aload_n 0, 1) := by decide +kernel
theorem dX6_passes_23 : decode cX6_passes 23 = .ok (.iload_n 1, 1) := by decide +kernel
theorem dX6_passes_24 : decode cX6_passes 24 = .ok (.invokevirtual 169, 3) := by decide +kernel
theorem dX6_passes_27 : decode cX6_passes 27 = .ok (.iload_n 2, 1) := by decide +kernel
theorem dX6_passes_28 : decode cX6_passes 28 = .ok (.invokevirtual 219, 3) := by decide +kernel
theorem dX6_passes_31 : decode cX6_passes 31 = .ok (.iinc 1 1, 3) := by decide +kernel
theorem dX6_passes_34 : decode cX6_passes 34 = .ok (.goto (-32), 3) := by decide +kernel
theorem dX6_passes_37 : decode cX6_passes 37 = .ok (.aload_n 0, 1) := by decide +kernel
theorem dX6_passes_38 : decode cX6_passes 38 = .ok (.getfield 19, 3) := by decide +kernel
theorem dX6_passes_41 : decode cX6_passes 41 = .ok (.iconst 1, 1) := by decide +kernel
theorem dX6_passes_42 : decode cX6_passes 42 = .ok (.dup2, 1) := by decide +kernel
theorem dX6_passes_43 : decode cX6_passes 43 = .ok (.iaload, 1) := by decide +kernel
theorem dX6_passes_44 : decode cX6_passes 44 = .ok (.aload_n 0, 1) := by decide +kernel
theorem dX6_passes_45 : decode cX6_passes 45 = .ok (.getfield 19, 3) := by decide +kernel
theorem dX6_passes_48 : decode cX6_passes 48 = .ok (.iconst 1, 1) := by decide +kernel
theorem dX6_passes_49 : decode cX6_passes 49 = .ok (.iaload, 1) := by decide +kernel
theorem dX6_passes_50 : decode cX6_passes 50 = .ok (.ifCond .le 7, 3) := by decide +kernel
theorem dX6_passes_53 : decode cX6_passes 53 = .ok (.iconst (-1), 1) := by decide +kernel
theorem dX6_passes_54 : decode cX6_passes 54 = .ok (.goto 17, 3) := by decide +kernel
theorem dX6_passes_57 : decode cX6_passes 57 = .ok (.aload_n 0, 1) := by decide +kernel
theorem dX6_passes_58 : decode cX6_passes 58 = .ok (.getfield 19, 3) := by decide +kernel
theorem dX6_passes_61 : decode cX6_passes 61 = .ok (.iconst 1, 1) := by decide +kernel
theorem dX6_passes_62 : decode cX6_passes 62 = .ok (.iaload, 1) := by decide +kernel
theorem dX6_passes_63 : decode cX6_passes 63 = .ok (.ifCond .ge 7, 3) := by decide +kernel
theorem dX6_passes_66 : decode cX6_passes 66 = .ok (.iconst 1, 1) := by decide +kernel
theorem dX6_passes_67 : decode cX6_passes 67 = .ok (.goto 4, 3) := by decide +kernel
theorem dX6_passes_70 : decode cX6_passes 70 = .ok (.iconst 0, 1) := by decide +kernel
theorem dX6_passes_71 : decode cX6_passes 71 = .ok (.iadd, 1) := by decide +kernel
theorem dX6_passes_72 : decode cX6_passes 72 = .ok (.iastore, 1) := by decide +kernel
theorem dX6_passes_73 : decode cX6_passes 73 = .ok (.aload_n 0, 1) := by decide +kernel
theorem dX6_passes_74 : decode cX6_passes 74 = .ok (.getfield 19, 3) := by decide +kernel
theorem dX6_passes_77 : decode cX6_passes 77 = .ok (.iconst 2, 1) := by decide +kernel
theorem dX6_passes_78 : decode cX6_passes 78 = .ok (.iconst 0, 1) := by decide +kernel
theorem dX6_passes_79 : decode cX6_passes 79 = .ok (.iastore, 1) := by decide +kernel
theorem dX6_passes_80 : decode cX6_passes 80 = .ok (.aload_n 0, 1) := by decide +kernel
theorem dX6_passes_81 : decode cX6_passes 81 = .ok (.getfield 19, 3) := by decide +kernel
theorem dX6_passes_84 : decode cX6_passes 84 = .ok (.iconst 4, 1) := by decide +kernel
theorem dX6_passes_85 : decode cX6_passes 85 = .ok (.iconst 0, 1) := by decide +kernel
theorem dX6_passes_86 : decode cX6_passes 86 = .ok (.iastore, 1) := by decide +kernel
theorem dX6_passes_87 : decode cX6_passes 87 = .ok (.aload_n 0, 1) := by decide +kernel
theorem dX6_passes_88 : decode cX6_passes 88 = .ok (.getfield 19, 3) := by decide +kernel
theorem dX6_passes_91 : decode cX6_passes 91 = .ok (.iconst 5, 1) := by decide +kernel
theorem dX6_passes_92 : decode cX6_passes 92 = .ok (.iconst 0, 1) := by decide +kernel
theorem dX6_passes_93 : decode cX6_passes 93 = .ok (.iastore, 1) := by decide +kernel
theorem dX6_passes_94 : decode cX6_passes 94 = .ok (.aload_n 0, 1) := by decide +kernel
theorem dX6_passes_95 : decode cX6_passes 95 = .ok (.getfield 19, 3) := by decide +kernel
theorem dX6_passes_98 : decode cX6_passes 98 = .ok (.iconst 3, 1) := by decide +kernel
theorem dX6_passes_99 : decode cX6_passes 99 = .ok (.aload_n 0, 1) := by decide +kernel
theorem dX6_passes_100 : decode cX6_passes 100 = .ok (.getfield 19, 3) := by decide +kernel
theorem dX6_passes_103 : decode cX6_passes 103 = .ok (.iconst 0, 1) := by decide +kernel
theorem dX6_passes_104 : decode cX6_passes 104 = .ok (.iaload, 1) := by decide +kernel
theorem dX6_passes_105 : decode cX6_passes 105 = .ok (.iconst 3, 1) := by decide +kernel
theorem dX6_passes_106 : decode cX6_passes 106 = .ok (.irem, 1) := by decide +kernel
theorem dX6_passes_107 : decode cX6_passes 107 = .ok (.iconst 2, 1) := by decide +kernel
theorem dX6_passes_108 : decode cX6_passes 108 = .ok (.if_icmp .ne 7, 3) := by decide +kernel
theorem dX6_passes_111 : decode cX6_passes 111 = .ok (.iconst 0, 1) := by decide +kernel
theorem dX6_passes_112 : decode cX6_passes 112 = .ok (.goto 9, 3) := by decide +kernel
theorem dX6_passes_115 : decode cX6_passes 115 = .ok (.aload_n 0, 1) := by decide +kernel
theorem dX6_passes_116 : decode cX6_passes 116 = .ok (.getfield 19, 3) := by decide +kernel
theorem dX6_passes_119 : decode cX6_passes 119 = .ok (.iconst 3, 1) := by decide +kernel
theorem dX6_passes_120 : decode cX6_passes 120 = .ok (.iaload, 1) := by decide +kernel
theorem dX6_passes_121 : decode cX6_passes 121 = .ok (.iastore, 1) := by decide +kernel
theorem dX6_passes_122 : decode cX6_passes 122 = .ok (.aload_n 0, 1) := by decide +kernel
theorem dX6_passes_123 : decode cX6_passes 123 = .ok (.getfield 19, 3) := by decide +kernel
theorem dX6_passes_126 : decode cX6_passes 126 = .ok (.iconst 0, 1) := by decide +kernel
theorem dX6_passes_127 : decode cX6_passes 127 = .ok (.dup2, 1) := by decide +kernel
theorem dX6_passes_128 : decode cX6_passes 128 = .ok (.iaload, 1) := by decide +kernel
theorem dX6_passes_129 : decode cX6_passes 129 = .ok (.iconst 1, 1) := by decide +kernel
theorem dX6_passes_130 : decode cX6_passes 130 = .ok (.iadd, 1) := by decide +kernel
theorem dX6_passes_131 : decode cX6_passes 131 = .ok (.iastore, 1) := by decide +kernel
theorem dX6_passes_132 : decode cX6_passes 132 = .ok (.return_, 1) := by decide +kernel
set_option maxRecDepth 20000 in
theorem ggX6_dusksRefused_X6_in : GoodIn wsX6_dusksRefused wsX6_in := goodIn_r _ [9] (by decide +kernel) (by decide +kernel)
set_option maxRecDepth 20000 in
theorem gX6_dusksRefused_X6_in : GoodIn wsX6_dusksRefused (va_wsS RX6 75 yX6_in wsX6_in) := goodIn_app (goodIn_of _ (by decide +kernel)) ggX6_dusksRefused_X6_in
set_option maxRecDepth 20000 in
theorem ggX6_dusksRefused_X6_isCapital : GoodIn wsX6_dusksRefused wsX6_isCapital := goodIn_r _ [13, 14, 15, 16, 17, 18, 19, 20, 21, 22, 23, 24, 25, 26, 27, 28, 29, 30, 31, 32, 33, 34, 35, 36, 37, 38, 39, 40, 41, 42, 43, 44, 45, 46, 47] (by decide +kernel) (by decide +kernel)
set_option maxRecDepth 20000 in
theorem gX6_dusksRefused_X6_isCapital : GoodIn wsX6_dusksRefused (wsV RX6 211 RX6 yX6_isCapital wsX6_isCapital) := goodIn_app (goodIn_of _ (by decide +kernel)) ggX6_dusksRefused_X6_isCapital
theorem dX6_dusksRefused_0 : decode cX6_dusksRefused 0 = .ok (.iload_n 1, 1) := by decide +kernel
theorem dX6_dusksRefused_1 : decode cX6_dusksRefused 1 = .ok (.i2l, 1) := by decide +kernel
theorem dX6_dusksRefused_2 : decode cX6_dusksRefused 2 = .ok (.lconst 1, 1) := by decide +kernel
theorem dX6_dusksRefused_3 : decode cX6_dusksRefused 3 = .ok (.ldc2_w 223, 3) := by decide +kernel
theorem dX6_dusksRefused_6 : decode cX6_dusksRefused 6 = .ok (.invokestatic 75, 3) := by decide +kernel
theorem dX6_dusksRefused_9 : decode cX6_dusksRefused 9 = .ok (.ifCond .ne 6, 3) := by decide +kernel
theorem dX6_dusksRefused_12 : decode cX6_dusksRefused 12 = .ok (.ldc 84, 2) := by decide +kernel
theorem dX6_dusksRefused_14 : decode cX6_dusksRefused 14 = .ok (.ireturn, 1) := by decide +kernel
theorem dX6_dusksRefused_15 : decode cX6_dusksRefused 15 = .ok (.aload_n 0, 1) := by decide +kernel
theorem dX6_dusksRefused_16 : decode cX6_dusksRefused 16 = .ok (.invokevirtual 211, 3) := by decide +kernel
theorem dX6_dusksRefused_19 : decode cX6_dusksRefused 19 = .ok (.ifCond .ne 8, 3) := by decide +kernel
theorem dX6_dusksRefused_22 : decode cX6_dusksRefused 22 = .ok (.ldc 205, 2) := by decide +kernel
theorem dX6_dusksRefused_24 : decode cX6_dusksRefused 24 = .ok (.goto 21, 3) := by decide +kernel
theorem dX6_dusksRefused_27 : decode cX6_dusksRefused 27 = .ok (.aload_n 0, 1) := by decide +kernel
theorem dX6_dusksRefused_28 : decode cX6_dusksRefused 28 = .ok (.getfield 19, 3) := by decide +kernel
theorem dX6_dusksRefused_31 : decode cX6_dusksRefused 31 = .ok (.iconst 0, 1) := by decide +kernel
theorem dX6_dusksRefused_32 : decode cX6_dusksRefused 32 = .ok (.iaload, 1) := by decide +kernel
theorem dX6_dusksRefused_33 : decode cX6_dusksRefused 33 = .ok (.sipush 9000, 3) := by decide +kernel
theorem dX6_dusksRefused_36 : decode cX6_dusksRefused 36 = .ok (.if_icmp .le 8, 3) := by decide +kernel
theorem dX6_dusksRefused_39 : decode cX6_dusksRefused 39 = .ok (.ldc 88, 2) := by decide +kernel
theorem dX6_dusksRefused_41 : decode cX6_dusksRefused 41 = .ok (.goto 4, 3) := by decide +kernel
theorem dX6_dusksRefused_44 : decode cX6_dusksRefused 44 = .ok (.iconst 0, 1) := by decide +kernel
theorem dX6_dusksRefused_45 : decode cX6_dusksRefused 45 = .ok (.ireturn, 1) := by decide +kernel
set_option maxRecDepth 20000 in
theorem ggX6_dusk_X6_dusksRefused : GoodIn wsX6_dusk wsX6_dusksRefused := goodIn_r _ [6, 7, 8, 9, 1, 10, 11, 12, 5, 13, 14, 15, 16, 17, 18, 55, 56, 57, 58, 59, 60, 61, 62, 63, 64, 65, 66, 67, 68, 69, 70, 71, 72, 73, 74, 75, 76, 77, 78, 79, 80, 81, 82, 83, 84, 85, 86, 87] (by decide +kernel) (by decide +kernel)
set_option maxRecDepth 20000 in
theorem gX6_dusk_X6_dusksRefused : GoodIn wsX6_dusk (wsV RX6 225 RX6 yX6_dusksRefused wsX6_dusksRefused) := goodIn_app (goodIn_of _ (by decide +kernel)) ggX6_dusk_X6_dusksRefused
set_option maxRecDepth 20000 in
theorem ggX6_dusk_X6_remember : GoodIn wsX6_dusk wsX6_remember := goodIn_r _ [22, 23, 24, 1, 55, 56, 57, 58, 59, 60, 61, 62, 63, 64, 65, 66, 67, 68, 69, 70, 71, 72, 73, 74, 75, 76, 77, 78, 79, 80, 81, 82, 83, 84, 85, 86, 87] (by decide +kernel) (by decide +kernel)
set_option maxRecDepth 20000 in
theorem gX6_dusk_X6_remember : GoodIn wsX6_dusk (wsV RX6 206 RX6 yX6_remember wsX6_remember) := goodIn_app (goodIn_of _ (by decide +kernel)) ggX6_dusk_X6_remember
set_option maxRecDepth 20000 in
theorem ggX6_dusk_X6_passes : GoodIn wsX6_dusk wsX6_passes := goodIn_r _ [28, 29, 1, 30, 31, 32, 5, 33, 34, 35, 36, 37, 38, 39, 40, 41, 42, 43, 44, 45, 46, 18, 47, 48, 49, 50, 11, 12, 13, 51, 52, 53, 54, 55, 56, 57, 58, 59, 60, 61, 62, 63, 64, 65, 66, 67, 68, 69, 70, 71, 72, 73, 74, 75, 76, 77, 78, 79, 80, 81, 82, 83, 84, 85, 86, 87] (by decide +kernel) (by decide +kernel)
set_option maxRecDepth 20000 in
theorem gX6_dusk_X6_passes : GoodIn wsX6_dusk (wsV RX6 228 RX6 yX6_passes wsX6_passes) := goodIn_app (goodIn_of _ (by decide +kernel)) ggX6_dusk_X6_passes
theorem dX6_dusk_0 : decode cX6_dusk 0 = .ok (.aload_n 0, 1) := by decide +kernel
theorem dX6_dusk_1 : decode cX6_dusk 1 = .ok (.iload_n 1, 1) := by decide +kernel
theorem dX6_dusk_2 : decode cX6_dusk 2 = .ok (.invokevirtual 225, 3) := by decide +kernel
theorem dX6_dusk_5 : decode cX6_dusk 5 = .ok (.istore_n 2, 1) := by decide +kernel
theorem dX6_dusk_6 : decode cX6_dusk 6 = .ok (.iload_n 2, 1) := by decide +kernel
theorem dX6_dusk_7 : decode cX6_dusk 7 = .ok (.ifCond .eq 5, 3) := by decide +kernel
theorem dX6_dusk_10 : decode cX6_dusk 10 = .ok (.iload_n 2, 1) := by decide +kernel
theorem dX6_dusk_11 : decode cX6_dusk 11 = .ok (.ireturn, 1) := by decide +kernel
theorem dX6_dusk_12 : decode cX6_dusk 12 = .ok (.aload_n 0, 1) := by decide +kernel
theorem dX6_dusk_13 : decode cX6_dusk 13 = .ok (.invokevirtual 206, 3) := by decide +kernel
theorem dX6_dusk_16 : decode cX6_dusk 16 = .ok (.iconst 0, 1) := by decide +kernel
theorem dX6_dusk_17 : decode cX6_dusk 17 = .ok (.istore_n 3, 1) := by decide +kernel
theorem dX6_dusk_18 : decode cX6_dusk 18 = .ok (.iload_n 3, 1) := by decide +kernel
theorem dX6_dusk_19 : decode cX6_dusk 19 = .ok (.iload_n 1, 1) := by decide +kernel
theorem dX6_dusk_20 : decode cX6_dusk 20 = .ok (.if_icmp .ge 13, 3) := by decide +kernel
theorem dX6_dusk_23 : decode cX6_dusk 23 = .ok (.aload_n 0, 1) := by decide +kernel
theorem dX6_dusk_24 : decode cX6_dusk 24 = .ok (.invokevirtual 228, 3) := by decide +kernel
theorem dX6_dusk_27 : decode cX6_dusk 27 = .ok (.iinc 3 1, 3) := by decide +kernel
theorem dX6_dusk_30 : decode cX6_dusk 30 = .ok (.goto (-12), 3) := by decide +kernel
theorem dX6_dusk_33 : decode cX6_dusk 33 = .ok (.aload_n 0, 1) := by decide +kernel
theorem dX6_dusk_34 : decode cX6_dusk 34 = .ok (.getfield 19, 3) := by decide +kernel
theorem dX6_dusk_37 : decode cX6_dusk 37 = .ok (.bipush 21, 2) := by decide +kernel
theorem dX6_dusk_39 : decode cX6_dusk 39 = .ok (.iaload, 1) := by decide +kernel
theorem dX6_dusk_40 : decode cX6_dusk 40 = .ok (.ireturn, 1) := by decide +kernel
theorem dX6_draw_0 : decode cX6_draw 0 = .ok (.aload_n 0, 1) := by decide +kernel
theorem dX6_draw_1 : decode cX6_draw 1 = .ok (.aload_n 0, 1) := by decide +kernel
theorem dX6_draw_2 : decode cX6_draw 2 = .ok (.getfield 231, 3) := by decide +kernel
theorem dX6_draw_5 : decode cX6_draw 5 = .ok (.i2l, 1) := by decide +kernel
theorem dX6_draw_6 : decode cX6_draw 6 = .ok (.ldc2_w 234, 3) := by decide +kernel
theorem dX6_draw_9 : decode cX6_draw 9 = .ok (.lmul, 1) := by decide +kernel
theorem dX6_draw_10 : decode cX6_draw 10 = .ok (.ldc2_w 236, 3) := by decide +kernel
theorem dX6_draw_13 : decode cX6_draw 13 = .ok (.ladd, 1) := by decide +kernel
theorem dX6_draw_14 : decode cX6_draw 14 = .ok (.ldc2_w 238, 3) := by decide +kernel
theorem dX6_draw_17 : decode cX6_draw 17 = .ok (.lrem, 1) := by decide +kernel
theorem dX6_draw_18 : decode cX6_draw 18 = .ok (.l2i, 1) := by decide +kernel
theorem dX6_draw_19 : decode cX6_draw 19 = .ok (.putfield 231, 3) := by decide +kernel
theorem dX6_draw_22 : decode cX6_draw 22 = .ok (.aload_n 0, 1) := by decide +kernel
theorem dX6_draw_23 : decode cX6_draw 23 = .ok (.getfield 231, 3) := by decide +kernel
theorem dX6_draw_26 : decode cX6_draw 26 = .ok (.ldc 240, 2) := by decide +kernel
theorem dX6_draw_28 : decode cX6_draw 28 = .ok (.idiv, 1) := by decide +kernel
theorem dX6_draw_29 : decode cX6_draw 29 = .ok (.iload_n 1, 1) := by decide +kernel
theorem dX6_draw_30 : decode cX6_draw 30 = .ok (.irem, 1) := by decide +kernel
theorem dX6_draw_31 : decode cX6_draw 31 = .ok (.ireturn, 1) := by decide +kernel
set_option maxRecDepth 20000 in
theorem ggX6_chance_X6_draw : GoodIn wsX6_chance wsX6_draw := goodIn_r _ [8, 9, 10, 11, 12, 13, 18, 19, 20, 21, 22, 23, 24, 25, 26, 27, 28, 29, 30, 31, 32, 33, 34, 35, 36, 37, 38, 39, 40, 41, 42, 43, 44, 45, 46, 47, 48, 49, 50] (by decide +kernel) (by decide +kernel)
set_option maxRecDepth 20000 in
theorem gX6_chance_X6_draw : GoodIn wsX6_chance (wsV RX6 241 RX6 yX6_draw wsX6_draw) := goodIn_app (goodIn_of _ (by decide +kernel)) ggX6_chance_X6_draw
set_option maxRecDepth 20000 in
theorem ggX6_chance_X6_whoIsAt : GoodIn wsX6_chance wsX6_whoIsAt := goodIn_r _ [17, 2, 1, 18, 19, 20, 21, 22, 23, 24, 25, 26, 27, 28, 29, 30, 31, 32, 33, 34, 35, 36, 37, 38, 39, 40, 41, 42, 43, 44, 45, 46, 47, 48, 49, 50] (by decide +kernel) (by decide +kernel)
set_option maxRecDepth 20000 in
theorem gX6_chance_X6_whoIsAt : GoodIn wsX6_chance (wsV RX6 169 RX6 yX6_whoIsAt wsX6_whoIsAt) := goodIn_app (goodIn_of _ (by decide +kernel)) ggX6_chance_X6_whoIsAt
theorem dX6_chance_0 : decode cX6_chance 0 = .ok (.aload_n 0, 1) := by decide +kernel
theorem dX6_chance_1 : decode cX6_chance 1 = .ok (.bipush 6, 2) := by decide +kernel
theorem dX6_chance_3 : decode cX6_chance 3 = .ok (.invokevirtual 241, 3) := by decide +kernel
theorem dX6_chance_6 : decode cX6_chance 6 = .ok (.istore_n 1, 1) := by decide +kernel
theorem dX6_chance_7 : decode cX6_chance 7 = .ok (.iload_n 1, 1) := by decide +kernel
theorem dX6_chance_8 : decode cX6_chance 8 = .ok (.ifCond .ne 20, 3) := by decide +kernel
theorem dX6_chance_11 : decode cX6_chance 11 = .ok (.aload_n 0, 1) := by decide +kernel
theorem dX6_chance_12 : decode cX6_chance 12 = .ok (.getfield 19, 3) := by decide +kernel
theorem dX6_chance_15 : decode cX6_chance 15 = .ok (.iconst 1, 1) := by decide +kernel
theorem dX6_chance_16 : decode cX6_chance 16 = .ok (.aload_n 0, 1) := by decide +kernel
theorem dX6_chance_17 : decode cX6_chance 17 = .ok (.bipush 7, 2) := by decide +kernel
theorem dX6_chance_19 : decode cX6_chance 19 = .ok (.invokevirtual 241, 3) := by decide +kernel
theorem dX6_chance_22 : decode cX6_chance 22 = .ok (.iconst 3, 1) := by decide +kernel
theorem dX6_chance_23 : decode cX6_chance 23 = .ok (.isub, 1) := by decide +kernel
theorem dX6_chance_24 : decode cX6_chance 24 = .ok (.iastore, 1) := by decide +kernel
theorem dX6_chance_25 : decode cX6_chance 25 = .ok (.goto 131, 3) := by decide +kernel
theorem dX6_chance_28 : decode cX6_chance 28 = .ok (.iload_n 1, 1) := by decide +kernel
theorem dX6_chance_29 : decode cX6_chance 29 = .ok (.iconst 1, 1) := by decide +kernel
theorem dX6_chance_30 : decode cX6_chance 30 = .ok (.if_icmp .ne 18, 3) := by decide +kernel
theorem dX6_chance_33 : decode cX6_chance 33 = .ok (.aload_n 0, 1) := by decide +kernel
theorem dX6_chance_34 : decode cX6_chance 34 = .ok (.getfield 19, 3) := by decide +kernel
theorem dX6_chance_37 : decode cX6_chance 37 = .ok (.iconst 2, 1) := by decide +kernel
theorem dX6_chance_38 : decode cX6_chance 38 = .ok (.aload_n 0, 1) := by decide +kernel
theorem dX6_chance_39 : decode cX6_chance 39 = .ok (.bipush 64, 2) := by decide +kernel
theorem dX6_chance_41 : decode cX6_chance 41 = .ok (.invokevirtual 241, 3) := by decide +kernel
theorem dX6_chance_44 : decode cX6_chance 44 = .ok (.iastore, 1) := by decide +kernel
theorem dX6_chance_45 : decode cX6_chance 45 = .ok (.goto 111, 3) := by decide +kernel
theorem dX6_chance_48 : decode cX6_chance 48 = .ok (.iload_n 1, 1) := by decide +kernel
theorem dX6_chance_49 : decode cX6_chance 49 = .ok (.iconst 2, 1) := by decide +kernel
theorem dX6_chance_50 : decode cX6_chance 50 = .ok (.if_icmp .ne 23, 3) := by decide +kernel
theorem dX6_chance_53 : decode cX6_chance 53 = .ok (.aload_n 0, 1) := by decide +kernel
theorem dX6_chance_54 : decode cX6_chance 54 = .ok (.getfield 19, 3) := by decide +kernel
theorem dX6_chance_57 : decode cX6_chance 57 = .ok (.iconst 3, 1) := by decide +kernel
theorem dX6_chance_58 : decode cX6_chance 58 = .ok (.dup2, 1) := by decide +kernel
theorem dX6_chance_59 : decode cX6_chance 59 = .ok (.iaload, 1) := by decide +kernel
theorem dX6_chance_60 : decode cX6_chance 60 = .ok (.iconst 1, 1) := by decide +kernel
theorem dX6_chance_61 : decode cX6_chance 61 = .ok (.aload_n 0, 1) := by decide +kernel
theorem dX6_chance_62 : decode cX6_chance 62 = .ok (.bipush 30, 2) := by decide +kernel
theorem dX6_chance_64 : decode cX6_chance 64 = .ok (.invokevirtual 241, 3) := by decide +kernel
theorem dX6_chance_67 : decode cX6_chance 67 = .ok (.ishl, 1) := by decide +kernel
theorem dX6_chance_68 : decode cX6_chance 68 = .ok (.ior, 1) := by decide +kernel
theorem dX6_chance_69 : decode cX6_chance 69 = .ok (.iastore, 1) := by decide +kernel
theorem dX6_chance_70 : decode cX6_chance 70 = .ok (.goto 86, 3) := by decide +kernel
theorem dX6_chance_73 : decode cX6_chance 73 = .ok (.iload_n 1, 1) := by decide +kernel
theorem dX6_chance_74 : decode cX6_chance 74 = .ok (.iconst 3, 1) := by decide +kernel
theorem dX6_chance_75 : decode cX6_chance 75 = .ok (.if_icmp .ne 13, 3) := by decide +kernel
theorem dX6_chance_78 : decode cX6_chance 78 = .ok (.aload_n 0, 1) := by decide +kernel
theorem dX6_chance_79 : decode cX6_chance 79 = .ok (.getfield 19, 3) := by decide +kernel
theorem dX6_chance_82 : decode cX6_chance 82 = .ok (.iconst 4, 1) := by decide +kernel
theorem dX6_chance_83 : decode cX6_chance 83 = .ok (.iconst 1, 1) := by decide +kernel
theorem dX6_chance_84 : decode cX6_chance 84 = .ok (.iastore, 1) := by decide +kernel
theorem dX6_chance_85 : decode cX6_chance 85 = .ok (.goto 71, 3) := by decide +kernel
theorem dX6_chance_88 : decode cX6_chance 88 = .ok (.iload_n 1, 1) := by decide +kernel
theorem dX6_chance_89 : decode cX6_chance 89 = .ok (.iconst 4, 1) := by decide +kernel
theorem dX6_chance_90 : decode cX6_chance 90 = .ok (.if_icmp .ne 66, 3) := by decide +kernel
theorem dX6_chance_93 : decode cX6_chance 93 = .ok (.aload_n 0, 1) := by decide +kernel
theorem dX6_chance_94 : decode cX6_chance 94 = .ok (.getfield 72, 3) := by decide +kernel
theorem dX6_chance_97 : decode cX6_chance 97 = .ok (.ifCond .le 59, 3) := by decide +kernel
theorem dX6_chance_100 : decode cX6_chance 100 = .ok (.aload_n 0, 1) := by decide +kernel
theorem dX6_chance_101 : decode cX6_chance 101 = .ok (.getfield 79, 3) := by decide +kernel
theorem dX6_chance_104 : decode cX6_chance 104 = .ok (.ifCond .le 52, 3) := by decide +kernel
theorem dX6_chance_107 : decode cX6_chance 107 = .ok (.aload_n 0, 1) := by decide +kernel
theorem dX6_chance_108 : decode cX6_chance 108 = .ok (.aload_n 0, 1) := by decide +kernel
theorem dX6_chance_109 : decode cX6_chance 109 = .ok (.getfield 72, 3) := by decide +kernel
theorem dX6_chance_112 : decode cX6_chance 112 = .ok (.invokevirtual 241, 3) := by decide +kernel
theorem dX6_chance_115 : decode cX6_chance 115 = .ok (.istore_n 2, 1) := by decide +kernel
theorem dX6_chance_116 : decode cX6_chance 116 = .ok (.aload_n 0, 1) := by decide +kernel
theorem dX6_chance_117 : decode cX6_chance 117 = .ok (.aload_n 0, 1) := by decide +kernel
theorem dX6_chance_118 : decode cX6_chance 118 = .ok (.getfield 79, 3) := by decide +kernel
theorem dX6_chance_121 : decode cX6_chance 121 = .ok (.invokevirtual 241, 3) := by decide +kernel
theorem dX6_chance_124 : decode cX6_chance 124 = .ok (.istore_n 3, 1) := by decide +kernel
theorem dX6_chance_125 : decode cX6_chance 125 = .ok (.aload_n 0, 1) := by decide +kernel
theorem dX6_chance_126 : decode cX6_chance 126 = .ok (.getfield 19, 3) := by decide +kernel
theorem dX6_chance_129 : decode cX6_chance 129 = .ok (.bipush 6, 2) := by decide +kernel
theorem dX6_chance_131 : decode cX6_chance 131 = .ok (.iload_n 2, 1) := by decide +kernel
theorem dX6_chance_132 : decode cX6_chance 132 = .ok (.iadd, 1) := by decide +kernel
theorem dX6_chance_133 : decode cX6_chance 133 = .ok (.aload_n 0, 1) := by decide +kernel
theorem dX6_chance_134 : decode cX6_chance 134 = .ok (.iload_n 3, 1) := by decide +kernel
theorem dX6_chance_135 : decode cX6_chance 135 = .ok (.invokevirtual 169, 3) := by decide +kernel
theorem dX6_chance_138 : decode cX6_chance 138 = .ok (.iconst (-1), 1) := by decide +kernel
theorem dX6_chance_139 : decode cX6_chance 139 = .ok (.if_icmp .ne 7, 3) := by decide +kernel
theorem dX6_chance_142 : decode cX6_chance 142 = .ok (.iload_n 3, 1) := by decide +kernel
theorem dX6_chance_143 : decode cX6_chance 143 = .ok (.goto 12, 3) := by decide +kernel
theorem dX6_chance_146 : decode cX6_chance 146 = .ok (.aload_n 0, 1) := by decide +kernel
theorem dX6_chance_147 : decode cX6_chance 147 = .ok (.getfield 19, 3) := by decide +kernel
theorem dX6_chance_150 : decode cX6_chance 150 = .ok (.bipush 6, 2) := by decide +kernel
theorem dX6_chance_152 : decode cX6_chance 152 = .ok (.iload_n 2, 1) := by decide +kernel
theorem dX6_chance_153 : decode cX6_chance 153 = .ok (.iadd, 1) := by decide +kernel
theorem dX6_chance_154 : decode cX6_chance 154 = .ok (.iaload, 1) := by decide +kernel
theorem dX6_chance_155 : decode cX6_chance 155 = .ok (.iastore, 1) := by decide +kernel
theorem dX6_chance_156 : decode cX6_chance 156 = .ok (.return_, 1) := by decide +kernel
set_option maxRecDepth 20000 in
theorem ggX6_drift_X6_dusksRefused : GoodIn wsX6_drift wsX6_dusksRefused := goodIn_r _ [6, 7, 8, 9, 1, 10, 11, 12, 5, 13, 14, 15, 16, 17, 18, 68, 69, 70, 71, 72, 73, 74, 75, 76, 77, 78, 79, 80, 81, 82, 83, 84, 85, 86, 87, 88, 89, 90, 91, 92, 93, 94, 95, 96, 97, 98, 99, 100] (by decide +kernel) (by decide +kernel)
set_option maxRecDepth 20000 in
theorem gX6_drift_X6_dusksRefused : GoodIn wsX6_drift (wsV RX6 225 RX6 yX6_dusksRefused wsX6_dusksRefused) := goodIn_app (goodIn_of _ (by decide +kernel)) ggX6_drift_X6_dusksRefused
set_option maxRecDepth 20000 in
theorem ggX6_drift_X6_remember : GoodIn wsX6_drift wsX6_remember := goodIn_r _ [22, 23, 24, 1, 68, 69, 70, 71, 72, 73, 74, 75, 76, 77, 78, 79, 80, 81, 82, 83, 84, 85, 86, 87, 88, 89, 90, 91, 92, 93, 94, 95, 96, 97, 98, 99, 100] (by decide +kernel) (by decide +kernel)
set_option maxRecDepth 20000 in
theorem gX6_drift_X6_remember : GoodIn wsX6_drift (wsV RX6 206 RX6 yX6_remember wsX6_remember) := goodIn_app (goodIn_of _ (by decide +kernel)) ggX6_drift_X6_remember
set_option maxRecDepth 20000 in
theorem ggX6_drift_X6_chance : GoodIn wsX6_drift wsX6_chance := goodIn_r _ [28, 1, 29, 30, 31, 32, 33, 5, 34, 35, 36, 37, 38, 39, 40, 41, 42, 43, 68, 69, 70, 71, 72, 73, 74, 75, 76, 77, 78, 79, 80, 81, 82, 83, 84, 85, 86, 87, 88, 89, 90, 91, 92, 93, 94, 95, 96, 97, 98, 99, 100] (by decide +kernel) (by decide +kernel)
set_option maxRecDepth 20000 in
theorem gX6_drift_X6_chance : GoodIn wsX6_drift (wsV RX6 244 RX6 yX6_chance wsX6_chance) := goodIn_app (goodIn_of _ (by decide +kernel)) ggX6_drift_X6_chance
set_option maxRecDepth 20000 in
theorem ggX6_drift_X6_passes : GoodIn wsX6_drift wsX6_passes := goodIn_r _ [47, 30, 1, 48, 49, 50, 5, 51, 40, 41, 42, 43, 29, 52, 53, 54, 55, 56, 57, 58, 59, 18, 60, 61, 62, 63, 11, 12, 13, 64, 65, 66, 67, 68, 69, 70, 71, 72, 73, 74, 75, 76, 77, 78, 79, 80, 81, 82, 83, 84, 85, 86, 87, 88, 89, 90, 91, 92, 93, 94, 95, 96, 97, 98, 99, 100] (by decide +kernel) (by decide +kernel)
set_option maxRecDepth 20000 in
theorem gX6_drift_X6_passes : GoodIn wsX6_drift (wsV RX6 228 RX6 yX6_passes wsX6_passes) := goodIn_app (goodIn_of _ (by decide +kernel)) ggX6_drift_X6_passes
theorem dX6_drift_0 : decode cX6_drift 0 = .ok (.aload_n 0, 1) := by decide +kernel
theorem dX6_drift_1 : decode cX6_drift 1 = .ok (.iload_n 1, 1) := by decide +kernel
theorem dX6_drift_2 : decode cX6_drift 2 = .ok (.invokevirtual 225, 3) := by decide +kernel
theorem dX6_drift_5 : decode cX6_drift 5 = .ok (.istore_n 2, 1) := by decide +kernel
theorem dX6_drift_6 : decode cX6_drift 6 = .ok (.iload_n 2, 1) := by decide +kernel
theorem dX6_drift_7 : decode cX6_drift 7 = .ok (.ifCond .eq 5, 3) := by decide +kernel
theorem dX6_drift_10 : decode cX6_drift 10 = .ok (.iload_n 2, 1) := by decide +kernel
theorem dX6_drift_11 : decode cX6_drift 11 = .ok (.ireturn, 1) := by decide +kernel
theorem dX6_drift_12 : decode cX6_drift 12 = .ok (.aload_n 0, 1) := by decide +kernel
theorem dX6_drift_13 : decode cX6_drift 13 = .ok (.invokevirtual 206, 3) := by decide +kernel
theorem dX6_drift_16 : decode cX6_drift 16 = .ok (.iconst 0, 1) := by decide +kernel
theorem dX6_drift_17 : decode cX6_drift 17 = .ok (.istore_n 3, 1) := by decide +kernel
theorem dX6_drift_18 : decode cX6_drift 18 = .ok (.iload_n 3, 1) := by decide +kernel
theorem dX6_drift_19 : decode cX6_drift 19 = .ok (.iload_n 1, 1) := by decide +kernel
theorem dX6_drift_20 : decode cX6_drift 20 = .ok (.if_icmp .ge 17, 3) := by decide +kernel
theorem dX6_drift_23 : decode cX6_drift 23 = .ok (.aload_n 0, 1) := by decide +kernel
theorem dX6_drift_24 : decode cX6_drift 24 = .ok (.invokevirtual 244, 3) := by decide +kernel
theorem dX6_drift_27 : decode cX6_drift 27 = .ok (.aload_n 0, 1) := by decide +kernel
theorem dX6_drift_28 : decode cX6_drift 28 = .ok (.invokevirtual 228, 3) := by decide +kernel
theorem dX6_drift_31 : decode cX6_drift 31 = .ok (.iinc 3 1, 3) := by decide +kernel
theorem dX6_drift_34 : decode cX6_drift 34 = .ok (.goto (-16), 3) := by decide +kernel
theorem dX6_drift_37 : decode cX6_drift 37 = .ok (.aload_n 0, 1) := by decide +kernel
theorem dX6_drift_38 : decode cX6_drift 38 = .ok (.getfield 19, 3) := by decide +kernel
theorem dX6_drift_41 : decode cX6_drift 41 = .ok (.bipush 21, 2) := by decide +kernel
theorem dX6_drift_43 : decode cX6_drift 43 = .ok (.iaload, 1) := by decide +kernel
theorem dX6_drift_44 : decode cX6_drift 44 = .ok (.ireturn, 1) := by decide +kernel
theorem dX6_undo_0 : decode cX6_undo 0 = .ok (.aload_n 0, 1) := by decide +kernel
theorem dX6_undo_1 : decode cX6_undo 1 = .ok (.getfield 157, 3) := by decide +kernel
theorem dX6_undo_4 : decode cX6_undo 4 = .ok (.ifCond .ne 6, 3) := by decide +kernel
theorem dX6_undo_7 : decode cX6_undo 7 = .ok (.ldc 205, 2) := by decide +kernel
theorem dX6_undo_9 : decode cX6_undo 9 = .ok (.ireturn, 1) := by decide +kernel
theorem dX6_undo_10 : decode cX6_undo 10 = .ok (.aload_n 0, 1) := by decide +kernel
theorem dX6_undo_11 : decode cX6_undo 11 = .ok (.dup, 1) := by decide +kernel
theorem dX6_undo_12 : decode cX6_undo 12 = .ok (.getfield 157, 3) := by decide +kernel
theorem dX6_undo_15 : decode cX6_undo 15 = .ok (.iconst 1, 1) := by decide +kernel
theorem dX6_undo_16 : decode cX6_undo 16 = .ok (.isub, 1) := by decide +kernel
theorem dX6_undo_17 : decode cX6_undo 17 = .ok (.putfield 157, 3) := by decide +kernel
theorem dX6_undo_20 : decode cX6_undo 20 = .ok (.iconst 0, 1) := by decide +kernel
theorem dX6_undo_21 : decode cX6_undo 21 = .ok (.istore_n 1, 1) := by decide +kernel
theorem dX6_undo_22 : decode cX6_undo 22 = .ok (.iload_n 1, 1) := by decide +kernel
theorem dX6_undo_23 : decode cX6_undo 23 = .ok (.bipush 82, 2) := by decide +kernel
theorem dX6_undo_25 : decode cX6_undo 25 = .ok (.if_icmp .ge 29, 3) := by decide +kernel
theorem dX6_undo_28 : decode cX6_undo 28 = .ok (.aload_n 0, 1) := by decide +kernel
theorem dX6_undo_29 : decode cX6_undo 29 = .ok (.getfield 19, 3) := by decide +kernel
theorem dX6_undo_32 : decode cX6_undo 32 = .ok (.iload_n 1, 1) := by decide +kernel
theorem dX6_undo_33 : decode cX6_undo 33 = .ok (.aload_n 0, 1) := by decide +kernel
theorem dX6_undo_34 : decode cX6_undo 34 = .ok (.getfield 38, 3) := by decide +kernel
theorem dX6_undo_37 : decode cX6_undo 37 = .ok (.bipush 82, 2) := by decide +kernel
theorem dX6_undo_39 : decode cX6_undo 39 = .ok (.aload_n 0, 1) := by decide +kernel
theorem dX6_undo_40 : decode cX6_undo 40 = .ok (.getfield 157, 3) := by decide +kernel
theorem dX6_undo_43 : decode cX6_undo 43 = .ok (.imul, 1) := by decide +kernel
theorem dX6_undo_44 : decode cX6_undo 44 = .ok (.iload_n 1, 1) := by decide +kernel
theorem dX6_undo_45 : decode cX6_undo 45 = .ok (.iadd, 1) := by decide +kernel
theorem dX6_undo_46 : decode cX6_undo 46 = .ok (.iaload, 1) := by decide +kernel
theorem dX6_undo_47 : decode cX6_undo 47 = .ok (.iastore, 1) := by decide +kernel
theorem dX6_undo_48 : decode cX6_undo 48 = .ok (.iinc 1 1, 3) := by decide +kernel
theorem dX6_undo_51 : decode cX6_undo 51 = .ok (.goto (-29), 3) := by decide +kernel
theorem dX6_undo_54 : decode cX6_undo 54 = .ok (.aload_n 0, 1) := by decide +kernel
theorem dX6_undo_55 : decode cX6_undo 55 = .ok (.getfield 157, 3) := by decide +kernel
theorem dX6_undo_58 : decode cX6_undo 58 = .ok (.ireturn, 1) := by decide +kernel
set_option maxRecDepth 20000 in
theorem ggX6_like_X6_isSitter : GoodIn wsX6_like wsX6_isSitter := goodIn_r _ [8, 9, 10, 11, 7, 12, 21, 22, 23, 24, 25, 26, 27, 28, 29, 30, 31, 32, 33, 34, 35, 36, 37, 38, 39, 40, 41, 42, 43, 44, 45, 46, 47, 48, 49, 50, 51, 52, 53] (by decide +kernel) (by decide +kernel)
set_option maxRecDepth 20000 in
theorem gX6_like_X6_isSitter : GoodIn wsX6_like (wsV RX6 187 RX6 yX6_isSitter wsX6_isSitter) := goodIn_app (goodIn_of _ (by decide +kernel)) ggX6_like_X6_isSitter
set_option maxRecDepth 20000 in
theorem ggX6_like_X6_in : GoodIn wsX6_like wsX6_in := goodIn_r _ [12] (by decide +kernel) (by decide +kernel)
set_option maxRecDepth 20000 in
theorem gX6_like_X6_in : GoodIn wsX6_like (va_wsS RX6 75 yX6_in wsX6_in) := goodIn_app (goodIn_of _ (by decide +kernel)) ggX6_like_X6_in
set_option maxRecDepth 20000 in
theorem ggX6_like_X6_likeBy : GoodIn wsX6_like wsX6_likeBy := goodIn_r _ [16, 17, 18, 19, 7, 20, 21, 22, 23, 24, 25, 26, 27, 28, 29, 30, 31, 32, 33, 34, 35, 36, 37, 38, 39, 40, 41, 42, 43, 44, 45, 46, 47, 48, 49, 50, 51, 52, 53] (by decide +kernel) (by decide +kernel)
set_option maxRecDepth 20000 in
theorem gX6_like_X6_likeBy : GoodIn wsX6_like (wsV RX6 249 RX6 yX6_likeBy wsX6_likeBy) := goodIn_app (goodIn_of _ (by decide +kernel)) ggX6_like_X6_likeBy
theorem dX6_like_0 : decode cX6_like 0 = .ok (.aload_n 0, 1) := by decide +kernel
theorem dX6_like_1 : decode cX6_like 1 = .ok (.iload_n 1, 1) := by decide +kernel
theorem dX6_like_2 : decode cX6_like 2 = .ok (.invokevirtual 187, 3) := by decide +kernel
theorem dX6_like_5 : decode cX6_like 5 = .ok (.ifCond .ne 6, 3) := by decide +kernel
theorem dX6_like_8 : decode cX6_like 8 = .ok (.ldc 190, 2) := by decide +kernel
theorem dX6_like_10 : decode cX6_like 10 = .ok (.ireturn, 1) := by decide +kernel
theorem dX6_like_11 : decode cX6_like 11 = .ok (.iload_n 2, 1) := by decide +kernel
theorem dX6_like_12 : decode cX6_like 12 = .ok (.i2l, 1) := by decide +kernel
theorem dX6_like_13 : decode cX6_like 13 = .ok (.lconst 0, 1) := by decide +kernel
theorem dX6_like_14 : decode cX6_like 14 = .ok (.ldc2_w 247, 3) := by decide +kernel
theorem dX6_like_17 : decode cX6_like 17 = .ok (.invokestatic 75, 3) := by decide +kernel
theorem dX6_like_20 : decode cX6_like 20 = .ok (.ifCond .eq 12, 3) := by decide +kernel
theorem dX6_like_23 : decode cX6_like 23 = .ok (.aload_n 0, 1) := by decide +kernel
theorem dX6_like_24 : decode cX6_like 24 = .ok (.iload_n 1, 1) := by decide +kernel
theorem dX6_like_25 : decode cX6_like 25 = .ok (.iload_n 2, 1) := by decide +kernel
theorem dX6_like_26 : decode cX6_like 26 = .ok (.invokevirtual 249, 3) := by decide +kernel
theorem dX6_like_29 : decode cX6_like 29 = .ok (.goto 5, 3) := by decide +kernel
theorem dX6_like_32 : decode cX6_like 32 = .ok (.ldc 84, 2) := by decide +kernel
theorem dX6_like_34 : decode cX6_like 34 = .ok (.ireturn, 1) := by decide +kernel
set_option maxRecDepth 20000 in
theorem ggX6_seenAs_X6_in : GoodIn wsX6_seenAs wsX6_in := goodIn_r _ [7] (by decide +kernel) (by decide +kernel)
set_option maxRecDepth 20000 in
theorem gX6_seenAs_X6_in : GoodIn wsX6_seenAs (va_wsS RX6 75 yX6_in wsX6_in) := goodIn_app (goodIn_of _ (by decide +kernel)) ggX6_seenAs_X6_in
set_option maxRecDepth 20000 in
theorem ggX6_seenAs_X6_mostLike : GoodIn wsX6_seenAs wsX6_mostLike := goodIn_r _ [11, 12, 13, 14, 15, 6, 16, 17, 18, 19, 20, 21, 22, 23, 24, 25, 26, 27, 28, 29, 30, 31, 32, 33, 34, 35, 36, 37, 38, 39, 40, 41, 42, 43, 44, 45, 46, 47, 48, 49] (by decide +kernel) (by decide +kernel)
set_option maxRecDepth 20000 in
theorem gX6_seenAs_X6_mostLike : GoodIn wsX6_seenAs (wsV RX6 198 RX6 yX6_mostLike wsX6_mostLike) := goodIn_app (goodIn_of _ (by decide +kernel)) ggX6_seenAs_X6_mostLike
theorem dX6_seenAs_0 : decode cX6_seenAs 0 = .ok (.iload_n 1, 1) := by decide +kernel
theorem dX6_seenAs_1 : decode cX6_seenAs 1 = .ok (.i2l, 1) := by decide +kernel
theorem dX6_seenAs_2 : decode cX6_seenAs 2 = .ok (.lconst 0, 1) := by decide +kernel
theorem dX6_seenAs_3 : decode cX6_seenAs 3 = .ok (.ldc2_w 247, 3) := by decide +kernel
theorem dX6_seenAs_6 : decode cX6_seenAs 6 = .ok (.invokestatic 75, 3) := by decide +kernel
theorem dX6_seenAs_9 : decode cX6_seenAs 9 = .ok (.ifCond .eq 13, 3) := by decide +kernel
theorem dX6_seenAs_12 : decode cX6_seenAs 12 = .ok (.aload_n 0, 1) := by decide +kernel
theorem dX6_seenAs_13 : decode cX6_seenAs 13 = .ok (.iload_n 1, 1) := by decide +kernel
theorem dX6_seenAs_14 : decode cX6_seenAs 14 = .ok (.ldc 197, 2) := by decide +kernel
theorem dX6_seenAs_16 : decode cX6_seenAs 16 = .ok (.invokevirtual 198, 3) := by decide +kernel
theorem dX6_seenAs_19 : decode cX6_seenAs 19 = .ok (.goto 5, 3) := by decide +kernel
theorem dX6_seenAs_22 : decode cX6_seenAs 22 = .ok (.ldc 84, 2) := by decide +kernel
theorem dX6_seenAs_24 : decode cX6_seenAs 24 = .ok (.ireturn, 1) := by decide +kernel
set_option maxRecDepth 20000 in
theorem ggX6_bestLamp_X6_isWindow : GoodIn wsX6_bestLamp wsX6_isWindow := goodIn_r _ [8, 9, 10, 11, 7, 12, 38, 39, 40, 41, 42, 43, 44, 45, 46, 47, 48, 49, 50, 51, 52, 53, 54, 55, 56, 57, 58, 59, 60, 61, 62, 63, 64, 65, 66, 67, 68, 69, 70] (by decide +kernel) (by decide +kernel)
set_option maxRecDepth 20000 in
theorem gX6_bestLamp_X6_isWindow : GoodIn wsX6_bestLamp (wsV RX6 194 RX6 yX6_isWindow wsX6_isWindow) := goodIn_app (goodIn_of _ (by decide +kernel)) ggX6_bestLamp_X6_isWindow
set_option maxRecDepth 20000 in
theorem ggX6_bestLamp_X6_isSitter : GoodIn wsX6_bestLamp wsX6_isSitter := goodIn_r _ [16, 17, 10, 11, 7, 12, 38, 39, 40, 41, 42, 43, 44, 45, 46, 47, 48, 49, 50, 51, 52, 53, 54, 55, 56, 57, 58, 59, 60, 61, 62, 63, 64, 65, 66, 67, 68, 69, 70] (by decide +kernel) (by decide +kernel)
set_option maxRecDepth 20000 in
theorem gX6_bestLamp_X6_isSitter : GoodIn wsX6_bestLamp (wsV RX6 187 RX6 yX6_isSitter wsX6_isSitter) := goodIn_app (goodIn_of _ (by decide +kernel)) ggX6_bestLamp_X6_isSitter
set_option maxRecDepth 20000 in
theorem ggX6_bestLamp_X6_in : GoodIn wsX6_bestLamp wsX6_in := goodIn_r _ [12] (by decide +kernel) (by decide +kernel)
set_option maxRecDepth 20000 in
theorem gX6_bestLamp_X6_in : GoodIn wsX6_bestLamp (va_wsS RX6 75 yX6_in wsX6_in) := goodIn_app (goodIn_of _ (by decide +kernel)) ggX6_bestLamp_X6_in
set_option maxRecDepth 20000 in
theorem ggX6_bestLamp_X6_drawnBy : GoodIn wsX6_bestLamp wsX6_drawnBy := goodIn_r _ [21, 22, 3, 23, 24, 25, 7, 26, 27, 28, 29, 30, 10, 11, 12, 38, 39, 40, 41, 42, 43, 44, 45, 46, 47, 48, 49, 50, 51, 52, 53, 54, 55, 56, 57, 58, 59, 60, 61, 62, 63, 64, 65, 66, 67, 68, 69, 70] (by decide +kernel) (by decide +kernel)
set_option maxRecDepth 20000 in
theorem gX6_bestLamp_X6_drawnBy : GoodIn wsX6_bestLamp (wsV RX6 172 RX6 yX6_drawnBy wsX6_drawnBy) := goodIn_app (goodIn_of _ (by decide +kernel)) ggX6_bestLamp_X6_drawnBy
set_option maxRecDepth 20000 in
theorem ggX6_bestLamp_X6_likeBy : GoodIn wsX6_bestLamp wsX6_likeBy := goodIn_r _ [34, 22, 35, 36, 7, 37, 38, 39, 40, 41, 42, 43, 44, 45, 46, 47, 48, 49, 50, 51, 52, 53, 54, 55, 56, 57, 58, 59, 60, 61, 62, 63, 64, 65, 66, 67, 68, 69, 70] (by decide +kernel) (by decide +kernel)
set_option maxRecDepth 20000 in
theorem gX6_bestLamp_X6_likeBy : GoodIn wsX6_bestLamp (wsV RX6 249 RX6 yX6_likeBy wsX6_likeBy) := goodIn_app (goodIn_of _ (by decide +kernel)) ggX6_bestLamp_X6_likeBy
theorem dX6_bestLamp_0 : decode cX6_bestLamp 0 = .ok (.aload_n 0, 1) := by decide +kernel
theorem dX6_bestLamp_1 : decode cX6_bestLamp 1 = .ok (.iload_n 1, 1) := by decide +kernel
theorem dX6_bestLamp_2 : decode cX6_bestLamp 2 = .ok (.invokevirtual 194, 3) := by decide +kernel
theorem dX6_bestLamp_5 : decode cX6_bestLamp 5 = .ok (.ifCond .eq 11, 3) := by decide +kernel
theorem dX6_bestLamp_8 : decode cX6_bestLamp 8 = .ok (.aload_n 0, 1) := by decide +kernel
theorem dX6_bestLamp_9 : decode cX6_bestLamp 9 = .ok (.iload_n 2, 1) := by decide +kernel
theorem dX6_bestLamp_10 : decode cX6_bestLamp 10 = .ok (.invokevirtual 187, 3) := by decide +kernel
theorem dX6_bestLamp_13 : decode cX6_bestLamp 13 = .ok (.ifCond .ne 6, 3) := by decide +kernel
theorem dX6_bestLamp_16 : decode cX6_bestLamp 16 = .ok (.ldc 190, 2) := by decide +kernel
theorem dX6_bestLamp_18 : decode cX6_bestLamp 18 = .ok (.ireturn, 1) := by decide +kernel
theorem dX6_bestLamp_19 : decode cX6_bestLamp 19 = .ok (.iload_n 3, 1) := by decide +kernel
theorem dX6_bestLamp_20 : decode cX6_bestLamp 20 = .ok (.i2l, 1) := by decide +kernel
theorem dX6_bestLamp_21 : decode cX6_bestLamp 21 = .ok (.lconst 0, 1) := by decide +kernel
theorem dX6_bestLamp_22 : decode cX6_bestLamp 22 = .ok (.lconst 1, 1) := by decide +kernel
theorem dX6_bestLamp_23 : decode cX6_bestLamp 23 = .ok (.invokestatic 75, 3) := by decide +kernel
theorem dX6_bestLamp_26 : decode cX6_bestLamp 26 = .ok (.ifCond .ne 6, 3) := by decide +kernel
theorem dX6_bestLamp_29 : decode cX6_bestLamp 29 = .ok (.ldc 84, 2) := by decide +kernel
theorem dX6_bestLamp_31 : decode cX6_bestLamp 31 = .ok (.ireturn, 1) := by decide +kernel
theorem dX6_bestLamp_32 : decode cX6_bestLamp 32 = .ok (.iconst 0, 1) := by decide +kernel
theorem dX6_bestLamp_33 : decode cX6_bestLamp 33 = .ok (.istore 4, 2) := by decide +kernel
theorem dX6_bestLamp_35 : decode cX6_bestLamp 35 = .ok (.iconst (-1), 1) := by decide +kernel
theorem dX6_bestLamp_36 : decode cX6_bestLamp 36 = .ok (.istore 5, 2) := by decide +kernel
theorem dX6_bestLamp_38 : decode cX6_bestLamp 38 = .ok (.iconst 0, 1) := by decide +kernel
theorem dX6_bestLamp_39 : decode cX6_bestLamp 39 = .ok (.istore 6, 2) := by decide +kernel
theorem dX6_bestLamp_41 : decode cX6_bestLamp 41 = .ok (.iload 6, 2) := by decide +kernel
theorem dX6_bestLamp_43 : decode cX6_bestLamp 43 = .ok (.bipush 6, 2) := by decide +kernel
theorem dX6_bestLamp_45 : decode cX6_bestLamp 45 = .ok (.if_icmp .ge 62, 3) := by decide +kernel
theorem dX6_bestLamp_48 : decode cX6_bestLamp 48 = .ok (.aload_n 0, 1) := by decide +kernel
theorem dX6_bestLamp_49 : decode cX6_bestLamp 49 = .ok (.iload_n 2, 1) := by decide +kernel
theorem dX6_bestLamp_50 : decode cX6_bestLamp 50 = .ok (.aload_n 0, 1) := by decide +kernel
theorem dX6_bestLamp_51 : decode cX6_bestLamp 51 = .ok (.iload_n 2, 1) := by decide +kernel
theorem dX6_bestLamp_52 : decode cX6_bestLamp 52 = .ok (.iload 6, 2) := by decide +kernel
theorem dX6_bestLamp_54 : decode cX6_bestLamp 54 = .ok (.aload_n 0, 1) := by decide +kernel
theorem dX6_bestLamp_55 : decode cX6_bestLamp 55 = .ok (.getfield 19, 3) := by decide +kernel
theorem dX6_bestLamp_58 : decode cX6_bestLamp 58 = .ok (.iconst 1, 1) := by decide +kernel
theorem dX6_bestLamp_59 : decode cX6_bestLamp 59 = .ok (.iaload, 1) := by decide +kernel
theorem dX6_bestLamp_60 : decode cX6_bestLamp 60 = .ok (.iadd, 1) := by decide +kernel
theorem dX6_bestLamp_61 : decode cX6_bestLamp 61 = .ok (.invokevirtual 172, 3) := by decide +kernel
theorem dX6_bestLamp_64 : decode cX6_bestLamp 64 = .ok (.invokevirtual 249, 3) := by decide +kernel
theorem dX6_bestLamp_67 : decode cX6_bestLamp 67 = .ok (.istore 7, 2) := by decide +kernel
theorem dX6_bestLamp_69 : decode cX6_bestLamp 69 = .ok (.iload 7, 2) := by decide +kernel
theorem dX6_bestLamp_71 : decode cX6_bestLamp 71 = .ok (.iload 5, 2) := by decide +kernel
theorem dX6_bestLamp_73 : decode cX6_bestLamp 73 = .ok (.if_icmp .le 8, 3) := by decide +kernel
theorem dX6_bestLamp_76 : decode cX6_bestLamp 76 = .ok (.iload 6, 2) := by decide +kernel
theorem dX6_bestLamp_78 : decode cX6_bestLamp 78 = .ok (.goto 5, 3) := by decide +kernel
theorem dX6_bestLamp_81 : decode cX6_bestLamp 81 = .ok (.iload 4, 2) := by decide +kernel
theorem dX6_bestLamp_83 : decode cX6_bestLamp 83 = .ok (.istore 4, 2) := by decide +kernel
theorem dX6_bestLamp_85 : decode cX6_bestLamp 85 = .ok (.iload 7, 2) := by decide +kernel
theorem dX6_bestLamp_87 : decode cX6_bestLamp 87 = .ok (.iload 5, 2) := by decide +kernel
theorem dX6_bestLamp_89 : decode cX6_bestLamp 89 = .ok (.if_icmp .le 8, 3) := by decide +kernel
theorem dX6_bestLamp_92 : decode cX6_bestLamp 92 = .ok (.iload 7, 2) := by decide +kernel
theorem dX6_bestLamp_94 : decode cX6_bestLamp 94 = .ok (.goto 5, 3) := by decide +kernel
theorem dX6_bestLamp_97 : decode cX6_bestLamp 97 = .ok (.iload 5, 2) := by decide +kernel
theorem dX6_bestLamp_99 : decode cX6_bestLamp 99 = .ok (.istore 5, 2) := by decide +kernel
theorem dX6_bestLamp_101 : decode cX6_bestLamp 101 = .ok (.iinc 6 1, 3) := by decide +kernel
theorem dX6_bestLamp_104 : decode cX6_bestLamp 104 = .ok (.goto (-63), 3) := by decide +kernel
theorem dX6_bestLamp_107 : decode cX6_bestLamp 107 = .ok (.iload_n 3, 1) := by decide +kernel
theorem dX6_bestLamp_108 : decode cX6_bestLamp 108 = .ok (.ifCond .ne 8, 3) := by decide +kernel
theorem dX6_bestLamp_111 : decode cX6_bestLamp 111 = .ok (.iload 4, 2) := by decide +kernel
theorem dX6_bestLamp_113 : decode cX6_bestLamp 113 = .ok (.goto 5, 3) := by decide +kernel
theorem dX6_bestLamp_116 : decode cX6_bestLamp 116 = .ok (.iload 5, 2) := by decide +kernel
theorem dX6_bestLamp_118 : decode cX6_bestLamp 118 = .ok (.ireturn, 1) := by decide +kernel
set_option maxRecDepth 20000 in
theorem ggX6_who_X6_in : GoodIn wsX6_who wsX6_in := goodIn_r _ [9] (by decide +kernel) (by decide +kernel)
set_option maxRecDepth 20000 in
theorem gX6_who_X6_in : GoodIn wsX6_who (va_wsS RX6 75 yX6_in wsX6_in) := goodIn_app (goodIn_of _ (by decide +kernel)) ggX6_who_X6_in
set_option maxRecDepth 20000 in
theorem ggX6_who_X6_shifted : GoodIn wsX6_who wsX6_shifted := goodIn_r _ [12, 13, 14, 15, 8, 16, 6, 7, 9] (by decide +kernel) (by decide +kernel)
set_option maxRecDepth 20000 in
theorem gX6_who_X6_shifted : GoodIn wsX6_who (va_wsS RX6 166 yX6_shifted wsX6_shifted) := goodIn_app (goodIn_of _ (by decide +kernel)) ggX6_who_X6_shifted
theorem dX6_who_0 : decode cX6_who 0 = .ok (.iload_n 1, 1) := by decide +kernel
theorem dX6_who_1 : decode cX6_who 1 = .ok (.i2l, 1) := by decide +kernel
theorem dX6_who_2 : decode cX6_who 2 = .ok (.lconst 0, 1) := by decide +kernel
theorem dX6_who_3 : decode cX6_who 3 = .ok (.ldc2_w 247, 3) := by decide +kernel
theorem dX6_who_6 : decode cX6_who 6 = .ok (.invokestatic 75, 3) := by decide +kernel
theorem dX6_who_9 : decode cX6_who 9 = .ok (.ifCond .eq 15, 3) := by decide +kernel
theorem dX6_who_12 : decode cX6_who 12 = .ok (.iload_n 2, 1) := by decide +kernel
theorem dX6_who_13 : decode cX6_who 13 = .ok (.i2l, 1) := by decide +kernel
theorem dX6_who_14 : decode cX6_who 14 = .ok (.lconst 0, 1) := by decide +kernel
theorem dX6_who_15 : decode cX6_who 15 = .ok (.ldc2_w 201, 3) := by decide +kernel
theorem dX6_who_18 : decode cX6_who 18 = .ok (.invokestatic 75, 3) := by decide +kernel
theorem dX6_who_21 : decode cX6_who 21 = .ok (.ifCond .ne 6, 3) := by decide +kernel
theorem dX6_who_24 : decode cX6_who 24 = .ok (.ldc 84, 2) := by decide +kernel
theorem dX6_who_26 : decode cX6_who 26 = .ok (.ireturn, 1) := by decide +kernel
theorem dX6_who_27 : decode cX6_who 27 = .ok (.iconst 0, 1) := by decide +kernel
theorem dX6_who_28 : decode cX6_who 28 = .ok (.istore_n 3, 1) := by decide +kernel
theorem dX6_who_29 : decode cX6_who 29 = .ok (.iconst 0, 1) := by decide +kernel
theorem dX6_who_30 : decode cX6_who 30 = .ok (.istore 4, 2) := by decide +kernel
theorem dX6_who_32 : decode cX6_who 32 = .ok (.iconst (-1), 1) := by decide +kernel
theorem dX6_who_33 : decode cX6_who 33 = .ok (.istore 5, 2) := by decide +kernel
theorem dX6_who_35 : decode cX6_who 35 = .ok (.iconst 0, 1) := by decide +kernel
theorem dX6_who_36 : decode cX6_who 36 = .ok (.istore 6, 2) := by decide +kernel
theorem dX6_who_38 : decode cX6_who 38 = .ok (.iload 6, 2) := by decide +kernel
theorem dX6_who_40 : decode cX6_who 40 = .ok (.aload_n 0, 1) := by decide +kernel
theorem dX6_who_41 : decode cX6_who 41 = .ok (.getfield 72, 3) := by decide +kernel
theorem dX6_who_44 : decode cX6_who 44 = .ok (.if_icmp .ge 75, 3) := by decide +kernel
theorem dX6_who_47 : decode cX6_who 47 = .ok (.bipush (-3), 2) := by decide +kernel
theorem dX6_who_49 : decode cX6_who 49 = .ok (.istore 7, 2) := by decide +kernel
theorem dX6_who_51 : decode cX6_who 51 = .ok (.iload 7, 2) := by decide +kernel
theorem dX6_who_53 : decode cX6_who 53 = .ok (.bipush 8, 2) := by decide +kernel
theorem dX6_who_55 : decode cX6_who 55 = .ok (.if_icmp .gt 58, 3) := by decide +kernel
theorem dX6_who_58 : decode cX6_who 58 = .ok (.aload_n 0, 1) := by decide +kernel
theorem dX6_who_59 : decode cX6_who 59 = .ok (.getfield 7, 3) := by decide +kernel
theorem dX6_who_62 : decode cX6_who 62 = .ok (.iload 6, 2) := by decide +kernel
theorem dX6_who_64 : decode cX6_who 64 = .ok (.iaload, 1) := by decide +kernel
theorem dX6_who_65 : decode cX6_who 65 = .ok (.iload 7, 2) := by decide +kernel
theorem dX6_who_67 : decode cX6_who 67 = .ok (.invokestatic 166, 3) := by decide +kernel
theorem dX6_who_70 : decode cX6_who 70 = .ok (.iload_n 1, 1) := by decide +kernel
theorem dX6_who_71 : decode cX6_who 71 = .ok (.if_icmp .ne 36, 3) := by decide +kernel
theorem dX6_who_74 : decode cX6_who 74 = .ok (.iload_n 3, 1) := by decide +kernel
theorem dX6_who_75 : decode cX6_who 75 = .ok (.ifCond .ne 16, 3) := by decide +kernel
theorem dX6_who_78 : decode cX6_who 78 = .ok (.bipush 100, 2) := by decide +kernel
theorem dX6_who_80 : decode cX6_who 80 = .ok (.iload 6, 2) := by decide +kernel
theorem dX6_who_82 : decode cX6_who 82 = .ok (.imul, 1) := by decide +kernel
theorem dX6_who_83 : decode cX6_who 83 = .ok (.iload 7, 2) := by decide +kernel
theorem dX6_who_85 : decode cX6_who 85 = .ok (.iadd, 1) := by decide +kernel
theorem dX6_who_86 : decode cX6_who 86 = .ok (.iconst 3, 1) := by decide +kernel
theorem dX6_who_87 : decode cX6_who 87 = .ok (.iadd, 1) := by decide +kernel
theorem dX6_who_88 : decode cX6_who 88 = .ok (.goto 5, 3) := by decide +kernel
theorem dX6_who_91 : decode cX6_who 91 = .ok (.iload 5, 2) := by decide +kernel
theorem dX6_who_93 : decode cX6_who 93 = .ok (.istore 5, 2) := by decide +kernel
theorem dX6_who_95 : decode cX6_who 95 = .ok (.iload 4, 2) := by decide +kernel
theorem dX6_who_97 : decode cX6_who 97 = .ok (.iconst 1, 1) := by decide +kernel
theorem dX6_who_98 : decode cX6_who 98 = .ok (.iload 6, 2) := by decide +kernel
theorem dX6_who_100 : decode cX6_who 100 = .ok (.ishl, 1) := by decide +kernel
theorem dX6_who_101 : decode cX6_who 101 = .ok (.ior, 1) := by decide +kernel
theorem dX6_who_102 : decode cX6_who 102 = .ok (.istore 4, 2) := by decide +kernel
theorem dX6_who_104 : decode cX6_who 104 = .ok (.iinc 3 1, 3) := by decide +kernel
theorem dX6_who_107 : decode cX6_who 107 = .ok (.iinc 7 1, 3) := by decide +kernel
theorem dX6_who_110 : decode cX6_who 110 = .ok (.goto (-59), 3) := by decide +kernel
theorem dX6_who_113 : decode cX6_who 113 = .ok (.iinc 6 1, 3) := by decide +kernel
theorem dX6_who_116 : decode cX6_who 116 = .ok (.goto (-78), 3) := by decide +kernel
theorem dX6_who_119 : decode cX6_who 119 = .ok (.iload_n 2, 1) := by decide +kernel
theorem dX6_who_120 : decode cX6_who 120 = .ok (.ifCond .ne 7, 3) := by decide +kernel
theorem dX6_who_123 : decode cX6_who 123 = .ok (.iload_n 3, 1) := by decide +kernel
theorem dX6_who_124 : decode cX6_who 124 = .ok (.goto 15, 3) := by decide +kernel
theorem dX6_who_127 : decode cX6_who 127 = .ok (.iload_n 2, 1) := by decide +kernel
theorem dX6_who_128 : decode cX6_who 128 = .ok (.iconst 1, 1) := by decide +kernel
theorem dX6_who_129 : decode cX6_who 129 = .ok (.if_icmp .ne 8, 3) := by decide +kernel
theorem dX6_who_132 : decode cX6_who 132 = .ok (.iload 4, 2) := by decide +kernel
theorem dX6_who_134 : decode cX6_who 134 = .ok (.goto 5, 3) := by decide +kernel
theorem dX6_who_137 : decode cX6_who 137 = .ok (.iload 5, 2) := by decide +kernel
theorem dX6_who_139 : decode cX6_who 139 = .ok (.ireturn, 1) := by decide +kernel
set_option maxRecDepth 20000 in
theorem ggX6_parted_X6_in : GoodIn wsX6_parted wsX6_in := goodIn_r _ [8] (by decide +kernel) (by decide +kernel)
set_option maxRecDepth 20000 in
theorem gX6_parted_X6_in : GoodIn wsX6_parted (va_wsS RX6 75 yX6_in wsX6_in) := goodIn_app (goodIn_of _ (by decide +kernel)) ggX6_parted_X6_in
set_option maxRecDepth 20000 in
theorem ggX6_parted_X6_shifted : GoodIn wsX6_parted wsX6_shifted := goodIn_r _ [11, 12, 13, 14, 7, 15, 5, 6, 8] (by decide +kernel) (by decide +kernel)
set_option maxRecDepth 20000 in
theorem gX6_parted_X6_shifted : GoodIn wsX6_parted (va_wsS RX6 166 yX6_shifted wsX6_shifted) := goodIn_app (goodIn_of _ (by decide +kernel)) ggX6_parted_X6_shifted
theorem dX6_parted_0 : decode cX6_parted 0 = .ok (.iload_n 1, 1) := by decide +kernel
theorem dX6_parted_1 : decode cX6_parted 1 = .ok (.i2l, 1) := by decide +kernel
theorem dX6_parted_2 : decode cX6_parted 2 = .ok (.lconst 0, 1) := by decide +kernel
theorem dX6_parted_3 : decode cX6_parted 3 = .ok (.ldc2_w 247, 3) := by decide +kernel
theorem dX6_parted_6 : decode cX6_parted 6 = .ok (.invokestatic 75, 3) := by decide +kernel
theorem dX6_parted_9 : decode cX6_parted 9 = .ok (.ifCond .eq 13, 3) := by decide +kernel
theorem dX6_parted_12 : decode cX6_parted 12 = .ok (.iload_n 2, 1) := by decide +kernel
theorem dX6_parted_13 : decode cX6_parted 13 = .ok (.i2l, 1) := by decide +kernel
theorem dX6_parted_14 : decode cX6_parted 14 = .ok (.lconst 0, 1) := by decide +kernel
theorem dX6_parted_15 : decode cX6_parted 15 = .ok (.lconst 1, 1) := by decide +kernel
theorem dX6_parted_16 : decode cX6_parted 16 = .ok (.invokestatic 75, 3) := by decide +kernel
theorem dX6_parted_19 : decode cX6_parted 19 = .ok (.ifCond .ne 6, 3) := by decide +kernel
theorem dX6_parted_22 : decode cX6_parted 22 = .ok (.ldc 84, 2) := by decide +kernel
theorem dX6_parted_24 : decode cX6_parted 24 = .ok (.ireturn, 1) := by decide +kernel
theorem dX6_parted_25 : decode cX6_parted 25 = .ok (.iconst 0, 1) := by decide +kernel
theorem dX6_parted_26 : decode cX6_parted 26 = .ok (.istore_n 3, 1) := by decide +kernel
theorem dX6_parted_27 : decode cX6_parted 27 = .ok (.iconst (-1), 1) := by decide +kernel
theorem dX6_parted_28 : decode cX6_parted 28 = .ok (.istore 4, 2) := by decide +kernel
theorem dX6_parted_30 : decode cX6_parted 30 = .ok (.iconst 0, 1) := by decide +kernel
theorem dX6_parted_31 : decode cX6_parted 31 = .ok (.istore 5, 2) := by decide +kernel
theorem dX6_parted_33 : decode cX6_parted 33 = .ok (.iload 5, 2) := by decide +kernel
theorem dX6_parted_35 : decode cX6_parted 35 = .ok (.aload_n 0, 1) := by decide +kernel
theorem dX6_parted_36 : decode cX6_parted 36 = .ok (.getfield 72, 3) := by decide +kernel
theorem dX6_parted_39 : decode cX6_parted 39 = .ok (.if_icmp .ge 122, 3) := by decide +kernel
theorem dX6_parted_42 : decode cX6_parted 42 = .ok (.iload 5, 2) := by decide +kernel
theorem dX6_parted_44 : decode cX6_parted 44 = .ok (.iconst 1, 1) := by decide +kernel
theorem dX6_parted_45 : decode cX6_parted 45 = .ok (.iadd, 1) := by decide +kernel
theorem dX6_parted_46 : decode cX6_parted 46 = .ok (.istore 6, 2) := by decide +kernel
theorem dX6_parted_48 : decode cX6_parted 48 = .ok (.iload 6, 2) := by decide +kernel
theorem dX6_parted_50 : decode cX6_parted 50 = .ok (.aload_n 0, 1) := by decide +kernel
theorem dX6_parted_51 : decode cX6_parted 51 = .ok (.getfield 72, 3) := by decide +kernel
theorem dX6_parted_54 : decode cX6_parted 54 = .ok (.if_icmp .ge 101, 3) := by decide +kernel
theorem dX6_parted_57 : decode cX6_parted 57 = .ok (.iconst 0, 1) := by decide +kernel
theorem dX6_parted_58 : decode cX6_parted 58 = .ok (.istore 7, 2) := by decide +kernel
theorem dX6_parted_60 : decode cX6_parted 60 = .ok (.iload 7, 2) := by decide +kernel
theorem dX6_parted_62 : decode cX6_parted 62 = .ok (.bipush 36, 2) := by decide +kernel
theorem dX6_parted_64 : decode cX6_parted 64 = .ok (.if_icmp .ge 85, 3) := by decide +kernel
theorem dX6_parted_67 : decode cX6_parted 67 = .ok (.aload_n 0, 1) := by decide +kernel
theorem dX6_parted_68 : decode cX6_parted 68 = .ok (.getfield 7, 3) := by decide +kernel
theorem dX6_parted_71 : decode cX6_parted 71 = .ok (.iload 5, 2) := by decide +kernel
theorem dX6_parted_73 : decode cX6_parted 73 = .ok (.iaload, 1) := by decide +kernel
theorem dX6_parted_74 : decode cX6_parted 74 = .ok (.iload 7, 2) := by decide +kernel
theorem dX6_parted_76 : decode cX6_parted 76 = .ok (.bipush 6, 2) := by decide +kernel
theorem dX6_parted_78 : decode cX6_parted 78 = .ok (.idiv, 1) := by decide +kernel
theorem dX6_parted_79 : decode cX6_parted 79 = .ok (.invokestatic 166, 3) := by decide +kernel
theorem dX6_parted_82 : decode cX6_parted 82 = .ok (.aload_n 0, 1) := by decide +kernel
theorem dX6_parted_83 : decode cX6_parted 83 = .ok (.getfield 7, 3) := by decide +kernel
theorem dX6_parted_86 : decode cX6_parted 86 = .ok (.iload 6, 2) := by decide +kernel
theorem dX6_parted_88 : decode cX6_parted 88 = .ok (.iaload, 1) := by decide +kernel
theorem dX6_parted_89 : decode cX6_parted 89 = .ok (.iload 7, 2) := by decide +kernel
theorem dX6_parted_91 : decode cX6_parted 91 = .ok (.bipush 6, 2) := by decide +kernel
theorem dX6_parted_93 : decode cX6_parted 93 = .ok (.irem, 1) := by decide +kernel
theorem dX6_parted_94 : decode cX6_parted 94 = .ok (.invokestatic 166, 3) := by decide +kernel
theorem dX6_parted_97 : decode cX6_parted 97 = .ok (.ior, 1) := by decide +kernel
theorem dX6_parted_98 : decode cX6_parted 98 = .ok (.iload_n 1, 1) := by decide +kernel
theorem dX6_parted_99 : decode cX6_parted 99 = .ok (.if_icmp .ne 44, 3) := by decide +kernel
theorem dX6_parted_102 : decode cX6_parted 102 = .ok (.iload_n 3, 1) := by decide +kernel
theorem dX6_parted_103 : decode cX6_parted 103 = .ok (.ifCond .ne 33, 3) := by decide +kernel
theorem dX6_parted_106 : decode cX6_parted 106 = .ok (.sipush 1000, 3) := by decide +kernel
theorem dX6_parted_109 : decode cX6_parted 109 = .ok (.iload 5, 2) := by decide +kernel
theorem dX6_parted_111 : decode cX6_parted 111 = .ok (.imul, 1) := by decide +kernel
theorem dX6_parted_112 : decode cX6_parted 112 = .ok (.bipush 100, 2) := by decide +kernel
theorem dX6_parted_114 : decode cX6_parted 114 = .ok (.iload 6, 2) := by decide +kernel
theorem dX6_parted_116 : decode cX6_parted 116 = .ok (.imul, 1) := by decide +kernel
theorem dX6_parted_117 : decode cX6_parted 117 = .ok (.iadd, 1) := by decide +kernel
theorem dX6_parted_118 : decode cX6_parted 118 = .ok (.bipush 10, 2) := by decide +kernel
theorem dX6_parted_120 : decode cX6_parted 120 = .ok (.iload 7, 2) := by decide +kernel
theorem dX6_parted_122 : decode cX6_parted 122 = .ok (.bipush 6, 2) := by decide +kernel
theorem dX6_parted_124 : decode cX6_parted 124 = .ok (.idiv, 1) := by decide +kernel
theorem dX6_parted_125 : decode cX6_parted 125 = .ok (.imul, 1) := by decide +kernel
theorem dX6_parted_126 : decode cX6_parted 126 = .ok (.iadd, 1) := by decide +kernel
theorem dX6_parted_127 : decode cX6_parted 127 = .ok (.iload 7, 2) := by decide +kernel
theorem dX6_parted_129 : decode cX6_parted 129 = .ok (.bipush 6, 2) := by decide +kernel
theorem dX6_parted_131 : decode cX6_parted 131 = .ok (.irem, 1) := by decide +kernel
theorem dX6_parted_132 : decode cX6_parted 132 = .ok (.iadd, 1) := by decide +kernel
theorem dX6_parted_133 : decode cX6_parted 133 = .ok (.goto 5, 3) := by decide +kernel
theorem dX6_parted_136 : decode cX6_parted 136 = .ok (.iload 4, 2) := by decide +kernel
theorem dX6_parted_138 : decode cX6_parted 138 = .ok (.istore 4, 2) := by decide +kernel
theorem dX6_parted_140 : decode cX6_parted 140 = .ok (.iinc 3 1, 3) := by decide +kernel
theorem dX6_parted_143 : decode cX6_parted 143 = .ok (.iinc 7 1, 3) := by decide +kernel
theorem dX6_parted_146 : decode cX6_parted 146 = .ok (.goto (-86), 3) := by decide +kernel
theorem dX6_parted_149 : decode cX6_parted 149 = .ok (.iinc 6 1, 3) := by decide +kernel
theorem dX6_parted_152 : decode cX6_parted 152 = .ok (.goto (-104), 3) := by decide +kernel
theorem dX6_parted_155 : decode cX6_parted 155 = .ok (.iinc 5 1, 3) := by decide +kernel
theorem dX6_parted_158 : decode cX6_parted 158 = .ok (.goto (-125), 3) := by decide +kernel
theorem dX6_parted_161 : decode cX6_parted 161 = .ok (.iload_n 2, 1) := by decide +kernel
theorem dX6_parted_162 : decode cX6_parted 162 = .ok (.ifCond .ne 7, 3) := by decide +kernel
theorem dX6_parted_165 : decode cX6_parted 165 = .ok (.iload_n 3, 1) := by decide +kernel
theorem dX6_parted_166 : decode cX6_parted 166 = .ok (.goto 5, 3) := by decide +kernel
theorem dX6_parted_169 : decode cX6_parted 169 = .ok (.iload 4, 2) := by decide +kernel
theorem dX6_parted_171 : decode cX6_parted 171 = .ok (.ireturn, 1) := by decide +kernel
set_option maxRecDepth 20000 in
theorem ggX6_bestPlaces_X6_drawnBy : GoodIn wsX6_bestPlaces wsX6_drawnBy := goodIn_r _ [11, 12, 4, 13, 14, 15, 10, 16, 17, 18, 19, 20, 21, 22, 23, 24, 25, 26, 27, 28, 29, 30, 31, 32, 33, 34, 35, 36, 37, 38, 39, 40, 41, 42, 43, 44, 45, 46, 47, 48, 49, 50, 51, 52, 53, 54, 55, 56] (by decide +kernel) (by decide +kernel)
set_option maxRecDepth 20000 in
theorem gX6_bestPlaces_X6_drawnBy : GoodIn wsX6_bestPlaces (wsV RX6 172 RX6 yX6_drawnBy wsX6_drawnBy) := goodIn_app (goodIn_of _ (by decide +kernel)) ggX6_bestPlaces_X6_drawnBy
set_option maxRecDepth 20000 in
theorem ggX6_bestPlaces_X6_has : GoodIn wsX6_bestPlaces wsX6_has := goodIn_r _ [20] (by decide +kernel) (by decide +kernel)
set_option maxRecDepth 20000 in
theorem gX6_bestPlaces_X6_has : GoodIn wsX6_bestPlaces (va_wsS RX6 160 yX6_has wsX6_has) := goodIn_app (goodIn_of _ (by decide +kernel)) ggX6_bestPlaces_X6_has
theorem dX6_bestPlaces_0 : decode cX6_bestPlaces 0 = .ok (.iconst 0, 1) := by decide +kernel
theorem dX6_bestPlaces_1 : decode cX6_bestPlaces 1 = .ok (.istore_n 1, 1) := by decide +kernel
theorem dX6_bestPlaces_2 : decode cX6_bestPlaces 2 = .ok (.iload_n 1, 1) := by decide +kernel
theorem dX6_bestPlaces_3 : decode cX6_bestPlaces 3 = .ok (.aload_n 0, 1) := by decide +kernel
theorem dX6_bestPlaces_4 : decode cX6_bestPlaces 4 = .ok (.getfield 79, 3) := by decide +kernel
theorem dX6_bestPlaces_7 : decode cX6_bestPlaces 7 = .ok (.if_icmp .ge 57, 3) := by decide +kernel
theorem dX6_bestPlaces_10 : decode cX6_bestPlaces 10 = .ok (.iconst 0, 1) := by decide +kernel
theorem dX6_bestPlaces_11 : decode cX6_bestPlaces 11 = .ok (.istore_n 2, 1) := by decide +kernel
theorem dX6_bestPlaces_12 : decode cX6_bestPlaces 12 = .ok (.iload_n 2, 1) := by decide +kernel
theorem dX6_bestPlaces_13 : decode cX6_bestPlaces 13 = .ok (.aload_n 0, 1) := by decide +kernel
theorem dX6_bestPlaces_14 : decode cX6_bestPlaces 14 = .ok (.getfield 72, 3) := by decide +kernel
theorem dX6_bestPlaces_17 : decode cX6_bestPlaces 17 = .ok (.if_icmp .ge 41, 3) := by decide +kernel
theorem dX6_bestPlaces_20 : decode cX6_bestPlaces 20 = .ok (.aload_n 0, 1) := by decide +kernel
theorem dX6_bestPlaces_21 : decode cX6_bestPlaces 21 = .ok (.getfield 47, 3) := by decide +kernel
theorem dX6_bestPlaces_24 : decode cX6_bestPlaces 24 = .ok (.bipush 6, 2) := by decide +kernel
theorem dX6_bestPlaces_26 : decode cX6_bestPlaces 26 = .ok (.iload_n 1, 1) := by decide +kernel
theorem dX6_bestPlaces_27 : decode cX6_bestPlaces 27 = .ok (.imul, 1) := by decide +kernel
theorem dX6_bestPlaces_28 : decode cX6_bestPlaces 28 = .ok (.iload_n 2, 1) := by decide +kernel
theorem dX6_bestPlaces_29 : decode cX6_bestPlaces 29 = .ok (.iadd, 1) := by decide +kernel
theorem dX6_bestPlaces_30 : decode cX6_bestPlaces 30 = .ok (.aload_n 0, 1) := by decide +kernel
theorem dX6_bestPlaces_31 : decode cX6_bestPlaces 31 = .ok (.iload_n 2, 1) := by decide +kernel
theorem dX6_bestPlaces_32 : decode cX6_bestPlaces 32 = .ok (.aload_n 0, 1) := by decide +kernel
theorem dX6_bestPlaces_33 : decode cX6_bestPlaces 33 = .ok (.getfield 19, 3) := by decide +kernel
theorem dX6_bestPlaces_36 : decode cX6_bestPlaces 36 = .ok (.bipush 12, 2) := by decide +kernel
theorem dX6_bestPlaces_38 : decode cX6_bestPlaces 38 = .ok (.iload_n 1, 1) := by decide +kernel
theorem dX6_bestPlaces_39 : decode cX6_bestPlaces 39 = .ok (.iadd, 1) := by decide +kernel
theorem dX6_bestPlaces_40 : decode cX6_bestPlaces 40 = .ok (.iaload, 1) := by decide +kernel
theorem dX6_bestPlaces_41 : decode cX6_bestPlaces 41 = .ok (.aload_n 0, 1) := by decide +kernel
theorem dX6_bestPlaces_42 : decode cX6_bestPlaces 42 = .ok (.getfield 19, 3) := by decide +kernel
theorem dX6_bestPlaces_45 : decode cX6_bestPlaces 45 = .ok (.iconst 1, 1) := by decide +kernel
theorem dX6_bestPlaces_46 : decode cX6_bestPlaces 46 = .ok (.iaload, 1) := by decide +kernel
theorem dX6_bestPlaces_47 : decode cX6_bestPlaces 47 = .ok (.iadd, 1) := by decide +kernel
theorem dX6_bestPlaces_48 : decode cX6_bestPlaces 48 = .ok (.invokevirtual 172, 3) := by decide +kernel
theorem dX6_bestPlaces_51 : decode cX6_bestPlaces 51 = .ok (.iastore, 1) := by decide +kernel
theorem dX6_bestPlaces_52 : decode cX6_bestPlaces 52 = .ok (.iinc 2 1, 3) := by decide +kernel
theorem dX6_bestPlaces_55 : decode cX6_bestPlaces 55 = .ok (.goto (-43), 3) := by decide +kernel
theorem dX6_bestPlaces_58 : decode cX6_bestPlaces 58 = .ok (.iinc 1 1, 3) := by decide +kernel
theorem dX6_bestPlaces_61 : decode cX6_bestPlaces 61 = .ok (.goto (-59), 3) := by decide +kernel
theorem dX6_bestPlaces_64 : decode cX6_bestPlaces 64 = .ok (.iconst (-1), 1) := by decide +kernel
theorem dX6_bestPlaces_65 : decode cX6_bestPlaces 65 = .ok (.istore_n 1, 1) := by decide +kernel
theorem dX6_bestPlaces_66 : decode cX6_bestPlaces 66 = .ok (.iconst 0, 1) := by decide +kernel
theorem dX6_bestPlaces_67 : decode cX6_bestPlaces 67 = .ok (.istore_n 2, 1) := by decide +kernel
theorem dX6_bestPlaces_68 : decode cX6_bestPlaces 68 = .ok (.aload_n 0, 1) := by decide +kernel
theorem dX6_bestPlaces_69 : decode cX6_bestPlaces 69 = .ok (.getfield 41, 3) := by decide +kernel
theorem dX6_bestPlaces_72 : decode cX6_bestPlaces 72 = .ok (.iconst 0, 1) := by decide +kernel
theorem dX6_bestPlaces_73 : decode cX6_bestPlaces 73 = .ok (.iconst (-1), 1) := by decide +kernel
theorem dX6_bestPlaces_74 : decode cX6_bestPlaces 74 = .ok (.iastore, 1) := by decide +kernel
theorem dX6_bestPlaces_75 : decode cX6_bestPlaces 75 = .ok (.iload_n 2, 1) := by decide +kernel
theorem dX6_bestPlaces_76 : decode cX6_bestPlaces 76 = .ok (.ifCond .lt 291, 3) := by decide +kernel
theorem dX6_bestPlaces_79 : decode cX6_bestPlaces 79 = .ok (.iconst 0, 1) := by decide +kernel
theorem dX6_bestPlaces_80 : decode cX6_bestPlaces 80 = .ok (.istore_n 3, 1) := by decide +kernel
theorem dX6_bestPlaces_81 : decode cX6_bestPlaces 81 = .ok (.iconst 0, 1) := by decide +kernel
theorem dX6_bestPlaces_82 : decode cX6_bestPlaces 82 = .ok (.istore 4, 2) := by decide +kernel
theorem dX6_bestPlaces_84 : decode cX6_bestPlaces 84 = .ok (.iconst 0, 1) := by decide +kernel
theorem dX6_bestPlaces_85 : decode cX6_bestPlaces 85 = .ok (.istore 5, 2) := by decide +kernel
theorem dX6_bestPlaces_87 : decode cX6_bestPlaces 87 = .ok (.iconst 0, 1) := by decide +kernel
theorem dX6_bestPlaces_88 : decode cX6_bestPlaces 88 = .ok (.istore 6, 2) := by decide +kernel
theorem dX6_bestPlaces_90 : decode cX6_bestPlaces 90 = .ok (.iload 6, 2) := by decide +kernel
theorem dX6_bestPlaces_92 : decode cX6_bestPlaces 92 = .ok (.iload_n 2, 1) := by decide +kernel
theorem dX6_bestPlaces_93 : decode cX6_bestPlaces 93 = .ok (.if_icmp .ge 98, 3) := by decide +kernel
theorem dX6_bestPlaces_96 : decode cX6_bestPlaces 96 = .ok (.aload_n 0, 1) := by decide +kernel
theorem dX6_bestPlaces_97 : decode cX6_bestPlaces 97 = .ok (.getfield 41, 3) := by decide +kernel
theorem dX6_bestPlaces_100 : decode cX6_bestPlaces 100 = .ok (.iload 6, 2) := by decide +kernel
theorem dX6_bestPlaces_102 : decode cX6_bestPlaces 102 = .ok (.iaload, 1) := by decide +kernel
theorem dX6_bestPlaces_103 : decode cX6_bestPlaces 103 = .ok (.aload_n 0, 1) := by decide +kernel
theorem dX6_bestPlaces_104 : decode cX6_bestPlaces 104 = .ok (.getfield 72, 3) := by decide +kernel
theorem dX6_bestPlaces_107 : decode cX6_bestPlaces 107 = .ok (.if_icmp .ge 7, 3) := by decide +kernel
theorem dX6_bestPlaces_110 : decode cX6_bestPlaces 110 = .ok (.iconst 1, 1) := by decide +kernel
theorem dX6_bestPlaces_111 : decode cX6_bestPlaces 111 = .ok (.goto 4, 3) := by decide +kernel
theorem dX6_bestPlaces_114 : decode cX6_bestPlaces 114 = .ok (.iconst 0, 1) := by decide +kernel
theorem dX6_bestPlaces_115 : decode cX6_bestPlaces 115 = .ok (.istore 7, 2) := by decide +kernel
theorem dX6_bestPlaces_117 : decode cX6_bestPlaces 117 = .ok (.iload_n 3, 1) := by decide +kernel
theorem dX6_bestPlaces_118 : decode cX6_bestPlaces 118 = .ok (.iload 7, 2) := by decide +kernel
theorem dX6_bestPlaces_120 : decode cX6_bestPlaces 120 = .ok (.ifCond .eq 15, 3) := by decide +kernel
theorem dX6_bestPlaces_123 : decode cX6_bestPlaces 123 = .ok (.iconst 1, 1) := by decide +kernel
theorem dX6_bestPlaces_124 : decode cX6_bestPlaces 124 = .ok (.aload_n 0, 1) := by decide +kernel
theorem dX6_bestPlaces_125 : decode cX6_bestPlaces 125 = .ok (.getfield 41, 3) := by decide +kernel
theorem dX6_bestPlaces_128 : decode cX6_bestPlaces 128 = .ok (.iload 6, 2) := by decide +kernel
theorem dX6_bestPlaces_130 : decode cX6_bestPlaces 130 = .ok (.iaload, 1) := by decide +kernel
theorem dX6_bestPlaces_131 : decode cX6_bestPlaces 131 = .ok (.ishl, 1) := by decide +kernel
theorem dX6_bestPlaces_132 : decode cX6_bestPlaces 132 = .ok (.goto 4, 3) := by decide +kernel
theorem dX6_bestPlaces_135 : decode cX6_bestPlaces 135 = .ok (.iconst 0, 1) := by decide +kernel
theorem dX6_bestPlaces_136 : decode cX6_bestPlaces 136 = .ok (.ior, 1) := by decide +kernel
theorem dX6_bestPlaces_137 : decode cX6_bestPlaces 137 = .ok (.istore_n 3, 1) := by decide +kernel
theorem dX6_bestPlaces_138 : decode cX6_bestPlaces 138 = .ok (.iload 4, 2) := by decide +kernel
theorem dX6_bestPlaces_140 : decode cX6_bestPlaces 140 = .ok (.iload 7, 2) := by decide +kernel
theorem dX6_bestPlaces_142 : decode cX6_bestPlaces 142 = .ok (.ifCond .eq 24, 3) := by decide +kernel
theorem dX6_bestPlaces_145 : decode cX6_bestPlaces 145 = .ok (.aload_n 0, 1) := by decide +kernel
theorem dX6_bestPlaces_146 : decode cX6_bestPlaces 146 = .ok (.getfield 47, 3) := by decide +kernel
theorem dX6_bestPlaces_149 : decode cX6_bestPlaces 149 = .ok (.bipush 6, 2) := by decide +kernel
theorem dX6_bestPlaces_151 : decode cX6_bestPlaces 151 = .ok (.iload 6, 2) := by decide +kernel
theorem dX6_bestPlaces_153 : decode cX6_bestPlaces 153 = .ok (.imul, 1) := by decide +kernel
theorem dX6_bestPlaces_154 : decode cX6_bestPlaces 154 = .ok (.aload_n 0, 1) := by decide +kernel
theorem dX6_bestPlaces_155 : decode cX6_bestPlaces 155 = .ok (.getfield 41, 3) := by decide +kernel
theorem dX6_bestPlaces_158 : decode cX6_bestPlaces 158 = .ok (.iload 6, 2) := by decide +kernel
theorem dX6_bestPlaces_160 : decode cX6_bestPlaces 160 = .ok (.iaload, 1) := by decide +kernel
theorem dX6_bestPlaces_161 : decode cX6_bestPlaces 161 = .ok (.iadd, 1) := by decide +kernel
theorem dX6_bestPlaces_162 : decode cX6_bestPlaces 162 = .ok (.iaload, 1) := by decide +kernel
theorem dX6_bestPlaces_163 : decode cX6_bestPlaces 163 = .ok (.goto 4, 3) := by decide +kernel
theorem dX6_bestPlaces_166 : decode cX6_bestPlaces 166 = .ok (.iconst 0, 1) := by decide +kernel
theorem dX6_bestPlaces_167 : decode cX6_bestPlaces 167 = .ok (.ior, 1) := by decide +kernel
theorem dX6_bestPlaces_168 : decode cX6_bestPlaces 168 = .ok (.istore 4, 2) := by decide +kernel
theorem dX6_bestPlaces_170 : decode cX6_bestPlaces 170 = .ok (.iload 5, 2) := by decide +kernel
theorem dX6_bestPlaces_172 : decode cX6_bestPlaces 172 = .ok (.iload 7, 2) := by decide +kernel
theorem dX6_bestPlaces_174 : decode cX6_bestPlaces 174 = .ok (.ifCond .eq 7, 3) := by decide +kernel
theorem dX6_bestPlaces_177 : decode cX6_bestPlaces 177 = .ok (.iconst 1, 1) := by decide +kernel
theorem dX6_bestPlaces_178 : decode cX6_bestPlaces 178 = .ok (.goto 4, 3) := by decide +kernel
theorem dX6_bestPlaces_181 : decode cX6_bestPlaces 181 = .ok (.iconst 0, 1) := by decide +kernel
theorem dX6_bestPlaces_182 : decode cX6_bestPlaces 182 = .ok (.iadd, 1) := by decide +kernel
theorem dX6_bestPlaces_183 : decode cX6_bestPlaces 183 = .ok (.istore 5, 2) := by decide +kernel
theorem dX6_bestPlaces_185 : decode cX6_bestPlaces 185 = .ok (.iinc 6 1, 3) := by decide +kernel
theorem dX6_bestPlaces_188 : decode cX6_bestPlaces 188 = .ok (.goto (-98), 3) := by decide +kernel
theorem dX6_bestPlaces_191 : decode cX6_bestPlaces 191 = .ok (.iload_n 2, 1) := by decide +kernel
theorem dX6_bestPlaces_192 : decode cX6_bestPlaces 192 = .ok (.aload_n 0, 1) := by decide +kernel
theorem dX6_bestPlaces_193 : decode cX6_bestPlaces 193 = .ok (.getfield 79, 3) := by decide +kernel
theorem dX6_bestPlaces_196 : decode cX6_bestPlaces 196 = .ok (.if_icmp .ne 68, 3) := by decide +kernel
theorem dX6_bestPlaces_199 : decode cX6_bestPlaces 199 = .ok (.iload 5, 2) := by decide +kernel
theorem dX6_bestPlaces_201 : decode cX6_bestPlaces 201 = .ok (.iload_n 1, 1) := by decide +kernel
theorem dX6_bestPlaces_202 : decode cX6_bestPlaces 202 = .ok (.if_icmp .le 56, 3) := by decide +kernel
theorem dX6_bestPlaces_205 : decode cX6_bestPlaces 205 = .ok (.iload 5, 2) := by decide +kernel
theorem dX6_bestPlaces_207 : decode cX6_bestPlaces 207 = .ok (.istore_n 1, 1) := by decide +kernel
theorem dX6_bestPlaces_208 : decode cX6_bestPlaces 208 = .ok (.iconst 0, 1) := by decide +kernel
theorem dX6_bestPlaces_209 : decode cX6_bestPlaces 209 = .ok (.istore 6, 2) := by decide +kernel
theorem dX6_bestPlaces_211 : decode cX6_bestPlaces 211 = .ok (.iload 6, 2) := by decide +kernel
theorem dX6_bestPlaces_213 : decode cX6_bestPlaces 213 = .ok (.aload_n 0, 1) := by decide +kernel
theorem dX6_bestPlaces_214 : decode cX6_bestPlaces 214 = .ok (.getfield 79, 3) := by decide +kernel
theorem dX6_bestPlaces_217 : decode cX6_bestPlaces 217 = .ok (.if_icmp .ge 41, 3) := by decide +kernel
theorem dX6_bestPlaces_220 : decode cX6_bestPlaces 220 = .ok (.aload_n 0, 1) := by decide +kernel
theorem dX6_bestPlaces_221 : decode cX6_bestPlaces 221 = .ok (.getfield 44, 3) := by decide +kernel
theorem dX6_bestPlaces_224 : decode cX6_bestPlaces 224 = .ok (.iload 6, 2) := by decide +kernel
theorem dX6_bestPlaces_226 : decode cX6_bestPlaces 226 = .ok (.aload_n 0, 1) := by decide +kernel
theorem dX6_bestPlaces_227 : decode cX6_bestPlaces 227 = .ok (.getfield 41, 3) := by decide +kernel
theorem dX6_bestPlaces_230 : decode cX6_bestPlaces 230 = .ok (.iload 6, 2) := by decide +kernel
theorem dX6_bestPlaces_232 : decode cX6_bestPlaces 232 = .ok (.iaload, 1) := by decide +kernel
theorem dX6_bestPlaces_233 : decode cX6_bestPlaces 233 = .ok (.aload_n 0, 1) := by decide +kernel
theorem dX6_bestPlaces_234 : decode cX6_bestPlaces 234 = .ok (.getfield 72, 3) := by decide +kernel
theorem dX6_bestPlaces_237 : decode cX6_bestPlaces 237 = .ok (.if_icmp .ge 13, 3) := by decide +kernel
theorem dX6_bestPlaces_240 : decode cX6_bestPlaces 240 = .ok (.aload_n 0, 1) := by decide +kernel
theorem dX6_bestPlaces_241 : decode cX6_bestPlaces 241 = .ok (.getfield 41, 3) := by decide +kernel
theorem dX6_bestPlaces_244 : decode cX6_bestPlaces 244 = .ok (.iload 6, 2) := by decide +kernel
theorem dX6_bestPlaces_246 : decode cX6_bestPlaces 246 = .ok (.iaload, 1) := by decide +kernel
theorem dX6_bestPlaces_247 : decode cX6_bestPlaces 247 = .ok (.goto 4, 3) := by decide +kernel
theorem dX6_bestPlaces_250 : decode cX6_bestPlaces 250 = .ok (.iconst (-1), 1) := by decide +kernel
theorem dX6_bestPlaces_251 : decode cX6_bestPlaces 251 = .ok (.iastore, 1) := by decide +kernel
theorem dX6_bestPlaces_252 : decode cX6_bestPlaces 252 = .ok (.iinc 6 1, 3) := by decide +kernel
theorem dX6_bestPlaces_255 : decode cX6_bestPlaces 255 = .ok (.goto (-44), 3) := by decide +kernel
theorem dX6_bestPlaces_258 : decode cX6_bestPlaces 258 = .ok (.iinc 2 (-1), 3) := by decide +kernel
theorem dX6_bestPlaces_261 : decode cX6_bestPlaces 261 = .ok (.goto 103, 3) := by decide +kernel
theorem dX6_bestPlaces_264 : decode cX6_bestPlaces 264 = .ok (.aload_n 0, 1) := by decide +kernel
theorem dX6_bestPlaces_265 : decode cX6_bestPlaces 265 = .ok (.getfield 41, 3) := by decide +kernel
theorem dX6_bestPlaces_268 : decode cX6_bestPlaces 268 = .ok (.iload_n 2, 1) := by decide +kernel
theorem dX6_bestPlaces_269 : decode cX6_bestPlaces 269 = .ok (.iaload, 1) := by decide +kernel
theorem dX6_bestPlaces_270 : decode cX6_bestPlaces 270 = .ok (.iconst 1, 1) := by decide +kernel
theorem dX6_bestPlaces_271 : decode cX6_bestPlaces 271 = .ok (.iadd, 1) := by decide +kernel
theorem dX6_bestPlaces_272 : decode cX6_bestPlaces 272 = .ok (.istore 6, 2) := by decide +kernel
theorem dX6_bestPlaces_274 : decode cX6_bestPlaces 274 = .ok (.iload 6, 2) := by decide +kernel
theorem dX6_bestPlaces_276 : decode cX6_bestPlaces 276 = .ok (.aload_n 0, 1) := by decide +kernel
theorem dX6_bestPlaces_277 : decode cX6_bestPlaces 277 = .ok (.getfield 72, 3) := by decide +kernel
theorem dX6_bestPlaces_280 : decode cX6_bestPlaces 280 = .ok (.if_icmp .ge 51, 3) := by decide +kernel
theorem dX6_bestPlaces_283 : decode cX6_bestPlaces 283 = .ok (.iload_n 3, 1) := by decide +kernel
theorem dX6_bestPlaces_284 : decode cX6_bestPlaces 284 = .ok (.iload 6, 2) := by decide +kernel
theorem dX6_bestPlaces_286 : decode cX6_bestPlaces 286 = .ok (.invokestatic 160, 3) := by decide +kernel
theorem dX6_bestPlaces_289 : decode cX6_bestPlaces 289 = .ok (.ifCond .ne 36, 3) := by decide +kernel
theorem dX6_bestPlaces_292 : decode cX6_bestPlaces 292 = .ok (.aload_n 0, 1) := by decide +kernel
theorem dX6_bestPlaces_293 : decode cX6_bestPlaces 293 = .ok (.getfield 47, 3) := by decide +kernel
theorem dX6_bestPlaces_296 : decode cX6_bestPlaces 296 = .ok (.bipush 6, 2) := by decide +kernel
theorem dX6_bestPlaces_298 : decode cX6_bestPlaces 298 = .ok (.iload_n 2, 1) := by decide +kernel
theorem dX6_bestPlaces_299 : decode cX6_bestPlaces 299 = .ok (.imul, 1) := by decide +kernel
theorem dX6_bestPlaces_300 : decode cX6_bestPlaces 300 = .ok (.iload 6, 2) := by decide +kernel
theorem dX6_bestPlaces_302 : decode cX6_bestPlaces 302 = .ok (.iadd, 1) := by decide +kernel
theorem dX6_bestPlaces_303 : decode cX6_bestPlaces 303 = .ok (.iaload, 1) := by decide +kernel
theorem dX6_bestPlaces_304 : decode cX6_bestPlaces 304 = .ok (.ifCond .eq 21, 3) := by decide +kernel
theorem dX6_bestPlaces_307 : decode cX6_bestPlaces 307 = .ok (.aload_n 0, 1) := by decide +kernel
theorem dX6_bestPlaces_308 : decode cX6_bestPlaces 308 = .ok (.getfield 47, 3) := by decide +kernel
theorem dX6_bestPlaces_311 : decode cX6_bestPlaces 311 = .ok (.bipush 6, 2) := by decide +kernel
theorem dX6_bestPlaces_313 : decode cX6_bestPlaces 313 = .ok (.iload_n 2, 1) := by decide +kernel
theorem dX6_bestPlaces_314 : decode cX6_bestPlaces 314 = .ok (.imul, 1) := by decide +kernel
theorem dX6_bestPlaces_315 : decode cX6_bestPlaces 315 = .ok (.iload 6, 2) := by decide +kernel
theorem dX6_bestPlaces_317 : decode cX6_bestPlaces 317 = .ok (.iadd, 1) := by decide +kernel
theorem dX6_bestPlaces_318 : decode cX6_bestPlaces 318 = .ok (.iaload, 1) := by decide +kernel
theorem dX6_bestPlaces_319 : decode cX6_bestPlaces 319 = .ok (.iload 4, 2) := by decide +kernel
theorem dX6_bestPlaces_321 : decode cX6_bestPlaces 321 = .ok (.iand, 1) := by decide +kernel
theorem dX6_bestPlaces_322 : decode cX6_bestPlaces 322 = .ok (.ifCond .eq 9, 3) := by decide +kernel
theorem dX6_bestPlaces_325 : decode cX6_bestPlaces 325 = .ok (.iinc 6 1, 3) := by decide +kernel
theorem dX6_bestPlaces_328 : decode cX6_bestPlaces 328 = .ok (.goto (-54), 3) := by decide +kernel
theorem dX6_bestPlaces_331 : decode cX6_bestPlaces 331 = .ok (.aload_n 0, 1) := by decide +kernel
theorem dX6_bestPlaces_332 : decode cX6_bestPlaces 332 = .ok (.getfield 41, 3) := by decide +kernel
theorem dX6_bestPlaces_335 : decode cX6_bestPlaces 335 = .ok (.iload_n 2, 1) := by decide +kernel
theorem dX6_bestPlaces_336 : decode cX6_bestPlaces 336 = .ok (.iload 6, 2) := by decide +kernel
theorem dX6_bestPlaces_338 : decode cX6_bestPlaces 338 = .ok (.iastore, 1) := by decide +kernel
theorem dX6_bestPlaces_339 : decode cX6_bestPlaces 339 = .ok (.iload 6, 2) := by decide +kernel
theorem dX6_bestPlaces_341 : decode cX6_bestPlaces 341 = .ok (.aload_n 0, 1) := by decide +kernel
theorem dX6_bestPlaces_342 : decode cX6_bestPlaces 342 = .ok (.getfield 72, 3) := by decide +kernel
theorem dX6_bestPlaces_345 : decode cX6_bestPlaces 345 = .ok (.if_icmp .le 9, 3) := by decide +kernel
theorem dX6_bestPlaces_348 : decode cX6_bestPlaces 348 = .ok (.iinc 2 (-1), 3) := by decide +kernel
theorem dX6_bestPlaces_351 : decode cX6_bestPlaces 351 = .ok (.goto 13, 3) := by decide +kernel
theorem dX6_bestPlaces_354 : decode cX6_bestPlaces 354 = .ok (.iinc 2 1, 3) := by decide +kernel
theorem dX6_bestPlaces_357 : decode cX6_bestPlaces 357 = .ok (.aload_n 0, 1) := by decide +kernel
theorem dX6_bestPlaces_358 : decode cX6_bestPlaces 358 = .ok (.getfield 41, 3) := by decide +kernel
theorem dX6_bestPlaces_361 : decode cX6_bestPlaces 361 = .ok (.iload_n 2, 1) := by decide +kernel
theorem dX6_bestPlaces_362 : decode cX6_bestPlaces 362 = .ok (.iconst (-1), 1) := by decide +kernel
theorem dX6_bestPlaces_363 : decode cX6_bestPlaces 363 = .ok (.iastore, 1) := by decide +kernel
theorem dX6_bestPlaces_364 : decode cX6_bestPlaces 364 = .ok (.goto (-289), 3) := by decide +kernel
theorem dX6_bestPlaces_367 : decode cX6_bestPlaces 367 = .ok (.iload_n 1, 1) := by decide +kernel
theorem dX6_bestPlaces_368 : decode cX6_bestPlaces 368 = .ok (.ireturn, 1) := by decide +kernel
set_option maxRecDepth 20000 in
theorem ggX6_places_X6_isWindow : GoodIn wsX6_places wsX6_isWindow := goodIn_r _ [7, 8, 9, 10, 6, 11, 33, 34, 35, 36, 37, 38, 39, 40, 41, 42, 43, 44, 45, 46, 47, 48, 49, 50, 51, 52, 53, 54, 55, 56, 57, 58, 59, 60, 61, 62, 63, 64, 65] (by decide +kernel) (by decide +kernel)
set_option maxRecDepth 20000 in
theorem gX6_places_X6_isWindow : GoodIn wsX6_places (wsV RX6 194 RX6 yX6_isWindow wsX6_isWindow) := goodIn_app (goodIn_of _ (by decide +kernel)) ggX6_places_X6_isWindow
set_option maxRecDepth 20000 in
theorem ggX6_places_X6_bestPlaces : GoodIn wsX6_places wsX6_bestPlaces := goodIn_r _ [15, 8, 16, 17, 18, 19, 2, 20, 21, 22, 6, 23, 24, 25, 26, 27, 28, 29, 30, 31, 32, 9, 10, 11, 33, 34, 35, 36, 37, 38, 39, 40, 41, 42, 43, 44, 45, 46, 47, 48, 49, 50, 51, 52, 53, 54, 55, 56, 57, 58, 59, 60, 61, 62, 63, 64, 65] (by decide +kernel) (by decide +kernel)
set_option maxRecDepth 20000 in
theorem gX6_places_X6_bestPlaces : GoodIn wsX6_places (wsV RX6 252 RX6 yX6_bestPlaces wsX6_bestPlaces) := goodIn_app (goodIn_of _ (by decide +kernel)) ggX6_places_X6_bestPlaces
theorem dX6_places_0 : decode cX6_places 0 = .ok (.iload_n 1, 1) := by decide +kernel
theorem dX6_places_1 : decode cX6_places 1 = .ok (.iconst (-1), 1) := by decide +kernel
theorem dX6_places_2 : decode cX6_places 2 = .ok (.if_icmp .eq 14, 3) := by decide +kernel
theorem dX6_places_5 : decode cX6_places 5 = .ok (.aload_n 0, 1) := by decide +kernel
theorem dX6_places_6 : decode cX6_places 6 = .ok (.iload_n 1, 1) := by decide +kernel
theorem dX6_places_7 : decode cX6_places 7 = .ok (.invokevirtual 194, 3) := by decide +kernel
theorem dX6_places_10 : decode cX6_places 10 = .ok (.ifCond .ne 6, 3) := by decide +kernel
theorem dX6_places_13 : decode cX6_places 13 = .ok (.ldc 190, 2) := by decide +kernel
theorem dX6_places_15 : decode cX6_places 15 = .ok (.ireturn, 1) := by decide +kernel
theorem dX6_places_16 : decode cX6_places 16 = .ok (.aload_n 0, 1) := by decide +kernel
theorem dX6_places_17 : decode cX6_places 17 = .ok (.invokevirtual 252, 3) := by decide +kernel
theorem dX6_places_20 : decode cX6_places 20 = .ok (.istore_n 2, 1) := by decide +kernel
theorem dX6_places_21 : decode cX6_places 21 = .ok (.iload_n 1, 1) := by decide +kernel
theorem dX6_places_22 : decode cX6_places 22 = .ok (.iconst (-1), 1) := by decide +kernel
theorem dX6_places_23 : decode cX6_places 23 = .ok (.if_icmp .ne 7, 3) := by decide +kernel
theorem dX6_places_26 : decode cX6_places 26 = .ok (.iload_n 2, 1) := by decide +kernel
theorem dX6_places_27 : decode cX6_places 27 = .ok (.goto 9, 3) := by decide +kernel
theorem dX6_places_30 : decode cX6_places 30 = .ok (.aload_n 0, 1) := by decide +kernel
theorem dX6_places_31 : decode cX6_places 31 = .ok (.getfield 44, 3) := by decide +kernel
theorem dX6_places_34 : decode cX6_places 34 = .ok (.iload_n 1, 1) := by decide +kernel
theorem dX6_places_35 : decode cX6_places 35 = .ok (.iaload, 1) := by decide +kernel
theorem dX6_places_36 : decode cX6_places 36 = .ok (.ireturn, 1) := by decide +kernel
set_option maxRecDepth 20000 in
theorem ggX6_apart_X6_isSitter : GoodIn wsX6_apart wsX6_isSitter := goodIn_r _ [8, 9, 10, 11, 7, 12, 16, 17, 18, 19, 20, 21, 22, 23, 24, 25, 26, 27, 28, 29, 30, 31, 32, 33, 34, 35, 36, 37, 38, 39, 40, 41, 42, 43, 44, 45, 46, 47, 48] (by decide +kernel) (by decide +kernel)
set_option maxRecDepth 20000 in
theorem gX6_apart_X6_isSitter : GoodIn wsX6_apart (wsV RX6 187 RX6 yX6_isSitter wsX6_isSitter) := goodIn_app (goodIn_of _ (by decide +kernel)) ggX6_apart_X6_isSitter
set_option maxRecDepth 20000 in
theorem ggX6_apart_X6_ones : GoodIn wsX6_apart wsX6_ones := goodIn_r _ [15] (by decide +kernel) (by decide +kernel)
set_option maxRecDepth 20000 in
theorem gX6_apart_X6_ones : GoodIn wsX6_apart (va_wsS RX6 178 yX6_ones wsX6_ones) := goodIn_app (goodIn_of _ (by decide +kernel)) ggX6_apart_X6_ones
theorem dX6_apart_0 : decode cX6_apart 0 = .ok (.aload_n 0, 1) := by decide +kernel
theorem dX6_apart_1 : decode cX6_apart 1 = .ok (.iload_n 1, 1) := by decide +kernel
theorem dX6_apart_2 : decode cX6_apart 2 = .ok (.invokevirtual 187, 3) := by decide +kernel
theorem dX6_apart_5 : decode cX6_apart 5 = .ok (.ifCond .eq 16, 3) := by decide +kernel
theorem dX6_apart_8 : decode cX6_apart 8 = .ok (.aload_n 0, 1) := by decide +kernel
theorem dX6_apart_9 : decode cX6_apart 9 = .ok (.iload_n 2, 1) := by decide +kernel
theorem dX6_apart_10 : decode cX6_apart 10 = .ok (.invokevirtual 187, 3) := by decide +kernel
theorem dX6_apart_13 : decode cX6_apart 13 = .ok (.ifCond .eq 8, 3) := by decide +kernel
theorem dX6_apart_16 : decode cX6_apart 16 = .ok (.iload_n 1, 1) := by decide +kernel
theorem dX6_apart_17 : decode cX6_apart 17 = .ok (.iload_n 2, 1) := by decide +kernel
theorem dX6_apart_18 : decode cX6_apart 18 = .ok (.if_icmp .ne 6, 3) := by decide +kernel
theorem dX6_apart_21 : decode cX6_apart 21 = .ok (.ldc 190, 2) := by decide +kernel
theorem dX6_apart_23 : decode cX6_apart 23 = .ok (.ireturn, 1) := by decide +kernel
theorem dX6_apart_24 : decode cX6_apart 24 = .ok (.aload_n 0, 1) := by decide +kernel
theorem dX6_apart_25 : decode cX6_apart 25 = .ok (.getfield 7, 3) := by decide +kernel
theorem dX6_apart_28 : decode cX6_apart 28 = .ok (.iload_n 1, 1) := by decide +kernel
theorem dX6_apart_29 : decode cX6_apart 29 = .ok (.iaload, 1) := by decide +kernel
theorem dX6_apart_30 : decode cX6_apart 30 = .ok (.aload_n 0, 1) := by decide +kernel
theorem dX6_apart_31 : decode cX6_apart 31 = .ok (.getfield 7, 3) := by decide +kernel
theorem dX6_apart_34 : decode cX6_apart 34 = .ok (.iload_n 2, 1) := by decide +kernel
theorem dX6_apart_35 : decode cX6_apart 35 = .ok (.iaload, 1) := by decide +kernel
theorem dX6_apart_36 : decode cX6_apart 36 = .ok (.ixor, 1) := by decide +kernel
theorem dX6_apart_37 : decode cX6_apart 37 = .ok (.istore 4, 2) := by decide +kernel
theorem dX6_apart_39 : decode cX6_apart 39 = .ok (.iload_n 3, 1) := by decide +kernel
theorem dX6_apart_40 : decode cX6_apart 40 = .ok (.ifCond .ne 8, 3) := by decide +kernel
theorem dX6_apart_43 : decode cX6_apart 43 = .ok (.iload 4, 2) := by decide +kernel
theorem dX6_apart_45 : decode cX6_apart 45 = .ok (.goto 39, 3) := by decide +kernel
theorem dX6_apart_48 : decode cX6_apart 48 = .ok (.iload_n 3, 1) := by decide +kernel
theorem dX6_apart_49 : decode cX6_apart 49 = .ok (.iconst 1, 1) := by decide +kernel
theorem dX6_apart_50 : decode cX6_apart 50 = .ok (.if_icmp .ne 11, 3) := by decide +kernel
theorem dX6_apart_53 : decode cX6_apart 53 = .ok (.iload 4, 2) := by decide +kernel
theorem dX6_apart_55 : decode cX6_apart 55 = .ok (.invokestatic 178, 3) := by decide +kernel
theorem dX6_apart_58 : decode cX6_apart 58 = .ok (.goto 26, 3) := by decide +kernel
theorem dX6_apart_61 : decode cX6_apart 61 = .ok (.iload_n 3, 1) := by decide +kernel
theorem dX6_apart_62 : decode cX6_apart 62 = .ok (.iconst 2, 1) := by decide +kernel
theorem dX6_apart_63 : decode cX6_apart 63 = .ok (.if_icmp .ne 19, 3) := by decide +kernel
theorem dX6_apart_66 : decode cX6_apart 66 = .ok (.aload_n 0, 1) := by decide +kernel
theorem dX6_apart_67 : decode cX6_apart 67 = .ok (.getfield 7, 3) := by decide +kernel
theorem dX6_apart_70 : decode cX6_apart 70 = .ok (.iload_n 1, 1) := by decide +kernel
theorem dX6_apart_71 : decode cX6_apart 71 = .ok (.iaload, 1) := by decide +kernel
theorem dX6_apart_72 : decode cX6_apart 72 = .ok (.aload_n 0, 1) := by decide +kernel
theorem dX6_apart_73 : decode cX6_apart 73 = .ok (.getfield 7, 3) := by decide +kernel
theorem dX6_apart_76 : decode cX6_apart 76 = .ok (.iload_n 2, 1) := by decide +kernel
theorem dX6_apart_77 : decode cX6_apart 77 = .ok (.iaload, 1) := by decide +kernel
theorem dX6_apart_78 : decode cX6_apart 78 = .ok (.iand, 1) := by decide +kernel
theorem dX6_apart_79 : decode cX6_apart 79 = .ok (.goto 5, 3) := by decide +kernel
theorem dX6_apart_82 : decode cX6_apart 82 = .ok (.ldc 84, 2) := by decide +kernel
theorem dX6_apart_84 : decode cX6_apart 84 = .ok (.ireturn, 1) := by decide +kernel
set_option maxRecDepth 20000 in
theorem ggX6_isHole_X6_has : GoodIn wsX6_isHole wsX6_has := goodIn_r _ [4] (by decide +kernel) (by decide +kernel)
set_option maxRecDepth 20000 in
theorem gX6_isHole_X6_has : GoodIn wsX6_isHole (va_wsS RX6 160 yX6_has wsX6_has) := goodIn_app (goodIn_of _ (by decide +kernel)) ggX6_isHole_X6_has
theorem dX6_isHole_0 : decode cX6_isHole 0 = .ok (.iload_n 1, 1) := by decide +kernel
theorem dX6_isHole_1 : decode cX6_isHole 1 = .ok (.bipush 6, 2) := by decide +kernel
theorem dX6_isHole_3 : decode cX6_isHole 3 = .ok (.irem, 1) := by decide +kernel
theorem dX6_isHole_4 : decode cX6_isHole 4 = .ok (.istore_n 2, 1) := by decide +kernel
theorem dX6_isHole_5 : decode cX6_isHole 5 = .ok (.iload_n 0, 1) := by decide +kernel
theorem dX6_isHole_6 : decode cX6_isHole 6 = .ok (.iload_n 1, 1) := by decide +kernel
theorem dX6_isHole_7 : decode cX6_isHole 7 = .ok (.invokestatic 160, 3) := by decide +kernel
theorem dX6_isHole_10 : decode cX6_isHole 10 = .ok (.ifCond .ne 7, 3) := by decide +kernel
theorem dX6_isHole_13 : decode cX6_isHole 13 = .ok (.iconst 1, 1) := by decide +kernel
theorem dX6_isHole_14 : decode cX6_isHole 14 = .ok (.goto 4, 3) := by decide +kernel
theorem dX6_isHole_17 : decode cX6_isHole 17 = .ok (.iconst 0, 1) := by decide +kernel
theorem dX6_isHole_18 : decode cX6_isHole 18 = .ok (.istore_n 3, 1) := by decide +kernel
theorem dX6_isHole_19 : decode cX6_isHole 19 = .ok (.iload_n 3, 1) := by decide +kernel
theorem dX6_isHole_20 : decode cX6_isHole 20 = .ok (.ifCond .eq 36, 3) := by decide +kernel
theorem dX6_isHole_23 : decode cX6_isHole 23 = .ok (.iload_n 2, 1) := by decide +kernel
theorem dX6_isHole_24 : decode cX6_isHole 24 = .ok (.ifCond .eq 13, 3) := by decide +kernel
theorem dX6_isHole_27 : decode cX6_isHole 27 = .ok (.iload_n 0, 1) := by decide +kernel
theorem dX6_isHole_28 : decode cX6_isHole 28 = .ok (.iload_n 1, 1) := by decide +kernel
theorem dX6_isHole_29 : decode cX6_isHole 29 = .ok (.iconst 1, 1) := by decide +kernel
theorem dX6_isHole_30 : decode cX6_isHole 30 = .ok (.isub, 1) := by decide +kernel
theorem dX6_isHole_31 : decode cX6_isHole 31 = .ok (.invokestatic 160, 3) := by decide +kernel
theorem dX6_isHole_34 : decode cX6_isHole 34 = .ok (.ifCond .eq 22, 3) := by decide +kernel
theorem dX6_isHole_37 : decode cX6_isHole 37 = .ok (.iload_n 2, 1) := by decide +kernel
theorem dX6_isHole_38 : decode cX6_isHole 38 = .ok (.iconst 5, 1) := by decide +kernel
theorem dX6_isHole_39 : decode cX6_isHole 39 = .ok (.if_icmp .eq 13, 3) := by decide +kernel
theorem dX6_isHole_42 : decode cX6_isHole 42 = .ok (.iload_n 0, 1) := by decide +kernel
theorem dX6_isHole_43 : decode cX6_isHole 43 = .ok (.iload_n 1, 1) := by decide +kernel
theorem dX6_isHole_44 : decode cX6_isHole 44 = .ok (.iconst 1, 1) := by decide +kernel
theorem dX6_isHole_45 : decode cX6_isHole 45 = .ok (.iadd, 1) := by decide +kernel
theorem dX6_isHole_46 : decode cX6_isHole 46 = .ok (.invokestatic 160, 3) := by decide +kernel
theorem dX6_isHole_49 : decode cX6_isHole 49 = .ok (.ifCond .eq 7, 3) := by decide +kernel
theorem dX6_isHole_52 : decode cX6_isHole 52 = .ok (.iconst 1, 1) := by decide +kernel
theorem dX6_isHole_53 : decode cX6_isHole 53 = .ok (.goto 4, 3) := by decide +kernel
theorem dX6_isHole_56 : decode cX6_isHole 56 = .ok (.iconst 0, 1) := by decide +kernel
theorem dX6_isHole_57 : decode cX6_isHole 57 = .ok (.istore_n 3, 1) := by decide +kernel
theorem dX6_isHole_58 : decode cX6_isHole 58 = .ok (.iload_n 3, 1) := by decide +kernel
theorem dX6_isHole_59 : decode cX6_isHole 59 = .ok (.ifCond .eq 41, 3) := by decide +kernel
theorem dX6_isHole_62 : decode cX6_isHole 62 = .ok (.iload_n 1, 1) := by decide +kernel
theorem dX6_isHole_63 : decode cX6_isHole 63 = .ok (.bipush 6, 2) := by decide +kernel
theorem dX6_isHole_65 : decode cX6_isHole 65 = .ok (.if_icmp .lt 14, 3) := by decide +kernel
theorem dX6_isHole_68 : decode cX6_isHole 68 = .ok (.iload_n 0, 1) := by decide +kernel
theorem dX6_isHole_69 : decode cX6_isHole 69 = .ok (.iload_n 1, 1) := by decide +kernel
theorem dX6_isHole_70 : decode cX6_isHole 70 = .ok (.bipush 6, 2) := by decide +kernel
theorem dX6_isHole_72 : decode cX6_isHole 72 = .ok (.isub, 1) := by decide +kernel
theorem dX6_isHole_73 : decode cX6_isHole 73 = .ok (.invokestatic 160, 3) := by decide +kernel
theorem dX6_isHole_76 : decode cX6_isHole 76 = .ok (.ifCond .eq 24, 3) := by decide +kernel
theorem dX6_isHole_79 : decode cX6_isHole 79 = .ok (.iload_n 1, 1) := by decide +kernel
theorem dX6_isHole_80 : decode cX6_isHole 80 = .ok (.bipush 23, 2) := by decide +kernel
theorem dX6_isHole_82 : decode cX6_isHole 82 = .ok (.if_icmp .gt 14, 3) := by decide +kernel
theorem dX6_isHole_85 : decode cX6_isHole 85 = .ok (.iload_n 0, 1) := by decide +kernel
theorem dX6_isHole_86 : decode cX6_isHole 86 = .ok (.iload_n 1, 1) := by decide +kernel
theorem dX6_isHole_87 : decode cX6_isHole 87 = .ok (.bipush 6, 2) := by decide +kernel
theorem dX6_isHole_89 : decode cX6_isHole 89 = .ok (.iadd, 1) := by decide +kernel
theorem dX6_isHole_90 : decode cX6_isHole 90 = .ok (.invokestatic 160, 3) := by decide +kernel
theorem dX6_isHole_93 : decode cX6_isHole 93 = .ok (.ifCond .eq 7, 3) := by decide +kernel
theorem dX6_isHole_96 : decode cX6_isHole 96 = .ok (.iconst 1, 1) := by decide +kernel
theorem dX6_isHole_97 : decode cX6_isHole 97 = .ok (.goto 4, 3) := by decide +kernel
theorem dX6_isHole_100 : decode cX6_isHole 100 = .ok (.iconst 0, 1) := by decide +kernel
theorem dX6_isHole_101 : decode cX6_isHole 101 = .ok (.ireturn, 1) := by decide +kernel
set_option maxRecDepth 20000 in
theorem ggX6_turned_X6_in : GoodIn wsX6_turned wsX6_in := goodIn_r _ [6] (by decide +kernel) (by decide +kernel)
set_option maxRecDepth 20000 in
theorem gX6_turned_X6_in : GoodIn wsX6_turned (va_wsS RX6 75 yX6_in wsX6_in) := goodIn_app (goodIn_of _ (by decide +kernel)) ggX6_turned_X6_in
set_option maxRecDepth 20000 in
theorem ggX6_turned_X6_isHole : GoodIn wsX6_turned wsX6_isHole := goodIn_r _ [9, 10, 11, 5, 12] (by decide +kernel) (by decide +kernel)
set_option maxRecDepth 20000 in
theorem gX6_turned_X6_isHole : GoodIn wsX6_turned (va_wsS RX6 255 yX6_isHole wsX6_isHole) := goodIn_app (goodIn_of _ (by decide +kernel)) ggX6_turned_X6_isHole
set_option maxRecDepth 20000 in
theorem ggX6_turned_X6_has : GoodIn wsX6_turned wsX6_has := goodIn_r _ [12] (by decide +kernel) (by decide +kernel)
set_option maxRecDepth 20000 in
theorem gX6_turned_X6_has : GoodIn wsX6_turned (va_wsS RX6 160 yX6_has wsX6_has) := goodIn_app (goodIn_of _ (by decide +kernel)) ggX6_turned_X6_has
theorem dX6_turned_0 : decode cX6_turned 0 = .ok (.iload_n 1, 1) := by decide +kernel
theorem dX6_turned_1 : decode cX6_turned 1 = .ok (.i2l, 1) := by decide +kernel
theorem dX6_turned_2 : decode cX6_turned 2 = .ok (.lconst 0, 1) := by decide +kernel
theorem dX6_turned_3 : decode cX6_turned 3 = .ok (.ldc2_w 247, 3) := by decide +kernel
theorem dX6_turned_6 : decode cX6_turned 6 = .ok (.invokestatic 75, 3) := by decide +kernel
theorem dX6_turned_9 : decode cX6_turned 9 = .ok (.ifCond .eq 13, 3) := by decide +kernel
theorem dX6_turned_12 : decode cX6_turned 12 = .ok (.iload_n 2, 1) := by decide +kernel
theorem dX6_turned_13 : decode cX6_turned 13 = .ok (.i2l, 1) := by decide +kernel
theorem dX6_turned_14 : decode cX6_turned 14 = .ok (.lconst 0, 1) := by decide +kernel
theorem dX6_turned_15 : decode cX6_turned 15 = .ok (.lconst 1, 1) := by decide +kernel
theorem dX6_turned_16 : decode cX6_turned 16 = .ok (.invokestatic 75, 3) := by decide +kernel
theorem dX6_turned_19 : decode cX6_turned 19 = .ok (.ifCond .ne 6, 3) := by decide +kernel
theorem dX6_turned_22 : decode cX6_turned 22 = .ok (.ldc 84, 2) := by decide +kernel
theorem dX6_turned_24 : decode cX6_turned 24 = .ok (.ireturn, 1) := by decide +kernel
theorem dX6_turned_25 : decode cX6_turned 25 = .ok (.iconst 0, 1) := by decide +kernel
theorem dX6_turned_26 : decode cX6_turned 26 = .ok (.istore_n 3, 1) := by decide +kernel
theorem dX6_turned_27 : decode cX6_turned 27 = .ok (.iconst 0, 1) := by decide +kernel
theorem dX6_turned_28 : decode cX6_turned 28 = .ok (.istore 4, 2) := by decide +kernel
theorem dX6_turned_30 : decode cX6_turned 30 = .ok (.iload 4, 2) := by decide +kernel
theorem dX6_turned_32 : decode cX6_turned 32 = .ok (.bipush 30, 2) := by decide +kernel
theorem dX6_turned_34 : decode cX6_turned 34 = .ok (.if_icmp .ge 56, 3) := by decide +kernel
theorem dX6_turned_37 : decode cX6_turned 37 = .ok (.iload_n 2, 1) := by decide +kernel
theorem dX6_turned_38 : decode cX6_turned 38 = .ok (.ifCond .ne 12, 3) := by decide +kernel
theorem dX6_turned_41 : decode cX6_turned 41 = .ok (.iload_n 1, 1) := by decide +kernel
theorem dX6_turned_42 : decode cX6_turned 42 = .ok (.iload 4, 2) := by decide +kernel
theorem dX6_turned_44 : decode cX6_turned 44 = .ok (.invokestatic 255, 3) := by decide +kernel
theorem dX6_turned_47 : decode cX6_turned 47 = .ok (.goto 19, 3) := by decide +kernel
theorem dX6_turned_50 : decode cX6_turned 50 = .ok (.iload_n 1, 1) := by decide +kernel
theorem dX6_turned_51 : decode cX6_turned 51 = .ok (.iload 4, 2) := by decide +kernel
theorem dX6_turned_53 : decode cX6_turned 53 = .ok (.iconst 5, 1) := by decide +kernel
theorem dX6_turned_54 : decode cX6_turned 54 = .ok (.iadd, 1) := by decide +kernel
theorem dX6_turned_55 : decode cX6_turned 55 = .ok (.iconst 2, 1) := by decide +kernel
theorem dX6_turned_56 : decode cX6_turned 56 = .ok (.iload 4, 2) := by decide +kernel
theorem dX6_turned_58 : decode cX6_turned 58 = .ok (.bipush 6, 2) := by decide +kernel
theorem dX6_turned_60 : decode cX6_turned 60 = .ok (.irem, 1) := by decide +kernel
theorem dX6_turned_61 : decode cX6_turned 61 = .ok (.imul, 1) := by decide +kernel
theorem dX6_turned_62 : decode cX6_turned 62 = .ok (.isub, 1) := by decide +kernel
theorem dX6_turned_63 : decode cX6_turned 63 = .ok (.invokestatic 160, 3) := by decide +kernel
theorem dX6_turned_66 : decode cX6_turned 66 = .ok (.istore 5, 2) := by decide +kernel
theorem dX6_turned_68 : decode cX6_turned 68 = .ok (.iload_n 3, 1) := by decide +kernel
theorem dX6_turned_69 : decode cX6_turned 69 = .ok (.iload 5, 2) := by decide +kernel
theorem dX6_turned_71 : decode cX6_turned 71 = .ok (.ifCond .eq 10, 3) := by decide +kernel
theorem dX6_turned_74 : decode cX6_turned 74 = .ok (.iconst 1, 1) := by decide +kernel
theorem dX6_turned_75 : decode cX6_turned 75 = .ok (.iload 4, 2) := by decide +kernel
theorem dX6_turned_77 : decode cX6_turned 77 = .ok (.ishl, 1) := by decide +kernel
theorem dX6_turned_78 : decode cX6_turned 78 = .ok (.goto 4, 3) := by decide +kernel
theorem dX6_turned_81 : decode cX6_turned 81 = .ok (.iconst 0, 1) := by decide +kernel
theorem dX6_turned_82 : decode cX6_turned 82 = .ok (.ior, 1) := by decide +kernel
theorem dX6_turned_83 : decode cX6_turned 83 = .ok (.istore_n 3, 1) := by decide +kernel
theorem dX6_turned_84 : decode cX6_turned 84 = .ok (.iinc 4 1, 3) := by decide +kernel
theorem dX6_turned_87 : decode cX6_turned 87 = .ok (.goto (-57), 3) := by decide +kernel
theorem dX6_turned_90 : decode cX6_turned 90 = .ok (.iload_n 3, 1) := by decide +kernel
theorem dX6_turned_91 : decode cX6_turned 91 = .ok (.ireturn, 1) := by decide +kernel
set_option maxRecDepth 20000 in
theorem ggX6_maskOf_X6_has : GoodIn wsX6_maskOf wsX6_has := goodIn_r _ [4] (by decide +kernel) (by decide +kernel)
set_option maxRecDepth 20000 in
theorem gX6_maskOf_X6_has : GoodIn wsX6_maskOf (va_wsS RX6 160 yX6_has wsX6_has) := goodIn_app (goodIn_of _ (by decide +kernel)) ggX6_maskOf_X6_has
theorem dX6_maskOf_0 : decode cX6_maskOf 0 = .ok (.iconst 0, 1) := by decide +kernel
theorem dX6_maskOf_1 : decode cX6_maskOf 1 = .ok (.istore_n 1, 1) := by decide +kernel
theorem dX6_maskOf_2 : decode cX6_maskOf 2 = .ok (.iconst 0, 1) := by decide +kernel
theorem dX6_maskOf_3 : decode cX6_maskOf 3 = .ok (.istore_n 2, 1) := by decide +kernel
theorem dX6_maskOf_4 : decode cX6_maskOf 4 = .ok (.iload_n 2, 1) := by decide +kernel
theorem dX6_maskOf_5 : decode cX6_maskOf 5 = .ok (.bipush 30, 2) := by decide +kernel
theorem dX6_maskOf_7 : decode cX6_maskOf 7 = .ok (.if_icmp .ge 30, 3) := by decide +kernel
theorem dX6_maskOf_10 : decode cX6_maskOf 10 = .ok (.iload_n 1, 1) := by decide +kernel
theorem dX6_maskOf_11 : decode cX6_maskOf 11 = .ok (.iload_n 0, 1) := by decide +kernel
theorem dX6_maskOf_12 : decode cX6_maskOf 12 = .ok (.iload_n 2, 1) := by decide +kernel
theorem dX6_maskOf_13 : decode cX6_maskOf 13 = .ok (.bipush 6, 2) := by decide +kernel
theorem dX6_maskOf_15 : decode cX6_maskOf 15 = .ok (.irem, 1) := by decide +kernel
theorem dX6_maskOf_16 : decode cX6_maskOf 16 = .ok (.invokestatic 160, 3) := by decide +kernel
theorem dX6_maskOf_19 : decode cX6_maskOf 19 = .ok (.ifCond .eq 9, 3) := by decide +kernel
theorem dX6_maskOf_22 : decode cX6_maskOf 22 = .ok (.iconst 1, 1) := by decide +kernel
theorem dX6_maskOf_23 : decode cX6_maskOf 23 = .ok (.iload_n 2, 1) := by decide +kernel
theorem dX6_maskOf_24 : decode cX6_maskOf 24 = .ok (.ishl, 1) := by decide +kernel
theorem dX6_maskOf_25 : decode cX6_maskOf 25 = .ok (.goto 4, 3) := by decide +kernel
theorem dX6_maskOf_28 : decode cX6_maskOf 28 = .ok (.iconst 0, 1) := by decide +kernel
theorem dX6_maskOf_29 : decode cX6_maskOf 29 = .ok (.ior, 1) := by decide +kernel
theorem dX6_maskOf_30 : decode cX6_maskOf 30 = .ok (.istore_n 1, 1) := by decide +kernel
theorem dX6_maskOf_31 : decode cX6_maskOf 31 = .ok (.iinc 2 1, 3) := by decide +kernel
theorem dX6_maskOf_34 : decode cX6_maskOf 34 = .ok (.goto (-30), 3) := by decide +kernel
theorem dX6_maskOf_37 : decode cX6_maskOf 37 = .ok (.iload_n 1, 1) := by decide +kernel
theorem dX6_maskOf_38 : decode cX6_maskOf 38 = .ok (.ireturn, 1) := by decide +kernel
set_option maxRecDepth 20000 in
theorem ggX6_votesFor_X6_maskOf : GoodIn wsX6_votesFor wsX6_maskOf := goodIn_r _ [6, 7, 8, 5, 9] (by decide +kernel) (by decide +kernel)
set_option maxRecDepth 20000 in
theorem gX6_votesFor_X6_maskOf : GoodIn wsX6_votesFor (va_wsS RX6 258 yX6_maskOf wsX6_maskOf) := goodIn_app (goodIn_of _ (by decide +kernel)) ggX6_votesFor_X6_maskOf
set_option maxRecDepth 20000 in
theorem ggX6_votesFor_X6_mostLike : GoodIn wsX6_votesFor wsX6_mostLike := goodIn_r _ [13, 14, 15, 16, 17, 5, 18, 19, 20, 21, 22, 23, 24, 25, 26, 27, 28, 29, 30, 31, 32, 33, 34, 35, 36, 37, 38, 39, 40, 41, 42, 43, 44, 45, 46, 47, 48, 49, 50, 51] (by decide +kernel) (by decide +kernel)
set_option maxRecDepth 20000 in
theorem gX6_votesFor_X6_mostLike : GoodIn wsX6_votesFor (wsV RX6 198 RX6 yX6_mostLike wsX6_mostLike) := goodIn_app (goodIn_of _ (by decide +kernel)) ggX6_votesFor_X6_mostLike
theorem dX6_votesFor_0 : decode cX6_votesFor 0 = .ok (.iconst 0, 1) := by decide +kernel
theorem dX6_votesFor_1 : decode cX6_votesFor 1 = .ok (.istore_n 3, 1) := by decide +kernel
theorem dX6_votesFor_2 : decode cX6_votesFor 2 = .ok (.iconst 0, 1) := by decide +kernel
theorem dX6_votesFor_3 : decode cX6_votesFor 3 = .ok (.istore 4, 2) := by decide +kernel
theorem dX6_votesFor_5 : decode cX6_votesFor 5 = .ok (.iload 4, 2) := by decide +kernel
theorem dX6_votesFor_7 : decode cX6_votesFor 7 = .ok (.aload_n 0, 1) := by decide +kernel
theorem dX6_votesFor_8 : decode cX6_votesFor 8 = .ok (.getfield 145, 3) := by decide +kernel
theorem dX6_votesFor_11 : decode cX6_votesFor 11 = .ok (.if_icmp .ge 36, 3) := by decide +kernel
theorem dX6_votesFor_14 : decode cX6_votesFor 14 = .ok (.iload_n 3, 1) := by decide +kernel
theorem dX6_votesFor_15 : decode cX6_votesFor 15 = .ok (.aload_n 0, 1) := by decide +kernel
theorem dX6_votesFor_16 : decode cX6_votesFor 16 = .ok (.iload_n 1, 1) := by decide +kernel
theorem dX6_votesFor_17 : decode cX6_votesFor 17 = .ok (.aload_n 0, 1) := by decide +kernel
theorem dX6_votesFor_18 : decode cX6_votesFor 18 = .ok (.getfield 16, 3) := by decide +kernel
theorem dX6_votesFor_21 : decode cX6_votesFor 21 = .ok (.iload 4, 2) := by decide +kernel
theorem dX6_votesFor_23 : decode cX6_votesFor 23 = .ok (.iaload, 1) := by decide +kernel
theorem dX6_votesFor_24 : decode cX6_votesFor 24 = .ok (.invokestatic 258, 3) := by decide +kernel
theorem dX6_votesFor_27 : decode cX6_votesFor 27 = .ok (.invokevirtual 198, 3) := by decide +kernel
theorem dX6_votesFor_30 : decode cX6_votesFor 30 = .ok (.iload_n 2, 1) := by decide +kernel
theorem dX6_votesFor_31 : decode cX6_votesFor 31 = .ok (.if_icmp .ne 7, 3) := by decide +kernel
theorem dX6_votesFor_34 : decode cX6_votesFor 34 = .ok (.iconst 1, 1) := by decide +kernel
theorem dX6_votesFor_35 : decode cX6_votesFor 35 = .ok (.goto 4, 3) := by decide +kernel
theorem dX6_votesFor_38 : decode cX6_votesFor 38 = .ok (.iconst 0, 1) := by decide +kernel
theorem dX6_votesFor_39 : decode cX6_votesFor 39 = .ok (.iadd, 1) := by decide +kernel
theorem dX6_votesFor_40 : decode cX6_votesFor 40 = .ok (.istore_n 3, 1) := by decide +kernel
theorem dX6_votesFor_41 : decode cX6_votesFor 41 = .ok (.iinc 4 1, 3) := by decide +kernel
theorem dX6_votesFor_44 : decode cX6_votesFor 44 = .ok (.goto (-39), 3) := by decide +kernel
theorem dX6_votesFor_47 : decode cX6_votesFor 47 = .ok (.iload_n 3, 1) := by decide +kernel
theorem dX6_votesFor_48 : decode cX6_votesFor 48 = .ok (.ireturn, 1) := by decide +kernel
set_option maxRecDepth 20000 in
theorem ggX6_votes_X6_isSitter : GoodIn wsX6_votes wsX6_isSitter := goodIn_r _ [9, 4, 10, 11, 8, 12, 33, 34, 35, 36, 37, 38, 39, 40, 41, 42, 43, 44, 45, 46, 47, 48, 49, 50, 51, 52, 53, 54, 55, 56, 57, 58, 59, 60, 61, 62, 63, 64, 65] (by decide +kernel) (by decide +kernel)
set_option maxRecDepth 20000 in
theorem gX6_votes_X6_isSitter : GoodIn wsX6_votes (wsV RX6 187 RX6 yX6_isSitter wsX6_isSitter) := goodIn_app (goodIn_of _ (by decide +kernel)) ggX6_votes_X6_isSitter
set_option maxRecDepth 20000 in
theorem ggX6_votes_X6_in : GoodIn wsX6_votes wsX6_in := goodIn_r _ [12] (by decide +kernel) (by decide +kernel)
set_option maxRecDepth 20000 in
theorem gX6_votes_X6_in : GoodIn wsX6_votes (va_wsS RX6 75 yX6_in wsX6_in) := goodIn_app (goodIn_of _ (by decide +kernel)) ggX6_votes_X6_in
set_option maxRecDepth 20000 in
theorem ggX6_votes_X6_votesFor : GoodIn wsX6_votes wsX6_votesFor := goodIn_r _ [16, 17, 18, 19, 20, 8, 21, 22, 23, 24, 25, 26, 27, 28, 4, 29, 30, 31, 32, 33, 34, 35, 36, 37, 38, 39, 40, 41, 42, 43, 44, 45, 46, 47, 48, 49, 50, 51, 52, 53, 54, 55, 56, 57, 58, 59, 60, 61, 62, 63, 64, 65] (by decide +kernel) (by decide +kernel)
set_option maxRecDepth 20000 in
theorem gX6_votes_X6_votesFor : GoodIn wsX6_votes (wsV RX6 261 RX6 yX6_votesFor wsX6_votesFor) := goodIn_app (goodIn_of _ (by decide +kernel)) ggX6_votes_X6_votesFor
theorem dX6_votes_0 : decode cX6_votes 0 = .ok (.iload_n 2, 1) := by decide +kernel
theorem dX6_votes_1 : decode cX6_votes 1 = .ok (.iconst (-1), 1) := by decide +kernel
theorem dX6_votes_2 : decode cX6_votes 2 = .ok (.if_icmp .eq 14, 3) := by decide +kernel
theorem dX6_votes_5 : decode cX6_votes 5 = .ok (.aload_n 0, 1) := by decide +kernel
theorem dX6_votes_6 : decode cX6_votes 6 = .ok (.iload_n 2, 1) := by decide +kernel
theorem dX6_votes_7 : decode cX6_votes 7 = .ok (.invokevirtual 187, 3) := by decide +kernel
theorem dX6_votes_10 : decode cX6_votes 10 = .ok (.ifCond .ne 6, 3) := by decide +kernel
theorem dX6_votes_13 : decode cX6_votes 13 = .ok (.ldc 190, 2) := by decide +kernel
theorem dX6_votes_15 : decode cX6_votes 15 = .ok (.ireturn, 1) := by decide +kernel
theorem dX6_votes_16 : decode cX6_votes 16 = .ok (.iload_n 1, 1) := by decide +kernel
theorem dX6_votes_17 : decode cX6_votes 17 = .ok (.i2l, 1) := by decide +kernel
theorem dX6_votes_18 : decode cX6_votes 18 = .ok (.lconst 0, 1) := by decide +kernel
theorem dX6_votes_19 : decode cX6_votes 19 = .ok (.ldc2_w 247, 3) := by decide +kernel
theorem dX6_votes_22 : decode cX6_votes 22 = .ok (.invokestatic 75, 3) := by decide +kernel
theorem dX6_votes_25 : decode cX6_votes 25 = .ok (.ifCond .ne 6, 3) := by decide +kernel
theorem dX6_votes_28 : decode cX6_votes 28 = .ok (.ldc 84, 2) := by decide +kernel
theorem dX6_votes_30 : decode cX6_votes 30 = .ok (.ireturn, 1) := by decide +kernel
theorem dX6_votes_31 : decode cX6_votes 31 = .ok (.iload_n 2, 1) := by decide +kernel
theorem dX6_votes_32 : decode cX6_votes 32 = .ok (.iconst (-1), 1) := by decide +kernel
theorem dX6_votes_33 : decode cX6_votes 33 = .ok (.if_icmp .eq 10, 3) := by decide +kernel
theorem dX6_votes_36 : decode cX6_votes 36 = .ok (.aload_n 0, 1) := by decide +kernel
theorem dX6_votes_37 : decode cX6_votes 37 = .ok (.iload_n 1, 1) := by decide +kernel
theorem dX6_votes_38 : decode cX6_votes 38 = .ok (.iload_n 2, 1) := by decide +kernel
theorem dX6_votes_39 : decode cX6_votes 39 = .ok (.invokevirtual 261, 3) := by decide +kernel
theorem dX6_votes_42 : decode cX6_votes 42 = .ok (.ireturn, 1) := by decide +kernel
theorem dX6_votes_43 : decode cX6_votes 43 = .ok (.iconst (-1), 1) := by decide +kernel
theorem dX6_votes_44 : decode cX6_votes 44 = .ok (.istore_n 3, 1) := by decide +kernel
theorem dX6_votes_45 : decode cX6_votes 45 = .ok (.iconst 0, 1) := by decide +kernel
theorem dX6_votes_46 : decode cX6_votes 46 = .ok (.istore 4, 2) := by decide +kernel
theorem dX6_votes_48 : decode cX6_votes 48 = .ok (.iconst 0, 1) := by decide +kernel
theorem dX6_votes_49 : decode cX6_votes 49 = .ok (.istore 5, 2) := by decide +kernel
theorem dX6_votes_51 : decode cX6_votes 51 = .ok (.iload 5, 2) := by decide +kernel
theorem dX6_votes_53 : decode cX6_votes 53 = .ok (.aload_n 0, 1) := by decide +kernel
theorem dX6_votes_54 : decode cX6_votes 54 = .ok (.getfield 72, 3) := by decide +kernel
theorem dX6_votes_57 : decode cX6_votes 57 = .ok (.if_icmp .ge 48, 3) := by decide +kernel
theorem dX6_votes_60 : decode cX6_votes 60 = .ok (.aload_n 0, 1) := by decide +kernel
theorem dX6_votes_61 : decode cX6_votes 61 = .ok (.iload_n 1, 1) := by decide +kernel
theorem dX6_votes_62 : decode cX6_votes 62 = .ok (.iload 5, 2) := by decide +kernel
theorem dX6_votes_64 : decode cX6_votes 64 = .ok (.invokevirtual 261, 3) := by decide +kernel
theorem dX6_votes_67 : decode cX6_votes 67 = .ok (.istore 6, 2) := by decide +kernel
theorem dX6_votes_69 : decode cX6_votes 69 = .ok (.iload 6, 2) := by decide +kernel
theorem dX6_votes_71 : decode cX6_votes 71 = .ok (.iload 4, 2) := by decide +kernel
theorem dX6_votes_73 : decode cX6_votes 73 = .ok (.if_icmp .le 8, 3) := by decide +kernel
theorem dX6_votes_76 : decode cX6_votes 76 = .ok (.iload 5, 2) := by decide +kernel
theorem dX6_votes_78 : decode cX6_votes 78 = .ok (.goto 4, 3) := by decide +kernel
theorem dX6_votes_81 : decode cX6_votes 81 = .ok (.iload_n 3, 1) := by decide +kernel
theorem dX6_votes_82 : decode cX6_votes 82 = .ok (.istore_n 3, 1) := by decide +kernel
theorem dX6_votes_83 : decode cX6_votes 83 = .ok (.iload 6, 2) := by decide +kernel
theorem dX6_votes_85 : decode cX6_votes 85 = .ok (.iload 4, 2) := by decide +kernel
theorem dX6_votes_87 : decode cX6_votes 87 = .ok (.if_icmp .le 8, 3) := by decide +kernel
theorem dX6_votes_90 : decode cX6_votes 90 = .ok (.iload 6, 2) := by decide +kernel
theorem dX6_votes_92 : decode cX6_votes 92 = .ok (.goto 5, 3) := by decide +kernel
theorem dX6_votes_95 : decode cX6_votes 95 = .ok (.iload 4, 2) := by decide +kernel
theorem dX6_votes_97 : decode cX6_votes 97 = .ok (.istore 4, 2) := by decide +kernel
theorem dX6_votes_99 : decode cX6_votes 99 = .ok (.iinc 5 1, 3) := by decide +kernel
theorem dX6_votes_102 : decode cX6_votes 102 = .ok (.goto (-51), 3) := by decide +kernel
theorem dX6_votes_105 : decode cX6_votes 105 = .ok (.iload_n 3, 1) := by decide +kernel
theorem dX6_votes_106 : decode cX6_votes 106 = .ok (.ireturn, 1) := by decide +kernel
set_option maxRecDepth 20000 in
theorem ggX6_clear_X6_in : GoodIn wsX6_clear wsX6_in := goodIn_r _ [8] (by decide +kernel) (by decide +kernel)
set_option maxRecDepth 20000 in
theorem gX6_clear_X6_in : GoodIn wsX6_clear (va_wsS RX6 75 yX6_in wsX6_in) := goodIn_app (goodIn_of _ (by decide +kernel)) ggX6_clear_X6_in
theorem dX6_clear_0 : decode cX6_clear 0 = .ok (.iload_n 1, 1) := by decide +kernel
theorem dX6_clear_1 : decode cX6_clear 1 = .ok (.i2l, 1) := by decide +kernel
theorem dX6_clear_2 : decode cX6_clear 2 = .ok (.lconst 0, 1) := by decide +kernel
theorem dX6_clear_3 : decode cX6_clear 3 = .ok (.ldc2_w 223, 3) := by decide +kernel
theorem dX6_clear_6 : decode cX6_clear 6 = .ok (.invokestatic 75, 3) := by decide +kernel
theorem dX6_clear_9 : decode cX6_clear 9 = .ok (.ifCond .eq 15, 3) := by decide +kernel
theorem dX6_clear_12 : decode cX6_clear 12 = .ok (.iload_n 2, 1) := by decide +kernel
theorem dX6_clear_13 : decode cX6_clear 13 = .ok (.i2l, 1) := by decide +kernel
theorem dX6_clear_14 : decode cX6_clear 14 = .ok (.lconst 0, 1) := by decide +kernel
theorem dX6_clear_15 : decode cX6_clear 15 = .ok (.ldc2_w 264, 3) := by decide +kernel
theorem dX6_clear_18 : decode cX6_clear 18 = .ok (.invokestatic 75, 3) := by decide +kernel
theorem dX6_clear_21 : decode cX6_clear 21 = .ok (.ifCond .ne 6, 3) := by decide +kernel
theorem dX6_clear_24 : decode cX6_clear 24 = .ok (.ldc 84, 2) := by decide +kernel
theorem dX6_clear_26 : decode cX6_clear 26 = .ok (.ireturn, 1) := by decide +kernel
theorem dX6_clear_27 : decode cX6_clear 27 = .ok (.ldc2_w 266, 3) := by decide +kernel
theorem dX6_clear_30 : decode cX6_clear 30 = .ok (.lstore_n 3, 1) := by decide +kernel
theorem dX6_clear_31 : decode cX6_clear 31 = .ok (.iconst 0, 1) := by decide +kernel
theorem dX6_clear_32 : decode cX6_clear 32 = .ok (.istore 5, 2) := by decide +kernel
theorem dX6_clear_34 : decode cX6_clear 34 = .ok (.iload 5, 2) := by decide +kernel
theorem dX6_clear_36 : decode cX6_clear 36 = .ok (.iload_n 1, 1) := by decide +kernel
theorem dX6_clear_37 : decode cX6_clear 37 = .ok (.if_icmp .ge 18, 3) := by decide +kernel
theorem dX6_clear_40 : decode cX6_clear 40 = .ok (.lload_n 3, 1) := by decide +kernel
theorem dX6_clear_41 : decode cX6_clear 41 = .ok (.iload_n 2, 1) := by decide +kernel
theorem dX6_clear_42 : decode cX6_clear 42 = .ok (.i2l, 1) := by decide +kernel
theorem dX6_clear_43 : decode cX6_clear 43 = .ok (.lmul, 1) := by decide +kernel
theorem dX6_clear_44 : decode cX6_clear 44 = .ok (.ldc2_w 264, 3) := by decide +kernel
theorem dX6_clear_47 : decode cX6_clear 47 = .ok (.ldiv, 1) := by decide +kernel
theorem dX6_clear_48 : decode cX6_clear 48 = .ok (.lstore_n 3, 1) := by decide +kernel
theorem dX6_clear_49 : decode cX6_clear 49 = .ok (.iinc 5 1, 3) := by decide +kernel
theorem dX6_clear_52 : decode cX6_clear 52 = .ok (.goto (-18), 3) := by decide +kernel
theorem dX6_clear_55 : decode cX6_clear 55 = .ok (.lload_n 3, 1) := by decide +kernel
theorem dX6_clear_56 : decode cX6_clear 56 = .ok (.l2i, 1) := by decide +kernel
theorem dX6_clear_57 : decode cX6_clear 57 = .ok (.ireturn, 1) := by decide +kernel
set_option maxRecDepth 20000 in
theorem ggX6_tellOf_X6_in : GoodIn wsX6_tellOf wsX6_in := goodIn_r _ [10] (by decide +kernel) (by decide +kernel)
set_option maxRecDepth 20000 in
theorem gX6_tellOf_X6_in : GoodIn wsX6_tellOf (va_wsS RX6 75 yX6_in wsX6_in) := goodIn_app (goodIn_of _ (by decide +kernel)) ggX6_tellOf_X6_in
theorem dX6_tellOf_0 : decode cX6_tellOf 0 = .ok (.iload_n 1, 1) := by decide +kernel
theorem dX6_tellOf_1 : decode cX6_tellOf 1 = .ok (.i2l, 1) := by decide +kernel
theorem dX6_tellOf_2 : decode cX6_tellOf 2 = .ok (.lconst 0, 1) := by decide +kernel
theorem dX6_tellOf_3 : decode cX6_tellOf 3 = .ok (.ldc2_w 217, 3) := by decide +kernel
theorem dX6_tellOf_6 : decode cX6_tellOf 6 = .ok (.invokestatic 75, 3) := by decide +kernel
theorem dX6_tellOf_9 : decode cX6_tellOf 9 = .ok (.ifCond .ne 6, 3) := by decide +kernel
theorem dX6_tellOf_12 : decode cX6_tellOf 12 = .ok (.ldc 84, 2) := by decide +kernel
theorem dX6_tellOf_14 : decode cX6_tellOf 14 = .ok (.ireturn, 1) := by decide +kernel
theorem dX6_tellOf_15 : decode cX6_tellOf 15 = .ok (.aload_n 0, 1) := by decide +kernel
theorem dX6_tellOf_16 : decode cX6_tellOf 16 = .ok (.getfield 154, 3) := by decide +kernel
theorem dX6_tellOf_19 : decode cX6_tellOf 19 = .ok (.bipush 6, 2) := by decide +kernel
theorem dX6_tellOf_21 : decode cX6_tellOf 21 = .ok (.if_icmp .ne 6, 3) := by decide +kernel
theorem dX6_tellOf_24 : decode cX6_tellOf 24 = .ok (.ldc 88, 2) := by decide +kernel
theorem dX6_tellOf_26 : decode cX6_tellOf 26 = .ok (.ireturn, 1) := by decide +kernel
theorem dX6_tellOf_27 : decode cX6_tellOf 27 = .ok (.aload_n 0, 1) := by decide +kernel
theorem dX6_tellOf_28 : decode cX6_tellOf 28 = .ok (.getfield 50, 3) := by decide +kernel
theorem dX6_tellOf_31 : decode cX6_tellOf 31 = .ok (.aload_n 0, 1) := by decide +kernel
theorem dX6_tellOf_32 : decode cX6_tellOf 32 = .ok (.getfield 154, 3) := by decide +kernel
theorem dX6_tellOf_35 : decode cX6_tellOf 35 = .ok (.iload_n 1, 1) := by decide +kernel
theorem dX6_tellOf_36 : decode cX6_tellOf 36 = .ok (.iastore, 1) := by decide +kernel
theorem dX6_tellOf_37 : decode cX6_tellOf 37 = .ok (.aload_n 0, 1) := by decide +kernel
theorem dX6_tellOf_38 : decode cX6_tellOf 38 = .ok (.getfield 53, 3) := by decide +kernel
theorem dX6_tellOf_41 : decode cX6_tellOf 41 = .ok (.aload_n 0, 1) := by decide +kernel
theorem dX6_tellOf_42 : decode cX6_tellOf 42 = .ok (.getfield 154, 3) := by decide +kernel
theorem dX6_tellOf_45 : decode cX6_tellOf 45 = .ok (.iload_n 2, 1) := by decide +kernel
theorem dX6_tellOf_46 : decode cX6_tellOf 46 = .ok (.ifCond .eq 7, 3) := by decide +kernel
theorem dX6_tellOf_49 : decode cX6_tellOf 49 = .ok (.iconst 1, 1) := by decide +kernel
theorem dX6_tellOf_50 : decode cX6_tellOf 50 = .ok (.goto 4, 3) := by decide +kernel
theorem dX6_tellOf_53 : decode cX6_tellOf 53 = .ok (.iconst 0, 1) := by decide +kernel
theorem dX6_tellOf_54 : decode cX6_tellOf 54 = .ok (.iastore, 1) := by decide +kernel
theorem dX6_tellOf_55 : decode cX6_tellOf 55 = .ok (.aload_n 0, 1) := by decide +kernel
theorem dX6_tellOf_56 : decode cX6_tellOf 56 = .ok (.dup, 1) := by decide +kernel
theorem dX6_tellOf_57 : decode cX6_tellOf 57 = .ok (.getfield 154, 3) := by decide +kernel
theorem dX6_tellOf_60 : decode cX6_tellOf 60 = .ok (.iconst 1, 1) := by decide +kernel
theorem dX6_tellOf_61 : decode cX6_tellOf 61 = .ok (.iadd, 1) := by decide +kernel
theorem dX6_tellOf_62 : decode cX6_tellOf 62 = .ok (.putfield 154, 3) := by decide +kernel
theorem dX6_tellOf_65 : decode cX6_tellOf 65 = .ok (.aload_n 0, 1) := by decide +kernel
theorem dX6_tellOf_66 : decode cX6_tellOf 66 = .ok (.getfield 154, 3) := by decide +kernel
theorem dX6_tellOf_69 : decode cX6_tellOf 69 = .ok (.ireturn, 1) := by decide +kernel
theorem dX6_isSo_0 : decode cX6_isSo 0 = .ok (.iconst 1, 1) := by decide +kernel
theorem dX6_isSo_1 : decode cX6_isSo 1 = .ok (.istore_n 2, 1) := by decide +kernel
theorem dX6_isSo_2 : decode cX6_isSo 2 = .ok (.iconst 0, 1) := by decide +kernel
theorem dX6_isSo_3 : decode cX6_isSo 3 = .ok (.istore_n 3, 1) := by decide +kernel
theorem dX6_isSo_4 : decode cX6_isSo 4 = .ok (.iload_n 3, 1) := by decide +kernel
theorem dX6_isSo_5 : decode cX6_isSo 5 = .ok (.aload_n 0, 1) := by decide +kernel
theorem dX6_isSo_6 : decode cX6_isSo 6 = .ok (.getfield 154, 3) := by decide +kernel
theorem dX6_isSo_9 : decode cX6_isSo 9 = .ok (.if_icmp .ge 38, 3) := by decide +kernel
theorem dX6_isSo_12 : decode cX6_isSo 12 = .ok (.iload_n 2, 1) := by decide +kernel
theorem dX6_isSo_13 : decode cX6_isSo 13 = .ok (.ifCond .eq 26, 3) := by decide +kernel
theorem dX6_isSo_16 : decode cX6_isSo 16 = .ok (.iload_n 1, 1) := by decide +kernel
theorem dX6_isSo_17 : decode cX6_isSo 17 = .ok (.aload_n 0, 1) := by decide +kernel
theorem dX6_isSo_18 : decode cX6_isSo 18 = .ok (.getfield 50, 3) := by decide +kernel
theorem dX6_isSo_21 : decode cX6_isSo 21 = .ok (.iload_n 3, 1) := by decide +kernel
theorem dX6_isSo_22 : decode cX6_isSo 22 = .ok (.iaload, 1) := by decide +kernel
theorem dX6_isSo_23 : decode cX6_isSo 23 = .ok (.ishr, 1) := by decide +kernel
theorem dX6_isSo_24 : decode cX6_isSo 24 = .ok (.iconst 1, 1) := by decide +kernel
theorem dX6_isSo_25 : decode cX6_isSo 25 = .ok (.iand, 1) := by decide +kernel
theorem dX6_isSo_26 : decode cX6_isSo 26 = .ok (.aload_n 0, 1) := by decide +kernel
theorem dX6_isSo_27 : decode cX6_isSo 27 = .ok (.getfield 53, 3) := by decide +kernel
theorem dX6_isSo_30 : decode cX6_isSo 30 = .ok (.iload_n 3, 1) := by decide +kernel
theorem dX6_isSo_31 : decode cX6_isSo 31 = .ok (.iaload, 1) := by decide +kernel
theorem dX6_isSo_32 : decode cX6_isSo 32 = .ok (.if_icmp .ne 7, 3) := by decide +kernel
theorem dX6_isSo_35 : decode cX6_isSo 35 = .ok (.iconst 1, 1) := by decide +kernel
theorem dX6_isSo_36 : decode cX6_isSo 36 = .ok (.goto 4, 3) := by decide +kernel
theorem dX6_isSo_39 : decode cX6_isSo 39 = .ok (.iconst 0, 1) := by decide +kernel
theorem dX6_isSo_40 : decode cX6_isSo 40 = .ok (.istore_n 2, 1) := by decide +kernel
theorem dX6_isSo_41 : decode cX6_isSo 41 = .ok (.iinc 3 1, 3) := by decide +kernel
theorem dX6_isSo_44 : decode cX6_isSo 44 = .ok (.goto (-40), 3) := by decide +kernel
theorem dX6_isSo_47 : decode cX6_isSo 47 = .ok (.iload_n 2, 1) := by decide +kernel
theorem dX6_isSo_48 : decode cX6_isSo 48 = .ok (.ireturn, 1) := by decide +kernel
set_option maxRecDepth 20000 in
theorem ggX6_mayBe_X6_shifted : GoodIn wsX6_mayBe wsX6_shifted := goodIn_r _ [6, 7, 8, 9, 5, 10, 11, 12, 13] (by decide +kernel) (by decide +kernel)
set_option maxRecDepth 20000 in
theorem gX6_mayBe_X6_shifted : GoodIn wsX6_mayBe (va_wsS RX6 166 yX6_shifted wsX6_shifted) := goodIn_app (goodIn_of _ (by decide +kernel)) ggX6_mayBe_X6_shifted
set_option maxRecDepth 20000 in
theorem ggX6_mayBe_X6_isSo : GoodIn wsX6_mayBe wsX6_isSo := goodIn_r _ [17, 18, 19, 20, 21, 22, 23, 24, 25, 26, 27, 28, 29, 30, 31, 32, 33, 34, 35, 36, 37, 38, 39, 40, 41, 42, 43, 44, 45, 46, 47, 48, 49, 50, 51, 52, 53] (by decide +kernel) (by decide +kernel)
set_option maxRecDepth 20000 in
theorem gX6_mayBe_X6_isSo : GoodIn wsX6_mayBe (wsV RX6 268 RX6 yX6_isSo wsX6_isSo) := goodIn_app (goodIn_of _ (by decide +kernel)) ggX6_mayBe_X6_isSo
theorem dX6_mayBe_0 : decode cX6_mayBe 0 = .ok (.iconst 0, 1) := by decide +kernel
theorem dX6_mayBe_1 : decode cX6_mayBe 1 = .ok (.istore_n 1, 1) := by decide +kernel
theorem dX6_mayBe_2 : decode cX6_mayBe 2 = .ok (.iconst 0, 1) := by decide +kernel
theorem dX6_mayBe_3 : decode cX6_mayBe 3 = .ok (.istore_n 2, 1) := by decide +kernel
theorem dX6_mayBe_4 : decode cX6_mayBe 4 = .ok (.iload_n 2, 1) := by decide +kernel
theorem dX6_mayBe_5 : decode cX6_mayBe 5 = .ok (.aload_n 0, 1) := by decide +kernel
theorem dX6_mayBe_6 : decode cX6_mayBe 6 = .ok (.getfield 72, 3) := by decide +kernel
theorem dX6_mayBe_9 : decode cX6_mayBe 9 = .ok (.if_icmp .ge 50, 3) := by decide +kernel
theorem dX6_mayBe_12 : decode cX6_mayBe 12 = .ok (.iconst 0, 1) := by decide +kernel
theorem dX6_mayBe_13 : decode cX6_mayBe 13 = .ok (.istore_n 3, 1) := by decide +kernel
theorem dX6_mayBe_14 : decode cX6_mayBe 14 = .ok (.iload_n 3, 1) := by decide +kernel
theorem dX6_mayBe_15 : decode cX6_mayBe 15 = .ok (.bipush 6, 2) := by decide +kernel
theorem dX6_mayBe_17 : decode cX6_mayBe 17 = .ok (.if_icmp .ge 36, 3) := by decide +kernel
theorem dX6_mayBe_20 : decode cX6_mayBe 20 = .ok (.iload_n 1, 1) := by decide +kernel
theorem dX6_mayBe_21 : decode cX6_mayBe 21 = .ok (.aload_n 0, 1) := by decide +kernel
theorem dX6_mayBe_22 : decode cX6_mayBe 22 = .ok (.aload_n 0, 1) := by decide +kernel
theorem dX6_mayBe_23 : decode cX6_mayBe 23 = .ok (.getfield 7, 3) := by decide +kernel
theorem dX6_mayBe_26 : decode cX6_mayBe 26 = .ok (.iload_n 2, 1) := by decide +kernel
theorem dX6_mayBe_27 : decode cX6_mayBe 27 = .ok (.iaload, 1) := by decide +kernel
theorem dX6_mayBe_28 : decode cX6_mayBe 28 = .ok (.iload_n 3, 1) := by decide +kernel
theorem dX6_mayBe_29 : decode cX6_mayBe 29 = .ok (.invokestatic 166, 3) := by decide +kernel
theorem dX6_mayBe_32 : decode cX6_mayBe 32 = .ok (.invokevirtual 268, 3) := by decide +kernel
theorem dX6_mayBe_35 : decode cX6_mayBe 35 = .ok (.ifCond .eq 9, 3) := by decide +kernel
theorem dX6_mayBe_38 : decode cX6_mayBe 38 = .ok (.iconst 1, 1) := by decide +kernel
theorem dX6_mayBe_39 : decode cX6_mayBe 39 = .ok (.iload_n 2, 1) := by decide +kernel
theorem dX6_mayBe_40 : decode cX6_mayBe 40 = .ok (.ishl, 1) := by decide +kernel
theorem dX6_mayBe_41 : decode cX6_mayBe 41 = .ok (.goto 4, 3) := by decide +kernel
theorem dX6_mayBe_44 : decode cX6_mayBe 44 = .ok (.iconst 0, 1) := by decide +kernel
theorem dX6_mayBe_45 : decode cX6_mayBe 45 = .ok (.ior, 1) := by decide +kernel
theorem dX6_mayBe_46 : decode cX6_mayBe 46 = .ok (.istore_n 1, 1) := by decide +kernel
theorem dX6_mayBe_47 : decode cX6_mayBe 47 = .ok (.iinc 3 1, 3) := by decide +kernel
theorem dX6_mayBe_50 : decode cX6_mayBe 50 = .ok (.goto (-36), 3) := by decide +kernel
theorem dX6_mayBe_53 : decode cX6_mayBe 53 = .ok (.iinc 2 1, 3) := by decide +kernel
theorem dX6_mayBe_56 : decode cX6_mayBe 56 = .ok (.goto (-52), 3) := by decide +kernel
theorem dX6_mayBe_59 : decode cX6_mayBe 59 = .ok (.iload_n 1, 1) := by decide +kernel
theorem dX6_mayBe_60 : decode cX6_mayBe 60 = .ok (.ireturn, 1) := by decide +kernel
set_option maxRecDepth 20000 in
theorem ggX6_ask_X6_shifted : GoodIn wsX6_ask wsX6_shifted := goodIn_r _ [7, 8, 9, 10, 6, 11, 12, 13, 14] (by decide +kernel) (by decide +kernel)
set_option maxRecDepth 20000 in
theorem gX6_ask_X6_shifted : GoodIn wsX6_ask (va_wsS RX6 166 yX6_shifted wsX6_shifted) := goodIn_app (goodIn_of _ (by decide +kernel)) ggX6_ask_X6_shifted
set_option maxRecDepth 20000 in
theorem ggX6_ask_X6_isSo : GoodIn wsX6_ask wsX6_isSo := goodIn_r _ [18, 19, 20, 21, 22, 23, 24, 25, 26, 27, 28, 29, 30, 31, 32, 33, 34, 35, 36, 37, 38, 39, 40, 41, 42, 43, 44, 45, 46, 47, 48, 49, 50, 51, 52, 53, 54] (by decide +kernel) (by decide +kernel)
set_option maxRecDepth 20000 in
theorem gX6_ask_X6_isSo : GoodIn wsX6_ask (wsV RX6 268 RX6 yX6_isSo wsX6_isSo) := goodIn_app (goodIn_of _ (by decide +kernel)) ggX6_ask_X6_isSo
theorem dX6_ask_0 : decode cX6_ask 0 = .ok (.iconst 0, 1) := by decide +kernel
theorem dX6_ask_1 : decode cX6_ask 1 = .ok (.istore_n 1, 1) := by decide +kernel
theorem dX6_ask_2 : decode cX6_ask 2 = .ok (.iconst 0, 1) := by decide +kernel
theorem dX6_ask_3 : decode cX6_ask 3 = .ok (.istore_n 2, 1) := by decide +kernel
theorem dX6_ask_4 : decode cX6_ask 4 = .ok (.iload_n 2, 1) := by decide +kernel
theorem dX6_ask_5 : decode cX6_ask 5 = .ok (.bipush 30, 2) := by decide +kernel
theorem dX6_ask_7 : decode cX6_ask 7 = .ok (.if_icmp .ge 16, 3) := by decide +kernel
theorem dX6_ask_10 : decode cX6_ask 10 = .ok (.aload_n 0, 1) := by decide +kernel
theorem dX6_ask_11 : decode cX6_ask 11 = .ok (.getfield 56, 3) := by decide +kernel
theorem dX6_ask_14 : decode cX6_ask 14 = .ok (.iload_n 2, 1) := by decide +kernel
theorem dX6_ask_15 : decode cX6_ask 15 = .ok (.iconst 0, 1) := by decide +kernel
theorem dX6_ask_16 : decode cX6_ask 16 = .ok (.iastore, 1) := by decide +kernel
theorem dX6_ask_17 : decode cX6_ask 17 = .ok (.iinc 2 1, 3) := by decide +kernel
theorem dX6_ask_20 : decode cX6_ask 20 = .ok (.goto (-16), 3) := by decide +kernel
theorem dX6_ask_23 : decode cX6_ask 23 = .ok (.iconst 0, 1) := by decide +kernel
theorem dX6_ask_24 : decode cX6_ask 24 = .ok (.istore_n 2, 1) := by decide +kernel
theorem dX6_ask_25 : decode cX6_ask 25 = .ok (.iload_n 2, 1) := by decide +kernel
theorem dX6_ask_26 : decode cX6_ask 26 = .ok (.bipush 6, 2) := by decide +kernel
theorem dX6_ask_28 : decode cX6_ask 28 = .ok (.aload_n 0, 1) := by decide +kernel
theorem dX6_ask_29 : decode cX6_ask 29 = .ok (.getfield 72, 3) := by decide +kernel
theorem dX6_ask_32 : decode cX6_ask 32 = .ok (.imul, 1) := by decide +kernel
theorem dX6_ask_33 : decode cX6_ask 33 = .ok (.if_icmp .ge 69, 3) := by decide +kernel
theorem dX6_ask_36 : decode cX6_ask 36 = .ok (.aload_n 0, 1) := by decide +kernel
theorem dX6_ask_37 : decode cX6_ask 37 = .ok (.getfield 7, 3) := by decide +kernel
theorem dX6_ask_40 : decode cX6_ask 40 = .ok (.iload_n 2, 1) := by decide +kernel
theorem dX6_ask_41 : decode cX6_ask 41 = .ok (.bipush 6, 2) := by decide +kernel
theorem dX6_ask_43 : decode cX6_ask 43 = .ok (.idiv, 1) := by decide +kernel
theorem dX6_ask_44 : decode cX6_ask 44 = .ok (.iaload, 1) := by decide +kernel
theorem dX6_ask_45 : decode cX6_ask 45 = .ok (.iload_n 2, 1) := by decide +kernel
theorem dX6_ask_46 : decode cX6_ask 46 = .ok (.bipush 6, 2) := by decide +kernel
theorem dX6_ask_48 : decode cX6_ask 48 = .ok (.irem, 1) := by decide +kernel
theorem dX6_ask_49 : decode cX6_ask 49 = .ok (.invokestatic 166, 3) := by decide +kernel
theorem dX6_ask_52 : decode cX6_ask 52 = .ok (.istore_n 3, 1) := by decide +kernel
theorem dX6_ask_53 : decode cX6_ask 53 = .ok (.aload_n 0, 1) := by decide +kernel
theorem dX6_ask_54 : decode cX6_ask 54 = .ok (.iload_n 3, 1) := by decide +kernel
theorem dX6_ask_55 : decode cX6_ask 55 = .ok (.invokevirtual 268, 3) := by decide +kernel
theorem dX6_ask_58 : decode cX6_ask 58 = .ok (.ifCond .eq 38, 3) := by decide +kernel
theorem dX6_ask_61 : decode cX6_ask 61 = .ok (.iinc 1 1, 3) := by decide +kernel
theorem dX6_ask_64 : decode cX6_ask 64 = .ok (.iconst 0, 1) := by decide +kernel
theorem dX6_ask_65 : decode cX6_ask 65 = .ok (.istore 4, 2) := by decide +kernel
theorem dX6_ask_67 : decode cX6_ask 67 = .ok (.iload 4, 2) := by decide +kernel
theorem dX6_ask_69 : decode cX6_ask 69 = .ok (.bipush 30, 2) := by decide +kernel
theorem dX6_ask_71 : decode cX6_ask 71 = .ok (.if_icmp .ge 25, 3) := by decide +kernel
theorem dX6_ask_74 : decode cX6_ask 74 = .ok (.aload_n 0, 1) := by decide +kernel
theorem dX6_ask_75 : decode cX6_ask 75 = .ok (.getfield 56, 3) := by decide +kernel
theorem dX6_ask_78 : decode cX6_ask 78 = .ok (.iload 4, 2) := by decide +kernel
theorem dX6_ask_80 : decode cX6_ask 80 = .ok (.dup2, 1) := by decide +kernel
theorem dX6_ask_81 : decode cX6_ask 81 = .ok (.iaload, 1) := by decide +kernel
theorem dX6_ask_82 : decode cX6_ask 82 = .ok (.iload_n 3, 1) := by decide +kernel
theorem dX6_ask_83 : decode cX6_ask 83 = .ok (.iload 4, 2) := by decide +kernel
theorem dX6_ask_85 : decode cX6_ask 85 = .ok (.ishr, 1) := by decide +kernel
theorem dX6_ask_86 : decode cX6_ask 86 = .ok (.iconst 1, 1) := by decide +kernel
theorem dX6_ask_87 : decode cX6_ask 87 = .ok (.iand, 1) := by decide +kernel
theorem dX6_ask_88 : decode cX6_ask 88 = .ok (.iadd, 1) := by decide +kernel
theorem dX6_ask_89 : decode cX6_ask 89 = .ok (.iastore, 1) := by decide +kernel
theorem dX6_ask_90 : decode cX6_ask 90 = .ok (.iinc 4 1, 3) := by decide +kernel
theorem dX6_ask_93 : decode cX6_ask 93 = .ok (.goto (-26), 3) := by decide +kernel
theorem dX6_ask_96 : decode cX6_ask 96 = .ok (.iinc 2 1, 3) := by decide +kernel
theorem dX6_ask_99 : decode cX6_ask 99 = .ok (.goto (-74), 3) := by decide +kernel
theorem dX6_ask_102 : decode cX6_ask 102 = .ok (.iconst (-1), 1) := by decide +kernel
theorem dX6_ask_103 : decode cX6_ask 103 = .ok (.istore_n 2, 1) := by decide +kernel
theorem dX6_ask_104 : decode cX6_ask 104 = .ok (.iload_n 1, 1) := by decide +kernel
theorem dX6_ask_105 : decode cX6_ask 105 = .ok (.istore_n 3, 1) := by decide +kernel
theorem dX6_ask_106 : decode cX6_ask 106 = .ok (.iconst 0, 1) := by decide +kernel
theorem dX6_ask_107 : decode cX6_ask 107 = .ok (.istore 4, 2) := by decide +kernel
theorem dX6_ask_109 : decode cX6_ask 109 = .ok (.iload 4, 2) := by decide +kernel
theorem dX6_ask_111 : decode cX6_ask 111 = .ok (.bipush 30, 2) := by decide +kernel
theorem dX6_ask_113 : decode cX6_ask 113 = .ok (.if_icmp .ge 75, 3) := by decide +kernel
theorem dX6_ask_116 : decode cX6_ask 116 = .ok (.aload_n 0, 1) := by decide +kernel
theorem dX6_ask_117 : decode cX6_ask 117 = .ok (.getfield 56, 3) := by decide +kernel
theorem dX6_ask_120 : decode cX6_ask 120 = .ok (.iload 4, 2) := by decide +kernel
theorem dX6_ask_122 : decode cX6_ask 122 = .ok (.iaload, 1) := by decide +kernel
theorem dX6_ask_123 : decode cX6_ask 123 = .ok (.iload_n 1, 1) := by decide +kernel
theorem dX6_ask_124 : decode cX6_ask 124 = .ok (.aload_n 0, 1) := by decide +kernel
theorem dX6_ask_125 : decode cX6_ask 125 = .ok (.getfield 56, 3) := by decide +kernel
theorem dX6_ask_128 : decode cX6_ask 128 = .ok (.iload 4, 2) := by decide +kernel
theorem dX6_ask_130 : decode cX6_ask 130 = .ok (.iaload, 1) := by decide +kernel
theorem dX6_ask_131 : decode cX6_ask 131 = .ok (.isub, 1) := by decide +kernel
theorem dX6_ask_132 : decode cX6_ask 132 = .ok (.if_icmp .le 13, 3) := by decide +kernel
theorem dX6_ask_135 : decode cX6_ask 135 = .ok (.aload_n 0, 1) := by decide +kernel
theorem dX6_ask_136 : decode cX6_ask 136 = .ok (.getfield 56, 3) := by decide +kernel
theorem dX6_ask_139 : decode cX6_ask 139 = .ok (.iload 4, 2) := by decide +kernel
theorem dX6_ask_141 : decode cX6_ask 141 = .ok (.iaload, 1) := by decide +kernel
theorem dX6_ask_142 : decode cX6_ask 142 = .ok (.goto 12, 3) := by decide +kernel
theorem dX6_ask_145 : decode cX6_ask 145 = .ok (.iload_n 1, 1) := by decide +kernel
theorem dX6_ask_146 : decode cX6_ask 146 = .ok (.aload_n 0, 1) := by decide +kernel
theorem dX6_ask_147 : decode cX6_ask 147 = .ok (.getfield 56, 3) := by decide +kernel
theorem dX6_ask_150 : decode cX6_ask 150 = .ok (.iload 4, 2) := by decide +kernel
theorem dX6_ask_152 : decode cX6_ask 152 = .ok (.iaload, 1) := by decide +kernel
theorem dX6_ask_153 : decode cX6_ask 153 = .ok (.isub, 1) := by decide +kernel
theorem dX6_ask_154 : decode cX6_ask 154 = .ok (.istore 5, 2) := by decide +kernel
theorem dX6_ask_156 : decode cX6_ask 156 = .ok (.iload 5, 2) := by decide +kernel
theorem dX6_ask_158 : decode cX6_ask 158 = .ok (.iload_n 3, 1) := by decide +kernel
theorem dX6_ask_159 : decode cX6_ask 159 = .ok (.if_icmp .ge 8, 3) := by decide +kernel
theorem dX6_ask_162 : decode cX6_ask 162 = .ok (.iload 4, 2) := by decide +kernel
theorem dX6_ask_164 : decode cX6_ask 164 = .ok (.goto 4, 3) := by decide +kernel
theorem dX6_ask_167 : decode cX6_ask 167 = .ok (.iload_n 2, 1) := by decide +kernel
theorem dX6_ask_168 : decode cX6_ask 168 = .ok (.istore_n 2, 1) := by decide +kernel
theorem dX6_ask_169 : decode cX6_ask 169 = .ok (.iload 5, 2) := by decide +kernel
theorem dX6_ask_171 : decode cX6_ask 171 = .ok (.iload_n 3, 1) := by decide +kernel
theorem dX6_ask_172 : decode cX6_ask 172 = .ok (.if_icmp .ge 8, 3) := by decide +kernel
theorem dX6_ask_175 : decode cX6_ask 175 = .ok (.iload 5, 2) := by decide +kernel
theorem dX6_ask_177 : decode cX6_ask 177 = .ok (.goto 4, 3) := by decide +kernel
theorem dX6_ask_180 : decode cX6_ask 180 = .ok (.iload_n 3, 1) := by decide +kernel
theorem dX6_ask_181 : decode cX6_ask 181 = .ok (.istore_n 3, 1) := by decide +kernel
theorem dX6_ask_182 : decode cX6_ask 182 = .ok (.iinc 4 1, 3) := by decide +kernel
theorem dX6_ask_185 : decode cX6_ask 185 = .ok (.goto (-76), 3) := by decide +kernel
theorem dX6_ask_188 : decode cX6_ask 188 = .ok (.iload_n 2, 1) := by decide +kernel
theorem dX6_ask_189 : decode cX6_ask 189 = .ok (.ireturn, 1) := by decide +kernel
theorem dX6_tear_0 : decode cX6_tear 0 = .ok (.aload_n 0, 1) := by decide +kernel
theorem dX6_tear_1 : decode cX6_tear 1 = .ok (.getfield 154, 3) := by decide +kernel
theorem dX6_tear_4 : decode cX6_tear 4 = .ok (.istore_n 1, 1) := by decide +kernel
theorem dX6_tear_5 : decode cX6_tear 5 = .ok (.aload_n 0, 1) := by decide +kernel
theorem dX6_tear_6 : decode cX6_tear 6 = .ok (.iconst 0, 1) := by decide +kernel
theorem dX6_tear_7 : decode cX6_tear 7 = .ok (.putfield 154, 3) := by decide +kernel
theorem dX6_tear_10 : decode cX6_tear 10 = .ok (.iload_n 1, 1) := by decide +kernel
theorem dX6_tear_11 : decode cX6_tear 11 = .ok (.ireturn, 1) := by decide +kernel
theorem dX6_seed_0 : decode cX6_seed 0 = .ok (.iload_n 1, 1) := by decide +kernel
theorem dX6_seed_1 : decode cX6_seed 1 = .ok (.ifCond .ge 6, 3) := by decide +kernel
theorem dX6_seed_4 : decode cX6_seed 4 = .ok (.ldc 84, 2) := by decide +kernel
theorem dX6_seed_6 : decode cX6_seed 6 = .ok (.ireturn, 1) := by decide +kernel
theorem dX6_seed_7 : decode cX6_seed 7 = .ok (.aload_n 0, 1) := by decide +kernel
theorem dX6_seed_8 : decode cX6_seed 8 = .ok (.getfield 231, 3) := by decide +kernel
theorem dX6_seed_11 : decode cX6_seed 11 = .ok (.istore_n 2, 1) := by decide +kernel
theorem dX6_seed_12 : decode cX6_seed 12 = .ok (.aload_n 0, 1) := by decide +kernel
theorem dX6_seed_13 : decode cX6_seed 13 = .ok (.iload_n 1, 1) := by decide +kernel
theorem dX6_seed_14 : decode cX6_seed 14 = .ok (.putfield 231, 3) := by decide +kernel
theorem dX6_seed_17 : decode cX6_seed 17 = .ok (.iload_n 2, 1) := by decide +kernel
theorem dX6_seed_18 : decode cX6_seed 18 = .ok (.ireturn, 1) := by decide +kernel
set_option maxRecDepth 20000 in
theorem ggX6_keep_X6_in : GoodIn wsX6_keep wsX6_in := goodIn_r _ [10] (by decide +kernel) (by decide +kernel)
set_option maxRecDepth 20000 in
theorem gX6_keep_X6_in : GoodIn wsX6_keep (va_wsS RX6 75 yX6_in wsX6_in) := goodIn_app (goodIn_of _ (by decide +kernel)) ggX6_keep_X6_in
theorem dX6_keep_0 : decode cX6_keep 0 = .ok (.iload_n 1, 1) := by decide +kernel
theorem dX6_keep_1 : decode cX6_keep 1 = .ok (.i2l, 1) := by decide +kernel
theorem dX6_keep_2 : decode cX6_keep 2 = .ok (.lconst 0, 1) := by decide +kernel
theorem dX6_keep_3 : decode cX6_keep 3 = .ok (.lconst 1, 1) := by decide +kernel
theorem dX6_keep_4 : decode cX6_keep 4 = .ok (.invokestatic 75, 3) := by decide +kernel
theorem dX6_keep_7 : decode cX6_keep 7 = .ok (.ifCond .ne 6, 3) := by decide +kernel
theorem dX6_keep_10 : decode cX6_keep 10 = .ok (.ldc 190, 2) := by decide +kernel
theorem dX6_keep_12 : decode cX6_keep 12 = .ok (.ireturn, 1) := by decide +kernel
theorem dX6_keep_13 : decode cX6_keep 13 = .ok (.iconst 0, 1) := by decide +kernel
theorem dX6_keep_14 : decode cX6_keep 14 = .ok (.istore_n 2, 1) := by decide +kernel
theorem dX6_keep_15 : decode cX6_keep 15 = .ok (.iload_n 2, 1) := by decide +kernel
theorem dX6_keep_16 : decode cX6_keep 16 = .ok (.bipush 82, 2) := by decide +kernel
theorem dX6_keep_18 : decode cX6_keep 18 = .ok (.if_icmp .ge 26, 3) := by decide +kernel
theorem dX6_keep_21 : decode cX6_keep 21 = .ok (.aload_n 0, 1) := by decide +kernel
theorem dX6_keep_22 : decode cX6_keep 22 = .ok (.getfield 59, 3) := by decide +kernel
theorem dX6_keep_25 : decode cX6_keep 25 = .ok (.bipush 83, 2) := by decide +kernel
theorem dX6_keep_27 : decode cX6_keep 27 = .ok (.iload_n 1, 1) := by decide +kernel
theorem dX6_keep_28 : decode cX6_keep 28 = .ok (.imul, 1) := by decide +kernel
theorem dX6_keep_29 : decode cX6_keep 29 = .ok (.iload_n 2, 1) := by decide +kernel
theorem dX6_keep_30 : decode cX6_keep 30 = .ok (.iadd, 1) := by decide +kernel
theorem dX6_keep_31 : decode cX6_keep 31 = .ok (.aload_n 0, 1) := by decide +kernel
theorem dX6_keep_32 : decode cX6_keep 32 = .ok (.getfield 19, 3) := by decide +kernel
theorem dX6_keep_35 : decode cX6_keep 35 = .ok (.iload_n 2, 1) := by decide +kernel
theorem dX6_keep_36 : decode cX6_keep 36 = .ok (.iaload, 1) := by decide +kernel
theorem dX6_keep_37 : decode cX6_keep 37 = .ok (.iastore, 1) := by decide +kernel
theorem dX6_keep_38 : decode cX6_keep 38 = .ok (.iinc 2 1, 3) := by decide +kernel
theorem dX6_keep_41 : decode cX6_keep 41 = .ok (.goto (-26), 3) := by decide +kernel
theorem dX6_keep_44 : decode cX6_keep 44 = .ok (.aload_n 0, 1) := by decide +kernel
theorem dX6_keep_45 : decode cX6_keep 45 = .ok (.getfield 59, 3) := by decide +kernel
theorem dX6_keep_48 : decode cX6_keep 48 = .ok (.bipush 83, 2) := by decide +kernel
theorem dX6_keep_50 : decode cX6_keep 50 = .ok (.iload_n 1, 1) := by decide +kernel
theorem dX6_keep_51 : decode cX6_keep 51 = .ok (.imul, 1) := by decide +kernel
theorem dX6_keep_52 : decode cX6_keep 52 = .ok (.bipush 82, 2) := by decide +kernel
theorem dX6_keep_54 : decode cX6_keep 54 = .ok (.iadd, 1) := by decide +kernel
theorem dX6_keep_55 : decode cX6_keep 55 = .ok (.aload_n 0, 1) := by decide +kernel
theorem dX6_keep_56 : decode cX6_keep 56 = .ok (.getfield 231, 3) := by decide +kernel
theorem dX6_keep_59 : decode cX6_keep 59 = .ok (.iastore, 1) := by decide +kernel
theorem dX6_keep_60 : decode cX6_keep 60 = .ok (.aload_n 0, 1) := by decide +kernel
theorem dX6_keep_61 : decode cX6_keep 61 = .ok (.getfield 62, 3) := by decide +kernel
theorem dX6_keep_64 : decode cX6_keep 64 = .ok (.iload_n 1, 1) := by decide +kernel
theorem dX6_keep_65 : decode cX6_keep 65 = .ok (.iconst 1, 1) := by decide +kernel
theorem dX6_keep_66 : decode cX6_keep 66 = .ok (.bastore, 1) := by decide +kernel
theorem dX6_keep_67 : decode cX6_keep 67 = .ok (.aload_n 0, 1) := by decide +kernel
theorem dX6_keep_68 : decode cX6_keep 68 = .ok (.iconst 0, 1) := by decide +kernel
theorem dX6_keep_69 : decode cX6_keep 69 = .ok (.putfield 157, 3) := by decide +kernel
theorem dX6_keep_72 : decode cX6_keep 72 = .ok (.iconst 1, 1) := by decide +kernel
theorem dX6_keep_73 : decode cX6_keep 73 = .ok (.ireturn, 1) := by decide +kernel
set_option maxRecDepth 20000 in
theorem ggX6_goBack_X6_in : GoodIn wsX6_goBack wsX6_in := goodIn_r _ [11] (by decide +kernel) (by decide +kernel)
set_option maxRecDepth 20000 in
theorem gX6_goBack_X6_in : GoodIn wsX6_goBack (va_wsS RX6 75 yX6_in wsX6_in) := goodIn_app (goodIn_of _ (by decide +kernel)) ggX6_goBack_X6_in
theorem dX6_goBack_0 : decode cX6_goBack 0 = .ok (.iload_n 1, 1) := by decide +kernel
theorem dX6_goBack_1 : decode cX6_goBack 1 = .ok (.i2l, 1) := by decide +kernel
theorem dX6_goBack_2 : decode cX6_goBack 2 = .ok (.lconst 0, 1) := by decide +kernel
theorem dX6_goBack_3 : decode cX6_goBack 3 = .ok (.lconst 1, 1) := by decide +kernel
theorem dX6_goBack_4 : decode cX6_goBack 4 = .ok (.invokestatic 75, 3) := by decide +kernel
theorem dX6_goBack_7 : decode cX6_goBack 7 = .ok (.ifCond .ne 6, 3) := by decide +kernel
theorem dX6_goBack_10 : decode cX6_goBack 10 = .ok (.ldc 190, 2) := by decide +kernel
theorem dX6_goBack_12 : decode cX6_goBack 12 = .ok (.ireturn, 1) := by decide +kernel
theorem dX6_goBack_13 : decode cX6_goBack 13 = .ok (.aload_n 0, 1) := by decide +kernel
theorem dX6_goBack_14 : decode cX6_goBack 14 = .ok (.getfield 62, 3) := by decide +kernel
theorem dX6_goBack_17 : decode cX6_goBack 17 = .ok (.iload_n 1, 1) := by decide +kernel
theorem dX6_goBack_18 : decode cX6_goBack 18 = .ok (.baload, 1) := by decide +kernel
theorem dX6_goBack_19 : decode cX6_goBack 19 = .ok (.ifCond .ne 6, 3) := by decide +kernel
theorem dX6_goBack_22 : decode cX6_goBack 22 = .ok (.ldc 205, 2) := by decide +kernel
theorem dX6_goBack_24 : decode cX6_goBack 24 = .ok (.ireturn, 1) := by decide +kernel
theorem dX6_goBack_25 : decode cX6_goBack 25 = .ok (.iconst 0, 1) := by decide +kernel
theorem dX6_goBack_26 : decode cX6_goBack 26 = .ok (.istore_n 2, 1) := by decide +kernel
theorem dX6_goBack_27 : decode cX6_goBack 27 = .ok (.iload_n 2, 1) := by decide +kernel
theorem dX6_goBack_28 : decode cX6_goBack 28 = .ok (.bipush 82, 2) := by decide +kernel
theorem dX6_goBack_30 : decode cX6_goBack 30 = .ok (.if_icmp .ge 26, 3) := by decide +kernel
theorem dX6_goBack_33 : decode cX6_goBack 33 = .ok (.aload_n 0, 1) := by decide +kernel
theorem dX6_goBack_34 : decode cX6_goBack 34 = .ok (.getfield 19, 3) := by decide +kernel
theorem dX6_goBack_37 : decode cX6_goBack 37 = .ok (.iload_n 2, 1) := by decide +kernel
theorem dX6_goBack_38 : decode cX6_goBack 38 = .ok (.aload_n 0, 1) := by decide +kernel
theorem dX6_goBack_39 : decode cX6_goBack 39 = .ok (.getfield 59, 3) := by decide +kernel
theorem dX6_goBack_42 : decode cX6_goBack 42 = .ok (.bipush 83, 2) := by decide +kernel
theorem dX6_goBack_44 : decode cX6_goBack 44 = .ok (.iload_n 1, 1) := by decide +kernel
theorem dX6_goBack_45 : decode cX6_goBack 45 = .ok (.imul, 1) := by decide +kernel
theorem dX6_goBack_46 : decode cX6_goBack 46 = .ok (.iload_n 2, 1) := by decide +kernel
theorem dX6_goBack_47 : decode cX6_goBack 47 = .ok (.iadd, 1) := by decide +kernel
theorem dX6_goBack_48 : decode cX6_goBack 48 = .ok (.iaload, 1) := by decide +kernel
theorem dX6_goBack_49 : decode cX6_goBack 49 = .ok (.iastore, 1) := by decide +kernel
theorem dX6_goBack_50 : decode cX6_goBack 50 = .ok (.iinc 2 1, 3) := by decide +kernel
theorem dX6_goBack_53 : decode cX6_goBack 53 = .ok (.goto (-26), 3) := by decide +kernel
theorem dX6_goBack_56 : decode cX6_goBack 56 = .ok (.aload_n 0, 1) := by decide +kernel
theorem dX6_goBack_57 : decode cX6_goBack 57 = .ok (.aload_n 0, 1) := by decide +kernel
theorem dX6_goBack_58 : decode cX6_goBack 58 = .ok (.getfield 59, 3) := by decide +kernel
theorem dX6_goBack_61 : decode cX6_goBack 61 = .ok (.bipush 83, 2) := by decide +kernel
theorem dX6_goBack_63 : decode cX6_goBack 63 = .ok (.iload_n 1, 1) := by decide +kernel
theorem dX6_goBack_64 : decode cX6_goBack 64 = .ok (.imul, 1) := by decide +kernel
theorem dX6_goBack_65 : decode cX6_goBack 65 = .ok (.bipush 82, 2) := by decide +kernel
theorem dX6_goBack_67 : decode cX6_goBack 67 = .ok (.iadd, 1) := by decide +kernel
theorem dX6_goBack_68 : decode cX6_goBack 68 = .ok (.iaload, 1) := by decide +kernel
theorem dX6_goBack_69 : decode cX6_goBack 69 = .ok (.putfield 231, 3) := by decide +kernel
theorem dX6_goBack_72 : decode cX6_goBack 72 = .ok (.aload_n 0, 1) := by decide +kernel
theorem dX6_goBack_73 : decode cX6_goBack 73 = .ok (.iconst 0, 1) := by decide +kernel
theorem dX6_goBack_74 : decode cX6_goBack 74 = .ok (.putfield 157, 3) := by decide +kernel
theorem dX6_goBack_77 : decode cX6_goBack 77 = .ok (.iconst 1, 1) := by decide +kernel
theorem dX6_goBack_78 : decode cX6_goBack 78 = .ok (.ireturn, 1) := by decide +kernel
theorem dJ6_bitCount_0f7a4_0 : decode cJ6_bitCount_0f7a4 0 = .ok (.iload_n 0, 1) := by decide +kernel
theorem dJ6_bitCount_0f7a4_1 : decode cJ6_bitCount_0f7a4 1 = .ok (.iload_n 0, 1) := by decide +kernel
theorem dJ6_bitCount_0f7a4_2 : decode cJ6_bitCount_0f7a4 2 = .ok (.iconst 1, 1) := by decide +kernel
theorem dJ6_bitCount_0f7a4_3 : decode cJ6_bitCount_0f7a4 3 = .ok (.iushr, 1) := by decide +kernel
theorem dJ6_bitCount_0f7a4_4 : decode cJ6_bitCount_0f7a4 4 = .ok (.ldc_w 265, 3) := by decide +kernel
theorem dJ6_bitCount_0f7a4_7 : decode cJ6_bitCount_0f7a4 7 = .ok (.iand, 1) := by decide +kernel
theorem dJ6_bitCount_0f7a4_8 : decode cJ6_bitCount_0f7a4 8 = .ok (.isub, 1) := by decide +kernel
theorem dJ6_bitCount_0f7a4_9 : decode cJ6_bitCount_0f7a4 9 = .ok (.istore_n 0, 1) := by decide +kernel
theorem dJ6_bitCount_0f7a4_10 : decode cJ6_bitCount_0f7a4 10 = .ok (.iload_n 0, 1) := by decide +kernel
theorem dJ6_bitCount_0f7a4_11 : decode cJ6_bitCount_0f7a4 11 = .ok (.ldc_w 266, 3) := by decide +kernel
theorem dJ6_bitCount_0f7a4_14 : decode cJ6_bitCount_0f7a4 14 = .ok (.iand, 1) := by decide +kernel
theorem dJ6_bitCount_0f7a4_15 : decode cJ6_bitCount_0f7a4 15 = .ok (.iload_n 0, 1) := by decide +kernel
theorem dJ6_bitCount_0f7a4_16 : decode cJ6_bitCount_0f7a4 16 = .ok (.iconst 2, 1) := by decide +kernel
theorem dJ6_bitCount_0f7a4_17 : decode cJ6_bitCount_0f7a4 17 = .ok (.iushr, 1) := by decide +kernel
theorem dJ6_bitCount_0f7a4_18 : decode cJ6_bitCount_0f7a4 18 = .ok (.ldc_w 266, 3) := by decide +kernel
theorem dJ6_bitCount_0f7a4_21 : decode cJ6_bitCount_0f7a4 21 = .ok (.iand, 1) := by decide +kernel
theorem dJ6_bitCount_0f7a4_22 : decode cJ6_bitCount_0f7a4 22 = .ok (.iadd, 1) := by decide +kernel
theorem dJ6_bitCount_0f7a4_23 : decode cJ6_bitCount_0f7a4 23 = .ok (.istore_n 0, 1) := by decide +kernel
theorem dJ6_bitCount_0f7a4_24 : decode cJ6_bitCount_0f7a4 24 = .ok (.iload_n 0, 1) := by decide +kernel
theorem dJ6_bitCount_0f7a4_25 : decode cJ6_bitCount_0f7a4 25 = .ok (.iload_n 0, 1) := by decide +kernel
theorem dJ6_bitCount_0f7a4_26 : decode cJ6_bitCount_0f7a4 26 = .ok (.iconst 4, 1) := by decide +kernel
theorem dJ6_bitCount_0f7a4_27 : decode cJ6_bitCount_0f7a4 27 = .ok (.iushr, 1) := by decide +kernel
theorem dJ6_bitCount_0f7a4_28 : decode cJ6_bitCount_0f7a4 28 = .ok (.iadd, 1) := by decide +kernel
theorem dJ6_bitCount_0f7a4_29 : decode cJ6_bitCount_0f7a4 29 = .ok (.ldc_w 267, 3) := by decide +kernel
theorem dJ6_bitCount_0f7a4_32 : decode cJ6_bitCount_0f7a4 32 = .ok (.iand, 1) := by decide +kernel
theorem dJ6_bitCount_0f7a4_33 : decode cJ6_bitCount_0f7a4 33 = .ok (.istore_n 0, 1) := by decide +kernel
theorem dJ6_bitCount_0f7a4_34 : decode cJ6_bitCount_0f7a4 34 = .ok (.iload_n 0, 1) := by decide +kernel
theorem dJ6_bitCount_0f7a4_35 : decode cJ6_bitCount_0f7a4 35 = .ok (.iload_n 0, 1) := by decide +kernel
theorem dJ6_bitCount_0f7a4_36 : decode cJ6_bitCount_0f7a4 36 = .ok (.bipush 8, 2) := by decide +kernel
theorem dJ6_bitCount_0f7a4_38 : decode cJ6_bitCount_0f7a4 38 = .ok (.iushr, 1) := by decide +kernel
theorem dJ6_bitCount_0f7a4_39 : decode cJ6_bitCount_0f7a4 39 = .ok (.iadd, 1) := by decide +kernel
theorem dJ6_bitCount_0f7a4_40 : decode cJ6_bitCount_0f7a4 40 = .ok (.istore_n 0, 1) := by decide +kernel
theorem dJ6_bitCount_0f7a4_41 : decode cJ6_bitCount_0f7a4 41 = .ok (.iload_n 0, 1) := by decide +kernel
theorem dJ6_bitCount_0f7a4_42 : decode cJ6_bitCount_0f7a4 42 = .ok (.iload_n 0, 1) := by decide +kernel
theorem dJ6_bitCount_0f7a4_43 : decode cJ6_bitCount_0f7a4 43 = .ok (.bipush 16, 2) := by decide +kernel
theorem dJ6_bitCount_0f7a4_45 : decode cJ6_bitCount_0f7a4 45 = .ok (.iushr, 1) := by decide +kernel
theorem dJ6_bitCount_0f7a4_46 : decode cJ6_bitCount_0f7a4 46 = .ok (.iadd, 1) := by decide +kernel
theorem dJ6_bitCount_0f7a4_47 : decode cJ6_bitCount_0f7a4 47 = .ok (.istore_n 0, 1) := by decide +kernel
theorem dJ6_bitCount_0f7a4_48 : decode cJ6_bitCount_0f7a4 48 = .ok (.iload_n 0, 1) := by decide +kernel
theorem dJ6_bitCount_0f7a4_49 : decode cJ6_bitCount_0f7a4 49 = .ok (.bipush 63, 2) := by decide +kernel
theorem dJ6_bitCount_0f7a4_51 : decode cJ6_bitCount_0f7a4 51 = .ok (.iand, 1) := by decide +kernel
theorem dJ6_bitCount_0f7a4_52 : decode cJ6_bitCount_0f7a4 52 = .ok (.ireturn, 1) := by decide +kernel
theorem dJ9_floorMod_7cf53_0 : decode cJ9_floorMod_7cf53 0 = .ok (.iload_n 0, 1) := by decide +kernel
theorem dJ9_floorMod_7cf53_1 : decode cJ9_floorMod_7cf53 1 = .ok (.iload_n 1, 1) := by decide +kernel
theorem dJ9_floorMod_7cf53_2 : decode cJ9_floorMod_7cf53 2 = .ok (.irem, 1) := by decide +kernel
theorem dJ9_floorMod_7cf53_3 : decode cJ9_floorMod_7cf53 3 = .ok (.istore_n 2, 1) := by decide +kernel
theorem dJ9_floorMod_7cf53_4 : decode cJ9_floorMod_7cf53 4 = .ok (.iload_n 0, 1) := by decide +kernel
theorem dJ9_floorMod_7cf53_5 : decode cJ9_floorMod_7cf53 5 = .ok (.iload_n 1, 1) := by decide +kernel
theorem dJ9_floorMod_7cf53_6 : decode cJ9_floorMod_7cf53 6 = .ok (.ixor, 1) := by decide +kernel
theorem dJ9_floorMod_7cf53_7 : decode cJ9_floorMod_7cf53 7 = .ok (.ifCond .ge 11, 3) := by decide +kernel
theorem dJ9_floorMod_7cf53_10 : decode cJ9_floorMod_7cf53 10 = .ok (.iload_n 2, 1) := by decide +kernel
theorem dJ9_floorMod_7cf53_11 : decode cJ9_floorMod_7cf53 11 = .ok (.ifCond .eq 7, 3) := by decide +kernel
theorem dJ9_floorMod_7cf53_14 : decode cJ9_floorMod_7cf53 14 = .ok (.iload_n 2, 1) := by decide +kernel
theorem dJ9_floorMod_7cf53_15 : decode cJ9_floorMod_7cf53 15 = .ok (.iload_n 1, 1) := by decide +kernel
theorem dJ9_floorMod_7cf53_16 : decode cJ9_floorMod_7cf53 16 = .ok (.iadd, 1) := by decide +kernel
theorem dJ9_floorMod_7cf53_17 : decode cJ9_floorMod_7cf53 17 = .ok (.ireturn, 1) := by decide +kernel
theorem dJ9_floorMod_7cf53_18 : decode cJ9_floorMod_7cf53 18 = .ok (.iload_n 2, 1) := by decide +kernel
theorem dJ9_floorMod_7cf53_19 : decode cJ9_floorMod_7cf53 19 = .ok (.ireturn, 1) := by decide +kernel
theorem dJ9_max_7cf53_0 : decode cJ9_max_7cf53 0 = .ok (.iload_n 0, 1) := by decide +kernel
theorem dJ9_max_7cf53_1 : decode cJ9_max_7cf53 1 = .ok (.iload_n 1, 1) := by decide +kernel
theorem dJ9_max_7cf53_2 : decode cJ9_max_7cf53 2 = .ok (.if_icmp .lt 7, 3) := by decide +kernel
theorem dJ9_max_7cf53_5 : decode cJ9_max_7cf53 5 = .ok (.iload_n 0, 1) := by decide +kernel
theorem dJ9_max_7cf53_6 : decode cJ9_max_7cf53 6 = .ok (.goto 4, 3) := by decide +kernel
theorem dJ9_max_7cf53_9 : decode cJ9_max_7cf53 9 = .ok (.iload_n 1, 1) := by decide +kernel
theorem dJ9_max_7cf53_10 : decode cJ9_max_7cf53 10 = .ok (.ireturn, 1) := by decide +kernel
theorem dJ9_min_7cf53_0 : decode cJ9_min_7cf53 0 = .ok (.iload_n 0, 1) := by decide +kernel
theorem dJ9_min_7cf53_1 : decode cJ9_min_7cf53 1 = .ok (.iload_n 1, 1) := by decide +kernel
theorem dJ9_min_7cf53_2 : decode cJ9_min_7cf53 2 = .ok (.if_icmp .gt 7, 3) := by decide +kernel
theorem dJ9_min_7cf53_5 : decode cJ9_min_7cf53 5 = .ok (.iload_n 0, 1) := by decide +kernel
theorem dJ9_min_7cf53_6 : decode cJ9_min_7cf53 6 = .ok (.goto 4, 3) := by decide +kernel
theorem dJ9_min_7cf53_9 : decode cJ9_min_7cf53 9 = .ok (.iload_n 1, 1) := by decide +kernel
theorem dJ9_min_7cf53_10 : decode cJ9_min_7cf53 10 = .ok (.ireturn, 1) := by decide +kernel
