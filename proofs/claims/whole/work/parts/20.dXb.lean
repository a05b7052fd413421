set_option maxRecDepth 20000 in
theorem ggX5_init_X4_init : GoodIn wsX5_init wsX4_init := goodIn_r _ [31, 32, 2, 3, 23, 33, 34, 9, 10, 35, 36, 37, 38, 39, 40, 41, 42, 63, 64, 65, 66, 67, 68, 82, 83, 84, 85, 86, 87, 88, 89] (by decide +kernel) (by decide +kernel)
set_option maxRecDepth 20000 in
theorem gX5_init_X4_init_n9 : GoodIn wsX5_init (wsX4_init) := ggX5_init_X4_init
set_option maxRecDepth 20000 in
theorem ggX5_init_X0_init : GoodIn wsX5_init wsX0_init := goodIn_r _ [38, 39, 2, 3, 23, 40, 41, 42, 82, 83, 84, 85, 86, 87, 88, 89] (by decide +kernel) (by decide +kernel)
set_option maxRecDepth 20000 in
theorem gX5_init_X0_init_n18 : GoodIn wsX5_init (wsX0_init) := ggX5_init_X0_init
set_option maxRecDepth 20000 in
theorem ggX5_init_X1_init : GoodIn wsX5_init wsX1_init := goodIn_r _ [44, 45, 2, 3, 23, 46, 47, 48, 49, 50, 51, 90, 91, 92, 93, 94, 95, 96, 97, 98, 99, 100, 101, 102, 103] (by decide +kernel) (by decide +kernel)
set_option maxRecDepth 20000 in
theorem gX5_init_X1_init_n25 : GoodIn wsX5_init (wsX1_init) := ggX5_init_X1_init
set_option maxRecDepth 20000 in
theorem ggX5_init_X2_init : GoodIn wsX5_init wsX2_init := goodIn_r _ [53, 54, 2, 3, 55, 56, 13, 14, 43, 44, 45, 23, 46, 47, 48, 49, 50, 51, 104, 105, 106, 90, 91, 92, 93, 94, 95, 96, 97, 98, 99, 100, 101, 102, 103] (by decide +kernel) (by decide +kernel)
set_option maxRecDepth 20000 in
theorem gX5_init_X2_init_n32 : GoodIn wsX5_init (wsX2_init) := ggX5_init_X2_init
set_option maxRecDepth 20000 in
theorem ggX5_init_X3_init : GoodIn wsX5_init wsX3_init := goodIn_r _ [58, 59, 2, 3, 23, 60, 61, 62, 107, 108, 109, 110, 111, 112] (by decide +kernel) (by decide +kernel)
set_option maxRecDepth 20000 in
theorem gX5_init_X3_init_n51 : GoodIn wsX5_init (wsX3_init) := ggX5_init_X3_init
theorem dX5_init_0 : decode cX5_init 0 = .ok (.aload_n 0, 1) := by decide +kernel
theorem dX5_init_1 : decode cX5_init 1 = .ok (.invokespecial 1, 3) := by decide +kernel
theorem dX5_init_4 : decode cX5_init 4 = .ok (.aload_n 0, 1) := by decide +kernel
theorem dX5_init_5 : decode cX5_init 5 = .ok (.new 7, 3) := by decide +kernel
theorem dX5_init_8 : decode cX5_init 8 = .ok (.dup, 1) := by decide +kernel
theorem dX5_init_9 : decode cX5_init 9 = .ok (.invokespecial 9, 3) := by decide +kernel
theorem dX5_init_12 : decode cX5_init 12 = .ok (.putfield 10, 3) := by decide +kernel
theorem dX5_init_15 : decode cX5_init 15 = .ok (.aload_n 0, 1) := by decide +kernel
theorem dX5_init_16 : decode cX5_init 16 = .ok (.new 16, 3) := by decide +kernel
theorem dX5_init_19 : decode cX5_init 19 = .ok (.dup, 1) := by decide +kernel
theorem dX5_init_20 : decode cX5_init 20 = .ok (.invokespecial 18, 3) := by decide +kernel
theorem dX5_init_23 : decode cX5_init 23 = .ok (.putfield 19, 3) := by decide +kernel
theorem dX5_init_26 : decode cX5_init 26 = .ok (.aload_n 0, 1) := by decide +kernel
theorem dX5_init_27 : decode cX5_init 27 = .ok (.new 23, 3) := by decide +kernel
theorem dX5_init_30 : decode cX5_init 30 = .ok (.dup, 1) := by decide +kernel
theorem dX5_init_31 : decode cX5_init 31 = .ok (.invokespecial 25, 3) := by decide +kernel
theorem dX5_init_34 : decode cX5_init 34 = .ok (.putfield 26, 3) := by decide +kernel
theorem dX5_init_37 : decode cX5_init 37 = .ok (.aload_n 0, 1) := by decide +kernel
theorem dX5_init_38 : decode cX5_init 38 = .ok (.new 30, 3) := by decide +kernel
theorem dX5_init_41 : decode cX5_init 41 = .ok (.dup, 1) := by decide +kernel
theorem dX5_init_42 : decode cX5_init 42 = .ok (.invokespecial 32, 3) := by decide +kernel
theorem dX5_init_45 : decode cX5_init 45 = .ok (.putfield 33, 3) := by decide +kernel
theorem dX5_init_48 : decode cX5_init 48 = .ok (.aload_n 0, 1) := by decide +kernel
theorem dX5_init_49 : decode cX5_init 49 = .ok (.iconst 2, 1) := by decide +kernel
theorem dX5_init_50 : decode cX5_init 50 = .ok (.anewarray 23, 3) := by decide +kernel
theorem dX5_init_53 : decode cX5_init 53 = .ok (.putfield 37, 3) := by decide +kernel
theorem dX5_init_56 : decode cX5_init 56 = .ok (.iconst 0, 1) := by decide +kernel
theorem dX5_init_57 : decode cX5_init 57 = .ok (.istore_n 1, 1) := by decide +kernel
theorem dX5_init_58 : decode cX5_init 58 = .ok (.iload_n 1, 1) := by decide +kernel
theorem dX5_init_59 : decode cX5_init 59 = .ok (.iconst 2, 1) := by decide +kernel
theorem dX5_init_60 : decode cX5_init 60 = .ok (.if_icmp .ge 22, 3) := by decide +kernel
theorem dX5_init_63 : decode cX5_init 63 = .ok (.aload_n 0, 1) := by decide +kernel
theorem dX5_init_64 : decode cX5_init 64 = .ok (.getfield 37, 3) := by decide +kernel
theorem dX5_init_67 : decode cX5_init 67 = .ok (.iload_n 1, 1) := by decide +kernel
theorem dX5_init_68 : decode cX5_init 68 = .ok (.new 23, 3) := by decide +kernel
theorem dX5_init_71 : decode cX5_init 71 = .ok (.dup, 1) := by decide +kernel
theorem dX5_init_72 : decode cX5_init 72 = .ok (.invokespecial 25, 3) := by decide +kernel
theorem dX5_init_75 : decode cX5_init 75 = .ok (.aastore, 1) := by decide +kernel
theorem dX5_init_76 : decode cX5_init 76 = .ok (.iinc 1 1, 3) := by decide +kernel
theorem dX5_init_79 : decode cX5_init 79 = .ok (.goto (-21), 3) := by decide +kernel
theorem dX5_init_82 : decode cX5_init 82 = .ok (.aload_n 0, 1) := by decide +kernel
theorem dX5_init_83 : decode cX5_init 83 = .ok (.iconst 2, 1) := by decide +kernel
theorem dX5_init_84 : decode cX5_init 84 = .ok (.newarray .boolean, 2) := by decide +kernel
theorem dX5_init_86 : decode cX5_init 86 = .ok (.putfield 41, 3) := by decide +kernel
theorem dX5_init_89 : decode cX5_init 89 = .ok (.aload_n 0, 1) := by decide +kernel
theorem dX5_init_90 : decode cX5_init 90 = .ok (.iconst 2, 1) := by decide +kernel
theorem dX5_init_91 : decode cX5_init 91 = .ok (.newarray .int, 2) := by decide +kernel
theorem dX5_init_93 : decode cX5_init 93 = .ok (.putfield 45, 3) := by decide +kernel
theorem dX5_init_96 : decode cX5_init 96 = .ok (.aload_n 0, 1) := by decide +kernel
theorem dX5_init_97 : decode cX5_init 97 = .ok (.new 49, 3) := by decide +kernel
theorem dX5_init_100 : decode cX5_init 100 = .ok (.dup, 1) := by decide +kernel
theorem dX5_init_101 : decode cX5_init 101 = .ok (.invokespecial 51, 3) := by decide +kernel
theorem dX5_init_104 : decode cX5_init 104 = .ok (.putfield 52, 3) := by decide +kernel
theorem dX5_init_107 : decode cX5_init 107 = .ok (.aload_n 0, 1) := by decide +kernel
theorem dX5_init_108 : decode cX5_init 108 = .ok (.bipush 6, 2) := by decide +kernel
theorem dX5_init_110 : decode cX5_init 110 = .ok (.newarray .int, 2) := by decide +kernel
theorem dX5_init_112 : decode cX5_init 112 = .ok (.putfield 56, 3) := by decide +kernel
theorem dX5_init_115 : decode cX5_init 115 = .ok (.return_, 1) := by decide +kernel
set_option maxRecDepth 20000 in
theorem ggX5_feed_X4_add : GoodIn wsX5_feed wsX4_add := goodIn_r _ [7, 8, 9, 23, 24, 25, 26, 27, 28] (by decide +kernel) (by decide +kernel)
set_option maxRecDepth 20000 in
theorem gX5_feed_X4_add_n65 : GoodIn wsX5_feed (wsX4_add) := ggX5_feed_X4_add
theorem dX5_feed_0 : decode cX5_feed 0 = .ok (.iload_n 1, 1) := by decide +kernel
theorem dX5_feed_1 : decode cX5_feed 1 = .ok (.ifCond .lt 10, 3) := by decide +kernel
theorem dX5_feed_4 : decode cX5_feed 4 = .ok (.iload_n 1, 1) := by decide +kernel
theorem dX5_feed_5 : decode cX5_feed 5 = .ok (.sipush 255, 3) := by decide +kernel
theorem dX5_feed_8 : decode cX5_feed 8 = .ok (.if_icmp .le 6, 3) := by decide +kernel
theorem dX5_feed_11 : decode cX5_feed 11 = .ok (.ldc 59, 2) := by decide +kernel
theorem dX5_feed_13 : decode cX5_feed 13 = .ok (.ireturn, 1) := by decide +kernel
theorem dX5_feed_14 : decode cX5_feed 14 = .ok (.aload_n 0, 1) := by decide +kernel
theorem dX5_feed_15 : decode cX5_feed 15 = .ok (.getfield 10, 3) := by decide +kernel
theorem dX5_feed_18 : decode cX5_feed 18 = .ok (.getfield 60, 3) := by decide +kernel
theorem dX5_feed_21 : decode cX5_feed 21 = .ok (.sipush 240, 3) := by decide +kernel
theorem dX5_feed_24 : decode cX5_feed 24 = .ok (.if_icmp .lt 6, 3) := by decide +kernel
theorem dX5_feed_27 : decode cX5_feed 27 = .ok (.ldc 64, 2) := by decide +kernel
theorem dX5_feed_29 : decode cX5_feed 29 = .ok (.ireturn, 1) := by decide +kernel
theorem dX5_feed_30 : decode cX5_feed 30 = .ok (.aload_n 0, 1) := by decide +kernel
theorem dX5_feed_31 : decode cX5_feed 31 = .ok (.getfield 10, 3) := by decide +kernel
theorem dX5_feed_34 : decode cX5_feed 34 = .ok (.iload_n 1, 1) := by decide +kernel
theorem dX5_feed_35 : decode cX5_feed 35 = .ok (.invokevirtual 65, 3) := by decide +kernel
theorem dX5_feed_38 : decode cX5_feed 38 = .ok (.aload_n 0, 1) := by decide +kernel
theorem dX5_feed_39 : decode cX5_feed 39 = .ok (.getfield 10, 3) := by decide +kernel
theorem dX5_feed_42 : decode cX5_feed 42 = .ok (.getfield 60, 3) := by decide +kernel
theorem dX5_feed_45 : decode cX5_feed 45 = .ok (.ireturn, 1) := by decide +kernel
set_option maxRecDepth 20000 in
theorem ggX5_capital_X4_read : GoodIn wsX5_capital wsX4_read := goodIn_r _ [9, 10, 11, 12, 13, 14, 15, 16, 17, 18, 19, 20, 21, 22, 23, 24, 25, 26, 7, 27, 28, 29, 30, 31, 32, 33, 34, 35, 36, 37, 38, 39, 40, 41, 42, 43, 44, 45, 46, 47, 48, 49, 50, 51, 52, 53, 54, 55, 56, 57, 58, 59, 112, 113, 114, 115, 116, 117, 118, 119, 120, 121, 122, 123, 124, 125] (by decide +kernel) (by decide +kernel)
set_option maxRecDepth 20000 in
theorem gX5_capital_X4_read_n69 : GoodIn wsX5_capital (wsX4_read) := ggX5_capital_X4_read
set_option maxRecDepth 20000 in
theorem ggX5_capital_X0_takeFrom : GoodIn wsX5_capital wsX0_takeFrom := goodIn_r _ [62, 19, 20, 21, 22, 23, 63, 64, 65, 66, 67, 68, 69, 118, 119, 120, 121, 122, 123, 124, 125] (by decide +kernel) (by decide +kernel)
set_option maxRecDepth 20000 in
theorem gX5_capital_X0_takeFrom_n78 : GoodIn wsX5_capital (wsX0_takeFrom) := ggX5_capital_X0_takeFrom
set_option maxRecDepth 20000 in
theorem ggX5_capital_X1_begin : GoodIn wsX5_capital wsX1_begin := goodIn_r _ [73, 74, 75, 76, 77, 78, 79, 80, 81, 82, 83, 84, 126, 127, 128, 129, 130, 131, 132, 133, 134, 135, 136, 137, 138, 139, 118, 119, 120, 121, 122, 123, 124, 125] (by decide +kernel) (by decide +kernel)
set_option maxRecDepth 20000 in
theorem gX5_capital_X1_begin_n82 : GoodIn wsX5_capital (wsX1_begin) := ggX5_capital_X1_begin
set_option maxRecDepth 20000 in
theorem ggX5_capital_X2_forget : GoodIn wsX5_capital wsX2_forget := goodIn_r _ [88, 89, 90, 140, 141, 142] (by decide +kernel) (by decide +kernel)
set_option maxRecDepth 20000 in
theorem gX5_capital_X2_forget_n85 : GoodIn wsX5_capital (wsX2_forget) := ggX5_capital_X2_forget
set_option maxRecDepth 20000 in
theorem ggX5_capital_X5_forgetToldOf : GoodIn wsX5_capital wsX5_forgetToldOf := goodIn_r _ [95, 96, 97, 98, 99, 100, 101, 102, 103, 104, 105, 106, 107, 108, 109, 110, 111] (by decide +kernel) (by decide +kernel)
set_option maxRecDepth 20000 in
theorem gX5_capital_X5_forgetToldOf : GoodIn wsX5_capital (wsV RX5 88 RX5 yX5_forgetToldOf wsX5_forgetToldOf) := goodIn_app (goodIn_of _ (by decide +kernel)) ggX5_capital_X5_forgetToldOf
theorem dX5_capital_0 : decode cX5_capital 0 = .ok (.aload_n 0, 1) := by decide +kernel
theorem dX5_capital_1 : decode cX5_capital 1 = .ok (.getfield 10, 3) := by decide +kernel
theorem dX5_capital_4 : decode cX5_capital 4 = .ok (.invokevirtual 69, 3) := by decide +kernel
theorem dX5_capital_7 : decode cX5_capital 7 = .ok (.aload_n 0, 1) := by decide +kernel
theorem dX5_capital_8 : decode cX5_capital 8 = .ok (.getfield 10, 3) := by decide +kernel
theorem dX5_capital_11 : decode cX5_capital 11 = .ok (.iconst 0, 1) := by decide +kernel
theorem dX5_capital_12 : decode cX5_capital 12 = .ok (.putfield 60, 3) := by decide +kernel
theorem dX5_capital_15 : decode cX5_capital 15 = .ok (.aload_n 0, 1) := by decide +kernel
theorem dX5_capital_16 : decode cX5_capital 16 = .ok (.getfield 10, 3) := by decide +kernel
theorem dX5_capital_19 : decode cX5_capital 19 = .ok (.getfield 72, 3) := by decide +kernel
theorem dX5_capital_22 : decode cX5_capital 22 = .ok (.ifCond .eq 14, 3) := by decide +kernel
theorem dX5_capital_25 : decode cX5_capital 25 = .ok (.bipush (-10), 2) := by decide +kernel
theorem dX5_capital_27 : decode cX5_capital 27 = .ok (.aload_n 0, 1) := by decide +kernel
theorem dX5_capital_28 : decode cX5_capital 28 = .ok (.getfield 10, 3) := by decide +kernel
theorem dX5_capital_31 : decode cX5_capital 31 = .ok (.getfield 72, 3) := by decide +kernel
theorem dX5_capital_34 : decode cX5_capital 34 = .ok (.isub, 1) := by decide +kernel
theorem dX5_capital_35 : decode cX5_capital 35 = .ok (.ireturn, 1) := by decide +kernel
theorem dX5_capital_36 : decode cX5_capital 36 = .ok (.aload_n 0, 1) := by decide +kernel
theorem dX5_capital_37 : decode cX5_capital 37 = .ok (.getfield 19, 3) := by decide +kernel
theorem dX5_capital_40 : decode cX5_capital 40 = .ok (.aload_n 0, 1) := by decide +kernel
theorem dX5_capital_41 : decode cX5_capital 41 = .ok (.getfield 10, 3) := by decide +kernel
theorem dX5_capital_44 : decode cX5_capital 44 = .ok (.getfield 75, 3) := by decide +kernel
theorem dX5_capital_47 : decode cX5_capital 47 = .ok (.invokevirtual 78, 3) := by decide +kernel
theorem dX5_capital_50 : decode cX5_capital 50 = .ok (.aload_n 0, 1) := by decide +kernel
theorem dX5_capital_51 : decode cX5_capital 51 = .ok (.getfield 26, 3) := by decide +kernel
theorem dX5_capital_54 : decode cX5_capital 54 = .ok (.aload_n 0, 1) := by decide +kernel
theorem dX5_capital_55 : decode cX5_capital 55 = .ok (.getfield 19, 3) := by decide +kernel
theorem dX5_capital_58 : decode cX5_capital 58 = .ok (.invokevirtual 82, 3) := by decide +kernel
theorem dX5_capital_61 : decode cX5_capital 61 = .ok (.aload_n 0, 1) := by decide +kernel
theorem dX5_capital_62 : decode cX5_capital 62 = .ok (.getfield 33, 3) := by decide +kernel
theorem dX5_capital_65 : decode cX5_capital 65 = .ok (.invokevirtual 85, 3) := by decide +kernel
theorem dX5_capital_68 : decode cX5_capital 68 = .ok (.iconst 0, 1) := by decide +kernel
theorem dX5_capital_69 : decode cX5_capital 69 = .ok (.istore_n 1, 1) := by decide +kernel
theorem dX5_capital_70 : decode cX5_capital 70 = .ok (.iload_n 1, 1) := by decide +kernel
theorem dX5_capital_71 : decode cX5_capital 71 = .ok (.iconst 2, 1) := by decide +kernel
theorem dX5_capital_72 : decode cX5_capital 72 = .ok (.if_icmp .ge 16, 3) := by decide +kernel
theorem dX5_capital_75 : decode cX5_capital 75 = .ok (.aload_n 0, 1) := by decide +kernel
theorem dX5_capital_76 : decode cX5_capital 76 = .ok (.getfield 41, 3) := by decide +kernel
theorem dX5_capital_79 : decode cX5_capital 79 = .ok (.iload_n 1, 1) := by decide +kernel
theorem dX5_capital_80 : decode cX5_capital 80 = .ok (.iconst 0, 1) := by decide +kernel
theorem dX5_capital_81 : decode cX5_capital 81 = .ok (.bastore, 1) := by decide +kernel
theorem dX5_capital_82 : decode cX5_capital 82 = .ok (.iinc 1 1, 3) := by decide +kernel
theorem dX5_capital_85 : decode cX5_capital 85 = .ok (.goto (-15), 3) := by decide +kernel
theorem dX5_capital_88 : decode cX5_capital 88 = .ok (.aload_n 0, 1) := by decide +kernel
theorem dX5_capital_89 : decode cX5_capital 89 = .ok (.invokevirtual 88, 3) := by decide +kernel
theorem dX5_capital_92 : decode cX5_capital 92 = .ok (.aload_n 0, 1) := by decide +kernel
theorem dX5_capital_93 : decode cX5_capital 93 = .ok (.getfield 19, 3) := by decide +kernel
theorem dX5_capital_96 : decode cX5_capital 96 = .ok (.getfield 91, 3) := by decide +kernel
theorem dX5_capital_99 : decode cX5_capital 99 = .ok (.ireturn, 1) := by decide +kernel
theorem dX5_fault_0 : decode cX5_fault 0 = .ok (.aload_n 0, 1) := by decide +kernel
theorem dX5_fault_1 : decode cX5_fault 1 = .ok (.getfield 10, 3) := by decide +kernel
theorem dX5_fault_4 : decode cX5_fault 4 = .ok (.getfield 94, 3) := by decide +kernel
theorem dX5_fault_7 : decode cX5_fault 7 = .ok (.ireturn, 1) := by decide +kernel
set_option maxRecDepth 20000 in
theorem ggX5_told_X5_cloudNow : GoodIn wsX5_told wsX5_cloudNow := goodIn_r _ [11, 1, 12, 13, 14, 10, 15, 3, 16, 17, 18, 19, 20, 21, 22, 23, 24, 25, 26, 27, 28, 29, 30, 41, 42, 43, 44, 45, 46, 47, 48, 49, 50, 51, 52, 53, 54, 55, 56, 57, 58, 59, 60, 61, 68, 69, 70, 71, 72, 73, 74, 75, 76, 77, 78, 79, 80, 81] (by decide +kernel) (by decide +kernel)
set_option maxRecDepth 20000 in
theorem gX5_told_X5_cloudNow : GoodIn wsX5_told (wsV RX5 125 RX5 yX5_cloudNow wsX5_cloudNow) := goodIn_app (goodIn_of _ (by decide +kernel)) ggX5_told_X5_cloudNow
set_option maxRecDepth 20000 in
theorem ggX5_told_X5_sittersThatFit : GoodIn wsX5_told wsX5_sittersThatFit := goodIn_r _ [34, 1, 35, 36, 37, 10, 38, 39, 40, 25, 26, 27, 41, 42, 43, 44, 45, 46, 47, 48, 49, 50, 51, 52, 53, 54, 55, 56, 57, 58, 59, 60, 61] (by decide +kernel) (by decide +kernel)
set_option maxRecDepth 20000 in
theorem gX5_told_X5_sittersThatFit : GoodIn wsX5_told (wsV RX5 135 RX5 yX5_sittersThatFit wsX5_sittersThatFit) := goodIn_app (goodIn_of _ (by decide +kernel)) ggX5_told_X5_sittersThatFit
theorem dX5_told_0 : decode cX5_told 0 = .ok (.iload_n 1, 1) := by decide +kernel
theorem dX5_told_1 : decode cX5_told 1 = .ok (.tableswitch 208 0 15 #[79, 87, 95, 103, 111, 119, 127, 137, 145, 153, 169, 177, 182, 190, 195, 200], 79) := by decide +kernel
theorem dX5_told_80 : decode cX5_told 80 = .ok (.aload_n 0, 1) := by decide +kernel
theorem dX5_told_81 : decode cX5_told 81 = .ok (.getfield 19, 3) := by decide +kernel
theorem dX5_told_84 : decode cX5_told 84 = .ok (.getfield 97, 3) := by decide +kernel
theorem dX5_told_87 : decode cX5_told 87 = .ok (.ireturn, 1) := by decide +kernel
theorem dX5_told_88 : decode cX5_told 88 = .ok (.aload_n 0, 1) := by decide +kernel
theorem dX5_told_89 : decode cX5_told 89 = .ok (.getfield 19, 3) := by decide +kernel
theorem dX5_told_92 : decode cX5_told 92 = .ok (.getfield 91, 3) := by decide +kernel
theorem dX5_told_95 : decode cX5_told 95 = .ok (.ireturn, 1) := by decide +kernel
theorem dX5_told_96 : decode cX5_told 96 = .ok (.aload_n 0, 1) := by decide +kernel
theorem dX5_told_97 : decode cX5_told 97 = .ok (.getfield 19, 3) := by decide +kernel
theorem dX5_told_100 : decode cX5_told 100 = .ok (.getfield 100, 3) := by decide +kernel
theorem dX5_told_103 : decode cX5_told 103 = .ok (.ireturn, 1) := by decide +kernel
theorem dX5_told_104 : decode cX5_told 104 = .ok (.aload_n 0, 1) := by decide +kernel
theorem dX5_told_105 : decode cX5_told 105 = .ok (.getfield 19, 3) := by decide +kernel
theorem dX5_told_108 : decode cX5_told 108 = .ok (.getfield 103, 3) := by decide +kernel
theorem dX5_told_111 : decode cX5_told 111 = .ok (.ireturn, 1) := by decide +kernel
theorem dX5_told_112 : decode cX5_told 112 = .ok (.aload_n 0, 1) := by decide +kernel
theorem dX5_told_113 : decode cX5_told 113 = .ok (.getfield 10, 3) := by decide +kernel
theorem dX5_told_116 : decode cX5_told 116 = .ok (.getfield 60, 3) := by decide +kernel
theorem dX5_told_119 : decode cX5_told 119 = .ok (.ireturn, 1) := by decide +kernel
theorem dX5_told_120 : decode cX5_told 120 = .ok (.aload_n 0, 1) := by decide +kernel
theorem dX5_told_121 : decode cX5_told 121 = .ok (.getfield 26, 3) := by decide +kernel
theorem dX5_told_124 : decode cX5_told 124 = .ok (.getfield 106, 3) := by decide +kernel
theorem dX5_told_127 : decode cX5_told 127 = .ok (.ireturn, 1) := by decide +kernel
theorem dX5_told_128 : decode cX5_told 128 = .ok (.aload_n 0, 1) := by decide +kernel
theorem dX5_told_129 : decode cX5_told 129 = .ok (.getfield 26, 3) := by decide +kernel
theorem dX5_told_132 : decode cX5_told 132 = .ok (.getfield 109, 3) := by decide +kernel
theorem dX5_told_135 : decode cX5_told 135 = .ok (.iconst 3, 1) := by decide +kernel
theorem dX5_told_136 : decode cX5_told 136 = .ok (.iadd, 1) := by decide +kernel
theorem dX5_told_137 : decode cX5_told 137 = .ok (.ireturn, 1) := by decide +kernel
theorem dX5_told_138 : decode cX5_told 138 = .ok (.aload_n 0, 1) := by decide +kernel
theorem dX5_told_139 : decode cX5_told 139 = .ok (.getfield 26, 3) := by decide +kernel
theorem dX5_told_142 : decode cX5_told 142 = .ok (.getfield 112, 3) := by decide +kernel
theorem dX5_told_145 : decode cX5_told 145 = .ok (.ireturn, 1) := by decide +kernel
theorem dX5_told_146 : decode cX5_told 146 = .ok (.aload_n 0, 1) := by decide +kernel
theorem dX5_told_147 : decode cX5_told 147 = .ok (.getfield 26, 3) := by decide +kernel
theorem dX5_told_150 : decode cX5_told 150 = .ok (.getfield 115, 3) := by decide +kernel
theorem dX5_told_153 : decode cX5_told 153 = .ok (.ireturn, 1) := by decide +kernel
theorem dX5_told_154 : decode cX5_told 154 = .ok (.aload_n 0, 1) := by decide +kernel
theorem dX5_told_155 : decode cX5_told 155 = .ok (.getfield 26, 3) := by decide +kernel
theorem dX5_told_158 : decode cX5_told 158 = .ok (.getfield 118, 3) := by decide +kernel
theorem dX5_told_161 : decode cX5_told 161 = .ok (.ifCond .eq 7, 3) := by decide +kernel
theorem dX5_told_164 : decode cX5_told 164 = .ok (.iconst 1, 1) := by decide +kernel
theorem dX5_told_165 : decode cX5_told 165 = .ok (.goto 4, 3) := by decide +kernel
theorem dX5_told_168 : decode cX5_told 168 = .ok (.iconst 0, 1) := by decide +kernel
theorem dX5_told_169 : decode cX5_told 169 = .ok (.ireturn, 1) := by decide +kernel
theorem dX5_told_170 : decode cX5_told 170 = .ok (.aload_n 0, 1) := by decide +kernel
theorem dX5_told_171 : decode cX5_told 171 = .ok (.getfield 26, 3) := by decide +kernel
theorem dX5_told_174 : decode cX5_told 174 = .ok (.getfield 122, 3) := by decide +kernel
theorem dX5_told_177 : decode cX5_told 177 = .ok (.ireturn, 1) := by decide +kernel
theorem dX5_told_178 : decode cX5_told 178 = .ok (.aload_n 0, 1) := by decide +kernel
theorem dX5_told_179 : decode cX5_told 179 = .ok (.invokevirtual 125, 3) := by decide +kernel
theorem dX5_told_182 : decode cX5_told 182 = .ok (.ireturn, 1) := by decide +kernel
theorem dX5_told_183 : decode cX5_told 183 = .ok (.aload_n 0, 1) := by decide +kernel
theorem dX5_told_184 : decode cX5_told 184 = .ok (.getfield 26, 3) := by decide +kernel
theorem dX5_told_187 : decode cX5_told 187 = .ok (.getfield 129, 3) := by decide +kernel
theorem dX5_told_190 : decode cX5_told 190 = .ok (.ireturn, 1) := by decide +kernel
theorem dX5_told_191 : decode cX5_told 191 = .ok (.aload_n 0, 1) := by decide +kernel
theorem dX5_told_192 : decode cX5_told 192 = .ok (.getfield 132, 3) := by decide +kernel
theorem dX5_told_195 : decode cX5_told 195 = .ok (.ireturn, 1) := by decide +kernel
theorem dX5_told_196 : decode cX5_told 196 = .ok (.aload_n 0, 1) := by decide +kernel
theorem dX5_told_197 : decode cX5_told 197 = .ok (.invokevirtual 135, 3) := by decide +kernel
theorem dX5_told_200 : decode cX5_told 200 = .ok (.ireturn, 1) := by decide +kernel
theorem dX5_told_201 : decode cX5_told 201 = .ok (.aload_n 0, 1) := by decide +kernel
theorem dX5_told_202 : decode cX5_told 202 = .ok (.getfield 33, 3) := by decide +kernel
theorem dX5_told_205 : decode cX5_told 205 = .ok (.getfield 138, 3) := by decide +kernel
theorem dX5_told_208 : decode cX5_told 208 = .ok (.ireturn, 1) := by decide +kernel
theorem dX5_told_209 : decode cX5_told 209 = .ok (.ldc 59, 2) := by decide +kernel
theorem dX5_told_211 : decode cX5_told 211 = .ok (.ireturn, 1) := by decide +kernel
set_option maxRecDepth 20000 in
theorem ggX5_sitter_X5_isSitter : GoodIn wsX5_sitter wsX5_isSitter := goodIn_r _ [9, 2, 29, 30, 31, 32, 33, 34, 35, 36, 37, 38, 39, 40, 41, 42, 43, 44, 45, 46, 47, 48, 49] (by decide +kernel) (by decide +kernel)
set_option maxRecDepth 20000 in
theorem gX5_sitter_X5_isSitter : GoodIn wsX5_sitter (wsV RX5 141 RX5 yX5_isSitter wsX5_isSitter) := goodIn_app (goodIn_of _ (by decide +kernel)) ggX5_sitter_X5_isSitter
set_option maxRecDepth 20000 in
theorem ggX5_sitter_X1_windowOf : GoodIn wsX5_sitter wsX1_windowOf := goodIn_r _ [13, 14, 50, 51, 52, 53, 54, 55, 56, 57, 58, 59, 60, 61, 62, 63] (by decide +kernel) (by decide +kernel)
set_option maxRecDepth 20000 in
theorem gX5_sitter_X1_windowOf_n149 : GoodIn wsX5_sitter (wsX1_windowOf) := ggX5_sitter_X1_windowOf
set_option maxRecDepth 20000 in
theorem ggX5_sitter_X1_timesInAlbum : GoodIn wsX5_sitter wsX1_timesInAlbum := goodIn_r _ [17, 18, 19, 20, 21, 22, 11, 23, 24, 25, 26, 27, 28, 50, 51, 52, 53, 54, 55, 56, 57, 58, 59, 60, 61, 62, 63] (by decide +kernel) (by decide +kernel)
set_option maxRecDepth 20000 in
theorem gX5_sitter_X1_timesInAlbum_n153 : GoodIn wsX5_sitter (wsX1_timesInAlbum) := ggX5_sitter_X1_timesInAlbum
theorem dX5_sitter_0 : decode cX5_sitter 0 = .ok (.aload_n 0, 1) := by decide +kernel
theorem dX5_sitter_1 : decode cX5_sitter 1 = .ok (.iload_n 1, 1) := by decide +kernel
theorem dX5_sitter_2 : decode cX5_sitter 2 = .ok (.invokevirtual 141, 3) := by decide +kernel
theorem dX5_sitter_5 : decode cX5_sitter 5 = .ok (.ifCond .ne 6, 3) := by decide +kernel
theorem dX5_sitter_8 : decode cX5_sitter 8 = .ok (.ldc 145, 2) := by decide +kernel
theorem dX5_sitter_10 : decode cX5_sitter 10 = .ok (.ireturn, 1) := by decide +kernel
theorem dX5_sitter_11 : decode cX5_sitter 11 = .ok (.iload_n 2, 1) := by decide +kernel
theorem dX5_sitter_12 : decode cX5_sitter 12 = .ok (.tableswitch 56 0 2 #[28, 38, 47], 28) := by decide +kernel
theorem dX5_sitter_40 : decode cX5_sitter 40 = .ok (.aload_n 0, 1) := by decide +kernel
theorem dX5_sitter_41 : decode cX5_sitter 41 = .ok (.getfield 19, 3) := by decide +kernel
theorem dX5_sitter_44 : decode cX5_sitter 44 = .ok (.getfield 146, 3) := by decide +kernel
theorem dX5_sitter_47 : decode cX5_sitter 47 = .ok (.iload_n 1, 1) := by decide +kernel
theorem dX5_sitter_48 : decode cX5_sitter 48 = .ok (.iaload, 1) := by decide +kernel
theorem dX5_sitter_49 : decode cX5_sitter 49 = .ok (.ireturn, 1) := by decide +kernel
theorem dX5_sitter_50 : decode cX5_sitter 50 = .ok (.aload_n 0, 1) := by decide +kernel
theorem dX5_sitter_51 : decode cX5_sitter 51 = .ok (.getfield 26, 3) := by decide +kernel
theorem dX5_sitter_54 : decode cX5_sitter 54 = .ok (.iload_n 1, 1) := by decide +kernel
theorem dX5_sitter_55 : decode cX5_sitter 55 = .ok (.invokevirtual 149, 3) := by decide +kernel
theorem dX5_sitter_58 : decode cX5_sitter 58 = .ok (.ireturn, 1) := by decide +kernel
theorem dX5_sitter_59 : decode cX5_sitter 59 = .ok (.aload_n 0, 1) := by decide +kernel
theorem dX5_sitter_60 : decode cX5_sitter 60 = .ok (.getfield 26, 3) := by decide +kernel
theorem dX5_sitter_63 : decode cX5_sitter 63 = .ok (.iload_n 1, 1) := by decide +kernel
theorem dX5_sitter_64 : decode cX5_sitter 64 = .ok (.invokevirtual 153, 3) := by decide +kernel
theorem dX5_sitter_67 : decode cX5_sitter 67 = .ok (.ireturn, 1) := by decide +kernel
theorem dX5_sitter_68 : decode cX5_sitter 68 = .ok (.ldc 59, 2) := by decide +kernel
theorem dX5_sitter_70 : decode cX5_sitter 70 = .ok (.ireturn, 1) := by decide +kernel
set_option maxRecDepth 20000 in
theorem ggX5_window_X5_isWindow : GoodIn wsX5_window wsX5_isWindow := goodIn_r _ [9, 10, 41, 42, 43, 44, 45, 46, 47, 48, 49, 50, 51, 52, 53, 68, 69, 70, 71, 72, 73, 74, 75] (by decide +kernel) (by decide +kernel)
set_option maxRecDepth 20000 in
theorem gX5_window_X5_isWindow : GoodIn wsX5_window (wsV RX5 156 RX5 yX5_isWindow wsX5_isWindow) := goodIn_app (goodIn_of _ (by decide +kernel)) ggX5_window_X5_isWindow
set_option maxRecDepth 20000 in
theorem ggX5_window_X5_drawnAt : GoodIn wsX5_window wsX5_drawnAt := goodIn_r _ [14, 2, 10, 15, 16, 17, 8, 18, 19, 20, 21, 22, 23, 24, 25, 26, 27, 28, 29, 41, 42, 43, 44, 45, 46, 47, 48, 49, 50, 51, 52, 53, 54, 55, 56, 57, 58, 59, 60, 61, 62, 63, 64, 65, 66, 67, 68, 69, 70, 71, 72, 73, 74, 75] (by decide +kernel) (by decide +kernel)
set_option maxRecDepth 20000 in
theorem gX5_window_X5_drawnAt : GoodIn wsX5_window (wsV RX5 165 RX5 yX5_drawnAt wsX5_drawnAt) := goodIn_app (goodIn_of _ (by decide +kernel)) ggX5_window_X5_drawnAt
set_option maxRecDepth 20000 in
theorem ggX5_window_X5_mostLike : GoodIn wsX5_window wsX5_mostLike := goodIn_r _ [33, 10, 34, 35, 36, 37, 38, 39, 40, 41, 42, 43, 44, 45, 46, 47, 48, 49, 50, 51, 52, 53, 68, 69, 70, 71, 72, 73, 74, 75] (by decide +kernel) (by decide +kernel)
set_option maxRecDepth 20000 in
theorem gX5_window_X5_mostLike : GoodIn wsX5_window (wsV RX5 169 RX5 yX5_mostLike wsX5_mostLike) := goodIn_app (goodIn_of _ (by decide +kernel)) ggX5_window_X5_mostLike
theorem dX5_window_0 : decode cX5_window 0 = .ok (.aload_n 0, 1) := by decide +kernel
theorem dX5_window_1 : decode cX5_window 1 = .ok (.iload_n 1, 1) := by decide +kernel
theorem dX5_window_2 : decode cX5_window 2 = .ok (.invokevirtual 156, 3) := by decide +kernel
theorem dX5_window_5 : decode cX5_window 5 = .ok (.ifCond .ne 6, 3) := by decide +kernel
theorem dX5_window_8 : decode cX5_window 8 = .ok (.ldc 145, 2) := by decide +kernel
theorem dX5_window_10 : decode cX5_window 10 = .ok (.ireturn, 1) := by decide +kernel
theorem dX5_window_11 : decode cX5_window 11 = .ok (.iload_n 2, 1) := by decide +kernel
theorem dX5_window_12 : decode cX5_window 12 = .ok (.tableswitch 82 0 3 #[32, 42, 52, 58], 32) := by decide +kernel
theorem dX5_window_44 : decode cX5_window 44 = .ok (.aload_n 0, 1) := by decide +kernel
theorem dX5_window_45 : decode cX5_window 45 = .ok (.getfield 26, 3) := by decide +kernel
theorem dX5_window_48 : decode cX5_window 48 = .ok (.getfield 159, 3) := by decide +kernel
theorem dX5_window_51 : decode cX5_window 51 = .ok (.iload_n 1, 1) := by decide +kernel
theorem dX5_window_52 : decode cX5_window 52 = .ok (.iaload, 1) := by decide +kernel
theorem dX5_window_53 : decode cX5_window 53 = .ok (.ireturn, 1) := by decide +kernel
theorem dX5_window_54 : decode cX5_window 54 = .ok (.aload_n 0, 1) := by decide +kernel
theorem dX5_window_55 : decode cX5_window 55 = .ok (.getfield 26, 3) := by decide +kernel
theorem dX5_window_58 : decode cX5_window 58 = .ok (.getfield 162, 3) := by decide +kernel
theorem dX5_window_61 : decode cX5_window 61 = .ok (.iload_n 1, 1) := by decide +kernel
theorem dX5_window_62 : decode cX5_window 62 = .ok (.iaload, 1) := by decide +kernel
theorem dX5_window_63 : decode cX5_window 63 = .ok (.ireturn, 1) := by decide +kernel
theorem dX5_window_64 : decode cX5_window 64 = .ok (.aload_n 0, 1) := by decide +kernel
theorem dX5_window_65 : decode cX5_window 65 = .ok (.iload_n 1, 1) := by decide +kernel
theorem dX5_window_66 : decode cX5_window 66 = .ok (.invokevirtual 165, 3) := by decide +kernel
theorem dX5_window_69 : decode cX5_window 69 = .ok (.ireturn, 1) := by decide +kernel
theorem dX5_window_70 : decode cX5_window 70 = .ok (.aload_n 0, 1) := by decide +kernel
theorem dX5_window_71 : decode cX5_window 71 = .ok (.iload_n 1, 1) := by decide +kernel
theorem dX5_window_72 : decode cX5_window 72 = .ok (.invokevirtual 165, 3) := by decide +kernel
theorem dX5_window_75 : decode cX5_window 75 = .ok (.ifCond .ne 7, 3) := by decide +kernel
theorem dX5_window_78 : decode cX5_window 78 = .ok (.iconst (-1), 1) := by decide +kernel
theorem dX5_window_79 : decode cX5_window 79 = .ok (.goto 14, 3) := by decide +kernel
theorem dX5_window_82 : decode cX5_window 82 = .ok (.aload_n 0, 1) := by decide +kernel
theorem dX5_window_83 : decode cX5_window 83 = .ok (.aload_n 0, 1) := by decide +kernel
theorem dX5_window_84 : decode cX5_window 84 = .ok (.iload_n 1, 1) := by decide +kernel
theorem dX5_window_85 : decode cX5_window 85 = .ok (.invokevirtual 165, 3) := by decide +kernel
theorem dX5_window_88 : decode cX5_window 88 = .ok (.ldc 168, 2) := by decide +kernel
theorem dX5_window_90 : decode cX5_window 90 = .ok (.invokevirtual 169, 3) := by decide +kernel
theorem dX5_window_93 : decode cX5_window 93 = .ok (.ireturn, 1) := by decide +kernel
theorem dX5_window_94 : decode cX5_window 94 = .ok (.ldc 59, 2) := by decide +kernel
theorem dX5_window_96 : decode cX5_window 96 = .ok (.ireturn, 1) := by decide +kernel
set_option maxRecDepth 20000 in
theorem ggX5_album_X1_albumPlace : GoodIn wsX5_album wsX1_albumPlace := goodIn_r _ [6, 7, 8, 9, 10, 11, 25, 26, 27, 28, 29, 30, 31, 32, 33, 34, 35, 36, 37, 38] (by decide +kernel) (by decide +kernel)
set_option maxRecDepth 20000 in
theorem gX5_album_X1_albumPlace_n173 : GoodIn wsX5_album (wsX1_albumPlace) := ggX5_album_X1_albumPlace
theorem dX5_album_0 : decode cX5_album 0 = .ok (.iload_n 2, 1) := by decide +kernel
theorem dX5_album_1 : decode cX5_album 1 = .ok (.ifCond .lt 8, 3) := by decide +kernel
theorem dX5_album_4 : decode cX5_album 4 = .ok (.iload_n 2, 1) := by decide +kernel
theorem dX5_album_5 : decode cX5_album 5 = .ok (.iconst 2, 1) := by decide +kernel
theorem dX5_album_6 : decode cX5_album 6 = .ok (.if_icmp .le 6, 3) := by decide +kernel
theorem dX5_album_9 : decode cX5_album 9 = .ok (.ldc 59, 2) := by decide +kernel
theorem dX5_album_11 : decode cX5_album 11 = .ok (.ireturn, 1) := by decide +kernel
theorem dX5_album_12 : decode cX5_album 12 = .ok (.iload_n 1, 1) := by decide +kernel
theorem dX5_album_13 : decode cX5_album 13 = .ok (.ifCond .lt 14, 3) := by decide +kernel
theorem dX5_album_16 : decode cX5_album 16 = .ok (.iload_n 1, 1) := by decide +kernel
theorem dX5_album_17 : decode cX5_album 17 = .ok (.aload_n 0, 1) := by decide +kernel
theorem dX5_album_18 : decode cX5_album 18 = .ok (.getfield 26, 3) := by decide +kernel
theorem dX5_album_21 : decode cX5_album 21 = .ok (.getfield 129, 3) := by decide +kernel
theorem dX5_album_24 : decode cX5_album 24 = .ok (.if_icmp .lt 5, 3) := by decide +kernel
theorem dX5_album_27 : decode cX5_album 27 = .ok (.iconst (-1), 1) := by decide +kernel
theorem dX5_album_28 : decode cX5_album 28 = .ok (.ireturn, 1) := by decide +kernel
theorem dX5_album_29 : decode cX5_album 29 = .ok (.aload_n 0, 1) := by decide +kernel
theorem dX5_album_30 : decode cX5_album 30 = .ok (.getfield 26, 3) := by decide +kernel
theorem dX5_album_33 : decode cX5_album 33 = .ok (.iload_n 1, 1) := by decide +kernel
theorem dX5_album_34 : decode cX5_album 34 = .ok (.invokevirtual 173, 3) := by decide +kernel
theorem dX5_album_37 : decode cX5_album 37 = .ok (.istore_n 3, 1) := by decide +kernel
theorem dX5_album_38 : decode cX5_album 38 = .ok (.iload_n 2, 1) := by decide +kernel
theorem dX5_album_39 : decode cX5_album 39 = .ok (.lookupswitch 45 #[(0, 25), (1, 35)], 25) := by decide +kernel
theorem dX5_album_64 : decode cX5_album 64 = .ok (.aload_n 0, 1) := by decide +kernel
theorem dX5_album_65 : decode cX5_album 65 = .ok (.getfield 26, 3) := by decide +kernel
theorem dX5_album_68 : decode cX5_album 68 = .ok (.getfield 176, 3) := by decide +kernel
theorem dX5_album_71 : decode cX5_album 71 = .ok (.iload_n 3, 1) := by decide +kernel
theorem dX5_album_72 : decode cX5_album 72 = .ok (.iaload, 1) := by decide +kernel
theorem dX5_album_73 : decode cX5_album 73 = .ok (.ireturn, 1) := by decide +kernel
theorem dX5_album_74 : decode cX5_album 74 = .ok (.aload_n 0, 1) := by decide +kernel
theorem dX5_album_75 : decode cX5_album 75 = .ok (.getfield 26, 3) := by decide +kernel
theorem dX5_album_78 : decode cX5_album 78 = .ok (.getfield 179, 3) := by decide +kernel
theorem dX5_album_81 : decode cX5_album 81 = .ok (.iload_n 3, 1) := by decide +kernel
theorem dX5_album_82 : decode cX5_album 82 = .ok (.iaload, 1) := by decide +kernel
theorem dX5_album_83 : decode cX5_album 83 = .ok (.ireturn, 1) := by decide +kernel
theorem dX5_album_84 : decode cX5_album 84 = .ok (.aload_n 0, 1) := by decide +kernel
theorem dX5_album_85 : decode cX5_album 85 = .ok (.getfield 26, 3) := by decide +kernel
theorem dX5_album_88 : decode cX5_album 88 = .ok (.getfield 182, 3) := by decide +kernel
theorem dX5_album_91 : decode cX5_album 91 = .ok (.iload_n 3, 1) := by decide +kernel
theorem dX5_album_92 : decode cX5_album 92 = .ok (.iaload, 1) := by decide +kernel
theorem dX5_album_93 : decode cX5_album 93 = .ok (.ireturn, 1) := by decide +kernel
set_option maxRecDepth 20000 in
theorem ggX5_glass_X5_isGlass : GoodIn wsX5_glass wsX5_isGlass := goodIn_r _ [6] (by decide +kernel) (by decide +kernel)
set_option maxRecDepth 20000 in
theorem gX5_glass_X5_isGlass : GoodIn wsX5_glass (va_wsS RX5 185 yX5_isGlass wsX5_isGlass) := goodIn_app (goodIn_of _ (by decide +kernel)) ggX5_glass_X5_isGlass
theorem dX5_glass_0 : decode cX5_glass 0 = .ok (.iload_n 1, 1) := by decide +kernel
theorem dX5_glass_1 : decode cX5_glass 1 = .ok (.invokestatic 185, 3) := by decide +kernel
theorem dX5_glass_4 : decode cX5_glass 4 = .ok (.ifCond .eq 15, 3) := by decide +kernel
theorem dX5_glass_7 : decode cX5_glass 7 = .ok (.aload_n 0, 1) := by decide +kernel
theorem dX5_glass_8 : decode cX5_glass 8 = .ok (.getfield 26, 3) := by decide +kernel
theorem dX5_glass_11 : decode cX5_glass 11 = .ok (.getfield 188, 3) := by decide +kernel
theorem dX5_glass_14 : decode cX5_glass 14 = .ok (.iload_n 1, 1) := by decide +kernel
theorem dX5_glass_15 : decode cX5_glass 15 = .ok (.iaload, 1) := by decide +kernel
theorem dX5_glass_16 : decode cX5_glass 16 = .ok (.goto 5, 3) := by decide +kernel
theorem dX5_glass_19 : decode cX5_glass 19 = .ok (.ldc 145, 2) := by decide +kernel
theorem dX5_glass_21 : decode cX5_glass 21 = .ok (.ireturn, 1) := by decide +kernel
set_option maxRecDepth 20000 in
theorem ggX5_stand_X5_isSitter : GoodIn wsX5_stand wsX5_isSitter := goodIn_r _ [9, 10, 53, 54, 55, 56, 57, 58, 59, 60, 61, 62, 63, 64, 65, 80, 81, 82, 83, 84, 85, 86, 87] (by decide +kernel) (by decide +kernel)
set_option maxRecDepth 20000 in
theorem gX5_stand_X5_isSitter : GoodIn wsX5_stand (wsV RX5 141 RX5 yX5_isSitter wsX5_isSitter) := goodIn_app (goodIn_of _ (by decide +kernel)) ggX5_stand_X5_isSitter
set_option maxRecDepth 20000 in
theorem ggX5_stand_X5_isWindow : GoodIn wsX5_stand wsX5_isWindow := goodIn_r _ [14, 10, 53, 54, 55, 56, 57, 58, 59, 60, 61, 62, 63, 64, 65, 80, 81, 82, 83, 84, 85, 86, 87] (by decide +kernel) (by decide +kernel)
set_option maxRecDepth 20000 in
theorem gX5_stand_X5_isWindow : GoodIn wsX5_stand (wsV RX5 156 RX5 yX5_isWindow wsX5_isWindow) := goodIn_app (goodIn_of _ (by decide +kernel)) ggX5_stand_X5_isWindow
set_option maxRecDepth 20000 in
theorem ggX5_stand_X2_remember : GoodIn wsX5_stand wsX2_remember := goodIn_r _ [18, 19, 20, 21, 22, 23, 24, 25, 26, 27, 28, 29, 30, 31, 32, 33, 34, 35, 36, 37, 38, 39, 40, 41, 42, 43, 44, 45, 46, 88, 89, 90, 66, 67, 68, 69, 70, 71, 72, 73, 74, 75, 76, 77, 78, 79] (by decide +kernel) (by decide +kernel)
set_option maxRecDepth 20000 in
theorem gX5_stand_X2_remember_n192 : GoodIn wsX5_stand (wsX2_remember) := ggX5_stand_X2_remember
set_option maxRecDepth 20000 in
theorem ggX5_stand_X1_windowOf : GoodIn wsX5_stand wsX1_windowOf := goodIn_r _ [49, 42, 66, 67, 68, 69, 70, 71, 72, 73, 74, 75, 76, 77, 78, 79] (by decide +kernel) (by decide +kernel)
set_option maxRecDepth 20000 in
theorem gX5_stand_X1_windowOf_n149 : GoodIn wsX5_stand (wsX1_windowOf) := ggX5_stand_X1_windowOf
set_option maxRecDepth 20000 in
theorem ggX5_stand_X1_moveTo : GoodIn wsX5_stand wsX1_moveTo := goodIn_r _ [52, 42, 66, 67, 68, 69, 70, 71, 72, 73, 74, 75, 76, 77, 78, 79] (by decide +kernel) (by decide +kernel)
set_option maxRecDepth 20000 in
theorem gX5_stand_X1_moveTo_n196 : GoodIn wsX5_stand (wsX1_moveTo) := ggX5_stand_X1_moveTo
theorem dX5_stand_0 : decode cX5_stand 0 = .ok (.aload_n 0, 1) := by decide +kernel
theorem dX5_stand_1 : decode cX5_stand 1 = .ok (.iload_n 1, 1) := by decide +kernel
theorem dX5_stand_2 : decode cX5_stand 2 = .ok (.invokevirtual 141, 3) := by decide +kernel
theorem dX5_stand_5 : decode cX5_stand 5 = .ok (.ifCond .eq 11, 3) := by decide +kernel
theorem dX5_stand_8 : decode cX5_stand 8 = .ok (.aload_n 0, 1) := by decide +kernel
theorem dX5_stand_9 : decode cX5_stand 9 = .ok (.iload_n 2, 1) := by decide +kernel
theorem dX5_stand_10 : decode cX5_stand 10 = .ok (.invokevirtual 156, 3) := by decide +kernel
theorem dX5_stand_13 : decode cX5_stand 13 = .ok (.ifCond .ne 6, 3) := by decide +kernel
theorem dX5_stand_16 : decode cX5_stand 16 = .ok (.ldc 145, 2) := by decide +kernel
theorem dX5_stand_18 : decode cX5_stand 18 = .ok (.ireturn, 1) := by decide +kernel
theorem dX5_stand_19 : decode cX5_stand 19 = .ok (.aload_n 0, 1) := by decide +kernel
theorem dX5_stand_20 : decode cX5_stand 20 = .ok (.getfield 26, 3) := by decide +kernel
theorem dX5_stand_23 : decode cX5_stand 23 = .ok (.getfield 162, 3) := by decide +kernel
theorem dX5_stand_26 : decode cX5_stand 26 = .ok (.iload_n 2, 1) := by decide +kernel
theorem dX5_stand_27 : decode cX5_stand 27 = .ok (.iaload, 1) := by decide +kernel
theorem dX5_stand_28 : decode cX5_stand 28 = .ok (.iconst (-1), 1) := by decide +kernel
theorem dX5_stand_29 : decode cX5_stand 29 = .ok (.if_icmp .eq 6, 3) := by decide +kernel
theorem dX5_stand_32 : decode cX5_stand 32 = .ok (.ldc 191, 2) := by decide +kernel
theorem dX5_stand_34 : decode cX5_stand 34 = .ok (.ireturn, 1) := by decide +kernel
theorem dX5_stand_35 : decode cX5_stand 35 = .ok (.aload_n 0, 1) := by decide +kernel
theorem dX5_stand_36 : decode cX5_stand 36 = .ok (.getfield 33, 3) := by decide +kernel
theorem dX5_stand_39 : decode cX5_stand 39 = .ok (.aload_n 0, 1) := by decide +kernel
theorem dX5_stand_40 : decode cX5_stand 40 = .ok (.getfield 26, 3) := by decide +kernel
theorem dX5_stand_43 : decode cX5_stand 43 = .ok (.invokevirtual 192, 3) := by decide +kernel
theorem dX5_stand_46 : decode cX5_stand 46 = .ok (.aload_n 0, 1) := by decide +kernel
theorem dX5_stand_47 : decode cX5_stand 47 = .ok (.getfield 26, 3) := by decide +kernel
theorem dX5_stand_50 : decode cX5_stand 50 = .ok (.iload_n 1, 1) := by decide +kernel
theorem dX5_stand_51 : decode cX5_stand 51 = .ok (.invokevirtual 149, 3) := by decide +kernel
theorem dX5_stand_54 : decode cX5_stand 54 = .ok (.istore_n 3, 1) := by decide +kernel
theorem dX5_stand_55 : decode cX5_stand 55 = .ok (.aload_n 0, 1) := by decide +kernel
theorem dX5_stand_56 : decode cX5_stand 56 = .ok (.getfield 26, 3) := by decide +kernel
theorem dX5_stand_59 : decode cX5_stand 59 = .ok (.iload_n 1, 1) := by decide +kernel
theorem dX5_stand_60 : decode cX5_stand 60 = .ok (.iload_n 2, 1) := by decide +kernel
theorem dX5_stand_61 : decode cX5_stand 61 = .ok (.invokevirtual 196, 3) := by decide +kernel
theorem dX5_stand_64 : decode cX5_stand 64 = .ok (.iload_n 3, 1) := by decide +kernel
theorem dX5_stand_65 : decode cX5_stand 65 = .ok (.ireturn, 1) := by decide +kernel
set_option maxRecDepth 20000 in
theorem ggX5_go_X5_isSitter : GoodIn wsX5_go wsX5_isSitter := goodIn_r _ [9, 10, 50, 51, 52, 53, 54, 55, 56, 57, 58, 59, 60, 61, 62, 77, 78, 79, 80, 81, 82, 83, 84] (by decide +kernel) (by decide +kernel)
set_option maxRecDepth 20000 in
theorem gX5_go_X5_isSitter : GoodIn wsX5_go (wsV RX5 141 RX5 yX5_isSitter wsX5_isSitter) := goodIn_app (goodIn_of _ (by decide +kernel)) ggX5_go_X5_isSitter
set_option maxRecDepth 20000 in
theorem ggX5_go_X1_windowOf : GoodIn wsX5_go wsX1_windowOf := goodIn_r _ [14, 15, 63, 64, 65, 66, 67, 68, 69, 70, 71, 72, 73, 74, 75, 76] (by decide +kernel) (by decide +kernel)
set_option maxRecDepth 20000 in
theorem gX5_go_X1_windowOf_n149 : GoodIn wsX5_go (wsX1_windowOf) := ggX5_go_X1_windowOf
set_option maxRecDepth 20000 in
theorem ggX5_go_X5_isWindow : GoodIn wsX5_go wsX5_isWindow := goodIn_r _ [19, 10, 50, 51, 52, 53, 54, 55, 56, 57, 58, 59, 60, 61, 62, 77, 78, 79, 80, 81, 82, 83, 84] (by decide +kernel) (by decide +kernel)
set_option maxRecDepth 20000 in
theorem gX5_go_X5_isWindow : GoodIn wsX5_go (wsV RX5 156 RX5 yX5_isWindow wsX5_isWindow) := goodIn_app (goodIn_of _ (by decide +kernel)) ggX5_go_X5_isWindow
set_option maxRecDepth 20000 in
theorem ggX5_go_X2_remember : GoodIn wsX5_go wsX2_remember := goodIn_r _ [23, 24, 25, 26, 27, 28, 29, 30, 31, 12, 32, 33, 34, 35, 36, 37, 38, 39, 40, 41, 42, 43, 44, 45, 15, 46, 47, 48, 49, 85, 86, 87, 63, 64, 65, 66, 67, 68, 69, 70, 71, 72, 73, 74, 75, 76] (by decide +kernel) (by decide +kernel)
set_option maxRecDepth 20000 in
theorem gX5_go_X2_remember_n192 : GoodIn wsX5_go (wsX2_remember) := ggX5_go_X2_remember
theorem dX5_go_0 : decode cX5_go 0 = .ok (.aload_n 0, 1) := by decide +kernel
theorem dX5_go_1 : decode cX5_go 1 = .ok (.iload_n 1, 1) := by decide +kernel
theorem dX5_go_2 : decode cX5_go 2 = .ok (.invokevirtual 141, 3) := by decide +kernel
theorem dX5_go_5 : decode cX5_go 5 = .ok (.ifCond .ne 6, 3) := by decide +kernel
theorem dX5_go_8 : decode cX5_go 8 = .ok (.ldc 145, 2) := by decide +kernel
theorem dX5_go_10 : decode cX5_go 10 = .ok (.ireturn, 1) := by decide +kernel
theorem dX5_go_11 : decode cX5_go 11 = .ok (.aload_n 0, 1) := by decide +kernel
theorem dX5_go_12 : decode cX5_go 12 = .ok (.getfield 26, 3) := by decide +kernel
theorem dX5_go_15 : decode cX5_go 15 = .ok (.iload_n 1, 1) := by decide +kernel
theorem dX5_go_16 : decode cX5_go 16 = .ok (.invokevirtual 149, 3) := by decide +kernel
theorem dX5_go_19 : decode cX5_go 19 = .ok (.istore_n 2, 1) := by decide +kernel
theorem dX5_go_20 : decode cX5_go 20 = .ok (.aload_n 0, 1) := by decide +kernel
theorem dX5_go_21 : decode cX5_go 21 = .ok (.iload_n 2, 1) := by decide +kernel
theorem dX5_go_22 : decode cX5_go 22 = .ok (.invokevirtual 156, 3) := by decide +kernel
theorem dX5_go_25 : decode cX5_go 25 = .ok (.ifCond .ne 6, 3) := by decide +kernel
theorem dX5_go_28 : decode cX5_go 28 = .ok (.ldc 191, 2) := by decide +kernel
theorem dX5_go_30 : decode cX5_go 30 = .ok (.ireturn, 1) := by decide +kernel
theorem dX5_go_31 : decode cX5_go 31 = .ok (.aload_n 0, 1) := by decide +kernel
theorem dX5_go_32 : decode cX5_go 32 = .ok (.getfield 33, 3) := by decide +kernel
theorem dX5_go_35 : decode cX5_go 35 = .ok (.aload_n 0, 1) := by decide +kernel
theorem dX5_go_36 : decode cX5_go 36 = .ok (.getfield 26, 3) := by decide +kernel
theorem dX5_go_39 : decode cX5_go 39 = .ok (.invokevirtual 192, 3) := by decide +kernel
theorem dX5_go_42 : decode cX5_go 42 = .ok (.aload_n 0, 1) := by decide +kernel
theorem dX5_go_43 : decode cX5_go 43 = .ok (.getfield 26, 3) := by decide +kernel
theorem dX5_go_46 : decode cX5_go 46 = .ok (.getfield 162, 3) := by decide +kernel
theorem dX5_go_49 : decode cX5_go 49 = .ok (.iload_n 2, 1) := by decide +kernel
theorem dX5_go_50 : decode cX5_go 50 = .ok (.iconst (-1), 1) := by decide +kernel
theorem dX5_go_51 : decode cX5_go 51 = .ok (.iastore, 1) := by decide +kernel
theorem dX5_go_52 : decode cX5_go 52 = .ok (.iload_n 2, 1) := by decide +kernel
theorem dX5_go_53 : decode cX5_go 53 = .ok (.ireturn, 1) := by decide +kernel
set_option maxRecDepth 20000 in
theorem ggX5_lamp_X5_isWindow : GoodIn wsX5_lamp wsX5_isWindow := goodIn_r _ [9, 10, 43, 44, 45, 46, 47, 48, 49, 50, 51, 52, 53, 54, 55, 70, 71, 72, 73, 74, 75, 76, 77] (by decide +kernel) (by decide +kernel)
set_option maxRecDepth 20000 in
theorem gX5_lamp_X5_isWindow : GoodIn wsX5_lamp (wsV RX5 156 RX5 yX5_isWindow wsX5_isWindow) := goodIn_app (goodIn_of _ (by decide +kernel)) ggX5_lamp_X5_isWindow
set_option maxRecDepth 20000 in
theorem ggX5_lamp_X2_remember : GoodIn wsX5_lamp wsX2_remember := goodIn_r _ [14, 15, 16, 17, 18, 19, 20, 21, 22, 23, 24, 25, 26, 27, 28, 29, 30, 31, 32, 33, 34, 35, 36, 37, 38, 39, 40, 41, 42, 78, 79, 80, 56, 57, 58, 59, 60, 61, 62, 63, 64, 65, 66, 67, 68, 69] (by decide +kernel) (by decide +kernel)
set_option maxRecDepth 20000 in
theorem gX5_lamp_X2_remember_n192 : GoodIn wsX5_lamp (wsX2_remember) := ggX5_lamp_X2_remember
theorem dX5_lamp_0 : decode cX5_lamp 0 = .ok (.aload_n 0, 1) := by decide +kernel
theorem dX5_lamp_1 : decode cX5_lamp 1 = .ok (.iload_n 1, 1) := by decide +kernel
theorem dX5_lamp_2 : decode cX5_lamp 2 = .ok (.invokevirtual 156, 3) := by decide +kernel
theorem dX5_lamp_5 : decode cX5_lamp 5 = .ok (.ifCond .ne 6, 3) := by decide +kernel
theorem dX5_lamp_8 : decode cX5_lamp 8 = .ok (.ldc 145, 2) := by decide +kernel
theorem dX5_lamp_10 : decode cX5_lamp 10 = .ok (.ireturn, 1) := by decide +kernel
theorem dX5_lamp_11 : decode cX5_lamp 11 = .ok (.iload_n 2, 1) := by decide +kernel
theorem dX5_lamp_12 : decode cX5_lamp 12 = .ok (.ifCond .lt 8, 3) := by decide +kernel
theorem dX5_lamp_15 : decode cX5_lamp 15 = .ok (.iload_n 2, 1) := by decide +kernel
theorem dX5_lamp_16 : decode cX5_lamp 16 = .ok (.iconst 5, 1) := by decide +kernel
theorem dX5_lamp_17 : decode cX5_lamp 17 = .ok (.if_icmp .le 6, 3) := by decide +kernel
theorem dX5_lamp_20 : decode cX5_lamp 20 = .ok (.ldc 59, 2) := by decide +kernel
theorem dX5_lamp_22 : decode cX5_lamp 22 = .ok (.ireturn, 1) := by decide +kernel
theorem dX5_lamp_23 : decode cX5_lamp 23 = .ok (.aload_n 0, 1) := by decide +kernel
theorem dX5_lamp_24 : decode cX5_lamp 24 = .ok (.getfield 33, 3) := by decide +kernel
theorem dX5_lamp_27 : decode cX5_lamp 27 = .ok (.aload_n 0, 1) := by decide +kernel
theorem dX5_lamp_28 : decode cX5_lamp 28 = .ok (.getfield 26, 3) := by decide +kernel
theorem dX5_lamp_31 : decode cX5_lamp 31 = .ok (.invokevirtual 192, 3) := by decide +kernel
theorem dX5_lamp_34 : decode cX5_lamp 34 = .ok (.aload_n 0, 1) := by decide +kernel
theorem dX5_lamp_35 : decode cX5_lamp 35 = .ok (.getfield 26, 3) := by decide +kernel
theorem dX5_lamp_38 : decode cX5_lamp 38 = .ok (.getfield 159, 3) := by decide +kernel
theorem dX5_lamp_41 : decode cX5_lamp 41 = .ok (.iload_n 1, 1) := by decide +kernel
theorem dX5_lamp_42 : decode cX5_lamp 42 = .ok (.iaload, 1) := by decide +kernel
theorem dX5_lamp_43 : decode cX5_lamp 43 = .ok (.istore_n 3, 1) := by decide +kernel
theorem dX5_lamp_44 : decode cX5_lamp 44 = .ok (.aload_n 0, 1) := by decide +kernel
theorem dX5_lamp_45 : decode cX5_lamp 45 = .ok (.getfield 26, 3) := by decide +kernel
theorem dX5_lamp_48 : decode cX5_lamp 48 = .ok (.getfield 159, 3) := by decide +kernel
theorem dX5_lamp_51 : decode cX5_lamp 51 = .ok (.iload_n 1, 1) := by decide +kernel
theorem dX5_lamp_52 : decode cX5_lamp 52 = .ok (.iload_n 2, 1) := by decide +kernel
theorem dX5_lamp_53 : decode cX5_lamp 53 = .ok (.iastore, 1) := by decide +kernel
theorem dX5_lamp_54 : decode cX5_lamp 54 = .ok (.iload_n 3, 1) := by decide +kernel
theorem dX5_lamp_55 : decode cX5_lamp 55 = .ok (.ireturn, 1) := by decide +kernel
set_option maxRecDepth 20000 in
theorem ggX5_wind_X2_remember : GoodIn wsX5_wind wsX2_remember := goodIn_r _ [9, 10, 11, 12, 13, 14, 15, 16, 17, 18, 19, 20, 21, 22, 23, 24, 25, 26, 27, 28, 29, 30, 31, 32, 33, 34, 35, 36, 37, 73, 74, 75, 59, 60, 61, 62, 63, 64, 65, 66, 67, 68, 69, 70, 71, 72] (by decide +kernel) (by decide +kernel)
set_option maxRecDepth 20000 in
theorem gX5_wind_X2_remember_n192 : GoodIn wsX5_wind (wsX2_remember) := ggX5_wind_X2_remember
theorem dX5_wind_0 : decode cX5_wind 0 = .ok (.iload_n 1, 1) := by decide +kernel
theorem dX5_wind_1 : decode cX5_wind 1 = .ok (.bipush (-3), 2) := by decide +kernel
theorem dX5_wind_3 : decode cX5_wind 3 = .ok (.if_icmp .lt 8, 3) := by decide +kernel
theorem dX5_wind_6 : decode cX5_wind 6 = .ok (.iload_n 1, 1) := by decide +kernel
theorem dX5_wind_7 : decode cX5_wind 7 = .ok (.iconst 3, 1) := by decide +kernel
theorem dX5_wind_8 : decode cX5_wind 8 = .ok (.if_icmp .le 6, 3) := by decide +kernel
theorem dX5_wind_11 : decode cX5_wind 11 = .ok (.ldc 59, 2) := by decide +kernel
theorem dX5_wind_13 : decode cX5_wind 13 = .ok (.ireturn, 1) := by decide +kernel
theorem dX5_wind_14 : decode cX5_wind 14 = .ok (.aload_n 0, 1) := by decide +kernel
theorem dX5_wind_15 : decode cX5_wind 15 = .ok (.getfield 19, 3) := by decide +kernel
theorem dX5_wind_18 : decode cX5_wind 18 = .ok (.getfield 200, 3) := by decide +kernel
theorem dX5_wind_21 : decode cX5_wind 21 = .ok (.ifCond .ne 6, 3) := by decide +kernel
theorem dX5_wind_24 : decode cX5_wind 24 = .ok (.ldc 191, 2) := by decide +kernel
theorem dX5_wind_26 : decode cX5_wind 26 = .ok (.ireturn, 1) := by decide +kernel
theorem dX5_wind_27 : decode cX5_wind 27 = .ok (.aload_n 0, 1) := by decide +kernel
theorem dX5_wind_28 : decode cX5_wind 28 = .ok (.getfield 33, 3) := by decide +kernel
theorem dX5_wind_31 : decode cX5_wind 31 = .ok (.aload_n 0, 1) := by decide +kernel
theorem dX5_wind_32 : decode cX5_wind 32 = .ok (.getfield 26, 3) := by decide +kernel
theorem dX5_wind_35 : decode cX5_wind 35 = .ok (.invokevirtual 192, 3) := by decide +kernel
theorem dX5_wind_38 : decode cX5_wind 38 = .ok (.aload_n 0, 1) := by decide +kernel
theorem dX5_wind_39 : decode cX5_wind 39 = .ok (.getfield 26, 3) := by decide +kernel
theorem dX5_wind_42 : decode cX5_wind 42 = .ok (.getfield 109, 3) := by decide +kernel
theorem dX5_wind_45 : decode cX5_wind 45 = .ok (.istore_n 2, 1) := by decide +kernel
theorem dX5_wind_46 : decode cX5_wind 46 = .ok (.aload_n 0, 1) := by decide +kernel
theorem dX5_wind_47 : decode cX5_wind 47 = .ok (.getfield 26, 3) := by decide +kernel
theorem dX5_wind_50 : decode cX5_wind 50 = .ok (.iload_n 1, 1) := by decide +kernel
theorem dX5_wind_51 : decode cX5_wind 51 = .ok (.putfield 109, 3) := by decide +kernel
theorem dX5_wind_54 : decode cX5_wind 54 = .ok (.iload_n 2, 1) := by decide +kernel
theorem dX5_wind_55 : decode cX5_wind 55 = .ok (.iconst 3, 1) := by decide +kernel
theorem dX5_wind_56 : decode cX5_wind 56 = .ok (.iadd, 1) := by decide +kernel
theorem dX5_wind_57 : decode cX5_wind 57 = .ok (.ireturn, 1) := by decide +kernel
set_option maxRecDepth 20000 in
theorem ggX5_bats_X2_remember : GoodIn wsX5_bats wsX2_remember := goodIn_r _ [9, 10, 11, 12, 13, 14, 15, 16, 17, 18, 19, 20, 21, 22, 23, 24, 25, 26, 27, 28, 29, 30, 31, 32, 33, 34, 35, 36, 37, 73, 74, 75, 59, 60, 61, 62, 63, 64, 65, 66, 67, 68, 69, 70, 71, 72] (by decide +kernel) (by decide +kernel)
set_option maxRecDepth 20000 in
theorem gX5_bats_X2_remember_n192 : GoodIn wsX5_bats (wsX2_remember) := ggX5_bats_X2_remember
theorem dX5_bats_0 : decode cX5_bats 0 = .ok (.iload_n 1, 1) := by decide +kernel
theorem dX5_bats_1 : decode cX5_bats 1 = .ok (.ifCond .lt 9, 3) := by decide +kernel
theorem dX5_bats_4 : decode cX5_bats 4 = .ok (.iload_n 1, 1) := by decide +kernel
theorem dX5_bats_5 : decode cX5_bats 5 = .ok (.bipush 63, 2) := by decide +kernel
theorem dX5_bats_7 : decode cX5_bats 7 = .ok (.if_icmp .le 6, 3) := by decide +kernel
theorem dX5_bats_10 : decode cX5_bats 10 = .ok (.ldc 59, 2) := by decide +kernel
theorem dX5_bats_12 : decode cX5_bats 12 = .ok (.ireturn, 1) := by decide +kernel
theorem dX5_bats_13 : decode cX5_bats 13 = .ok (.aload_n 0, 1) := by decide +kernel
theorem dX5_bats_14 : decode cX5_bats 14 = .ok (.getfield 19, 3) := by decide +kernel
theorem dX5_bats_17 : decode cX5_bats 17 = .ok (.getfield 200, 3) := by decide +kernel
theorem dX5_bats_20 : decode cX5_bats 20 = .ok (.ifCond .ne 6, 3) := by decide +kernel
theorem dX5_bats_23 : decode cX5_bats 23 = .ok (.ldc 191, 2) := by decide +kernel
theorem dX5_bats_25 : decode cX5_bats 25 = .ok (.ireturn, 1) := by decide +kernel
theorem dX5_bats_26 : decode cX5_bats 26 = .ok (.aload_n 0, 1) := by decide +kernel
theorem dX5_bats_27 : decode cX5_bats 27 = .ok (.getfield 33, 3) := by decide +kernel
theorem dX5_bats_30 : decode cX5_bats 30 = .ok (.aload_n 0, 1) := by decide +kernel
theorem dX5_bats_31 : decode cX5_bats 31 = .ok (.getfield 26, 3) := by decide +kernel
theorem dX5_bats_34 : decode cX5_bats 34 = .ok (.invokevirtual 192, 3) := by decide +kernel
theorem dX5_bats_37 : decode cX5_bats 37 = .ok (.aload_n 0, 1) := by decide +kernel
theorem dX5_bats_38 : decode cX5_bats 38 = .ok (.getfield 26, 3) := by decide +kernel
theorem dX5_bats_41 : decode cX5_bats 41 = .ok (.getfield 112, 3) := by decide +kernel
theorem dX5_bats_44 : decode cX5_bats 44 = .ok (.istore_n 2, 1) := by decide +kernel
theorem dX5_bats_45 : decode cX5_bats 45 = .ok (.aload_n 0, 1) := by decide +kernel
theorem dX5_bats_46 : decode cX5_bats 46 = .ok (.getfield 26, 3) := by decide +kernel
theorem dX5_bats_49 : decode cX5_bats 49 = .ok (.iload_n 1, 1) := by decide +kernel
theorem dX5_bats_50 : decode cX5_bats 50 = .ok (.putfield 112, 3) := by decide +kernel
theorem dX5_bats_53 : decode cX5_bats 53 = .ok (.iload_n 2, 1) := by decide +kernel
theorem dX5_bats_54 : decode cX5_bats 54 = .ok (.ireturn, 1) := by decide +kernel
set_option maxRecDepth 20000 in
theorem ggX5_eye_X5_isDot : GoodIn wsX5_eye wsX5_isDot := goodIn_r _ [9] (by decide +kernel) (by decide +kernel)
set_option maxRecDepth 20000 in
theorem gX5_eye_X5_isDot : GoodIn wsX5_eye (va_wsS RX5 203 yX5_isDot wsX5_isDot) := goodIn_app (goodIn_of _ (by decide +kernel)) ggX5_eye_X5_isDot
set_option maxRecDepth 20000 in
theorem ggX5_eye_X2_remember : GoodIn wsX5_eye wsX2_remember := goodIn_r _ [13, 14, 15, 16, 17, 18, 19, 20, 21, 22, 23, 24, 25, 26, 27, 28, 29, 30, 31, 32, 33, 34, 35, 36, 37, 38, 39, 40, 41, 77, 78, 79, 63, 64, 65, 66, 67, 68, 69, 70, 71, 72, 73, 74, 75, 76] (by decide +kernel) (by decide +kernel)
set_option maxRecDepth 20000 in
theorem gX5_eye_X2_remember_n192 : GoodIn wsX5_eye (wsX2_remember) := ggX5_eye_X2_remember
theorem dX5_eye_0 : decode cX5_eye 0 = .ok (.iload_n 1, 1) := by decide +kernel
theorem dX5_eye_1 : decode cX5_eye 1 = .ok (.invokestatic 203, 3) := by decide +kernel
theorem dX5_eye_4 : decode cX5_eye 4 = .ok (.ifCond .ne 6, 3) := by decide +kernel
theorem dX5_eye_7 : decode cX5_eye 7 = .ok (.ldc 59, 2) := by decide +kernel
theorem dX5_eye_9 : decode cX5_eye 9 = .ok (.ireturn, 1) := by decide +kernel
theorem dX5_eye_10 : decode cX5_eye 10 = .ok (.aload_n 0, 1) := by decide +kernel
theorem dX5_eye_11 : decode cX5_eye 11 = .ok (.getfield 19, 3) := by decide +kernel
theorem dX5_eye_14 : decode cX5_eye 14 = .ok (.getfield 200, 3) := by decide +kernel
theorem dX5_eye_17 : decode cX5_eye 17 = .ok (.ifCond .ne 6, 3) := by decide +kernel
theorem dX5_eye_20 : decode cX5_eye 20 = .ok (.ldc 191, 2) := by decide +kernel
theorem dX5_eye_22 : decode cX5_eye 22 = .ok (.ireturn, 1) := by decide +kernel
theorem dX5_eye_23 : decode cX5_eye 23 = .ok (.aload_n 0, 1) := by decide +kernel
theorem dX5_eye_24 : decode cX5_eye 24 = .ok (.getfield 33, 3) := by decide +kernel
theorem dX5_eye_27 : decode cX5_eye 27 = .ok (.aload_n 0, 1) := by decide +kernel
theorem dX5_eye_28 : decode cX5_eye 28 = .ok (.getfield 26, 3) := by decide +kernel
theorem dX5_eye_31 : decode cX5_eye 31 = .ok (.invokevirtual 192, 3) := by decide +kernel
theorem dX5_eye_34 : decode cX5_eye 34 = .ok (.aload_n 0, 1) := by decide +kernel
theorem dX5_eye_35 : decode cX5_eye 35 = .ok (.getfield 26, 3) := by decide +kernel
theorem dX5_eye_38 : decode cX5_eye 38 = .ok (.dup, 1) := by decide +kernel
theorem dX5_eye_39 : decode cX5_eye 39 = .ok (.getfield 115, 3) := by decide +kernel
theorem dX5_eye_42 : decode cX5_eye 42 = .ok (.iconst 1, 1) := by decide +kernel
theorem dX5_eye_43 : decode cX5_eye 43 = .ok (.iload_n 1, 1) := by decide +kernel
theorem dX5_eye_44 : decode cX5_eye 44 = .ok (.ishl, 1) := by decide +kernel
theorem dX5_eye_45 : decode cX5_eye 45 = .ok (.ior, 1) := by decide +kernel
theorem dX5_eye_46 : decode cX5_eye 46 = .ok (.putfield 115, 3) := by decide +kernel
theorem dX5_eye_49 : decode cX5_eye 49 = .ok (.aload_n 0, 1) := by decide +kernel
theorem dX5_eye_50 : decode cX5_eye 50 = .ok (.getfield 26, 3) := by decide +kernel
theorem dX5_eye_53 : decode cX5_eye 53 = .ok (.getfield 115, 3) := by decide +kernel
theorem dX5_eye_56 : decode cX5_eye 56 = .ok (.ireturn, 1) := by decide +kernel
set_option maxRecDepth 20000 in
theorem ggX5_rain_X2_remember : GoodIn wsX5_rain wsX2_remember := goodIn_r _ [8, 9, 10, 11, 12, 13, 14, 15, 16, 17, 18, 19, 20, 21, 22, 23, 24, 25, 26, 27, 28, 29, 30, 31, 32, 33, 34, 35, 36, 72, 73, 74, 58, 59, 60, 61, 62, 63, 64, 65, 66, 67, 68, 69, 70, 71] (by decide +kernel) (by decide +kernel)
set_option maxRecDepth 20000 in
theorem gX5_rain_X2_remember_n192 : GoodIn wsX5_rain (wsX2_remember) := ggX5_rain_X2_remember
theorem dX5_rain_0 : decode cX5_rain 0 = .ok (.aload_n 0, 1) := by decide +kernel
theorem dX5_rain_1 : decode cX5_rain 1 = .ok (.getfield 19, 3) := by decide +kernel
theorem dX5_rain_4 : decode cX5_rain 4 = .ok (.getfield 200, 3) := by decide +kernel
theorem dX5_rain_7 : decode cX5_rain 7 = .ok (.ifCond .ne 6, 3) := by decide +kernel
theorem dX5_rain_10 : decode cX5_rain 10 = .ok (.ldc 191, 2) := by decide +kernel
theorem dX5_rain_12 : decode cX5_rain 12 = .ok (.ireturn, 1) := by decide +kernel
theorem dX5_rain_13 : decode cX5_rain 13 = .ok (.aload_n 0, 1) := by decide +kernel
theorem dX5_rain_14 : decode cX5_rain 14 = .ok (.getfield 33, 3) := by decide +kernel
theorem dX5_rain_17 : decode cX5_rain 17 = .ok (.aload_n 0, 1) := by decide +kernel
theorem dX5_rain_18 : decode cX5_rain 18 = .ok (.getfield 26, 3) := by decide +kernel
theorem dX5_rain_21 : decode cX5_rain 21 = .ok (.invokevirtual 192, 3) := by decide +kernel
theorem dX5_rain_24 : decode cX5_rain 24 = .ok (.aload_n 0, 1) := by decide +kernel
theorem dX5_rain_25 : decode cX5_rain 25 = .ok (.getfield 26, 3) := by decide +kernel
theorem dX5_rain_28 : decode cX5_rain 28 = .ok (.getfield 118, 3) := by decide +kernel
theorem dX5_rain_31 : decode cX5_rain 31 = .ok (.ifCond .eq 7, 3) := by decide +kernel
theorem dX5_rain_34 : decode cX5_rain 34 = .ok (.iconst 1, 1) := by decide +kernel
theorem dX5_rain_35 : decode cX5_rain 35 = .ok (.goto 4, 3) := by decide +kernel
theorem dX5_rain_38 : decode cX5_rain 38 = .ok (.iconst 0, 1) := by decide +kernel
theorem dX5_rain_39 : decode cX5_rain 39 = .ok (.istore_n 2, 1) := by decide +kernel
theorem dX5_rain_40 : decode cX5_rain 40 = .ok (.aload_n 0, 1) := by decide +kernel
theorem dX5_rain_41 : decode cX5_rain 41 = .ok (.getfield 26, 3) := by decide +kernel
theorem dX5_rain_44 : decode cX5_rain 44 = .ok (.iload_n 1, 1) := by decide +kernel
theorem dX5_rain_45 : decode cX5_rain 45 = .ok (.putfield 118, 3) := by decide +kernel
theorem dX5_rain_48 : decode cX5_rain 48 = .ok (.iload_n 2, 1) := by decide +kernel
theorem dX5_rain_49 : decode cX5_rain 49 = .ok (.ireturn, 1) := by decide +kernel
set_option maxRecDepth 20000 in
theorem ggX5_smoke_X5_isWindow : GoodIn wsX5_smoke wsX5_isWindow := goodIn_r _ [8, 9, 42, 43, 44, 45, 46, 47, 48, 49, 50, 51, 52, 53, 54, 69, 70, 71, 72, 73, 74, 75, 76] (by decide +kernel) (by decide +kernel)
set_option maxRecDepth 20000 in
theorem gX5_smoke_X5_isWindow : GoodIn wsX5_smoke (wsV RX5 156 RX5 yX5_isWindow wsX5_isWindow) := goodIn_app (goodIn_of _ (by decide +kernel)) ggX5_smoke_X5_isWindow
set_option maxRecDepth 20000 in
theorem ggX5_smoke_X2_remember : GoodIn wsX5_smoke wsX2_remember := goodIn_r _ [13, 14, 15, 16, 17, 18, 19, 20, 21, 22, 23, 24, 25, 26, 27, 28, 29, 30, 31, 32, 33, 34, 35, 36, 37, 38, 39, 40, 41, 77, 78, 79, 55, 56, 57, 58, 59, 60, 61, 62, 63, 64, 65, 66, 67, 68] (by decide +kernel) (by decide +kernel)
set_option maxRecDepth 20000 in
theorem gX5_smoke_X2_remember_n192 : GoodIn wsX5_smoke (wsX2_remember) := ggX5_smoke_X2_remember
theorem dX5_smoke_0 : decode cX5_smoke 0 = .ok (.aload_n 0, 1) := by decide +kernel
theorem dX5_smoke_1 : decode cX5_smoke 1 = .ok (.iload_n 1, 1) := by decide +kernel
theorem dX5_smoke_2 : decode cX5_smoke 2 = .ok (.invokevirtual 156, 3) := by decide +kernel
theorem dX5_smoke_5 : decode cX5_smoke 5 = .ok (.ifCond .ne 6, 3) := by decide +kernel
theorem dX5_smoke_8 : decode cX5_smoke 8 = .ok (.ldc 145, 2) := by decide +kernel
theorem dX5_smoke_10 : decode cX5_smoke 10 = .ok (.ireturn, 1) := by decide +kernel
theorem dX5_smoke_11 : decode cX5_smoke 11 = .ok (.aload_n 0, 1) := by decide +kernel
theorem dX5_smoke_12 : decode cX5_smoke 12 = .ok (.getfield 33, 3) := by decide +kernel
theorem dX5_smoke_15 : decode cX5_smoke 15 = .ok (.aload_n 0, 1) := by decide +kernel
theorem dX5_smoke_16 : decode cX5_smoke 16 = .ok (.getfield 26, 3) := by decide +kernel
theorem dX5_smoke_19 : decode cX5_smoke 19 = .ok (.invokevirtual 192, 3) := by decide +kernel
theorem dX5_smoke_22 : decode cX5_smoke 22 = .ok (.aload_n 0, 1) := by decide +kernel
theorem dX5_smoke_23 : decode cX5_smoke 23 = .ok (.getfield 26, 3) := by decide +kernel
theorem dX5_smoke_26 : decode cX5_smoke 26 = .ok (.getfield 122, 3) := by decide +kernel
theorem dX5_smoke_29 : decode cX5_smoke 29 = .ok (.iload_n 1, 1) := by decide +kernel
theorem dX5_smoke_30 : decode cX5_smoke 30 = .ok (.ishr, 1) := by decide +kernel
theorem dX5_smoke_31 : decode cX5_smoke 31 = .ok (.iconst 1, 1) := by decide +kernel
theorem dX5_smoke_32 : decode cX5_smoke 32 = .ok (.iand, 1) := by decide +kernel
theorem dX5_smoke_33 : decode cX5_smoke 33 = .ok (.istore_n 3, 1) := by decide +kernel
theorem dX5_smoke_34 : decode cX5_smoke 34 = .ok (.aload_n 0, 1) := by decide +kernel
theorem dX5_smoke_35 : decode cX5_smoke 35 = .ok (.getfield 26, 3) := by decide +kernel
theorem dX5_smoke_38 : decode cX5_smoke 38 = .ok (.iload_n 2, 1) := by decide +kernel
theorem dX5_smoke_39 : decode cX5_smoke 39 = .ok (.ifCond .eq 17, 3) := by decide +kernel
theorem dX5_smoke_42 : decode cX5_smoke 42 = .ok (.aload_n 0, 1) := by decide +kernel
theorem dX5_smoke_43 : decode cX5_smoke 43 = .ok (.getfield 26, 3) := by decide +kernel
theorem dX5_smoke_46 : decode cX5_smoke 46 = .ok (.getfield 122, 3) := by decide +kernel
theorem dX5_smoke_49 : decode cX5_smoke 49 = .ok (.iconst 1, 1) := by decide +kernel
theorem dX5_smoke_50 : decode cX5_smoke 50 = .ok (.iload_n 1, 1) := by decide +kernel
theorem dX5_smoke_51 : decode cX5_smoke 51 = .ok (.ishl, 1) := by decide +kernel
theorem dX5_smoke_52 : decode cX5_smoke 52 = .ok (.ior, 1) := by decide +kernel
theorem dX5_smoke_53 : decode cX5_smoke 53 = .ok (.goto 16, 3) := by decide +kernel
theorem dX5_smoke_56 : decode cX5_smoke 56 = .ok (.aload_n 0, 1) := by decide +kernel
theorem dX5_smoke_57 : decode cX5_smoke 57 = .ok (.getfield 26, 3) := by decide +kernel
theorem dX5_smoke_60 : decode cX5_smoke 60 = .ok (.getfield 122, 3) := by decide +kernel
theorem dX5_smoke_63 : decode cX5_smoke 63 = .ok (.iconst 1, 1) := by decide +kernel
theorem dX5_smoke_64 : decode cX5_smoke 64 = .ok (.iload_n 1, 1) := by decide +kernel
theorem dX5_smoke_65 : decode cX5_smoke 65 = .ok (.ishl, 1) := by decide +kernel
theorem dX5_smoke_66 : decode cX5_smoke 66 = .ok (.iconst (-1), 1) := by decide +kernel
theorem dX5_smoke_67 : decode cX5_smoke 67 = .ok (.ixor, 1) := by decide +kernel
theorem dX5_smoke_68 : decode cX5_smoke 68 = .ok (.iand, 1) := by decide +kernel
theorem dX5_smoke_69 : decode cX5_smoke 69 = .ok (.putfield 122, 3) := by decide +kernel
theorem dX5_smoke_72 : decode cX5_smoke 72 = .ok (.iload_n 3, 1) := by decide +kernel
theorem dX5_smoke_73 : decode cX5_smoke 73 = .ok (.ireturn, 1) := by decide +kernel
set_option maxRecDepth 20000 in
theorem ggX5_press_X5_isGlass : GoodIn wsX5_press wsX5_isGlass := goodIn_r _ [7] (by decide +kernel) (by decide +kernel)
set_option maxRecDepth 20000 in
theorem gX5_press_X5_isGlass : GoodIn wsX5_press (va_wsS RX5 185 yX5_isGlass wsX5_isGlass) := goodIn_app (goodIn_of _ (by decide +kernel)) ggX5_press_X5_isGlass
set_option maxRecDepth 20000 in
theorem ggX5_press_X5_isWindow : GoodIn wsX5_press wsX5_isWindow := goodIn_r _ [11, 12, 64, 65, 66, 67, 68, 69, 70, 71, 72, 73, 74, 75, 76, 91, 92, 93, 94, 95, 96, 97, 98] (by decide +kernel) (by decide +kernel)
set_option maxRecDepth 20000 in
theorem gX5_press_X5_isWindow : GoodIn wsX5_press (wsV RX5 156 RX5 yX5_isWindow wsX5_isWindow) := goodIn_app (goodIn_of _ (by decide +kernel)) ggX5_press_X5_isWindow
set_option maxRecDepth 20000 in
theorem ggX5_press_X2_remember : GoodIn wsX5_press wsX2_remember := goodIn_r _ [16, 17, 18, 19, 20, 21, 22, 23, 24, 25, 26, 27, 28, 29, 30, 31, 32, 33, 34, 35, 36, 37, 38, 39, 40, 41, 42, 43, 44, 99, 100, 101, 77, 78, 79, 80, 81, 82, 83, 84, 85, 86, 87, 88, 89, 90] (by decide +kernel) (by decide +kernel)
set_option maxRecDepth 20000 in
theorem gX5_press_X2_remember_n192 : GoodIn wsX5_press (wsX2_remember) := ggX5_press_X2_remember
set_option maxRecDepth 20000 in
theorem ggX5_press_X5_drawnAt : GoodIn wsX5_press wsX5_drawnAt := goodIn_r _ [48, 3, 12, 49, 50, 51, 6, 52, 53, 54, 55, 56, 57, 58, 59, 60, 61, 62, 63, 64, 65, 66, 67, 68, 69, 70, 71, 72, 73, 74, 75, 76, 77, 78, 79, 80, 81, 82, 83, 84, 85, 86, 87, 88, 89, 90, 91, 92, 93, 94, 95, 96, 97, 98] (by decide +kernel) (by decide +kernel)
set_option maxRecDepth 20000 in
theorem gX5_press_X5_drawnAt : GoodIn wsX5_press (wsV RX5 165 RX5 yX5_drawnAt wsX5_drawnAt) := goodIn_app (goodIn_of _ (by decide +kernel)) ggX5_press_X5_drawnAt
theorem dX5_press_0 : decode cX5_press 0 = .ok (.iload_n 1, 1) := by decide +kernel
theorem dX5_press_1 : decode cX5_press 1 = .ok (.invokestatic 185, 3) := by decide +kernel
theorem dX5_press_4 : decode cX5_press 4 = .ok (.ifCond .eq 11, 3) := by decide +kernel
theorem dX5_press_7 : decode cX5_press 7 = .ok (.aload_n 0, 1) := by decide +kernel
theorem dX5_press_8 : decode cX5_press 8 = .ok (.iload_n 2, 1) := by decide +kernel
theorem dX5_press_9 : decode cX5_press 9 = .ok (.invokevirtual 156, 3) := by decide +kernel
theorem dX5_press_12 : decode cX5_press 12 = .ok (.ifCond .ne 6, 3) := by decide +kernel
theorem dX5_press_15 : decode cX5_press 15 = .ok (.ldc 145, 2) := by decide +kernel
theorem dX5_press_17 : decode cX5_press 17 = .ok (.ireturn, 1) := by decide +kernel
theorem dX5_press_18 : decode cX5_press 18 = .ok (.aload_n 0, 1) := by decide +kernel
theorem dX5_press_19 : decode cX5_press 19 = .ok (.getfield 33, 3) := by decide +kernel
theorem dX5_press_22 : decode cX5_press 22 = .ok (.aload_n 0, 1) := by decide +kernel
theorem dX5_press_23 : decode cX5_press 23 = .ok (.getfield 26, 3) := by decide +kernel
theorem dX5_press_26 : decode cX5_press 26 = .ok (.invokevirtual 192, 3) := by decide +kernel
theorem dX5_press_29 : decode cX5_press 29 = .ok (.aload_n 0, 1) := by decide +kernel
theorem dX5_press_30 : decode cX5_press 30 = .ok (.getfield 26, 3) := by decide +kernel
theorem dX5_press_33 : decode cX5_press 33 = .ok (.getfield 188, 3) := by decide +kernel
theorem dX5_press_36 : decode cX5_press 36 = .ok (.iload_n 1, 1) := by decide +kernel
theorem dX5_press_37 : decode cX5_press 37 = .ok (.iaload, 1) := by decide +kernel
theorem dX5_press_38 : decode cX5_press 38 = .ok (.istore_n 3, 1) := by decide +kernel
theorem dX5_press_39 : decode cX5_press 39 = .ok (.aload_n 0, 1) := by decide +kernel
theorem dX5_press_40 : decode cX5_press 40 = .ok (.getfield 26, 3) := by decide +kernel
theorem dX5_press_43 : decode cX5_press 43 = .ok (.getfield 188, 3) := by decide +kernel
theorem dX5_press_46 : decode cX5_press 46 = .ok (.iload_n 1, 1) := by decide +kernel
theorem dX5_press_47 : decode cX5_press 47 = .ok (.aload_n 0, 1) := by decide +kernel
theorem dX5_press_48 : decode cX5_press 48 = .ok (.iload_n 2, 1) := by decide +kernel
theorem dX5_press_49 : decode cX5_press 49 = .ok (.invokevirtual 165, 3) := by decide +kernel
theorem dX5_press_52 : decode cX5_press 52 = .ok (.iastore, 1) := by decide +kernel
theorem dX5_press_53 : decode cX5_press 53 = .ok (.iload_n 3, 1) := by decide +kernel
theorem dX5_press_54 : decode cX5_press 54 = .ok (.ireturn, 1) := by decide +kernel
set_option maxRecDepth 20000 in
theorem ggX5_dusk_X5_refusalOfDusks : GoodIn wsX5_dusk wsX5_refusalOfDusks := goodIn_r _ [7, 8, 9, 10, 2, 11, 74, 75, 76, 77, 78, 79, 80, 81, 82, 83, 84, 85, 86, 101, 102, 103, 104, 105, 106, 107, 108, 87, 88, 89, 90, 91, 92, 93, 94, 95, 96, 97, 98, 99, 100] (by decide +kernel) (by decide +kernel)
set_option maxRecDepth 20000 in
theorem gX5_dusk_X5_refusalOfDusks : GoodIn wsX5_dusk (wsV RX5 206 RX5 yX5_refusalOfDusks wsX5_refusalOfDusks) := goodIn_app (goodIn_of _ (by decide +kernel)) ggX5_dusk_X5_refusalOfDusks
set_option maxRecDepth 20000 in
theorem ggX5_dusk_X2_remember : GoodIn wsX5_dusk wsX2_remember := goodIn_r _ [15, 16, 17, 18, 19, 20, 21, 22, 23, 24, 25, 26, 27, 28, 29, 30, 31, 32, 33, 34, 35, 36, 37, 38, 39, 40, 41, 42, 43, 109, 110, 111, 87, 88, 89, 90, 91, 92, 93, 94, 95, 96, 97, 98, 99, 100] (by decide +kernel) (by decide +kernel)
set_option maxRecDepth 20000 in
theorem gX5_dusk_X2_remember_n192 : GoodIn wsX5_dusk (wsX2_remember) := ggX5_dusk_X2_remember
set_option maxRecDepth 20000 in
theorem ggX5_dusk_X5_passDusk : GoodIn wsX5_dusk wsX5_passDusk := goodIn_r _ [47, 9, 2, 48, 49, 50, 6, 51, 52, 53, 54, 55, 56, 57, 58, 59, 60, 61, 62, 63, 64, 65, 66, 67, 24, 68, 69, 33, 41, 42, 43, 32, 70, 20, 21, 22, 71, 72, 73, 26, 27, 29, 30, 31, 28, 74, 75, 76, 77, 78, 79, 80, 81, 82, 83, 84, 85, 86, 101, 102, 103, 104, 105, 106, 107, 108, 87, 88, 89, 90, 91, 92, 93, 94, 95, 96, 97, 98, 99, 100] (by decide +kernel) (by decide +kernel)
set_option maxRecDepth 20000 in
theorem gX5_dusk_X5_passDusk : GoodIn wsX5_dusk (wsV RX5 209 RX5 yX5_passDusk wsX5_passDusk) := goodIn_app (goodIn_of _ (by decide +kernel)) ggX5_dusk_X5_passDusk
theorem dX5_dusk_0 : decode cX5_dusk 0 = .ok (.aload_n 0, 1) := by decide +kernel
theorem dX5_dusk_1 : decode cX5_dusk 1 = .ok (.iload_n 1, 1) := by decide +kernel
theorem dX5_dusk_2 : decode cX5_dusk 2 = .ok (.invokevirtual 206, 3) := by decide +kernel
theorem dX5_dusk_5 : decode cX5_dusk 5 = .ok (.istore_n 2, 1) := by decide +kernel
theorem dX5_dusk_6 : decode cX5_dusk 6 = .ok (.iload_n 2, 1) := by decide +kernel
theorem dX5_dusk_7 : decode cX5_dusk 7 = .ok (.ifCond .eq 5, 3) := by decide +kernel
theorem dX5_dusk_10 : decode cX5_dusk 10 = .ok (.iload_n 2, 1) := by decide +kernel
theorem dX5_dusk_11 : decode cX5_dusk 11 = .ok (.ireturn, 1) := by decide +kernel
theorem dX5_dusk_12 : decode cX5_dusk 12 = .ok (.aload_n 0, 1) := by decide +kernel
theorem dX5_dusk_13 : decode cX5_dusk 13 = .ok (.getfield 33, 3) := by decide +kernel
theorem dX5_dusk_16 : decode cX5_dusk 16 = .ok (.aload_n 0, 1) := by decide +kernel
theorem dX5_dusk_17 : decode cX5_dusk 17 = .ok (.getfield 26, 3) := by decide +kernel
theorem dX5_dusk_20 : decode cX5_dusk 20 = .ok (.invokevirtual 192, 3) := by decide +kernel
theorem dX5_dusk_23 : decode cX5_dusk 23 = .ok (.iconst 0, 1) := by decide +kernel
theorem dX5_dusk_24 : decode cX5_dusk 24 = .ok (.istore_n 3, 1) := by decide +kernel
theorem dX5_dusk_25 : decode cX5_dusk 25 = .ok (.iload_n 3, 1) := by decide +kernel
theorem dX5_dusk_26 : decode cX5_dusk 26 = .ok (.iload_n 1, 1) := by decide +kernel
theorem dX5_dusk_27 : decode cX5_dusk 27 = .ok (.if_icmp .ge 13, 3) := by decide +kernel
theorem dX5_dusk_30 : decode cX5_dusk 30 = .ok (.aload_n 0, 1) := by decide +kernel
theorem dX5_dusk_31 : decode cX5_dusk 31 = .ok (.invokevirtual 209, 3) := by decide +kernel
theorem dX5_dusk_34 : decode cX5_dusk 34 = .ok (.iinc 3 1, 3) := by decide +kernel
theorem dX5_dusk_37 : decode cX5_dusk 37 = .ok (.goto (-12), 3) := by decide +kernel
theorem dX5_dusk_40 : decode cX5_dusk 40 = .ok (.aload_n 0, 1) := by decide +kernel
theorem dX5_dusk_41 : decode cX5_dusk 41 = .ok (.getfield 26, 3) := by decide +kernel
theorem dX5_dusk_44 : decode cX5_dusk 44 = .ok (.getfield 129, 3) := by decide +kernel
theorem dX5_dusk_47 : decode cX5_dusk 47 = .ok (.ireturn, 1) := by decide +kernel
set_option maxRecDepth 20000 in
theorem ggX5_drift_X5_refusalOfDusks : GoodIn wsX5_drift wsX5_refusalOfDusks := goodIn_r _ [7, 8, 9, 10, 2, 11, 97, 98, 99, 100, 101, 102, 103, 104, 105, 106, 107, 108, 109, 124, 125, 126, 127, 128, 129, 130, 131, 110, 111, 112, 113, 114, 115, 116, 117, 118, 119, 120, 121, 122, 123] (by decide +kernel) (by decide +kernel)
set_option maxRecDepth 20000 in
theorem gX5_drift_X5_refusalOfDusks : GoodIn wsX5_drift (wsV RX5 206 RX5 yX5_refusalOfDusks wsX5_refusalOfDusks) := goodIn_app (goodIn_of _ (by decide +kernel)) ggX5_drift_X5_refusalOfDusks
set_option maxRecDepth 20000 in
theorem ggX5_drift_X2_remember : GoodIn wsX5_drift wsX2_remember := goodIn_r _ [15, 16, 17, 18, 19, 20, 21, 22, 23, 24, 25, 26, 27, 28, 29, 30, 31, 32, 33, 34, 35, 36, 37, 38, 39, 40, 41, 42, 43, 132, 133, 134, 110, 111, 112, 113, 114, 115, 116, 117, 118, 119, 120, 121, 122, 123] (by decide +kernel) (by decide +kernel)
set_option maxRecDepth 20000 in
theorem gX5_drift_X2_remember_n192 : GoodIn wsX5_drift (wsX2_remember) := ggX5_drift_X2_remember
set_option maxRecDepth 20000 in
theorem ggX5_drift_X5_happenByDraw : GoodIn wsX5_drift wsX5_happenByDraw := goodIn_r _ [47, 2, 48, 49, 50, 6, 51, 52, 53, 54, 55, 56, 57, 58, 59, 9, 60, 61, 62, 63, 64, 24, 65, 66, 39, 97, 98, 99, 100, 101, 102, 103, 104, 105, 106, 107, 108, 109, 110, 111, 112, 113, 114, 115, 116, 117, 118, 119, 120, 121, 122, 123, 124, 125, 126, 127, 128, 129, 130, 131] (by decide +kernel) (by decide +kernel)
set_option maxRecDepth 20000 in
theorem gX5_drift_X5_happenByDraw : GoodIn wsX5_drift (wsV RX5 212 RX5 yX5_happenByDraw wsX5_happenByDraw) := goodIn_app (goodIn_of _ (by decide +kernel)) ggX5_drift_X5_happenByDraw
set_option maxRecDepth 20000 in
theorem ggX5_drift_X5_passDusk : GoodIn wsX5_drift wsX5_passDusk := goodIn_r _ [70, 9, 2, 71, 72, 73, 6, 74, 75, 76, 77, 78, 79, 80, 81, 82, 83, 84, 85, 86, 87, 88, 89, 90, 24, 91, 92, 33, 41, 42, 43, 32, 93, 20, 21, 22, 94, 95, 96, 26, 27, 29, 30, 31, 28, 97, 98, 99, 100, 101, 102, 103, 104, 105, 106, 107, 108, 109, 124, 125, 126, 127, 128, 129, 130, 131, 110, 111, 112, 113, 114, 115, 116, 117, 118, 119, 120, 121, 122, 123] (by decide +kernel) (by decide +kernel)
set_option maxRecDepth 20000 in
theorem gX5_drift_X5_passDusk : GoodIn wsX5_drift (wsV RX5 209 RX5 yX5_passDusk wsX5_passDusk) := goodIn_app (goodIn_of _ (by decide +kernel)) ggX5_drift_X5_passDusk
theorem dX5_drift_0 : decode cX5_drift 0 = .ok (.aload_n 0, 1) := by decide +kernel
theorem dX5_drift_1 : decode cX5_drift 1 = .ok (.iload_n 1, 1) := by decide +kernel
theorem dX5_drift_2 : decode cX5_drift 2 = .ok (.invokevirtual 206, 3) := by decide +kernel
theorem dX5_drift_5 : decode cX5_drift 5 = .ok (.istore_n 2, 1) := by decide +kernel
theorem dX5_drift_6 : decode cX5_drift 6 = .ok (.iload_n 2, 1) := by decide +kernel
theorem dX5_drift_7 : decode cX5_drift 7 = .ok (.ifCond .eq 5, 3) := by decide +kernel
theorem dX5_drift_10 : decode cX5_drift 10 = .ok (.iload_n 2, 1) := by decide +kernel
theorem dX5_drift_11 : decode cX5_drift 11 = .ok (.ireturn, 1) := by decide +kernel
theorem dX5_drift_12 : decode cX5_drift 12 = .ok (.aload_n 0, 1) := by decide +kernel
theorem dX5_drift_13 : decode cX5_drift 13 = .ok (.getfield 33, 3) := by decide +kernel
theorem dX5_drift_16 : decode cX5_drift 16 = .ok (.aload_n 0, 1) := by decide +kernel
theorem dX5_drift_17 : decode cX5_drift 17 = .ok (.getfield 26, 3) := by decide +kernel
theorem dX5_drift_20 : decode cX5_drift 20 = .ok (.invokevirtual 192, 3) := by decide +kernel
theorem dX5_drift_23 : decode cX5_drift 23 = .ok (.iconst 0, 1) := by decide +kernel
theorem dX5_drift_24 : decode cX5_drift 24 = .ok (.istore_n 3, 1) := by decide +kernel
theorem dX5_drift_25 : decode cX5_drift 25 = .ok (.iload_n 3, 1) := by decide +kernel
theorem dX5_drift_26 : decode cX5_drift 26 = .ok (.iload_n 1, 1) := by decide +kernel
theorem dX5_drift_27 : decode cX5_drift 27 = .ok (.if_icmp .ge 17, 3) := by decide +kernel
theorem dX5_drift_30 : decode cX5_drift 30 = .ok (.aload_n 0, 1) := by decide +kernel
theorem dX5_drift_31 : decode cX5_drift 31 = .ok (.invokevirtual 212, 3) := by decide +kernel
theorem dX5_drift_34 : decode cX5_drift 34 = .ok (.aload_n 0, 1) := by decide +kernel
theorem dX5_drift_35 : decode cX5_drift 35 = .ok (.invokevirtual 209, 3) := by decide +kernel
theorem dX5_drift_38 : decode cX5_drift 38 = .ok (.iinc 3 1, 3) := by decide +kernel
theorem dX5_drift_41 : decode cX5_drift 41 = .ok (.goto (-16), 3) := by decide +kernel
theorem dX5_drift_44 : decode cX5_drift 44 = .ok (.aload_n 0, 1) := by decide +kernel
theorem dX5_drift_45 : decode cX5_drift 45 = .ok (.getfield 26, 3) := by decide +kernel
theorem dX5_drift_48 : decode cX5_drift 48 = .ok (.getfield 129, 3) := by decide +kernel
theorem dX5_drift_51 : decode cX5_drift 51 = .ok (.ireturn, 1) := by decide +kernel
set_option maxRecDepth 20000 in
theorem ggX5_undo_X2_recall : GoodIn wsX5_undo wsX2_recall := goodIn_r _ [7, 8, 9, 10, 11, 12, 13, 14, 15, 16, 17, 18, 19, 20, 21, 22, 23, 24, 25, 26, 27, 28, 29, 30, 31, 32, 33, 34, 35, 36, 37, 38, 39, 53, 54, 55, 56, 57, 58, 59, 60, 61, 62, 63, 64, 65, 66, 67, 68, 69] (by decide +kernel) (by decide +kernel)
set_option maxRecDepth 20000 in
theorem gX5_undo_X2_recall_n215 : GoodIn wsX5_undo (wsX2_recall) := ggX5_undo_X2_recall
theorem dX5_undo_0 : decode cX5_undo 0 = .ok (.aload_n 0, 1) := by decide +kernel
theorem dX5_undo_1 : decode cX5_undo 1 = .ok (.getfield 33, 3) := by decide +kernel
theorem dX5_undo_4 : decode cX5_undo 4 = .ok (.getfield 138, 3) := by decide +kernel
theorem dX5_undo_7 : decode cX5_undo 7 = .ok (.iconst 1, 1) := by decide +kernel
theorem dX5_undo_8 : decode cX5_undo 8 = .ok (.if_icmp .ge 6, 3) := by decide +kernel
theorem dX5_undo_11 : decode cX5_undo 11 = .ok (.ldc 191, 2) := by decide +kernel
theorem dX5_undo_13 : decode cX5_undo 13 = .ok (.ireturn, 1) := by decide +kernel
theorem dX5_undo_14 : decode cX5_undo 14 = .ok (.aload_n 0, 1) := by decide +kernel
theorem dX5_undo_15 : decode cX5_undo 15 = .ok (.getfield 33, 3) := by decide +kernel
theorem dX5_undo_18 : decode cX5_undo 18 = .ok (.aload_n 0, 1) := by decide +kernel
theorem dX5_undo_19 : decode cX5_undo 19 = .ok (.getfield 26, 3) := by decide +kernel
theorem dX5_undo_22 : decode cX5_undo 22 = .ok (.invokevirtual 215, 3) := by decide +kernel
theorem dX5_undo_25 : decode cX5_undo 25 = .ok (.aload_n 0, 1) := by decide +kernel
theorem dX5_undo_26 : decode cX5_undo 26 = .ok (.getfield 33, 3) := by decide +kernel
theorem dX5_undo_29 : decode cX5_undo 29 = .ok (.getfield 138, 3) := by decide +kernel
theorem dX5_undo_32 : decode cX5_undo 32 = .ok (.ireturn, 1) := by decide +kernel
set_option maxRecDepth 20000 in
theorem ggX5_like_X5_isSitter : GoodIn wsX5_like wsX5_isSitter := goodIn_r _ [8, 3, 23, 24, 25, 26, 27, 28, 29, 30, 31, 32, 33, 34, 35, 36, 37, 38, 39, 40, 41, 42, 43] (by decide +kernel) (by decide +kernel)
set_option maxRecDepth 20000 in
theorem gX5_like_X5_isSitter : GoodIn wsX5_like (wsV RX5 141 RX5 yX5_isSitter wsX5_isSitter) := goodIn_app (goodIn_of _ (by decide +kernel)) ggX5_like_X5_isSitter
set_option maxRecDepth 20000 in
theorem ggX5_like_X5_isSetOfDots : GoodIn wsX5_like wsX5_isSetOfDots := goodIn_r _ [11, 12] (by decide +kernel) (by decide +kernel)
set_option maxRecDepth 20000 in
theorem gX5_like_X5_isSetOfDots : GoodIn wsX5_like (va_wsS RX5 218 yX5_isSetOfDots wsX5_isSetOfDots) := goodIn_app (goodIn_of _ (by decide +kernel)) ggX5_like_X5_isSetOfDots
set_option maxRecDepth 20000 in
theorem ggX5_like_X5_likeness : GoodIn wsX5_like wsX5_likeness := goodIn_r _ [15, 16, 17, 18, 19, 20, 21, 22] (by decide +kernel) (by decide +kernel)
set_option maxRecDepth 20000 in
theorem gX5_like_X5_likeness : GoodIn wsX5_like (va_wsS RX5 221 yX5_likeness wsX5_likeness) := goodIn_app (goodIn_of _ (by decide +kernel)) ggX5_like_X5_likeness
theorem dX5_like_0 : decode cX5_like 0 = .ok (.aload_n 0, 1) := by decide +kernel
theorem dX5_like_1 : decode cX5_like 1 = .ok (.iload_n 1, 1) := by decide +kernel
theorem dX5_like_2 : decode cX5_like 2 = .ok (.invokevirtual 141, 3) := by decide +kernel
theorem dX5_like_5 : decode cX5_like 5 = .ok (.ifCond .ne 6, 3) := by decide +kernel
theorem dX5_like_8 : decode cX5_like 8 = .ok (.ldc 145, 2) := by decide +kernel
theorem dX5_like_10 : decode cX5_like 10 = .ok (.ireturn, 1) := by decide +kernel
theorem dX5_like_11 : decode cX5_like 11 = .ok (.iload_n 2, 1) := by decide +kernel
theorem dX5_like_12 : decode cX5_like 12 = .ok (.invokestatic 218, 3) := by decide +kernel
theorem dX5_like_15 : decode cX5_like 15 = .ok (.ifCond .ne 6, 3) := by decide +kernel
theorem dX5_like_18 : decode cX5_like 18 = .ok (.ldc 59, 2) := by decide +kernel
theorem dX5_like_20 : decode cX5_like 20 = .ok (.ireturn, 1) := by decide +kernel
theorem dX5_like_21 : decode cX5_like 21 = .ok (.aload_n 0, 1) := by decide +kernel
theorem dX5_like_22 : decode cX5_like 22 = .ok (.getfield 19, 3) := by decide +kernel
theorem dX5_like_25 : decode cX5_like 25 = .ok (.getfield 146, 3) := by decide +kernel
theorem dX5_like_28 : decode cX5_like 28 = .ok (.iload_n 1, 1) := by decide +kernel
theorem dX5_like_29 : decode cX5_like 29 = .ok (.iaload, 1) := by decide +kernel
theorem dX5_like_30 : decode cX5_like 30 = .ok (.iload_n 2, 1) := by decide +kernel
theorem dX5_like_31 : decode cX5_like 31 = .ok (.invokestatic 221, 3) := by decide +kernel
theorem dX5_like_34 : decode cX5_like 34 = .ok (.ireturn, 1) := by decide +kernel
set_option maxRecDepth 20000 in
theorem ggX5_seenAs_X5_isSetOfDots : GoodIn wsX5_seenAs wsX5_isSetOfDots := goodIn_r _ [6, 1] (by decide +kernel) (by decide +kernel)
set_option maxRecDepth 20000 in
theorem gX5_seenAs_X5_isSetOfDots : GoodIn wsX5_seenAs (va_wsS RX5 218 yX5_isSetOfDots wsX5_isSetOfDots) := goodIn_app (goodIn_of _ (by decide +kernel)) ggX5_seenAs_X5_isSetOfDots
set_option maxRecDepth 20000 in
theorem ggX5_seenAs_X5_mostLike : GoodIn wsX5_seenAs wsX5_mostLike := goodIn_r _ [10, 11, 12, 13, 14, 15, 16, 17, 18, 19, 20, 21, 22, 23, 24, 25, 26, 27, 28, 29, 30, 31, 32, 33, 34, 35, 36, 37, 38, 39] (by decide +kernel) (by decide +kernel)
set_option maxRecDepth 20000 in
theorem gX5_seenAs_X5_mostLike : GoodIn wsX5_seenAs (wsV RX5 169 RX5 yX5_mostLike wsX5_mostLike) := goodIn_app (goodIn_of _ (by decide +kernel)) ggX5_seenAs_X5_mostLike
theorem dX5_seenAs_0 : decode cX5_seenAs 0 = .ok (.iload_n 1, 1) := by decide +kernel
theorem dX5_seenAs_1 : decode cX5_seenAs 1 = .ok (.invokestatic 218, 3) := by decide +kernel
theorem dX5_seenAs_4 : decode cX5_seenAs 4 = .ok (.ifCond .eq 13, 3) := by decide +kernel
theorem dX5_seenAs_7 : decode cX5_seenAs 7 = .ok (.aload_n 0, 1) := by decide +kernel
theorem dX5_seenAs_8 : decode cX5_seenAs 8 = .ok (.iload_n 1, 1) := by decide +kernel
theorem dX5_seenAs_9 : decode cX5_seenAs 9 = .ok (.ldc 168, 2) := by decide +kernel
theorem dX5_seenAs_11 : decode cX5_seenAs 11 = .ok (.invokevirtual 169, 3) := by decide +kernel
theorem dX5_seenAs_14 : decode cX5_seenAs 14 = .ok (.goto 5, 3) := by decide +kernel
theorem dX5_seenAs_17 : decode cX5_seenAs 17 = .ok (.ldc 59, 2) := by decide +kernel
theorem dX5_seenAs_19 : decode cX5_seenAs 19 = .ok (.ireturn, 1) := by decide +kernel
set_option maxRecDepth 20000 in
theorem ggX5_bestLamp_X5_isWindow : GoodIn wsX5_bestLamp wsX5_isWindow := goodIn_r _ [8, 3, 35, 36, 37, 38, 39, 40, 41, 42, 43, 44, 45, 46, 47, 48, 49, 50, 51, 52, 53, 54, 55] (by decide +kernel) (by decide +kernel)
set_option maxRecDepth 20000 in
theorem gX5_bestLamp_X5_isWindow : GoodIn wsX5_bestLamp (wsV RX5 156 RX5 yX5_isWindow wsX5_isWindow) := goodIn_app (goodIn_of _ (by decide +kernel)) ggX5_bestLamp_X5_isWindow
set_option maxRecDepth 20000 in
theorem ggX5_bestLamp_X5_isSitter : GoodIn wsX5_bestLamp wsX5_isSitter := goodIn_r _ [12, 3, 35, 36, 37, 38, 39, 40, 41, 42, 43, 44, 45, 46, 47, 48, 49, 50, 51, 52, 53, 54, 55] (by decide +kernel) (by decide +kernel)
set_option maxRecDepth 20000 in
theorem gX5_bestLamp_X5_isSitter : GoodIn wsX5_bestLamp (wsV RX5 141 RX5 yX5_isSitter wsX5_isSitter) := goodIn_app (goodIn_of _ (by decide +kernel)) ggX5_bestLamp_X5_isSitter
set_option maxRecDepth 20000 in
theorem ggX5_bestLamp_X5_drawnBy : GoodIn wsX5_bestLamp wsX5_drawnBy := goodIn_r _ [16, 17, 18, 3, 19, 20, 7, 21, 22, 23, 24, 35, 36, 37, 38, 39, 40, 41, 42, 43, 44, 45, 46, 47, 56, 57, 58, 59, 60, 61, 62, 63, 64, 65, 66, 67, 68, 69, 48, 49, 50, 51, 52, 53, 54, 55] (by decide +kernel) (by decide +kernel)
set_option maxRecDepth 20000 in
theorem gX5_bestLamp_X5_drawnBy : GoodIn wsX5_bestLamp (wsV RX5 224 RX5 yX5_drawnBy wsX5_drawnBy) := goodIn_app (goodIn_of _ (by decide +kernel)) ggX5_bestLamp_X5_drawnBy
set_option maxRecDepth 20000 in
theorem ggX5_bestLamp_X5_likeness : GoodIn wsX5_bestLamp wsX5_likeness := goodIn_r _ [27, 28, 29, 30, 31, 32, 33, 34] (by decide +kernel) (by decide +kernel)
set_option maxRecDepth 20000 in
theorem gX5_bestLamp_X5_likeness : GoodIn wsX5_bestLamp (va_wsS RX5 221 yX5_likeness wsX5_likeness) := goodIn_app (goodIn_of _ (by decide +kernel)) ggX5_bestLamp_X5_likeness
theorem dX5_bestLamp_0 : decode cX5_bestLamp 0 = .ok (.aload_n 0, 1) := by decide +kernel
theorem dX5_bestLamp_1 : decode cX5_bestLamp 1 = .ok (.iload_n 1, 1) := by decide +kernel
theorem dX5_bestLamp_2 : decode cX5_bestLamp 2 = .ok (.invokevirtual 156, 3) := by decide +kernel
theorem dX5_bestLamp_5 : decode cX5_bestLamp 5 = .ok (.ifCond .eq 11, 3) := by decide +kernel
theorem dX5_bestLamp_8 : decode cX5_bestLamp 8 = .ok (.aload_n 0, 1) := by decide +kernel
theorem dX5_bestLamp_9 : decode cX5_bestLamp 9 = .ok (.iload_n 2, 1) := by decide +kernel
theorem dX5_bestLamp_10 : decode cX5_bestLamp 10 = .ok (.invokevirtual 141, 3) := by decide +kernel
theorem dX5_bestLamp_13 : decode cX5_bestLamp 13 = .ok (.ifCond .ne 6, 3) := by decide +kernel
theorem dX5_bestLamp_16 : decode cX5_bestLamp 16 = .ok (.ldc 145, 2) := by decide +kernel
theorem dX5_bestLamp_18 : decode cX5_bestLamp 18 = .ok (.ireturn, 1) := by decide +kernel
theorem dX5_bestLamp_19 : decode cX5_bestLamp 19 = .ok (.iload_n 3, 1) := by decide +kernel
theorem dX5_bestLamp_20 : decode cX5_bestLamp 20 = .ok (.ifCond .lt 8, 3) := by decide +kernel
theorem dX5_bestLamp_23 : decode cX5_bestLamp 23 = .ok (.iload_n 3, 1) := by decide +kernel
theorem dX5_bestLamp_24 : decode cX5_bestLamp 24 = .ok (.iconst 1, 1) := by decide +kernel
theorem dX5_bestLamp_25 : decode cX5_bestLamp 25 = .ok (.if_icmp .le 6, 3) := by decide +kernel
theorem dX5_bestLamp_28 : decode cX5_bestLamp 28 = .ok (.ldc 59, 2) := by decide +kernel
theorem dX5_bestLamp_30 : decode cX5_bestLamp 30 = .ok (.ireturn, 1) := by decide +kernel
theorem dX5_bestLamp_31 : decode cX5_bestLamp 31 = .ok (.iconst (-1), 1) := by decide +kernel
theorem dX5_bestLamp_32 : decode cX5_bestLamp 32 = .ok (.istore 4, 2) := by decide +kernel
theorem dX5_bestLamp_34 : decode cX5_bestLamp 34 = .ok (.iconst (-1), 1) := by decide +kernel
theorem dX5_bestLamp_35 : decode cX5_bestLamp 35 = .ok (.istore 5, 2) := by decide +kernel
theorem dX5_bestLamp_37 : decode cX5_bestLamp 37 = .ok (.iconst 0, 1) := by decide +kernel
theorem dX5_bestLamp_38 : decode cX5_bestLamp 38 = .ok (.istore 6, 2) := by decide +kernel
theorem dX5_bestLamp_40 : decode cX5_bestLamp 40 = .ok (.iload 6, 2) := by decide +kernel
theorem dX5_bestLamp_42 : decode cX5_bestLamp 42 = .ok (.iconst 5, 1) := by decide +kernel
theorem dX5_bestLamp_43 : decode cX5_bestLamp 43 = .ok (.if_icmp .gt 53, 3) := by decide +kernel
theorem dX5_bestLamp_46 : decode cX5_bestLamp 46 = .ok (.aload_n 0, 1) := by decide +kernel
theorem dX5_bestLamp_47 : decode cX5_bestLamp 47 = .ok (.getfield 19, 3) := by decide +kernel
theorem dX5_bestLamp_50 : decode cX5_bestLamp 50 = .ok (.getfield 146, 3) := by decide +kernel
theorem dX5_bestLamp_53 : decode cX5_bestLamp 53 = .ok (.iload_n 2, 1) := by decide +kernel
theorem dX5_bestLamp_54 : decode cX5_bestLamp 54 = .ok (.iaload, 1) := by decide +kernel
theorem dX5_bestLamp_55 : decode cX5_bestLamp 55 = .ok (.aload_n 0, 1) := by decide +kernel
theorem dX5_bestLamp_56 : decode cX5_bestLamp 56 = .ok (.aload_n 0, 1) := by decide +kernel
theorem dX5_bestLamp_57 : decode cX5_bestLamp 57 = .ok (.getfield 19, 3) := by decide +kernel
theorem dX5_bestLamp_60 : decode cX5_bestLamp 60 = .ok (.getfield 146, 3) := by decide +kernel
theorem dX5_bestLamp_63 : decode cX5_bestLamp 63 = .ok (.iload_n 2, 1) := by decide +kernel
theorem dX5_bestLamp_64 : decode cX5_bestLamp 64 = .ok (.iaload, 1) := by decide +kernel
theorem dX5_bestLamp_65 : decode cX5_bestLamp 65 = .ok (.iload 6, 2) := by decide +kernel
theorem dX5_bestLamp_67 : decode cX5_bestLamp 67 = .ok (.invokevirtual 224, 3) := by decide +kernel
theorem dX5_bestLamp_70 : decode cX5_bestLamp 70 = .ok (.invokestatic 221, 3) := by decide +kernel
theorem dX5_bestLamp_73 : decode cX5_bestLamp 73 = .ok (.istore 7, 2) := by decide +kernel
theorem dX5_bestLamp_75 : decode cX5_bestLamp 75 = .ok (.iload 7, 2) := by decide +kernel
theorem dX5_bestLamp_77 : decode cX5_bestLamp 77 = .ok (.iload 5, 2) := by decide +kernel
theorem dX5_bestLamp_79 : decode cX5_bestLamp 79 = .ok (.if_icmp .le 11, 3) := by decide +kernel
theorem dX5_bestLamp_82 : decode cX5_bestLamp 82 = .ok (.iload 7, 2) := by decide +kernel
theorem dX5_bestLamp_84 : decode cX5_bestLamp 84 = .ok (.istore 5, 2) := by decide +kernel
theorem dX5_bestLamp_86 : decode cX5_bestLamp 86 = .ok (.iload 6, 2) := by decide +kernel
theorem dX5_bestLamp_88 : decode cX5_bestLamp 88 = .ok (.istore 4, 2) := by decide +kernel
theorem dX5_bestLamp_90 : decode cX5_bestLamp 90 = .ok (.iinc 6 1, 3) := by decide +kernel
theorem dX5_bestLamp_93 : decode cX5_bestLamp 93 = .ok (.goto (-53), 3) := by decide +kernel
theorem dX5_bestLamp_96 : decode cX5_bestLamp 96 = .ok (.iload_n 3, 1) := by decide +kernel
theorem dX5_bestLamp_97 : decode cX5_bestLamp 97 = .ok (.ifCond .ne 8, 3) := by decide +kernel
theorem dX5_bestLamp_100 : decode cX5_bestLamp 100 = .ok (.iload 4, 2) := by decide +kernel
theorem dX5_bestLamp_102 : decode cX5_bestLamp 102 = .ok (.goto 5, 3) := by decide +kernel
theorem dX5_bestLamp_105 : decode cX5_bestLamp 105 = .ok (.iload 5, 2) := by decide +kernel
theorem dX5_bestLamp_107 : decode cX5_bestLamp 107 = .ok (.ireturn, 1) := by decide +kernel
set_option maxRecDepth 20000 in
theorem ggX5_who_X5_isSetOfDots : GoodIn wsX5_who wsX5_isSetOfDots := goodIn_r _ [6, 7] (by decide +kernel) (by decide +kernel)
set_option maxRecDepth 20000 in
theorem gX5_who_X5_isSetOfDots : GoodIn wsX5_who (va_wsS RX5 218 yX5_isSetOfDots wsX5_isSetOfDots) := goodIn_app (goodIn_of _ (by decide +kernel)) ggX5_who_X5_isSetOfDots
set_option maxRecDepth 20000 in
theorem ggX5_who_X5_shifted : GoodIn wsX5_who wsX5_shifted := goodIn_r _ [10] (by decide +kernel) (by decide +kernel)
set_option maxRecDepth 20000 in
theorem gX5_who_X5_shifted : GoodIn wsX5_who (va_wsS RX5 227 yX5_shifted wsX5_shifted) := goodIn_app (goodIn_of _ (by decide +kernel)) ggX5_who_X5_shifted
theorem dX5_who_0 : decode cX5_who 0 = .ok (.iload_n 1, 1) := by decide +kernel
theorem dX5_who_1 : decode cX5_who 1 = .ok (.invokestatic 218, 3) := by decide +kernel
theorem dX5_who_4 : decode cX5_who 4 = .ok (.ifCond .eq 12, 3) := by decide +kernel
theorem dX5_who_7 : decode cX5_who 7 = .ok (.iload_n 2, 1) := by decide +kernel
theorem dX5_who_8 : decode cX5_who 8 = .ok (.ifCond .lt 8, 3) := by decide +kernel
theorem dX5_who_11 : decode cX5_who 11 = .ok (.iload_n 2, 1) := by decide +kernel
theorem dX5_who_12 : decode cX5_who 12 = .ok (.iconst 2, 1) := by decide +kernel
theorem dX5_who_13 : decode cX5_who 13 = .ok (.if_icmp .le 6, 3) := by decide +kernel
theorem dX5_who_16 : decode cX5_who 16 = .ok (.ldc 59, 2) := by decide +kernel
theorem dX5_who_18 : decode cX5_who 18 = .ok (.ireturn, 1) := by decide +kernel
theorem dX5_who_19 : decode cX5_who 19 = .ok (.iconst 0, 1) := by decide +kernel
theorem dX5_who_20 : decode cX5_who 20 = .ok (.istore_n 3, 1) := by decide +kernel
theorem dX5_who_21 : decode cX5_who 21 = .ok (.iconst 0, 1) := by decide +kernel
theorem dX5_who_22 : decode cX5_who 22 = .ok (.istore 4, 2) := by decide +kernel
theorem dX5_who_24 : decode cX5_who 24 = .ok (.iconst (-1), 1) := by decide +kernel
theorem dX5_who_25 : decode cX5_who 25 = .ok (.istore 5, 2) := by decide +kernel
theorem dX5_who_27 : decode cX5_who 27 = .ok (.iconst 0, 1) := by decide +kernel
theorem dX5_who_28 : decode cX5_who 28 = .ok (.istore 6, 2) := by decide +kernel
theorem dX5_who_30 : decode cX5_who 30 = .ok (.iload 6, 2) := by decide +kernel
theorem dX5_who_32 : decode cX5_who 32 = .ok (.aload_n 0, 1) := by decide +kernel
theorem dX5_who_33 : decode cX5_who 33 = .ok (.getfield 19, 3) := by decide +kernel
theorem dX5_who_36 : decode cX5_who 36 = .ok (.getfield 91, 3) := by decide +kernel
theorem dX5_who_39 : decode cX5_who 39 = .ok (.if_icmp .ge 74, 3) := by decide +kernel
theorem dX5_who_42 : decode cX5_who 42 = .ok (.bipush (-3), 2) := by decide +kernel
theorem dX5_who_44 : decode cX5_who 44 = .ok (.istore 7, 2) := by decide +kernel
theorem dX5_who_46 : decode cX5_who 46 = .ok (.iload 7, 2) := by decide +kernel
theorem dX5_who_48 : decode cX5_who 48 = .ok (.bipush 8, 2) := by decide +kernel
theorem dX5_who_50 : decode cX5_who 50 = .ok (.if_icmp .gt 57, 3) := by decide +kernel
theorem dX5_who_53 : decode cX5_who 53 = .ok (.aload_n 0, 1) := by decide +kernel
theorem dX5_who_54 : decode cX5_who 54 = .ok (.getfield 19, 3) := by decide +kernel
theorem dX5_who_57 : decode cX5_who 57 = .ok (.getfield 146, 3) := by decide +kernel
theorem dX5_who_60 : decode cX5_who 60 = .ok (.iload 6, 2) := by decide +kernel
theorem dX5_who_62 : decode cX5_who 62 = .ok (.iaload, 1) := by decide +kernel
theorem dX5_who_63 : decode cX5_who 63 = .ok (.iload 7, 2) := by decide +kernel
theorem dX5_who_65 : decode cX5_who 65 = .ok (.invokestatic 227, 3) := by decide +kernel
theorem dX5_who_68 : decode cX5_who 68 = .ok (.iload_n 1, 1) := by decide +kernel
theorem dX5_who_69 : decode cX5_who 69 = .ok (.if_icmp .ne 32, 3) := by decide +kernel
theorem dX5_who_72 : decode cX5_who 72 = .ok (.iload_n 3, 1) := by decide +kernel
theorem dX5_who_73 : decode cX5_who 73 = .ok (.ifCond .ne 16, 3) := by decide +kernel
theorem dX5_who_76 : decode cX5_who 76 = .ok (.bipush 100, 2) := by decide +kernel
theorem dX5_who_78 : decode cX5_who 78 = .ok (.iload 6, 2) := by decide +kernel
theorem dX5_who_80 : decode cX5_who 80 = .ok (.imul, 1) := by decide +kernel
theorem dX5_who_81 : decode cX5_who 81 = .ok (.iload 7, 2) := by decide +kernel
theorem dX5_who_83 : decode cX5_who 83 = .ok (.iadd, 1) := by decide +kernel
theorem dX5_who_84 : decode cX5_who 84 = .ok (.bipush (-3), 2) := by decide +kernel
theorem dX5_who_86 : decode cX5_who 86 = .ok (.isub, 1) := by decide +kernel
theorem dX5_who_87 : decode cX5_who 87 = .ok (.istore 5, 2) := by decide +kernel
theorem dX5_who_89 : decode cX5_who 89 = .ok (.iinc 3 1, 3) := by decide +kernel
theorem dX5_who_92 : decode cX5_who 92 = .ok (.iload 4, 2) := by decide +kernel
theorem dX5_who_94 : decode cX5_who 94 = .ok (.iconst 1, 1) := by decide +kernel
theorem dX5_who_95 : decode cX5_who 95 = .ok (.iload 6, 2) := by decide +kernel
theorem dX5_who_97 : decode cX5_who 97 = .ok (.ishl, 1) := by decide +kernel
theorem dX5_who_98 : decode cX5_who 98 = .ok (.ior, 1) := by decide +kernel
theorem dX5_who_99 : decode cX5_who 99 = .ok (.istore 4, 2) := by decide +kernel
theorem dX5_who_101 : decode cX5_who 101 = .ok (.iinc 7 1, 3) := by decide +kernel
theorem dX5_who_104 : decode cX5_who 104 = .ok (.goto (-58), 3) := by decide +kernel
theorem dX5_who_107 : decode cX5_who 107 = .ok (.iinc 6 1, 3) := by decide +kernel
theorem dX5_who_110 : decode cX5_who 110 = .ok (.goto (-80), 3) := by decide +kernel
theorem dX5_who_113 : decode cX5_who 113 = .ok (.iload_n 2, 1) := by decide +kernel
theorem dX5_who_114 : decode cX5_who 114 = .ok (.ifCond .ne 7, 3) := by decide +kernel
theorem dX5_who_117 : decode cX5_who 117 = .ok (.iload_n 3, 1) := by decide +kernel
theorem dX5_who_118 : decode cX5_who 118 = .ok (.goto 15, 3) := by decide +kernel
theorem dX5_who_121 : decode cX5_who 121 = .ok (.iload_n 2, 1) := by decide +kernel
theorem dX5_who_122 : decode cX5_who 122 = .ok (.iconst 1, 1) := by decide +kernel
theorem dX5_who_123 : decode cX5_who 123 = .ok (.if_icmp .ne 8, 3) := by decide +kernel
theorem dX5_who_126 : decode cX5_who 126 = .ok (.iload 4, 2) := by decide +kernel
theorem dX5_who_128 : decode cX5_who 128 = .ok (.goto 5, 3) := by decide +kernel
theorem dX5_who_131 : decode cX5_who 131 = .ok (.iload 5, 2) := by decide +kernel
theorem dX5_who_133 : decode cX5_who 133 = .ok (.ireturn, 1) := by decide +kernel
set_option maxRecDepth 20000 in
theorem ggX5_parted_X5_isSetOfDots : GoodIn wsX5_parted wsX5_isSetOfDots := goodIn_r _ [6, 7] (by decide +kernel) (by decide +kernel)
set_option maxRecDepth 20000 in
theorem gX5_parted_X5_isSetOfDots : GoodIn wsX5_parted (va_wsS RX5 218 yX5_isSetOfDots wsX5_isSetOfDots) := goodIn_app (goodIn_of _ (by decide +kernel)) ggX5_parted_X5_isSetOfDots
set_option maxRecDepth 20000 in
theorem ggX5_parted_X5_shifted : GoodIn wsX5_parted wsX5_shifted := goodIn_r _ [10] (by decide +kernel) (by decide +kernel)
set_option maxRecDepth 20000 in
theorem gX5_parted_X5_shifted : GoodIn wsX5_parted (va_wsS RX5 227 yX5_shifted wsX5_shifted) := goodIn_app (goodIn_of _ (by decide +kernel)) ggX5_parted_X5_shifted
theorem dX5_parted_0 : decode cX5_parted 0 = .ok (.iload_n 1, 1) := by decide +kernel
theorem dX5_parted_1 : decode cX5_parted 1 = .ok (.invokestatic 218, 3) := by decide +kernel
theorem dX5_parted_4 : decode cX5_parted 4 = .ok (.ifCond .eq 12, 3) := by decide +kernel
theorem dX5_parted_7 : decode cX5_parted 7 = .ok (.iload_n 2, 1) := by decide +kernel
theorem dX5_parted_8 : decode cX5_parted 8 = .ok (.ifCond .lt 8, 3) := by decide +kernel
theorem dX5_parted_11 : decode cX5_parted 11 = .ok (.iload_n 2, 1) := by decide +kernel
theorem dX5_parted_12 : decode cX5_parted 12 = .ok (.iconst 1, 1) := by decide +kernel
theorem dX5_parted_13 : decode cX5_parted 13 = .ok (.if_icmp .le 6, 3) := by decide +kernel
theorem dX5_parted_16 : decode cX5_parted 16 = .ok (.ldc 59, 2) := by decide +kernel
theorem dX5_parted_18 : decode cX5_parted 18 = .ok (.ireturn, 1) := by decide +kernel
theorem dX5_parted_19 : decode cX5_parted 19 = .ok (.iconst 0, 1) := by decide +kernel
theorem dX5_parted_20 : decode cX5_parted 20 = .ok (.istore_n 3, 1) := by decide +kernel
theorem dX5_parted_21 : decode cX5_parted 21 = .ok (.iconst (-1), 1) := by decide +kernel
theorem dX5_parted_22 : decode cX5_parted 22 = .ok (.istore 4, 2) := by decide +kernel
theorem dX5_parted_24 : decode cX5_parted 24 = .ok (.iconst 0, 1) := by decide +kernel
theorem dX5_parted_25 : decode cX5_parted 25 = .ok (.istore 5, 2) := by decide +kernel
theorem dX5_parted_27 : decode cX5_parted 27 = .ok (.iload 5, 2) := by decide +kernel
theorem dX5_parted_29 : decode cX5_parted 29 = .ok (.aload_n 0, 1) := by decide +kernel
theorem dX5_parted_30 : decode cX5_parted 30 = .ok (.getfield 19, 3) := by decide +kernel
theorem dX5_parted_33 : decode cX5_parted 33 = .ok (.getfield 91, 3) := by decide +kernel
theorem dX5_parted_36 : decode cX5_parted 36 = .ok (.if_icmp .ge 128, 3) := by decide +kernel
theorem dX5_parted_39 : decode cX5_parted 39 = .ok (.iload 5, 2) := by decide +kernel
theorem dX5_parted_41 : decode cX5_parted 41 = .ok (.iconst 1, 1) := by decide +kernel
theorem dX5_parted_42 : decode cX5_parted 42 = .ok (.iadd, 1) := by decide +kernel
theorem dX5_parted_43 : decode cX5_parted 43 = .ok (.istore 6, 2) := by decide +kernel
theorem dX5_parted_45 : decode cX5_parted 45 = .ok (.iload 6, 2) := by decide +kernel
theorem dX5_parted_47 : decode cX5_parted 47 = .ok (.aload_n 0, 1) := by decide +kernel
theorem dX5_parted_48 : decode cX5_parted 48 = .ok (.getfield 19, 3) := by decide +kernel
theorem dX5_parted_51 : decode cX5_parted 51 = .ok (.getfield 91, 3) := by decide +kernel
theorem dX5_parted_54 : decode cX5_parted 54 = .ok (.if_icmp .ge 104, 3) := by decide +kernel
theorem dX5_parted_57 : decode cX5_parted 57 = .ok (.iconst 0, 1) := by decide +kernel
theorem dX5_parted_58 : decode cX5_parted 58 = .ok (.istore 7, 2) := by decide +kernel
theorem dX5_parted_60 : decode cX5_parted 60 = .ok (.iload 7, 2) := by decide +kernel
theorem dX5_parted_62 : decode cX5_parted 62 = .ok (.bipush 36, 2) := by decide +kernel
theorem dX5_parted_64 : decode cX5_parted 64 = .ok (.if_icmp .ge 88, 3) := by decide +kernel
theorem dX5_parted_67 : decode cX5_parted 67 = .ok (.iload 7, 2) := by decide +kernel
theorem dX5_parted_69 : decode cX5_parted 69 = .ok (.bipush 6, 2) := by decide +kernel
theorem dX5_parted_71 : decode cX5_parted 71 = .ok (.idiv, 1) := by decide +kernel
theorem dX5_parted_72 : decode cX5_parted 72 = .ok (.istore 8, 2) := by decide +kernel
theorem dX5_parted_74 : decode cX5_parted 74 = .ok (.iload 7, 2) := by decide +kernel
theorem dX5_parted_76 : decode cX5_parted 76 = .ok (.bipush 6, 2) := by decide +kernel
theorem dX5_parted_78 : decode cX5_parted 78 = .ok (.irem, 1) := by decide +kernel
theorem dX5_parted_79 : decode cX5_parted 79 = .ok (.istore 9, 2) := by decide +kernel
theorem dX5_parted_81 : decode cX5_parted 81 = .ok (.aload_n 0, 1) := by decide +kernel
theorem dX5_parted_82 : decode cX5_parted 82 = .ok (.getfield 19, 3) := by decide +kernel
theorem dX5_parted_85 : decode cX5_parted 85 = .ok (.getfield 146, 3) := by decide +kernel
theorem dX5_parted_88 : decode cX5_parted 88 = .ok (.iload 5, 2) := by decide +kernel
theorem dX5_parted_90 : decode cX5_parted 90 = .ok (.iaload, 1) := by decide +kernel
theorem dX5_parted_91 : decode cX5_parted 91 = .ok (.iload 8, 2) := by decide +kernel
theorem dX5_parted_93 : decode cX5_parted 93 = .ok (.invokestatic 227, 3) := by decide +kernel
theorem dX5_parted_96 : decode cX5_parted 96 = .ok (.aload_n 0, 1) := by decide +kernel
theorem dX5_parted_97 : decode cX5_parted 97 = .ok (.getfield 19, 3) := by decide +kernel
theorem dX5_parted_100 : decode cX5_parted 100 = .ok (.getfield 146, 3) := by decide +kernel
theorem dX5_parted_103 : decode cX5_parted 103 = .ok (.iload 6, 2) := by decide +kernel
theorem dX5_parted_105 : decode cX5_parted 105 = .ok (.iaload, 1) := by decide +kernel
theorem dX5_parted_106 : decode cX5_parted 106 = .ok (.iload 9, 2) := by decide +kernel
theorem dX5_parted_108 : decode cX5_parted 108 = .ok (.invokestatic 227, 3) := by decide +kernel
theorem dX5_parted_111 : decode cX5_parted 111 = .ok (.ior, 1) := by decide +kernel
theorem dX5_parted_112 : decode cX5_parted 112 = .ok (.iload_n 1, 1) := by decide +kernel
theorem dX5_parted_113 : decode cX5_parted 113 = .ok (.if_icmp .ne 33, 3) := by decide +kernel
theorem dX5_parted_116 : decode cX5_parted 116 = .ok (.iload_n 3, 1) := by decide +kernel
theorem dX5_parted_117 : decode cX5_parted 117 = .ok (.ifCond .ne 26, 3) := by decide +kernel
theorem dX5_parted_120 : decode cX5_parted 120 = .ok (.sipush 1000, 3) := by decide +kernel
theorem dX5_parted_123 : decode cX5_parted 123 = .ok (.iload 5, 2) := by decide +kernel
theorem dX5_parted_125 : decode cX5_parted 125 = .ok (.imul, 1) := by decide +kernel
theorem dX5_parted_126 : decode cX5_parted 126 = .ok (.bipush 100, 2) := by decide +kernel
theorem dX5_parted_128 : decode cX5_parted 128 = .ok (.iload 6, 2) := by decide +kernel
theorem dX5_parted_130 : decode cX5_parted 130 = .ok (.imul, 1) := by decide +kernel
theorem dX5_parted_131 : decode cX5_parted 131 = .ok (.iadd, 1) := by decide +kernel
theorem dX5_parted_132 : decode cX5_parted 132 = .ok (.bipush 10, 2) := by decide +kernel
theorem dX5_parted_134 : decode cX5_parted 134 = .ok (.iload 8, 2) := by decide +kernel
theorem dX5_parted_136 : decode cX5_parted 136 = .ok (.imul, 1) := by decide +kernel
theorem dX5_parted_137 : decode cX5_parted 137 = .ok (.iadd, 1) := by decide +kernel
theorem dX5_parted_138 : decode cX5_parted 138 = .ok (.iload 9, 2) := by decide +kernel
theorem dX5_parted_140 : decode cX5_parted 140 = .ok (.iadd, 1) := by decide +kernel
theorem dX5_parted_141 : decode cX5_parted 141 = .ok (.istore 4, 2) := by decide +kernel
theorem dX5_parted_143 : decode cX5_parted 143 = .ok (.iinc 3 1, 3) := by decide +kernel
theorem dX5_parted_146 : decode cX5_parted 146 = .ok (.iinc 7 1, 3) := by decide +kernel
theorem dX5_parted_149 : decode cX5_parted 149 = .ok (.goto (-89), 3) := by decide +kernel
theorem dX5_parted_152 : decode cX5_parted 152 = .ok (.iinc 6 1, 3) := by decide +kernel
theorem dX5_parted_155 : decode cX5_parted 155 = .ok (.goto (-110), 3) := by decide +kernel
theorem dX5_parted_158 : decode cX5_parted 158 = .ok (.iinc 5 1, 3) := by decide +kernel
theorem dX5_parted_161 : decode cX5_parted 161 = .ok (.goto (-134), 3) := by decide +kernel
theorem dX5_parted_164 : decode cX5_parted 164 = .ok (.iload_n 2, 1) := by decide +kernel
theorem dX5_parted_165 : decode cX5_parted 165 = .ok (.ifCond .ne 7, 3) := by decide +kernel
theorem dX5_parted_168 : decode cX5_parted 168 = .ok (.iload_n 3, 1) := by decide +kernel
theorem dX5_parted_169 : decode cX5_parted 169 = .ok (.goto 5, 3) := by decide +kernel
theorem dX5_parted_172 : decode cX5_parted 172 = .ok (.iload 4, 2) := by decide +kernel
theorem dX5_parted_174 : decode cX5_parted 174 = .ok (.ireturn, 1) := by decide +kernel
set_option maxRecDepth 20000 in
theorem ggX5_places_X5_isWindow : GoodIn wsX5_places wsX5_isWindow := goodIn_r _ [9, 3, 36, 37, 38, 39, 40, 41, 42, 43, 44, 45, 46, 47, 48, 49, 50, 51, 52, 53, 54, 55, 56] (by decide +kernel) (by decide +kernel)
set_option maxRecDepth 20000 in
theorem gX5_places_X5_isWindow : GoodIn wsX5_places (wsV RX5 156 RX5 yX5_isWindow wsX5_isWindow) := goodIn_app (goodIn_of _ (by decide +kernel)) ggX5_places_X5_isWindow
set_option maxRecDepth 20000 in
theorem ggX5_places_X3_begin : GoodIn wsX5_places wsX3_begin := goodIn_r _ [13, 14, 15, 16, 17, 18, 49, 50, 51, 52, 53, 54, 55, 56, 57, 58, 59, 60, 61, 62] (by decide +kernel) (by decide +kernel)
set_option maxRecDepth 20000 in
theorem gX5_places_X3_begin_n230 : GoodIn wsX5_places (wsX3_begin) := ggX5_places_X3_begin
set_option maxRecDepth 20000 in
theorem ggX5_places_X5_drawnBy : GoodIn wsX5_places wsX5_drawnBy := goodIn_r _ [22, 4, 23, 3, 24, 25, 8, 26, 27, 28, 29, 36, 37, 38, 39, 40, 41, 42, 43, 44, 45, 46, 47, 48, 63, 64, 65, 66, 67, 68, 69, 70, 71, 72, 73, 74, 75, 76, 49, 50, 51, 52, 53, 54, 55, 56] (by decide +kernel) (by decide +kernel)
set_option maxRecDepth 20000 in
theorem gX5_places_X5_drawnBy : GoodIn wsX5_places (wsV RX5 224 RX5 yX5_drawnBy wsX5_drawnBy) := goodIn_app (goodIn_of _ (by decide +kernel)) ggX5_places_X5_drawnBy
set_option maxRecDepth 20000 in
theorem ggX5_places_X5_placeFrom : GoodIn wsX5_places wsX5_placeFrom := goodIn_r _ [32, 33, 11, 34, 35, 16, 15, 18, 17, 30, 31, 8, 57, 58, 59, 60, 61, 62] (by decide +kernel) (by decide +kernel)
set_option maxRecDepth 20000 in
theorem gX5_places_X5_placeFrom : GoodIn wsX5_places (va_wsS RX5 234 yX5_placeFrom wsX5_placeFrom) := goodIn_app (goodIn_of _ (by decide +kernel)) ggX5_places_X5_placeFrom
theorem dX5_places_0 : decode cX5_places 0 = .ok (.iload_n 1, 1) := by decide +kernel
theorem dX5_places_1 : decode cX5_places 1 = .ok (.iconst (-1), 1) := by decide +kernel
theorem dX5_places_2 : decode cX5_places 2 = .ok (.if_icmp .eq 14, 3) := by decide +kernel
theorem dX5_places_5 : decode cX5_places 5 = .ok (.aload_n 0, 1) := by decide +kernel
theorem dX5_places_6 : decode cX5_places 6 = .ok (.iload_n 1, 1) := by decide +kernel
theorem dX5_places_7 : decode cX5_places 7 = .ok (.invokevirtual 156, 3) := by decide +kernel
theorem dX5_places_10 : decode cX5_places 10 = .ok (.ifCond .ne 6, 3) := by decide +kernel
theorem dX5_places_13 : decode cX5_places 13 = .ok (.ldc 145, 2) := by decide +kernel
theorem dX5_places_15 : decode cX5_places 15 = .ok (.ireturn, 1) := by decide +kernel
theorem dX5_places_16 : decode cX5_places 16 = .ok (.aload_n 0, 1) := by decide +kernel
theorem dX5_places_17 : decode cX5_places 17 = .ok (.getfield 52, 3) := by decide +kernel
theorem dX5_places_20 : decode cX5_places 20 = .ok (.aload_n 0, 1) := by decide +kernel
theorem dX5_places_21 : decode cX5_places 21 = .ok (.getfield 19, 3) := by decide +kernel
theorem dX5_places_24 : decode cX5_places 24 = .ok (.invokevirtual 230, 3) := by decide +kernel
theorem dX5_places_27 : decode cX5_places 27 = .ok (.iconst 0, 1) := by decide +kernel
theorem dX5_places_28 : decode cX5_places 28 = .ok (.istore_n 2, 1) := by decide +kernel
theorem dX5_places_29 : decode cX5_places 29 = .ok (.iload_n 2, 1) := by decide +kernel
theorem dX5_places_30 : decode cX5_places 30 = .ok (.aload_n 0, 1) := by decide +kernel
theorem dX5_places_31 : decode cX5_places 31 = .ok (.getfield 19, 3) := by decide +kernel
theorem dX5_places_34 : decode cX5_places 34 = .ok (.getfield 100, 3) := by decide +kernel
theorem dX5_places_37 : decode cX5_places 37 = .ok (.if_icmp .ge 64, 3) := by decide +kernel
theorem dX5_places_40 : decode cX5_places 40 = .ok (.iconst 0, 1) := by decide +kernel
theorem dX5_places_41 : decode cX5_places 41 = .ok (.istore_n 3, 1) := by decide +kernel
theorem dX5_places_42 : decode cX5_places 42 = .ok (.iload_n 3, 1) := by decide +kernel
theorem dX5_places_43 : decode cX5_places 43 = .ok (.aload_n 0, 1) := by decide +kernel
theorem dX5_places_44 : decode cX5_places 44 = .ok (.getfield 19, 3) := by decide +kernel
theorem dX5_places_47 : decode cX5_places 47 = .ok (.getfield 91, 3) := by decide +kernel
theorem dX5_places_50 : decode cX5_places 50 = .ok (.if_icmp .ge 45, 3) := by decide +kernel
theorem dX5_places_53 : decode cX5_places 53 = .ok (.aload_n 0, 1) := by decide +kernel
theorem dX5_places_54 : decode cX5_places 54 = .ok (.getfield 52, 3) := by decide +kernel
theorem dX5_places_57 : decode cX5_places 57 = .ok (.getfield 231, 3) := by decide +kernel
theorem dX5_places_60 : decode cX5_places 60 = .ok (.iload_n 2, 1) := by decide +kernel
theorem dX5_places_61 : decode cX5_places 61 = .ok (.bipush 6, 2) := by decide +kernel
theorem dX5_places_63 : decode cX5_places 63 = .ok (.imul, 1) := by decide +kernel
theorem dX5_places_64 : decode cX5_places 64 = .ok (.iload_n 3, 1) := by decide +kernel
theorem dX5_places_65 : decode cX5_places 65 = .ok (.iadd, 1) := by decide +kernel
theorem dX5_places_66 : decode cX5_places 66 = .ok (.aload_n 0, 1) := by decide +kernel
theorem dX5_places_67 : decode cX5_places 67 = .ok (.aload_n 0, 1) := by decide +kernel
theorem dX5_places_68 : decode cX5_places 68 = .ok (.getfield 19, 3) := by decide +kernel
theorem dX5_places_71 : decode cX5_places 71 = .ok (.getfield 146, 3) := by decide +kernel
theorem dX5_places_74 : decode cX5_places 74 = .ok (.iload_n 3, 1) := by decide +kernel
theorem dX5_places_75 : decode cX5_places 75 = .ok (.iaload, 1) := by decide +kernel
theorem dX5_places_76 : decode cX5_places 76 = .ok (.aload_n 0, 1) := by decide +kernel
theorem dX5_places_77 : decode cX5_places 77 = .ok (.getfield 26, 3) := by decide +kernel
theorem dX5_places_80 : decode cX5_places 80 = .ok (.getfield 159, 3) := by decide +kernel
theorem dX5_places_83 : decode cX5_places 83 = .ok (.iload_n 2, 1) := by decide +kernel
theorem dX5_places_84 : decode cX5_places 84 = .ok (.iaload, 1) := by decide +kernel
theorem dX5_places_85 : decode cX5_places 85 = .ok (.invokevirtual 224, 3) := by decide +kernel
theorem dX5_places_88 : decode cX5_places 88 = .ok (.iastore, 1) := by decide +kernel
theorem dX5_places_89 : decode cX5_places 89 = .ok (.iinc 3 1, 3) := by decide +kernel
theorem dX5_places_92 : decode cX5_places 92 = .ok (.goto (-50), 3) := by decide +kernel
theorem dX5_places_95 : decode cX5_places 95 = .ok (.iinc 2 1, 3) := by decide +kernel
theorem dX5_places_98 : decode cX5_places 98 = .ok (.goto (-69), 3) := by decide +kernel
theorem dX5_places_101 : decode cX5_places 101 = .ok (.aload_n 0, 1) := by decide +kernel
theorem dX5_places_102 : decode cX5_places 102 = .ok (.getfield 52, 3) := by decide +kernel
theorem dX5_places_105 : decode cX5_places 105 = .ok (.iconst 0, 1) := by decide +kernel
theorem dX5_places_106 : decode cX5_places 106 = .ok (.iconst 0, 1) := by decide +kernel
theorem dX5_places_107 : decode cX5_places 107 = .ok (.iconst 0, 1) := by decide +kernel
theorem dX5_places_108 : decode cX5_places 108 = .ok (.iconst 0, 1) := by decide +kernel
theorem dX5_places_109 : decode cX5_places 109 = .ok (.invokestatic 234, 3) := by decide +kernel
theorem dX5_places_112 : decode cX5_places 112 = .ok (.iload_n 1, 1) := by decide +kernel
theorem dX5_places_113 : decode cX5_places 113 = .ok (.iconst (-1), 1) := by decide +kernel
theorem dX5_places_114 : decode cX5_places 114 = .ok (.if_icmp .ne 13, 3) := by decide +kernel
theorem dX5_places_117 : decode cX5_places 117 = .ok (.aload_n 0, 1) := by decide +kernel
theorem dX5_places_118 : decode cX5_places 118 = .ok (.getfield 52, 3) := by decide +kernel
theorem dX5_places_121 : decode cX5_places 121 = .ok (.getfield 238, 3) := by decide +kernel
theorem dX5_places_124 : decode cX5_places 124 = .ok (.goto 12, 3) := by decide +kernel
theorem dX5_places_127 : decode cX5_places 127 = .ok (.aload_n 0, 1) := by decide +kernel
theorem dX5_places_128 : decode cX5_places 128 = .ok (.getfield 52, 3) := by decide +kernel
theorem dX5_places_131 : decode cX5_places 131 = .ok (.getfield 241, 3) := by decide +kernel
theorem dX5_places_134 : decode cX5_places 134 = .ok (.iload_n 1, 1) := by decide +kernel
theorem dX5_places_135 : decode cX5_places 135 = .ok (.iaload, 1) := by decide +kernel
theorem dX5_places_136 : decode cX5_places 136 = .ok (.ireturn, 1) := by decide +kernel
set_option maxRecDepth 20000 in
theorem ggX5_apart_X5_isSitter : GoodIn wsX5_apart wsX5_isSitter := goodIn_r _ [8, 2, 16, 17, 18, 19, 20, 21, 22, 23, 24, 25, 26, 27, 28, 29, 30, 31, 32, 33, 34, 35, 36] (by decide +kernel) (by decide +kernel)
set_option maxRecDepth 20000 in
theorem gX5_apart_X5_isSitter : GoodIn wsX5_apart (wsV RX5 141 RX5 yX5_isSitter wsX5_isSitter) := goodIn_app (goodIn_of _ (by decide +kernel)) ggX5_apart_X5_isSitter
set_option maxRecDepth 20000 in
theorem ggX5_apart_J6_bitCount_0f7a4 : GoodIn wsX5_apart wsJ6_bitCount_0f7a4 := goodIn_r _ [12, 13, 14, 15] (by decide +kernel) (by decide +kernel)
set_option maxRecDepth 20000 in
theorem gX5_apart_J6_bitCount_0f7a4 : GoodIn wsX5_apart (va_wsS RX5 244 yJ6_bitCount_0f7a4 wsJ6_bitCount_0f7a4) := goodIn_app (goodIn_of _ (by decide +kernel)) ggX5_apart_J6_bitCount_0f7a4
theorem dX5_apart_0 : decode cX5_apart 0 = .ok (.aload_n 0, 1) := by decide +kernel
theorem dX5_apart_1 : decode cX5_apart 1 = .ok (.iload_n 1, 1) := by decide +kernel
theorem dX5_apart_2 : decode cX5_apart 2 = .ok (.invokevirtual 141, 3) := by decide +kernel
theorem dX5_apart_5 : decode cX5_apart 5 = .ok (.ifCond .eq 16, 3) := by decide +kernel
theorem dX5_apart_8 : decode cX5_apart 8 = .ok (.aload_n 0, 1) := by decide +kernel
theorem dX5_apart_9 : decode cX5_apart 9 = .ok (.iload_n 2, 1) := by decide +kernel
theorem dX5_apart_10 : decode cX5_apart 10 = .ok (.invokevirtual 141, 3) := by decide +kernel
theorem dX5_apart_13 : decode cX5_apart 13 = .ok (.ifCond .eq 8, 3) := by decide +kernel
theorem dX5_apart_16 : decode cX5_apart 16 = .ok (.iload_n 1, 1) := by decide +kernel
theorem dX5_apart_17 : decode cX5_apart 17 = .ok (.iload_n 2, 1) := by decide +kernel
theorem dX5_apart_18 : decode cX5_apart 18 = .ok (.if_icmp .ne 6, 3) := by decide +kernel
theorem dX5_apart_21 : decode cX5_apart 21 = .ok (.ldc 145, 2) := by decide +kernel
theorem dX5_apart_23 : decode cX5_apart 23 = .ok (.ireturn, 1) := by decide +kernel
theorem dX5_apart_24 : decode cX5_apart 24 = .ok (.aload_n 0, 1) := by decide +kernel
theorem dX5_apart_25 : decode cX5_apart 25 = .ok (.getfield 19, 3) := by decide +kernel
theorem dX5_apart_28 : decode cX5_apart 28 = .ok (.getfield 146, 3) := by decide +kernel
theorem dX5_apart_31 : decode cX5_apart 31 = .ok (.iload_n 1, 1) := by decide +kernel
theorem dX5_apart_32 : decode cX5_apart 32 = .ok (.iaload, 1) := by decide +kernel
theorem dX5_apart_33 : decode cX5_apart 33 = .ok (.aload_n 0, 1) := by decide +kernel
theorem dX5_apart_34 : decode cX5_apart 34 = .ok (.getfield 19, 3) := by decide +kernel
theorem dX5_apart_37 : decode cX5_apart 37 = .ok (.getfield 146, 3) := by decide +kernel
theorem dX5_apart_40 : decode cX5_apart 40 = .ok (.iload_n 2, 1) := by decide +kernel
theorem dX5_apart_41 : decode cX5_apart 41 = .ok (.iaload, 1) := by decide +kernel
theorem dX5_apart_42 : decode cX5_apart 42 = .ok (.ixor, 1) := by decide +kernel
theorem dX5_apart_43 : decode cX5_apart 43 = .ok (.istore 4, 2) := by decide +kernel
theorem dX5_apart_45 : decode cX5_apart 45 = .ok (.iload_n 3, 1) := by decide +kernel
theorem dX5_apart_46 : decode cX5_apart 46 = .ok (.tableswitch 55 0 2 #[26, 29, 35], 26) := by decide +kernel
theorem dX5_apart_72 : decode cX5_apart 72 = .ok (.iload 4, 2) := by decide +kernel
theorem dX5_apart_74 : decode cX5_apart 74 = .ok (.ireturn, 1) := by decide +kernel
theorem dX5_apart_75 : decode cX5_apart 75 = .ok (.iload 4, 2) := by decide +kernel
theorem dX5_apart_77 : decode cX5_apart 77 = .ok (.invokestatic 244, 3) := by decide +kernel
theorem dX5_apart_80 : decode cX5_apart 80 = .ok (.ireturn, 1) := by decide +kernel
theorem dX5_apart_81 : decode cX5_apart 81 = .ok (.aload_n 0, 1) := by decide +kernel
theorem dX5_apart_82 : decode cX5_apart 82 = .ok (.getfield 19, 3) := by decide +kernel
theorem dX5_apart_85 : decode cX5_apart 85 = .ok (.getfield 146, 3) := by decide +kernel
theorem dX5_apart_88 : decode cX5_apart 88 = .ok (.iload_n 1, 1) := by decide +kernel
theorem dX5_apart_89 : decode cX5_apart 89 = .ok (.iaload, 1) := by decide +kernel
theorem dX5_apart_90 : decode cX5_apart 90 = .ok (.aload_n 0, 1) := by decide +kernel
theorem dX5_apart_91 : decode cX5_apart 91 = .ok (.getfield 19, 3) := by decide +kernel
theorem dX5_apart_94 : decode cX5_apart 94 = .ok (.getfield 146, 3) := by decide +kernel
theorem dX5_apart_97 : decode cX5_apart 97 = .ok (.iload_n 2, 1) := by decide +kernel
theorem dX5_apart_98 : decode cX5_apart 98 = .ok (.iaload, 1) := by decide +kernel
theorem dX5_apart_99 : decode cX5_apart 99 = .ok (.iand, 1) := by decide +kernel
theorem dX5_apart_100 : decode cX5_apart 100 = .ok (.ireturn, 1) := by decide +kernel
theorem dX5_apart_101 : decode cX5_apart 101 = .ok (.ldc 59, 2) := by decide +kernel
theorem dX5_apart_103 : decode cX5_apart 103 = .ok (.ireturn, 1) := by decide +kernel
set_option maxRecDepth 20000 in
theorem ggX5_turned_X5_isSetOfDots : GoodIn wsX5_turned wsX5_isSetOfDots := goodIn_r _ [5, 6] (by decide +kernel) (by decide +kernel)
set_option maxRecDepth 20000 in
theorem gX5_turned_X5_isSetOfDots : GoodIn wsX5_turned (va_wsS RX5 218 yX5_isSetOfDots wsX5_isSetOfDots) := goodIn_app (goodIn_of _ (by decide +kernel)) ggX5_turned_X5_isSetOfDots
set_option maxRecDepth 20000 in
theorem ggX5_turned_X5_holesOf : GoodIn wsX5_turned wsX5_holesOf := goodIn_r _ [9, 10, 11, 4, 12] (by decide +kernel) (by decide +kernel)
set_option maxRecDepth 20000 in
theorem gX5_turned_X5_holesOf : GoodIn wsX5_turned (va_wsS RX5 249 yX5_holesOf wsX5_holesOf) := goodIn_app (goodIn_of _ (by decide +kernel)) ggX5_turned_X5_holesOf
set_option maxRecDepth 20000 in
theorem ggX5_turned_X5_mirrorOf : GoodIn wsX5_turned wsX5_mirrorOf := goodIn_r _ [15] (by decide +kernel) (by decide +kernel)
set_option maxRecDepth 20000 in
theorem gX5_turned_X5_mirrorOf : GoodIn wsX5_turned (va_wsS RX5 252 yX5_mirrorOf wsX5_mirrorOf) := goodIn_app (goodIn_of _ (by decide +kernel)) ggX5_turned_X5_mirrorOf
theorem dX5_turned_0 : decode cX5_turned 0 = .ok (.iload_n 1, 1) := by decide +kernel
theorem dX5_turned_1 : decode cX5_turned 1 = .ok (.invokestatic 218, 3) := by decide +kernel
theorem dX5_turned_4 : decode cX5_turned 4 = .ok (.ifCond .eq 12, 3) := by decide +kernel
theorem dX5_turned_7 : decode cX5_turned 7 = .ok (.iload_n 2, 1) := by decide +kernel
theorem dX5_turned_8 : decode cX5_turned 8 = .ok (.ifCond .lt 8, 3) := by decide +kernel
theorem dX5_turned_11 : decode cX5_turned 11 = .ok (.iload_n 2, 1) := by decide +kernel
theorem dX5_turned_12 : decode cX5_turned 12 = .ok (.iconst 1, 1) := by decide +kernel
theorem dX5_turned_13 : decode cX5_turned 13 = .ok (.if_icmp .le 6, 3) := by decide +kernel
theorem dX5_turned_16 : decode cX5_turned 16 = .ok (.ldc 59, 2) := by decide +kernel
theorem dX5_turned_18 : decode cX5_turned 18 = .ok (.ireturn, 1) := by decide +kernel
theorem dX5_turned_19 : decode cX5_turned 19 = .ok (.iload_n 2, 1) := by decide +kernel
theorem dX5_turned_20 : decode cX5_turned 20 = .ok (.ifCond .ne 10, 3) := by decide +kernel
theorem dX5_turned_23 : decode cX5_turned 23 = .ok (.iload_n 1, 1) := by decide +kernel
theorem dX5_turned_24 : decode cX5_turned 24 = .ok (.invokestatic 249, 3) := by decide +kernel
theorem dX5_turned_27 : decode cX5_turned 27 = .ok (.goto 7, 3) := by decide +kernel
theorem dX5_turned_30 : decode cX5_turned 30 = .ok (.iload_n 1, 1) := by decide +kernel
theorem dX5_turned_31 : decode cX5_turned 31 = .ok (.invokestatic 252, 3) := by decide +kernel
theorem dX5_turned_34 : decode cX5_turned 34 = .ok (.ireturn, 1) := by decide +kernel
set_option maxRecDepth 20000 in
theorem ggX5_votes_X5_isSitter : GoodIn wsX5_votes wsX5_isSitter := goodIn_r _ [8, 9, 34, 35, 36, 37, 38, 39, 40, 41, 42, 43, 44, 45, 46, 47, 48, 49, 50, 51, 52, 53, 54] (by decide +kernel) (by decide +kernel)
set_option maxRecDepth 20000 in
theorem gX5_votes_X5_isSitter : GoodIn wsX5_votes (wsV RX5 141 RX5 yX5_isSitter wsX5_isSitter) := goodIn_app (goodIn_of _ (by decide +kernel)) ggX5_votes_X5_isSitter
set_option maxRecDepth 20000 in
theorem ggX5_votes_X5_isSetOfDots : GoodIn wsX5_votes wsX5_isSetOfDots := goodIn_r _ [12, 13] (by decide +kernel) (by decide +kernel)
set_option maxRecDepth 20000 in
theorem gX5_votes_X5_isSetOfDots : GoodIn wsX5_votes (va_wsS RX5 218 yX5_isSetOfDots wsX5_isSetOfDots) := goodIn_app (goodIn_of _ (by decide +kernel)) ggX5_votes_X5_isSetOfDots
set_option maxRecDepth 20000 in
theorem ggX5_votes_X5_countVotes : GoodIn wsX5_votes wsX5_countVotes := goodIn_r _ [17, 3, 9, 18, 19, 20, 21, 7, 22, 23, 24, 25, 26, 27, 28, 29, 4, 5, 6, 8, 34, 35, 36, 37, 38, 39, 40, 41, 42, 43, 44, 45, 46, 47, 48, 49, 50, 51, 52, 53, 54] (by decide +kernel) (by decide +kernel)
set_option maxRecDepth 20000 in
theorem gX5_votes_X5_countVotes : GoodIn wsX5_votes (wsV RX5 255 RX5 yX5_countVotes wsX5_countVotes) := goodIn_app (goodIn_of _ (by decide +kernel)) ggX5_votes_X5_countVotes
set_option maxRecDepth 20000 in
theorem ggX5_votes_X5_elected : GoodIn wsX5_votes wsX5_elected := goodIn_r _ [33, 9, 3, 34, 35, 36, 37, 38, 39, 40, 41, 42, 43, 44, 45, 46, 47, 48, 49, 50, 51, 52, 53, 54] (by decide +kernel) (by decide +kernel)
set_option maxRecDepth 20000 in
theorem gX5_votes_X5_elected : GoodIn wsX5_votes (wsV RX5 258 RX5 yX5_elected wsX5_elected) := goodIn_app (goodIn_of _ (by decide +kernel)) ggX5_votes_X5_elected
theorem dX5_votes_0 : decode cX5_votes 0 = .ok (.iload_n 2, 1) := by decide +kernel
theorem dX5_votes_1 : decode cX5_votes 1 = .ok (.iconst (-1), 1) := by decide +kernel
theorem dX5_votes_2 : decode cX5_votes 2 = .ok (.if_icmp .eq 14, 3) := by decide +kernel
theorem dX5_votes_5 : decode cX5_votes 5 = .ok (.aload_n 0, 1) := by decide +kernel
theorem dX5_votes_6 : decode cX5_votes 6 = .ok (.iload_n 2, 1) := by decide +kernel
theorem dX5_votes_7 : decode cX5_votes 7 = .ok (.invokevirtual 141, 3) := by decide +kernel
theorem dX5_votes_10 : decode cX5_votes 10 = .ok (.ifCond .ne 6, 3) := by decide +kernel
theorem dX5_votes_13 : decode cX5_votes 13 = .ok (.ldc 145, 2) := by decide +kernel
theorem dX5_votes_15 : decode cX5_votes 15 = .ok (.ireturn, 1) := by decide +kernel
theorem dX5_votes_16 : decode cX5_votes 16 = .ok (.iload_n 1, 1) := by decide +kernel
theorem dX5_votes_17 : decode cX5_votes 17 = .ok (.invokestatic 218, 3) := by decide +kernel
theorem dX5_votes_20 : decode cX5_votes 20 = .ok (.ifCond .ne 6, 3) := by decide +kernel
theorem dX5_votes_23 : decode cX5_votes 23 = .ok (.ldc 59, 2) := by decide +kernel
theorem dX5_votes_25 : decode cX5_votes 25 = .ok (.ireturn, 1) := by decide +kernel
theorem dX5_votes_26 : decode cX5_votes 26 = .ok (.aload_n 0, 1) := by decide +kernel
theorem dX5_votes_27 : decode cX5_votes 27 = .ok (.iload_n 1, 1) := by decide +kernel
theorem dX5_votes_28 : decode cX5_votes 28 = .ok (.invokevirtual 255, 3) := by decide +kernel
theorem dX5_votes_31 : decode cX5_votes 31 = .ok (.iload_n 2, 1) := by decide +kernel
theorem dX5_votes_32 : decode cX5_votes 32 = .ok (.iconst (-1), 1) := by decide +kernel
theorem dX5_votes_33 : decode cX5_votes 33 = .ok (.if_icmp .ne 10, 3) := by decide +kernel
theorem dX5_votes_36 : decode cX5_votes 36 = .ok (.aload_n 0, 1) := by decide +kernel
theorem dX5_votes_37 : decode cX5_votes 37 = .ok (.invokevirtual 258, 3) := by decide +kernel
theorem dX5_votes_40 : decode cX5_votes 40 = .ok (.goto 9, 3) := by decide +kernel
theorem dX5_votes_43 : decode cX5_votes 43 = .ok (.aload_n 0, 1) := by decide +kernel
theorem dX5_votes_44 : decode cX5_votes 44 = .ok (.getfield 56, 3) := by decide +kernel
theorem dX5_votes_47 : decode cX5_votes 47 = .ok (.iload_n 2, 1) := by decide +kernel
theorem dX5_votes_48 : decode cX5_votes 48 = .ok (.iaload, 1) := by decide +kernel
theorem dX5_votes_49 : decode cX5_votes 49 = .ok (.ireturn, 1) := by decide +kernel
theorem dX5_clear_0 : decode cX5_clear 0 = .ok (.iload_n 1, 1) := by decide +kernel
theorem dX5_clear_1 : decode cX5_clear 1 = .ok (.ifCond .lt 19, 3) := by decide +kernel
theorem dX5_clear_4 : decode cX5_clear 4 = .ok (.iload_n 1, 1) := by decide +kernel
theorem dX5_clear_5 : decode cX5_clear 5 = .ok (.bipush 60, 2) := by decide +kernel
theorem dX5_clear_7 : decode cX5_clear 7 = .ok (.if_icmp .gt 13, 3) := by decide +kernel
theorem dX5_clear_10 : decode cX5_clear 10 = .ok (.iload_n 2, 1) := by decide +kernel
theorem dX5_clear_11 : decode cX5_clear 11 = .ok (.ifCond .lt 9, 3) := by decide +kernel
theorem dX5_clear_14 : decode cX5_clear 14 = .ok (.iload_n 2, 1) := by decide +kernel
theorem dX5_clear_15 : decode cX5_clear 15 = .ok (.bipush 100, 2) := by decide +kernel
theorem dX5_clear_17 : decode cX5_clear 17 = .ok (.if_icmp .le 6, 3) := by decide +kernel
theorem dX5_clear_20 : decode cX5_clear 20 = .ok (.ldc 59, 2) := by decide +kernel
theorem dX5_clear_22 : decode cX5_clear 22 = .ok (.ireturn, 1) := by decide +kernel
theorem dX5_clear_23 : decode cX5_clear 23 = .ok (.ldc2_w 261, 3) := by decide +kernel
theorem dX5_clear_26 : decode cX5_clear 26 = .ok (.lstore_n 3, 1) := by decide +kernel
theorem dX5_clear_27 : decode cX5_clear 27 = .ok (.iconst 0, 1) := by decide +kernel
theorem dX5_clear_28 : decode cX5_clear 28 = .ok (.istore 5, 2) := by decide +kernel
theorem dX5_clear_30 : decode cX5_clear 30 = .ok (.iload 5, 2) := by decide +kernel
theorem dX5_clear_32 : decode cX5_clear 32 = .ok (.iload_n 1, 1) := by decide +kernel
theorem dX5_clear_33 : decode cX5_clear 33 = .ok (.if_icmp .ge 18, 3) := by decide +kernel
theorem dX5_clear_36 : decode cX5_clear 36 = .ok (.lload_n 3, 1) := by decide +kernel
theorem dX5_clear_37 : decode cX5_clear 37 = .ok (.iload_n 2, 1) := by decide +kernel
theorem dX5_clear_38 : decode cX5_clear 38 = .ok (.i2l, 1) := by decide +kernel
theorem dX5_clear_39 : decode cX5_clear 39 = .ok (.lmul, 1) := by decide +kernel
theorem dX5_clear_40 : decode cX5_clear 40 = .ok (.ldc2_w 263, 3) := by decide +kernel
theorem dX5_clear_43 : decode cX5_clear 43 = .ok (.ldiv, 1) := by decide +kernel
theorem dX5_clear_44 : decode cX5_clear 44 = .ok (.lstore_n 3, 1) := by decide +kernel
theorem dX5_clear_45 : decode cX5_clear 45 = .ok (.iinc 5 1, 3) := by decide +kernel
theorem dX5_clear_48 : decode cX5_clear 48 = .ok (.goto (-18), 3) := by decide +kernel
theorem dX5_clear_51 : decode cX5_clear 51 = .ok (.lload_n 3, 1) := by decide +kernel
theorem dX5_clear_52 : decode cX5_clear 52 = .ok (.l2i, 1) := by decide +kernel
theorem dX5_clear_53 : decode cX5_clear 53 = .ok (.ireturn, 1) := by decide +kernel
set_option maxRecDepth 20000 in
theorem ggX5_tellOf_X5_isDot : GoodIn wsX5_tellOf wsX5_isDot := goodIn_r _ [9] (by decide +kernel) (by decide +kernel)
set_option maxRecDepth 20000 in
theorem gX5_tellOf_X5_isDot : GoodIn wsX5_tellOf (va_wsS RX5 203 yX5_isDot wsX5_isDot) := goodIn_app (goodIn_of _ (by decide +kernel)) ggX5_tellOf_X5_isDot
theorem dX5_tellOf_0 : decode cX5_tellOf 0 = .ok (.iload_n 1, 1) := by decide +kernel
theorem dX5_tellOf_1 : decode cX5_tellOf 1 = .ok (.invokestatic 203, 3) := by decide +kernel
theorem dX5_tellOf_4 : decode cX5_tellOf 4 = .ok (.ifCond .ne 6, 3) := by decide +kernel
theorem dX5_tellOf_7 : decode cX5_tellOf 7 = .ok (.ldc 59, 2) := by decide +kernel
theorem dX5_tellOf_9 : decode cX5_tellOf 9 = .ok (.ireturn, 1) := by decide +kernel
theorem dX5_tellOf_10 : decode cX5_tellOf 10 = .ok (.aload_n 0, 1) := by decide +kernel
theorem dX5_tellOf_11 : decode cX5_tellOf 11 = .ok (.getfield 132, 3) := by decide +kernel
theorem dX5_tellOf_14 : decode cX5_tellOf 14 = .ok (.bipush 6, 2) := by decide +kernel
theorem dX5_tellOf_16 : decode cX5_tellOf 16 = .ok (.if_icmp .lt 6, 3) := by decide +kernel
theorem dX5_tellOf_19 : decode cX5_tellOf 19 = .ok (.ldc 64, 2) := by decide +kernel
theorem dX5_tellOf_21 : decode cX5_tellOf 21 = .ok (.ireturn, 1) := by decide +kernel
theorem dX5_tellOf_22 : decode cX5_tellOf 22 = .ok (.iload_n 2, 1) := by decide +kernel
theorem dX5_tellOf_23 : decode cX5_tellOf 23 = .ok (.ifCond .eq 18, 3) := by decide +kernel
theorem dX5_tellOf_26 : decode cX5_tellOf 26 = .ok (.aload_n 0, 1) := by decide +kernel
theorem dX5_tellOf_27 : decode cX5_tellOf 27 = .ok (.dup, 1) := by decide +kernel
theorem dX5_tellOf_28 : decode cX5_tellOf 28 = .ok (.getfield 265, 3) := by decide +kernel
theorem dX5_tellOf_31 : decode cX5_tellOf 31 = .ok (.iconst 1, 1) := by decide +kernel
theorem dX5_tellOf_32 : decode cX5_tellOf 32 = .ok (.iload_n 1, 1) := by decide +kernel
theorem dX5_tellOf_33 : decode cX5_tellOf 33 = .ok (.ishl, 1) := by decide +kernel
theorem dX5_tellOf_34 : decode cX5_tellOf 34 = .ok (.ior, 1) := by decide +kernel
theorem dX5_tellOf_35 : decode cX5_tellOf 35 = .ok (.putfield 265, 3) := by decide +kernel
theorem dX5_tellOf_38 : decode cX5_tellOf 38 = .ok (.goto 15, 3) := by decide +kernel
theorem dX5_tellOf_41 : decode cX5_tellOf 41 = .ok (.aload_n 0, 1) := by decide +kernel
theorem dX5_tellOf_42 : decode cX5_tellOf 42 = .ok (.dup, 1) := by decide +kernel
theorem dX5_tellOf_43 : decode cX5_tellOf 43 = .ok (.getfield 268, 3) := by decide +kernel
theorem dX5_tellOf_46 : decode cX5_tellOf 46 = .ok (.iconst 1, 1) := by decide +kernel
theorem dX5_tellOf_47 : decode cX5_tellOf 47 = .ok (.iload_n 1, 1) := by decide +kernel
theorem dX5_tellOf_48 : decode cX5_tellOf 48 = .ok (.ishl, 1) := by decide +kernel
theorem dX5_tellOf_49 : decode cX5_tellOf 49 = .ok (.ior, 1) := by decide +kernel
theorem dX5_tellOf_50 : decode cX5_tellOf 50 = .ok (.putfield 268, 3) := by decide +kernel
theorem dX5_tellOf_53 : decode cX5_tellOf 53 = .ok (.aload_n 0, 1) := by decide +kernel
theorem dX5_tellOf_54 : decode cX5_tellOf 54 = .ok (.dup, 1) := by decide +kernel
theorem dX5_tellOf_55 : decode cX5_tellOf 55 = .ok (.getfield 132, 3) := by decide +kernel
theorem dX5_tellOf_58 : decode cX5_tellOf 58 = .ok (.iconst 1, 1) := by decide +kernel
theorem dX5_tellOf_59 : decode cX5_tellOf 59 = .ok (.iadd, 1) := by decide +kernel
theorem dX5_tellOf_60 : decode cX5_tellOf 60 = .ok (.putfield 132, 3) := by decide +kernel
theorem dX5_tellOf_63 : decode cX5_tellOf 63 = .ok (.aload_n 0, 1) := by decide +kernel
theorem dX5_tellOf_64 : decode cX5_tellOf 64 = .ok (.getfield 132, 3) := by decide +kernel
theorem dX5_tellOf_67 : decode cX5_tellOf 67 = .ok (.ireturn, 1) := by decide +kernel
set_option maxRecDepth 20000 in
theorem ggX5_ask_X5_pairsThatFit : GoodIn wsX5_ask wsX5_pairsThatFit := goodIn_r _ [9, 10, 11, 12, 13, 8, 14, 15, 16, 17, 18, 19, 20, 21, 22, 23, 24, 25, 26, 27, 28, 29, 30, 31, 32, 33, 34, 35, 36, 37, 38, 39, 40] (by decide +kernel) (by decide +kernel)
set_option maxRecDepth 20000 in
theorem gX5_ask_X5_pairsThatFit : GoodIn wsX5_ask (wsV RX5 271 RX5 yX5_pairsThatFit wsX5_pairsThatFit) := goodIn_app (goodIn_of _ (by decide +kernel)) ggX5_ask_X5_pairsThatFit
theorem dX5_ask_0 : decode cX5_ask 0 = .ok (.aload_n 0, 1) := by decide +kernel
theorem dX5_ask_1 : decode cX5_ask 1 = .ok (.iconst 0, 1) := by decide +kernel
theorem dX5_ask_2 : decode cX5_ask 2 = .ok (.invokevirtual 271, 3) := by decide +kernel
theorem dX5_ask_5 : decode cX5_ask 5 = .ok (.istore_n 1, 1) := by decide +kernel
theorem dX5_ask_6 : decode cX5_ask 6 = .ok (.iconst (-1), 1) := by decide +kernel
theorem dX5_ask_7 : decode cX5_ask 7 = .ok (.istore_n 2, 1) := by decide +kernel
theorem dX5_ask_8 : decode cX5_ask 8 = .ok (.iload_n 1, 1) := by decide +kernel
theorem dX5_ask_9 : decode cX5_ask 9 = .ok (.istore_n 3, 1) := by decide +kernel
theorem dX5_ask_10 : decode cX5_ask 10 = .ok (.iconst 0, 1) := by decide +kernel
theorem dX5_ask_11 : decode cX5_ask 11 = .ok (.istore 4, 2) := by decide +kernel
theorem dX5_ask_13 : decode cX5_ask 13 = .ok (.iload 4, 2) := by decide +kernel
theorem dX5_ask_15 : decode cX5_ask 15 = .ok (.bipush 30, 2) := by decide +kernel
theorem dX5_ask_17 : decode cX5_ask 17 = .ok (.if_icmp .ge 42, 3) := by decide +kernel
theorem dX5_ask_20 : decode cX5_ask 20 = .ok (.aload_n 0, 1) := by decide +kernel
theorem dX5_ask_21 : decode cX5_ask 21 = .ok (.iconst 1, 1) := by decide +kernel
theorem dX5_ask_22 : decode cX5_ask 22 = .ok (.iload 4, 2) := by decide +kernel
theorem dX5_ask_24 : decode cX5_ask 24 = .ok (.ishl, 1) := by decide +kernel
theorem dX5_ask_25 : decode cX5_ask 25 = .ok (.invokevirtual 271, 3) := by decide +kernel
theorem dX5_ask_28 : decode cX5_ask 28 = .ok (.istore 5, 2) := by decide +kernel
theorem dX5_ask_30 : decode cX5_ask 30 = .ok (.iload 5, 2) := by decide +kernel
theorem dX5_ask_32 : decode cX5_ask 32 = .ok (.iload_n 1, 1) := by decide +kernel
theorem dX5_ask_33 : decode cX5_ask 33 = .ok (.iload 5, 2) := by decide +kernel
theorem dX5_ask_35 : decode cX5_ask 35 = .ok (.isub, 1) := by decide +kernel
theorem dX5_ask_36 : decode cX5_ask 36 = .ok (.invokestatic 274, 3) := by decide +kernel
theorem dX5_ask_39 : decode cX5_ask 39 = .ok (.istore 6, 2) := by decide +kernel
theorem dX5_ask_41 : decode cX5_ask 41 = .ok (.iload 6, 2) := by decide +kernel
theorem dX5_ask_43 : decode cX5_ask 43 = .ok (.iload_n 3, 1) := by decide +kernel
theorem dX5_ask_44 : decode cX5_ask 44 = .ok (.if_icmp .ge 9, 3) := by decide +kernel
theorem dX5_ask_47 : decode cX5_ask 47 = .ok (.iload 6, 2) := by decide +kernel
theorem dX5_ask_49 : decode cX5_ask 49 = .ok (.istore_n 3, 1) := by decide +kernel
theorem dX5_ask_50 : decode cX5_ask 50 = .ok (.iload 4, 2) := by decide +kernel
theorem dX5_ask_52 : decode cX5_ask 52 = .ok (.istore_n 2, 1) := by decide +kernel
theorem dX5_ask_53 : decode cX5_ask 53 = .ok (.iinc 4 1, 3) := by decide +kernel
theorem dX5_ask_56 : decode cX5_ask 56 = .ok (.goto (-43), 3) := by decide +kernel
theorem dX5_ask_59 : decode cX5_ask 59 = .ok (.iload_n 2, 1) := by decide +kernel
theorem dX5_ask_60 : decode cX5_ask 60 = .ok (.ireturn, 1) := by decide +kernel
set_option maxRecDepth 20000 in
theorem ggX5_tear_X5_forgetToldOf : GoodIn wsX5_tear wsX5_forgetToldOf := goodIn_r _ [6, 1, 7, 8, 9, 10, 11, 12, 13, 14, 15, 16, 17, 18, 19, 20, 21] (by decide +kernel) (by decide +kernel)
set_option maxRecDepth 20000 in
theorem gX5_tear_X5_forgetToldOf : GoodIn wsX5_tear (wsV RX5 88 RX5 yX5_forgetToldOf wsX5_forgetToldOf) := goodIn_app (goodIn_of _ (by decide +kernel)) ggX5_tear_X5_forgetToldOf
theorem dX5_tear_0 : decode cX5_tear 0 = .ok (.aload_n 0, 1) := by decide +kernel
theorem dX5_tear_1 : decode cX5_tear 1 = .ok (.getfield 132, 3) := by decide +kernel
theorem dX5_tear_4 : decode cX5_tear 4 = .ok (.istore_n 1, 1) := by decide +kernel
theorem dX5_tear_5 : decode cX5_tear 5 = .ok (.aload_n 0, 1) := by decide +kernel
theorem dX5_tear_6 : decode cX5_tear 6 = .ok (.invokevirtual 88, 3) := by decide +kernel
theorem dX5_tear_9 : decode cX5_tear 9 = .ok (.iload_n 1, 1) := by decide +kernel
theorem dX5_tear_10 : decode cX5_tear 10 = .ok (.ireturn, 1) := by decide +kernel
theorem dX5_seed_0 : decode cX5_seed 0 = .ok (.iload_n 1, 1) := by decide +kernel
theorem dX5_seed_1 : decode cX5_seed 1 = .ok (.ifCond .ge 6, 3) := by decide +kernel
theorem dX5_seed_4 : decode cX5_seed 4 = .ok (.ldc 59, 2) := by decide +kernel
theorem dX5_seed_6 : decode cX5_seed 6 = .ok (.ireturn, 1) := by decide +kernel
theorem dX5_seed_7 : decode cX5_seed 7 = .ok (.aload_n 0, 1) := by decide +kernel
theorem dX5_seed_8 : decode cX5_seed 8 = .ok (.getfield 279, 3) := by decide +kernel
theorem dX5_seed_11 : decode cX5_seed 11 = .ok (.istore_n 2, 1) := by decide +kernel
theorem dX5_seed_12 : decode cX5_seed 12 = .ok (.aload_n 0, 1) := by decide +kernel
theorem dX5_seed_13 : decode cX5_seed 13 = .ok (.iload_n 1, 1) := by decide +kernel
theorem dX5_seed_14 : decode cX5_seed 14 = .ok (.putfield 279, 3) := by decide +kernel
theorem dX5_seed_17 : decode cX5_seed 17 = .ok (.iload_n 2, 1) := by decide +kernel
theorem dX5_seed_18 : decode cX5_seed 18 = .ok (.ireturn, 1) := by decide +kernel
set_option maxRecDepth 20000 in
theorem ggX5_keep_X5_isImage : GoodIn wsX5_keep wsX5_isImage := goodIn_r _ [11] (by decide +kernel) (by decide +kernel)
set_option maxRecDepth 20000 in
theorem gX5_keep_X5_isImage : GoodIn wsX5_keep (va_wsS RX5 282 yX5_isImage wsX5_isImage) := goodIn_app (goodIn_of _ (by decide +kernel)) ggX5_keep_X5_isImage
set_option maxRecDepth 20000 in
theorem ggX5_keep_X1_copy : GoodIn wsX5_keep wsX1_copy := goodIn_r _ [14, 15, 16, 17, 18, 19, 20, 21, 22, 23, 24, 25, 26, 27, 28, 29, 30, 31, 32, 52, 53, 54, 55, 56, 57, 58, 59, 60, 61, 62, 63, 64, 65] (by decide +kernel) (by decide +kernel)
set_option maxRecDepth 20000 in
theorem gX5_keep_X1_copy_n285 : GoodIn wsX5_keep (wsX1_copy) := ggX5_keep_X1_copy
set_option maxRecDepth 20000 in
theorem ggX5_keep_X2_forget : GoodIn wsX5_keep wsX2_forget := goodIn_r _ [36, 37, 38, 66, 67, 68] (by decide +kernel) (by decide +kernel)
set_option maxRecDepth 20000 in
theorem gX5_keep_X2_forget_n85 : GoodIn wsX5_keep (wsX2_forget) := ggX5_keep_X2_forget
theorem dX5_keep_0 : decode cX5_keep 0 = .ok (.iload_n 1, 1) := by decide +kernel
theorem dX5_keep_1 : decode cX5_keep 1 = .ok (.invokestatic 282, 3) := by decide +kernel
theorem dX5_keep_4 : decode cX5_keep 4 = .ok (.ifCond .ne 6, 3) := by decide +kernel
theorem dX5_keep_7 : decode cX5_keep 7 = .ok (.ldc 145, 2) := by decide +kernel
theorem dX5_keep_9 : decode cX5_keep 9 = .ok (.ireturn, 1) := by decide +kernel
theorem dX5_keep_10 : decode cX5_keep 10 = .ok (.aload_n 0, 1) := by decide +kernel
theorem dX5_keep_11 : decode cX5_keep 11 = .ok (.getfield 26, 3) := by decide +kernel
theorem dX5_keep_14 : decode cX5_keep 14 = .ok (.aload_n 0, 1) := by decide +kernel
theorem dX5_keep_15 : decode cX5_keep 15 = .ok (.getfield 37, 3) := by decide +kernel
theorem dX5_keep_18 : decode cX5_keep 18 = .ok (.iload_n 1, 1) := by decide +kernel
theorem dX5_keep_19 : decode cX5_keep 19 = .ok (.aaload, 1) := by decide +kernel
theorem dX5_keep_20 : decode cX5_keep 20 = .ok (.invokestatic 285, 3) := by decide +kernel
theorem dX5_keep_23 : decode cX5_keep 23 = .ok (.aload_n 0, 1) := by decide +kernel
theorem dX5_keep_24 : decode cX5_keep 24 = .ok (.getfield 45, 3) := by decide +kernel
theorem dX5_keep_27 : decode cX5_keep 27 = .ok (.iload_n 1, 1) := by decide +kernel
theorem dX5_keep_28 : decode cX5_keep 28 = .ok (.aload_n 0, 1) := by decide +kernel
theorem dX5_keep_29 : decode cX5_keep 29 = .ok (.getfield 279, 3) := by decide +kernel
theorem dX5_keep_32 : decode cX5_keep 32 = .ok (.iastore, 1) := by decide +kernel
theorem dX5_keep_33 : decode cX5_keep 33 = .ok (.aload_n 0, 1) := by decide +kernel
theorem dX5_keep_34 : decode cX5_keep 34 = .ok (.getfield 41, 3) := by decide +kernel
theorem dX5_keep_37 : decode cX5_keep 37 = .ok (.iload_n 1, 1) := by decide +kernel
theorem dX5_keep_38 : decode cX5_keep 38 = .ok (.iconst 1, 1) := by decide +kernel
theorem dX5_keep_39 : decode cX5_keep 39 = .ok (.bastore, 1) := by decide +kernel
theorem dX5_keep_40 : decode cX5_keep 40 = .ok (.aload_n 0, 1) := by decide +kernel
theorem dX5_keep_41 : decode cX5_keep 41 = .ok (.getfield 33, 3) := by decide +kernel
theorem dX5_keep_44 : decode cX5_keep 44 = .ok (.invokevirtual 85, 3) := by decide +kernel
theorem dX5_keep_47 : decode cX5_keep 47 = .ok (.iconst 1, 1) := by decide +kernel
theorem dX5_keep_48 : decode cX5_keep 48 = .ok (.ireturn, 1) := by decide +kernel
set_option maxRecDepth 20000 in
theorem ggX5_goBack_X5_isImage : GoodIn wsX5_goBack wsX5_isImage := goodIn_r _ [12] (by decide +kernel) (by decide +kernel)
set_option maxRecDepth 20000 in
theorem gX5_goBack_X5_isImage : GoodIn wsX5_goBack (va_wsS RX5 282 yX5_isImage wsX5_isImage) := goodIn_app (goodIn_of _ (by decide +kernel)) ggX5_goBack_X5_isImage
set_option maxRecDepth 20000 in
theorem ggX5_goBack_X1_copy : GoodIn wsX5_goBack wsX1_copy := goodIn_r _ [15, 16, 17, 18, 19, 20, 21, 22, 23, 24, 25, 26, 27, 28, 29, 30, 31, 32, 33, 53, 54, 55, 56, 57, 58, 59, 60, 61, 62, 63, 64, 65, 66] (by decide +kernel) (by decide +kernel)
set_option maxRecDepth 20000 in
theorem gX5_goBack_X1_copy_n285 : GoodIn wsX5_goBack (wsX1_copy) := ggX5_goBack_X1_copy
set_option maxRecDepth 20000 in
theorem ggX5_goBack_X2_forget : GoodIn wsX5_goBack wsX2_forget := goodIn_r _ [37, 38, 39, 67, 68, 69] (by decide +kernel) (by decide +kernel)
set_option maxRecDepth 20000 in
theorem gX5_goBack_X2_forget_n85 : GoodIn wsX5_goBack (wsX2_forget) := ggX5_goBack_X2_forget
theorem dX5_goBack_0 : decode cX5_goBack 0 = .ok (.iload_n 1, 1) := by decide +kernel
theorem dX5_goBack_1 : decode cX5_goBack 1 = .ok (.invokestatic 282, 3) := by decide +kernel
theorem dX5_goBack_4 : decode cX5_goBack 4 = .ok (.ifCond .ne 6, 3) := by decide +kernel
theorem dX5_goBack_7 : decode cX5_goBack 7 = .ok (.ldc 145, 2) := by decide +kernel
theorem dX5_goBack_9 : decode cX5_goBack 9 = .ok (.ireturn, 1) := by decide +kernel
theorem dX5_goBack_10 : decode cX5_goBack 10 = .ok (.aload_n 0, 1) := by decide +kernel
theorem dX5_goBack_11 : decode cX5_goBack 11 = .ok (.getfield 41, 3) := by decide +kernel
theorem dX5_goBack_14 : decode cX5_goBack 14 = .ok (.iload_n 1, 1) := by decide +kernel
theorem dX5_goBack_15 : decode cX5_goBack 15 = .ok (.baload, 1) := by decide +kernel
theorem dX5_goBack_16 : decode cX5_goBack 16 = .ok (.ifCond .ne 6, 3) := by decide +kernel
theorem dX5_goBack_19 : decode cX5_goBack 19 = .ok (.ldc 191, 2) := by decide +kernel
theorem dX5_goBack_21 : decode cX5_goBack 21 = .ok (.ireturn, 1) := by decide +kernel
theorem dX5_goBack_22 : decode cX5_goBack 22 = .ok (.aload_n 0, 1) := by decide +kernel
theorem dX5_goBack_23 : decode cX5_goBack 23 = .ok (.getfield 37, 3) := by decide +kernel
theorem dX5_goBack_26 : decode cX5_goBack 26 = .ok (.iload_n 1, 1) := by decide +kernel
theorem dX5_goBack_27 : decode cX5_goBack 27 = .ok (.aaload, 1) := by decide +kernel
theorem dX5_goBack_28 : decode cX5_goBack 28 = .ok (.aload_n 0, 1) := by decide +kernel
theorem dX5_goBack_29 : decode cX5_goBack 29 = .ok (.getfield 26, 3) := by decide +kernel
theorem dX5_goBack_32 : decode cX5_goBack 32 = .ok (.invokestatic 285, 3) := by decide +kernel
theorem dX5_goBack_35 : decode cX5_goBack 35 = .ok (.aload_n 0, 1) := by decide +kernel
theorem dX5_goBack_36 : decode cX5_goBack 36 = .ok (.aload_n 0, 1) := by decide +kernel
theorem dX5_goBack_37 : decode cX5_goBack 37 = .ok (.getfield 45, 3) := by decide +kernel
theorem dX5_goBack_40 : decode cX5_goBack 40 = .ok (.iload_n 1, 1) := by decide +kernel
theorem dX5_goBack_41 : decode cX5_goBack 41 = .ok (.iaload, 1) := by decide +kernel
theorem dX5_goBack_42 : decode cX5_goBack 42 = .ok (.putfield 279, 3) := by decide +kernel
theorem dX5_goBack_45 : decode cX5_goBack 45 = .ok (.aload_n 0, 1) := by decide +kernel
theorem dX5_goBack_46 : decode cX5_goBack 46 = .ok (.getfield 33, 3) := by decide +kernel
theorem dX5_goBack_49 : decode cX5_goBack 49 = .ok (.invokevirtual 85, 3) := by decide +kernel
theorem dX5_goBack_52 : decode cX5_goBack 52 = .ok (.iconst 1, 1) := by decide +kernel
theorem dX5_goBack_53 : decode cX5_goBack 53 = .ok (.ireturn, 1) := by decide +kernel
theorem dX5_isSitter_0 : decode cX5_isSitter 0 = .ok (.iload_n 1, 1) := by decide +kernel
theorem dX5_isSitter_1 : decode cX5_isSitter 1 = .ok (.ifCond .lt 18, 3) := by decide +kernel
theorem dX5_isSitter_4 : decode cX5_isSitter 4 = .ok (.iload_n 1, 1) := by decide +kernel
theorem dX5_isSitter_5 : decode cX5_isSitter 5 = .ok (.aload_n 0, 1) := by decide +kernel
theorem dX5_isSitter_6 : decode cX5_isSitter 6 = .ok (.getfield 19, 3) := by decide +kernel
theorem dX5_isSitter_9 : decode cX5_isSitter 9 = .ok (.getfield 91, 3) := by decide +kernel
theorem dX5_isSitter_12 : decode cX5_isSitter 12 = .ok (.if_icmp .ge 7, 3) := by decide +kernel
theorem dX5_isSitter_15 : decode cX5_isSitter 15 = .ok (.iconst 1, 1) := by decide +kernel
theorem dX5_isSitter_16 : decode cX5_isSitter 16 = .ok (.goto 4, 3) := by decide +kernel
theorem dX5_isSitter_19 : decode cX5_isSitter 19 = .ok (.iconst 0, 1) := by decide +kernel
theorem dX5_isSitter_20 : decode cX5_isSitter 20 = .ok (.ireturn, 1) := by decide +kernel
theorem dX5_isWindow_0 : decode cX5_isWindow 0 = .ok (.iload_n 1, 1) := by decide +kernel
theorem dX5_isWindow_1 : decode cX5_isWindow 1 = .ok (.ifCond .lt 18, 3) := by decide +kernel
theorem dX5_isWindow_4 : decode cX5_isWindow 4 = .ok (.iload_n 1, 1) := by decide +kernel
theorem dX5_isWindow_5 : decode cX5_isWindow 5 = .ok (.aload_n 0, 1) := by decide +kernel
theorem dX5_isWindow_6 : decode cX5_isWindow 6 = .ok (.getfield 19, 3) := by decide +kernel
theorem dX5_isWindow_9 : decode cX5_isWindow 9 = .ok (.getfield 100, 3) := by decide +kernel
theorem dX5_isWindow_12 : decode cX5_isWindow 12 = .ok (.if_icmp .ge 7, 3) := by decide +kernel
theorem dX5_isWindow_15 : decode cX5_isWindow 15 = .ok (.iconst 1, 1) := by decide +kernel
theorem dX5_isWindow_16 : decode cX5_isWindow 16 = .ok (.goto 4, 3) := by decide +kernel
theorem dX5_isWindow_19 : decode cX5_isWindow 19 = .ok (.iconst 0, 1) := by decide +kernel
theorem dX5_isWindow_20 : decode cX5_isWindow 20 = .ok (.ireturn, 1) := by decide +kernel
theorem dX5_isGlass_0 : decode cX5_isGlass 0 = .ok (.iload_n 0, 1) := by decide +kernel
theorem dX5_isGlass_1 : decode cX5_isGlass 1 = .ok (.ifCond .lt 12, 3) := by decide +kernel
theorem dX5_isGlass_4 : decode cX5_isGlass 4 = .ok (.iload_n 0, 1) := by decide +kernel
theorem dX5_isGlass_5 : decode cX5_isGlass 5 = .ok (.iconst 4, 1) := by decide +kernel
theorem dX5_isGlass_6 : decode cX5_isGlass 6 = .ok (.if_icmp .ge 7, 3) := by decide +kernel
theorem dX5_isGlass_9 : decode cX5_isGlass 9 = .ok (.iconst 1, 1) := by decide +kernel
theorem dX5_isGlass_10 : decode cX5_isGlass 10 = .ok (.goto 4, 3) := by decide +kernel
theorem dX5_isGlass_13 : decode cX5_isGlass 13 = .ok (.iconst 0, 1) := by decide +kernel
theorem dX5_isGlass_14 : decode cX5_isGlass 14 = .ok (.ireturn, 1) := by decide +kernel
theorem dX5_isImage_0 : decode cX5_isImage 0 = .ok (.iload_n 0, 1) := by decide +kernel
theorem dX5_isImage_1 : decode cX5_isImage 1 = .ok (.ifCond .lt 12, 3) := by decide +kernel
theorem dX5_isImage_4 : decode cX5_isImage 4 = .ok (.iload_n 0, 1) := by decide +kernel
theorem dX5_isImage_5 : decode cX5_isImage 5 = .ok (.iconst 2, 1) := by decide +kernel
theorem dX5_isImage_6 : decode cX5_isImage 6 = .ok (.if_icmp .ge 7, 3) := by decide +kernel
theorem dX5_isImage_9 : decode cX5_isImage 9 = .ok (.iconst 1, 1) := by decide +kernel
theorem dX5_isImage_10 : decode cX5_isImage 10 = .ok (.goto 4, 3) := by decide +kernel
theorem dX5_isImage_13 : decode cX5_isImage 13 = .ok (.iconst 0, 1) := by decide +kernel
theorem dX5_isImage_14 : decode cX5_isImage 14 = .ok (.ireturn, 1) := by decide +kernel
theorem dX5_isDot_0 : decode cX5_isDot 0 = .ok (.iload_n 0, 1) := by decide +kernel
theorem dX5_isDot_1 : decode cX5_isDot 1 = .ok (.ifCond .lt 13, 3) := by decide +kernel
theorem dX5_isDot_4 : decode cX5_isDot 4 = .ok (.iload_n 0, 1) := by decide +kernel
theorem dX5_isDot_5 : decode cX5_isDot 5 = .ok (.bipush 30, 2) := by decide +kernel
theorem dX5_isDot_7 : decode cX5_isDot 7 = .ok (.if_icmp .ge 7, 3) := by decide +kernel
theorem dX5_isDot_10 : decode cX5_isDot 10 = .ok (.iconst 1, 1) := by decide +kernel
theorem dX5_isDot_11 : decode cX5_isDot 11 = .ok (.goto 4, 3) := by decide +kernel
theorem dX5_isDot_14 : decode cX5_isDot 14 = .ok (.iconst 0, 1) := by decide +kernel
theorem dX5_isDot_15 : decode cX5_isDot 15 = .ok (.ireturn, 1) := by decide +kernel
theorem dX5_isSetOfDots_0 : decode cX5_isSetOfDots 0 = .ok (.iload_n 0, 1) := by decide +kernel
theorem dX5_isSetOfDots_1 : decode cX5_isSetOfDots 1 = .ok (.ifCond .lt 13, 3) := by decide +kernel
theorem dX5_isSetOfDots_4 : decode cX5_isSetOfDots 4 = .ok (.iload_n 0, 1) := by decide +kernel
theorem dX5_isSetOfDots_5 : decode cX5_isSetOfDots 5 = .ok (.ldc 168, 2) := by decide +kernel
theorem dX5_isSetOfDots_7 : decode cX5_isSetOfDots 7 = .ok (.if_icmp .gt 7, 3) := by decide +kernel
theorem dX5_isSetOfDots_10 : decode cX5_isSetOfDots 10 = .ok (.iconst 1, 1) := by decide +kernel
theorem dX5_isSetOfDots_11 : decode cX5_isSetOfDots 11 = .ok (.goto 4, 3) := by decide +kernel
theorem dX5_isSetOfDots_14 : decode cX5_isSetOfDots 14 = .ok (.iconst 0, 1) := by decide +kernel
theorem dX5_isSetOfDots_15 : decode cX5_isSetOfDots 15 = .ok (.ireturn, 1) := by decide +kernel
theorem dX5_refusalOfDusks_0 : decode cX5_refusalOfDusks 0 = .ok (.iload_n 1, 1) := by decide +kernel
theorem dX5_refusalOfDusks_1 : decode cX5_refusalOfDusks 1 = .ok (.iconst 1, 1) := by decide +kernel
theorem dX5_refusalOfDusks_2 : decode cX5_refusalOfDusks 2 = .ok (.if_icmp .lt 9, 3) := by decide +kernel
theorem dX5_refusalOfDusks_5 : decode cX5_refusalOfDusks 5 = .ok (.iload_n 1, 1) := by decide +kernel
theorem dX5_refusalOfDusks_6 : decode cX5_refusalOfDusks 6 = .ok (.bipush 60, 2) := by decide +kernel
theorem dX5_refusalOfDusks_8 : decode cX5_refusalOfDusks 8 = .ok (.if_icmp .le 6, 3) := by decide +kernel
theorem dX5_refusalOfDusks_11 : decode cX5_refusalOfDusks 11 = .ok (.ldc 59, 2) := by decide +kernel
theorem dX5_refusalOfDusks_13 : decode cX5_refusalOfDusks 13 = .ok (.ireturn, 1) := by decide +kernel
theorem dX5_refusalOfDusks_14 : decode cX5_refusalOfDusks 14 = .ok (.aload_n 0, 1) := by decide +kernel
theorem dX5_refusalOfDusks_15 : decode cX5_refusalOfDusks 15 = .ok (.getfield 19, 3) := by decide +kernel
theorem dX5_refusalOfDusks_18 : decode cX5_refusalOfDusks 18 = .ok (.getfield 200, 3) := by decide +kernel
theorem dX5_refusalOfDusks_21 : decode cX5_refusalOfDusks 21 = .ok (.ifCond .ne 6, 3) := by decide +kernel
theorem dX5_refusalOfDusks_24 : decode cX5_refusalOfDusks 24 = .ok (.ldc 191, 2) := by decide +kernel
theorem dX5_refusalOfDusks_26 : decode cX5_refusalOfDusks 26 = .ok (.ireturn, 1) := by decide +kernel
theorem dX5_refusalOfDusks_27 : decode cX5_refusalOfDusks 27 = .ok (.aload_n 0, 1) := by decide +kernel
theorem dX5_refusalOfDusks_28 : decode cX5_refusalOfDusks 28 = .ok (.getfield 26, 3) := by decide +kernel
theorem dX5_refusalOfDusks_31 : decode cX5_refusalOfDusks 31 = .ok (.getfield 106, 3) := by decide +kernel
theorem dX5_refusalOfDusks_34 : decode cX5_refusalOfDusks 34 = .ok (.sipush 9000, 3) := by decide +kernel
theorem dX5_refusalOfDusks_37 : decode cX5_refusalOfDusks 37 = .ok (.if_icmp .le 8, 3) := by decide +kernel
theorem dX5_refusalOfDusks_40 : decode cX5_refusalOfDusks 40 = .ok (.ldc 64, 2) := by decide +kernel
theorem dX5_refusalOfDusks_42 : decode cX5_refusalOfDusks 42 = .ok (.goto 4, 3) := by decide +kernel
theorem dX5_refusalOfDusks_45 : decode cX5_refusalOfDusks 45 = .ok (.iconst 0, 1) := by decide +kernel
theorem dX5_refusalOfDusks_46 : decode cX5_refusalOfDusks 46 = .ok (.ireturn, 1) := by decide +kernel
theorem dX5_shifted_0 : decode cX5_shifted 0 = .ok (.iconst 0, 1) := by decide +kernel
theorem dX5_shifted_1 : decode cX5_shifted 1 = .ok (.istore_n 2, 1) := by decide +kernel
theorem dX5_shifted_2 : decode cX5_shifted 2 = .ok (.iconst 0, 1) := by decide +kernel
theorem dX5_shifted_3 : decode cX5_shifted 3 = .ok (.istore_n 3, 1) := by decide +kernel
theorem dX5_shifted_4 : decode cX5_shifted 4 = .ok (.iload_n 3, 1) := by decide +kernel
theorem dX5_shifted_5 : decode cX5_shifted 5 = .ok (.iconst 5, 1) := by decide +kernel
theorem dX5_shifted_6 : decode cX5_shifted 6 = .ok (.if_icmp .ge 51, 3) := by decide +kernel
theorem dX5_shifted_9 : decode cX5_shifted 9 = .ok (.iload_n 0, 1) := by decide +kernel
theorem dX5_shifted_10 : decode cX5_shifted 10 = .ok (.bipush 6, 2) := by decide +kernel
theorem dX5_shifted_12 : decode cX5_shifted 12 = .ok (.iload_n 3, 1) := by decide +kernel
theorem dX5_shifted_13 : decode cX5_shifted 13 = .ok (.imul, 1) := by decide +kernel
theorem dX5_shifted_14 : decode cX5_shifted 14 = .ok (.ishr, 1) := by decide +kernel
theorem dX5_shifted_15 : decode cX5_shifted 15 = .ok (.bipush 63, 2) := by decide +kernel
theorem dX5_shifted_17 : decode cX5_shifted 17 = .ok (.iand, 1) := by decide +kernel
theorem dX5_shifted_18 : decode cX5_shifted 18 = .ok (.istore 4, 2) := by decide +kernel
theorem dX5_shifted_20 : decode cX5_shifted 20 = .ok (.iload_n 1, 1) := by decide +kernel
theorem dX5_shifted_21 : decode cX5_shifted 21 = .ok (.ifCond .ge 11, 3) := by decide +kernel
theorem dX5_shifted_24 : decode cX5_shifted 24 = .ok (.iload 4, 2) := by decide +kernel
theorem dX5_shifted_26 : decode cX5_shifted 26 = .ok (.iload_n 1, 1) := by decide +kernel
theorem dX5_shifted_27 : decode cX5_shifted 27 = .ok (.ineg, 1) := by decide +kernel
theorem dX5_shifted_28 : decode cX5_shifted 28 = .ok (.ishr, 1) := by decide +kernel
theorem dX5_shifted_29 : decode cX5_shifted 29 = .ok (.goto 10, 3) := by decide +kernel
theorem dX5_shifted_32 : decode cX5_shifted 32 = .ok (.iload 4, 2) := by decide +kernel
theorem dX5_shifted_34 : decode cX5_shifted 34 = .ok (.iload_n 1, 1) := by decide +kernel
theorem dX5_shifted_35 : decode cX5_shifted 35 = .ok (.ishl, 1) := by decide +kernel
theorem dX5_shifted_36 : decode cX5_shifted 36 = .ok (.bipush 63, 2) := by decide +kernel
theorem dX5_shifted_38 : decode cX5_shifted 38 = .ok (.iand, 1) := by decide +kernel
theorem dX5_shifted_39 : decode cX5_shifted 39 = .ok (.istore 5, 2) := by decide +kernel
theorem dX5_shifted_41 : decode cX5_shifted 41 = .ok (.iload_n 2, 1) := by decide +kernel
theorem dX5_shifted_42 : decode cX5_shifted 42 = .ok (.iload 5, 2) := by decide +kernel
theorem dX5_shifted_44 : decode cX5_shifted 44 = .ok (.bipush 6, 2) := by decide +kernel
theorem dX5_shifted_46 : decode cX5_shifted 46 = .ok (.iload_n 3, 1) := by decide +kernel
theorem dX5_shifted_47 : decode cX5_shifted 47 = .ok (.imul, 1) := by decide +kernel
theorem dX5_shifted_48 : decode cX5_shifted 48 = .ok (.ishl, 1) := by decide +kernel
theorem dX5_shifted_49 : decode cX5_shifted 49 = .ok (.ior, 1) := by decide +kernel
theorem dX5_shifted_50 : decode cX5_shifted 50 = .ok (.istore_n 2, 1) := by decide +kernel
theorem dX5_shifted_51 : decode cX5_shifted 51 = .ok (.iinc 3 1, 3) := by decide +kernel
theorem dX5_shifted_54 : decode cX5_shifted 54 = .ok (.goto (-50), 3) := by decide +kernel
theorem dX5_shifted_57 : decode cX5_shifted 57 = .ok (.iload_n 2, 1) := by decide +kernel
theorem dX5_shifted_58 : decode cX5_shifted 58 = .ok (.ireturn, 1) := by decide +kernel
theorem dX5_lowestOf_0 : decode cX5_lowestOf 0 = .ok (.iconst 0, 1) := by decide +kernel
theorem dX5_lowestOf_1 : decode cX5_lowestOf 1 = .ok (.istore_n 2, 1) := by decide +kernel
theorem dX5_lowestOf_2 : decode cX5_lowestOf 2 = .ok (.iconst 0, 1) := by decide +kernel
theorem dX5_lowestOf_3 : decode cX5_lowestOf 3 = .ok (.istore_n 3, 1) := by decide +kernel
theorem dX5_lowestOf_4 : decode cX5_lowestOf 4 = .ok (.iconst 0, 1) := by decide +kernel
theorem dX5_lowestOf_5 : decode cX5_lowestOf 5 = .ok (.istore 4, 2) := by decide +kernel
theorem dX5_lowestOf_7 : decode cX5_lowestOf 7 = .ok (.iload 4, 2) := by decide +kernel
theorem dX5_lowestOf_9 : decode cX5_lowestOf 9 = .ok (.bipush 30, 2) := by decide +kernel
theorem dX5_lowestOf_11 : decode cX5_lowestOf 11 = .ok (.if_icmp .ge 34, 3) := by decide +kernel
theorem dX5_lowestOf_14 : decode cX5_lowestOf 14 = .ok (.iload_n 3, 1) := by decide +kernel
theorem dX5_lowestOf_15 : decode cX5_lowestOf 15 = .ok (.iload_n 1, 1) := by decide +kernel
theorem dX5_lowestOf_16 : decode cX5_lowestOf 16 = .ok (.if_icmp .ge 29, 3) := by decide +kernel
theorem dX5_lowestOf_19 : decode cX5_lowestOf 19 = .ok (.iload_n 0, 1) := by decide +kernel
theorem dX5_lowestOf_20 : decode cX5_lowestOf 20 = .ok (.iload 4, 2) := by decide +kernel
theorem dX5_lowestOf_22 : decode cX5_lowestOf 22 = .ok (.ishr, 1) := by decide +kernel
theorem dX5_lowestOf_23 : decode cX5_lowestOf 23 = .ok (.iconst 1, 1) := by decide +kernel
theorem dX5_lowestOf_24 : decode cX5_lowestOf 24 = .ok (.iand, 1) := by decide +kernel
theorem dX5_lowestOf_25 : decode cX5_lowestOf 25 = .ok (.iconst 1, 1) := by decide +kernel
theorem dX5_lowestOf_26 : decode cX5_lowestOf 26 = .ok (.if_icmp .ne 13, 3) := by decide +kernel
theorem dX5_lowestOf_29 : decode cX5_lowestOf 29 = .ok (.iload_n 2, 1) := by decide +kernel
theorem dX5_lowestOf_30 : decode cX5_lowestOf 30 = .ok (.iconst 1, 1) := by decide +kernel
theorem dX5_lowestOf_31 : decode cX5_lowestOf 31 = .ok (.iload 4, 2) := by decide +kernel
theorem dX5_lowestOf_33 : decode cX5_lowestOf 33 = .ok (.ishl, 1) := by decide +kernel
theorem dX5_lowestOf_34 : decode cX5_lowestOf 34 = .ok (.ior, 1) := by decide +kernel
theorem dX5_lowestOf_35 : decode cX5_lowestOf 35 = .ok (.istore_n 2, 1) := by decide +kernel
theorem dX5_lowestOf_36 : decode cX5_lowestOf 36 = .ok (.iinc 3 1, 3) := by decide +kernel
theorem dX5_lowestOf_39 : decode cX5_lowestOf 39 = .ok (.iinc 4 1, 3) := by decide +kernel
theorem dX5_lowestOf_42 : decode cX5_lowestOf 42 = .ok (.goto (-35), 3) := by decide +kernel
theorem dX5_lowestOf_45 : decode cX5_lowestOf 45 = .ok (.iload_n 2, 1) := by decide +kernel
theorem dX5_lowestOf_46 : decode cX5_lowestOf 46 = .ok (.ireturn, 1) := by decide +kernel
set_option maxRecDepth 20000 in
theorem ggX5_likeness_J6_bitCount_0f7a4 : GoodIn wsX5_likeness wsJ6_bitCount_0f7a4 := goodIn_r _ [4, 5, 6, 7] (by decide +kernel) (by decide +kernel)
set_option maxRecDepth 20000 in
theorem gX5_likeness_J6_bitCount_0f7a4 : GoodIn wsX5_likeness (va_wsS RX5 244 yJ6_bitCount_0f7a4 wsJ6_bitCount_0f7a4) := goodIn_app (goodIn_of _ (by decide +kernel)) ggX5_likeness_J6_bitCount_0f7a4
theorem dX5_likeness_0 : decode cX5_likeness 0 = .ok (.bipush 30, 2) := by decide +kernel
theorem dX5_likeness_2 : decode cX5_likeness 2 = .ok (.iload_n 0, 1) := by decide +kernel
theorem dX5_likeness_3 : decode cX5_likeness 3 = .ok (.iload_n 1, 1) := by decide +kernel
theorem dX5_likeness_4 : decode cX5_likeness 4 = .ok (.ixor, 1) := by decide +kernel
theorem dX5_likeness_5 : decode cX5_likeness 5 = .ok (.invokestatic 244, 3) := by decide +kernel
theorem dX5_likeness_8 : decode cX5_likeness 8 = .ok (.isub, 1) := by decide +kernel
theorem dX5_likeness_9 : decode cX5_likeness 9 = .ok (.ireturn, 1) := by decide +kernel
set_option maxRecDepth 20000 in
theorem ggX5_drawnBy_X5_shifted : GoodIn wsX5_drawnBy wsX5_shifted := goodIn_r _ [7] (by decide +kernel) (by decide +kernel)
set_option maxRecDepth 20000 in
theorem gX5_drawnBy_X5_shifted : GoodIn wsX5_drawnBy (va_wsS RX5 227 yX5_shifted wsX5_shifted) := goodIn_app (goodIn_of _ (by decide +kernel)) ggX5_drawnBy_X5_shifted
set_option maxRecDepth 20000 in
theorem ggX5_drawnBy_X5_lowestOf : GoodIn wsX5_drawnBy wsX5_lowestOf := goodIn_r _ [10] (by decide +kernel) (by decide +kernel)
set_option maxRecDepth 20000 in
theorem gX5_drawnBy_X5_lowestOf : GoodIn wsX5_drawnBy (va_wsS RX5 290 yX5_lowestOf wsX5_lowestOf) := goodIn_app (goodIn_of _ (by decide +kernel)) ggX5_drawnBy_X5_lowestOf
theorem dX5_drawnBy_0 : decode cX5_drawnBy 0 = .ok (.iload_n 1, 1) := by decide +kernel
theorem dX5_drawnBy_1 : decode cX5_drawnBy 1 = .ok (.iload_n 2, 1) := by decide +kernel
theorem dX5_drawnBy_2 : decode cX5_drawnBy 2 = .ok (.aload_n 0, 1) := by decide +kernel
theorem dX5_drawnBy_3 : decode cX5_drawnBy 3 = .ok (.getfield 26, 3) := by decide +kernel
theorem dX5_drawnBy_6 : decode cX5_drawnBy 6 = .ok (.getfield 109, 3) := by decide +kernel
theorem dX5_drawnBy_9 : decode cX5_drawnBy 9 = .ok (.iadd, 1) := by decide +kernel
theorem dX5_drawnBy_10 : decode cX5_drawnBy 10 = .ok (.invokestatic 227, 3) := by decide +kernel
theorem dX5_drawnBy_13 : decode cX5_drawnBy 13 = .ok (.istore_n 3, 1) := by decide +kernel
theorem dX5_drawnBy_14 : decode cX5_drawnBy 14 = .ok (.iload_n 3, 1) := by decide +kernel
theorem dX5_drawnBy_15 : decode cX5_drawnBy 15 = .ok (.aload_n 0, 1) := by decide +kernel
theorem dX5_drawnBy_16 : decode cX5_drawnBy 16 = .ok (.getfield 26, 3) := by decide +kernel
theorem dX5_drawnBy_19 : decode cX5_drawnBy 19 = .ok (.getfield 112, 3) := by decide +kernel
theorem dX5_drawnBy_22 : decode cX5_drawnBy 22 = .ok (.ldc_w 289, 3) := by decide +kernel
theorem dX5_drawnBy_25 : decode cX5_drawnBy 25 = .ok (.imul, 1) := by decide +kernel
theorem dX5_drawnBy_26 : decode cX5_drawnBy 26 = .ok (.iconst (-1), 1) := by decide +kernel
theorem dX5_drawnBy_27 : decode cX5_drawnBy 27 = .ok (.ixor, 1) := by decide +kernel
theorem dX5_drawnBy_28 : decode cX5_drawnBy 28 = .ok (.iand, 1) := by decide +kernel
theorem dX5_drawnBy_29 : decode cX5_drawnBy 29 = .ok (.aload_n 0, 1) := by decide +kernel
theorem dX5_drawnBy_30 : decode cX5_drawnBy 30 = .ok (.getfield 26, 3) := by decide +kernel
theorem dX5_drawnBy_33 : decode cX5_drawnBy 33 = .ok (.getfield 115, 3) := by decide +kernel
theorem dX5_drawnBy_36 : decode cX5_drawnBy 36 = .ok (.iconst (-1), 1) := by decide +kernel
theorem dX5_drawnBy_37 : decode cX5_drawnBy 37 = .ok (.ixor, 1) := by decide +kernel
theorem dX5_drawnBy_38 : decode cX5_drawnBy 38 = .ok (.iand, 1) := by decide +kernel
theorem dX5_drawnBy_39 : decode cX5_drawnBy 39 = .ok (.istore 4, 2) := by decide +kernel
theorem dX5_drawnBy_41 : decode cX5_drawnBy 41 = .ok (.iload 4, 2) := by decide +kernel
theorem dX5_drawnBy_43 : decode cX5_drawnBy 43 = .ok (.aload_n 0, 1) := by decide +kernel
theorem dX5_drawnBy_44 : decode cX5_drawnBy 44 = .ok (.getfield 19, 3) := by decide +kernel
theorem dX5_drawnBy_47 : decode cX5_drawnBy 47 = .ok (.getfield 97, 3) := by decide +kernel
theorem dX5_drawnBy_50 : decode cX5_drawnBy 50 = .ok (.invokestatic 290, 3) := by decide +kernel
theorem dX5_drawnBy_53 : decode cX5_drawnBy 53 = .ok (.ireturn, 1) := by decide +kernel
set_option maxRecDepth 20000 in
theorem ggX5_drawnAt_X5_isSitter : GoodIn wsX5_drawnAt wsX5_isSitter := goodIn_r _ [7, 2, 19, 20, 21, 22, 23, 24, 25, 26, 27, 28, 29, 30, 31, 46, 47, 48, 49, 50, 51, 52, 53] (by decide +kernel) (by decide +kernel)
set_option maxRecDepth 20000 in
theorem gX5_drawnAt_X5_isSitter : GoodIn wsX5_drawnAt (wsV RX5 141 RX5 yX5_isSitter wsX5_isSitter) := goodIn_app (goodIn_of _ (by decide +kernel)) ggX5_drawnAt_X5_isSitter
set_option maxRecDepth 20000 in
theorem ggX5_drawnAt_X5_drawnBy : GoodIn wsX5_drawnAt wsX5_drawnBy := goodIn_r _ [11, 1, 12, 2, 13, 14, 6, 15, 16, 17, 18, 19, 20, 21, 22, 23, 24, 25, 26, 27, 28, 29, 30, 31, 32, 33, 34, 35, 36, 37, 38, 39, 40, 41, 42, 43, 44, 45, 46, 47, 48, 49, 50, 51, 52, 53] (by decide +kernel) (by decide +kernel)
set_option maxRecDepth 20000 in
theorem gX5_drawnAt_X5_drawnBy : GoodIn wsX5_drawnAt (wsV RX5 224 RX5 yX5_drawnBy wsX5_drawnBy) := goodIn_app (goodIn_of _ (by decide +kernel)) ggX5_drawnAt_X5_drawnBy
theorem dX5_drawnAt_0 : decode cX5_drawnAt 0 = .ok (.aload_n 0, 1) := by decide +kernel
theorem dX5_drawnAt_1 : decode cX5_drawnAt 1 = .ok (.getfield 26, 3) := by decide +kernel
theorem dX5_drawnAt_4 : decode cX5_drawnAt 4 = .ok (.getfield 162, 3) := by decide +kernel
theorem dX5_drawnAt_7 : decode cX5_drawnAt 7 = .ok (.iload_n 1, 1) := by decide +kernel
theorem dX5_drawnAt_8 : decode cX5_drawnAt 8 = .ok (.iaload, 1) := by decide +kernel
theorem dX5_drawnAt_9 : decode cX5_drawnAt 9 = .ok (.istore_n 2, 1) := by decide +kernel
theorem dX5_drawnAt_10 : decode cX5_drawnAt 10 = .ok (.aload_n 0, 1) := by decide +kernel
theorem dX5_drawnAt_11 : decode cX5_drawnAt 11 = .ok (.iload_n 2, 1) := by decide +kernel
theorem dX5_drawnAt_12 : decode cX5_drawnAt 12 = .ok (.invokevirtual 141, 3) := by decide +kernel
theorem dX5_drawnAt_15 : decode cX5_drawnAt 15 = .ok (.ifCond .eq 28, 3) := by decide +kernel
theorem dX5_drawnAt_18 : decode cX5_drawnAt 18 = .ok (.aload_n 0, 1) := by decide +kernel
theorem dX5_drawnAt_19 : decode cX5_drawnAt 19 = .ok (.getfield 26, 3) := by decide +kernel
theorem dX5_drawnAt_22 : decode cX5_drawnAt 22 = .ok (.getfield 118, 3) := by decide +kernel
theorem dX5_drawnAt_25 : decode cX5_drawnAt 25 = .ok (.ifCond .ne 18, 3) := by decide +kernel
theorem dX5_drawnAt_28 : decode cX5_drawnAt 28 = .ok (.aload_n 0, 1) := by decide +kernel
theorem dX5_drawnAt_29 : decode cX5_drawnAt 29 = .ok (.getfield 26, 3) := by decide +kernel
theorem dX5_drawnAt_32 : decode cX5_drawnAt 32 = .ok (.getfield 122, 3) := by decide +kernel
theorem dX5_drawnAt_35 : decode cX5_drawnAt 35 = .ok (.iload_n 1, 1) := by decide +kernel
theorem dX5_drawnAt_36 : decode cX5_drawnAt 36 = .ok (.ishr, 1) := by decide +kernel
theorem dX5_drawnAt_37 : decode cX5_drawnAt 37 = .ok (.iconst 1, 1) := by decide +kernel
theorem dX5_drawnAt_38 : decode cX5_drawnAt 38 = .ok (.iand, 1) := by decide +kernel
theorem dX5_drawnAt_39 : decode cX5_drawnAt 39 = .ok (.iconst 1, 1) := by decide +kernel
theorem dX5_drawnAt_40 : decode cX5_drawnAt 40 = .ok (.if_icmp .ne 5, 3) := by decide +kernel
theorem dX5_drawnAt_43 : decode cX5_drawnAt 43 = .ok (.iconst 0, 1) := by decide +kernel
theorem dX5_drawnAt_44 : decode cX5_drawnAt 44 = .ok (.ireturn, 1) := by decide +kernel
theorem dX5_drawnAt_45 : decode cX5_drawnAt 45 = .ok (.aload_n 0, 1) := by decide +kernel
theorem dX5_drawnAt_46 : decode cX5_drawnAt 46 = .ok (.aload_n 0, 1) := by decide +kernel
theorem dX5_drawnAt_47 : decode cX5_drawnAt 47 = .ok (.getfield 19, 3) := by decide +kernel
theorem dX5_drawnAt_50 : decode cX5_drawnAt 50 = .ok (.getfield 146, 3) := by decide +kernel
theorem dX5_drawnAt_53 : decode cX5_drawnAt 53 = .ok (.iload_n 2, 1) := by decide +kernel
theorem dX5_drawnAt_54 : decode cX5_drawnAt 54 = .ok (.iaload, 1) := by decide +kernel
theorem dX5_drawnAt_55 : decode cX5_drawnAt 55 = .ok (.aload_n 0, 1) := by decide +kernel
theorem dX5_drawnAt_56 : decode cX5_drawnAt 56 = .ok (.getfield 26, 3) := by decide +kernel
theorem dX5_drawnAt_59 : decode cX5_drawnAt 59 = .ok (.getfield 159, 3) := by decide +kernel
theorem dX5_drawnAt_62 : decode cX5_drawnAt 62 = .ok (.iload_n 1, 1) := by decide +kernel
theorem dX5_drawnAt_63 : decode cX5_drawnAt 63 = .ok (.iaload, 1) := by decide +kernel
theorem dX5_drawnAt_64 : decode cX5_drawnAt 64 = .ok (.invokevirtual 224, 3) := by decide +kernel
theorem dX5_drawnAt_67 : decode cX5_drawnAt 67 = .ok (.ireturn, 1) := by decide +kernel
set_option maxRecDepth 20000 in
theorem ggX5_cloudNow_X5_drawnAt : GoodIn wsX5_cloudNow wsX5_drawnAt := goodIn_r _ [6, 7, 1, 8, 9, 10, 5, 11, 12, 13, 14, 15, 16, 17, 18, 19, 20, 21, 22, 23, 24, 25, 26, 27, 28, 29, 30, 31, 32, 33, 34, 35, 44, 45, 46, 47, 48, 49, 50, 51, 52, 53, 54, 55, 56, 57, 36, 37, 38, 39, 40, 41, 42, 43] (by decide +kernel) (by decide +kernel)
set_option maxRecDepth 20000 in
theorem gX5_cloudNow_X5_drawnAt : GoodIn wsX5_cloudNow (wsV RX5 165 RX5 yX5_drawnAt wsX5_drawnAt) := goodIn_app (goodIn_of _ (by decide +kernel)) ggX5_cloudNow_X5_drawnAt
theorem dX5_cloudNow_0 : decode cX5_cloudNow 0 = .ok (.iconst 0, 1) := by decide +kernel
theorem dX5_cloudNow_1 : decode cX5_cloudNow 1 = .ok (.istore_n 1, 1) := by decide +kernel
theorem dX5_cloudNow_2 : decode cX5_cloudNow 2 = .ok (.iconst 0, 1) := by decide +kernel
theorem dX5_cloudNow_3 : decode cX5_cloudNow 3 = .ok (.istore_n 2, 1) := by decide +kernel
theorem dX5_cloudNow_4 : decode cX5_cloudNow 4 = .ok (.iload_n 2, 1) := by decide +kernel
theorem dX5_cloudNow_5 : decode cX5_cloudNow 5 = .ok (.aload_n 0, 1) := by decide +kernel
theorem dX5_cloudNow_6 : decode cX5_cloudNow 6 = .ok (.getfield 19, 3) := by decide +kernel
theorem dX5_cloudNow_9 : decode cX5_cloudNow 9 = .ok (.getfield 100, 3) := by decide +kernel
theorem dX5_cloudNow_12 : decode cX5_cloudNow 12 = .ok (.if_icmp .ge 17, 3) := by decide +kernel
theorem dX5_cloudNow_15 : decode cX5_cloudNow 15 = .ok (.iload_n 1, 1) := by decide +kernel
theorem dX5_cloudNow_16 : decode cX5_cloudNow 16 = .ok (.aload_n 0, 1) := by decide +kernel
theorem dX5_cloudNow_17 : decode cX5_cloudNow 17 = .ok (.iload_n 2, 1) := by decide +kernel
theorem dX5_cloudNow_18 : decode cX5_cloudNow 18 = .ok (.invokevirtual 165, 3) := by decide +kernel
theorem dX5_cloudNow_21 : decode cX5_cloudNow 21 = .ok (.ior, 1) := by decide +kernel
theorem dX5_cloudNow_22 : decode cX5_cloudNow 22 = .ok (.istore_n 1, 1) := by decide +kernel
theorem dX5_cloudNow_23 : decode cX5_cloudNow 23 = .ok (.iinc 2 1, 3) := by decide +kernel
theorem dX5_cloudNow_26 : decode cX5_cloudNow 26 = .ok (.goto (-22), 3) := by decide +kernel
theorem dX5_cloudNow_29 : decode cX5_cloudNow 29 = .ok (.iload_n 1, 1) := by decide +kernel
theorem dX5_cloudNow_30 : decode cX5_cloudNow 30 = .ok (.ireturn, 1) := by decide +kernel
set_option maxRecDepth 20000 in
theorem ggX5_mostLike_J6_bitCount_0f7a4 : GoodIn wsX5_mostLike wsJ6_bitCount_0f7a4 := goodIn_r _ [5, 6, 7, 8] (by decide +kernel) (by decide +kernel)
set_option maxRecDepth 20000 in
theorem gX5_mostLike_J6_bitCount_0f7a4 : GoodIn wsX5_mostLike (va_wsS RX5 244 yJ6_bitCount_0f7a4 wsJ6_bitCount_0f7a4) := goodIn_app (goodIn_of _ (by decide +kernel)) ggX5_mostLike_J6_bitCount_0f7a4
theorem dX5_mostLike_0 : decode cX5_mostLike 0 = .ok (.iconst (-1), 1) := by decide +kernel
theorem dX5_mostLike_1 : decode cX5_mostLike 1 = .ok (.istore_n 3, 1) := by decide +kernel
theorem dX5_mostLike_2 : decode cX5_mostLike 2 = .ok (.bipush 31, 2) := by decide +kernel
theorem dX5_mostLike_4 : decode cX5_mostLike 4 = .ok (.istore 4, 2) := by decide +kernel
theorem dX5_mostLike_6 : decode cX5_mostLike 6 = .ok (.iconst 0, 1) := by decide +kernel
theorem dX5_mostLike_7 : decode cX5_mostLike 7 = .ok (.istore 5, 2) := by decide +kernel
theorem dX5_mostLike_9 : decode cX5_mostLike 9 = .ok (.iload 5, 2) := by decide +kernel
theorem dX5_mostLike_11 : decode cX5_mostLike 11 = .ok (.aload_n 0, 1) := by decide +kernel
theorem dX5_mostLike_12 : decode cX5_mostLike 12 = .ok (.getfield 19, 3) := by decide +kernel
theorem dX5_mostLike_15 : decode cX5_mostLike 15 = .ok (.getfield 91, 3) := by decide +kernel
theorem dX5_mostLike_18 : decode cX5_mostLike 18 = .ok (.if_icmp .ge 42, 3) := by decide +kernel
theorem dX5_mostLike_21 : decode cX5_mostLike 21 = .ok (.aload_n 0, 1) := by decide +kernel
theorem dX5_mostLike_22 : decode cX5_mostLike 22 = .ok (.getfield 19, 3) := by decide +kernel
theorem dX5_mostLike_25 : decode cX5_mostLike 25 = .ok (.getfield 146, 3) := by decide +kernel
theorem dX5_mostLike_28 : decode cX5_mostLike 28 = .ok (.iload 5, 2) := by decide +kernel
theorem dX5_mostLike_30 : decode cX5_mostLike 30 = .ok (.iaload, 1) := by decide +kernel
theorem dX5_mostLike_31 : decode cX5_mostLike 31 = .ok (.iload_n 1, 1) := by decide +kernel
theorem dX5_mostLike_32 : decode cX5_mostLike 32 = .ok (.ixor, 1) := by decide +kernel
theorem dX5_mostLike_33 : decode cX5_mostLike 33 = .ok (.iload_n 2, 1) := by decide +kernel
theorem dX5_mostLike_34 : decode cX5_mostLike 34 = .ok (.iand, 1) := by decide +kernel
theorem dX5_mostLike_35 : decode cX5_mostLike 35 = .ok (.invokestatic 244, 3) := by decide +kernel
theorem dX5_mostLike_38 : decode cX5_mostLike 38 = .ok (.istore 6, 2) := by decide +kernel
theorem dX5_mostLike_40 : decode cX5_mostLike 40 = .ok (.iload 6, 2) := by decide +kernel
theorem dX5_mostLike_42 : decode cX5_mostLike 42 = .ok (.iload 4, 2) := by decide +kernel
theorem dX5_mostLike_44 : decode cX5_mostLike 44 = .ok (.if_icmp .ge 10, 3) := by decide +kernel
theorem dX5_mostLike_47 : decode cX5_mostLike 47 = .ok (.iload 6, 2) := by decide +kernel
theorem dX5_mostLike_49 : decode cX5_mostLike 49 = .ok (.istore 4, 2) := by decide +kernel
theorem dX5_mostLike_51 : decode cX5_mostLike 51 = .ok (.iload 5, 2) := by decide +kernel
theorem dX5_mostLike_53 : decode cX5_mostLike 53 = .ok (.istore_n 3, 1) := by decide +kernel
theorem dX5_mostLike_54 : decode cX5_mostLike 54 = .ok (.iinc 5 1, 3) := by decide +kernel
theorem dX5_mostLike_57 : decode cX5_mostLike 57 = .ok (.goto (-48), 3) := by decide +kernel
theorem dX5_mostLike_60 : decode cX5_mostLike 60 = .ok (.iload_n 3, 1) := by decide +kernel
theorem dX5_mostLike_61 : decode cX5_mostLike 61 = .ok (.ireturn, 1) := by decide +kernel
set_option maxRecDepth 20000 in
theorem ggX5_holesOf_X5_neighboursOf : GoodIn wsX5_holesOf wsX5_neighboursOf := goodIn_r _ [4] (by decide +kernel) (by decide +kernel)
set_option maxRecDepth 20000 in
theorem gX5_holesOf_X5_neighboursOf : GoodIn wsX5_holesOf (va_wsS RX5 293 yX5_neighboursOf wsX5_neighboursOf) := goodIn_app (goodIn_of _ (by decide +kernel)) ggX5_holesOf_X5_neighboursOf
theorem dX5_holesOf_0 : decode cX5_holesOf 0 = .ok (.iconst 0, 1) := by decide +kernel
theorem dX5_holesOf_1 : decode cX5_holesOf 1 = .ok (.istore_n 1, 1) := by decide +kernel
theorem dX5_holesOf_2 : decode cX5_holesOf 2 = .ok (.iconst 0, 1) := by decide +kernel
theorem dX5_holesOf_3 : decode cX5_holesOf 3 = .ok (.istore_n 2, 1) := by decide +kernel
theorem dX5_holesOf_4 : decode cX5_holesOf 4 = .ok (.iload_n 2, 1) := by decide +kernel
theorem dX5_holesOf_5 : decode cX5_holesOf 5 = .ok (.bipush 30, 2) := by decide +kernel
theorem dX5_holesOf_7 : decode cX5_holesOf 7 = .ok (.if_icmp .ge 35, 3) := by decide +kernel
theorem dX5_holesOf_10 : decode cX5_holesOf 10 = .ok (.iload_n 2, 1) := by decide +kernel
theorem dX5_holesOf_11 : decode cX5_holesOf 11 = .ok (.invokestatic 293, 3) := by decide +kernel
theorem dX5_holesOf_14 : decode cX5_holesOf 14 = .ok (.istore_n 3, 1) := by decide +kernel
theorem dX5_holesOf_15 : decode cX5_holesOf 15 = .ok (.iload_n 0, 1) := by decide +kernel
theorem dX5_holesOf_16 : decode cX5_holesOf 16 = .ok (.iload_n 2, 1) := by decide +kernel
theorem dX5_holesOf_17 : decode cX5_holesOf 17 = .ok (.ishr, 1) := by decide +kernel
theorem dX5_holesOf_18 : decode cX5_holesOf 18 = .ok (.iconst 1, 1) := by decide +kernel
theorem dX5_holesOf_19 : decode cX5_holesOf 19 = .ok (.iand, 1) := by decide +kernel
theorem dX5_holesOf_20 : decode cX5_holesOf 20 = .ok (.ifCond .ne 16, 3) := by decide +kernel
theorem dX5_holesOf_23 : decode cX5_holesOf 23 = .ok (.iload_n 0, 1) := by decide +kernel
theorem dX5_holesOf_24 : decode cX5_holesOf 24 = .ok (.iload_n 3, 1) := by decide +kernel
theorem dX5_holesOf_25 : decode cX5_holesOf 25 = .ok (.iand, 1) := by decide +kernel
theorem dX5_holesOf_26 : decode cX5_holesOf 26 = .ok (.iload_n 3, 1) := by decide +kernel
theorem dX5_holesOf_27 : decode cX5_holesOf 27 = .ok (.if_icmp .ne 9, 3) := by decide +kernel
theorem dX5_holesOf_30 : decode cX5_holesOf 30 = .ok (.iload_n 1, 1) := by decide +kernel
theorem dX5_holesOf_31 : decode cX5_holesOf 31 = .ok (.iconst 1, 1) := by decide +kernel
theorem dX5_holesOf_32 : decode cX5_holesOf 32 = .ok (.iload_n 2, 1) := by decide +kernel
theorem dX5_holesOf_33 : decode cX5_holesOf 33 = .ok (.ishl, 1) := by decide +kernel
theorem dX5_holesOf_34 : decode cX5_holesOf 34 = .ok (.ior, 1) := by decide +kernel
theorem dX5_holesOf_35 : decode cX5_holesOf 35 = .ok (.istore_n 1, 1) := by decide +kernel
theorem dX5_holesOf_36 : decode cX5_holesOf 36 = .ok (.iinc 2 1, 3) := by decide +kernel
theorem dX5_holesOf_39 : decode cX5_holesOf 39 = .ok (.goto (-35), 3) := by decide +kernel
theorem dX5_holesOf_42 : decode cX5_holesOf 42 = .ok (.iload_n 1, 1) := by decide +kernel
theorem dX5_holesOf_43 : decode cX5_holesOf 43 = .ok (.ireturn, 1) := by decide +kernel
theorem dX5_neighboursOf_0 : decode cX5_neighboursOf 0 = .ok (.iload_n 0, 1) := by decide +kernel
theorem dX5_neighboursOf_1 : decode cX5_neighboursOf 1 = .ok (.bipush 6, 2) := by decide +kernel
theorem dX5_neighboursOf_3 : decode cX5_neighboursOf 3 = .ok (.irem, 1) := by decide +kernel
theorem dX5_neighboursOf_4 : decode cX5_neighboursOf 4 = .ok (.istore_n 1, 1) := by decide +kernel
theorem dX5_neighboursOf_5 : decode cX5_neighboursOf 5 = .ok (.iconst 0, 1) := by decide +kernel
theorem dX5_neighboursOf_6 : decode cX5_neighboursOf 6 = .ok (.istore_n 2, 1) := by decide +kernel
theorem dX5_neighboursOf_7 : decode cX5_neighboursOf 7 = .ok (.iload_n 1, 1) := by decide +kernel
theorem dX5_neighboursOf_8 : decode cX5_neighboursOf 8 = .ok (.ifCond .le 11, 3) := by decide +kernel
theorem dX5_neighboursOf_11 : decode cX5_neighboursOf 11 = .ok (.iload_n 2, 1) := by decide +kernel
theorem dX5_neighboursOf_12 : decode cX5_neighboursOf 12 = .ok (.iconst 1, 1) := by decide +kernel
theorem dX5_neighboursOf_13 : decode cX5_neighboursOf 13 = .ok (.iload_n 0, 1) := by decide +kernel
theorem dX5_neighboursOf_14 : decode cX5_neighboursOf 14 = .ok (.iconst 1, 1) := by decide +kernel
theorem dX5_neighboursOf_15 : decode cX5_neighboursOf 15 = .ok (.isub, 1) := by decide +kernel
theorem dX5_neighboursOf_16 : decode cX5_neighboursOf 16 = .ok (.ishl, 1) := by decide +kernel
theorem dX5_neighboursOf_17 : decode cX5_neighboursOf 17 = .ok (.ior, 1) := by decide +kernel
theorem dX5_neighboursOf_18 : decode cX5_neighboursOf 18 = .ok (.istore_n 2, 1) := by decide +kernel
theorem dX5_neighboursOf_19 : decode cX5_neighboursOf 19 = .ok (.iload_n 1, 1) := by decide +kernel
theorem dX5_neighboursOf_20 : decode cX5_neighboursOf 20 = .ok (.iconst 5, 1) := by decide +kernel
theorem dX5_neighboursOf_21 : decode cX5_neighboursOf 21 = .ok (.if_icmp .ge 11, 3) := by decide +kernel
theorem dX5_neighboursOf_24 : decode cX5_neighboursOf 24 = .ok (.iload_n 2, 1) := by decide +kernel
theorem dX5_neighboursOf_25 : decode cX5_neighboursOf 25 = .ok (.iconst 1, 1) := by decide +kernel
theorem dX5_neighboursOf_26 : decode cX5_neighboursOf 26 = .ok (.iload_n 0, 1) := by decide +kernel
theorem dX5_neighboursOf_27 : decode cX5_neighboursOf 27 = .ok (.iconst 1, 1) := by decide +kernel
theorem dX5_neighboursOf_28 : decode cX5_neighboursOf 28 = .ok (.iadd, 1) := by decide +kernel
theorem dX5_neighboursOf_29 : decode cX5_neighboursOf 29 = .ok (.ishl, 1) := by decide +kernel
theorem dX5_neighboursOf_30 : decode cX5_neighboursOf 30 = .ok (.ior, 1) := by decide +kernel
theorem dX5_neighboursOf_31 : decode cX5_neighboursOf 31 = .ok (.istore_n 2, 1) := by decide +kernel
theorem dX5_neighboursOf_32 : decode cX5_neighboursOf 32 = .ok (.iload_n 0, 1) := by decide +kernel
theorem dX5_neighboursOf_33 : decode cX5_neighboursOf 33 = .ok (.bipush 6, 2) := by decide +kernel
theorem dX5_neighboursOf_35 : decode cX5_neighboursOf 35 = .ok (.if_icmp .lt 12, 3) := by decide +kernel
theorem dX5_neighboursOf_38 : decode cX5_neighboursOf 38 = .ok (.iload_n 2, 1) := by decide +kernel
theorem dX5_neighboursOf_39 : decode cX5_neighboursOf 39 = .ok (.iconst 1, 1) := by decide +kernel
theorem dX5_neighboursOf_40 : decode cX5_neighboursOf 40 = .ok (.iload_n 0, 1) := by decide +kernel
theorem dX5_neighboursOf_41 : decode cX5_neighboursOf 41 = .ok (.bipush 6, 2) := by decide +kernel
theorem dX5_neighboursOf_43 : decode cX5_neighboursOf 43 = .ok (.isub, 1) := by decide +kernel
theorem dX5_neighboursOf_44 : decode cX5_neighboursOf 44 = .ok (.ishl, 1) := by decide +kernel
theorem dX5_neighboursOf_45 : decode cX5_neighboursOf 45 = .ok (.ior, 1) := by decide +kernel
theorem dX5_neighboursOf_46 : decode cX5_neighboursOf 46 = .ok (.istore_n 2, 1) := by decide +kernel
theorem dX5_neighboursOf_47 : decode cX5_neighboursOf 47 = .ok (.iload_n 0, 1) := by decide +kernel
theorem dX5_neighboursOf_48 : decode cX5_neighboursOf 48 = .ok (.bipush 6, 2) := by decide +kernel
theorem dX5_neighboursOf_50 : decode cX5_neighboursOf 50 = .ok (.iadd, 1) := by decide +kernel
theorem dX5_neighboursOf_51 : decode cX5_neighboursOf 51 = .ok (.bipush 30, 2) := by decide +kernel
theorem dX5_neighboursOf_53 : decode cX5_neighboursOf 53 = .ok (.if_icmp .ge 12, 3) := by decide +kernel
theorem dX5_neighboursOf_56 : decode cX5_neighboursOf 56 = .ok (.iload_n 2, 1) := by decide +kernel
theorem dX5_neighboursOf_57 : decode cX5_neighboursOf 57 = .ok (.iconst 1, 1) := by decide +kernel
theorem dX5_neighboursOf_58 : decode cX5_neighboursOf 58 = .ok (.iload_n 0, 1) := by decide +kernel
theorem dX5_neighboursOf_59 : decode cX5_neighboursOf 59 = .ok (.bipush 6, 2) := by decide +kernel
theorem dX5_neighboursOf_61 : decode cX5_neighboursOf 61 = .ok (.iadd, 1) := by decide +kernel
theorem dX5_neighboursOf_62 : decode cX5_neighboursOf 62 = .ok (.ishl, 1) := by decide +kernel
theorem dX5_neighboursOf_63 : decode cX5_neighboursOf 63 = .ok (.ior, 1) := by decide +kernel
theorem dX5_neighboursOf_64 : decode cX5_neighboursOf 64 = .ok (.istore_n 2, 1) := by decide +kernel
theorem dX5_neighboursOf_65 : decode cX5_neighboursOf 65 = .ok (.iload_n 2, 1) := by decide +kernel
theorem dX5_neighboursOf_66 : decode cX5_neighboursOf 66 = .ok (.ireturn, 1) := by decide +kernel
theorem dX5_mirrorOf_0 : decode cX5_mirrorOf 0 = .ok (.iconst 0, 1) := by decide +kernel
theorem dX5_mirrorOf_1 : decode cX5_mirrorOf 1 = .ok (.istore_n 1, 1) := by decide +kernel
theorem dX5_mirrorOf_2 : decode cX5_mirrorOf 2 = .ok (.iconst 0, 1) := by decide +kernel
theorem dX5_mirrorOf_3 : decode cX5_mirrorOf 3 = .ok (.istore_n 2, 1) := by decide +kernel
theorem dX5_mirrorOf_4 : decode cX5_mirrorOf 4 = .ok (.iload_n 2, 1) := by decide +kernel
theorem dX5_mirrorOf_5 : decode cX5_mirrorOf 5 = .ok (.bipush 30, 2) := by decide +kernel
theorem dX5_mirrorOf_7 : decode cX5_mirrorOf 7 = .ok (.if_icmp .ge 38, 3) := by decide +kernel
theorem dX5_mirrorOf_10 : decode cX5_mirrorOf 10 = .ok (.iload_n 0, 1) := by decide +kernel
theorem dX5_mirrorOf_11 : decode cX5_mirrorOf 11 = .ok (.iload_n 2, 1) := by decide +kernel
theorem dX5_mirrorOf_12 : decode cX5_mirrorOf 12 = .ok (.ishr, 1) := by decide +kernel
theorem dX5_mirrorOf_13 : decode cX5_mirrorOf 13 = .ok (.iconst 1, 1) := by decide +kernel
theorem dX5_mirrorOf_14 : decode cX5_mirrorOf 14 = .ok (.iand, 1) := by decide +kernel
theorem dX5_mirrorOf_15 : decode cX5_mirrorOf 15 = .ok (.iconst 1, 1) := by decide +kernel
theorem dX5_mirrorOf_16 : decode cX5_mirrorOf 16 = .ok (.if_icmp .ne 23, 3) := by decide +kernel
theorem dX5_mirrorOf_19 : decode cX5_mirrorOf 19 = .ok (.iload_n 2, 1) := by decide +kernel
theorem dX5_mirrorOf_20 : decode cX5_mirrorOf 20 = .ok (.bipush 6, 2) := by decide +kernel
theorem dX5_mirrorOf_22 : decode cX5_mirrorOf 22 = .ok (.irem, 1) := by decide +kernel
theorem dX5_mirrorOf_23 : decode cX5_mirrorOf 23 = .ok (.istore_n 3, 1) := by decide +kernel
theorem dX5_mirrorOf_24 : decode cX5_mirrorOf 24 = .ok (.iload_n 1, 1) := by decide +kernel
theorem dX5_mirrorOf_25 : decode cX5_mirrorOf 25 = .ok (.iconst 1, 1) := by decide +kernel
theorem dX5_mirrorOf_26 : decode cX5_mirrorOf 26 = .ok (.iload_n 2, 1) := by decide +kernel
theorem dX5_mirrorOf_27 : decode cX5_mirrorOf 27 = .ok (.iload_n 3, 1) := by decide +kernel
theorem dX5_mirrorOf_28 : decode cX5_mirrorOf 28 = .ok (.isub, 1) := by decide +kernel
theorem dX5_mirrorOf_29 : decode cX5_mirrorOf 29 = .ok (.bipush 6, 2) := by decide +kernel
theorem dX5_mirrorOf_31 : decode cX5_mirrorOf 31 = .ok (.iadd, 1) := by decide +kernel
theorem dX5_mirrorOf_32 : decode cX5_mirrorOf 32 = .ok (.iconst 1, 1) := by decide +kernel
theorem dX5_mirrorOf_33 : decode cX5_mirrorOf 33 = .ok (.isub, 1) := by decide +kernel
theorem dX5_mirrorOf_34 : decode cX5_mirrorOf 34 = .ok (.iload_n 3, 1) := by decide +kernel
theorem dX5_mirrorOf_35 : decode cX5_mirrorOf 35 = .ok (.isub, 1) := by decide +kernel
theorem dX5_mirrorOf_36 : decode cX5_mirrorOf 36 = .ok (.ishl, 1) := by decide +kernel
theorem dX5_mirrorOf_37 : decode cX5_mirrorOf 37 = .ok (.ior, 1) := by decide +kernel
theorem dX5_mirrorOf_38 : decode cX5_mirrorOf 38 = .ok (.istore_n 1, 1) := by decide +kernel
theorem dX5_mirrorOf_39 : decode cX5_mirrorOf 39 = .ok (.iinc 2 1, 3) := by decide +kernel
theorem dX5_mirrorOf_42 : decode cX5_mirrorOf 42 = .ok (.goto (-38), 3) := by decide +kernel
theorem dX5_mirrorOf_45 : decode cX5_mirrorOf 45 = .ok (.iload_n 1, 1) := by decide +kernel
theorem dX5_mirrorOf_46 : decode cX5_mirrorOf 46 = .ok (.ireturn, 1) := by decide +kernel
set_option maxRecDepth 20000 in
theorem ggX5_passDusk_X5_drawnAt : GoodIn wsX5_passDusk wsX5_drawnAt := goodIn_r _ [7, 2, 1, 8, 9, 10, 6, 11, 12, 13, 14, 15, 16, 17, 18, 19, 20, 21, 22, 45, 46, 47, 48, 49, 50, 51, 52, 53, 54, 55, 56, 57, 66, 67, 68, 69, 70, 71, 72, 73, 74, 75, 76, 77, 78, 79, 58, 59, 60, 61, 62, 63, 64, 65] (by decide +kernel) (by decide +kernel)
set_option maxRecDepth 20000 in
theorem gX5_passDusk_X5_drawnAt : GoodIn wsX5_passDusk (wsV RX5 165 RX5 yX5_drawnAt wsX5_drawnAt) := goodIn_app (goodIn_of _ (by decide +kernel)) ggX5_passDusk_X5_drawnAt
set_option maxRecDepth 20000 in
theorem ggX5_passDusk_X1_keepInAlbum : GoodIn wsX5_passDusk wsX1_keepInAlbum := goodIn_r _ [26, 27, 28, 29, 30, 31, 32, 33, 34, 35, 66, 67, 68, 69, 70, 71, 72, 73, 74, 75, 76, 77, 78, 79] (by decide +kernel) (by decide +kernel)
set_option maxRecDepth 20000 in
theorem gX5_passDusk_X1_keepInAlbum_n296 : GoodIn wsX5_passDusk (wsX1_keepInAlbum) := ggX5_passDusk_X1_keepInAlbum
set_option maxRecDepth 20000 in
theorem ggX5_passDusk_X1_endDusk : GoodIn wsX5_passDusk wsX1_endDusk := goodIn_r _ [38, 39, 40, 41, 42, 43, 44, 66, 67, 68, 69, 70, 71, 72, 73, 74, 75, 76, 77, 78, 79] (by decide +kernel) (by decide +kernel)
set_option maxRecDepth 20000 in
theorem gX5_passDusk_X1_endDusk_n300 : GoodIn wsX5_passDusk (wsX1_endDusk) := ggX5_passDusk_X1_endDusk
theorem dX5_passDusk_0 : decode cX5_passDusk 0 = .ok (.iconst 0, 1) := by decide +kernel
theorem dX5_passDusk_1 : decode cX5_passDusk 1 = .ok (.istore_n 1, 1) := by decide +kernel
theorem dX5_passDusk_2 : decode cX5_passDusk 2 = .ok (.iload_n 1, 1) := by decide +kernel
theorem dX5_passDusk_3 : decode cX5_passDusk 3 = .ok (.aload_n 0, 1) := by decide +kernel
theorem dX5_passDusk_4 : decode cX5_passDusk 4 = .ok (.getfield 19, 3) := by decide +kernel
theorem dX5_passDusk_7 : decode cX5_passDusk 7 = .ok (.getfield 100, 3) := by decide +kernel
theorem dX5_passDusk_10 : decode cX5_passDusk 10 = .ok (.if_icmp .ge 37, 3) := by decide +kernel
theorem dX5_passDusk_13 : decode cX5_passDusk 13 = .ok (.aload_n 0, 1) := by decide +kernel
theorem dX5_passDusk_14 : decode cX5_passDusk 14 = .ok (.iload_n 1, 1) := by decide +kernel
theorem dX5_passDusk_15 : decode cX5_passDusk 15 = .ok (.invokevirtual 165, 3) := by decide +kernel
theorem dX5_passDusk_18 : decode cX5_passDusk 18 = .ok (.istore_n 2, 1) := by decide +kernel
theorem dX5_passDusk_19 : decode cX5_passDusk 19 = .ok (.iload_n 2, 1) := by decide +kernel
theorem dX5_passDusk_20 : decode cX5_passDusk 20 = .ok (.ifCond .eq 21, 3) := by decide +kernel
theorem dX5_passDusk_23 : decode cX5_passDusk 23 = .ok (.aload_n 0, 1) := by decide +kernel
theorem dX5_passDusk_24 : decode cX5_passDusk 24 = .ok (.getfield 26, 3) := by decide +kernel
theorem dX5_passDusk_27 : decode cX5_passDusk 27 = .ok (.iload_n 1, 1) := by decide +kernel
theorem dX5_passDusk_28 : decode cX5_passDusk 28 = .ok (.aload_n 0, 1) := by decide +kernel
theorem dX5_passDusk_29 : decode cX5_passDusk 29 = .ok (.getfield 26, 3) := by decide +kernel
theorem dX5_passDusk_32 : decode cX5_passDusk 32 = .ok (.getfield 162, 3) := by decide +kernel
theorem dX5_passDusk_35 : decode cX5_passDusk 35 = .ok (.iload_n 1, 1) := by decide +kernel
theorem dX5_passDusk_36 : decode cX5_passDusk 36 = .ok (.iaload, 1) := by decide +kernel
theorem dX5_passDusk_37 : decode cX5_passDusk 37 = .ok (.iload_n 2, 1) := by decide +kernel
theorem dX5_passDusk_38 : decode cX5_passDusk 38 = .ok (.invokevirtual 296, 3) := by decide +kernel
theorem dX5_passDusk_41 : decode cX5_passDusk 41 = .ok (.iinc 1 1, 3) := by decide +kernel
theorem dX5_passDusk_44 : decode cX5_passDusk 44 = .ok (.goto (-42), 3) := by decide +kernel
theorem dX5_passDusk_47 : decode cX5_passDusk 47 = .ok (.aload_n 0, 1) := by decide +kernel
theorem dX5_passDusk_48 : decode cX5_passDusk 48 = .ok (.getfield 26, 3) := by decide +kernel
theorem dX5_passDusk_51 : decode cX5_passDusk 51 = .ok (.invokevirtual 300, 3) := by decide +kernel
theorem dX5_passDusk_54 : decode cX5_passDusk 54 = .ok (.return_, 1) := by decide +kernel
set_option maxRecDepth 20000 in
theorem ggX5_happenByDraw_X5_nextDraw : GoodIn wsX5_happenByDraw wsX5_nextDraw := goodIn_r _ [6, 7, 8, 9, 10, 25, 26, 27, 28, 29, 30, 31, 32, 33, 34, 35, 36, 37] (by decide +kernel) (by decide +kernel)
set_option maxRecDepth 20000 in
theorem gX5_happenByDraw_X5_nextDraw : GoodIn wsX5_happenByDraw (wsV RX5 303 RX5 yX5_nextDraw wsX5_nextDraw) := goodIn_app (goodIn_of _ (by decide +kernel)) ggX5_happenByDraw_X5_nextDraw
set_option maxRecDepth 20000 in
theorem ggX5_happenByDraw_X5_standByDraw : GoodIn wsX5_happenByDraw wsX5_standByDraw := goodIn_r _ [14, 15, 1, 2, 3, 4, 5, 6, 7, 8, 9, 10, 16, 17, 18, 19, 20, 21, 22, 23, 24, 25, 26, 27, 28, 29, 30, 31, 32, 33, 34, 35, 36, 37, 52, 53, 54, 55, 56, 57, 58, 59, 38, 39, 40, 41, 42, 43, 44, 45, 46, 47, 48, 49, 50, 51] (by decide +kernel) (by decide +kernel)
set_option maxRecDepth 20000 in
theorem gX5_happenByDraw_X5_standByDraw : GoodIn wsX5_happenByDraw (wsV RX5 306 RX5 yX5_standByDraw wsX5_standByDraw) := goodIn_app (goodIn_of _ (by decide +kernel)) ggX5_happenByDraw_X5_standByDraw
theorem dX5_happenByDraw_0 : decode cX5_happenByDraw 0 = .ok (.aload_n 0, 1) := by decide +kernel
theorem dX5_happenByDraw_1 : decode cX5_happenByDraw 1 = .ok (.bipush 6, 2) := by decide +kernel
theorem dX5_happenByDraw_3 : decode cX5_happenByDraw 3 = .ok (.invokevirtual 303, 3) := by decide +kernel
theorem dX5_happenByDraw_6 : decode cX5_happenByDraw 6 = .ok (.tableswitch 109 0 4 #[34, 52, 68, 91, 102], 34) := by decide +kernel
theorem dX5_happenByDraw_40 : decode cX5_happenByDraw 40 = .ok (.aload_n 0, 1) := by decide +kernel
theorem dX5_happenByDraw_41 : decode cX5_happenByDraw 41 = .ok (.getfield 26, 3) := by decide +kernel
theorem dX5_happenByDraw_44 : decode cX5_happenByDraw 44 = .ok (.aload_n 0, 1) := by decide +kernel
theorem dX5_happenByDraw_45 : decode cX5_happenByDraw 45 = .ok (.bipush 7, 2) := by decide +kernel
theorem dX5_happenByDraw_47 : decode cX5_happenByDraw 47 = .ok (.invokevirtual 303, 3) := by decide +kernel
theorem dX5_happenByDraw_50 : decode cX5_happenByDraw 50 = .ok (.iconst 3, 1) := by decide +kernel
theorem dX5_happenByDraw_51 : decode cX5_happenByDraw 51 = .ok (.isub, 1) := by decide +kernel
theorem dX5_happenByDraw_52 : decode cX5_happenByDraw 52 = .ok (.putfield 109, 3) := by decide +kernel
theorem dX5_happenByDraw_55 : decode cX5_happenByDraw 55 = .ok (.goto 60, 3) := by decide +kernel
theorem dX5_happenByDraw_58 : decode cX5_happenByDraw 58 = .ok (.aload_n 0, 1) := by decide +kernel
theorem dX5_happenByDraw_59 : decode cX5_happenByDraw 59 = .ok (.getfield 26, 3) := by decide +kernel
theorem dX5_happenByDraw_62 : decode cX5_happenByDraw 62 = .ok (.aload_n 0, 1) := by decide +kernel
theorem dX5_happenByDraw_63 : decode cX5_happenByDraw 63 = .ok (.bipush 64, 2) := by decide +kernel
theorem dX5_happenByDraw_65 : decode cX5_happenByDraw 65 = .ok (.invokevirtual 303, 3) := by decide +kernel
theorem dX5_happenByDraw_68 : decode cX5_happenByDraw 68 = .ok (.putfield 112, 3) := by decide +kernel
theorem dX5_happenByDraw_71 : decode cX5_happenByDraw 71 = .ok (.goto 44, 3) := by decide +kernel
theorem dX5_happenByDraw_74 : decode cX5_happenByDraw 74 = .ok (.aload_n 0, 1) := by decide +kernel
theorem dX5_happenByDraw_75 : decode cX5_happenByDraw 75 = .ok (.getfield 26, 3) := by decide +kernel
theorem dX5_happenByDraw_78 : decode cX5_happenByDraw 78 = .ok (.dup, 1) := by decide +kernel
theorem dX5_happenByDraw_79 : decode cX5_happenByDraw 79 = .ok (.getfield 115, 3) := by decide +kernel
theorem dX5_happenByDraw_82 : decode cX5_happenByDraw 82 = .ok (.iconst 1, 1) := by decide +kernel
theorem dX5_happenByDraw_83 : decode cX5_happenByDraw 83 = .ok (.aload_n 0, 1) := by decide +kernel
theorem dX5_happenByDraw_84 : decode cX5_happenByDraw 84 = .ok (.bipush 30, 2) := by decide +kernel
theorem dX5_happenByDraw_86 : decode cX5_happenByDraw 86 = .ok (.invokevirtual 303, 3) := by decide +kernel
theorem dX5_happenByDraw_89 : decode cX5_happenByDraw 89 = .ok (.ishl, 1) := by decide +kernel
theorem dX5_happenByDraw_90 : decode cX5_happenByDraw 90 = .ok (.ior, 1) := by decide +kernel
theorem dX5_happenByDraw_91 : decode cX5_happenByDraw 91 = .ok (.putfield 115, 3) := by decide +kernel
theorem dX5_happenByDraw_94 : decode cX5_happenByDraw 94 = .ok (.goto 21, 3) := by decide +kernel
theorem dX5_happenByDraw_97 : decode cX5_happenByDraw 97 = .ok (.aload_n 0, 1) := by decide +kernel
theorem dX5_happenByDraw_98 : decode cX5_happenByDraw 98 = .ok (.getfield 26, 3) := by decide +kernel
theorem dX5_happenByDraw_101 : decode cX5_happenByDraw 101 = .ok (.iconst 1, 1) := by decide +kernel
theorem dX5_happenByDraw_102 : decode cX5_happenByDraw 102 = .ok (.putfield 118, 3) := by decide +kernel
theorem dX5_happenByDraw_105 : decode cX5_happenByDraw 105 = .ok (.goto 10, 3) := by decide +kernel
theorem dX5_happenByDraw_108 : decode cX5_happenByDraw 108 = .ok (.aload_n 0, 1) := by decide +kernel
theorem dX5_happenByDraw_109 : decode cX5_happenByDraw 109 = .ok (.invokevirtual 306, 3) := by decide +kernel
theorem dX5_happenByDraw_112 : decode cX5_happenByDraw 112 = .ok (.goto 3, 3) := by decide +kernel
theorem dX5_happenByDraw_115 : decode cX5_happenByDraw 115 = .ok (.return_, 1) := by decide +kernel
set_option maxRecDepth 20000 in
theorem ggX5_standByDraw_X5_nextDraw : GoodIn wsX5_standByDraw wsX5_nextDraw := goodIn_r _ [7, 8, 9, 10, 11, 21, 22, 23, 24, 25, 26, 27, 28, 29, 30, 31, 32, 33] (by decide +kernel) (by decide +kernel)
set_option maxRecDepth 20000 in
theorem gX5_standByDraw_X5_nextDraw : GoodIn wsX5_standByDraw (wsV RX5 303 RX5 yX5_nextDraw wsX5_nextDraw) := goodIn_app (goodIn_of _ (by decide +kernel)) ggX5_standByDraw_X5_nextDraw
set_option maxRecDepth 20000 in
theorem ggX5_standByDraw_X5_isWindow : GoodIn wsX5_standByDraw wsX5_isWindow := goodIn_r _ [15, 1, 21, 22, 23, 24, 25, 26, 27, 28, 29, 30, 31, 32, 33, 34, 35, 36, 37, 38, 39, 40, 41] (by decide +kernel) (by decide +kernel)
set_option maxRecDepth 20000 in
theorem gX5_standByDraw_X5_isWindow : GoodIn wsX5_standByDraw (wsV RX5 156 RX5 yX5_isWindow wsX5_isWindow) := goodIn_app (goodIn_of _ (by decide +kernel)) ggX5_standByDraw_X5_isWindow
set_option maxRecDepth 20000 in
theorem ggX5_standByDraw_X1_moveTo : GoodIn wsX5_standByDraw wsX1_moveTo := goodIn_r _ [19, 20, 42, 43, 44, 45, 46, 47, 48, 49, 50, 51, 52, 53, 54, 55] (by decide +kernel) (by decide +kernel)
set_option maxRecDepth 20000 in
theorem gX5_standByDraw_X1_moveTo_n196 : GoodIn wsX5_standByDraw (wsX1_moveTo) := ggX5_standByDraw_X1_moveTo
theorem dX5_standByDraw_0 : decode cX5_standByDraw 0 = .ok (.aload_n 0, 1) := by decide +kernel
theorem dX5_standByDraw_1 : decode cX5_standByDraw 1 = .ok (.getfield 19, 3) := by decide +kernel
theorem dX5_standByDraw_4 : decode cX5_standByDraw 4 = .ok (.getfield 91, 3) := by decide +kernel
theorem dX5_standByDraw_7 : decode cX5_standByDraw 7 = .ok (.iconst 1, 1) := by decide +kernel
theorem dX5_standByDraw_8 : decode cX5_standByDraw 8 = .ok (.if_icmp .lt 14, 3) := by decide +kernel
theorem dX5_standByDraw_11 : decode cX5_standByDraw 11 = .ok (.aload_n 0, 1) := by decide +kernel
theorem dX5_standByDraw_12 : decode cX5_standByDraw 12 = .ok (.getfield 19, 3) := by decide +kernel
theorem dX5_standByDraw_15 : decode cX5_standByDraw 15 = .ok (.getfield 100, 3) := by decide +kernel
theorem dX5_standByDraw_18 : decode cX5_standByDraw 18 = .ok (.iconst 1, 1) := by decide +kernel
theorem dX5_standByDraw_19 : decode cX5_standByDraw 19 = .ok (.if_icmp .ge 4, 3) := by decide +kernel
theorem dX5_standByDraw_22 : decode cX5_standByDraw 22 = .ok (.return_, 1) := by decide +kernel
theorem dX5_standByDraw_23 : decode cX5_standByDraw 23 = .ok (.aload_n 0, 1) := by decide +kernel
theorem dX5_standByDraw_24 : decode cX5_standByDraw 24 = .ok (.aload_n 0, 1) := by decide +kernel
theorem dX5_standByDraw_25 : decode cX5_standByDraw 25 = .ok (.getfield 19, 3) := by decide +kernel
theorem dX5_standByDraw_28 : decode cX5_standByDraw 28 = .ok (.getfield 91, 3) := by decide +kernel
theorem dX5_standByDraw_31 : decode cX5_standByDraw 31 = .ok (.invokevirtual 303, 3) := by decide +kernel
theorem dX5_standByDraw_34 : decode cX5_standByDraw 34 = .ok (.istore_n 1, 1) := by decide +kernel
theorem dX5_standByDraw_35 : decode cX5_standByDraw 35 = .ok (.aload_n 0, 1) := by decide +kernel
theorem dX5_standByDraw_36 : decode cX5_standByDraw 36 = .ok (.aload_n 0, 1) := by decide +kernel
theorem dX5_standByDraw_37 : decode cX5_standByDraw 37 = .ok (.getfield 19, 3) := by decide +kernel
theorem dX5_standByDraw_40 : decode cX5_standByDraw 40 = .ok (.getfield 100, 3) := by decide +kernel
theorem dX5_standByDraw_43 : decode cX5_standByDraw 43 = .ok (.invokevirtual 303, 3) := by decide +kernel
theorem dX5_standByDraw_46 : decode cX5_standByDraw 46 = .ok (.istore_n 2, 1) := by decide +kernel
theorem dX5_standByDraw_47 : decode cX5_standByDraw 47 = .ok (.aload_n 0, 1) := by decide +kernel
theorem dX5_standByDraw_48 : decode cX5_standByDraw 48 = .ok (.iload_n 2, 1) := by decide +kernel
theorem dX5_standByDraw_49 : decode cX5_standByDraw 49 = .ok (.invokevirtual 156, 3) := by decide +kernel
theorem dX5_standByDraw_52 : decode cX5_standByDraw 52 = .ok (.ifCond .eq 25, 3) := by decide +kernel
theorem dX5_standByDraw_55 : decode cX5_standByDraw 55 = .ok (.aload_n 0, 1) := by decide +kernel
theorem dX5_standByDraw_56 : decode cX5_standByDraw 56 = .ok (.getfield 26, 3) := by decide +kernel
theorem dX5_standByDraw_59 : decode cX5_standByDraw 59 = .ok (.getfield 162, 3) := by decide +kernel
theorem dX5_standByDraw_62 : decode cX5_standByDraw 62 = .ok (.iload_n 2, 1) := by decide +kernel
theorem dX5_standByDraw_63 : decode cX5_standByDraw 63 = .ok (.iaload, 1) := by decide +kernel
theorem dX5_standByDraw_64 : decode cX5_standByDraw 64 = .ok (.iconst (-1), 1) := by decide +kernel
theorem dX5_standByDraw_65 : decode cX5_standByDraw 65 = .ok (.if_icmp .ne 12, 3) := by decide +kernel
theorem dX5_standByDraw_68 : decode cX5_standByDraw 68 = .ok (.aload_n 0, 1) := by decide +kernel
theorem dX5_standByDraw_69 : decode cX5_standByDraw 69 = .ok (.getfield 26, 3) := by decide +kernel
theorem dX5_standByDraw_72 : decode cX5_standByDraw 72 = .ok (.iload_n 1, 1) := by decide +kernel
theorem dX5_standByDraw_73 : decode cX5_standByDraw 73 = .ok (.iload_n 2, 1) := by decide +kernel
theorem dX5_standByDraw_74 : decode cX5_standByDraw 74 = .ok (.invokevirtual 196, 3) := by decide +kernel
theorem dX5_standByDraw_77 : decode cX5_standByDraw 77 = .ok (.return_, 1) := by decide +kernel
theorem dX5_nextDraw_0 : decode cX5_nextDraw 0 = .ok (.aload_n 0, 1) := by decide +kernel
theorem dX5_nextDraw_1 : decode cX5_nextDraw 1 = .ok (.aload_n 0, 1) := by decide +kernel
theorem dX5_nextDraw_2 : decode cX5_nextDraw 2 = .ok (.getfield 279, 3) := by decide +kernel
theorem dX5_nextDraw_5 : decode cX5_nextDraw 5 = .ok (.ldc_w 309, 3) := by decide +kernel
theorem dX5_nextDraw_8 : decode cX5_nextDraw 8 = .ok (.imul, 1) := by decide +kernel
theorem dX5_nextDraw_9 : decode cX5_nextDraw 9 = .ok (.sipush 12345, 3) := by decide +kernel
theorem dX5_nextDraw_12 : decode cX5_nextDraw 12 = .ok (.iadd, 1) := by decide +kernel
theorem dX5_nextDraw_13 : decode cX5_nextDraw 13 = .ok (.ldc_w 310, 3) := by decide +kernel
theorem dX5_nextDraw_16 : decode cX5_nextDraw 16 = .ok (.iand, 1) := by decide +kernel
theorem dX5_nextDraw_17 : decode cX5_nextDraw 17 = .ok (.putfield 279, 3) := by decide +kernel
theorem dX5_nextDraw_20 : decode cX5_nextDraw 20 = .ok (.iload_n 1, 1) := by decide +kernel
theorem dX5_nextDraw_21 : decode cX5_nextDraw 21 = .ok (.iconst 1, 1) := by decide +kernel
theorem dX5_nextDraw_22 : decode cX5_nextDraw 22 = .ok (.if_icmp .ge 7, 3) := by decide +kernel
theorem dX5_nextDraw_25 : decode cX5_nextDraw 25 = .ok (.iconst 0, 1) := by decide +kernel
theorem dX5_nextDraw_26 : decode cX5_nextDraw 26 = .ok (.goto 13, 3) := by decide +kernel
theorem dX5_nextDraw_29 : decode cX5_nextDraw 29 = .ok (.aload_n 0, 1) := by decide +kernel
theorem dX5_nextDraw_30 : decode cX5_nextDraw 30 = .ok (.getfield 279, 3) := by decide +kernel
theorem dX5_nextDraw_33 : decode cX5_nextDraw 33 = .ok (.ldc_w 311, 3) := by decide +kernel
theorem dX5_nextDraw_36 : decode cX5_nextDraw 36 = .ok (.idiv, 1) := by decide +kernel
theorem dX5_nextDraw_37 : decode cX5_nextDraw 37 = .ok (.iload_n 1, 1) := by decide +kernel
theorem dX5_nextDraw_38 : decode cX5_nextDraw 38 = .ok (.irem, 1) := by decide +kernel
theorem dX5_nextDraw_39 : decode cX5_nextDraw 39 = .ok (.ireturn, 1) := by decide +kernel
set_option maxRecDepth 20000 in
theorem ggX5_placeFrom_X3_takeChosen : GoodIn wsX5_placeFrom wsX3_takeChosen := goodIn_r _ [4, 5, 6, 7, 8, 12, 13, 14, 15, 16, 17] (by decide +kernel) (by decide +kernel)
set_option maxRecDepth 20000 in
theorem gX5_placeFrom_X3_takeChosen_n313 : GoodIn wsX5_placeFrom (wsX3_takeChosen) := ggX5_placeFrom_X3_takeChosen
set_option maxRecDepth 20000 in
theorem ggX5_placeFrom_X5_placeFrom : GoodIn wsX5_placeFrom wsX5_placeFrom := goodIn_r _ [0, 1, 2, 3, 4, 5, 6, 7, 8, 9, 10, 11, 12, 13, 14, 15, 16, 17] (by decide +kernel) (by decide +kernel)
set_option maxRecDepth 20000 in
theorem gX5_placeFrom_X5_placeFrom : GoodIn wsX5_placeFrom (va_wsS RX5 234 yX5_placeFrom wsX5_placeFrom) := goodIn_app (goodIn_of _ (by decide +kernel)) ggX5_placeFrom_X5_placeFrom
theorem dX5_placeFrom_0 : decode cX5_placeFrom 0 = .ok (.iload 4, 2) := by decide +kernel
theorem dX5_placeFrom_2 : decode cX5_placeFrom 2 = .ok (.aload_n 0, 1) := by decide +kernel
theorem dX5_placeFrom_3 : decode cX5_placeFrom 3 = .ok (.getfield 312, 3) := by decide +kernel
theorem dX5_placeFrom_6 : decode cX5_placeFrom 6 = .ok (.iadd, 1) := by decide +kernel
theorem dX5_placeFrom_7 : decode cX5_placeFrom 7 = .ok (.iload_n 1, 1) := by decide +kernel
theorem dX5_placeFrom_8 : decode cX5_placeFrom 8 = .ok (.isub, 1) := by decide +kernel
theorem dX5_placeFrom_9 : decode cX5_placeFrom 9 = .ok (.aload_n 0, 1) := by decide +kernel
theorem dX5_placeFrom_10 : decode cX5_placeFrom 10 = .ok (.getfield 238, 3) := by decide +kernel
theorem dX5_placeFrom_13 : decode cX5_placeFrom 13 = .ok (.if_icmp .gt 4, 3) := by decide +kernel
theorem dX5_placeFrom_16 : decode cX5_placeFrom 16 = .ok (.return_, 1) := by decide +kernel
theorem dX5_placeFrom_17 : decode cX5_placeFrom 17 = .ok (.iload_n 1, 1) := by decide +kernel
theorem dX5_placeFrom_18 : decode cX5_placeFrom 18 = .ok (.aload_n 0, 1) := by decide +kernel
theorem dX5_placeFrom_19 : decode cX5_placeFrom 19 = .ok (.getfield 312, 3) := by decide +kernel
theorem dX5_placeFrom_22 : decode cX5_placeFrom 22 = .ok (.if_icmp .ge 8, 3) := by decide +kernel
theorem dX5_placeFrom_25 : decode cX5_placeFrom 25 = .ok (.iload_n 1, 1) := by decide +kernel
theorem dX5_placeFrom_26 : decode cX5_placeFrom 26 = .ok (.iconst 5, 1) := by decide +kernel
theorem dX5_placeFrom_27 : decode cX5_placeFrom 27 = .ok (.if_icmp .lt 10, 3) := by decide +kernel
theorem dX5_placeFrom_30 : decode cX5_placeFrom 30 = .ok (.aload_n 0, 1) := by decide +kernel
theorem dX5_placeFrom_31 : decode cX5_placeFrom 31 = .ok (.iload 4, 2) := by decide +kernel
theorem dX5_placeFrom_33 : decode cX5_placeFrom 33 = .ok (.invokevirtual 313, 3) := by decide +kernel
theorem dX5_placeFrom_36 : decode cX5_placeFrom 36 = .ok (.return_, 1) := by decide +kernel
theorem dX5_placeFrom_37 : decode cX5_placeFrom 37 = .ok (.iconst 0, 1) := by decide +kernel
theorem dX5_placeFrom_38 : decode cX5_placeFrom 38 = .ok (.istore 5, 2) := by decide +kernel
theorem dX5_placeFrom_40 : decode cX5_placeFrom 40 = .ok (.iload 5, 2) := by decide +kernel
theorem dX5_placeFrom_42 : decode cX5_placeFrom 42 = .ok (.aload_n 0, 1) := by decide +kernel
theorem dX5_placeFrom_43 : decode cX5_placeFrom 43 = .ok (.getfield 316, 3) := by decide +kernel
theorem dX5_placeFrom_46 : decode cX5_placeFrom 46 = .ok (.if_icmp .ge 73, 3) := by decide +kernel
theorem dX5_placeFrom_49 : decode cX5_placeFrom 49 = .ok (.aload_n 0, 1) := by decide +kernel
theorem dX5_placeFrom_50 : decode cX5_placeFrom 50 = .ok (.getfield 231, 3) := by decide +kernel
theorem dX5_placeFrom_53 : decode cX5_placeFrom 53 = .ok (.iload_n 1, 1) := by decide +kernel
theorem dX5_placeFrom_54 : decode cX5_placeFrom 54 = .ok (.bipush 6, 2) := by decide +kernel
theorem dX5_placeFrom_56 : decode cX5_placeFrom 56 = .ok (.imul, 1) := by decide +kernel
theorem dX5_placeFrom_57 : decode cX5_placeFrom 57 = .ok (.iload 5, 2) := by decide +kernel
theorem dX5_placeFrom_59 : decode cX5_placeFrom 59 = .ok (.iadd, 1) := by decide +kernel
theorem dX5_placeFrom_60 : decode cX5_placeFrom 60 = .ok (.iaload, 1) := by decide +kernel
theorem dX5_placeFrom_61 : decode cX5_placeFrom 61 = .ok (.istore 6, 2) := by decide +kernel
theorem dX5_placeFrom_63 : decode cX5_placeFrom 63 = .ok (.iload_n 3, 1) := by decide +kernel
theorem dX5_placeFrom_64 : decode cX5_placeFrom 64 = .ok (.iload 5, 2) := by decide +kernel
theorem dX5_placeFrom_66 : decode cX5_placeFrom 66 = .ok (.ishr, 1) := by decide +kernel
theorem dX5_placeFrom_67 : decode cX5_placeFrom 67 = .ok (.iconst 1, 1) := by decide +kernel
theorem dX5_placeFrom_68 : decode cX5_placeFrom 68 = .ok (.iand, 1) := by decide +kernel
theorem dX5_placeFrom_69 : decode cX5_placeFrom 69 = .ok (.ifCond .ne 44, 3) := by decide +kernel
theorem dX5_placeFrom_72 : decode cX5_placeFrom 72 = .ok (.iload 6, 2) := by decide +kernel
theorem dX5_placeFrom_74 : decode cX5_placeFrom 74 = .ok (.ifCond .eq 39, 3) := by decide +kernel
theorem dX5_placeFrom_77 : decode cX5_placeFrom 77 = .ok (.iload 6, 2) := by decide +kernel
theorem dX5_placeFrom_79 : decode cX5_placeFrom 79 = .ok (.iload_n 2, 1) := by decide +kernel
theorem dX5_placeFrom_80 : decode cX5_placeFrom 80 = .ok (.iand, 1) := by decide +kernel
theorem dX5_placeFrom_81 : decode cX5_placeFrom 81 = .ok (.ifCond .ne 32, 3) := by decide +kernel
theorem dX5_placeFrom_84 : decode cX5_placeFrom 84 = .ok (.aload_n 0, 1) := by decide +kernel
theorem dX5_placeFrom_85 : decode cX5_placeFrom 85 = .ok (.getfield 317, 3) := by decide +kernel
theorem dX5_placeFrom_88 : decode cX5_placeFrom 88 = .ok (.iload_n 1, 1) := by decide +kernel
theorem dX5_placeFrom_89 : decode cX5_placeFrom 89 = .ok (.iload 5, 2) := by decide +kernel
theorem dX5_placeFrom_91 : decode cX5_placeFrom 91 = .ok (.iastore, 1) := by decide +kernel
theorem dX5_placeFrom_92 : decode cX5_placeFrom 92 = .ok (.aload_n 0, 1) := by decide +kernel
theorem dX5_placeFrom_93 : decode cX5_placeFrom 93 = .ok (.iload_n 1, 1) := by decide +kernel
theorem dX5_placeFrom_94 : decode cX5_placeFrom 94 = .ok (.iconst 1, 1) := by decide +kernel
theorem dX5_placeFrom_95 : decode cX5_placeFrom 95 = .ok (.iadd, 1) := by decide +kernel
theorem dX5_placeFrom_96 : decode cX5_placeFrom 96 = .ok (.iload_n 2, 1) := by decide +kernel
theorem dX5_placeFrom_97 : decode cX5_placeFrom 97 = .ok (.iload 6, 2) := by decide +kernel
theorem dX5_placeFrom_99 : decode cX5_placeFrom 99 = .ok (.ior, 1) := by decide +kernel
theorem dX5_placeFrom_100 : decode cX5_placeFrom 100 = .ok (.iload_n 3, 1) := by decide +kernel
theorem dX5_placeFrom_101 : decode cX5_placeFrom 101 = .ok (.iconst 1, 1) := by decide +kernel
theorem dX5_placeFrom_102 : decode cX5_placeFrom 102 = .ok (.iload 5, 2) := by decide +kernel
theorem dX5_placeFrom_104 : decode cX5_placeFrom 104 = .ok (.ishl, 1) := by decide +kernel
theorem dX5_placeFrom_105 : decode cX5_placeFrom 105 = .ok (.ior, 1) := by decide +kernel
theorem dX5_placeFrom_106 : decode cX5_placeFrom 106 = .ok (.iload 4, 2) := by decide +kernel
theorem dX5_placeFrom_108 : decode cX5_placeFrom 108 = .ok (.iconst 1, 1) := by decide +kernel
theorem dX5_placeFrom_109 : decode cX5_placeFrom 109 = .ok (.iadd, 1) := by decide +kernel
theorem dX5_placeFrom_110 : decode cX5_placeFrom 110 = .ok (.invokestatic 234, 3) := by decide +kernel
theorem dX5_placeFrom_113 : decode cX5_placeFrom 113 = .ok (.iinc 5 1, 3) := by decide +kernel
theorem dX5_placeFrom_116 : decode cX5_placeFrom 116 = .ok (.goto (-76), 3) := by decide +kernel
theorem dX5_placeFrom_119 : decode cX5_placeFrom 119 = .ok (.aload_n 0, 1) := by decide +kernel
theorem dX5_placeFrom_120 : decode cX5_placeFrom 120 = .ok (.getfield 317, 3) := by decide +kernel
theorem dX5_placeFrom_123 : decode cX5_placeFrom 123 = .ok (.iload_n 1, 1) := by decide +kernel
theorem dX5_placeFrom_124 : decode cX5_placeFrom 124 = .ok (.iconst (-1), 1) := by decide +kernel
theorem dX5_placeFrom_125 : decode cX5_placeFrom 125 = .ok (.iastore, 1) := by decide +kernel
theorem dX5_placeFrom_126 : decode cX5_placeFrom 126 = .ok (.aload_n 0, 1) := by decide +kernel
theorem dX5_placeFrom_127 : decode cX5_placeFrom 127 = .ok (.iload_n 1, 1) := by decide +kernel
theorem dX5_placeFrom_128 : decode cX5_placeFrom 128 = .ok (.iconst 1, 1) := by decide +kernel
theorem dX5_placeFrom_129 : decode cX5_placeFrom 129 = .ok (.iadd, 1) := by decide +kernel
theorem dX5_placeFrom_130 : decode cX5_placeFrom 130 = .ok (.iload_n 2, 1) := by decide +kernel
theorem dX5_placeFrom_131 : decode cX5_placeFrom 131 = .ok (.iload_n 3, 1) := by decide +kernel
theorem dX5_placeFrom_132 : decode cX5_placeFrom 132 = .ok (.iload 4, 2) := by decide +kernel
theorem dX5_placeFrom_134 : decode cX5_placeFrom 134 = .ok (.invokestatic 234, 3) := by decide +kernel
theorem dX5_placeFrom_137 : decode cX5_placeFrom 137 = .ok (.return_, 1) := by decide +kernel
set_option maxRecDepth 20000 in
theorem ggX5_countVotes_X5_mostLike : GoodIn wsX5_countVotes wsX5_mostLike := goodIn_r _ [8, 2, 9, 10, 11, 12, 13, 14, 15, 20, 21, 22, 23, 24, 25, 26, 27, 28, 29, 30, 31, 32, 33, 34, 35, 36, 37, 38, 39, 40] (by decide +kernel) (by decide +kernel)
set_option maxRecDepth 20000 in
theorem gX5_countVotes_X5_mostLike : GoodIn wsX5_countVotes (wsV RX5 169 RX5 yX5_mostLike wsX5_mostLike) := goodIn_app (goodIn_of _ (by decide +kernel)) ggX5_countVotes_X5_mostLike
set_option maxRecDepth 20000 in
theorem ggX5_countVotes_X5_isSitter : GoodIn wsX5_countVotes wsX5_isSitter := goodIn_r _ [19, 2, 20, 21, 22, 23, 24, 25, 26, 27, 28, 29, 30, 31, 32, 33, 34, 35, 36, 37, 38, 39, 40] (by decide +kernel) (by decide +kernel)
set_option maxRecDepth 20000 in
theorem gX5_countVotes_X5_isSitter : GoodIn wsX5_countVotes (wsV RX5 141 RX5 yX5_isSitter wsX5_isSitter) := goodIn_app (goodIn_of _ (by decide +kernel)) ggX5_countVotes_X5_isSitter
theorem dX5_countVotes_0 : decode cX5_countVotes 0 = .ok (.iconst 0, 1) := by decide +kernel
theorem dX5_countVotes_1 : decode cX5_countVotes 1 = .ok (.istore_n 2, 1) := by decide +kernel
theorem dX5_countVotes_2 : decode cX5_countVotes 2 = .ok (.iload_n 2, 1) := by decide +kernel
theorem dX5_countVotes_3 : decode cX5_countVotes 3 = .ok (.bipush 6, 2) := by decide +kernel
theorem dX5_countVotes_5 : decode cX5_countVotes 5 = .ok (.if_icmp .ge 16, 3) := by decide +kernel
theorem dX5_countVotes_8 : decode cX5_countVotes 8 = .ok (.aload_n 0, 1) := by decide +kernel
theorem dX5_countVotes_9 : decode cX5_countVotes 9 = .ok (.getfield 56, 3) := by decide +kernel
theorem dX5_countVotes_12 : decode cX5_countVotes 12 = .ok (.iload_n 2, 1) := by decide +kernel
theorem dX5_countVotes_13 : decode cX5_countVotes 13 = .ok (.iconst 0, 1) := by decide +kernel
theorem dX5_countVotes_14 : decode cX5_countVotes 14 = .ok (.iastore, 1) := by decide +kernel
theorem dX5_countVotes_15 : decode cX5_countVotes 15 = .ok (.iinc 2 1, 3) := by decide +kernel
theorem dX5_countVotes_18 : decode cX5_countVotes 18 = .ok (.goto (-16), 3) := by decide +kernel
theorem dX5_countVotes_21 : decode cX5_countVotes 21 = .ok (.iconst 0, 1) := by decide +kernel
theorem dX5_countVotes_22 : decode cX5_countVotes 22 = .ok (.istore_n 2, 1) := by decide +kernel
theorem dX5_countVotes_23 : decode cX5_countVotes 23 = .ok (.iload_n 2, 1) := by decide +kernel
theorem dX5_countVotes_24 : decode cX5_countVotes 24 = .ok (.aload_n 0, 1) := by decide +kernel
theorem dX5_countVotes_25 : decode cX5_countVotes 25 = .ok (.getfield 19, 3) := by decide +kernel
theorem dX5_countVotes_28 : decode cX5_countVotes 28 = .ok (.getfield 103, 3) := by decide +kernel
theorem dX5_countVotes_31 : decode cX5_countVotes 31 = .ok (.if_icmp .ge 46, 3) := by decide +kernel
theorem dX5_countVotes_34 : decode cX5_countVotes 34 = .ok (.aload_n 0, 1) := by decide +kernel
theorem dX5_countVotes_35 : decode cX5_countVotes 35 = .ok (.iload_n 1, 1) := by decide +kernel
theorem dX5_countVotes_36 : decode cX5_countVotes 36 = .ok (.aload_n 0, 1) := by decide +kernel
theorem dX5_countVotes_37 : decode cX5_countVotes 37 = .ok (.getfield 19, 3) := by decide +kernel
theorem dX5_countVotes_40 : decode cX5_countVotes 40 = .ok (.getfield 320, 3) := by decide +kernel
theorem dX5_countVotes_43 : decode cX5_countVotes 43 = .ok (.iload_n 2, 1) := by decide +kernel
theorem dX5_countVotes_44 : decode cX5_countVotes 44 = .ok (.iaload, 1) := by decide +kernel
theorem dX5_countVotes_45 : decode cX5_countVotes 45 = .ok (.ldc_w 289, 3) := by decide +kernel
theorem dX5_countVotes_48 : decode cX5_countVotes 48 = .ok (.imul, 1) := by decide +kernel
theorem dX5_countVotes_49 : decode cX5_countVotes 49 = .ok (.invokevirtual 169, 3) := by decide +kernel
theorem dX5_countVotes_52 : decode cX5_countVotes 52 = .ok (.istore_n 3, 1) := by decide +kernel
theorem dX5_countVotes_53 : decode cX5_countVotes 53 = .ok (.aload_n 0, 1) := by decide +kernel
theorem dX5_countVotes_54 : decode cX5_countVotes 54 = .ok (.iload_n 3, 1) := by decide +kernel
theorem dX5_countVotes_55 : decode cX5_countVotes 55 = .ok (.invokevirtual 141, 3) := by decide +kernel
theorem dX5_countVotes_58 : decode cX5_countVotes 58 = .ok (.ifCond .eq 13, 3) := by decide +kernel
theorem dX5_countVotes_61 : decode cX5_countVotes 61 = .ok (.aload_n 0, 1) := by decide +kernel
theorem dX5_countVotes_62 : decode cX5_countVotes 62 = .ok (.getfield 56, 3) := by decide +kernel
theorem dX5_countVotes_65 : decode cX5_countVotes 65 = .ok (.iload_n 3, 1) := by decide +kernel
theorem dX5_countVotes_66 : decode cX5_countVotes 66 = .ok (.dup2, 1) := by decide +kernel
theorem dX5_countVotes_67 : decode cX5_countVotes 67 = .ok (.iaload, 1) := by decide +kernel
theorem dX5_countVotes_68 : decode cX5_countVotes 68 = .ok (.iconst 1, 1) := by decide +kernel
theorem dX5_countVotes_69 : decode cX5_countVotes 69 = .ok (.iadd, 1) := by decide +kernel
theorem dX5_countVotes_70 : decode cX5_countVotes 70 = .ok (.iastore, 1) := by decide +kernel
theorem dX5_countVotes_71 : decode cX5_countVotes 71 = .ok (.iinc 2 1, 3) := by decide +kernel
theorem dX5_countVotes_74 : decode cX5_countVotes 74 = .ok (.goto (-51), 3) := by decide +kernel
theorem dX5_countVotes_77 : decode cX5_countVotes 77 = .ok (.return_, 1) := by decide +kernel
theorem dX5_elected_0 : decode cX5_elected 0 = .ok (.iconst (-1), 1) := by decide +kernel
theorem dX5_elected_1 : decode cX5_elected 1 = .ok (.istore_n 1, 1) := by decide +kernel
theorem dX5_elected_2 : decode cX5_elected 2 = .ok (.iconst 0, 1) := by decide +kernel
theorem dX5_elected_3 : decode cX5_elected 3 = .ok (.istore_n 2, 1) := by decide +kernel
theorem dX5_elected_4 : decode cX5_elected 4 = .ok (.iconst 0, 1) := by decide +kernel
theorem dX5_elected_5 : decode cX5_elected 5 = .ok (.istore_n 3, 1) := by decide +kernel
theorem dX5_elected_6 : decode cX5_elected 6 = .ok (.iload_n 3, 1) := by decide +kernel
theorem dX5_elected_7 : decode cX5_elected 7 = .ok (.aload_n 0, 1) := by decide +kernel
theorem dX5_elected_8 : decode cX5_elected 8 = .ok (.getfield 19, 3) := by decide +kernel
theorem dX5_elected_11 : decode cX5_elected 11 = .ok (.getfield 91, 3) := by decide +kernel
theorem dX5_elected_14 : decode cX5_elected 14 = .ok (.if_icmp .ge 28, 3) := by decide +kernel
theorem dX5_elected_17 : decode cX5_elected 17 = .ok (.aload_n 0, 1) := by decide +kernel
theorem dX5_elected_18 : decode cX5_elected 18 = .ok (.getfield 56, 3) := by decide +kernel
theorem dX5_elected_21 : decode cX5_elected 21 = .ok (.iload_n 3, 1) := by decide +kernel
theorem dX5_elected_22 : decode cX5_elected 22 = .ok (.iaload, 1) := by decide +kernel
theorem dX5_elected_23 : decode cX5_elected 23 = .ok (.iload_n 2, 1) := by decide +kernel
theorem dX5_elected_24 : decode cX5_elected 24 = .ok (.if_icmp .le 12, 3) := by decide +kernel
theorem dX5_elected_27 : decode cX5_elected 27 = .ok (.aload_n 0, 1) := by decide +kernel
theorem dX5_elected_28 : decode cX5_elected 28 = .ok (.getfield 56, 3) := by decide +kernel
theorem dX5_elected_31 : decode cX5_elected 31 = .ok (.iload_n 3, 1) := by decide +kernel
theorem dX5_elected_32 : decode cX5_elected 32 = .ok (.iaload, 1) := by decide +kernel
theorem dX5_elected_33 : decode cX5_elected 33 = .ok (.istore_n 2, 1) := by decide +kernel
theorem dX5_elected_34 : decode cX5_elected 34 = .ok (.iload_n 3, 1) := by decide +kernel
theorem dX5_elected_35 : decode cX5_elected 35 = .ok (.istore_n 1, 1) := by decide +kernel
theorem dX5_elected_36 : decode cX5_elected 36 = .ok (.iinc 3 1, 3) := by decide +kernel
theorem dX5_elected_39 : decode cX5_elected 39 = .ok (.goto (-33), 3) := by decide +kernel
theorem dX5_elected_42 : decode cX5_elected 42 = .ok (.iload_n 1, 1) := by decide +kernel
theorem dX5_elected_43 : decode cX5_elected 43 = .ok (.ireturn, 1) := by decide +kernel
theorem dX5_forgetToldOf_0 : decode cX5_forgetToldOf 0 = .ok (.aload_n 0, 1) := by decide +kernel
theorem dX5_forgetToldOf_1 : decode cX5_forgetToldOf 1 = .ok (.iconst 0, 1) := by decide +kernel
theorem dX5_forgetToldOf_2 : decode cX5_forgetToldOf 2 = .ok (.putfield 132, 3) := by decide +kernel
theorem dX5_forgetToldOf_5 : decode cX5_forgetToldOf 5 = .ok (.aload_n 0, 1) := by decide +kernel
theorem dX5_forgetToldOf_6 : decode cX5_forgetToldOf 6 = .ok (.iconst 0, 1) := by decide +kernel
theorem dX5_forgetToldOf_7 : decode cX5_forgetToldOf 7 = .ok (.putfield 265, 3) := by decide +kernel
theorem dX5_forgetToldOf_10 : decode cX5_forgetToldOf 10 = .ok (.aload_n 0, 1) := by decide +kernel
theorem dX5_forgetToldOf_11 : decode cX5_forgetToldOf 11 = .ok (.iconst 0, 1) := by decide +kernel
theorem dX5_forgetToldOf_12 : decode cX5_forgetToldOf 12 = .ok (.putfield 268, 3) := by decide +kernel
theorem dX5_forgetToldOf_15 : decode cX5_forgetToldOf 15 = .ok (.return_, 1) := by decide +kernel
set_option maxRecDepth 20000 in
theorem ggX5_fits_X5_shifted : GoodIn wsX5_fits wsX5_shifted := goodIn_r _ [7] (by decide +kernel) (by decide +kernel)
set_option maxRecDepth 20000 in
theorem gX5_fits_X5_shifted : GoodIn wsX5_fits (va_wsS RX5 227 yX5_shifted wsX5_shifted) := goodIn_app (goodIn_of _ (by decide +kernel)) ggX5_fits_X5_shifted
theorem dX5_fits_0 : decode cX5_fits 0 = .ok (.aload_n 0, 1) := by decide +kernel
theorem dX5_fits_1 : decode cX5_fits 1 = .ok (.getfield 19, 3) := by decide +kernel
theorem dX5_fits_4 : decode cX5_fits 4 = .ok (.getfield 146, 3) := by decide +kernel
theorem dX5_fits_7 : decode cX5_fits 7 = .ok (.iload_n 1, 1) := by decide +kernel
theorem dX5_fits_8 : decode cX5_fits 8 = .ok (.iaload, 1) := by decide +kernel
theorem dX5_fits_9 : decode cX5_fits 9 = .ok (.iload_n 2, 1) := by decide +kernel
theorem dX5_fits_10 : decode cX5_fits 10 = .ok (.invokestatic 227, 3) := by decide +kernel
theorem dX5_fits_13 : decode cX5_fits 13 = .ok (.istore 4, 2) := by decide +kernel
theorem dX5_fits_15 : decode cX5_fits 15 = .ok (.aload_n 0, 1) := by decide +kernel
theorem dX5_fits_16 : decode cX5_fits 16 = .ok (.getfield 265, 3) := by decide +kernel
theorem dX5_fits_19 : decode cX5_fits 19 = .ok (.iload_n 3, 1) := by decide +kernel
theorem dX5_fits_20 : decode cX5_fits 20 = .ok (.ior, 1) := by decide +kernel
theorem dX5_fits_21 : decode cX5_fits 21 = .ok (.istore 5, 2) := by decide +kernel
theorem dX5_fits_23 : decode cX5_fits 23 = .ok (.iload 4, 2) := by decide +kernel
theorem dX5_fits_25 : decode cX5_fits 25 = .ok (.iload 5, 2) := by decide +kernel
theorem dX5_fits_27 : decode cX5_fits 27 = .ok (.iand, 1) := by decide +kernel
theorem dX5_fits_28 : decode cX5_fits 28 = .ok (.iload 5, 2) := by decide +kernel
theorem dX5_fits_30 : decode cX5_fits 30 = .ok (.if_icmp .ne 17, 3) := by decide +kernel
theorem dX5_fits_33 : decode cX5_fits 33 = .ok (.iload 4, 2) := by decide +kernel
theorem dX5_fits_35 : decode cX5_fits 35 = .ok (.aload_n 0, 1) := by decide +kernel
theorem dX5_fits_36 : decode cX5_fits 36 = .ok (.getfield 268, 3) := by decide +kernel
theorem dX5_fits_39 : decode cX5_fits 39 = .ok (.iand, 1) := by decide +kernel
theorem dX5_fits_40 : decode cX5_fits 40 = .ok (.ifCond .ne 7, 3) := by decide +kernel
theorem dX5_fits_43 : decode cX5_fits 43 = .ok (.iconst 1, 1) := by decide +kernel
theorem dX5_fits_44 : decode cX5_fits 44 = .ok (.goto 4, 3) := by decide +kernel
theorem dX5_fits_47 : decode cX5_fits 47 = .ok (.iconst 0, 1) := by decide +kernel
theorem dX5_fits_48 : decode cX5_fits 48 = .ok (.ireturn, 1) := by decide +kernel
set_option maxRecDepth 20000 in
theorem ggX5_pairsThatFit_X5_fits : GoodIn wsX5_pairsThatFit wsX5_fits := goodIn_r _ [6, 1, 7, 8, 9, 10, 5, 11, 12, 13, 14, 15, 16, 17, 18, 19, 20, 21, 22, 23, 24, 25, 26, 27, 28, 29, 30, 31, 32] (by decide +kernel) (by decide +kernel)
set_option maxRecDepth 20000 in
theorem gX5_pairsThatFit_X5_fits : GoodIn wsX5_pairsThatFit (wsV RX5 323 RX5 yX5_fits wsX5_fits) := goodIn_app (goodIn_of _ (by decide +kernel)) ggX5_pairsThatFit_X5_fits
theorem dX5_pairsThatFit_0 : decode cX5_pairsThatFit 0 = .ok (.iconst 0, 1) := by decide +kernel
theorem dX5_pairsThatFit_1 : decode cX5_pairsThatFit 1 = .ok (.istore_n 2, 1) := by decide +kernel
theorem dX5_pairsThatFit_2 : decode cX5_pairsThatFit 2 = .ok (.iconst 0, 1) := by decide +kernel
theorem dX5_pairsThatFit_3 : decode cX5_pairsThatFit 3 = .ok (.istore_n 3, 1) := by decide +kernel
theorem dX5_pairsThatFit_4 : decode cX5_pairsThatFit 4 = .ok (.iload_n 3, 1) := by decide +kernel
theorem dX5_pairsThatFit_5 : decode cX5_pairsThatFit 5 = .ok (.aload_n 0, 1) := by decide +kernel
theorem dX5_pairsThatFit_6 : decode cX5_pairsThatFit 6 = .ok (.getfield 19, 3) := by decide +kernel
theorem dX5_pairsThatFit_9 : decode cX5_pairsThatFit 9 = .ok (.getfield 91, 3) := by decide +kernel
theorem dX5_pairsThatFit_12 : decode cX5_pairsThatFit 12 = .ok (.if_icmp .ge 38, 3) := by decide +kernel
theorem dX5_pairsThatFit_15 : decode cX5_pairsThatFit 15 = .ok (.iconst 0, 1) := by decide +kernel
theorem dX5_pairsThatFit_16 : decode cX5_pairsThatFit 16 = .ok (.istore 4, 2) := by decide +kernel
theorem dX5_pairsThatFit_18 : decode cX5_pairsThatFit 18 = .ok (.iload 4, 2) := by decide +kernel
theorem dX5_pairsThatFit_20 : decode cX5_pairsThatFit 20 = .ok (.iconst 5, 1) := by decide +kernel
theorem dX5_pairsThatFit_21 : decode cX5_pairsThatFit 21 = .ok (.if_icmp .gt 23, 3) := by decide +kernel
theorem dX5_pairsThatFit_24 : decode cX5_pairsThatFit 24 = .ok (.aload_n 0, 1) := by decide +kernel
theorem dX5_pairsThatFit_25 : decode cX5_pairsThatFit 25 = .ok (.iload_n 3, 1) := by decide +kernel
theorem dX5_pairsThatFit_26 : decode cX5_pairsThatFit 26 = .ok (.iload 4, 2) := by decide +kernel
theorem dX5_pairsThatFit_28 : decode cX5_pairsThatFit 28 = .ok (.iload_n 1, 1) := by decide +kernel
theorem dX5_pairsThatFit_29 : decode cX5_pairsThatFit 29 = .ok (.invokevirtual 323, 3) := by decide +kernel
theorem dX5_pairsThatFit_32 : decode cX5_pairsThatFit 32 = .ok (.ifCond .eq 6, 3) := by decide +kernel
theorem dX5_pairsThatFit_35 : decode cX5_pairsThatFit 35 = .ok (.iinc 2 1, 3) := by decide +kernel
theorem dX5_pairsThatFit_38 : decode cX5_pairsThatFit 38 = .ok (.iinc 4 1, 3) := by decide +kernel
theorem dX5_pairsThatFit_41 : decode cX5_pairsThatFit 41 = .ok (.goto (-23), 3) := by decide +kernel
theorem dX5_pairsThatFit_44 : decode cX5_pairsThatFit 44 = .ok (.iinc 3 1, 3) := by decide +kernel
theorem dX5_pairsThatFit_47 : decode cX5_pairsThatFit 47 = .ok (.goto (-43), 3) := by decide +kernel
theorem dX5_pairsThatFit_50 : decode cX5_pairsThatFit 50 = .ok (.iload_n 2, 1) := by decide +kernel
theorem dX5_pairsThatFit_51 : decode cX5_pairsThatFit 51 = .ok (.ireturn, 1) := by decide +kernel
set_option maxRecDepth 20000 in
theorem ggX5_sittersThatFit_X5_fits : GoodIn wsX5_sittersThatFit wsX5_fits := goodIn_r _ [6, 1, 7, 8, 9, 10, 5, 11, 12, 13, 14, 15, 16, 17, 18, 19, 20, 21, 22, 23, 24, 25, 26, 27, 28, 29, 30, 31, 32] (by decide +kernel) (by decide +kernel)
set_option maxRecDepth 20000 in
theorem gX5_sittersThatFit_X5_fits : GoodIn wsX5_sittersThatFit (wsV RX5 323 RX5 yX5_fits wsX5_fits) := goodIn_app (goodIn_of _ (by decide +kernel)) ggX5_sittersThatFit_X5_fits
theorem dX5_sittersThatFit_0 : decode cX5_sittersThatFit 0 = .ok (.iconst 0, 1) := by decide +kernel
theorem dX5_sittersThatFit_1 : decode cX5_sittersThatFit 1 = .ok (.istore_n 1, 1) := by decide +kernel
theorem dX5_sittersThatFit_2 : decode cX5_sittersThatFit 2 = .ok (.iconst 0, 1) := by decide +kernel
theorem dX5_sittersThatFit_3 : decode cX5_sittersThatFit 3 = .ok (.istore_n 2, 1) := by decide +kernel
theorem dX5_sittersThatFit_4 : decode cX5_sittersThatFit 4 = .ok (.iload_n 2, 1) := by decide +kernel
theorem dX5_sittersThatFit_5 : decode cX5_sittersThatFit 5 = .ok (.aload_n 0, 1) := by decide +kernel
theorem dX5_sittersThatFit_6 : decode cX5_sittersThatFit 6 = .ok (.getfield 19, 3) := by decide +kernel
theorem dX5_sittersThatFit_9 : decode cX5_sittersThatFit 9 = .ok (.getfield 91, 3) := by decide +kernel
theorem dX5_sittersThatFit_12 : decode cX5_sittersThatFit 12 = .ok (.if_icmp .ge 38, 3) := by decide +kernel
theorem dX5_sittersThatFit_15 : decode cX5_sittersThatFit 15 = .ok (.iconst 0, 1) := by decide +kernel
theorem dX5_sittersThatFit_16 : decode cX5_sittersThatFit 16 = .ok (.istore_n 3, 1) := by decide +kernel
theorem dX5_sittersThatFit_17 : decode cX5_sittersThatFit 17 = .ok (.iload_n 3, 1) := by decide +kernel
theorem dX5_sittersThatFit_18 : decode cX5_sittersThatFit 18 = .ok (.iconst 5, 1) := by decide +kernel
theorem dX5_sittersThatFit_19 : decode cX5_sittersThatFit 19 = .ok (.if_icmp .gt 25, 3) := by decide +kernel
theorem dX5_sittersThatFit_22 : decode cX5_sittersThatFit 22 = .ok (.aload_n 0, 1) := by decide +kernel
theorem dX5_sittersThatFit_23 : decode cX5_sittersThatFit 23 = .ok (.iload_n 2, 1) := by decide +kernel
theorem dX5_sittersThatFit_24 : decode cX5_sittersThatFit 24 = .ok (.iload_n 3, 1) := by decide +kernel
theorem dX5_sittersThatFit_25 : decode cX5_sittersThatFit 25 = .ok (.iconst 0, 1) := by decide +kernel
theorem dX5_sittersThatFit_26 : decode cX5_sittersThatFit 26 = .ok (.invokevirtual 323, 3) := by decide +kernel
theorem dX5_sittersThatFit_29 : decode cX5_sittersThatFit 29 = .ok (.ifCond .eq 9, 3) := by decide +kernel
theorem dX5_sittersThatFit_32 : decode cX5_sittersThatFit 32 = .ok (.iload_n 1, 1) := by decide +kernel
theorem dX5_sittersThatFit_33 : decode cX5_sittersThatFit 33 = .ok (.iconst 1, 1) := by decide +kernel
theorem dX5_sittersThatFit_34 : decode cX5_sittersThatFit 34 = .ok (.iload_n 2, 1) := by decide +kernel
theorem dX5_sittersThatFit_35 : decode cX5_sittersThatFit 35 = .ok (.ishl, 1) := by decide +kernel
theorem dX5_sittersThatFit_36 : decode cX5_sittersThatFit 36 = .ok (.ior, 1) := by decide +kernel
theorem dX5_sittersThatFit_37 : decode cX5_sittersThatFit 37 = .ok (.istore_n 1, 1) := by decide +kernel
theorem dX5_sittersThatFit_38 : decode cX5_sittersThatFit 38 = .ok (.iinc 3 1, 3) := by decide +kernel
theorem dX5_sittersThatFit_41 : decode cX5_sittersThatFit 41 = .ok (.goto (-24), 3) := by decide +kernel
theorem dX5_sittersThatFit_44 : decode cX5_sittersThatFit 44 = .ok (.iinc 2 1, 3) := by decide +kernel
theorem dX5_sittersThatFit_47 : decode cX5_sittersThatFit 47 = .ok (.goto (-43), 3) := by decide +kernel
theorem dX5_sittersThatFit_50 : decode cX5_sittersThatFit 50 = .ok (.iload_n 1, 1) := by decide +kernel
theorem dX5_sittersThatFit_51 : decode cX5_sittersThatFit 51 = .ok (.ireturn, 1) := by decide +kernel
