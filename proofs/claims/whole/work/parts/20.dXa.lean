theorem dX0_init_0 : decode cX0_init 0 = .ok (.aload_n 0, 1) := by decide +kernel
theorem dX0_init_1 : decode cX0_init 1 = .ok (.invokespecial 3, 3) := by decide +kernel
theorem dX0_init_4 : decode cX0_init 4 = .ok (.aload_n 0, 1) := by decide +kernel
theorem dX0_init_5 : decode cX0_init 5 = .ok (.bipush 6, 2) := by decide +kernel
theorem dX0_init_7 : decode cX0_init 7 = .ok (.newarray .int, 2) := by decide +kernel
theorem dX0_init_9 : decode cX0_init 9 = .ok (.putfield 9, 3) := by decide +kernel
theorem dX0_init_12 : decode cX0_init 12 = .ok (.aload_n 0, 1) := by decide +kernel
theorem dX0_init_13 : decode cX0_init 13 = .ok (.iconst 5, 1) := by decide +kernel
theorem dX0_init_14 : decode cX0_init 14 = .ok (.newarray .int, 2) := by decide +kernel
theorem dX0_init_16 : decode cX0_init 16 = .ok (.putfield 15, 3) := by decide +kernel
theorem dX0_init_19 : decode cX0_init 19 = .ok (.aload_n 0, 1) := by decide +kernel
theorem dX0_init_20 : decode cX0_init 20 = .ok (.bipush 6, 2) := by decide +kernel
theorem dX0_init_22 : decode cX0_init 22 = .ok (.newarray .int, 2) := by decide +kernel
theorem dX0_init_24 : decode cX0_init 24 = .ok (.putfield 18, 3) := by decide +kernel
theorem dX0_init_27 : decode cX0_init 27 = .ok (.return_, 1) := by decide +kernel
theorem dX0_empty_0 : decode cX0_empty 0 = .ok (.aload_n 0, 1) := by decide +kernel
theorem dX0_empty_1 : decode cX0_empty 1 = .ok (.iconst 0, 1) := by decide +kernel
theorem dX0_empty_2 : decode cX0_empty 2 = .ok (.putfield 21, 3) := by decide +kernel
theorem dX0_empty_5 : decode cX0_empty 5 = .ok (.aload_n 0, 1) := by decide +kernel
theorem dX0_empty_6 : decode cX0_empty 6 = .ok (.iconst 0, 1) := by decide +kernel
theorem dX0_empty_7 : decode cX0_empty 7 = .ok (.putfield 25, 3) := by decide +kernel
theorem dX0_empty_10 : decode cX0_empty 10 = .ok (.aload_n 0, 1) := by decide +kernel
theorem dX0_empty_11 : decode cX0_empty 11 = .ok (.iconst 0, 1) := by decide +kernel
theorem dX0_empty_12 : decode cX0_empty 12 = .ok (.putfield 29, 3) := by decide +kernel
theorem dX0_empty_15 : decode cX0_empty 15 = .ok (.aload_n 0, 1) := by decide +kernel
theorem dX0_empty_16 : decode cX0_empty 16 = .ok (.iconst 0, 1) := by decide +kernel
theorem dX0_empty_17 : decode cX0_empty 17 = .ok (.putfield 32, 3) := by decide +kernel
theorem dX0_empty_20 : decode cX0_empty 20 = .ok (.aload_n 0, 1) := by decide +kernel
theorem dX0_empty_21 : decode cX0_empty 21 = .ok (.iconst 0, 1) := by decide +kernel
theorem dX0_empty_22 : decode cX0_empty 22 = .ok (.putfield 35, 3) := by decide +kernel
theorem dX0_empty_25 : decode cX0_empty 25 = .ok (.return_, 1) := by decide +kernel
theorem dX0_takeFrom_0 : decode cX0_takeFrom 0 = .ok (.aload_n 0, 1) := by decide +kernel
theorem dX0_takeFrom_1 : decode cX0_takeFrom 1 = .ok (.aload_n 1, 1) := by decide +kernel
theorem dX0_takeFrom_2 : decode cX0_takeFrom 2 = .ok (.getfield 21, 3) := by decide +kernel
theorem dX0_takeFrom_5 : decode cX0_takeFrom 5 = .ok (.putfield 21, 3) := by decide +kernel
theorem dX0_takeFrom_8 : decode cX0_takeFrom 8 = .ok (.aload_n 0, 1) := by decide +kernel
theorem dX0_takeFrom_9 : decode cX0_takeFrom 9 = .ok (.aload_n 1, 1) := by decide +kernel
theorem dX0_takeFrom_10 : decode cX0_takeFrom 10 = .ok (.getfield 25, 3) := by decide +kernel
theorem dX0_takeFrom_13 : decode cX0_takeFrom 13 = .ok (.putfield 25, 3) := by decide +kernel
theorem dX0_takeFrom_16 : decode cX0_takeFrom 16 = .ok (.aload_n 0, 1) := by decide +kernel
theorem dX0_takeFrom_17 : decode cX0_takeFrom 17 = .ok (.aload_n 1, 1) := by decide +kernel
theorem dX0_takeFrom_18 : decode cX0_takeFrom 18 = .ok (.getfield 29, 3) := by decide +kernel
theorem dX0_takeFrom_21 : decode cX0_takeFrom 21 = .ok (.putfield 29, 3) := by decide +kernel
theorem dX0_takeFrom_24 : decode cX0_takeFrom 24 = .ok (.aload_n 0, 1) := by decide +kernel
theorem dX0_takeFrom_25 : decode cX0_takeFrom 25 = .ok (.aload_n 1, 1) := by decide +kernel
theorem dX0_takeFrom_26 : decode cX0_takeFrom 26 = .ok (.getfield 32, 3) := by decide +kernel
theorem dX0_takeFrom_29 : decode cX0_takeFrom 29 = .ok (.putfield 32, 3) := by decide +kernel
theorem dX0_takeFrom_32 : decode cX0_takeFrom 32 = .ok (.aload_n 0, 1) := by decide +kernel
theorem dX0_takeFrom_33 : decode cX0_takeFrom 33 = .ok (.aload_n 1, 1) := by decide +kernel
theorem dX0_takeFrom_34 : decode cX0_takeFrom 34 = .ok (.getfield 35, 3) := by decide +kernel
theorem dX0_takeFrom_37 : decode cX0_takeFrom 37 = .ok (.putfield 35, 3) := by decide +kernel
theorem dX0_takeFrom_40 : decode cX0_takeFrom 40 = .ok (.aload_n 1, 1) := by decide +kernel
theorem dX0_takeFrom_41 : decode cX0_takeFrom 41 = .ok (.getfield 9, 3) := by decide +kernel
theorem dX0_takeFrom_44 : decode cX0_takeFrom 44 = .ok (.iconst 0, 1) := by decide +kernel
theorem dX0_takeFrom_45 : decode cX0_takeFrom 45 = .ok (.aload_n 0, 1) := by decide +kernel
theorem dX0_takeFrom_46 : decode cX0_takeFrom 46 = .ok (.getfield 9, 3) := by decide +kernel
theorem dX0_takeFrom_49 : decode cX0_takeFrom 49 = .ok (.iconst 0, 1) := by decide +kernel
theorem dX0_takeFrom_50 : decode cX0_takeFrom 50 = .ok (.bipush 6, 2) := by decide +kernel
theorem dX0_takeFrom_52 : decode cX0_takeFrom 52 = .ok (.invokestatic 38, 3) := by decide +kernel
theorem dX0_takeFrom_55 : decode cX0_takeFrom 55 = .ok (.aload_n 1, 1) := by decide +kernel
theorem dX0_takeFrom_56 : decode cX0_takeFrom 56 = .ok (.getfield 15, 3) := by decide +kernel
theorem dX0_takeFrom_59 : decode cX0_takeFrom 59 = .ok (.iconst 0, 1) := by decide +kernel
theorem dX0_takeFrom_60 : decode cX0_takeFrom 60 = .ok (.aload_n 0, 1) := by decide +kernel
theorem dX0_takeFrom_61 : decode cX0_takeFrom 61 = .ok (.getfield 15, 3) := by decide +kernel
theorem dX0_takeFrom_64 : decode cX0_takeFrom 64 = .ok (.iconst 0, 1) := by decide +kernel
theorem dX0_takeFrom_65 : decode cX0_takeFrom 65 = .ok (.iconst 5, 1) := by decide +kernel
theorem dX0_takeFrom_66 : decode cX0_takeFrom 66 = .ok (.invokestatic 38, 3) := by decide +kernel
theorem dX0_takeFrom_69 : decode cX0_takeFrom 69 = .ok (.aload_n 1, 1) := by decide +kernel
theorem dX0_takeFrom_70 : decode cX0_takeFrom 70 = .ok (.getfield 18, 3) := by decide +kernel
theorem dX0_takeFrom_73 : decode cX0_takeFrom 73 = .ok (.iconst 0, 1) := by decide +kernel
theorem dX0_takeFrom_74 : decode cX0_takeFrom 74 = .ok (.aload_n 0, 1) := by decide +kernel
theorem dX0_takeFrom_75 : decode cX0_takeFrom 75 = .ok (.getfield 18, 3) := by decide +kernel
theorem dX0_takeFrom_78 : decode cX0_takeFrom 78 = .ok (.iconst 0, 1) := by decide +kernel
theorem dX0_takeFrom_79 : decode cX0_takeFrom 79 = .ok (.bipush 6, 2) := by decide +kernel
theorem dX0_takeFrom_81 : decode cX0_takeFrom 81 = .ok (.invokestatic 38, 3) := by decide +kernel
theorem dX0_takeFrom_84 : decode cX0_takeFrom 84 = .ok (.return_, 1) := by decide +kernel
theorem dX1_init_0 : decode cX1_init 0 = .ok (.aload_n 0, 1) := by decide +kernel
theorem dX1_init_1 : decode cX1_init 1 = .ok (.invokespecial 3, 3) := by decide +kernel
theorem dX1_init_4 : decode cX1_init 4 = .ok (.aload_n 0, 1) := by decide +kernel
theorem dX1_init_5 : decode cX1_init 5 = .ok (.iconst 5, 1) := by decide +kernel
theorem dX1_init_6 : decode cX1_init 6 = .ok (.newarray .int, 2) := by decide +kernel
theorem dX1_init_8 : decode cX1_init 8 = .ok (.putfield 9, 3) := by decide +kernel
theorem dX1_init_11 : decode cX1_init 11 = .ok (.aload_n 0, 1) := by decide +kernel
theorem dX1_init_12 : decode cX1_init 12 = .ok (.iconst 5, 1) := by decide +kernel
theorem dX1_init_13 : decode cX1_init 13 = .ok (.newarray .int, 2) := by decide +kernel
theorem dX1_init_15 : decode cX1_init 15 = .ok (.putfield 15, 3) := by decide +kernel
theorem dX1_init_18 : decode cX1_init 18 = .ok (.aload_n 0, 1) := by decide +kernel
theorem dX1_init_19 : decode cX1_init 19 = .ok (.iconst 4, 1) := by decide +kernel
theorem dX1_init_20 : decode cX1_init 20 = .ok (.newarray .int, 2) := by decide +kernel
theorem dX1_init_22 : decode cX1_init 22 = .ok (.putfield 18, 3) := by decide +kernel
theorem dX1_init_25 : decode cX1_init 25 = .ok (.aload_n 0, 1) := by decide +kernel
theorem dX1_init_26 : decode cX1_init 26 = .ok (.bipush 20, 2) := by decide +kernel
theorem dX1_init_28 : decode cX1_init 28 = .ok (.newarray .int, 2) := by decide +kernel
theorem dX1_init_30 : decode cX1_init 30 = .ok (.putfield 21, 3) := by decide +kernel
theorem dX1_init_33 : decode cX1_init 33 = .ok (.aload_n 0, 1) := by decide +kernel
theorem dX1_init_34 : decode cX1_init 34 = .ok (.bipush 20, 2) := by decide +kernel
theorem dX1_init_36 : decode cX1_init 36 = .ok (.newarray .int, 2) := by decide +kernel
theorem dX1_init_38 : decode cX1_init 38 = .ok (.putfield 24, 3) := by decide +kernel
theorem dX1_init_41 : decode cX1_init 41 = .ok (.aload_n 0, 1) := by decide +kernel
theorem dX1_init_42 : decode cX1_init 42 = .ok (.bipush 20, 2) := by decide +kernel
theorem dX1_init_44 : decode cX1_init 44 = .ok (.newarray .int, 2) := by decide +kernel
theorem dX1_init_46 : decode cX1_init 46 = .ok (.putfield 27, 3) := by decide +kernel
theorem dX1_init_49 : decode cX1_init 49 = .ok (.iconst 0, 1) := by decide +kernel
theorem dX1_init_50 : decode cX1_init 50 = .ok (.istore_n 1, 1) := by decide +kernel
theorem dX1_init_51 : decode cX1_init 51 = .ok (.iload_n 1, 1) := by decide +kernel
theorem dX1_init_52 : decode cX1_init 52 = .ok (.iconst 5, 1) := by decide +kernel
theorem dX1_init_53 : decode cX1_init 53 = .ok (.if_icmp .ge 16, 3) := by decide +kernel
theorem dX1_init_56 : decode cX1_init 56 = .ok (.aload_n 0, 1) := by decide +kernel
theorem dX1_init_57 : decode cX1_init 57 = .ok (.getfield 15, 3) := by decide +kernel
theorem dX1_init_60 : decode cX1_init 60 = .ok (.iload_n 1, 1) := by decide +kernel
theorem dX1_init_61 : decode cX1_init 61 = .ok (.iconst (-1), 1) := by decide +kernel
theorem dX1_init_62 : decode cX1_init 62 = .ok (.iastore, 1) := by decide +kernel
theorem dX1_init_63 : decode cX1_init 63 = .ok (.iinc 1 1, 3) := by decide +kernel
theorem dX1_init_66 : decode cX1_init 66 = .ok (.goto (-15), 3) := by decide +kernel
theorem dX1_init_69 : decode cX1_init 69 = .ok (.return_, 1) := by decide +kernel
theorem dX1_begin_0 : decode cX1_begin 0 = .ok (.aload_n 0, 1) := by decide +kernel
theorem dX1_begin_1 : decode cX1_begin 1 = .ok (.iconst 0, 1) := by decide +kernel
theorem dX1_begin_2 : decode cX1_begin 2 = .ok (.putfield 30, 3) := by decide +kernel
theorem dX1_begin_5 : decode cX1_begin 5 = .ok (.aload_n 0, 1) := by decide +kernel
theorem dX1_begin_6 : decode cX1_begin 6 = .ok (.iconst 0, 1) := by decide +kernel
theorem dX1_begin_7 : decode cX1_begin 7 = .ok (.putfield 34, 3) := by decide +kernel
theorem dX1_begin_10 : decode cX1_begin 10 = .ok (.aload_n 0, 1) := by decide +kernel
theorem dX1_begin_11 : decode cX1_begin 11 = .ok (.iconst 0, 1) := by decide +kernel
theorem dX1_begin_12 : decode cX1_begin 12 = .ok (.putfield 37, 3) := by decide +kernel
theorem dX1_begin_15 : decode cX1_begin 15 = .ok (.aload_n 0, 1) := by decide +kernel
theorem dX1_begin_16 : decode cX1_begin 16 = .ok (.iconst 0, 1) := by decide +kernel
theorem dX1_begin_17 : decode cX1_begin 17 = .ok (.putfield 40, 3) := by decide +kernel
theorem dX1_begin_20 : decode cX1_begin 20 = .ok (.aload_n 0, 1) := by decide +kernel
theorem dX1_begin_21 : decode cX1_begin 21 = .ok (.iconst 0, 1) := by decide +kernel
theorem dX1_begin_22 : decode cX1_begin 22 = .ok (.putfield 44, 3) := by decide +kernel
theorem dX1_begin_25 : decode cX1_begin 25 = .ok (.aload_n 0, 1) := by decide +kernel
theorem dX1_begin_26 : decode cX1_begin 26 = .ok (.iconst 0, 1) := by decide +kernel
theorem dX1_begin_27 : decode cX1_begin 27 = .ok (.putfield 47, 3) := by decide +kernel
theorem dX1_begin_30 : decode cX1_begin 30 = .ok (.aload_n 0, 1) := by decide +kernel
theorem dX1_begin_31 : decode cX1_begin 31 = .ok (.iconst 0, 1) := by decide +kernel
theorem dX1_begin_32 : decode cX1_begin 32 = .ok (.putfield 50, 3) := by decide +kernel
theorem dX1_begin_35 : decode cX1_begin 35 = .ok (.aload_n 0, 1) := by decide +kernel
theorem dX1_begin_36 : decode cX1_begin 36 = .ok (.iconst 0, 1) := by decide +kernel
theorem dX1_begin_37 : decode cX1_begin 37 = .ok (.putfield 53, 3) := by decide +kernel
theorem dX1_begin_40 : decode cX1_begin 40 = .ok (.iconst 0, 1) := by decide +kernel
theorem dX1_begin_41 : decode cX1_begin 41 = .ok (.istore_n 2, 1) := by decide +kernel
theorem dX1_begin_42 : decode cX1_begin 42 = .ok (.iload_n 2, 1) := by decide +kernel
theorem dX1_begin_43 : decode cX1_begin 43 = .ok (.iconst 5, 1) := by decide +kernel
theorem dX1_begin_44 : decode cX1_begin 44 = .ok (.if_icmp .ge 28, 3) := by decide +kernel
theorem dX1_begin_47 : decode cX1_begin 47 = .ok (.aload_n 0, 1) := by decide +kernel
theorem dX1_begin_48 : decode cX1_begin 48 = .ok (.getfield 9, 3) := by decide +kernel
theorem dX1_begin_51 : decode cX1_begin 51 = .ok (.iload_n 2, 1) := by decide +kernel
theorem dX1_begin_52 : decode cX1_begin 52 = .ok (.aload_n 1, 1) := by decide +kernel
theorem dX1_begin_53 : decode cX1_begin 53 = .ok (.getfield 56, 3) := by decide +kernel
theorem dX1_begin_56 : decode cX1_begin 56 = .ok (.iload_n 2, 1) := by decide +kernel
theorem dX1_begin_57 : decode cX1_begin 57 = .ok (.iaload, 1) := by decide +kernel
theorem dX1_begin_58 : decode cX1_begin 58 = .ok (.iastore, 1) := by decide +kernel
theorem dX1_begin_59 : decode cX1_begin 59 = .ok (.aload_n 0, 1) := by decide +kernel
theorem dX1_begin_60 : decode cX1_begin 60 = .ok (.getfield 15, 3) := by decide +kernel
theorem dX1_begin_63 : decode cX1_begin 63 = .ok (.iload_n 2, 1) := by decide +kernel
theorem dX1_begin_64 : decode cX1_begin 64 = .ok (.iconst (-1), 1) := by decide +kernel
theorem dX1_begin_65 : decode cX1_begin 65 = .ok (.iastore, 1) := by decide +kernel
theorem dX1_begin_66 : decode cX1_begin 66 = .ok (.iinc 2 1, 3) := by decide +kernel
theorem dX1_begin_69 : decode cX1_begin 69 = .ok (.goto (-27), 3) := by decide +kernel
theorem dX1_begin_72 : decode cX1_begin 72 = .ok (.iconst 0, 1) := by decide +kernel
theorem dX1_begin_73 : decode cX1_begin 73 = .ok (.istore_n 2, 1) := by decide +kernel
theorem dX1_begin_74 : decode cX1_begin 74 = .ok (.iload_n 2, 1) := by decide +kernel
theorem dX1_begin_75 : decode cX1_begin 75 = .ok (.iconst 4, 1) := by decide +kernel
theorem dX1_begin_76 : decode cX1_begin 76 = .ok (.if_icmp .ge 16, 3) := by decide +kernel
theorem dX1_begin_79 : decode cX1_begin 79 = .ok (.aload_n 0, 1) := by decide +kernel
theorem dX1_begin_80 : decode cX1_begin 80 = .ok (.getfield 18, 3) := by decide +kernel
theorem dX1_begin_83 : decode cX1_begin 83 = .ok (.iload_n 2, 1) := by decide +kernel
theorem dX1_begin_84 : decode cX1_begin 84 = .ok (.iconst 0, 1) := by decide +kernel
theorem dX1_begin_85 : decode cX1_begin 85 = .ok (.iastore, 1) := by decide +kernel
theorem dX1_begin_86 : decode cX1_begin 86 = .ok (.iinc 2 1, 3) := by decide +kernel
theorem dX1_begin_89 : decode cX1_begin 89 = .ok (.goto (-15), 3) := by decide +kernel
theorem dX1_begin_92 : decode cX1_begin 92 = .ok (.return_, 1) := by decide +kernel
theorem dX1_copy_0 : decode cX1_copy 0 = .ok (.aload_n 0, 1) := by decide +kernel
theorem dX1_copy_1 : decode cX1_copy 1 = .ok (.ifnull 7, 3) := by decide +kernel
theorem dX1_copy_4 : decode cX1_copy 4 = .ok (.aload_n 1, 1) := by decide +kernel
theorem dX1_copy_5 : decode cX1_copy 5 = .ok (.ifnonnull 4, 3) := by decide +kernel
theorem dX1_copy_8 : decode cX1_copy 8 = .ok (.return_, 1) := by decide +kernel
theorem dX1_copy_9 : decode cX1_copy 9 = .ok (.aload_n 1, 1) := by decide +kernel
theorem dX1_copy_10 : decode cX1_copy 10 = .ok (.aload_n 0, 1) := by decide +kernel
theorem dX1_copy_11 : decode cX1_copy 11 = .ok (.getfield 30, 3) := by decide +kernel
theorem dX1_copy_14 : decode cX1_copy 14 = .ok (.putfield 30, 3) := by decide +kernel
theorem dX1_copy_17 : decode cX1_copy 17 = .ok (.aload_n 1, 1) := by decide +kernel
theorem dX1_copy_18 : decode cX1_copy 18 = .ok (.aload_n 0, 1) := by decide +kernel
theorem dX1_copy_19 : decode cX1_copy 19 = .ok (.getfield 34, 3) := by decide +kernel
theorem dX1_copy_22 : decode cX1_copy 22 = .ok (.putfield 34, 3) := by decide +kernel
theorem dX1_copy_25 : decode cX1_copy 25 = .ok (.aload_n 1, 1) := by decide +kernel
theorem dX1_copy_26 : decode cX1_copy 26 = .ok (.aload_n 0, 1) := by decide +kernel
theorem dX1_copy_27 : decode cX1_copy 27 = .ok (.getfield 37, 3) := by decide +kernel
theorem dX1_copy_30 : decode cX1_copy 30 = .ok (.putfield 37, 3) := by decide +kernel
theorem dX1_copy_33 : decode cX1_copy 33 = .ok (.aload_n 1, 1) := by decide +kernel
theorem dX1_copy_34 : decode cX1_copy 34 = .ok (.aload_n 0, 1) := by decide +kernel
theorem dX1_copy_35 : decode cX1_copy 35 = .ok (.getfield 40, 3) := by decide +kernel
theorem dX1_copy_38 : decode cX1_copy 38 = .ok (.putfield 40, 3) := by decide +kernel
theorem dX1_copy_41 : decode cX1_copy 41 = .ok (.aload_n 1, 1) := by decide +kernel
theorem dX1_copy_42 : decode cX1_copy 42 = .ok (.aload_n 0, 1) := by decide +kernel
theorem dX1_copy_43 : decode cX1_copy 43 = .ok (.getfield 44, 3) := by decide +kernel
theorem dX1_copy_46 : decode cX1_copy 46 = .ok (.putfield 44, 3) := by decide +kernel
theorem dX1_copy_49 : decode cX1_copy 49 = .ok (.aload_n 1, 1) := by decide +kernel
theorem dX1_copy_50 : decode cX1_copy 50 = .ok (.aload_n 0, 1) := by decide +kernel
theorem dX1_copy_51 : decode cX1_copy 51 = .ok (.getfield 47, 3) := by decide +kernel
theorem dX1_copy_54 : decode cX1_copy 54 = .ok (.putfield 47, 3) := by decide +kernel
theorem dX1_copy_57 : decode cX1_copy 57 = .ok (.aload_n 1, 1) := by decide +kernel
theorem dX1_copy_58 : decode cX1_copy 58 = .ok (.aload_n 0, 1) := by decide +kernel
theorem dX1_copy_59 : decode cX1_copy 59 = .ok (.getfield 50, 3) := by decide +kernel
theorem dX1_copy_62 : decode cX1_copy 62 = .ok (.putfield 50, 3) := by decide +kernel
theorem dX1_copy_65 : decode cX1_copy 65 = .ok (.aload_n 1, 1) := by decide +kernel
theorem dX1_copy_66 : decode cX1_copy 66 = .ok (.aload_n 0, 1) := by decide +kernel
theorem dX1_copy_67 : decode cX1_copy 67 = .ok (.getfield 53, 3) := by decide +kernel
theorem dX1_copy_70 : decode cX1_copy 70 = .ok (.putfield 53, 3) := by decide +kernel
theorem dX1_copy_73 : decode cX1_copy 73 = .ok (.aload_n 0, 1) := by decide +kernel
theorem dX1_copy_74 : decode cX1_copy 74 = .ok (.getfield 9, 3) := by decide +kernel
theorem dX1_copy_77 : decode cX1_copy 77 = .ok (.iconst 0, 1) := by decide +kernel
theorem dX1_copy_78 : decode cX1_copy 78 = .ok (.aload_n 1, 1) := by decide +kernel
theorem dX1_copy_79 : decode cX1_copy 79 = .ok (.getfield 9, 3) := by decide +kernel
theorem dX1_copy_82 : decode cX1_copy 82 = .ok (.iconst 0, 1) := by decide +kernel
theorem dX1_copy_83 : decode cX1_copy 83 = .ok (.iconst 5, 1) := by decide +kernel
theorem dX1_copy_84 : decode cX1_copy 84 = .ok (.invokestatic 61, 3) := by decide +kernel
theorem dX1_copy_87 : decode cX1_copy 87 = .ok (.aload_n 0, 1) := by decide +kernel
theorem dX1_copy_88 : decode cX1_copy 88 = .ok (.getfield 15, 3) := by decide +kernel
theorem dX1_copy_91 : decode cX1_copy 91 = .ok (.iconst 0, 1) := by decide +kernel
theorem dX1_copy_92 : decode cX1_copy 92 = .ok (.aload_n 1, 1) := by decide +kernel
theorem dX1_copy_93 : decode cX1_copy 93 = .ok (.getfield 15, 3) := by decide +kernel
theorem dX1_copy_96 : decode cX1_copy 96 = .ok (.iconst 0, 1) := by decide +kernel
theorem dX1_copy_97 : decode cX1_copy 97 = .ok (.iconst 5, 1) := by decide +kernel
theorem dX1_copy_98 : decode cX1_copy 98 = .ok (.invokestatic 61, 3) := by decide +kernel
theorem dX1_copy_101 : decode cX1_copy 101 = .ok (.aload_n 0, 1) := by decide +kernel
theorem dX1_copy_102 : decode cX1_copy 102 = .ok (.getfield 18, 3) := by decide +kernel
theorem dX1_copy_105 : decode cX1_copy 105 = .ok (.iconst 0, 1) := by decide +kernel
theorem dX1_copy_106 : decode cX1_copy 106 = .ok (.aload_n 1, 1) := by decide +kernel
theorem dX1_copy_107 : decode cX1_copy 107 = .ok (.getfield 18, 3) := by decide +kernel
theorem dX1_copy_110 : decode cX1_copy 110 = .ok (.iconst 0, 1) := by decide +kernel
theorem dX1_copy_111 : decode cX1_copy 111 = .ok (.iconst 4, 1) := by decide +kernel
theorem dX1_copy_112 : decode cX1_copy 112 = .ok (.invokestatic 61, 3) := by decide +kernel
theorem dX1_copy_115 : decode cX1_copy 115 = .ok (.aload_n 0, 1) := by decide +kernel
theorem dX1_copy_116 : decode cX1_copy 116 = .ok (.getfield 21, 3) := by decide +kernel
theorem dX1_copy_119 : decode cX1_copy 119 = .ok (.iconst 0, 1) := by decide +kernel
theorem dX1_copy_120 : decode cX1_copy 120 = .ok (.aload_n 1, 1) := by decide +kernel
theorem dX1_copy_121 : decode cX1_copy 121 = .ok (.getfield 21, 3) := by decide +kernel
theorem dX1_copy_124 : decode cX1_copy 124 = .ok (.iconst 0, 1) := by decide +kernel
theorem dX1_copy_125 : decode cX1_copy 125 = .ok (.bipush 20, 2) := by decide +kernel
theorem dX1_copy_127 : decode cX1_copy 127 = .ok (.invokestatic 61, 3) := by decide +kernel
theorem dX1_copy_130 : decode cX1_copy 130 = .ok (.aload_n 0, 1) := by decide +kernel
theorem dX1_copy_131 : decode cX1_copy 131 = .ok (.getfield 24, 3) := by decide +kernel
theorem dX1_copy_134 : decode cX1_copy 134 = .ok (.iconst 0, 1) := by decide +kernel
theorem dX1_copy_135 : decode cX1_copy 135 = .ok (.aload_n 1, 1) := by decide +kernel
theorem dX1_copy_136 : decode cX1_copy 136 = .ok (.getfield 24, 3) := by decide +kernel
theorem dX1_copy_139 : decode cX1_copy 139 = .ok (.iconst 0, 1) := by decide +kernel
theorem dX1_copy_140 : decode cX1_copy 140 = .ok (.bipush 20, 2) := by decide +kernel
theorem dX1_copy_142 : decode cX1_copy 142 = .ok (.invokestatic 61, 3) := by decide +kernel
theorem dX1_copy_145 : decode cX1_copy 145 = .ok (.aload_n 0, 1) := by decide +kernel
theorem dX1_copy_146 : decode cX1_copy 146 = .ok (.getfield 27, 3) := by decide +kernel
theorem dX1_copy_149 : decode cX1_copy 149 = .ok (.iconst 0, 1) := by decide +kernel
theorem dX1_copy_150 : decode cX1_copy 150 = .ok (.aload_n 1, 1) := by decide +kernel
theorem dX1_copy_151 : decode cX1_copy 151 = .ok (.getfield 27, 3) := by decide +kernel
theorem dX1_copy_154 : decode cX1_copy 154 = .ok (.iconst 0, 1) := by decide +kernel
theorem dX1_copy_155 : decode cX1_copy 155 = .ok (.bipush 20, 2) := by decide +kernel
theorem dX1_copy_157 : decode cX1_copy 157 = .ok (.invokestatic 61, 3) := by decide +kernel
theorem dX1_copy_160 : decode cX1_copy 160 = .ok (.return_, 1) := by decide +kernel
theorem dX1_windowOf_0 : decode cX1_windowOf 0 = .ok (.iconst 0, 1) := by decide +kernel
theorem dX1_windowOf_1 : decode cX1_windowOf 1 = .ok (.istore_n 2, 1) := by decide +kernel
theorem dX1_windowOf_2 : decode cX1_windowOf 2 = .ok (.iload_n 2, 1) := by decide +kernel
theorem dX1_windowOf_3 : decode cX1_windowOf 3 = .ok (.iconst 5, 1) := by decide +kernel
theorem dX1_windowOf_4 : decode cX1_windowOf 4 = .ok (.if_icmp .ge 21, 3) := by decide +kernel
theorem dX1_windowOf_7 : decode cX1_windowOf 7 = .ok (.aload_n 0, 1) := by decide +kernel
theorem dX1_windowOf_8 : decode cX1_windowOf 8 = .ok (.getfield 15, 3) := by decide +kernel
theorem dX1_windowOf_11 : decode cX1_windowOf 11 = .ok (.iload_n 2, 1) := by decide +kernel
theorem dX1_windowOf_12 : decode cX1_windowOf 12 = .ok (.iaload, 1) := by decide +kernel
theorem dX1_windowOf_13 : decode cX1_windowOf 13 = .ok (.iload_n 1, 1) := by decide +kernel
theorem dX1_windowOf_14 : decode cX1_windowOf 14 = .ok (.if_icmp .ne 5, 3) := by decide +kernel
theorem dX1_windowOf_17 : decode cX1_windowOf 17 = .ok (.iload_n 2, 1) := by decide +kernel
theorem dX1_windowOf_18 : decode cX1_windowOf 18 = .ok (.ireturn, 1) := by decide +kernel
theorem dX1_windowOf_19 : decode cX1_windowOf 19 = .ok (.iinc 2 1, 3) := by decide +kernel
theorem dX1_windowOf_22 : decode cX1_windowOf 22 = .ok (.goto (-20), 3) := by decide +kernel
theorem dX1_windowOf_25 : decode cX1_windowOf 25 = .ok (.iconst (-1), 1) := by decide +kernel
theorem dX1_windowOf_26 : decode cX1_windowOf 26 = .ok (.ireturn, 1) := by decide +kernel
theorem dX1_moveTo_0 : decode cX1_moveTo 0 = .ok (.iconst 0, 1) := by decide +kernel
theorem dX1_moveTo_1 : decode cX1_moveTo 1 = .ok (.istore_n 3, 1) := by decide +kernel
theorem dX1_moveTo_2 : decode cX1_moveTo 2 = .ok (.iload_n 3, 1) := by decide +kernel
theorem dX1_moveTo_3 : decode cX1_moveTo 3 = .ok (.iconst 5, 1) := by decide +kernel
theorem dX1_moveTo_4 : decode cX1_moveTo 4 = .ok (.if_icmp .ge 26, 3) := by decide +kernel
theorem dX1_moveTo_7 : decode cX1_moveTo 7 = .ok (.aload_n 0, 1) := by decide +kernel
theorem dX1_moveTo_8 : decode cX1_moveTo 8 = .ok (.getfield 15, 3) := by decide +kernel
theorem dX1_moveTo_11 : decode cX1_moveTo 11 = .ok (.iload_n 3, 1) := by decide +kernel
theorem dX1_moveTo_12 : decode cX1_moveTo 12 = .ok (.iaload, 1) := by decide +kernel
theorem dX1_moveTo_13 : decode cX1_moveTo 13 = .ok (.iload_n 1, 1) := by decide +kernel
theorem dX1_moveTo_14 : decode cX1_moveTo 14 = .ok (.if_icmp .ne 10, 3) := by decide +kernel
theorem dX1_moveTo_17 : decode cX1_moveTo 17 = .ok (.aload_n 0, 1) := by decide +kernel
theorem dX1_moveTo_18 : decode cX1_moveTo 18 = .ok (.getfield 15, 3) := by decide +kernel
theorem dX1_moveTo_21 : decode cX1_moveTo 21 = .ok (.iload_n 3, 1) := by decide +kernel
theorem dX1_moveTo_22 : decode cX1_moveTo 22 = .ok (.iconst (-1), 1) := by decide +kernel
theorem dX1_moveTo_23 : decode cX1_moveTo 23 = .ok (.iastore, 1) := by decide +kernel
theorem dX1_moveTo_24 : decode cX1_moveTo 24 = .ok (.iinc 3 1, 3) := by decide +kernel
theorem dX1_moveTo_27 : decode cX1_moveTo 27 = .ok (.goto (-25), 3) := by decide +kernel
theorem dX1_moveTo_30 : decode cX1_moveTo 30 = .ok (.iload_n 2, 1) := by decide +kernel
theorem dX1_moveTo_31 : decode cX1_moveTo 31 = .ok (.ifCond .lt 15, 3) := by decide +kernel
theorem dX1_moveTo_34 : decode cX1_moveTo 34 = .ok (.iload_n 2, 1) := by decide +kernel
theorem dX1_moveTo_35 : decode cX1_moveTo 35 = .ok (.iconst 5, 1) := by decide +kernel
theorem dX1_moveTo_36 : decode cX1_moveTo 36 = .ok (.if_icmp .ge 10, 3) := by decide +kernel
theorem dX1_moveTo_39 : decode cX1_moveTo 39 = .ok (.aload_n 0, 1) := by decide +kernel
theorem dX1_moveTo_40 : decode cX1_moveTo 40 = .ok (.getfield 15, 3) := by decide +kernel
theorem dX1_moveTo_43 : decode cX1_moveTo 43 = .ok (.iload_n 2, 1) := by decide +kernel
theorem dX1_moveTo_44 : decode cX1_moveTo 44 = .ok (.iload_n 1, 1) := by decide +kernel
theorem dX1_moveTo_45 : decode cX1_moveTo 45 = .ok (.iastore, 1) := by decide +kernel
theorem dX1_moveTo_46 : decode cX1_moveTo 46 = .ok (.return_, 1) := by decide +kernel
theorem dX1_keepInAlbum_0 : decode cX1_keepInAlbum 0 = .ok (.aload_n 0, 1) := by decide +kernel
theorem dX1_keepInAlbum_1 : decode cX1_keepInAlbum 1 = .ok (.getfield 53, 3) := by decide +kernel
theorem dX1_keepInAlbum_4 : decode cX1_keepInAlbum 4 = .ok (.ifCond .lt 12, 3) := by decide +kernel
theorem dX1_keepInAlbum_7 : decode cX1_keepInAlbum 7 = .ok (.aload_n 0, 1) := by decide +kernel
theorem dX1_keepInAlbum_8 : decode cX1_keepInAlbum 8 = .ok (.getfield 53, 3) := by decide +kernel
theorem dX1_keepInAlbum_11 : decode cX1_keepInAlbum 11 = .ok (.bipush 20, 2) := by decide +kernel
theorem dX1_keepInAlbum_13 : decode cX1_keepInAlbum 13 = .ok (.if_icmp .lt 4, 3) := by decide +kernel
theorem dX1_keepInAlbum_16 : decode cX1_keepInAlbum 16 = .ok (.return_, 1) := by decide +kernel
theorem dX1_keepInAlbum_17 : decode cX1_keepInAlbum 17 = .ok (.aload_n 0, 1) := by decide +kernel
theorem dX1_keepInAlbum_18 : decode cX1_keepInAlbum 18 = .ok (.getfield 21, 3) := by decide +kernel
theorem dX1_keepInAlbum_21 : decode cX1_keepInAlbum 21 = .ok (.aload_n 0, 1) := by decide +kernel
theorem dX1_keepInAlbum_22 : decode cX1_keepInAlbum 22 = .ok (.getfield 53, 3) := by decide +kernel
theorem dX1_keepInAlbum_25 : decode cX1_keepInAlbum 25 = .ok (.iload_n 1, 1) := by decide +kernel
theorem dX1_keepInAlbum_26 : decode cX1_keepInAlbum 26 = .ok (.iastore, 1) := by decide +kernel
theorem dX1_keepInAlbum_27 : decode cX1_keepInAlbum 27 = .ok (.aload_n 0, 1) := by decide +kernel
theorem dX1_keepInAlbum_28 : decode cX1_keepInAlbum 28 = .ok (.getfield 24, 3) := by decide +kernel
theorem dX1_keepInAlbum_31 : decode cX1_keepInAlbum 31 = .ok (.aload_n 0, 1) := by decide +kernel
theorem dX1_keepInAlbum_32 : decode cX1_keepInAlbum 32 = .ok (.getfield 53, 3) := by decide +kernel
theorem dX1_keepInAlbum_35 : decode cX1_keepInAlbum 35 = .ok (.iload_n 2, 1) := by decide +kernel
theorem dX1_keepInAlbum_36 : decode cX1_keepInAlbum 36 = .ok (.iastore, 1) := by decide +kernel
theorem dX1_keepInAlbum_37 : decode cX1_keepInAlbum 37 = .ok (.aload_n 0, 1) := by decide +kernel
theorem dX1_keepInAlbum_38 : decode cX1_keepInAlbum 38 = .ok (.getfield 27, 3) := by decide +kernel
theorem dX1_keepInAlbum_41 : decode cX1_keepInAlbum 41 = .ok (.aload_n 0, 1) := by decide +kernel
theorem dX1_keepInAlbum_42 : decode cX1_keepInAlbum 42 = .ok (.getfield 53, 3) := by decide +kernel
theorem dX1_keepInAlbum_45 : decode cX1_keepInAlbum 45 = .ok (.iload_n 3, 1) := by decide +kernel
theorem dX1_keepInAlbum_46 : decode cX1_keepInAlbum 46 = .ok (.iastore, 1) := by decide +kernel
theorem dX1_keepInAlbum_47 : decode cX1_keepInAlbum 47 = .ok (.aload_n 0, 1) := by decide +kernel
theorem dX1_keepInAlbum_48 : decode cX1_keepInAlbum 48 = .ok (.aload_n 0, 1) := by decide +kernel
theorem dX1_keepInAlbum_49 : decode cX1_keepInAlbum 49 = .ok (.getfield 53, 3) := by decide +kernel
theorem dX1_keepInAlbum_52 : decode cX1_keepInAlbum 52 = .ok (.iconst 1, 1) := by decide +kernel
theorem dX1_keepInAlbum_53 : decode cX1_keepInAlbum 53 = .ok (.iadd, 1) := by decide +kernel
theorem dX1_keepInAlbum_54 : decode cX1_keepInAlbum 54 = .ok (.bipush 20, 2) := by decide +kernel
theorem dX1_keepInAlbum_56 : decode cX1_keepInAlbum 56 = .ok (.irem, 1) := by decide +kernel
theorem dX1_keepInAlbum_57 : decode cX1_keepInAlbum 57 = .ok (.putfield 53, 3) := by decide +kernel
theorem dX1_keepInAlbum_60 : decode cX1_keepInAlbum 60 = .ok (.aload_n 0, 1) := by decide +kernel
theorem dX1_keepInAlbum_61 : decode cX1_keepInAlbum 61 = .ok (.aload_n 0, 1) := by decide +kernel
theorem dX1_keepInAlbum_62 : decode cX1_keepInAlbum 62 = .ok (.getfield 50, 3) := by decide +kernel
theorem dX1_keepInAlbum_65 : decode cX1_keepInAlbum 65 = .ok (.iconst 1, 1) := by decide +kernel
theorem dX1_keepInAlbum_66 : decode cX1_keepInAlbum 66 = .ok (.iadd, 1) := by decide +kernel
theorem dX1_keepInAlbum_67 : decode cX1_keepInAlbum 67 = .ok (.bipush 20, 2) := by decide +kernel
theorem dX1_keepInAlbum_69 : decode cX1_keepInAlbum 69 = .ok (.invokestatic 67, 3) := by decide +kernel
theorem dX1_keepInAlbum_72 : decode cX1_keepInAlbum 72 = .ok (.putfield 50, 3) := by decide +kernel
theorem dX1_keepInAlbum_75 : decode cX1_keepInAlbum 75 = .ok (.return_, 1) := by decide +kernel
set_option maxRecDepth 20000 in
theorem ggX1_albumPlace_J9_floorMod_7cf53 : GoodIn wsX1_albumPlace wsJ9_floorMod_7cf53 := goodIn_r _ [5] (by decide +kernel) (by decide +kernel)
set_option maxRecDepth 20000 in
theorem gX1_albumPlace_J9_floorMod_7cf53 : GoodIn wsX1_albumPlace (va_wsS RX1 73 yJ9_floorMod_7cf53 wsJ9_floorMod_7cf53) := goodIn_app (goodIn_of _ (by decide +kernel)) ggX1_albumPlace_J9_floorMod_7cf53
theorem dX1_albumPlace_0 : decode cX1_albumPlace 0 = .ok (.aload_n 0, 1) := by decide +kernel
theorem dX1_albumPlace_1 : decode cX1_albumPlace 1 = .ok (.getfield 53, 3) := by decide +kernel
theorem dX1_albumPlace_4 : decode cX1_albumPlace 4 = .ok (.iconst 1, 1) := by decide +kernel
theorem dX1_albumPlace_5 : decode cX1_albumPlace 5 = .ok (.isub, 1) := by decide +kernel
theorem dX1_albumPlace_6 : decode cX1_albumPlace 6 = .ok (.iload_n 1, 1) := by decide +kernel
theorem dX1_albumPlace_7 : decode cX1_albumPlace 7 = .ok (.isub, 1) := by decide +kernel
theorem dX1_albumPlace_8 : decode cX1_albumPlace 8 = .ok (.bipush 20, 2) := by decide +kernel
theorem dX1_albumPlace_10 : decode cX1_albumPlace 10 = .ok (.invokestatic 73, 3) := by decide +kernel
theorem dX1_albumPlace_13 : decode cX1_albumPlace 13 = .ok (.ireturn, 1) := by decide +kernel
set_option maxRecDepth 20000 in
theorem ggX1_timesInAlbum_X1_albumPlace : GoodIn wsX1_timesInAlbum wsX1_albumPlace := goodIn_r _ [7, 8, 9, 10, 11, 12, 13, 14, 15, 16, 17, 18, 19, 20, 21, 22, 23, 24, 25, 26] (by decide +kernel) (by decide +kernel)
set_option maxRecDepth 20000 in
theorem gX1_timesInAlbum_X1_albumPlace : GoodIn wsX1_timesInAlbum (wsV RX1 76 RX1 yX1_albumPlace wsX1_albumPlace) := goodIn_app (goodIn_of _ (by decide +kernel)) ggX1_timesInAlbum_X1_albumPlace
theorem dX1_timesInAlbum_0 : decode cX1_timesInAlbum 0 = .ok (.iconst 0, 1) := by decide +kernel
theorem dX1_timesInAlbum_1 : decode cX1_timesInAlbum 1 = .ok (.istore_n 2, 1) := by decide +kernel
theorem dX1_timesInAlbum_2 : decode cX1_timesInAlbum 2 = .ok (.iconst 0, 1) := by decide +kernel
theorem dX1_timesInAlbum_3 : decode cX1_timesInAlbum 3 = .ok (.istore_n 3, 1) := by decide +kernel
theorem dX1_timesInAlbum_4 : decode cX1_timesInAlbum 4 = .ok (.iload_n 3, 1) := by decide +kernel
theorem dX1_timesInAlbum_5 : decode cX1_timesInAlbum 5 = .ok (.aload_n 0, 1) := by decide +kernel
theorem dX1_timesInAlbum_6 : decode cX1_timesInAlbum 6 = .ok (.getfield 50, 3) := by decide +kernel
theorem dX1_timesInAlbum_9 : decode cX1_timesInAlbum 9 = .ok (.if_icmp .ge 26, 3) := by decide +kernel
theorem dX1_timesInAlbum_12 : decode cX1_timesInAlbum 12 = .ok (.aload_n 0, 1) := by decide +kernel
theorem dX1_timesInAlbum_13 : decode cX1_timesInAlbum 13 = .ok (.getfield 24, 3) := by decide +kernel
theorem dX1_timesInAlbum_16 : decode cX1_timesInAlbum 16 = .ok (.aload_n 0, 1) := by decide +kernel
theorem dX1_timesInAlbum_17 : decode cX1_timesInAlbum 17 = .ok (.iload_n 3, 1) := by decide +kernel
theorem dX1_timesInAlbum_18 : decode cX1_timesInAlbum 18 = .ok (.invokevirtual 76, 3) := by decide +kernel
theorem dX1_timesInAlbum_21 : decode cX1_timesInAlbum 21 = .ok (.iaload, 1) := by decide +kernel
theorem dX1_timesInAlbum_22 : decode cX1_timesInAlbum 22 = .ok (.iload_n 1, 1) := by decide +kernel
theorem dX1_timesInAlbum_23 : decode cX1_timesInAlbum 23 = .ok (.if_icmp .ne 6, 3) := by decide +kernel
theorem dX1_timesInAlbum_26 : decode cX1_timesInAlbum 26 = .ok (.iinc 2 1, 3) := by decide +kernel
theorem dX1_timesInAlbum_29 : decode cX1_timesInAlbum 29 = .ok (.iinc 3 1, 3) := by decide +kernel
theorem dX1_timesInAlbum_32 : decode cX1_timesInAlbum 32 = .ok (.goto (-28), 3) := by decide +kernel
theorem dX1_timesInAlbum_35 : decode cX1_timesInAlbum 35 = .ok (.iload_n 2, 1) := by decide +kernel
theorem dX1_timesInAlbum_36 : decode cX1_timesInAlbum 36 = .ok (.ireturn, 1) := by decide +kernel
theorem dX1_endDusk_0 : decode cX1_endDusk 0 = .ok (.aload_n 0, 1) := by decide +kernel
theorem dX1_endDusk_1 : decode cX1_endDusk 1 = .ok (.getfield 30, 3) := by decide +kernel
theorem dX1_endDusk_4 : decode cX1_endDusk 4 = .ok (.ifCond .le 16, 3) := by decide +kernel
theorem dX1_endDusk_7 : decode cX1_endDusk 7 = .ok (.aload_n 0, 1) := by decide +kernel
theorem dX1_endDusk_8 : decode cX1_endDusk 8 = .ok (.dup, 1) := by decide +kernel
theorem dX1_endDusk_9 : decode cX1_endDusk 9 = .ok (.getfield 30, 3) := by decide +kernel
theorem dX1_endDusk_12 : decode cX1_endDusk 12 = .ok (.iconst 1, 1) := by decide +kernel
theorem dX1_endDusk_13 : decode cX1_endDusk 13 = .ok (.isub, 1) := by decide +kernel
theorem dX1_endDusk_14 : decode cX1_endDusk 14 = .ok (.putfield 30, 3) := by decide +kernel
theorem dX1_endDusk_17 : decode cX1_endDusk 17 = .ok (.goto 20, 3) := by decide +kernel
theorem dX1_endDusk_20 : decode cX1_endDusk 20 = .ok (.aload_n 0, 1) := by decide +kernel
theorem dX1_endDusk_21 : decode cX1_endDusk 21 = .ok (.getfield 30, 3) := by decide +kernel
theorem dX1_endDusk_24 : decode cX1_endDusk 24 = .ok (.ifCond .ge 13, 3) := by decide +kernel
theorem dX1_endDusk_27 : decode cX1_endDusk 27 = .ok (.aload_n 0, 1) := by decide +kernel
theorem dX1_endDusk_28 : decode cX1_endDusk 28 = .ok (.dup, 1) := by decide +kernel
theorem dX1_endDusk_29 : decode cX1_endDusk 29 = .ok (.getfield 30, 3) := by decide +kernel
theorem dX1_endDusk_32 : decode cX1_endDusk 32 = .ok (.iconst 1, 1) := by decide +kernel
theorem dX1_endDusk_33 : decode cX1_endDusk 33 = .ok (.iadd, 1) := by decide +kernel
theorem dX1_endDusk_34 : decode cX1_endDusk 34 = .ok (.putfield 30, 3) := by decide +kernel
theorem dX1_endDusk_37 : decode cX1_endDusk 37 = .ok (.aload_n 0, 1) := by decide +kernel
theorem dX1_endDusk_38 : decode cX1_endDusk 38 = .ok (.iconst 0, 1) := by decide +kernel
theorem dX1_endDusk_39 : decode cX1_endDusk 39 = .ok (.putfield 34, 3) := by decide +kernel
theorem dX1_endDusk_42 : decode cX1_endDusk 42 = .ok (.aload_n 0, 1) := by decide +kernel
theorem dX1_endDusk_43 : decode cX1_endDusk 43 = .ok (.iconst 0, 1) := by decide +kernel
theorem dX1_endDusk_44 : decode cX1_endDusk 44 = .ok (.putfield 40, 3) := by decide +kernel
theorem dX1_endDusk_47 : decode cX1_endDusk 47 = .ok (.aload_n 0, 1) := by decide +kernel
theorem dX1_endDusk_48 : decode cX1_endDusk 48 = .ok (.iconst 0, 1) := by decide +kernel
theorem dX1_endDusk_49 : decode cX1_endDusk 49 = .ok (.putfield 44, 3) := by decide +kernel
theorem dX1_endDusk_52 : decode cX1_endDusk 52 = .ok (.aload_n 0, 1) := by decide +kernel
theorem dX1_endDusk_53 : decode cX1_endDusk 53 = .ok (.getfield 47, 3) := by decide +kernel
theorem dX1_endDusk_56 : decode cX1_endDusk 56 = .ok (.iconst 3, 1) := by decide +kernel
theorem dX1_endDusk_57 : decode cX1_endDusk 57 = .ok (.irem, 1) := by decide +kernel
theorem dX1_endDusk_58 : decode cX1_endDusk 58 = .ok (.iconst 2, 1) := by decide +kernel
theorem dX1_endDusk_59 : decode cX1_endDusk 59 = .ok (.if_icmp .ne 8, 3) := by decide +kernel
theorem dX1_endDusk_62 : decode cX1_endDusk 62 = .ok (.aload_n 0, 1) := by decide +kernel
theorem dX1_endDusk_63 : decode cX1_endDusk 63 = .ok (.iconst 0, 1) := by decide +kernel
theorem dX1_endDusk_64 : decode cX1_endDusk 64 = .ok (.putfield 37, 3) := by decide +kernel
theorem dX1_endDusk_67 : decode cX1_endDusk 67 = .ok (.aload_n 0, 1) := by decide +kernel
theorem dX1_endDusk_68 : decode cX1_endDusk 68 = .ok (.dup, 1) := by decide +kernel
theorem dX1_endDusk_69 : decode cX1_endDusk 69 = .ok (.getfield 47, 3) := by decide +kernel
theorem dX1_endDusk_72 : decode cX1_endDusk 72 = .ok (.iconst 1, 1) := by decide +kernel
theorem dX1_endDusk_73 : decode cX1_endDusk 73 = .ok (.iadd, 1) := by decide +kernel
theorem dX1_endDusk_74 : decode cX1_endDusk 74 = .ok (.putfield 47, 3) := by decide +kernel
theorem dX1_endDusk_77 : decode cX1_endDusk 77 = .ok (.return_, 1) := by decide +kernel
set_option maxRecDepth 20000 in
theorem ggX2_init_X1_init : GoodIn wsX2_init wsX1_init := goodIn_r _ [9, 10, 2, 3, 11, 12, 13, 14, 15, 16, 17, 21, 22, 23, 24, 25, 26, 27, 28, 29, 30, 31, 32, 33, 34] (by decide +kernel) (by decide +kernel)
set_option maxRecDepth 20000 in
theorem gX2_init_X1_init_n17 : GoodIn wsX2_init (wsX1_init) := ggX2_init_X1_init
theorem dX2_init_0 : decode cX2_init 0 = .ok (.aload_n 0, 1) := by decide +kernel
theorem dX2_init_1 : decode cX2_init 1 = .ok (.invokespecial 3, 3) := by decide +kernel
theorem dX2_init_4 : decode cX2_init 4 = .ok (.aload_n 0, 1) := by decide +kernel
theorem dX2_init_5 : decode cX2_init 5 = .ok (.bipush 16, 2) := by decide +kernel
theorem dX2_init_7 : decode cX2_init 7 = .ok (.anewarray 9, 3) := by decide +kernel
theorem dX2_init_10 : decode cX2_init 10 = .ok (.putfield 11, 3) := by decide +kernel
theorem dX2_init_13 : decode cX2_init 13 = .ok (.iconst 0, 1) := by decide +kernel
theorem dX2_init_14 : decode cX2_init 14 = .ok (.istore_n 1, 1) := by decide +kernel
theorem dX2_init_15 : decode cX2_init 15 = .ok (.iload_n 1, 1) := by decide +kernel
theorem dX2_init_16 : decode cX2_init 16 = .ok (.bipush 16, 2) := by decide +kernel
theorem dX2_init_18 : decode cX2_init 18 = .ok (.if_icmp .ge 22, 3) := by decide +kernel
theorem dX2_init_21 : decode cX2_init 21 = .ok (.aload_n 0, 1) := by decide +kernel
theorem dX2_init_22 : decode cX2_init 22 = .ok (.getfield 11, 3) := by decide +kernel
theorem dX2_init_25 : decode cX2_init 25 = .ok (.iload_n 1, 1) := by decide +kernel
theorem dX2_init_26 : decode cX2_init 26 = .ok (.new 9, 3) := by decide +kernel
theorem dX2_init_29 : decode cX2_init 29 = .ok (.dup, 1) := by decide +kernel
theorem dX2_init_30 : decode cX2_init 30 = .ok (.invokespecial 17, 3) := by decide +kernel
theorem dX2_init_33 : decode cX2_init 33 = .ok (.aastore, 1) := by decide +kernel
theorem dX2_init_34 : decode cX2_init 34 = .ok (.iinc 1 1, 3) := by decide +kernel
theorem dX2_init_37 : decode cX2_init 37 = .ok (.goto (-22), 3) := by decide +kernel
theorem dX2_init_40 : decode cX2_init 40 = .ok (.return_, 1) := by decide +kernel
theorem dX2_forget_0 : decode cX2_forget 0 = .ok (.aload_n 0, 1) := by decide +kernel
theorem dX2_forget_1 : decode cX2_forget 1 = .ok (.iconst 0, 1) := by decide +kernel
theorem dX2_forget_2 : decode cX2_forget 2 = .ok (.putfield 18, 3) := by decide +kernel
theorem dX2_forget_5 : decode cX2_forget 5 = .ok (.aload_n 0, 1) := by decide +kernel
theorem dX2_forget_6 : decode cX2_forget 6 = .ok (.iconst 0, 1) := by decide +kernel
theorem dX2_forget_7 : decode cX2_forget 7 = .ok (.putfield 22, 3) := by decide +kernel
theorem dX2_forget_10 : decode cX2_forget 10 = .ok (.return_, 1) := by decide +kernel
set_option maxRecDepth 20000 in
theorem ggX2_remember_X1_copy : GoodIn wsX2_remember wsX1_copy := goodIn_r _ [10, 11, 12, 13, 14, 15, 16, 17, 18, 19, 20, 21, 22, 23, 24, 25, 26, 27, 28, 32, 33, 34, 35, 36, 37, 38, 39, 40, 41, 42, 43, 44, 45] (by decide +kernel) (by decide +kernel)
set_option maxRecDepth 20000 in
theorem gX2_remember_X1_copy_n25 : GoodIn wsX2_remember (wsX1_copy) := ggX2_remember_X1_copy
theorem dX2_remember_0 : decode cX2_remember 0 = .ok (.aload_n 0, 1) := by decide +kernel
theorem dX2_remember_1 : decode cX2_remember 1 = .ok (.getfield 22, 3) := by decide +kernel
theorem dX2_remember_4 : decode cX2_remember 4 = .ok (.ifCond .lt 12, 3) := by decide +kernel
theorem dX2_remember_7 : decode cX2_remember 7 = .ok (.aload_n 0, 1) := by decide +kernel
theorem dX2_remember_8 : decode cX2_remember 8 = .ok (.getfield 22, 3) := by decide +kernel
theorem dX2_remember_11 : decode cX2_remember 11 = .ok (.bipush 16, 2) := by decide +kernel
theorem dX2_remember_13 : decode cX2_remember 13 = .ok (.if_icmp .lt 4, 3) := by decide +kernel
theorem dX2_remember_16 : decode cX2_remember 16 = .ok (.return_, 1) := by decide +kernel
theorem dX2_remember_17 : decode cX2_remember 17 = .ok (.aload_n 1, 1) := by decide +kernel
theorem dX2_remember_18 : decode cX2_remember 18 = .ok (.aload_n 0, 1) := by decide +kernel
theorem dX2_remember_19 : decode cX2_remember 19 = .ok (.getfield 11, 3) := by decide +kernel
theorem dX2_remember_22 : decode cX2_remember 22 = .ok (.aload_n 0, 1) := by decide +kernel
theorem dX2_remember_23 : decode cX2_remember 23 = .ok (.getfield 22, 3) := by decide +kernel
theorem dX2_remember_26 : decode cX2_remember 26 = .ok (.aaload, 1) := by decide +kernel
theorem dX2_remember_27 : decode cX2_remember 27 = .ok (.invokestatic 25, 3) := by decide +kernel
theorem dX2_remember_30 : decode cX2_remember 30 = .ok (.aload_n 0, 1) := by decide +kernel
theorem dX2_remember_31 : decode cX2_remember 31 = .ok (.aload_n 0, 1) := by decide +kernel
theorem dX2_remember_32 : decode cX2_remember 32 = .ok (.getfield 22, 3) := by decide +kernel
theorem dX2_remember_35 : decode cX2_remember 35 = .ok (.iconst 1, 1) := by decide +kernel
theorem dX2_remember_36 : decode cX2_remember 36 = .ok (.iadd, 1) := by decide +kernel
theorem dX2_remember_37 : decode cX2_remember 37 = .ok (.bipush 16, 2) := by decide +kernel
theorem dX2_remember_39 : decode cX2_remember 39 = .ok (.irem, 1) := by decide +kernel
theorem dX2_remember_40 : decode cX2_remember 40 = .ok (.putfield 22, 3) := by decide +kernel
theorem dX2_remember_43 : decode cX2_remember 43 = .ok (.aload_n 0, 1) := by decide +kernel
theorem dX2_remember_44 : decode cX2_remember 44 = .ok (.aload_n 0, 1) := by decide +kernel
theorem dX2_remember_45 : decode cX2_remember 45 = .ok (.getfield 18, 3) := by decide +kernel
theorem dX2_remember_48 : decode cX2_remember 48 = .ok (.iconst 1, 1) := by decide +kernel
theorem dX2_remember_49 : decode cX2_remember 49 = .ok (.iadd, 1) := by decide +kernel
theorem dX2_remember_50 : decode cX2_remember 50 = .ok (.bipush 16, 2) := by decide +kernel
theorem dX2_remember_52 : decode cX2_remember 52 = .ok (.invokestatic 29, 3) := by decide +kernel
theorem dX2_remember_55 : decode cX2_remember 55 = .ok (.putfield 18, 3) := by decide +kernel
theorem dX2_remember_58 : decode cX2_remember 58 = .ok (.return_, 1) := by decide +kernel
set_option maxRecDepth 20000 in
theorem ggX2_recall_J9_floorMod_7cf53 : GoodIn wsX2_recall wsJ9_floorMod_7cf53 := goodIn_r _ [11] (by decide +kernel) (by decide +kernel)
set_option maxRecDepth 20000 in
theorem gX2_recall_J9_floorMod_7cf53 : GoodIn wsX2_recall (va_wsS RX2 35 yJ9_floorMod_7cf53 wsJ9_floorMod_7cf53) := goodIn_app (goodIn_of _ (by decide +kernel)) ggX2_recall_J9_floorMod_7cf53
set_option maxRecDepth 20000 in
theorem ggX2_recall_X1_copy : GoodIn wsX2_recall wsX1_copy := goodIn_r _ [14, 15, 16, 17, 18, 19, 20, 21, 22, 23, 24, 25, 26, 27, 28, 29, 30, 31, 32, 36, 37, 38, 39, 40, 41, 42, 43, 44, 45, 46, 47, 48, 49] (by decide +kernel) (by decide +kernel)
set_option maxRecDepth 20000 in
theorem gX2_recall_X1_copy_n25 : GoodIn wsX2_recall (wsX1_copy) := ggX2_recall_X1_copy
theorem dX2_recall_0 : decode cX2_recall 0 = .ok (.aload_n 0, 1) := by decide +kernel
theorem dX2_recall_1 : decode cX2_recall 1 = .ok (.aload_n 0, 1) := by decide +kernel
theorem dX2_recall_2 : decode cX2_recall 2 = .ok (.getfield 22, 3) := by decide +kernel
theorem dX2_recall_5 : decode cX2_recall 5 = .ok (.iconst 1, 1) := by decide +kernel
theorem dX2_recall_6 : decode cX2_recall 6 = .ok (.isub, 1) := by decide +kernel
theorem dX2_recall_7 : decode cX2_recall 7 = .ok (.bipush 16, 2) := by decide +kernel
theorem dX2_recall_9 : decode cX2_recall 9 = .ok (.invokestatic 35, 3) := by decide +kernel
theorem dX2_recall_12 : decode cX2_recall 12 = .ok (.putfield 22, 3) := by decide +kernel
theorem dX2_recall_15 : decode cX2_recall 15 = .ok (.aload_n 0, 1) := by decide +kernel
theorem dX2_recall_16 : decode cX2_recall 16 = .ok (.aload_n 0, 1) := by decide +kernel
theorem dX2_recall_17 : decode cX2_recall 17 = .ok (.getfield 18, 3) := by decide +kernel
theorem dX2_recall_20 : decode cX2_recall 20 = .ok (.iconst 1, 1) := by decide +kernel
theorem dX2_recall_21 : decode cX2_recall 21 = .ok (.isub, 1) := by decide +kernel
theorem dX2_recall_22 : decode cX2_recall 22 = .ok (.iconst 0, 1) := by decide +kernel
theorem dX2_recall_23 : decode cX2_recall 23 = .ok (.invokestatic 38, 3) := by decide +kernel
theorem dX2_recall_26 : decode cX2_recall 26 = .ok (.putfield 18, 3) := by decide +kernel
theorem dX2_recall_29 : decode cX2_recall 29 = .ok (.aload_n 0, 1) := by decide +kernel
theorem dX2_recall_30 : decode cX2_recall 30 = .ok (.getfield 11, 3) := by decide +kernel
theorem dX2_recall_33 : decode cX2_recall 33 = .ok (.aload_n 0, 1) := by decide +kernel
theorem dX2_recall_34 : decode cX2_recall 34 = .ok (.getfield 22, 3) := by decide +kernel
theorem dX2_recall_37 : decode cX2_recall 37 = .ok (.aaload, 1) := by decide +kernel
theorem dX2_recall_38 : decode cX2_recall 38 = .ok (.aload_n 1, 1) := by decide +kernel
theorem dX2_recall_39 : decode cX2_recall 39 = .ok (.invokestatic 25, 3) := by decide +kernel
theorem dX2_recall_42 : decode cX2_recall 42 = .ok (.return_, 1) := by decide +kernel
theorem dX3_init_0 : decode cX3_init 0 = .ok (.aload_n 0, 1) := by decide +kernel
theorem dX3_init_1 : decode cX3_init 1 = .ok (.invokespecial 3, 3) := by decide +kernel
theorem dX3_init_4 : decode cX3_init 4 = .ok (.aload_n 0, 1) := by decide +kernel
theorem dX3_init_5 : decode cX3_init 5 = .ok (.bipush 30, 2) := by decide +kernel
theorem dX3_init_7 : decode cX3_init 7 = .ok (.newarray .int, 2) := by decide +kernel
theorem dX3_init_9 : decode cX3_init 9 = .ok (.putfield 9, 3) := by decide +kernel
theorem dX3_init_12 : decode cX3_init 12 = .ok (.aload_n 0, 1) := by decide +kernel
theorem dX3_init_13 : decode cX3_init 13 = .ok (.iconst 5, 1) := by decide +kernel
theorem dX3_init_14 : decode cX3_init 14 = .ok (.newarray .int, 2) := by decide +kernel
theorem dX3_init_16 : decode cX3_init 16 = .ok (.putfield 15, 3) := by decide +kernel
theorem dX3_init_19 : decode cX3_init 19 = .ok (.aload_n 0, 1) := by decide +kernel
theorem dX3_init_20 : decode cX3_init 20 = .ok (.iconst 5, 1) := by decide +kernel
theorem dX3_init_21 : decode cX3_init 21 = .ok (.newarray .int, 2) := by decide +kernel
theorem dX3_init_23 : decode cX3_init 23 = .ok (.putfield 18, 3) := by decide +kernel
theorem dX3_init_26 : decode cX3_init 26 = .ok (.return_, 1) := by decide +kernel
theorem dX3_begin_0 : decode cX3_begin 0 = .ok (.aload_n 0, 1) := by decide +kernel
theorem dX3_begin_1 : decode cX3_begin 1 = .ok (.aload_n 1, 1) := by decide +kernel
theorem dX3_begin_2 : decode cX3_begin 2 = .ok (.getfield 21, 3) := by decide +kernel
theorem dX3_begin_5 : decode cX3_begin 5 = .ok (.putfield 27, 3) := by decide +kernel
theorem dX3_begin_8 : decode cX3_begin 8 = .ok (.aload_n 0, 1) := by decide +kernel
theorem dX3_begin_9 : decode cX3_begin 9 = .ok (.aload_n 1, 1) := by decide +kernel
theorem dX3_begin_10 : decode cX3_begin 10 = .ok (.getfield 28, 3) := by decide +kernel
theorem dX3_begin_13 : decode cX3_begin 13 = .ok (.putfield 31, 3) := by decide +kernel
theorem dX3_begin_16 : decode cX3_begin 16 = .ok (.aload_n 0, 1) := by decide +kernel
theorem dX3_begin_17 : decode cX3_begin 17 = .ok (.iconst 0, 1) := by decide +kernel
theorem dX3_begin_18 : decode cX3_begin 18 = .ok (.putfield 32, 3) := by decide +kernel
theorem dX3_begin_21 : decode cX3_begin 21 = .ok (.iconst 0, 1) := by decide +kernel
theorem dX3_begin_22 : decode cX3_begin 22 = .ok (.istore_n 2, 1) := by decide +kernel
theorem dX3_begin_23 : decode cX3_begin 23 = .ok (.iload_n 2, 1) := by decide +kernel
theorem dX3_begin_24 : decode cX3_begin 24 = .ok (.iconst 5, 1) := by decide +kernel
theorem dX3_begin_25 : decode cX3_begin 25 = .ok (.if_icmp .ge 23, 3) := by decide +kernel
theorem dX3_begin_28 : decode cX3_begin 28 = .ok (.aload_n 0, 1) := by decide +kernel
theorem dX3_begin_29 : decode cX3_begin 29 = .ok (.getfield 15, 3) := by decide +kernel
theorem dX3_begin_32 : decode cX3_begin 32 = .ok (.iload_n 2, 1) := by decide +kernel
theorem dX3_begin_33 : decode cX3_begin 33 = .ok (.iconst (-1), 1) := by decide +kernel
theorem dX3_begin_34 : decode cX3_begin 34 = .ok (.iastore, 1) := by decide +kernel
theorem dX3_begin_35 : decode cX3_begin 35 = .ok (.aload_n 0, 1) := by decide +kernel
theorem dX3_begin_36 : decode cX3_begin 36 = .ok (.getfield 18, 3) := by decide +kernel
theorem dX3_begin_39 : decode cX3_begin 39 = .ok (.iload_n 2, 1) := by decide +kernel
theorem dX3_begin_40 : decode cX3_begin 40 = .ok (.iconst (-1), 1) := by decide +kernel
theorem dX3_begin_41 : decode cX3_begin 41 = .ok (.iastore, 1) := by decide +kernel
theorem dX3_begin_42 : decode cX3_begin 42 = .ok (.iinc 2 1, 3) := by decide +kernel
theorem dX3_begin_45 : decode cX3_begin 45 = .ok (.goto (-22), 3) := by decide +kernel
theorem dX3_begin_48 : decode cX3_begin 48 = .ok (.return_, 1) := by decide +kernel
theorem dX3_takeChosen_0 : decode cX3_takeChosen 0 = .ok (.aload_n 0, 1) := by decide +kernel
theorem dX3_takeChosen_1 : decode cX3_takeChosen 1 = .ok (.iload_n 1, 1) := by decide +kernel
theorem dX3_takeChosen_2 : decode cX3_takeChosen 2 = .ok (.putfield 32, 3) := by decide +kernel
theorem dX3_takeChosen_5 : decode cX3_takeChosen 5 = .ok (.iconst 0, 1) := by decide +kernel
theorem dX3_takeChosen_6 : decode cX3_takeChosen 6 = .ok (.istore_n 2, 1) := by decide +kernel
theorem dX3_takeChosen_7 : decode cX3_takeChosen 7 = .ok (.iload_n 2, 1) := by decide +kernel
theorem dX3_takeChosen_8 : decode cX3_takeChosen 8 = .ok (.aload_n 0, 1) := by decide +kernel
theorem dX3_takeChosen_9 : decode cX3_takeChosen 9 = .ok (.getfield 31, 3) := by decide +kernel
theorem dX3_takeChosen_12 : decode cX3_takeChosen 12 = .ok (.if_icmp .ge 21, 3) := by decide +kernel
theorem dX3_takeChosen_15 : decode cX3_takeChosen 15 = .ok (.aload_n 0, 1) := by decide +kernel
theorem dX3_takeChosen_16 : decode cX3_takeChosen 16 = .ok (.getfield 18, 3) := by decide +kernel
theorem dX3_takeChosen_19 : decode cX3_takeChosen 19 = .ok (.iload_n 2, 1) := by decide +kernel
theorem dX3_takeChosen_20 : decode cX3_takeChosen 20 = .ok (.aload_n 0, 1) := by decide +kernel
theorem dX3_takeChosen_21 : decode cX3_takeChosen 21 = .ok (.getfield 15, 3) := by decide +kernel
theorem dX3_takeChosen_24 : decode cX3_takeChosen 24 = .ok (.iload_n 2, 1) := by decide +kernel
theorem dX3_takeChosen_25 : decode cX3_takeChosen 25 = .ok (.iaload, 1) := by decide +kernel
theorem dX3_takeChosen_26 : decode cX3_takeChosen 26 = .ok (.iastore, 1) := by decide +kernel
theorem dX3_takeChosen_27 : decode cX3_takeChosen 27 = .ok (.iinc 2 1, 3) := by decide +kernel
theorem dX3_takeChosen_30 : decode cX3_takeChosen 30 = .ok (.goto (-23), 3) := by decide +kernel
theorem dX3_takeChosen_33 : decode cX3_takeChosen 33 = .ok (.return_, 1) := by decide +kernel
set_option maxRecDepth 20000 in
theorem ggX4_init_X0_init : GoodIn wsX4_init wsX0_init := goodIn_r _ [12, 13, 2, 3, 4, 14, 15, 16, 23, 24, 25, 26, 27, 28, 29, 30] (by decide +kernel) (by decide +kernel)
set_option maxRecDepth 20000 in
theorem gX4_init_X0_init_n17 : GoodIn wsX4_init (wsX0_init) := ggX4_init_X0_init
theorem dX4_init_0 : decode cX4_init 0 = .ok (.aload_n 0, 1) := by decide +kernel
theorem dX4_init_1 : decode cX4_init 1 = .ok (.invokespecial 3, 3) := by decide +kernel
theorem dX4_init_4 : decode cX4_init 4 = .ok (.aload_n 0, 1) := by decide +kernel
theorem dX4_init_5 : decode cX4_init 5 = .ok (.sipush 240, 3) := by decide +kernel
theorem dX4_init_8 : decode cX4_init 8 = .ok (.newarray .int, 2) := by decide +kernel
theorem dX4_init_10 : decode cX4_init 10 = .ok (.putfield 9, 3) := by decide +kernel
theorem dX4_init_13 : decode cX4_init 13 = .ok (.aload_n 0, 1) := by decide +kernel
theorem dX4_init_14 : decode cX4_init 14 = .ok (.new 15, 3) := by decide +kernel
theorem dX4_init_17 : decode cX4_init 17 = .ok (.dup, 1) := by decide +kernel
theorem dX4_init_18 : decode cX4_init 18 = .ok (.invokespecial 17, 3) := by decide +kernel
theorem dX4_init_21 : decode cX4_init 21 = .ok (.putfield 18, 3) := by decide +kernel
theorem dX4_init_24 : decode cX4_init 24 = .ok (.aload_n 0, 1) := by decide +kernel
theorem dX4_init_25 : decode cX4_init 25 = .ok (.iconst (-1), 1) := by decide +kernel
theorem dX4_init_26 : decode cX4_init 26 = .ok (.putfield 22, 3) := by decide +kernel
theorem dX4_init_29 : decode cX4_init 29 = .ok (.return_, 1) := by decide +kernel
theorem dX4_add_0 : decode cX4_add 0 = .ok (.aload_n 0, 1) := by decide +kernel
theorem dX4_add_1 : decode cX4_add 1 = .ok (.getfield 26, 3) := by decide +kernel
theorem dX4_add_4 : decode cX4_add 4 = .ok (.ifCond .lt 33, 3) := by decide +kernel
theorem dX4_add_7 : decode cX4_add 7 = .ok (.aload_n 0, 1) := by decide +kernel
theorem dX4_add_8 : decode cX4_add 8 = .ok (.getfield 26, 3) := by decide +kernel
theorem dX4_add_11 : decode cX4_add 11 = .ok (.sipush 240, 3) := by decide +kernel
theorem dX4_add_14 : decode cX4_add 14 = .ok (.if_icmp .ge 23, 3) := by decide +kernel
theorem dX4_add_17 : decode cX4_add 17 = .ok (.aload_n 0, 1) := by decide +kernel
theorem dX4_add_18 : decode cX4_add 18 = .ok (.getfield 9, 3) := by decide +kernel
theorem dX4_add_21 : decode cX4_add 21 = .ok (.aload_n 0, 1) := by decide +kernel
theorem dX4_add_22 : decode cX4_add 22 = .ok (.getfield 26, 3) := by decide +kernel
theorem dX4_add_25 : decode cX4_add 25 = .ok (.iload_n 1, 1) := by decide +kernel
theorem dX4_add_26 : decode cX4_add 26 = .ok (.iastore, 1) := by decide +kernel
theorem dX4_add_27 : decode cX4_add 27 = .ok (.aload_n 0, 1) := by decide +kernel
theorem dX4_add_28 : decode cX4_add 28 = .ok (.dup, 1) := by decide +kernel
theorem dX4_add_29 : decode cX4_add 29 = .ok (.getfield 26, 3) := by decide +kernel
theorem dX4_add_32 : decode cX4_add 32 = .ok (.iconst 1, 1) := by decide +kernel
theorem dX4_add_33 : decode cX4_add 33 = .ok (.iadd, 1) := by decide +kernel
theorem dX4_add_34 : decode cX4_add 34 = .ok (.putfield 26, 3) := by decide +kernel
theorem dX4_add_37 : decode cX4_add 37 = .ok (.return_, 1) := by decide +kernel
set_option maxRecDepth 20000 in
theorem ggX4_read_X0_empty : GoodIn wsX4_read wsX0_empty := goodIn_r _ [9, 10, 11, 12, 13, 14, 58, 59, 60, 61, 62, 63, 64, 65] (by decide +kernel) (by decide +kernel)
set_option maxRecDepth 20000 in
theorem gX4_read_X0_empty_n29 : GoodIn wsX4_read (wsX0_empty) := ggX4_read_X0_empty
set_option maxRecDepth 20000 in
theorem ggX4_read_X4_skipBlanks : GoodIn wsX4_read wsX4_skipBlanks := goodIn_r _ [19, 2, 20, 21, 22, 18, 23, 5, 24, 52, 53, 54, 55, 56, 57] (by decide +kernel) (by decide +kernel)
set_option maxRecDepth 20000 in
theorem gX4_read_X4_skipBlanks : GoodIn wsX4_read (wsV RX4 38 RX4 yX4_skipBlanks wsX4_skipBlanks) := goodIn_app (goodIn_of _ (by decide +kernel)) ggX4_read_X4_skipBlanks
set_option maxRecDepth 20000 in
theorem ggX4_read_X4_readClause : GoodIn wsX4_read wsX4_readClause := goodIn_r _ [28, 2, 1, 20, 21, 22, 18, 23, 5, 24, 29, 30, 31, 32, 33, 34, 35, 36, 3, 4, 37, 38, 39, 40, 15, 16, 17, 19, 41, 42, 43, 44, 45, 46, 47, 48, 49, 50, 51, 52, 53, 54, 55, 56, 57, 58, 59, 60, 61, 62, 63, 64, 65] (by decide +kernel) (by decide +kernel)
set_option maxRecDepth 20000 in
theorem gX4_read_X4_readClause : GoodIn wsX4_read (wsV RX4 41 RX4 yX4_readClause wsX4_readClause) := goodIn_app (goodIn_of _ (by decide +kernel)) ggX4_read_X4_readClause
theorem dX4_read_0 : decode cX4_read 0 = .ok (.aload_n 0, 1) := by decide +kernel
theorem dX4_read_1 : decode cX4_read 1 = .ok (.getfield 18, 3) := by decide +kernel
theorem dX4_read_4 : decode cX4_read 4 = .ok (.invokevirtual 29, 3) := by decide +kernel
theorem dX4_read_7 : decode cX4_read 7 = .ok (.aload_n 0, 1) := by decide +kernel
theorem dX4_read_8 : decode cX4_read 8 = .ok (.iconst 0, 1) := by decide +kernel
theorem dX4_read_9 : decode cX4_read 9 = .ok (.putfield 32, 3) := by decide +kernel
theorem dX4_read_12 : decode cX4_read 12 = .ok (.aload_n 0, 1) := by decide +kernel
theorem dX4_read_13 : decode cX4_read 13 = .ok (.iconst 0, 1) := by decide +kernel
theorem dX4_read_14 : decode cX4_read 14 = .ok (.putfield 35, 3) := by decide +kernel
theorem dX4_read_17 : decode cX4_read 17 = .ok (.aload_n 0, 1) := by decide +kernel
theorem dX4_read_18 : decode cX4_read 18 = .ok (.iconst (-1), 1) := by decide +kernel
theorem dX4_read_19 : decode cX4_read 19 = .ok (.putfield 22, 3) := by decide +kernel
theorem dX4_read_22 : decode cX4_read 22 = .ok (.aload_n 0, 1) := by decide +kernel
theorem dX4_read_23 : decode cX4_read 23 = .ok (.invokevirtual 38, 3) := by decide +kernel
theorem dX4_read_26 : decode cX4_read 26 = .ok (.iconst 0, 1) := by decide +kernel
theorem dX4_read_27 : decode cX4_read 27 = .ok (.istore_n 1, 1) := by decide +kernel
theorem dX4_read_28 : decode cX4_read 28 = .ok (.iload_n 1, 1) := by decide +kernel
theorem dX4_read_29 : decode cX4_read 29 = .ok (.sipush 240, 3) := by decide +kernel
theorem dX4_read_32 : decode cX4_read 32 = .ok (.if_icmp .ge 35, 3) := by decide +kernel
theorem dX4_read_35 : decode cX4_read 35 = .ok (.aload_n 0, 1) := by decide +kernel
theorem dX4_read_36 : decode cX4_read 36 = .ok (.getfield 32, 3) := by decide +kernel
theorem dX4_read_39 : decode cX4_read 39 = .ok (.aload_n 0, 1) := by decide +kernel
theorem dX4_read_40 : decode cX4_read 40 = .ok (.getfield 26, 3) := by decide +kernel
theorem dX4_read_43 : decode cX4_read 43 = .ok (.if_icmp .ge 24, 3) := by decide +kernel
theorem dX4_read_46 : decode cX4_read 46 = .ok (.aload_n 0, 1) := by decide +kernel
theorem dX4_read_47 : decode cX4_read 47 = .ok (.getfield 35, 3) := by decide +kernel
theorem dX4_read_50 : decode cX4_read 50 = .ok (.ifCond .ne 17, 3) := by decide +kernel
theorem dX4_read_53 : decode cX4_read 53 = .ok (.aload_n 0, 1) := by decide +kernel
theorem dX4_read_54 : decode cX4_read 54 = .ok (.invokevirtual 41, 3) := by decide +kernel
theorem dX4_read_57 : decode cX4_read 57 = .ok (.aload_n 0, 1) := by decide +kernel
theorem dX4_read_58 : decode cX4_read 58 = .ok (.invokevirtual 38, 3) := by decide +kernel
theorem dX4_read_61 : decode cX4_read 61 = .ok (.iinc 1 1, 3) := by decide +kernel
theorem dX4_read_64 : decode cX4_read 64 = .ok (.goto (-36), 3) := by decide +kernel
theorem dX4_read_67 : decode cX4_read 67 = .ok (.return_, 1) := by decide +kernel
set_option maxRecDepth 20000 in
theorem ggX4_readClause_X4_letterHere : GoodIn wsX4_readClause wsX4_letterHere := goodIn_r _ [7, 1, 8, 9, 39, 40, 41, 42, 43, 44] (by decide +kernel) (by decide +kernel)
set_option maxRecDepth 20000 in
theorem gX4_readClause_X4_letterHere : GoodIn wsX4_readClause (wsV RX4 44 RX4 yX4_letterHere wsX4_letterHere) := goodIn_app (goodIn_of _ (by decide +kernel)) ggX4_readClause_X4_letterHere
set_option maxRecDepth 20000 in
theorem ggX4_readClause_X4_faultOfWord : GoodIn wsX4_readClause wsX4_faultOfWord := goodIn_r _ [13, 2, 39, 40, 41, 42, 43, 44, 45, 46, 47, 48, 49, 50, 51, 52] (by decide +kernel) (by decide +kernel)
set_option maxRecDepth 20000 in
theorem gX4_readClause_X4_faultOfWord : GoodIn wsX4_readClause (wsV RX4 48 RX4 yX4_faultOfWord wsX4_faultOfWord) := goodIn_app (goodIn_of _ (by decide +kernel)) ggX4_readClause_X4_faultOfWord
set_option maxRecDepth 20000 in
theorem ggX4_readClause_X4_blame : GoodIn wsX4_readClause wsX4_blame := goodIn_r _ [17, 18, 19, 39, 40, 41, 42, 43, 44] (by decide +kernel) (by decide +kernel)
set_option maxRecDepth 20000 in
theorem gX4_readClause_X4_blame : GoodIn wsX4_readClause (wsV RX4 52 RX4 yX4_blame wsX4_blame) := goodIn_app (goodIn_of _ (by decide +kernel)) ggX4_readClause_X4_blame
set_option maxRecDepth 20000 in
theorem ggX4_readClause_X4_readNumber : GoodIn wsX4_readClause wsX4_readNumber := goodIn_r _ [23, 18, 1, 24, 25, 26, 6, 27, 3, 4, 5, 7, 8, 9, 28, 29, 30, 14, 15, 16, 17, 19, 39, 40, 41, 42, 43, 44] (by decide +kernel) (by decide +kernel)
set_option maxRecDepth 20000 in
theorem gX4_readClause_X4_readNumber : GoodIn wsX4_readClause (wsV RX4 60 RX4 yX4_readNumber wsX4_readNumber) := goodIn_app (goodIn_of _ (by decide +kernel)) ggX4_readClause_X4_readNumber
set_option maxRecDepth 20000 in
theorem ggX4_readClause_X4_readSitter : GoodIn wsX4_readClause wsX4_readSitter := goodIn_r _ [34, 2, 35, 36, 37, 6, 38, 18, 1, 24, 25, 26, 27, 3, 4, 5, 7, 8, 9, 14, 15, 16, 17, 19, 20, 21, 22, 23, 28, 29, 30, 39, 40, 41, 42, 43, 44, 45, 46, 47, 48, 49, 50, 51, 52] (by decide +kernel) (by decide +kernel)
set_option maxRecDepth 20000 in
theorem gX4_readClause_X4_readSitter : GoodIn wsX4_readClause (wsV RX4 67 RX4 yX4_readSitter wsX4_readSitter) := goodIn_app (goodIn_of _ (by decide +kernel)) ggX4_readClause_X4_readSitter
set_option maxRecDepth 20000 in
theorem ggX4_readClause_X4_readSign : GoodIn wsX4_readClause wsX4_readSign := goodIn_r _ [38, 18, 1, 24, 25, 26, 6, 27, 3, 4, 5, 7, 8, 9, 14, 15, 16, 17, 19, 39, 40, 41, 42, 43, 44] (by decide +kernel) (by decide +kernel)
set_option maxRecDepth 20000 in
theorem gX4_readClause_X4_readSign : GoodIn wsX4_readClause (wsV RX4 82 RX4 yX4_readSign wsX4_readSign) := goodIn_app (goodIn_of _ (by decide +kernel)) ggX4_readClause_X4_readSign
theorem dX4_readClause_0 : decode cX4_readClause 0 = .ok (.aload_n 0, 1) := by decide +kernel
theorem dX4_readClause_1 : decode cX4_readClause 1 = .ok (.invokevirtual 44, 3) := by decide +kernel
theorem dX4_readClause_4 : decode cX4_readClause 4 = .ok (.istore_n 1, 1) := by decide +kernel
theorem dX4_readClause_5 : decode cX4_readClause 5 = .ok (.aload_n 0, 1) := by decide +kernel
theorem dX4_readClause_6 : decode cX4_readClause 6 = .ok (.iload_n 1, 1) := by decide +kernel
theorem dX4_readClause_7 : decode cX4_readClause 7 = .ok (.invokevirtual 48, 3) := by decide +kernel
theorem dX4_readClause_10 : decode cX4_readClause 10 = .ok (.istore_n 2, 1) := by decide +kernel
theorem dX4_readClause_11 : decode cX4_readClause 11 = .ok (.iload_n 2, 1) := by decide +kernel
theorem dX4_readClause_12 : decode cX4_readClause 12 = .ok (.ifCond .eq 13, 3) := by decide +kernel
theorem dX4_readClause_15 : decode cX4_readClause 15 = .ok (.aload_n 0, 1) := by decide +kernel
theorem dX4_readClause_16 : decode cX4_readClause 16 = .ok (.iload_n 2, 1) := by decide +kernel
theorem dX4_readClause_17 : decode cX4_readClause 17 = .ok (.aload_n 0, 1) := by decide +kernel
theorem dX4_readClause_18 : decode cX4_readClause 18 = .ok (.getfield 32, 3) := by decide +kernel
theorem dX4_readClause_21 : decode cX4_readClause 21 = .ok (.invokevirtual 52, 3) := by decide +kernel
theorem dX4_readClause_24 : decode cX4_readClause 24 = .ok (.return_, 1) := by decide +kernel
theorem dX4_readClause_25 : decode cX4_readClause 25 = .ok (.aload_n 0, 1) := by decide +kernel
theorem dX4_readClause_26 : decode cX4_readClause 26 = .ok (.dup, 1) := by decide +kernel
theorem dX4_readClause_27 : decode cX4_readClause 27 = .ok (.getfield 32, 3) := by decide +kernel
theorem dX4_readClause_30 : decode cX4_readClause 30 = .ok (.iconst 1, 1) := by decide +kernel
theorem dX4_readClause_31 : decode cX4_readClause 31 = .ok (.iadd, 1) := by decide +kernel
theorem dX4_readClause_32 : decode cX4_readClause 32 = .ok (.putfield 32, 3) := by decide +kernel
theorem dX4_readClause_35 : decode cX4_readClause 35 = .ok (.iload_n 1, 1) := by decide +kernel
theorem dX4_readClause_36 : decode cX4_readClause 36 = .ok (.bipush 103, 2) := by decide +kernel
theorem dX4_readClause_38 : decode cX4_readClause 38 = .ok (.if_icmp .ne 28, 3) := by decide +kernel
theorem dX4_readClause_41 : decode cX4_readClause 41 = .ok (.aload_n 0, 1) := by decide +kernel
theorem dX4_readClause_42 : decode cX4_readClause 42 = .ok (.getfield 18, 3) := by decide +kernel
theorem dX4_readClause_45 : decode cX4_readClause 45 = .ok (.iconst 1, 1) := by decide +kernel
theorem dX4_readClause_46 : decode cX4_readClause 46 = .ok (.putfield 56, 3) := by decide +kernel
theorem dX4_readClause_49 : decode cX4_readClause 49 = .ok (.aload_n 0, 1) := by decide +kernel
theorem dX4_readClause_50 : decode cX4_readClause 50 = .ok (.getfield 18, 3) := by decide +kernel
theorem dX4_readClause_53 : decode cX4_readClause 53 = .ok (.aload_n 0, 1) := by decide +kernel
theorem dX4_readClause_54 : decode cX4_readClause 54 = .ok (.iconst 1, 1) := by decide +kernel
theorem dX4_readClause_55 : decode cX4_readClause 55 = .ok (.bipush 30, 2) := by decide +kernel
theorem dX4_readClause_57 : decode cX4_readClause 57 = .ok (.invokevirtual 60, 3) := by decide +kernel
theorem dX4_readClause_60 : decode cX4_readClause 60 = .ok (.putfield 64, 3) := by decide +kernel
theorem dX4_readClause_63 : decode cX4_readClause 63 = .ok (.goto 123, 3) := by decide +kernel
theorem dX4_readClause_66 : decode cX4_readClause 66 = .ok (.iload_n 1, 1) := by decide +kernel
theorem dX4_readClause_67 : decode cX4_readClause 67 = .ok (.bipush 115, 2) := by decide +kernel
theorem dX4_readClause_69 : decode cX4_readClause 69 = .ok (.if_icmp .ne 10, 3) := by decide +kernel
theorem dX4_readClause_72 : decode cX4_readClause 72 = .ok (.aload_n 0, 1) := by decide +kernel
theorem dX4_readClause_73 : decode cX4_readClause 73 = .ok (.invokevirtual 67, 3) := by decide +kernel
theorem dX4_readClause_76 : decode cX4_readClause 76 = .ok (.goto 110, 3) := by decide +kernel
theorem dX4_readClause_79 : decode cX4_readClause 79 = .ok (.iload_n 1, 1) := by decide +kernel
theorem dX4_readClause_80 : decode cX4_readClause 80 = .ok (.bipush 119, 2) := by decide +kernel
theorem dX4_readClause_82 : decode cX4_readClause 82 = .ok (.if_icmp .ne 51, 3) := by decide +kernel
theorem dX4_readClause_85 : decode cX4_readClause 85 = .ok (.aload_n 0, 1) := by decide +kernel
theorem dX4_readClause_86 : decode cX4_readClause 86 = .ok (.getfield 18, 3) := by decide +kernel
theorem dX4_readClause_89 : decode cX4_readClause 89 = .ok (.getfield 70, 3) := by decide +kernel
theorem dX4_readClause_92 : decode cX4_readClause 92 = .ok (.iconst 5, 1) := by decide +kernel
theorem dX4_readClause_93 : decode cX4_readClause 93 = .ok (.if_icmp .ge 40, 3) := by decide +kernel
theorem dX4_readClause_96 : decode cX4_readClause 96 = .ok (.aload_n 0, 1) := by decide +kernel
theorem dX4_readClause_97 : decode cX4_readClause 97 = .ok (.getfield 18, 3) := by decide +kernel
theorem dX4_readClause_100 : decode cX4_readClause 100 = .ok (.getfield 73, 3) := by decide +kernel
theorem dX4_readClause_103 : decode cX4_readClause 103 = .ok (.aload_n 0, 1) := by decide +kernel
theorem dX4_readClause_104 : decode cX4_readClause 104 = .ok (.getfield 18, 3) := by decide +kernel
theorem dX4_readClause_107 : decode cX4_readClause 107 = .ok (.getfield 70, 3) := by decide +kernel
theorem dX4_readClause_110 : decode cX4_readClause 110 = .ok (.aload_n 0, 1) := by decide +kernel
theorem dX4_readClause_111 : decode cX4_readClause 111 = .ok (.iconst 0, 1) := by decide +kernel
theorem dX4_readClause_112 : decode cX4_readClause 112 = .ok (.iconst 5, 1) := by decide +kernel
theorem dX4_readClause_113 : decode cX4_readClause 113 = .ok (.invokevirtual 60, 3) := by decide +kernel
theorem dX4_readClause_116 : decode cX4_readClause 116 = .ok (.iastore, 1) := by decide +kernel
theorem dX4_readClause_117 : decode cX4_readClause 117 = .ok (.aload_n 0, 1) := by decide +kernel
theorem dX4_readClause_118 : decode cX4_readClause 118 = .ok (.getfield 18, 3) := by decide +kernel
theorem dX4_readClause_121 : decode cX4_readClause 121 = .ok (.dup, 1) := by decide +kernel
theorem dX4_readClause_122 : decode cX4_readClause 122 = .ok (.getfield 70, 3) := by decide +kernel
theorem dX4_readClause_125 : decode cX4_readClause 125 = .ok (.iconst 1, 1) := by decide +kernel
theorem dX4_readClause_126 : decode cX4_readClause 126 = .ok (.iadd, 1) := by decide +kernel
theorem dX4_readClause_127 : decode cX4_readClause 127 = .ok (.putfield 70, 3) := by decide +kernel
theorem dX4_readClause_130 : decode cX4_readClause 130 = .ok (.goto 56, 3) := by decide +kernel
theorem dX4_readClause_133 : decode cX4_readClause 133 = .ok (.iload_n 1, 1) := by decide +kernel
theorem dX4_readClause_134 : decode cX4_readClause 134 = .ok (.bipush 99, 2) := by decide +kernel
theorem dX4_readClause_136 : decode cX4_readClause 136 = .ok (.if_icmp .ne 50, 3) := by decide +kernel
theorem dX4_readClause_139 : decode cX4_readClause 139 = .ok (.aload_n 0, 1) := by decide +kernel
theorem dX4_readClause_140 : decode cX4_readClause 140 = .ok (.getfield 18, 3) := by decide +kernel
theorem dX4_readClause_143 : decode cX4_readClause 143 = .ok (.getfield 76, 3) := by decide +kernel
theorem dX4_readClause_146 : decode cX4_readClause 146 = .ok (.bipush 6, 2) := by decide +kernel
theorem dX4_readClause_148 : decode cX4_readClause 148 = .ok (.if_icmp .ge 38, 3) := by decide +kernel
theorem dX4_readClause_151 : decode cX4_readClause 151 = .ok (.aload_n 0, 1) := by decide +kernel
theorem dX4_readClause_152 : decode cX4_readClause 152 = .ok (.getfield 18, 3) := by decide +kernel
theorem dX4_readClause_155 : decode cX4_readClause 155 = .ok (.getfield 79, 3) := by decide +kernel
theorem dX4_readClause_158 : decode cX4_readClause 158 = .ok (.aload_n 0, 1) := by decide +kernel
theorem dX4_readClause_159 : decode cX4_readClause 159 = .ok (.getfield 18, 3) := by decide +kernel
theorem dX4_readClause_162 : decode cX4_readClause 162 = .ok (.getfield 76, 3) := by decide +kernel
theorem dX4_readClause_165 : decode cX4_readClause 165 = .ok (.aload_n 0, 1) := by decide +kernel
theorem dX4_readClause_166 : decode cX4_readClause 166 = .ok (.iconst 1, 1) := by decide +kernel
theorem dX4_readClause_167 : decode cX4_readClause 167 = .ok (.bipush 63, 2) := by decide +kernel
theorem dX4_readClause_169 : decode cX4_readClause 169 = .ok (.invokevirtual 60, 3) := by decide +kernel
theorem dX4_readClause_172 : decode cX4_readClause 172 = .ok (.iastore, 1) := by decide +kernel
theorem dX4_readClause_173 : decode cX4_readClause 173 = .ok (.aload_n 0, 1) := by decide +kernel
theorem dX4_readClause_174 : decode cX4_readClause 174 = .ok (.getfield 18, 3) := by decide +kernel
theorem dX4_readClause_177 : decode cX4_readClause 177 = .ok (.dup, 1) := by decide +kernel
theorem dX4_readClause_178 : decode cX4_readClause 178 = .ok (.getfield 76, 3) := by decide +kernel
theorem dX4_readClause_181 : decode cX4_readClause 181 = .ok (.iconst 1, 1) := by decide +kernel
theorem dX4_readClause_182 : decode cX4_readClause 182 = .ok (.iadd, 1) := by decide +kernel
theorem dX4_readClause_183 : decode cX4_readClause 183 = .ok (.putfield 76, 3) := by decide +kernel
theorem dX4_readClause_186 : decode cX4_readClause 186 = .ok (.aload_n 0, 1) := by decide +kernel
theorem dX4_readClause_187 : decode cX4_readClause 187 = .ok (.bipush 59, 2) := by decide +kernel
theorem dX4_readClause_189 : decode cX4_readClause 189 = .ok (.invokevirtual 82, 3) := by decide +kernel
theorem dX4_readClause_192 : decode cX4_readClause 192 = .ok (.return_, 1) := by decide +kernel
theorem dX4_faultOfWord_0 : decode cX4_faultOfWord 0 = .ok (.aload_n 0, 1) := by decide +kernel
theorem dX4_faultOfWord_1 : decode cX4_faultOfWord 1 = .ok (.getfield 18, 3) := by decide +kernel
theorem dX4_faultOfWord_4 : decode cX4_faultOfWord 4 = .ok (.getfield 56, 3) := by decide +kernel
theorem dX4_faultOfWord_7 : decode cX4_faultOfWord 7 = .ok (.ifCond .ne 15, 3) := by decide +kernel
theorem dX4_faultOfWord_10 : decode cX4_faultOfWord 10 = .ok (.iload_n 1, 1) := by decide +kernel
theorem dX4_faultOfWord_11 : decode cX4_faultOfWord 11 = .ok (.bipush 103, 2) := by decide +kernel
theorem dX4_faultOfWord_13 : decode cX4_faultOfWord 13 = .ok (.if_icmp .ne 7, 3) := by decide +kernel
theorem dX4_faultOfWord_16 : decode cX4_faultOfWord 16 = .ok (.iconst 0, 1) := by decide +kernel
theorem dX4_faultOfWord_17 : decode cX4_faultOfWord 17 = .ok (.goto 4, 3) := by decide +kernel
theorem dX4_faultOfWord_20 : decode cX4_faultOfWord 20 = .ok (.iconst 1, 1) := by decide +kernel
theorem dX4_faultOfWord_21 : decode cX4_faultOfWord 21 = .ok (.ireturn, 1) := by decide +kernel
theorem dX4_faultOfWord_22 : decode cX4_faultOfWord 22 = .ok (.iload_n 1, 1) := by decide +kernel
theorem dX4_faultOfWord_23 : decode cX4_faultOfWord 23 = .ok (.lookupswitch 96 #[(99, 78), (103, 41), (115, 43), (119, 61)], 41) := by decide +kernel
theorem dX4_faultOfWord_64 : decode cX4_faultOfWord 64 = .ok (.iconst 3, 1) := by decide +kernel
theorem dX4_faultOfWord_65 : decode cX4_faultOfWord 65 = .ok (.ireturn, 1) := by decide +kernel
theorem dX4_faultOfWord_66 : decode cX4_faultOfWord 66 = .ok (.aload_n 0, 1) := by decide +kernel
theorem dX4_faultOfWord_67 : decode cX4_faultOfWord 67 = .ok (.getfield 18, 3) := by decide +kernel
theorem dX4_faultOfWord_70 : decode cX4_faultOfWord 70 = .ok (.getfield 86, 3) := by decide +kernel
theorem dX4_faultOfWord_73 : decode cX4_faultOfWord 73 = .ok (.bipush 6, 2) := by decide +kernel
theorem dX4_faultOfWord_75 : decode cX4_faultOfWord 75 = .ok (.if_icmp .ge 7, 3) := by decide +kernel
theorem dX4_faultOfWord_78 : decode cX4_faultOfWord 78 = .ok (.iconst 0, 1) := by decide +kernel
theorem dX4_faultOfWord_79 : decode cX4_faultOfWord 79 = .ok (.goto 4, 3) := by decide +kernel
theorem dX4_faultOfWord_82 : decode cX4_faultOfWord 82 = .ok (.iconst 3, 1) := by decide +kernel
theorem dX4_faultOfWord_83 : decode cX4_faultOfWord 83 = .ok (.ireturn, 1) := by decide +kernel
theorem dX4_faultOfWord_84 : decode cX4_faultOfWord 84 = .ok (.aload_n 0, 1) := by decide +kernel
theorem dX4_faultOfWord_85 : decode cX4_faultOfWord 85 = .ok (.getfield 18, 3) := by decide +kernel
theorem dX4_faultOfWord_88 : decode cX4_faultOfWord 88 = .ok (.getfield 70, 3) := by decide +kernel
theorem dX4_faultOfWord_91 : decode cX4_faultOfWord 91 = .ok (.iconst 5, 1) := by decide +kernel
theorem dX4_faultOfWord_92 : decode cX4_faultOfWord 92 = .ok (.if_icmp .ge 7, 3) := by decide +kernel
theorem dX4_faultOfWord_95 : decode cX4_faultOfWord 95 = .ok (.iconst 0, 1) := by decide +kernel
theorem dX4_faultOfWord_96 : decode cX4_faultOfWord 96 = .ok (.goto 4, 3) := by decide +kernel
theorem dX4_faultOfWord_99 : decode cX4_faultOfWord 99 = .ok (.iconst 3, 1) := by decide +kernel
theorem dX4_faultOfWord_100 : decode cX4_faultOfWord 100 = .ok (.ireturn, 1) := by decide +kernel
theorem dX4_faultOfWord_101 : decode cX4_faultOfWord 101 = .ok (.aload_n 0, 1) := by decide +kernel
theorem dX4_faultOfWord_102 : decode cX4_faultOfWord 102 = .ok (.getfield 18, 3) := by decide +kernel
theorem dX4_faultOfWord_105 : decode cX4_faultOfWord 105 = .ok (.getfield 76, 3) := by decide +kernel
theorem dX4_faultOfWord_108 : decode cX4_faultOfWord 108 = .ok (.bipush 6, 2) := by decide +kernel
theorem dX4_faultOfWord_110 : decode cX4_faultOfWord 110 = .ok (.if_icmp .ge 7, 3) := by decide +kernel
theorem dX4_faultOfWord_113 : decode cX4_faultOfWord 113 = .ok (.iconst 0, 1) := by decide +kernel
theorem dX4_faultOfWord_114 : decode cX4_faultOfWord 114 = .ok (.goto 4, 3) := by decide +kernel
theorem dX4_faultOfWord_117 : decode cX4_faultOfWord 117 = .ok (.iconst 3, 1) := by decide +kernel
theorem dX4_faultOfWord_118 : decode cX4_faultOfWord 118 = .ok (.ireturn, 1) := by decide +kernel
theorem dX4_faultOfWord_119 : decode cX4_faultOfWord 119 = .ok (.iconst 1, 1) := by decide +kernel
theorem dX4_faultOfWord_120 : decode cX4_faultOfWord 120 = .ok (.ireturn, 1) := by decide +kernel
set_option maxRecDepth 20000 in
theorem ggX4_readSitter_X4_readSign : GoodIn wsX4_readSitter wsX4_readSign := goodIn_r _ [6, 7, 8, 9, 10, 11, 5, 12, 13, 14, 15, 16, 17, 18, 19, 20, 21, 22, 23, 31, 32, 33, 34, 35, 36] (by decide +kernel) (by decide +kernel)
set_option maxRecDepth 20000 in
theorem gX4_readSitter_X4_readSign : GoodIn wsX4_readSitter (wsV RX4 82 RX4 yX4_readSign wsX4_readSign) := goodIn_app (goodIn_of _ (by decide +kernel)) ggX4_readSitter_X4_readSign
set_option maxRecDepth 20000 in
theorem ggX4_readSitter_X4_readNumber : GoodIn wsX4_readSitter wsX4_readNumber := goodIn_r _ [27, 7, 8, 9, 10, 11, 5, 12, 13, 14, 15, 16, 17, 18, 28, 29, 30, 19, 20, 21, 22, 23, 31, 32, 33, 34, 35, 36] (by decide +kernel) (by decide +kernel)
set_option maxRecDepth 20000 in
theorem gX4_readSitter_X4_readNumber : GoodIn wsX4_readSitter (wsV RX4 60 RX4 yX4_readNumber wsX4_readNumber) := goodIn_app (goodIn_of _ (by decide +kernel)) ggX4_readSitter_X4_readNumber
theorem dX4_readSitter_0 : decode cX4_readSitter 0 = .ok (.iconst 0, 1) := by decide +kernel
theorem dX4_readSitter_1 : decode cX4_readSitter 1 = .ok (.istore_n 1, 1) := by decide +kernel
theorem dX4_readSitter_2 : decode cX4_readSitter 2 = .ok (.iconst 0, 1) := by decide +kernel
theorem dX4_readSitter_3 : decode cX4_readSitter 3 = .ok (.istore_n 2, 1) := by decide +kernel
theorem dX4_readSitter_4 : decode cX4_readSitter 4 = .ok (.iload_n 2, 1) := by decide +kernel
theorem dX4_readSitter_5 : decode cX4_readSitter 5 = .ok (.iconst 5, 1) := by decide +kernel
theorem dX4_readSitter_6 : decode cX4_readSitter 6 = .ok (.if_icmp .ge 34, 3) := by decide +kernel
theorem dX4_readSitter_9 : decode cX4_readSitter 9 = .ok (.iload_n 2, 1) := by decide +kernel
theorem dX4_readSitter_10 : decode cX4_readSitter 10 = .ok (.ifCond .le 9, 3) := by decide +kernel
theorem dX4_readSitter_13 : decode cX4_readSitter 13 = .ok (.aload_n 0, 1) := by decide +kernel
theorem dX4_readSitter_14 : decode cX4_readSitter 14 = .ok (.bipush 44, 2) := by decide +kernel
theorem dX4_readSitter_16 : decode cX4_readSitter 16 = .ok (.invokevirtual 82, 3) := by decide +kernel
theorem dX4_readSitter_19 : decode cX4_readSitter 19 = .ok (.iload_n 1, 1) := by decide +kernel
theorem dX4_readSitter_20 : decode cX4_readSitter 20 = .ok (.aload_n 0, 1) := by decide +kernel
theorem dX4_readSitter_21 : decode cX4_readSitter 21 = .ok (.iconst 0, 1) := by decide +kernel
theorem dX4_readSitter_22 : decode cX4_readSitter 22 = .ok (.bipush 63, 2) := by decide +kernel
theorem dX4_readSitter_24 : decode cX4_readSitter 24 = .ok (.invokevirtual 60, 3) := by decide +kernel
theorem dX4_readSitter_27 : decode cX4_readSitter 27 = .ok (.bipush 6, 2) := by decide +kernel
theorem dX4_readSitter_29 : decode cX4_readSitter 29 = .ok (.iload_n 2, 1) := by decide +kernel
theorem dX4_readSitter_30 : decode cX4_readSitter 30 = .ok (.imul, 1) := by decide +kernel
theorem dX4_readSitter_31 : decode cX4_readSitter 31 = .ok (.ishl, 1) := by decide +kernel
theorem dX4_readSitter_32 : decode cX4_readSitter 32 = .ok (.ior, 1) := by decide +kernel
theorem dX4_readSitter_33 : decode cX4_readSitter 33 = .ok (.istore_n 1, 1) := by decide +kernel
theorem dX4_readSitter_34 : decode cX4_readSitter 34 = .ok (.iinc 2 1, 3) := by decide +kernel
theorem dX4_readSitter_37 : decode cX4_readSitter 37 = .ok (.goto (-33), 3) := by decide +kernel
theorem dX4_readSitter_40 : decode cX4_readSitter 40 = .ok (.aload_n 0, 1) := by decide +kernel
theorem dX4_readSitter_41 : decode cX4_readSitter 41 = .ok (.getfield 18, 3) := by decide +kernel
theorem dX4_readSitter_44 : decode cX4_readSitter 44 = .ok (.getfield 86, 3) := by decide +kernel
theorem dX4_readSitter_47 : decode cX4_readSitter 47 = .ok (.bipush 6, 2) := by decide +kernel
theorem dX4_readSitter_49 : decode cX4_readSitter 49 = .ok (.if_icmp .ge 32, 3) := by decide +kernel
theorem dX4_readSitter_52 : decode cX4_readSitter 52 = .ok (.aload_n 0, 1) := by decide +kernel
theorem dX4_readSitter_53 : decode cX4_readSitter 53 = .ok (.getfield 18, 3) := by decide +kernel
theorem dX4_readSitter_56 : decode cX4_readSitter 56 = .ok (.getfield 89, 3) := by decide +kernel
theorem dX4_readSitter_59 : decode cX4_readSitter 59 = .ok (.aload_n 0, 1) := by decide +kernel
theorem dX4_readSitter_60 : decode cX4_readSitter 60 = .ok (.getfield 18, 3) := by decide +kernel
theorem dX4_readSitter_63 : decode cX4_readSitter 63 = .ok (.getfield 86, 3) := by decide +kernel
theorem dX4_readSitter_66 : decode cX4_readSitter 66 = .ok (.iload_n 1, 1) := by decide +kernel
theorem dX4_readSitter_67 : decode cX4_readSitter 67 = .ok (.iastore, 1) := by decide +kernel
theorem dX4_readSitter_68 : decode cX4_readSitter 68 = .ok (.aload_n 0, 1) := by decide +kernel
theorem dX4_readSitter_69 : decode cX4_readSitter 69 = .ok (.getfield 18, 3) := by decide +kernel
theorem dX4_readSitter_72 : decode cX4_readSitter 72 = .ok (.dup, 1) := by decide +kernel
theorem dX4_readSitter_73 : decode cX4_readSitter 73 = .ok (.getfield 86, 3) := by decide +kernel
theorem dX4_readSitter_76 : decode cX4_readSitter 76 = .ok (.iconst 1, 1) := by decide +kernel
theorem dX4_readSitter_77 : decode cX4_readSitter 77 = .ok (.iadd, 1) := by decide +kernel
theorem dX4_readSitter_78 : decode cX4_readSitter 78 = .ok (.putfield 86, 3) := by decide +kernel
theorem dX4_readSitter_81 : decode cX4_readSitter 81 = .ok (.return_, 1) := by decide +kernel
set_option maxRecDepth 20000 in
theorem ggX4_readNumber_X4_skipBlanks : GoodIn wsX4_readNumber wsX4_skipBlanks := goodIn_r _ [7, 2, 8, 9, 10, 6, 11, 12, 13, 22, 23, 24, 25, 26, 27] (by decide +kernel) (by decide +kernel)
set_option maxRecDepth 20000 in
theorem gX4_readNumber_X4_skipBlanks : GoodIn wsX4_readNumber (wsV RX4 38 RX4 yX4_skipBlanks wsX4_skipBlanks) := goodIn_app (goodIn_of _ (by decide +kernel)) ggX4_readNumber_X4_skipBlanks
set_option maxRecDepth 20000 in
theorem ggX4_readNumber_X4_letterHere : GoodIn wsX4_readNumber wsX4_letterHere := goodIn_r _ [11, 2, 12, 13, 22, 23, 24, 25, 26, 27] (by decide +kernel) (by decide +kernel)
set_option maxRecDepth 20000 in
theorem gX4_readNumber_X4_letterHere : GoodIn wsX4_readNumber (wsV RX4 44 RX4 yX4_letterHere wsX4_letterHere) := goodIn_app (goodIn_of _ (by decide +kernel)) ggX4_readNumber_X4_letterHere
set_option maxRecDepth 20000 in
theorem ggX4_readNumber_X4_isFigure : GoodIn wsX4_readNumber wsX4_isFigure := goodIn_r _ [16] (by decide +kernel) (by decide +kernel)
set_option maxRecDepth 20000 in
theorem gX4_readNumber_X4_isFigure : GoodIn wsX4_readNumber (va_wsS RX4 92 yX4_isFigure wsX4_isFigure) := goodIn_app (goodIn_of _ (by decide +kernel)) ggX4_readNumber_X4_isFigure
set_option maxRecDepth 20000 in
theorem ggX4_readNumber_X4_blame : GoodIn wsX4_readNumber wsX4_blame := goodIn_r _ [20, 1, 21, 22, 23, 24, 25, 26, 27] (by decide +kernel) (by decide +kernel)
set_option maxRecDepth 20000 in
theorem gX4_readNumber_X4_blame : GoodIn wsX4_readNumber (wsV RX4 52 RX4 yX4_blame wsX4_blame) := goodIn_app (goodIn_of _ (by decide +kernel)) ggX4_readNumber_X4_blame
theorem dX4_readNumber_0 : decode cX4_readNumber 0 = .ok (.aload_n 0, 1) := by decide +kernel
theorem dX4_readNumber_1 : decode cX4_readNumber 1 = .ok (.getfield 35, 3) := by decide +kernel
theorem dX4_readNumber_4 : decode cX4_readNumber 4 = .ok (.ifCond .eq 5, 3) := by decide +kernel
theorem dX4_readNumber_7 : decode cX4_readNumber 7 = .ok (.iconst 0, 1) := by decide +kernel
theorem dX4_readNumber_8 : decode cX4_readNumber 8 = .ok (.ireturn, 1) := by decide +kernel
theorem dX4_readNumber_9 : decode cX4_readNumber 9 = .ok (.aload_n 0, 1) := by decide +kernel
theorem dX4_readNumber_10 : decode cX4_readNumber 10 = .ok (.invokevirtual 38, 3) := by decide +kernel
theorem dX4_readNumber_13 : decode cX4_readNumber 13 = .ok (.aload_n 0, 1) := by decide +kernel
theorem dX4_readNumber_14 : decode cX4_readNumber 14 = .ok (.getfield 32, 3) := by decide +kernel
theorem dX4_readNumber_17 : decode cX4_readNumber 17 = .ok (.istore_n 3, 1) := by decide +kernel
theorem dX4_readNumber_18 : decode cX4_readNumber 18 = .ok (.iconst 0, 1) := by decide +kernel
theorem dX4_readNumber_19 : decode cX4_readNumber 19 = .ok (.istore 4, 2) := by decide +kernel
theorem dX4_readNumber_21 : decode cX4_readNumber 21 = .ok (.iconst 0, 1) := by decide +kernel
theorem dX4_readNumber_22 : decode cX4_readNumber 22 = .ok (.istore 5, 2) := by decide +kernel
theorem dX4_readNumber_24 : decode cX4_readNumber 24 = .ok (.iload 5, 2) := by decide +kernel
theorem dX4_readNumber_26 : decode cX4_readNumber 26 = .ok (.sipush 240, 3) := by decide +kernel
theorem dX4_readNumber_29 : decode cX4_readNumber 29 = .ok (.if_icmp .ge 50, 3) := by decide +kernel
theorem dX4_readNumber_32 : decode cX4_readNumber 32 = .ok (.aload_n 0, 1) := by decide +kernel
theorem dX4_readNumber_33 : decode cX4_readNumber 33 = .ok (.invokevirtual 44, 3) := by decide +kernel
theorem dX4_readNumber_36 : decode cX4_readNumber 36 = .ok (.invokestatic 92, 3) := by decide +kernel
theorem dX4_readNumber_39 : decode cX4_readNumber 39 = .ok (.ifCond .eq 40, 3) := by decide +kernel
theorem dX4_readNumber_42 : decode cX4_readNumber 42 = .ok (.iload 5, 2) := by decide +kernel
theorem dX4_readNumber_44 : decode cX4_readNumber 44 = .ok (.iconst 3, 1) := by decide +kernel
theorem dX4_readNumber_45 : decode cX4_readNumber 45 = .ok (.if_icmp .ge 18, 3) := by decide +kernel
theorem dX4_readNumber_48 : decode cX4_readNumber 48 = .ok (.bipush 10, 2) := by decide +kernel
theorem dX4_readNumber_50 : decode cX4_readNumber 50 = .ok (.iload 4, 2) := by decide +kernel
theorem dX4_readNumber_52 : decode cX4_readNumber 52 = .ok (.imul, 1) := by decide +kernel
theorem dX4_readNumber_53 : decode cX4_readNumber 53 = .ok (.aload_n 0, 1) := by decide +kernel
theorem dX4_readNumber_54 : decode cX4_readNumber 54 = .ok (.invokevirtual 44, 3) := by decide +kernel
theorem dX4_readNumber_57 : decode cX4_readNumber 57 = .ok (.iadd, 1) := by decide +kernel
theorem dX4_readNumber_58 : decode cX4_readNumber 58 = .ok (.bipush 48, 2) := by decide +kernel
theorem dX4_readNumber_60 : decode cX4_readNumber 60 = .ok (.isub, 1) := by decide +kernel
theorem dX4_readNumber_61 : decode cX4_readNumber 61 = .ok (.istore 4, 2) := by decide +kernel
theorem dX4_readNumber_63 : decode cX4_readNumber 63 = .ok (.aload_n 0, 1) := by decide +kernel
theorem dX4_readNumber_64 : decode cX4_readNumber 64 = .ok (.dup, 1) := by decide +kernel
theorem dX4_readNumber_65 : decode cX4_readNumber 65 = .ok (.getfield 32, 3) := by decide +kernel
theorem dX4_readNumber_68 : decode cX4_readNumber 68 = .ok (.iconst 1, 1) := by decide +kernel
theorem dX4_readNumber_69 : decode cX4_readNumber 69 = .ok (.iadd, 1) := by decide +kernel
theorem dX4_readNumber_70 : decode cX4_readNumber 70 = .ok (.putfield 32, 3) := by decide +kernel
theorem dX4_readNumber_73 : decode cX4_readNumber 73 = .ok (.iinc 5 1, 3) := by decide +kernel
theorem dX4_readNumber_76 : decode cX4_readNumber 76 = .ok (.goto (-52), 3) := by decide +kernel
theorem dX4_readNumber_79 : decode cX4_readNumber 79 = .ok (.aload_n 0, 1) := by decide +kernel
theorem dX4_readNumber_80 : decode cX4_readNumber 80 = .ok (.getfield 32, 3) := by decide +kernel
theorem dX4_readNumber_83 : decode cX4_readNumber 83 = .ok (.iload_n 3, 1) := by decide +kernel
theorem dX4_readNumber_84 : decode cX4_readNumber 84 = .ok (.if_icmp .ne 14, 3) := by decide +kernel
theorem dX4_readNumber_87 : decode cX4_readNumber 87 = .ok (.aload_n 0, 1) := by decide +kernel
theorem dX4_readNumber_88 : decode cX4_readNumber 88 = .ok (.iconst 1, 1) := by decide +kernel
theorem dX4_readNumber_89 : decode cX4_readNumber 89 = .ok (.aload_n 0, 1) := by decide +kernel
theorem dX4_readNumber_90 : decode cX4_readNumber 90 = .ok (.getfield 32, 3) := by decide +kernel
theorem dX4_readNumber_93 : decode cX4_readNumber 93 = .ok (.invokevirtual 52, 3) := by decide +kernel
theorem dX4_readNumber_96 : decode cX4_readNumber 96 = .ok (.iconst 0, 1) := by decide +kernel
theorem dX4_readNumber_97 : decode cX4_readNumber 97 = .ok (.ireturn, 1) := by decide +kernel
theorem dX4_readNumber_98 : decode cX4_readNumber 98 = .ok (.aload_n 0, 1) := by decide +kernel
theorem dX4_readNumber_99 : decode cX4_readNumber 99 = .ok (.getfield 32, 3) := by decide +kernel
theorem dX4_readNumber_102 : decode cX4_readNumber 102 = .ok (.iload_n 3, 1) := by decide +kernel
theorem dX4_readNumber_103 : decode cX4_readNumber 103 = .ok (.isub, 1) := by decide +kernel
theorem dX4_readNumber_104 : decode cX4_readNumber 104 = .ok (.iconst 3, 1) := by decide +kernel
theorem dX4_readNumber_105 : decode cX4_readNumber 105 = .ok (.if_icmp .gt 15, 3) := by decide +kernel
theorem dX4_readNumber_108 : decode cX4_readNumber 108 = .ok (.iload 4, 2) := by decide +kernel
theorem dX4_readNumber_110 : decode cX4_readNumber 110 = .ok (.iload_n 1, 1) := by decide +kernel
theorem dX4_readNumber_111 : decode cX4_readNumber 111 = .ok (.if_icmp .lt 9, 3) := by decide +kernel
theorem dX4_readNumber_114 : decode cX4_readNumber 114 = .ok (.iload 4, 2) := by decide +kernel
theorem dX4_readNumber_116 : decode cX4_readNumber 116 = .ok (.iload_n 2, 1) := by decide +kernel
theorem dX4_readNumber_117 : decode cX4_readNumber 117 = .ok (.if_icmp .le 11, 3) := by decide +kernel
theorem dX4_readNumber_120 : decode cX4_readNumber 120 = .ok (.aload_n 0, 1) := by decide +kernel
theorem dX4_readNumber_121 : decode cX4_readNumber 121 = .ok (.iconst 2, 1) := by decide +kernel
theorem dX4_readNumber_122 : decode cX4_readNumber 122 = .ok (.iload_n 3, 1) := by decide +kernel
theorem dX4_readNumber_123 : decode cX4_readNumber 123 = .ok (.invokevirtual 52, 3) := by decide +kernel
theorem dX4_readNumber_126 : decode cX4_readNumber 126 = .ok (.iconst 0, 1) := by decide +kernel
theorem dX4_readNumber_127 : decode cX4_readNumber 127 = .ok (.ireturn, 1) := by decide +kernel
theorem dX4_readNumber_128 : decode cX4_readNumber 128 = .ok (.iload 4, 2) := by decide +kernel
theorem dX4_readNumber_130 : decode cX4_readNumber 130 = .ok (.ireturn, 1) := by decide +kernel
set_option maxRecDepth 20000 in
theorem ggX4_readSign_X4_skipBlanks : GoodIn wsX4_readSign wsX4_skipBlanks := goodIn_r _ [7, 2, 8, 9, 10, 6, 11, 12, 13, 19, 20, 21, 22, 23, 24] (by decide +kernel) (by decide +kernel)
set_option maxRecDepth 20000 in
theorem gX4_readSign_X4_skipBlanks : GoodIn wsX4_readSign (wsV RX4 38 RX4 yX4_skipBlanks wsX4_skipBlanks) := goodIn_app (goodIn_of _ (by decide +kernel)) ggX4_readSign_X4_skipBlanks
set_option maxRecDepth 20000 in
theorem ggX4_readSign_X4_letterHere : GoodIn wsX4_readSign wsX4_letterHere := goodIn_r _ [11, 2, 12, 13, 19, 20, 21, 22, 23, 24] (by decide +kernel) (by decide +kernel)
set_option maxRecDepth 20000 in
theorem gX4_readSign_X4_letterHere : GoodIn wsX4_readSign (wsV RX4 44 RX4 yX4_letterHere wsX4_letterHere) := goodIn_app (goodIn_of _ (by decide +kernel)) ggX4_readSign_X4_letterHere
set_option maxRecDepth 20000 in
theorem ggX4_readSign_X4_blame : GoodIn wsX4_readSign wsX4_blame := goodIn_r _ [17, 1, 18, 19, 20, 21, 22, 23, 24] (by decide +kernel) (by decide +kernel)
set_option maxRecDepth 20000 in
theorem gX4_readSign_X4_blame : GoodIn wsX4_readSign (wsV RX4 52 RX4 yX4_blame wsX4_blame) := goodIn_app (goodIn_of _ (by decide +kernel)) ggX4_readSign_X4_blame
theorem dX4_readSign_0 : decode cX4_readSign 0 = .ok (.aload_n 0, 1) := by decide +kernel
theorem dX4_readSign_1 : decode cX4_readSign 1 = .ok (.getfield 35, 3) := by decide +kernel
theorem dX4_readSign_4 : decode cX4_readSign 4 = .ok (.ifCond .eq 4, 3) := by decide +kernel
theorem dX4_readSign_7 : decode cX4_readSign 7 = .ok (.return_, 1) := by decide +kernel
theorem dX4_readSign_8 : decode cX4_readSign 8 = .ok (.aload_n 0, 1) := by decide +kernel
theorem dX4_readSign_9 : decode cX4_readSign 9 = .ok (.invokevirtual 38, 3) := by decide +kernel
theorem dX4_readSign_12 : decode cX4_readSign 12 = .ok (.aload_n 0, 1) := by decide +kernel
theorem dX4_readSign_13 : decode cX4_readSign 13 = .ok (.invokevirtual 44, 3) := by decide +kernel
theorem dX4_readSign_16 : decode cX4_readSign 16 = .ok (.iload_n 1, 1) := by decide +kernel
theorem dX4_readSign_17 : decode cX4_readSign 17 = .ok (.if_icmp .ne 16, 3) := by decide +kernel
theorem dX4_readSign_20 : decode cX4_readSign 20 = .ok (.aload_n 0, 1) := by decide +kernel
theorem dX4_readSign_21 : decode cX4_readSign 21 = .ok (.dup, 1) := by decide +kernel
theorem dX4_readSign_22 : decode cX4_readSign 22 = .ok (.getfield 32, 3) := by decide +kernel
theorem dX4_readSign_25 : decode cX4_readSign 25 = .ok (.iconst 1, 1) := by decide +kernel
theorem dX4_readSign_26 : decode cX4_readSign 26 = .ok (.iadd, 1) := by decide +kernel
theorem dX4_readSign_27 : decode cX4_readSign 27 = .ok (.putfield 32, 3) := by decide +kernel
theorem dX4_readSign_30 : decode cX4_readSign 30 = .ok (.goto 12, 3) := by decide +kernel
theorem dX4_readSign_33 : decode cX4_readSign 33 = .ok (.aload_n 0, 1) := by decide +kernel
theorem dX4_readSign_34 : decode cX4_readSign 34 = .ok (.iconst 1, 1) := by decide +kernel
theorem dX4_readSign_35 : decode cX4_readSign 35 = .ok (.aload_n 0, 1) := by decide +kernel
theorem dX4_readSign_36 : decode cX4_readSign 36 = .ok (.getfield 32, 3) := by decide +kernel
theorem dX4_readSign_39 : decode cX4_readSign 39 = .ok (.invokevirtual 52, 3) := by decide +kernel
theorem dX4_readSign_42 : decode cX4_readSign 42 = .ok (.return_, 1) := by decide +kernel
set_option maxRecDepth 20000 in
theorem ggX4_skipBlanks_X4_letterHere : GoodIn wsX4_skipBlanks wsX4_letterHere := goodIn_r _ [6, 1, 7, 8, 9, 10, 11, 12, 13, 14] (by decide +kernel) (by decide +kernel)
set_option maxRecDepth 20000 in
theorem gX4_skipBlanks_X4_letterHere : GoodIn wsX4_skipBlanks (wsV RX4 44 RX4 yX4_letterHere wsX4_letterHere) := goodIn_app (goodIn_of _ (by decide +kernel)) ggX4_skipBlanks_X4_letterHere
theorem dX4_skipBlanks_0 : decode cX4_skipBlanks 0 = .ok (.iconst 0, 1) := by decide +kernel
theorem dX4_skipBlanks_1 : decode cX4_skipBlanks 1 = .ok (.istore_n 1, 1) := by decide +kernel
theorem dX4_skipBlanks_2 : decode cX4_skipBlanks 2 = .ok (.iload_n 1, 1) := by decide +kernel
theorem dX4_skipBlanks_3 : decode cX4_skipBlanks 3 = .ok (.sipush 240, 3) := by decide +kernel
theorem dX4_skipBlanks_6 : decode cX4_skipBlanks 6 = .ok (.if_icmp .ge 28, 3) := by decide +kernel
theorem dX4_skipBlanks_9 : decode cX4_skipBlanks 9 = .ok (.aload_n 0, 1) := by decide +kernel
theorem dX4_skipBlanks_10 : decode cX4_skipBlanks 10 = .ok (.invokevirtual 44, 3) := by decide +kernel
theorem dX4_skipBlanks_13 : decode cX4_skipBlanks 13 = .ok (.bipush 32, 2) := by decide +kernel
theorem dX4_skipBlanks_15 : decode cX4_skipBlanks 15 = .ok (.if_icmp .ne 19, 3) := by decide +kernel
theorem dX4_skipBlanks_18 : decode cX4_skipBlanks 18 = .ok (.aload_n 0, 1) := by decide +kernel
theorem dX4_skipBlanks_19 : decode cX4_skipBlanks 19 = .ok (.dup, 1) := by decide +kernel
theorem dX4_skipBlanks_20 : decode cX4_skipBlanks 20 = .ok (.getfield 32, 3) := by decide +kernel
theorem dX4_skipBlanks_23 : decode cX4_skipBlanks 23 = .ok (.iconst 1, 1) := by decide +kernel
theorem dX4_skipBlanks_24 : decode cX4_skipBlanks 24 = .ok (.iadd, 1) := by decide +kernel
theorem dX4_skipBlanks_25 : decode cX4_skipBlanks 25 = .ok (.putfield 32, 3) := by decide +kernel
theorem dX4_skipBlanks_28 : decode cX4_skipBlanks 28 = .ok (.iinc 1 1, 3) := by decide +kernel
theorem dX4_skipBlanks_31 : decode cX4_skipBlanks 31 = .ok (.goto (-29), 3) := by decide +kernel
theorem dX4_skipBlanks_34 : decode cX4_skipBlanks 34 = .ok (.return_, 1) := by decide +kernel
theorem dX4_letterHere_0 : decode cX4_letterHere 0 = .ok (.aload_n 0, 1) := by decide +kernel
theorem dX4_letterHere_1 : decode cX4_letterHere 1 = .ok (.getfield 32, 3) := by decide +kernel
theorem dX4_letterHere_4 : decode cX4_letterHere 4 = .ok (.ifCond .lt 36, 3) := by decide +kernel
theorem dX4_letterHere_7 : decode cX4_letterHere 7 = .ok (.aload_n 0, 1) := by decide +kernel
theorem dX4_letterHere_8 : decode cX4_letterHere 8 = .ok (.getfield 32, 3) := by decide +kernel
theorem dX4_letterHere_11 : decode cX4_letterHere 11 = .ok (.aload_n 0, 1) := by decide +kernel
theorem dX4_letterHere_12 : decode cX4_letterHere 12 = .ok (.getfield 26, 3) := by decide +kernel
theorem dX4_letterHere_15 : decode cX4_letterHere 15 = .ok (.if_icmp .ge 25, 3) := by decide +kernel
theorem dX4_letterHere_18 : decode cX4_letterHere 18 = .ok (.aload_n 0, 1) := by decide +kernel
theorem dX4_letterHere_19 : decode cX4_letterHere 19 = .ok (.getfield 32, 3) := by decide +kernel
theorem dX4_letterHere_22 : decode cX4_letterHere 22 = .ok (.sipush 240, 3) := by decide +kernel
theorem dX4_letterHere_25 : decode cX4_letterHere 25 = .ok (.if_icmp .ge 15, 3) := by decide +kernel
theorem dX4_letterHere_28 : decode cX4_letterHere 28 = .ok (.aload_n 0, 1) := by decide +kernel
theorem dX4_letterHere_29 : decode cX4_letterHere 29 = .ok (.getfield 9, 3) := by decide +kernel
theorem dX4_letterHere_32 : decode cX4_letterHere 32 = .ok (.aload_n 0, 1) := by decide +kernel
theorem dX4_letterHere_33 : decode cX4_letterHere 33 = .ok (.getfield 32, 3) := by decide +kernel
theorem dX4_letterHere_36 : decode cX4_letterHere 36 = .ok (.iaload, 1) := by decide +kernel
theorem dX4_letterHere_37 : decode cX4_letterHere 37 = .ok (.goto 4, 3) := by decide +kernel
theorem dX4_letterHere_40 : decode cX4_letterHere 40 = .ok (.iconst (-1), 1) := by decide +kernel
theorem dX4_letterHere_41 : decode cX4_letterHere 41 = .ok (.ireturn, 1) := by decide +kernel
theorem dX4_isFigure_0 : decode cX4_isFigure 0 = .ok (.iload_n 0, 1) := by decide +kernel
theorem dX4_isFigure_1 : decode cX4_isFigure 1 = .ok (.bipush 48, 2) := by decide +kernel
theorem dX4_isFigure_3 : decode cX4_isFigure 3 = .ok (.if_icmp .lt 13, 3) := by decide +kernel
theorem dX4_isFigure_6 : decode cX4_isFigure 6 = .ok (.iload_n 0, 1) := by decide +kernel
theorem dX4_isFigure_7 : decode cX4_isFigure 7 = .ok (.bipush 57, 2) := by decide +kernel
theorem dX4_isFigure_9 : decode cX4_isFigure 9 = .ok (.if_icmp .gt 7, 3) := by decide +kernel
theorem dX4_isFigure_12 : decode cX4_isFigure 12 = .ok (.iconst 1, 1) := by decide +kernel
theorem dX4_isFigure_13 : decode cX4_isFigure 13 = .ok (.goto 4, 3) := by decide +kernel
theorem dX4_isFigure_16 : decode cX4_isFigure 16 = .ok (.iconst 0, 1) := by decide +kernel
theorem dX4_isFigure_17 : decode cX4_isFigure 17 = .ok (.ireturn, 1) := by decide +kernel
theorem dX4_blame_0 : decode cX4_blame 0 = .ok (.aload_n 0, 1) := by decide +kernel
theorem dX4_blame_1 : decode cX4_blame 1 = .ok (.iload_n 1, 1) := by decide +kernel
theorem dX4_blame_2 : decode cX4_blame 2 = .ok (.putfield 35, 3) := by decide +kernel
theorem dX4_blame_5 : decode cX4_blame 5 = .ok (.aload_n 0, 1) := by decide +kernel
theorem dX4_blame_6 : decode cX4_blame 6 = .ok (.iload_n 2, 1) := by decide +kernel
theorem dX4_blame_7 : decode cX4_blame 7 = .ok (.putfield 22, 3) := by decide +kernel
theorem dX4_blame_10 : decode cX4_blame 10 = .ok (.return_, 1) := by decide +kernel
