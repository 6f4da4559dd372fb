abbrev wqX5_init : Cond := Cond.code yX5_init cX5_init 1 none
abbrev wqX1_init : Cond := Cond.code yX1_init cX1_init 1 none
abbrev wqX2_init : Cond := Cond.code yX2_init cX2_init 1 none
abbrev wqX3_init : Cond := Cond.code yX3_init cX3_init 1 none
abbrev wqX4_init : Cond := Cond.code yX4_init cX4_init 1 none
abbrev wqX0_init : Cond := Cond.code yX0_init cX0_init 2 none
abbrev wqX6_init : Cond := Cond.code yX6_init cX6_init 2 none
abbrev wqX7_init : Cond := Cond.code yX7_init cX7_init 1 none
theorem dX5_init_0 : decode cX5_init 0 = .ok (.aload_n 0, 1) := by decide +kernel
theorem dX5_init_1 : decode cX5_init 1 = .ok (.invokespecial 3, 3) := by decide +kernel
theorem dX5_init_4 : decode cX5_init 4 = .ok (.aload_n 0, 1) := by decide +kernel
theorem dX5_init_5 : decode cX5_init 5 = .ok (.bipush 20, 2) := by decide +kernel
theorem dX5_init_7 : decode cX5_init 7 = .ok (.newarray .int, 2) := by decide +kernel
theorem dX5_init_9 : decode cX5_init 9 = .ok (.putfield 9, 3) := by decide +kernel
theorem dX5_init_12 : decode cX5_init 12 = .ok (.aload_n 0, 1) := by decide +kernel
theorem dX5_init_13 : decode cX5_init 13 = .ok (.bipush 20, 2) := by decide +kernel
theorem dX5_init_15 : decode cX5_init 15 = .ok (.newarray .int, 2) := by decide +kernel
theorem dX5_init_17 : decode cX5_init 17 = .ok (.putfield 15, 3) := by decide +kernel
theorem dX5_init_20 : decode cX5_init 20 = .ok (.aload_n 0, 1) := by decide +kernel
theorem dX5_init_21 : decode cX5_init 21 = .ok (.bipush 20, 2) := by decide +kernel
theorem dX5_init_23 : decode cX5_init 23 = .ok (.newarray .int, 2) := by decide +kernel
theorem dX5_init_25 : decode cX5_init 25 = .ok (.putfield 18, 3) := by decide +kernel
theorem dX5_init_28 : decode cX5_init 28 = .ok (.aload_n 0, 1) := by decide +kernel
theorem dX5_init_29 : decode cX5_init 29 = .ok (.bipush 20, 2) := by decide +kernel
theorem dX5_init_31 : decode cX5_init 31 = .ok (.newarray .int, 2) := by decide +kernel
theorem dX5_init_33 : decode cX5_init 33 = .ok (.putfield 21, 3) := by decide +kernel
theorem dX5_init_36 : decode cX5_init 36 = .ok (.return_, 1) := by decide +kernel
theorem dX1_init_0 : decode cX1_init 0 = .ok (.aload_n 0, 1) := by decide +kernel
theorem dX1_init_1 : decode cX1_init 1 = .ok (.invokespecial 3, 3) := by decide +kernel
theorem dX1_init_4 : decode cX1_init 4 = .ok (.aload_n 0, 1) := by decide +kernel
theorem dX1_init_5 : decode cX1_init 5 = .ok (.bipush 17, 2) := by decide +kernel
theorem dX1_init_7 : decode cX1_init 7 = .ok (.newarray .int, 2) := by decide +kernel
theorem dX1_init_9 : decode cX1_init 9 = .ok (.putfield 9, 3) := by decide +kernel
theorem dX1_init_12 : decode cX1_init 12 = .ok (.aload_n 0, 1) := by decide +kernel
theorem dX1_init_13 : decode cX1_init 13 = .ok (.bipush 17, 2) := by decide +kernel
theorem dX1_init_15 : decode cX1_init 15 = .ok (.newarray .int, 2) := by decide +kernel
theorem dX1_init_17 : decode cX1_init 17 = .ok (.putfield 15, 3) := by decide +kernel
theorem dX1_init_20 : decode cX1_init 20 = .ok (.aload_n 0, 1) := by decide +kernel
theorem dX1_init_21 : decode cX1_init 21 = .ok (.bipush 17, 2) := by decide +kernel
theorem dX1_init_23 : decode cX1_init 23 = .ok (.newarray .int, 2) := by decide +kernel
theorem dX1_init_25 : decode cX1_init 25 = .ok (.putfield 18, 3) := by decide +kernel
theorem dX1_init_28 : decode cX1_init 28 = .ok (.aload_n 0, 1) := by decide +kernel
theorem dX1_init_29 : decode cX1_init 29 = .ok (.bipush 17, 2) := by decide +kernel
theorem dX1_init_31 : decode cX1_init 31 = .ok (.newarray .int, 2) := by decide +kernel
theorem dX1_init_33 : decode cX1_init 33 = .ok (.putfield 21, 3) := by decide +kernel
theorem dX1_init_36 : decode cX1_init 36 = .ok (.aload_n 0, 1) := by decide +kernel
theorem dX1_init_37 : decode cX1_init 37 = .ok (.iconst 1, 1) := by decide +kernel
theorem dX1_init_38 : decode cX1_init 38 = .ok (.putfield 24, 3) := by decide +kernel
theorem dX1_init_41 : decode cX1_init 41 = .ok (.aload_n 0, 1) := by decide +kernel
theorem dX1_init_42 : decode cX1_init 42 = .ok (.getfield 21, 3) := by decide +kernel
theorem dX1_init_45 : decode cX1_init 45 = .ok (.iconst 0, 1) := by decide +kernel
theorem dX1_init_46 : decode cX1_init 46 = .ok (.iconst (-1), 1) := by decide +kernel
theorem dX1_init_47 : decode cX1_init 47 = .ok (.iastore, 1) := by decide +kernel
theorem dX1_init_48 : decode cX1_init 48 = .ok (.return_, 1) := by decide +kernel
theorem dX2_init_0 : decode cX2_init 0 = .ok (.aload_n 0, 1) := by decide +kernel
theorem dX2_init_1 : decode cX2_init 1 = .ok (.invokespecial 3, 3) := by decide +kernel
theorem dX2_init_4 : decode cX2_init 4 = .ok (.aload_n 0, 1) := by decide +kernel
theorem dX2_init_5 : decode cX2_init 5 = .ok (.bipush 50, 2) := by decide +kernel
theorem dX2_init_7 : decode cX2_init 7 = .ok (.newarray .int, 2) := by decide +kernel
theorem dX2_init_9 : decode cX2_init 9 = .ok (.putfield 9, 3) := by decide +kernel
theorem dX2_init_12 : decode cX2_init 12 = .ok (.aload_n 0, 1) := by decide +kernel
theorem dX2_init_13 : decode cX2_init 13 = .ok (.bipush 50, 2) := by decide +kernel
theorem dX2_init_15 : decode cX2_init 15 = .ok (.newarray .int, 2) := by decide +kernel
theorem dX2_init_17 : decode cX2_init 17 = .ok (.putfield 15, 3) := by decide +kernel
theorem dX2_init_20 : decode cX2_init 20 = .ok (.aload_n 0, 1) := by decide +kernel
theorem dX2_init_21 : decode cX2_init 21 = .ok (.bipush 50, 2) := by decide +kernel
theorem dX2_init_23 : decode cX2_init 23 = .ok (.newarray .int, 2) := by decide +kernel
theorem dX2_init_25 : decode cX2_init 25 = .ok (.putfield 18, 3) := by decide +kernel
theorem dX2_init_28 : decode cX2_init 28 = .ok (.aload_n 0, 1) := by decide +kernel
theorem dX2_init_29 : decode cX2_init 29 = .ok (.bipush 9, 2) := by decide +kernel
theorem dX2_init_31 : decode cX2_init 31 = .ok (.newarray .int, 2) := by decide +kernel
theorem dX2_init_33 : decode cX2_init 33 = .ok (.putfield 21, 3) := by decide +kernel
theorem dX2_init_36 : decode cX2_init 36 = .ok (.return_, 1) := by decide +kernel
theorem dX3_init_0 : decode cX3_init 0 = .ok (.aload_n 0, 1) := by decide +kernel
theorem dX3_init_1 : decode cX3_init 1 = .ok (.invokespecial 3, 3) := by decide +kernel
theorem dX3_init_4 : decode cX3_init 4 = .ok (.aload_n 0, 1) := by decide +kernel
theorem dX3_init_5 : decode cX3_init 5 = .ok (.bipush 60, 2) := by decide +kernel
theorem dX3_init_7 : decode cX3_init 7 = .ok (.newarray .char, 2) := by decide +kernel
theorem dX3_init_9 : decode cX3_init 9 = .ok (.putfield 9, 3) := by decide +kernel
theorem dX3_init_12 : decode cX3_init 12 = .ok (.aload_n 0, 1) := by decide +kernel
theorem dX3_init_13 : decode cX3_init 13 = .ok (.bipush 20, 2) := by decide +kernel
theorem dX3_init_15 : decode cX3_init 15 = .ok (.newarray .int, 2) := by decide +kernel
theorem dX3_init_17 : decode cX3_init 17 = .ok (.putfield 15, 3) := by decide +kernel
theorem dX3_init_20 : decode cX3_init 20 = .ok (.aload_n 0, 1) := by decide +kernel
theorem dX3_init_21 : decode cX3_init 21 = .ok (.bipush 20, 2) := by decide +kernel
theorem dX3_init_23 : decode cX3_init 23 = .ok (.newarray .int, 2) := by decide +kernel
theorem dX3_init_25 : decode cX3_init 25 = .ok (.putfield 19, 3) := by decide +kernel
theorem dX3_init_28 : decode cX3_init 28 = .ok (.aload_n 0, 1) := by decide +kernel
theorem dX3_init_29 : decode cX3_init 29 = .ok (.bipush 20, 2) := by decide +kernel
theorem dX3_init_31 : decode cX3_init 31 = .ok (.newarray .int, 2) := by decide +kernel
theorem dX3_init_33 : decode cX3_init 33 = .ok (.putfield 22, 3) := by decide +kernel
theorem dX3_init_36 : decode cX3_init 36 = .ok (.return_, 1) := by decide +kernel
theorem dX4_init_0 : decode cX4_init 0 = .ok (.aload_n 0, 1) := by decide +kernel
theorem dX4_init_1 : decode cX4_init 1 = .ok (.invokespecial 3, 3) := by decide +kernel
theorem dX4_init_4 : decode cX4_init 4 = .ok (.aload_n 0, 1) := by decide +kernel
theorem dX4_init_5 : decode cX4_init 5 = .ok (.iconst (-1), 1) := by decide +kernel
theorem dX4_init_6 : decode cX4_init 6 = .ok (.putfield 9, 3) := by decide +kernel
theorem dX4_init_9 : decode cX4_init 9 = .ok (.aload_n 0, 1) := by decide +kernel
theorem dX4_init_10 : decode cX4_init 10 = .ok (.bipush 30, 2) := by decide +kernel
theorem dX4_init_12 : decode cX4_init 12 = .ok (.newarray .float, 2) := by decide +kernel
theorem dX4_init_14 : decode cX4_init 14 = .ok (.putfield 15, 3) := by decide +kernel
theorem dX4_init_17 : decode cX4_init 17 = .ok (.aload_n 0, 1) := by decide +kernel
theorem dX4_init_18 : decode cX4_init 18 = .ok (.bipush 30, 2) := by decide +kernel
theorem dX4_init_20 : decode cX4_init 20 = .ok (.newarray .int, 2) := by decide +kernel
theorem dX4_init_22 : decode cX4_init 22 = .ok (.putfield 19, 3) := by decide +kernel
theorem dX4_init_25 : decode cX4_init 25 = .ok (.return_, 1) := by decide +kernel
theorem dX0_init_0 : decode cX0_init 0 = .ok (.aload_n 0, 1) := by decide +kernel
theorem dX0_init_1 : decode cX0_init 1 = .ok (.invokespecial 3, 3) := by decide +kernel
theorem dX0_init_4 : decode cX0_init 4 = .ok (.aload_n 0, 1) := by decide +kernel
theorem dX0_init_5 : decode cX0_init 5 = .ok (.iconst 2, 1) := by decide +kernel
theorem dX0_init_6 : decode cX0_init 6 = .ok (.putfield 9, 3) := by decide +kernel
theorem dX0_init_9 : decode cX0_init 9 = .ok (.aload_n 0, 1) := by decide +kernel
theorem dX0_init_10 : decode cX0_init 10 = .ok (.iconst 1, 1) := by decide +kernel
theorem dX0_init_11 : decode cX0_init 11 = .ok (.putfield 15, 3) := by decide +kernel
theorem dX0_init_14 : decode cX0_init 14 = .ok (.aload_n 0, 1) := by decide +kernel
theorem dX0_init_15 : decode cX0_init 15 = .ok (.iconst 0, 1) := by decide +kernel
theorem dX0_init_16 : decode cX0_init 16 = .ok (.putfield 18, 3) := by decide +kernel
theorem dX0_init_19 : decode cX0_init 19 = .ok (.aload_n 0, 1) := by decide +kernel
theorem dX0_init_20 : decode cX0_init 20 = .ok (.bipush 16, 2) := by decide +kernel
theorem dX0_init_22 : decode cX0_init 22 = .ok (.anewarray 21, 3) := by decide +kernel
theorem dX0_init_25 : decode cX0_init 25 = .ok (.putfield 23, 3) := by decide +kernel
theorem dX0_init_28 : decode cX0_init 28 = .ok (.iconst 0, 1) := by decide +kernel
theorem dX0_init_29 : decode cX0_init 29 = .ok (.istore_n 1, 1) := by decide +kernel
theorem dX0_init_30 : decode cX0_init 30 = .ok (.iload_n 1, 1) := by decide +kernel
theorem dX0_init_31 : decode cX0_init 31 = .ok (.bipush 16, 2) := by decide +kernel
theorem dX0_init_33 : decode cX0_init 33 = .ok (.if_icmp .ge 22, 3) := by decide +kernel
theorem dX0_init_36 : decode cX0_init 36 = .ok (.aload_n 0, 1) := by decide +kernel
theorem dX0_init_37 : decode cX0_init 37 = .ok (.getfield 23, 3) := by decide +kernel
theorem dX0_init_40 : decode cX0_init 40 = .ok (.iload_n 1, 1) := by decide +kernel
theorem dX0_init_41 : decode cX0_init 41 = .ok (.new 21, 3) := by decide +kernel
theorem dX0_init_44 : decode cX0_init 44 = .ok (.dup, 1) := by decide +kernel
theorem dX0_init_45 : decode cX0_init 45 = .ok (.invokespecial 27, 3) := by decide +kernel
theorem dX0_init_48 : decode cX0_init 48 = .ok (.aastore, 1) := by decide +kernel
theorem dX0_init_49 : decode cX0_init 49 = .ok (.iinc 1 1, 3) := by decide +kernel
theorem dX0_init_52 : decode cX0_init 52 = .ok (.goto (-22), 3) := by decide +kernel
theorem dX0_init_55 : decode cX0_init 55 = .ok (.aload_n 0, 1) := by decide +kernel
theorem dX0_init_56 : decode cX0_init 56 = .ok (.bipush 8, 2) := by decide +kernel
theorem dX0_init_58 : decode cX0_init 58 = .ok (.anewarray 28, 3) := by decide +kernel
theorem dX0_init_61 : decode cX0_init 61 = .ok (.putfield 30, 3) := by decide +kernel
theorem dX0_init_64 : decode cX0_init 64 = .ok (.iconst 0, 1) := by decide +kernel
theorem dX0_init_65 : decode cX0_init 65 = .ok (.istore_n 1, 1) := by decide +kernel
theorem dX0_init_66 : decode cX0_init 66 = .ok (.iload_n 1, 1) := by decide +kernel
theorem dX0_init_67 : decode cX0_init 67 = .ok (.bipush 8, 2) := by decide +kernel
theorem dX0_init_69 : decode cX0_init 69 = .ok (.if_icmp .ge 22, 3) := by decide +kernel
theorem dX0_init_72 : decode cX0_init 72 = .ok (.aload_n 0, 1) := by decide +kernel
theorem dX0_init_73 : decode cX0_init 73 = .ok (.getfield 30, 3) := by decide +kernel
theorem dX0_init_76 : decode cX0_init 76 = .ok (.iload_n 1, 1) := by decide +kernel
theorem dX0_init_77 : decode cX0_init 77 = .ok (.new 28, 3) := by decide +kernel
theorem dX0_init_80 : decode cX0_init 80 = .ok (.dup, 1) := by decide +kernel
theorem dX0_init_81 : decode cX0_init 81 = .ok (.invokespecial 34, 3) := by decide +kernel
theorem dX0_init_84 : decode cX0_init 84 = .ok (.aastore, 1) := by decide +kernel
theorem dX0_init_85 : decode cX0_init 85 = .ok (.iinc 1 1, 3) := by decide +kernel
theorem dX0_init_88 : decode cX0_init 88 = .ok (.goto (-22), 3) := by decide +kernel
theorem dX0_init_91 : decode cX0_init 91 = .ok (.aload_n 0, 1) := by decide +kernel
theorem dX0_init_92 : decode cX0_init 92 = .ok (.new 35, 3) := by decide +kernel
theorem dX0_init_95 : decode cX0_init 95 = .ok (.dup, 1) := by decide +kernel
theorem dX0_init_96 : decode cX0_init 96 = .ok (.invokespecial 37, 3) := by decide +kernel
theorem dX0_init_99 : decode cX0_init 99 = .ok (.putfield 38, 3) := by decide +kernel
theorem dX0_init_102 : decode cX0_init 102 = .ok (.aload_n 0, 1) := by decide +kernel
theorem dX0_init_103 : decode cX0_init 103 = .ok (.bipush 8, 2) := by decide +kernel
theorem dX0_init_105 : decode cX0_init 105 = .ok (.newarray .int, 2) := by decide +kernel
theorem dX0_init_107 : decode cX0_init 107 = .ok (.putfield 42, 3) := by decide +kernel
theorem dX0_init_110 : decode cX0_init 110 = .ok (.aload_n 0, 1) := by decide +kernel
theorem dX0_init_111 : decode cX0_init 111 = .ok (.bipush 16, 2) := by decide +kernel
theorem dX0_init_113 : decode cX0_init 113 = .ok (.newarray .int, 2) := by decide +kernel
theorem dX0_init_115 : decode cX0_init 115 = .ok (.putfield 46, 3) := by decide +kernel
theorem dX0_init_118 : decode cX0_init 118 = .ok (.return_, 1) := by decide +kernel
theorem dX6_init_0 : decode cX6_init 0 = .ok (.aload_n 0, 1) := by decide +kernel
theorem dX6_init_1 : decode cX6_init 1 = .ok (.invokespecial 3, 3) := by decide +kernel
theorem dX6_init_4 : decode cX6_init 4 = .ok (.aload_n 0, 1) := by decide +kernel
theorem dX6_init_5 : decode cX6_init 5 = .ok (.new 9, 3) := by decide +kernel
theorem dX6_init_8 : decode cX6_init 8 = .ok (.dup, 1) := by decide +kernel
theorem dX6_init_9 : decode cX6_init 9 = .ok (.invokespecial 11, 3) := by decide +kernel
theorem dX6_init_12 : decode cX6_init 12 = .ok (.putfield 12, 3) := by decide +kernel
theorem dX6_init_15 : decode cX6_init 15 = .ok (.aload_n 0, 1) := by decide +kernel
theorem dX6_init_16 : decode cX6_init 16 = .ok (.new 9, 3) := by decide +kernel
theorem dX6_init_19 : decode cX6_init 19 = .ok (.dup, 1) := by decide +kernel
theorem dX6_init_20 : decode cX6_init 20 = .ok (.invokespecial 11, 3) := by decide +kernel
theorem dX6_init_23 : decode cX6_init 23 = .ok (.putfield 18, 3) := by decide +kernel
theorem dX6_init_26 : decode cX6_init 26 = .ok (.aload_n 0, 1) := by decide +kernel
theorem dX6_init_27 : decode cX6_init 27 = .ok (.iconst 0, 1) := by decide +kernel
theorem dX6_init_28 : decode cX6_init 28 = .ok (.putfield 21, 3) := by decide +kernel
theorem dX6_init_31 : decode cX6_init 31 = .ok (.aload_n 0, 1) := by decide +kernel
theorem dX6_init_32 : decode cX6_init 32 = .ok (.new 25, 3) := by decide +kernel
theorem dX6_init_35 : decode cX6_init 35 = .ok (.dup, 1) := by decide +kernel
theorem dX6_init_36 : decode cX6_init 36 = .ok (.invokespecial 27, 3) := by decide +kernel
theorem dX6_init_39 : decode cX6_init 39 = .ok (.putfield 28, 3) := by decide +kernel
theorem dX6_init_42 : decode cX6_init 42 = .ok (.aload_n 0, 1) := by decide +kernel
theorem dX6_init_43 : decode cX6_init 43 = .ok (.iconst (-1), 1) := by decide +kernel
theorem dX6_init_44 : decode cX6_init 44 = .ok (.putfield 32, 3) := by decide +kernel
theorem dX6_init_47 : decode cX6_init 47 = .ok (.aload_n 0, 1) := by decide +kernel
theorem dX6_init_48 : decode cX6_init 48 = .ok (.iconst 3, 1) := by decide +kernel
theorem dX6_init_49 : decode cX6_init 49 = .ok (.anewarray 36, 3) := by decide +kernel
theorem dX6_init_52 : decode cX6_init 52 = .ok (.putfield 38, 3) := by decide +kernel
theorem dX6_init_55 : decode cX6_init 55 = .ok (.iconst 0, 1) := by decide +kernel
theorem dX6_init_56 : decode cX6_init 56 = .ok (.istore_n 1, 1) := by decide +kernel
theorem dX6_init_57 : decode cX6_init 57 = .ok (.iload_n 1, 1) := by decide +kernel
theorem dX6_init_58 : decode cX6_init 58 = .ok (.iconst 3, 1) := by decide +kernel
theorem dX6_init_59 : decode cX6_init 59 = .ok (.if_icmp .ge 22, 3) := by decide +kernel
theorem dX6_init_62 : decode cX6_init 62 = .ok (.aload_n 0, 1) := by decide +kernel
theorem dX6_init_63 : decode cX6_init 63 = .ok (.getfield 38, 3) := by decide +kernel
theorem dX6_init_66 : decode cX6_init 66 = .ok (.iload_n 1, 1) := by decide +kernel
theorem dX6_init_67 : decode cX6_init 67 = .ok (.new 36, 3) := by decide +kernel
theorem dX6_init_70 : decode cX6_init 70 = .ok (.dup, 1) := by decide +kernel
theorem dX6_init_71 : decode cX6_init 71 = .ok (.invokespecial 42, 3) := by decide +kernel
theorem dX6_init_74 : decode cX6_init 74 = .ok (.aastore, 1) := by decide +kernel
theorem dX6_init_75 : decode cX6_init 75 = .ok (.iinc 1 1, 3) := by decide +kernel
theorem dX6_init_78 : decode cX6_init 78 = .ok (.goto (-21), 3) := by decide +kernel
theorem dX6_init_81 : decode cX6_init 81 = .ok (.return_, 1) := by decide +kernel
theorem dX7_init_0 : decode cX7_init 0 = .ok (.aload_n 0, 1) := by decide +kernel
theorem dX7_init_1 : decode cX7_init 1 = .ok (.invokespecial 9, 3) := by decide +kernel
theorem dX7_init_4 : decode cX7_init 4 = .ok (.aload_n 0, 1) := by decide +kernel
theorem dX7_init_5 : decode cX7_init 5 = .ok (.iconst 2, 1) := by decide +kernel
theorem dX7_init_6 : decode cX7_init 6 = .ok (.putfield 15, 3) := by decide +kernel
theorem dX7_init_9 : decode cX7_init 9 = .ok (.aload_n 0, 1) := by decide +kernel
theorem dX7_init_10 : decode cX7_init 10 = .ok (.iconst 1, 1) := by decide +kernel
theorem dX7_init_11 : decode cX7_init 11 = .ok (.putfield 18, 3) := by decide +kernel
theorem dX7_init_14 : decode cX7_init 14 = .ok (.aload_n 0, 1) := by decide +kernel
theorem dX7_init_15 : decode cX7_init 15 = .ok (.bipush 16, 2) := by decide +kernel
theorem dX7_init_17 : decode cX7_init 17 = .ok (.newarray .int, 2) := by decide +kernel
theorem dX7_init_19 : decode cX7_init 19 = .ok (.putfield 21, 3) := by decide +kernel
theorem dX7_init_22 : decode cX7_init 22 = .ok (.aload_n 0, 1) := by decide +kernel
theorem dX7_init_23 : decode cX7_init 23 = .ok (.bipush 16, 2) := by decide +kernel
theorem dX7_init_25 : decode cX7_init 25 = .ok (.newarray .int, 2) := by decide +kernel
theorem dX7_init_27 : decode cX7_init 27 = .ok (.putfield 25, 3) := by decide +kernel
theorem dX7_init_30 : decode cX7_init 30 = .ok (.aload_n 0, 1) := by decide +kernel
theorem dX7_init_31 : decode cX7_init 31 = .ok (.bipush 16, 2) := by decide +kernel
theorem dX7_init_33 : decode cX7_init 33 = .ok (.newarray .int, 2) := by decide +kernel
theorem dX7_init_35 : decode cX7_init 35 = .ok (.putfield 28, 3) := by decide +kernel
theorem dX7_init_38 : decode cX7_init 38 = .ok (.aload_n 0, 1) := by decide +kernel
theorem dX7_init_39 : decode cX7_init 39 = .ok (.bipush 16, 2) := by decide +kernel
theorem dX7_init_41 : decode cX7_init 41 = .ok (.newarray .int, 2) := by decide +kernel
theorem dX7_init_43 : decode cX7_init 43 = .ok (.putfield 31, 3) := by decide +kernel
theorem dX7_init_46 : decode cX7_init 46 = .ok (.aload_n 0, 1) := by decide +kernel
theorem dX7_init_47 : decode cX7_init 47 = .ok (.bipush 16, 2) := by decide +kernel
theorem dX7_init_49 : decode cX7_init 49 = .ok (.newarray .int, 2) := by decide +kernel
theorem dX7_init_51 : decode cX7_init 51 = .ok (.putfield 34, 3) := by decide +kernel
theorem dX7_init_54 : decode cX7_init 54 = .ok (.aload_n 0, 1) := by decide +kernel
theorem dX7_init_55 : decode cX7_init 55 = .ok (.sipush 1280, 3) := by decide +kernel
theorem dX7_init_58 : decode cX7_init 58 = .ok (.newarray .int, 2) := by decide +kernel
theorem dX7_init_60 : decode cX7_init 60 = .ok (.putfield 37, 3) := by decide +kernel
theorem dX7_init_63 : decode cX7_init 63 = .ok (.aload_n 0, 1) := by decide +kernel
theorem dX7_init_64 : decode cX7_init 64 = .ok (.bipush 16, 2) := by decide +kernel
theorem dX7_init_66 : decode cX7_init 66 = .ok (.newarray .int, 2) := by decide +kernel
theorem dX7_init_68 : decode cX7_init 68 = .ok (.putfield 40, 3) := by decide +kernel
theorem dX7_init_71 : decode cX7_init 71 = .ok (.aload_n 0, 1) := by decide +kernel
theorem dX7_init_72 : decode cX7_init 72 = .ok (.bipush 8, 2) := by decide +kernel
theorem dX7_init_74 : decode cX7_init 74 = .ok (.newarray .int, 2) := by decide +kernel
theorem dX7_init_76 : decode cX7_init 76 = .ok (.dup, 1) := by decide +kernel
theorem dX7_init_77 : decode cX7_init 77 = .ok (.iconst 0, 1) := by decide +kernel
theorem dX7_init_78 : decode cX7_init 78 = .ok (.iconst 1, 1) := by decide +kernel
theorem dX7_init_79 : decode cX7_init 79 = .ok (.iastore, 1) := by decide +kernel
theorem dX7_init_80 : decode cX7_init 80 = .ok (.dup, 1) := by decide +kernel
theorem dX7_init_81 : decode cX7_init 81 = .ok (.iconst 1, 1) := by decide +kernel
theorem dX7_init_82 : decode cX7_init 82 = .ok (.iconst 1, 1) := by decide +kernel
theorem dX7_init_83 : decode cX7_init 83 = .ok (.iastore, 1) := by decide +kernel
theorem dX7_init_84 : decode cX7_init 84 = .ok (.dup, 1) := by decide +kernel
theorem dX7_init_85 : decode cX7_init 85 = .ok (.iconst 2, 1) := by decide +kernel
theorem dX7_init_86 : decode cX7_init 86 = .ok (.iconst 1, 1) := by decide +kernel
theorem dX7_init_87 : decode cX7_init 87 = .ok (.iastore, 1) := by decide +kernel
theorem dX7_init_88 : decode cX7_init 88 = .ok (.dup, 1) := by decide +kernel
theorem dX7_init_89 : decode cX7_init 89 = .ok (.iconst 3, 1) := by decide +kernel
theorem dX7_init_90 : decode cX7_init 90 = .ok (.iconst 1, 1) := by decide +kernel
theorem dX7_init_91 : decode cX7_init 91 = .ok (.iastore, 1) := by decide +kernel
theorem dX7_init_92 : decode cX7_init 92 = .ok (.dup, 1) := by decide +kernel
theorem dX7_init_93 : decode cX7_init 93 = .ok (.iconst 4, 1) := by decide +kernel
theorem dX7_init_94 : decode cX7_init 94 = .ok (.iconst 1, 1) := by decide +kernel
theorem dX7_init_95 : decode cX7_init 95 = .ok (.iastore, 1) := by decide +kernel
theorem dX7_init_96 : decode cX7_init 96 = .ok (.dup, 1) := by decide +kernel
theorem dX7_init_97 : decode cX7_init 97 = .ok (.iconst 5, 1) := by decide +kernel
theorem dX7_init_98 : decode cX7_init 98 = .ok (.iconst 1, 1) := by decide +kernel
theorem dX7_init_99 : decode cX7_init 99 = .ok (.iastore, 1) := by decide +kernel
theorem dX7_init_100 : decode cX7_init 100 = .ok (.dup, 1) := by decide +kernel
theorem dX7_init_101 : decode cX7_init 101 = .ok (.bipush 6, 2) := by decide +kernel
theorem dX7_init_103 : decode cX7_init 103 = .ok (.iconst 1, 1) := by decide +kernel
theorem dX7_init_104 : decode cX7_init 104 = .ok (.iastore, 1) := by decide +kernel
theorem dX7_init_105 : decode cX7_init 105 = .ok (.dup, 1) := by decide +kernel
theorem dX7_init_106 : decode cX7_init 106 = .ok (.bipush 7, 2) := by decide +kernel
theorem dX7_init_108 : decode cX7_init 108 = .ok (.iconst 1, 1) := by decide +kernel
theorem dX7_init_109 : decode cX7_init 109 = .ok (.iastore, 1) := by decide +kernel
theorem dX7_init_110 : decode cX7_init 110 = .ok (.putfield 43, 3) := by decide +kernel
theorem dX7_init_113 : decode cX7_init 113 = .ok (.aload_n 0, 1) := by decide +kernel
theorem dX7_init_114 : decode cX7_init 114 = .ok (.sipush 640, 3) := by decide +kernel
theorem dX7_init_117 : decode cX7_init 117 = .ok (.newarray .int, 2) := by decide +kernel
theorem dX7_init_119 : decode cX7_init 119 = .ok (.putfield 46, 3) := by decide +kernel
theorem dX7_init_122 : decode cX7_init 122 = .ok (.aload_n 0, 1) := by decide +kernel
theorem dX7_init_123 : decode cX7_init 123 = .ok (.sipush 150, 3) := by decide +kernel
theorem dX7_init_126 : decode cX7_init 126 = .ok (.newarray .int, 2) := by decide +kernel
theorem dX7_init_128 : decode cX7_init 128 = .ok (.putfield 49, 3) := by decide +kernel
theorem dX7_init_131 : decode cX7_init 131 = .ok (.aload_n 0, 1) := by decide +kernel
theorem dX7_init_132 : decode cX7_init 132 = .ok (.bipush 9, 2) := by decide +kernel
theorem dX7_init_134 : decode cX7_init 134 = .ok (.newarray .int, 2) := by decide +kernel
theorem dX7_init_136 : decode cX7_init 136 = .ok (.putfield 52, 3) := by decide +kernel
theorem dX7_init_139 : decode cX7_init 139 = .ok (.aload_n 0, 1) := by decide +kernel
theorem dX7_init_140 : decode cX7_init 140 = .ok (.bipush 60, 2) := by decide +kernel
theorem dX7_init_142 : decode cX7_init 142 = .ok (.newarray .char, 2) := by decide +kernel
theorem dX7_init_144 : decode cX7_init 144 = .ok (.putfield 55, 3) := by decide +kernel
theorem dX7_init_147 : decode cX7_init 147 = .ok (.aload_n 0, 1) := by decide +kernel
theorem dX7_init_148 : decode cX7_init 148 = .ok (.iconst (-1), 1) := by decide +kernel
theorem dX7_init_149 : decode cX7_init 149 = .ok (.putfield 59, 3) := by decide +kernel
theorem dX7_init_152 : decode cX7_init 152 = .ok (.aload_n 0, 1) := by decide +kernel
theorem dX7_init_153 : decode cX7_init 153 = .ok (.bipush 120, 2) := by decide +kernel
theorem dX7_init_155 : decode cX7_init 155 = .ok (.newarray .int, 2) := by decide +kernel
theorem dX7_init_157 : decode cX7_init 157 = .ok (.putfield 62, 3) := by decide +kernel
theorem dX7_init_160 : decode cX7_init 160 = .ok (.aload_n 0, 1) := by decide +kernel
theorem dX7_init_161 : decode cX7_init 161 = .ok (.bipush 8, 2) := by decide +kernel
theorem dX7_init_163 : decode cX7_init 163 = .ok (.newarray .int, 2) := by decide +kernel
theorem dX7_init_165 : decode cX7_init 165 = .ok (.putfield 65, 3) := by decide +kernel
theorem dX7_init_168 : decode cX7_init 168 = .ok (.aload_n 0, 1) := by decide +kernel
theorem dX7_init_169 : decode cX7_init 169 = .ok (.iconst 3, 1) := by decide +kernel
theorem dX7_init_170 : decode cX7_init 170 = .ok (.newarray .int, 2) := by decide +kernel
theorem dX7_init_172 : decode cX7_init 172 = .ok (.dup, 1) := by decide +kernel
theorem dX7_init_173 : decode cX7_init 173 = .ok (.iconst 0, 1) := by decide +kernel
theorem dX7_init_174 : decode cX7_init 174 = .ok (.iconst (-1), 1) := by decide +kernel
theorem dX7_init_175 : decode cX7_init 175 = .ok (.iastore, 1) := by decide +kernel
theorem dX7_init_176 : decode cX7_init 176 = .ok (.dup, 1) := by decide +kernel
theorem dX7_init_177 : decode cX7_init 177 = .ok (.iconst 1, 1) := by decide +kernel
theorem dX7_init_178 : decode cX7_init 178 = .ok (.iconst (-1), 1) := by decide +kernel
theorem dX7_init_179 : decode cX7_init 179 = .ok (.iastore, 1) := by decide +kernel
theorem dX7_init_180 : decode cX7_init 180 = .ok (.dup, 1) := by decide +kernel
theorem dX7_init_181 : decode cX7_init 181 = .ok (.iconst 2, 1) := by decide +kernel
theorem dX7_init_182 : decode cX7_init 182 = .ok (.iconst (-1), 1) := by decide +kernel
theorem dX7_init_183 : decode cX7_init 183 = .ok (.iastore, 1) := by decide +kernel
theorem dX7_init_184 : decode cX7_init 184 = .ok (.putfield 68, 3) := by decide +kernel
theorem dX7_init_187 : decode cX7_init 187 = .ok (.aload_n 0, 1) := by decide +kernel
theorem dX7_init_188 : decode cX7_init 188 = .ok (.iconst 3, 1) := by decide +kernel
theorem dX7_init_189 : decode cX7_init 189 = .ok (.newarray .int, 2) := by decide +kernel
theorem dX7_init_191 : decode cX7_init 191 = .ok (.putfield 71, 3) := by decide +kernel
theorem dX7_init_194 : decode cX7_init 194 = .ok (.aload_n 0, 1) := by decide +kernel
theorem dX7_init_195 : decode cX7_init 195 = .ok (.bipush 90, 2) := by decide +kernel
theorem dX7_init_197 : decode cX7_init 197 = .ok (.newarray .int, 2) := by decide +kernel
theorem dX7_init_199 : decode cX7_init 199 = .ok (.putfield 74, 3) := by decide +kernel
theorem dX7_init_202 : decode cX7_init 202 = .ok (.aload_n 0, 1) := by decide +kernel
theorem dX7_init_203 : decode cX7_init 203 = .ok (.bipush 90, 2) := by decide +kernel
theorem dX7_init_205 : decode cX7_init 205 = .ok (.newarray .float, 2) := by decide +kernel
theorem dX7_init_207 : decode cX7_init 207 = .ok (.putfield 77, 3) := by decide +kernel
theorem dX7_init_210 : decode cX7_init 210 = .ok (.aload_n 0, 1) := by decide +kernel
theorem dX7_init_211 : decode cX7_init 211 = .ok (.sipush 2200, 3) := by decide +kernel
theorem dX7_init_214 : decode cX7_init 214 = .ok (.newarray .int, 2) := by decide +kernel
theorem dX7_init_216 : decode cX7_init 216 = .ok (.putfield 81, 3) := by decide +kernel
theorem dX7_init_219 : decode cX7_init 219 = .ok (.aload_n 0, 1) := by decide +kernel
theorem dX7_init_220 : decode cX7_init 220 = .ok (.invokevirtual 84, 3) := by decide +kernel
theorem dX7_init_223 : decode cX7_init 223 = .ok (.return_, 1) := by decide +kernel
theorem ts_oi : Cond.instanceMethod Lib.objectInit ∈ ts_ws ∧ Cond.code Lib.objectInit ⟨#[0xb1]⟩ 1 none ∈ ts_ws := by decide +kernel
theorem ts_ra_of {j m : Nat} (h : (ts_EV.take m).all (fun e => decide (e.1 ∈ ts_lvt j)) = true) : ts_RA j m := by
  intro i hi k
  unfold ts_rft
  rw [if_neg]
  intro hm
  have := List.all_eq_true.mp h _ hm
  exact hi (by simpa using this)
theorem ts_ra_8_5 : ts_RA 8 5 := ts_ra_of (by decide +kernel)
theorem ts_ra_13_10 : ts_RA 13 10 := ts_ra_of (by decide +kernel)
theorem ts_ra_18_15 : ts_RA 18 15 := ts_ra_of (by decide +kernel)
theorem ts_ra_23_20 : ts_RA 23 20 := ts_ra_of (by decide +kernel)
theorem ts_ra_28_25 : ts_RA 28 25 := ts_ra_of (by decide +kernel)
theorem ts_ra_33_30 : ts_RA 33 30 := ts_ra_of (by decide +kernel)
theorem ts_ra_38_35 : ts_RA 38 35 := ts_ra_of (by decide +kernel)
theorem ts_ra_43_40 : ts_RA 43 40 := ts_ra_of (by decide +kernel)
theorem ts_ra_48_45 : ts_RA 48 45 := ts_ra_of (by decide +kernel)
theorem ts_ra_53_50 : ts_RA 53 50 := ts_ra_of (by decide +kernel)
theorem ts_ra_58_55 : ts_RA 58 55 := ts_ra_of (by decide +kernel)
theorem ts_ra_63_60 : ts_RA 63 60 := ts_ra_of (by decide +kernel)
theorem ts_ra_68_65 : ts_RA 68 65 := ts_ra_of (by decide +kernel)
theorem ts_ra_73_70 : ts_RA 73 70 := ts_ra_of (by decide +kernel)
theorem ts_ra_78_75 : ts_RA 78 75 := ts_ra_of (by decide +kernel)
theorem ts_ra_83_80 : ts_RA 83 80 := ts_ra_of (by decide +kernel)
theorem ts_ra_89_86 : ts_RA 89 86 := ts_ra_of (by decide +kernel)
theorem ts_ra_94_91 : ts_RA 94 91 := ts_ra_of (by decide +kernel)
theorem ts_ra_99_96 : ts_RA 99 96 := ts_ra_of (by decide +kernel)
theorem ts_ra_104_101 : ts_RA 104 101 := ts_ra_of (by decide +kernel)
theorem ts_ra_109_106 : ts_RA 109 106 := ts_ra_of (by decide +kernel)
theorem ts_ra_114_111 : ts_RA 114 111 := ts_ra_of (by decide +kernel)
theorem ts_ra_119_116 : ts_RA 119 116 := ts_ra_of (by decide +kernel)
theorem ts_ra_124_121 : ts_RA 124 121 := ts_ra_of (by decide +kernel)
theorem ts_ra_129_126 : ts_RA 129 126 := ts_ra_of (by decide +kernel)
theorem ts_ra_131_129 : ts_RA 131 129 := ts_ra_of (by decide +kernel)
theorem ts_ra_138_135 : ts_RA 138 135 := ts_ra_of (by decide +kernel)
theorem ts_ra_143_140 : ts_RA 143 140 := ts_ra_of (by decide +kernel)
theorem ts_ra_148_145 : ts_RA 148 145 := ts_ra_of (by decide +kernel)
theorem ts_ra_153_150 : ts_RA 153 150 := ts_ra_of (by decide +kernel)
theorem ts_ra_158_155 : ts_RA 158 155 := ts_ra_of (by decide +kernel)
theorem ts_ra_163_160 : ts_RA 163 160 := ts_ra_of (by decide +kernel)
theorem ts_ra_168_165 : ts_RA 168 165 := ts_ra_of (by decide +kernel)
theorem ts_ra_173_170 : ts_RA 173 170 := ts_ra_of (by decide +kernel)
theorem ts_ra_178_175 : ts_RA 178 175 := ts_ra_of (by decide +kernel)
theorem ts_ra_183_180 : ts_RA 183 180 := ts_ra_of (by decide +kernel)
theorem ts_ra_188_185 : ts_RA 188 185 := ts_ra_of (by decide +kernel)
theorem ts_ra_193_190 : ts_RA 193 190 := ts_ra_of (by decide +kernel)
theorem ts_ra_198_195 : ts_RA 198 195 := ts_ra_of (by decide +kernel)
theorem ts_ra_203_200 : ts_RA 203 200 := ts_ra_of (by decide +kernel)
theorem ts_ra_208_205 : ts_RA 208 205 := ts_ra_of (by decide +kernel)
theorem ts_ra_213_210 : ts_RA 213 210 := ts_ra_of (by decide +kernel)
theorem ts_ra_219_216 : ts_RA 219 216 := ts_ra_of (by decide +kernel)
theorem ts_ra_224_221 : ts_RA 224 221 := ts_ra_of (by decide +kernel)
theorem ts_ra_229_226 : ts_RA 229 226 := ts_ra_of (by decide +kernel)
theorem ts_ra_234_231 : ts_RA 234 231 := ts_ra_of (by decide +kernel)
theorem ts_ra_239_236 : ts_RA 239 236 := ts_ra_of (by decide +kernel)
theorem ts_ra_244_241 : ts_RA 244 241 := ts_ra_of (by decide +kernel)
theorem ts_ra_249_246 : ts_RA 249 246 := ts_ra_of (by decide +kernel)
theorem ts_ra_254_251 : ts_RA 254 251 := ts_ra_of (by decide +kernel)
theorem ts_ra_259_256 : ts_RA 259 256 := ts_ra_of (by decide +kernel)
theorem ts_ra_261_259 : ts_RA 261 259 := ts_ra_of (by decide +kernel)
theorem ts_ra_266_264 : ts_RA 266 264 := ts_ra_of (by decide +kernel)
theorem ts_ra_270_268 : ts_RA 270 268 := ts_ra_of (by decide +kernel)
theorem ts_ra_273_271 : ts_RA 273 271 := ts_ra_of (by decide +kernel)
theorem ts_ra_276_274 : ts_RA 276 274 := ts_ra_of (by decide +kernel)
theorem oi_X5_3 : Cond.methodLink RX5 3 Lib.objectInit ∈ ts_ws := ts_wm (i := 101) (by decide +kernel) rfl
theorem ac_int : Cond.arrayClass (ts_ty 0) ∈ ts_ws := ts_wm (i := 144) (by decide +kernel) rfl
theorem ff_X5_9 : ts_FF RX5 9 5 6 (.array .int) := ⟨_, rfl, by decide, ts_wm (i := 115) (by decide +kernel) rfl, by decide, rfl, by decide +kernel⟩
theorem ff_X5_15 : ts_FF RX5 15 5 7 (.array .int) := ⟨_, rfl, by decide, ts_wm (i := 117) (by decide +kernel) rfl, by decide, rfl, by decide +kernel⟩
theorem ff_X5_18 : ts_FF RX5 18 5 8 (.array .int) := ⟨_, rfl, by decide, ts_wm (i := 119) (by decide +kernel) rfl, by decide, rfl, by decide +kernel⟩
theorem ff_X5_21 : ts_FF RX5 21 5 9 (.array .int) := ⟨_, rfl, by decide, ts_wm (i := 121) (by decide +kernel) rfl, by decide, rfl, by decide +kernel⟩
theorem oi_X1_3 : Cond.methodLink RX1 3 Lib.objectInit ∈ ts_ws := ts_wm (i := 151) (by decide +kernel) rfl
theorem ff_X1_9 : ts_FF RX1 9 1 1 (.array .int) := ⟨_, rfl, by decide, ts_wm (i := 156) (by decide +kernel) rfl, by decide, rfl, by decide +kernel⟩
theorem ff_X1_15 : ts_FF RX1 15 1 2 (.array .int) := ⟨_, rfl, by decide, ts_wm (i := 157) (by decide +kernel) rfl, by decide, rfl, by decide +kernel⟩
theorem ff_X1_18 : ts_FF RX1 18 1 3 (.array .int) := ⟨_, rfl, by decide, ts_wm (i := 159) (by decide +kernel) rfl, by decide, rfl, by decide +kernel⟩
theorem ff_X1_21 : ts_FF RX1 21 1 4 (.array .int) := ⟨_, rfl, by decide, ts_wm (i := 163) (by decide +kernel) rfl, by decide, rfl, by decide +kernel⟩
theorem oi_X2_3 : Cond.methodLink RX2 3 Lib.objectInit ∈ ts_ws := ts_wm (i := 182) (by decide +kernel) rfl
theorem ff_X2_9 : ts_FF RX2 9 2 2 (.array .int) := ⟨_, rfl, by decide, ts_wm (i := 186) (by decide +kernel) rfl, by decide, rfl, by decide +kernel⟩
theorem ff_X2_15 : ts_FF RX2 15 2 3 (.array .int) := ⟨_, rfl, by decide, ts_wm (i := 187) (by decide +kernel) rfl, by decide, rfl, by decide +kernel⟩
theorem ff_X2_18 : ts_FF RX2 18 2 4 (.array .int) := ⟨_, rfl, by decide, ts_wm (i := 188) (by decide +kernel) rfl, by decide, rfl, by decide +kernel⟩
theorem ff_X2_21 : ts_FF RX2 21 2 5 (.array .int) := ⟨_, rfl, by decide, ts_wm (i := 189) (by decide +kernel) rfl, by decide, rfl, by decide +kernel⟩
theorem oi_X3_3 : Cond.methodLink RX3 3 Lib.objectInit ∈ ts_ws := ts_wm (i := 240) (by decide +kernel) rfl
theorem ac_char : Cond.arrayClass (ts_ty 1) ∈ ts_ws := ts_wm (i := 274) (by decide +kernel) rfl
theorem ff_X3_9 : ts_FF RX3 9 3 1 (.array .char) := ⟨_, rfl, by decide, ts_wm (i := 243) (by decide +kernel) rfl, by decide, rfl, by decide +kernel⟩
theorem ff_X3_15 : ts_FF RX3 15 3 3 (.array .int) := ⟨_, rfl, by decide, ts_wm (i := 248) (by decide +kernel) rfl, by decide, rfl, by decide +kernel⟩
theorem ff_X3_19 : ts_FF RX3 19 3 4 (.array .int) := ⟨_, rfl, by decide, ts_wm (i := 250) (by decide +kernel) rfl, by decide, rfl, by decide +kernel⟩
theorem ff_X3_22 : ts_FF RX3 22 3 5 (.array .int) := ⟨_, rfl, by decide, ts_wm (i := 252) (by decide +kernel) rfl, by decide, rfl, by decide +kernel⟩
theorem oi_X4_3 : Cond.methodLink RX4 3 Lib.objectInit ∈ ts_ws := ts_wm (i := 281) (by decide +kernel) rfl
theorem ac_float : Cond.arrayClass (ts_ty 2) ∈ ts_ws := ts_wm (i := 297) (by decide +kernel) rfl
theorem ff_X4_15 : ts_FF RX4 15 4 2 (.array .float) := ⟨_, rfl, by decide, ts_wm (i := 286) (by decide +kernel) rfl, by decide, rfl, by decide +kernel⟩
theorem ff_X4_19 : ts_FF RX4 19 4 3 (.array .int) := ⟨_, rfl, by decide, ts_wm (i := 287) (by decide +kernel) rfl, by decide, rfl, by decide +kernel⟩
theorem oi_X0_3 : Cond.methodLink RX0 3 Lib.objectInit ∈ ts_ws := ts_wm (i := 94) (by decide +kernel) rfl
theorem cn_X0_21 : Cond.classLink RX0 21 RX5 ∈ ts_ws := ts_wm (i := 95) (by decide +kernel) rfl
theorem ff_X0_23 : ts_FF RX0 23 0 3 (.array (.object "TimestampScheduler$Transaction")) := ⟨_, rfl, by decide, ts_wm (i := 210) (by decide +kernel) rfl, by decide, rfl, by decide +kernel⟩
theorem nw_X0_21 : ts_NW RX0 21 5 := ⟨_, rfl, ts_wm (i := 95) (by decide +kernel) rfl, ts_wm (i := 97) (by decide +kernel) rfl, ts_wm (i := 62) (by decide +kernel) rfl⟩
theorem ni_X0_27 : (wqX5_init ∈ ts_ws ∧ Cond.initialized yX5_init.cls ∈ ts_ws ∧ Cond.methodLinkNest RX0 27 yX5_init "TimestampScheduler" ∈ lw_tbl) ∧ (yX5_init.cls ≠ "java/lang/invoke/MethodHandle" ∧ yX5_init.cls ≠ "java/lang/invoke/VarHandle" ∧ (parseMethodDescriptor yX5_init.desc).map (fun d => d.parameters.length) = some 0) ∧ (yX5_init.name = "<init>" ∧ Cond.instanceMethod yX5_init ∈ ts_ws) := ⟨⟨ts_wm (i := 100) (by decide +kernel) rfl, ts_wm (i := 62) (by decide +kernel) rfl, List.mem_of_getElem? (i := 98) (by decide +kernel)⟩, by decide +kernel, rfl, ts_wm (i := 99) (by decide +kernel) rfl⟩
theorem cn_X0_28 : Cond.classLink RX0 28 RX1 ∈ ts_ws := ts_wm (i := 145) (by decide +kernel) rfl
theorem ff_X0_30 : ts_FF RX0 30 0 4 (.array (.object "TimestampScheduler$Chain")) := ⟨_, rfl, by decide, ts_wm (i := 212) (by decide +kernel) rfl, by decide, rfl, by decide +kernel⟩
theorem nw_X0_28 : ts_NW RX0 28 1 := ⟨_, rfl, ts_wm (i := 145) (by decide +kernel) rfl, ts_wm (i := 147) (by decide +kernel) rfl, ts_wm (i := 63) (by decide +kernel) rfl⟩
theorem yi_X0_34 : ts_YB RX0 34 yX1_init wqX1_init cX1_init 1 none 0 ∧ (yX1_init.name = "<init>" ∧ Cond.instanceMethod yX1_init ∈ ts_ws) := ⟨⟨rfl, ts_wm (i := 150) (by decide +kernel) rfl, ts_wm (i := 63) (by decide +kernel) rfl, ts_wm (i := 148) (by decide +kernel) rfl, by decide +kernel, by decide⟩, rfl, ts_wm (i := 149) (by decide +kernel) rfl⟩
theorem nw_X0_35 : ts_NW RX0 35 2 := ⟨_, rfl, ts_wm (i := 177) (by decide +kernel) rfl, ts_wm (i := 178) (by decide +kernel) rfl, ts_wm (i := 64) (by decide +kernel) rfl⟩
theorem ni_X0_37 : (wqX2_init ∈ ts_ws ∧ Cond.initialized yX2_init.cls ∈ ts_ws ∧ Cond.methodLinkNest RX0 37 yX2_init "TimestampScheduler" ∈ lw_tbl) ∧ (yX2_init.cls ≠ "java/lang/invoke/MethodHandle" ∧ yX2_init.cls ≠ "java/lang/invoke/VarHandle" ∧ (parseMethodDescriptor yX2_init.desc).map (fun d => d.parameters.length) = some 0) ∧ (yX2_init.name = "<init>" ∧ Cond.instanceMethod yX2_init ∈ ts_ws) := ⟨⟨ts_wm (i := 181) (by decide +kernel) rfl, ts_wm (i := 64) (by decide +kernel) rfl, List.mem_of_getElem? (i := 179) (by decide +kernel)⟩, by decide +kernel, rfl, ts_wm (i := 180) (by decide +kernel) rfl⟩
theorem ff_X0_38 : ts_FF RX0 38 0 5 (.object "TimestampScheduler$EventLog") := ⟨_, rfl, by decide, ts_wm (i := 214) (by decide +kernel) rfl, by decide, rfl, by decide +kernel⟩
theorem ff_X0_42 : ts_FF RX0 42 0 6 (.array .int) := ⟨_, rfl, by decide, ts_wm (i := 216) (by decide +kernel) rfl, by decide, rfl, by decide +kernel⟩
theorem ff_X0_46 : ts_FF RX0 46 0 7 (.array .int) := ⟨_, rfl, by decide, ts_wm (i := 217) (by decide +kernel) rfl, by decide, rfl, by decide +kernel⟩
theorem oi_X6_3 : Cond.methodLink RX6 3 Lib.objectInit ∈ ts_ws := ts_wm (i := 86) (by decide +kernel) rfl
theorem nw_X6_9 : ts_NW RX6 9 0 := ⟨_, rfl, ts_wm (i := 89) (by decide +kernel) rfl, ts_wm (i := 90) (by decide +kernel) rfl, ts_wm (i := 61) (by decide +kernel) rfl⟩
theorem yi_X6_11 : ts_YB RX6 11 yX0_init wqX0_init cX0_init 2 none 0 ∧ (yX0_init.name = "<init>" ∧ Cond.instanceMethod yX0_init ∈ ts_ws) := ⟨⟨rfl, ts_wm (i := 93) (by decide +kernel) rfl, ts_wm (i := 61) (by decide +kernel) rfl, ts_wm (i := 91) (by decide +kernel) rfl, by decide +kernel, by decide⟩, rfl, ts_wm (i := 92) (by decide +kernel) rfl⟩
theorem ff_X6_12 : ts_FF RX6 12 6 0 (.object "TimestampScheduler$Bench") := ⟨_, rfl, by decide, ts_wm (i := 298) (by decide +kernel) rfl, by decide, rfl, by decide +kernel⟩
theorem ff_X6_18 : ts_FF RX6 18 6 1 (.object "TimestampScheduler$Bench") := ⟨_, rfl, by decide, ts_wm (i := 299) (by decide +kernel) rfl, by decide, rfl, by decide +kernel⟩
theorem nw_X6_25 : ts_NW RX6 25 3 := ⟨_, rfl, ts_wm (i := 235) (by decide +kernel) rfl, ts_wm (i := 236) (by decide +kernel) rfl, ts_wm (i := 65) (by decide +kernel) rfl⟩
theorem ni_X6_27 : (wqX3_init ∈ ts_ws ∧ Cond.initialized yX3_init.cls ∈ ts_ws ∧ Cond.methodLinkNest RX6 27 yX3_init "TimestampScheduler" ∈ lw_tbl) ∧ (yX3_init.cls ≠ "java/lang/invoke/MethodHandle" ∧ yX3_init.cls ≠ "java/lang/invoke/VarHandle" ∧ (parseMethodDescriptor yX3_init.desc).map (fun d => d.parameters.length) = some 0) ∧ (yX3_init.name = "<init>" ∧ Cond.instanceMethod yX3_init ∈ ts_ws) := ⟨⟨ts_wm (i := 239) (by decide +kernel) rfl, ts_wm (i := 65) (by decide +kernel) rfl, List.mem_of_getElem? (i := 237) (by decide +kernel)⟩, by decide +kernel, rfl, ts_wm (i := 238) (by decide +kernel) rfl⟩
theorem ff_X6_28 : ts_FF RX6 28 6 3 (.object "TimestampScheduler$Program") := ⟨_, rfl, by decide, ts_wm (i := 301) (by decide +kernel) rfl, by decide, rfl, by decide +kernel⟩
theorem cn_X6_36 : Cond.classLink RX6 36 RX4 ∈ ts_ws := ts_wm (i := 275) (by decide +kernel) rfl
theorem ff_X6_38 : ts_FF RX6 38 6 5 (.array (.object "TimestampScheduler$Row")) := ⟨_, rfl, by decide, ts_wm (i := 303) (by decide +kernel) rfl, by decide, rfl, by decide +kernel⟩
theorem nw_X6_36 : ts_NW RX6 36 4 := ⟨_, rfl, ts_wm (i := 275) (by decide +kernel) rfl, ts_wm (i := 277) (by decide +kernel) rfl, ts_wm (i := 66) (by decide +kernel) rfl⟩
theorem ni_X6_42 : (wqX4_init ∈ ts_ws ∧ Cond.initialized yX4_init.cls ∈ ts_ws ∧ Cond.methodLinkNest RX6 42 yX4_init "TimestampScheduler" ∈ lw_tbl) ∧ (yX4_init.cls ≠ "java/lang/invoke/MethodHandle" ∧ yX4_init.cls ≠ "java/lang/invoke/VarHandle" ∧ (parseMethodDescriptor yX4_init.desc).map (fun d => d.parameters.length) = some 0) ∧ (yX4_init.name = "<init>" ∧ Cond.instanceMethod yX4_init ∈ ts_ws) := ⟨⟨ts_wm (i := 280) (by decide +kernel) rfl, ts_wm (i := 66) (by decide +kernel) rfl, List.mem_of_getElem? (i := 278) (by decide +kernel)⟩, by decide +kernel, rfl, ts_wm (i := 279) (by decide +kernel) rfl⟩
theorem oi_X7_9 : Cond.methodLink RX7 9 Lib.objectInit ∈ ts_ws := ts_wm (i := 1015) (by decide +kernel) rfl
theorem ff_X7_21 : ts_FF RX7 21 7 4 (.array .int) := ⟨_, rfl, by decide, ts_wm (i := 1031) (by decide +kernel) rfl, by decide, rfl, by decide +kernel⟩
theorem ff_X7_25 : ts_FF RX7 25 7 5 (.array .int) := ⟨_, rfl, by decide, ts_wm (i := 1032) (by decide +kernel) rfl, by decide, rfl, by decide +kernel⟩
theorem ff_X7_28 : ts_FF RX7 28 7 6 (.array .int) := ⟨_, rfl, by decide, ts_wm (i := 1033) (by decide +kernel) rfl, by decide, rfl, by decide +kernel⟩
theorem ff_X7_31 : ts_FF RX7 31 7 7 (.array .int) := ⟨_, rfl, by decide, ts_wm (i := 1034) (by decide +kernel) rfl, by decide, rfl, by decide +kernel⟩
theorem ff_X7_34 : ts_FF RX7 34 7 8 (.array .int) := ⟨_, rfl, by decide, ts_wm (i := 1035) (by decide +kernel) rfl, by decide, rfl, by decide +kernel⟩
theorem ff_X7_37 : ts_FF RX7 37 7 9 (.array .int) := ⟨_, rfl, by decide, ts_wm (i := 1036) (by decide +kernel) rfl, by decide, rfl, by decide +kernel⟩
theorem ff_X7_40 : ts_FF RX7 40 7 10 (.array .int) := ⟨_, rfl, by decide, ts_wm (i := 1037) (by decide +kernel) rfl, by decide, rfl, by decide +kernel⟩
theorem ff_X7_43 : ts_FF RX7 43 7 11 (.array .int) := ⟨_, rfl, by decide, ts_wm (i := 1038) (by decide +kernel) rfl, by decide, rfl, by decide +kernel⟩
theorem ff_X7_46 : ts_FF RX7 46 7 12 (.array .int) := ⟨_, rfl, by decide, ts_wm (i := 1039) (by decide +kernel) rfl, by decide, rfl, by decide +kernel⟩
theorem ff_X7_49 : ts_FF RX7 49 7 13 (.array .int) := ⟨_, rfl, by decide, ts_wm (i := 1040) (by decide +kernel) rfl, by decide, rfl, by decide +kernel⟩
theorem ff_X7_52 : ts_FF RX7 52 7 15 (.array .int) := ⟨_, rfl, by decide, ts_wm (i := 1042) (by decide +kernel) rfl, by decide, rfl, by decide +kernel⟩
theorem ff_X7_55 : ts_FF RX7 55 7 19 (.array .char) := ⟨_, rfl, by decide, ts_wm (i := 1046) (by decide +kernel) rfl, by decide, rfl, by decide +kernel⟩
theorem ff_X7_62 : ts_FF RX7 62 7 25 (.array .int) := ⟨_, rfl, by decide, ts_wm (i := 1052) (by decide +kernel) rfl, by decide, rfl, by decide +kernel⟩
theorem ff_X7_65 : ts_FF RX7 65 7 28 (.array .int) := ⟨_, rfl, by decide, ts_wm (i := 1055) (by decide +kernel) rfl, by decide, rfl, by decide +kernel⟩
theorem ff_X7_68 : ts_FF RX7 68 7 29 (.array .int) := ⟨_, rfl, by decide, ts_wm (i := 1056) (by decide +kernel) rfl, by decide, rfl, by decide +kernel⟩
theorem ff_X7_71 : ts_FF RX7 71 7 30 (.array .int) := ⟨_, rfl, by decide, ts_wm (i := 1057) (by decide +kernel) rfl, by decide, rfl, by decide +kernel⟩
theorem ff_X7_74 : ts_FF RX7 74 7 31 (.array .int) := ⟨_, rfl, by decide, ts_wm (i := 1058) (by decide +kernel) rfl, by decide, rfl, by decide +kernel⟩
theorem ff_X7_77 : ts_FF RX7 77 7 32 (.array .float) := ⟨_, rfl, by decide, ts_wm (i := 1059) (by decide +kernel) rfl, by decide, rfl, by decide +kernel⟩
theorem ff_X7_81 : ts_FF RX7 81 7 34 (.array .int) := ⟨_, rfl, by decide, ts_wm (i := 1061) (by decide +kernel) rfl, by decide, rfl, by decide +kernel⟩
