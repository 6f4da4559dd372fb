theorem dX5_copyFrom_0 : decode cX5_copyFrom 0 = .ok (.aload_n 0, 1) := by decide +kernel
theorem dX5_copyFrom_1 : decode cX5_copyFrom 1 = .ok (.aload_n 1, 1) := by decide +kernel
theorem dX5_copyFrom_2 : decode cX5_copyFrom 2 = .ok (.getfield 24, 3) := by decide +kernel
theorem dX5_copyFrom_5 : decode cX5_copyFrom 5 = .ok (.putfield 24, 3) := by decide +kernel
theorem dX5_copyFrom_8 : decode cX5_copyFrom 8 = .ok (.aload_n 0, 1) := by decide +kernel
theorem dX5_copyFrom_9 : decode cX5_copyFrom 9 = .ok (.aload_n 1, 1) := by decide +kernel
theorem dX5_copyFrom_10 : decode cX5_copyFrom 10 = .ok (.getfield 28, 3) := by decide +kernel
theorem dX5_copyFrom_13 : decode cX5_copyFrom 13 = .ok (.putfield 28, 3) := by decide +kernel
theorem dX5_copyFrom_16 : decode cX5_copyFrom 16 = .ok (.aload_n 0, 1) := by decide +kernel
theorem dX5_copyFrom_17 : decode cX5_copyFrom 17 = .ok (.aload_n 1, 1) := by decide +kernel
theorem dX5_copyFrom_18 : decode cX5_copyFrom 18 = .ok (.getfield 31, 3) := by decide +kernel
theorem dX5_copyFrom_21 : decode cX5_copyFrom 21 = .ok (.putfield 31, 3) := by decide +kernel
theorem dX5_copyFrom_24 : decode cX5_copyFrom 24 = .ok (.aload_n 0, 1) := by decide +kernel
theorem dX5_copyFrom_25 : decode cX5_copyFrom 25 = .ok (.aload_n 1, 1) := by decide +kernel
theorem dX5_copyFrom_26 : decode cX5_copyFrom 26 = .ok (.getfield 34, 3) := by decide +kernel
theorem dX5_copyFrom_29 : decode cX5_copyFrom 29 = .ok (.putfield 34, 3) := by decide +kernel
theorem dX5_copyFrom_32 : decode cX5_copyFrom 32 = .ok (.aload_n 0, 1) := by decide +kernel
theorem dX5_copyFrom_33 : decode cX5_copyFrom 33 = .ok (.aload_n 1, 1) := by decide +kernel
theorem dX5_copyFrom_34 : decode cX5_copyFrom 34 = .ok (.getfield 37, 3) := by decide +kernel
theorem dX5_copyFrom_37 : decode cX5_copyFrom 37 = .ok (.putfield 37, 3) := by decide +kernel
theorem dX5_copyFrom_40 : decode cX5_copyFrom 40 = .ok (.aload_n 0, 1) := by decide +kernel
theorem dX5_copyFrom_41 : decode cX5_copyFrom 41 = .ok (.aload_n 1, 1) := by decide +kernel
theorem dX5_copyFrom_42 : decode cX5_copyFrom 42 = .ok (.getfield 40, 3) := by decide +kernel
theorem dX5_copyFrom_45 : decode cX5_copyFrom 45 = .ok (.putfield 40, 3) := by decide +kernel
theorem dX5_copyFrom_48 : decode cX5_copyFrom 48 = .ok (.aload_n 1, 1) := by decide +kernel
theorem dX5_copyFrom_49 : decode cX5_copyFrom 49 = .ok (.getfield 9, 3) := by decide +kernel
theorem dX5_copyFrom_52 : decode cX5_copyFrom 52 = .ok (.iconst 0, 1) := by decide +kernel
theorem dX5_copyFrom_53 : decode cX5_copyFrom 53 = .ok (.aload_n 0, 1) := by decide +kernel
theorem dX5_copyFrom_54 : decode cX5_copyFrom 54 = .ok (.getfield 9, 3) := by decide +kernel
theorem dX5_copyFrom_57 : decode cX5_copyFrom 57 = .ok (.iconst 0, 1) := by decide +kernel
theorem dX5_copyFrom_58 : decode cX5_copyFrom 58 = .ok (.bipush 20, 2) := by decide +kernel
theorem dX5_copyFrom_60 : decode cX5_copyFrom 60 = .ok (.invokestatic 43, 3) := by decide +kernel
theorem dX5_copyFrom_63 : decode cX5_copyFrom 63 = .ok (.aload_n 1, 1) := by decide +kernel
theorem dX5_copyFrom_64 : decode cX5_copyFrom 64 = .ok (.getfield 15, 3) := by decide +kernel
theorem dX5_copyFrom_67 : decode cX5_copyFrom 67 = .ok (.iconst 0, 1) := by decide +kernel
theorem dX5_copyFrom_68 : decode cX5_copyFrom 68 = .ok (.aload_n 0, 1) := by decide +kernel
theorem dX5_copyFrom_69 : decode cX5_copyFrom 69 = .ok (.getfield 15, 3) := by decide +kernel
theorem dX5_copyFrom_72 : decode cX5_copyFrom 72 = .ok (.iconst 0, 1) := by decide +kernel
theorem dX5_copyFrom_73 : decode cX5_copyFrom 73 = .ok (.bipush 20, 2) := by decide +kernel
theorem dX5_copyFrom_75 : decode cX5_copyFrom 75 = .ok (.invokestatic 43, 3) := by decide +kernel
theorem dX5_copyFrom_78 : decode cX5_copyFrom 78 = .ok (.aload_n 1, 1) := by decide +kernel
theorem dX5_copyFrom_79 : decode cX5_copyFrom 79 = .ok (.getfield 18, 3) := by decide +kernel
theorem dX5_copyFrom_82 : decode cX5_copyFrom 82 = .ok (.iconst 0, 1) := by decide +kernel
theorem dX5_copyFrom_83 : decode cX5_copyFrom 83 = .ok (.aload_n 0, 1) := by decide +kernel
theorem dX5_copyFrom_84 : decode cX5_copyFrom 84 = .ok (.getfield 18, 3) := by decide +kernel
theorem dX5_copyFrom_87 : decode cX5_copyFrom 87 = .ok (.iconst 0, 1) := by decide +kernel
theorem dX5_copyFrom_88 : decode cX5_copyFrom 88 = .ok (.bipush 20, 2) := by decide +kernel
theorem dX5_copyFrom_90 : decode cX5_copyFrom 90 = .ok (.invokestatic 43, 3) := by decide +kernel
theorem dX5_copyFrom_93 : decode cX5_copyFrom 93 = .ok (.aload_n 1, 1) := by decide +kernel
theorem dX5_copyFrom_94 : decode cX5_copyFrom 94 = .ok (.getfield 21, 3) := by decide +kernel
theorem dX5_copyFrom_97 : decode cX5_copyFrom 97 = .ok (.iconst 0, 1) := by decide +kernel
theorem dX5_copyFrom_98 : decode cX5_copyFrom 98 = .ok (.aload_n 0, 1) := by decide +kernel
theorem dX5_copyFrom_99 : decode cX5_copyFrom 99 = .ok (.getfield 21, 3) := by decide +kernel
theorem dX5_copyFrom_102 : decode cX5_copyFrom 102 = .ok (.iconst 0, 1) := by decide +kernel
theorem dX5_copyFrom_103 : decode cX5_copyFrom 103 = .ok (.bipush 20, 2) := by decide +kernel
theorem dX5_copyFrom_105 : decode cX5_copyFrom 105 = .ok (.invokestatic 43, 3) := by decide +kernel
theorem dX5_copyFrom_108 : decode cX5_copyFrom 108 = .ok (.return_, 1) := by decide +kernel
theorem dX5_start_0 : decode cX5_start 0 = .ok (.aload_n 0, 1) := by decide +kernel
theorem dX5_start_1 : decode cX5_start 1 = .ok (.iconst 0, 1) := by decide +kernel
theorem dX5_start_2 : decode cX5_start 2 = .ok (.putfield 24, 3) := by decide +kernel
theorem dX5_start_5 : decode cX5_start 5 = .ok (.aload_n 0, 1) := by decide +kernel
theorem dX5_start_6 : decode cX5_start 6 = .ok (.iload_n 2, 1) := by decide +kernel
theorem dX5_start_7 : decode cX5_start 7 = .ok (.putfield 28, 3) := by decide +kernel
theorem dX5_start_10 : decode cX5_start 10 = .ok (.aload_n 0, 1) := by decide +kernel
theorem dX5_start_11 : decode cX5_start 11 = .ok (.iload_n 1, 1) := by decide +kernel
theorem dX5_start_12 : decode cX5_start 12 = .ok (.putfield 31, 3) := by decide +kernel
theorem dX5_start_15 : decode cX5_start 15 = .ok (.aload_n 0, 1) := by decide +kernel
theorem dX5_start_16 : decode cX5_start 16 = .ok (.iconst 0, 1) := by decide +kernel
theorem dX5_start_17 : decode cX5_start 17 = .ok (.putfield 34, 3) := by decide +kernel
theorem dX5_start_20 : decode cX5_start 20 = .ok (.aload_n 0, 1) := by decide +kernel
theorem dX5_start_21 : decode cX5_start 21 = .ok (.iconst 0, 1) := by decide +kernel
theorem dX5_start_22 : decode cX5_start 22 = .ok (.putfield 37, 3) := by decide +kernel
theorem dX5_start_25 : decode cX5_start 25 = .ok (.aload_n 0, 1) := by decide +kernel
theorem dX5_start_26 : decode cX5_start 26 = .ok (.iconst 0, 1) := by decide +kernel
theorem dX5_start_27 : decode cX5_start 27 = .ok (.putfield 40, 3) := by decide +kernel
theorem dX5_start_30 : decode cX5_start 30 = .ok (.return_, 1) := by decide +kernel
theorem dX5_appendOperation_0 : decode cX5_appendOperation 0 = .ok (.aload_n 0, 1) := by decide +kernel
theorem dX5_appendOperation_1 : decode cX5_appendOperation 1 = .ok (.getfield 40, 3) := by decide +kernel
theorem dX5_appendOperation_4 : decode cX5_appendOperation 4 = .ok (.istore 4, 2) := by decide +kernel
theorem dX5_appendOperation_6 : decode cX5_appendOperation 6 = .ok (.aload_n 0, 1) := by decide +kernel
theorem dX5_appendOperation_7 : decode cX5_appendOperation 7 = .ok (.getfield 9, 3) := by decide +kernel
theorem dX5_appendOperation_10 : decode cX5_appendOperation 10 = .ok (.iload 4, 2) := by decide +kernel
theorem dX5_appendOperation_12 : decode cX5_appendOperation 12 = .ok (.iload_n 1, 1) := by decide +kernel
theorem dX5_appendOperation_13 : decode cX5_appendOperation 13 = .ok (.iastore, 1) := by decide +kernel
theorem dX5_appendOperation_14 : decode cX5_appendOperation 14 = .ok (.aload_n 0, 1) := by decide +kernel
theorem dX5_appendOperation_15 : decode cX5_appendOperation 15 = .ok (.getfield 15, 3) := by decide +kernel
theorem dX5_appendOperation_18 : decode cX5_appendOperation 18 = .ok (.iload 4, 2) := by decide +kernel
theorem dX5_appendOperation_20 : decode cX5_appendOperation 20 = .ok (.iload_n 2, 1) := by decide +kernel
theorem dX5_appendOperation_21 : decode cX5_appendOperation 21 = .ok (.iastore, 1) := by decide +kernel
theorem dX5_appendOperation_22 : decode cX5_appendOperation 22 = .ok (.aload_n 0, 1) := by decide +kernel
theorem dX5_appendOperation_23 : decode cX5_appendOperation 23 = .ok (.getfield 18, 3) := by decide +kernel
theorem dX5_appendOperation_26 : decode cX5_appendOperation 26 = .ok (.iload 4, 2) := by decide +kernel
theorem dX5_appendOperation_28 : decode cX5_appendOperation 28 = .ok (.iload_n 3, 1) := by decide +kernel
theorem dX5_appendOperation_29 : decode cX5_appendOperation 29 = .ok (.iastore, 1) := by decide +kernel
theorem dX5_appendOperation_30 : decode cX5_appendOperation 30 = .ok (.aload_n 0, 1) := by decide +kernel
theorem dX5_appendOperation_31 : decode cX5_appendOperation 31 = .ok (.getfield 21, 3) := by decide +kernel
theorem dX5_appendOperation_34 : decode cX5_appendOperation 34 = .ok (.iload 4, 2) := by decide +kernel
theorem dX5_appendOperation_36 : decode cX5_appendOperation 36 = .ok (.iconst 0, 1) := by decide +kernel
theorem dX5_appendOperation_37 : decode cX5_appendOperation 37 = .ok (.iastore, 1) := by decide +kernel
theorem dX5_appendOperation_38 : decode cX5_appendOperation 38 = .ok (.aload_n 0, 1) := by decide +kernel
theorem dX5_appendOperation_39 : decode cX5_appendOperation 39 = .ok (.dup, 1) := by decide +kernel
theorem dX5_appendOperation_40 : decode cX5_appendOperation 40 = .ok (.getfield 40, 3) := by decide +kernel
theorem dX5_appendOperation_43 : decode cX5_appendOperation 43 = .ok (.iconst 1, 1) := by decide +kernel
theorem dX5_appendOperation_44 : decode cX5_appendOperation 44 = .ok (.iadd, 1) := by decide +kernel
theorem dX5_appendOperation_45 : decode cX5_appendOperation 45 = .ok (.putfield 40, 3) := by decide +kernel
theorem dX5_appendOperation_48 : decode cX5_appendOperation 48 = .ok (.iload 4, 2) := by decide +kernel
theorem dX5_appendOperation_50 : decode cX5_appendOperation 50 = .ok (.ireturn, 1) := by decide +kernel
theorem dX5_isUncommitted_0 : decode cX5_isUncommitted 0 = .ok (.aload_n 0, 1) := by decide +kernel
theorem dX5_isUncommitted_1 : decode cX5_isUncommitted 1 = .ok (.getfield 24, 3) := by decide +kernel
theorem dX5_isUncommitted_4 : decode cX5_isUncommitted 4 = .ok (.ifCond .eq 11, 3) := by decide +kernel
theorem dX5_isUncommitted_7 : decode cX5_isUncommitted 7 = .ok (.aload_n 0, 1) := by decide +kernel
theorem dX5_isUncommitted_8 : decode cX5_isUncommitted 8 = .ok (.getfield 24, 3) := by decide +kernel
theorem dX5_isUncommitted_11 : decode cX5_isUncommitted 11 = .ok (.iconst 1, 1) := by decide +kernel
theorem dX5_isUncommitted_12 : decode cX5_isUncommitted 12 = .ok (.if_icmp .ne 7, 3) := by decide +kernel
theorem dX5_isUncommitted_15 : decode cX5_isUncommitted 15 = .ok (.iconst 1, 1) := by decide +kernel
theorem dX5_isUncommitted_16 : decode cX5_isUncommitted 16 = .ok (.goto 4, 3) := by decide +kernel
theorem dX5_isUncommitted_19 : decode cX5_isUncommitted 19 = .ok (.iconst 0, 1) := by decide +kernel
theorem dX5_isUncommitted_20 : decode cX5_isUncommitted 20 = .ok (.ireturn, 1) := by decide +kernel
theorem dX5_endByAbort_0 : decode cX5_endByAbort 0 = .ok (.aload_n 0, 1) := by decide +kernel
theorem dX5_endByAbort_1 : decode cX5_endByAbort 1 = .ok (.iconst 3, 1) := by decide +kernel
theorem dX5_endByAbort_2 : decode cX5_endByAbort 2 = .ok (.putfield 24, 3) := by decide +kernel
theorem dX5_endByAbort_5 : decode cX5_endByAbort 5 = .ok (.aload_n 0, 1) := by decide +kernel
theorem dX5_endByAbort_6 : decode cX5_endByAbort 6 = .ok (.iconst 0, 1) := by decide +kernel
theorem dX5_endByAbort_7 : decode cX5_endByAbort 7 = .ok (.putfield 37, 3) := by decide +kernel
theorem dX5_endByAbort_10 : decode cX5_endByAbort 10 = .ok (.aload_n 0, 1) := by decide +kernel
theorem dX5_endByAbort_11 : decode cX5_endByAbort 11 = .ok (.dup, 1) := by decide +kernel
theorem dX5_endByAbort_12 : decode cX5_endByAbort 12 = .ok (.getfield 34, 3) := by decide +kernel
theorem dX5_endByAbort_15 : decode cX5_endByAbort 15 = .ok (.iconst 1, 1) := by decide +kernel
theorem dX5_endByAbort_16 : decode cX5_endByAbort 16 = .ok (.iadd, 1) := by decide +kernel
theorem dX5_endByAbort_17 : decode cX5_endByAbort 17 = .ok (.putfield 34, 3) := by decide +kernel
theorem dX5_endByAbort_20 : decode cX5_endByAbort 20 = .ok (.return_, 1) := by decide +kernel
theorem dX5_goesBefore_0 : decode cX5_goesBefore 0 = .ok (.aload_n 0, 1) := by decide +kernel
theorem dX5_goesBefore_1 : decode cX5_goesBefore 1 = .ok (.getfield 31, 3) := by decide +kernel
theorem dX5_goesBefore_4 : decode cX5_goesBefore 4 = .ok (.aload_n 1, 1) := by decide +kernel
theorem dX5_goesBefore_5 : decode cX5_goesBefore 5 = .ok (.getfield 31, 3) := by decide +kernel
theorem dX5_goesBefore_8 : decode cX5_goesBefore 8 = .ok (.if_icmp .eq 20, 3) := by decide +kernel
theorem dX5_goesBefore_11 : decode cX5_goesBefore 11 = .ok (.aload_n 0, 1) := by decide +kernel
theorem dX5_goesBefore_12 : decode cX5_goesBefore 12 = .ok (.getfield 31, 3) := by decide +kernel
theorem dX5_goesBefore_15 : decode cX5_goesBefore 15 = .ok (.aload_n 1, 1) := by decide +kernel
theorem dX5_goesBefore_16 : decode cX5_goesBefore 16 = .ok (.getfield 31, 3) := by decide +kernel
theorem dX5_goesBefore_19 : decode cX5_goesBefore 19 = .ok (.if_icmp .le 7, 3) := by decide +kernel
theorem dX5_goesBefore_22 : decode cX5_goesBefore 22 = .ok (.iconst 1, 1) := by decide +kernel
theorem dX5_goesBefore_23 : decode cX5_goesBefore 23 = .ok (.goto 4, 3) := by decide +kernel
theorem dX5_goesBefore_26 : decode cX5_goesBefore 26 = .ok (.iconst 0, 1) := by decide +kernel
theorem dX5_goesBefore_27 : decode cX5_goesBefore 27 = .ok (.ireturn, 1) := by decide +kernel
theorem dX5_goesBefore_28 : decode cX5_goesBefore 28 = .ok (.aload_n 0, 1) := by decide +kernel
theorem dX5_goesBefore_29 : decode cX5_goesBefore 29 = .ok (.getfield 34, 3) := by decide +kernel
theorem dX5_goesBefore_32 : decode cX5_goesBefore 32 = .ok (.aload_n 1, 1) := by decide +kernel
theorem dX5_goesBefore_33 : decode cX5_goesBefore 33 = .ok (.getfield 34, 3) := by decide +kernel
theorem dX5_goesBefore_36 : decode cX5_goesBefore 36 = .ok (.if_icmp .le 7, 3) := by decide +kernel
theorem dX5_goesBefore_39 : decode cX5_goesBefore 39 = .ok (.iconst 1, 1) := by decide +kernel
theorem dX5_goesBefore_40 : decode cX5_goesBefore 40 = .ok (.goto 4, 3) := by decide +kernel
theorem dX5_goesBefore_43 : decode cX5_goesBefore 43 = .ok (.iconst 0, 1) := by decide +kernel
theorem dX5_goesBefore_44 : decode cX5_goesBefore 44 = .ok (.ireturn, 1) := by decide +kernel
theorem dX5_executeSerially_0 : decode cX5_executeSerially 0 = .ok (.iconst 0, 1) := by decide +kernel
theorem dX5_executeSerially_1 : decode cX5_executeSerially 1 = .ok (.istore_n 2, 1) := by decide +kernel
theorem dX5_executeSerially_2 : decode cX5_executeSerially 2 = .ok (.iconst 0, 1) := by decide +kernel
theorem dX5_executeSerially_3 : decode cX5_executeSerially 3 = .ok (.istore_n 3, 1) := by decide +kernel
theorem dX5_executeSerially_4 : decode cX5_executeSerially 4 = .ok (.iload_n 3, 1) := by decide +kernel
theorem dX5_executeSerially_5 : decode cX5_executeSerially 5 = .ok (.aload_n 0, 1) := by decide +kernel
theorem dX5_executeSerially_6 : decode cX5_executeSerially 6 = .ok (.getfield 40, 3) := by decide +kernel
theorem dX5_executeSerially_9 : decode cX5_executeSerially 9 = .ok (.if_icmp .ge 89, 3) := by decide +kernel
theorem dX5_executeSerially_12 : decode cX5_executeSerially 12 = .ok (.aload_n 0, 1) := by decide +kernel
theorem dX5_executeSerially_13 : decode cX5_executeSerially 13 = .ok (.getfield 15, 3) := by decide +kernel
theorem dX5_executeSerially_16 : decode cX5_executeSerially 16 = .ok (.iload_n 3, 1) := by decide +kernel
theorem dX5_executeSerially_17 : decode cX5_executeSerially 17 = .ok (.iaload, 1) := by decide +kernel
theorem dX5_executeSerially_18 : decode cX5_executeSerially 18 = .ok (.istore 4, 2) := by decide +kernel
theorem dX5_executeSerially_20 : decode cX5_executeSerially 20 = .ok (.aload_n 0, 1) := by decide +kernel
theorem dX5_executeSerially_21 : decode cX5_executeSerially 21 = .ok (.getfield 9, 3) := by decide +kernel
theorem dX5_executeSerially_24 : decode cX5_executeSerially 24 = .ok (.iload_n 3, 1) := by decide +kernel
theorem dX5_executeSerially_25 : decode cX5_executeSerially 25 = .ok (.iaload, 1) := by decide +kernel
theorem dX5_executeSerially_26 : decode cX5_executeSerially 26 = .ok (.iconst 1, 1) := by decide +kernel
theorem dX5_executeSerially_27 : decode cX5_executeSerially 27 = .ok (.if_icmp .eq 19, 3) := by decide +kernel
theorem dX5_executeSerially_30 : decode cX5_executeSerially 30 = .ok (.aload_n 0, 1) := by decide +kernel
theorem dX5_executeSerially_31 : decode cX5_executeSerially 31 = .ok (.getfield 21, 3) := by decide +kernel
theorem dX5_executeSerially_34 : decode cX5_executeSerially 34 = .ok (.iload_n 3, 1) := by decide +kernel
theorem dX5_executeSerially_35 : decode cX5_executeSerially 35 = .ok (.iaload, 1) := by decide +kernel
theorem dX5_executeSerially_36 : decode cX5_executeSerially 36 = .ok (.aload_n 1, 1) := by decide +kernel
theorem dX5_executeSerially_37 : decode cX5_executeSerially 37 = .ok (.iload 4, 2) := by decide +kernel
theorem dX5_executeSerially_39 : decode cX5_executeSerially 39 = .ok (.iaload, 1) := by decide +kernel
theorem dX5_executeSerially_40 : decode cX5_executeSerially 40 = .ok (.if_icmp .eq 6, 3) := by decide +kernel
theorem dX5_executeSerially_43 : decode cX5_executeSerially 43 = .ok (.iinc 2 1, 3) := by decide +kernel
theorem dX5_executeSerially_46 : decode cX5_executeSerially 46 = .ok (.aload_n 0, 1) := by decide +kernel
theorem dX5_executeSerially_47 : decode cX5_executeSerially 47 = .ok (.getfield 9, 3) := by decide +kernel
theorem dX5_executeSerially_50 : decode cX5_executeSerially 50 = .ok (.iload_n 3, 1) := by decide +kernel
theorem dX5_executeSerially_51 : decode cX5_executeSerially 51 = .ok (.iaload, 1) := by decide +kernel
theorem dX5_executeSerially_52 : decode cX5_executeSerially 52 = .ok (.iconst 1, 1) := by decide +kernel
theorem dX5_executeSerially_53 : decode cX5_executeSerially 53 = .ok (.if_icmp .ne 16, 3) := by decide +kernel
theorem dX5_executeSerially_56 : decode cX5_executeSerially 56 = .ok (.aload_n 1, 1) := by decide +kernel
theorem dX5_executeSerially_57 : decode cX5_executeSerially 57 = .ok (.iload 4, 2) := by decide +kernel
theorem dX5_executeSerially_59 : decode cX5_executeSerially 59 = .ok (.aload_n 0, 1) := by decide +kernel
theorem dX5_executeSerially_60 : decode cX5_executeSerially 60 = .ok (.getfield 18, 3) := by decide +kernel
theorem dX5_executeSerially_63 : decode cX5_executeSerially 63 = .ok (.iload_n 3, 1) := by decide +kernel
theorem dX5_executeSerially_64 : decode cX5_executeSerially 64 = .ok (.iaload, 1) := by decide +kernel
theorem dX5_executeSerially_65 : decode cX5_executeSerially 65 = .ok (.iastore, 1) := by decide +kernel
theorem dX5_executeSerially_66 : decode cX5_executeSerially 66 = .ok (.goto 26, 3) := by decide +kernel
theorem dX5_executeSerially_69 : decode cX5_executeSerially 69 = .ok (.aload_n 0, 1) := by decide +kernel
theorem dX5_executeSerially_70 : decode cX5_executeSerially 70 = .ok (.getfield 9, 3) := by decide +kernel
theorem dX5_executeSerially_73 : decode cX5_executeSerially 73 = .ok (.iload_n 3, 1) := by decide +kernel
theorem dX5_executeSerially_74 : decode cX5_executeSerially 74 = .ok (.iaload, 1) := by decide +kernel
theorem dX5_executeSerially_75 : decode cX5_executeSerially 75 = .ok (.iconst 2, 1) := by decide +kernel
theorem dX5_executeSerially_76 : decode cX5_executeSerially 76 = .ok (.if_icmp .ne 16, 3) := by decide +kernel
theorem dX5_executeSerially_79 : decode cX5_executeSerially 79 = .ok (.aload_n 1, 1) := by decide +kernel
theorem dX5_executeSerially_80 : decode cX5_executeSerially 80 = .ok (.iload 4, 2) := by decide +kernel
theorem dX5_executeSerially_82 : decode cX5_executeSerially 82 = .ok (.dup2, 1) := by decide +kernel
theorem dX5_executeSerially_83 : decode cX5_executeSerially 83 = .ok (.iaload, 1) := by decide +kernel
theorem dX5_executeSerially_84 : decode cX5_executeSerially 84 = .ok (.aload_n 0, 1) := by decide +kernel
theorem dX5_executeSerially_85 : decode cX5_executeSerially 85 = .ok (.getfield 18, 3) := by decide +kernel
theorem dX5_executeSerially_88 : decode cX5_executeSerially 88 = .ok (.iload_n 3, 1) := by decide +kernel
theorem dX5_executeSerially_89 : decode cX5_executeSerially 89 = .ok (.iaload, 1) := by decide +kernel
theorem dX5_executeSerially_90 : decode cX5_executeSerially 90 = .ok (.iadd, 1) := by decide +kernel
theorem dX5_executeSerially_91 : decode cX5_executeSerially 91 = .ok (.iastore, 1) := by decide +kernel
theorem dX5_executeSerially_92 : decode cX5_executeSerially 92 = .ok (.iinc 3 1, 3) := by decide +kernel
theorem dX5_executeSerially_95 : decode cX5_executeSerially 95 = .ok (.goto (-91), 3) := by decide +kernel
theorem dX5_executeSerially_98 : decode cX5_executeSerially 98 = .ok (.iload_n 2, 1) := by decide +kernel
theorem dX5_executeSerially_99 : decode cX5_executeSerially 99 = .ok (.ireturn, 1) := by decide +kernel
theorem dX5_property_0 : decode cX5_property 0 = .ok (.iload_n 1, 1) := by decide +kernel
theorem dX5_property_1 : decode cX5_property 1 = .ok (.tableswitch 51 0 3 #[31, 36, 41, 46], 31) := by decide +kernel
theorem dX5_property_32 : decode cX5_property 32 = .ok (.aload_n 0, 1) := by decide +kernel
theorem dX5_property_33 : decode cX5_property 33 = .ok (.getfield 24, 3) := by decide +kernel
theorem dX5_property_36 : decode cX5_property 36 = .ok (.ireturn, 1) := by decide +kernel
theorem dX5_property_37 : decode cX5_property 37 = .ok (.aload_n 0, 1) := by decide +kernel
theorem dX5_property_38 : decode cX5_property 38 = .ok (.getfield 28, 3) := by decide +kernel
theorem dX5_property_41 : decode cX5_property 41 = .ok (.ireturn, 1) := by decide +kernel
theorem dX5_property_42 : decode cX5_property 42 = .ok (.aload_n 0, 1) := by decide +kernel
theorem dX5_property_43 : decode cX5_property 43 = .ok (.getfield 31, 3) := by decide +kernel
theorem dX5_property_46 : decode cX5_property 46 = .ok (.ireturn, 1) := by decide +kernel
theorem dX5_property_47 : decode cX5_property 47 = .ok (.aload_n 0, 1) := by decide +kernel
theorem dX5_property_48 : decode cX5_property 48 = .ok (.getfield 34, 3) := by decide +kernel
theorem dX5_property_51 : decode cX5_property 51 = .ok (.ireturn, 1) := by decide +kernel
theorem dX5_property_52 : decode cX5_property 52 = .ok (.aload_n 0, 1) := by decide +kernel
theorem dX5_property_53 : decode cX5_property 53 = .ok (.getfield 40, 3) := by decide +kernel
theorem dX5_property_56 : decode cX5_property 56 = .ok (.ireturn, 1) := by decide +kernel
theorem dX5_operationNumber_0 : decode cX5_operationNumber 0 = .ok (.iload_n 2, 1) := by decide +kernel
theorem dX5_operationNumber_1 : decode cX5_operationNumber 1 = .ok (.tableswitch 48 0 2 #[27, 34, 41], 27) := by decide +kernel
theorem dX5_operationNumber_28 : decode cX5_operationNumber 28 = .ok (.aload_n 0, 1) := by decide +kernel
theorem dX5_operationNumber_29 : decode cX5_operationNumber 29 = .ok (.getfield 9, 3) := by decide +kernel
theorem dX5_operationNumber_32 : decode cX5_operationNumber 32 = .ok (.iload_n 1, 1) := by decide +kernel
theorem dX5_operationNumber_33 : decode cX5_operationNumber 33 = .ok (.iaload, 1) := by decide +kernel
theorem dX5_operationNumber_34 : decode cX5_operationNumber 34 = .ok (.ireturn, 1) := by decide +kernel
theorem dX5_operationNumber_35 : decode cX5_operationNumber 35 = .ok (.aload_n 0, 1) := by decide +kernel
theorem dX5_operationNumber_36 : decode cX5_operationNumber 36 = .ok (.getfield 15, 3) := by decide +kernel
theorem dX5_operationNumber_39 : decode cX5_operationNumber 39 = .ok (.iload_n 1, 1) := by decide +kernel
theorem dX5_operationNumber_40 : decode cX5_operationNumber 40 = .ok (.iaload, 1) := by decide +kernel
theorem dX5_operationNumber_41 : decode cX5_operationNumber 41 = .ok (.ireturn, 1) := by decide +kernel
theorem dX5_operationNumber_42 : decode cX5_operationNumber 42 = .ok (.aload_n 0, 1) := by decide +kernel
theorem dX5_operationNumber_43 : decode cX5_operationNumber 43 = .ok (.getfield 18, 3) := by decide +kernel
theorem dX5_operationNumber_46 : decode cX5_operationNumber 46 = .ok (.iload_n 1, 1) := by decide +kernel
theorem dX5_operationNumber_47 : decode cX5_operationNumber 47 = .ok (.iaload, 1) := by decide +kernel
theorem dX5_operationNumber_48 : decode cX5_operationNumber 48 = .ok (.ireturn, 1) := by decide +kernel
theorem dX5_operationNumber_49 : decode cX5_operationNumber 49 = .ok (.aload_n 0, 1) := by decide +kernel
theorem dX5_operationNumber_50 : decode cX5_operationNumber 50 = .ok (.getfield 21, 3) := by decide +kernel
theorem dX5_operationNumber_53 : decode cX5_operationNumber 53 = .ok (.iload_n 1, 1) := by decide +kernel
theorem dX5_operationNumber_54 : decode cX5_operationNumber 54 = .ok (.iaload, 1) := by decide +kernel
theorem dX5_operationNumber_55 : decode cX5_operationNumber 55 = .ok (.ireturn, 1) := by decide +kernel
