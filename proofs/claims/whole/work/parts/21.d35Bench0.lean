theorem dX0_startAnew_0 : decode cX0_startAnew 0 = .ok (.aload_n 0, 1) := by decide +kernel
theorem dX0_startAnew_1 : decode cX0_startAnew 1 = .ok (.iload_n 1, 1) := by decide +kernel
theorem dX0_startAnew_2 : decode cX0_startAnew 2 = .ok (.putfield 9, 3) := by decide +kernel
theorem dX0_startAnew_5 : decode cX0_startAnew 5 = .ok (.aload_n 0, 1) := by decide +kernel
theorem dX0_startAnew_6 : decode cX0_startAnew 6 = .ok (.iconst 1, 1) := by decide +kernel
theorem dX0_startAnew_7 : decode cX0_startAnew 7 = .ok (.putfield 15, 3) := by decide +kernel
theorem dX0_startAnew_10 : decode cX0_startAnew 10 = .ok (.aload_n 0, 1) := by decide +kernel
theorem dX0_startAnew_11 : decode cX0_startAnew 11 = .ok (.iconst 0, 1) := by decide +kernel
theorem dX0_startAnew_12 : decode cX0_startAnew 12 = .ok (.putfield 18, 3) := by decide +kernel
theorem dX0_startAnew_15 : decode cX0_startAnew 15 = .ok (.iconst 0, 1) := by decide +kernel
theorem dX0_startAnew_16 : decode cX0_startAnew 16 = .ok (.istore_n 2, 1) := by decide +kernel
theorem dX0_startAnew_17 : decode cX0_startAnew 17 = .ok (.iload_n 2, 1) := by decide +kernel
theorem dX0_startAnew_18 : decode cX0_startAnew 18 = .ok (.bipush 8, 2) := by decide +kernel
theorem dX0_startAnew_20 : decode cX0_startAnew 20 = .ok (.if_icmp .ge 18, 3) := by decide +kernel
theorem dX0_startAnew_23 : decode cX0_startAnew 23 = .ok (.aload_n 0, 1) := by decide +kernel
theorem dX0_startAnew_24 : decode cX0_startAnew 24 = .ok (.getfield 30, 3) := by decide +kernel
theorem dX0_startAnew_27 : decode cX0_startAnew 27 = .ok (.iload_n 2, 1) := by decide +kernel
theorem dX0_startAnew_28 : decode cX0_startAnew 28 = .ok (.aaload, 1) := by decide +kernel
theorem dX0_startAnew_29 : decode cX0_startAnew 29 = .ok (.invokevirtual 49, 3) := by decide +kernel
theorem dX0_startAnew_32 : decode cX0_startAnew 32 = .ok (.iinc 2 1, 3) := by decide +kernel
theorem dX0_startAnew_35 : decode cX0_startAnew 35 = .ok (.goto (-18), 3) := by decide +kernel
theorem dX0_startAnew_38 : decode cX0_startAnew 38 = .ok (.aload_n 0, 1) := by decide +kernel
theorem dX0_startAnew_39 : decode cX0_startAnew 39 = .ok (.getfield 38, 3) := by decide +kernel
theorem dX0_startAnew_42 : decode cX0_startAnew 42 = .ok (.invokevirtual 52, 3) := by decide +kernel
theorem dX0_startAnew_45 : decode cX0_startAnew 45 = .ok (.return_, 1) := by decide +kernel
theorem dX0_copyFrom_0 : decode cX0_copyFrom 0 = .ok (.aload_n 0, 1) := by decide +kernel
theorem dX0_copyFrom_1 : decode cX0_copyFrom 1 = .ok (.aload_n 1, 1) := by decide +kernel
theorem dX0_copyFrom_2 : decode cX0_copyFrom 2 = .ok (.getfield 9, 3) := by decide +kernel
theorem dX0_copyFrom_5 : decode cX0_copyFrom 5 = .ok (.putfield 9, 3) := by decide +kernel
theorem dX0_copyFrom_8 : decode cX0_copyFrom 8 = .ok (.aload_n 0, 1) := by decide +kernel
theorem dX0_copyFrom_9 : decode cX0_copyFrom 9 = .ok (.aload_n 1, 1) := by decide +kernel
theorem dX0_copyFrom_10 : decode cX0_copyFrom 10 = .ok (.getfield 15, 3) := by decide +kernel
theorem dX0_copyFrom_13 : decode cX0_copyFrom 13 = .ok (.putfield 15, 3) := by decide +kernel
theorem dX0_copyFrom_16 : decode cX0_copyFrom 16 = .ok (.aload_n 0, 1) := by decide +kernel
theorem dX0_copyFrom_17 : decode cX0_copyFrom 17 = .ok (.aload_n 1, 1) := by decide +kernel
theorem dX0_copyFrom_18 : decode cX0_copyFrom 18 = .ok (.getfield 18, 3) := by decide +kernel
theorem dX0_copyFrom_21 : decode cX0_copyFrom 21 = .ok (.putfield 18, 3) := by decide +kernel
theorem dX0_copyFrom_24 : decode cX0_copyFrom 24 = .ok (.iconst 0, 1) := by decide +kernel
theorem dX0_copyFrom_25 : decode cX0_copyFrom 25 = .ok (.istore_n 2, 1) := by decide +kernel
theorem dX0_copyFrom_26 : decode cX0_copyFrom 26 = .ok (.iload_n 2, 1) := by decide +kernel
theorem dX0_copyFrom_27 : decode cX0_copyFrom 27 = .ok (.bipush 16, 2) := by decide +kernel
theorem dX0_copyFrom_29 : decode cX0_copyFrom 29 = .ok (.if_icmp .ge 24, 3) := by decide +kernel
theorem dX0_copyFrom_32 : decode cX0_copyFrom 32 = .ok (.aload_n 0, 1) := by decide +kernel
theorem dX0_copyFrom_33 : decode cX0_copyFrom 33 = .ok (.getfield 23, 3) := by decide +kernel
theorem dX0_copyFrom_36 : decode cX0_copyFrom 36 = .ok (.iload_n 2, 1) := by decide +kernel
theorem dX0_copyFrom_37 : decode cX0_copyFrom 37 = .ok (.aaload, 1) := by decide +kernel
theorem dX0_copyFrom_38 : decode cX0_copyFrom 38 = .ok (.aload_n 1, 1) := by decide +kernel
theorem dX0_copyFrom_39 : decode cX0_copyFrom 39 = .ok (.getfield 23, 3) := by decide +kernel
theorem dX0_copyFrom_42 : decode cX0_copyFrom 42 = .ok (.iload_n 2, 1) := by decide +kernel
theorem dX0_copyFrom_43 : decode cX0_copyFrom 43 = .ok (.aaload, 1) := by decide +kernel
theorem dX0_copyFrom_44 : decode cX0_copyFrom 44 = .ok (.invokevirtual 55, 3) := by decide +kernel
theorem dX0_copyFrom_47 : decode cX0_copyFrom 47 = .ok (.iinc 2 1, 3) := by decide +kernel
theorem dX0_copyFrom_50 : decode cX0_copyFrom 50 = .ok (.goto (-24), 3) := by decide +kernel
theorem dX0_copyFrom_53 : decode cX0_copyFrom 53 = .ok (.iconst 0, 1) := by decide +kernel
theorem dX0_copyFrom_54 : decode cX0_copyFrom 54 = .ok (.istore_n 2, 1) := by decide +kernel
theorem dX0_copyFrom_55 : decode cX0_copyFrom 55 = .ok (.iload_n 2, 1) := by decide +kernel
theorem dX0_copyFrom_56 : decode cX0_copyFrom 56 = .ok (.bipush 8, 2) := by decide +kernel
theorem dX0_copyFrom_58 : decode cX0_copyFrom 58 = .ok (.if_icmp .ge 24, 3) := by decide +kernel
theorem dX0_copyFrom_61 : decode cX0_copyFrom 61 = .ok (.aload_n 0, 1) := by decide +kernel
theorem dX0_copyFrom_62 : decode cX0_copyFrom 62 = .ok (.getfield 30, 3) := by decide +kernel
theorem dX0_copyFrom_65 : decode cX0_copyFrom 65 = .ok (.iload_n 2, 1) := by decide +kernel
theorem dX0_copyFrom_66 : decode cX0_copyFrom 66 = .ok (.aaload, 1) := by decide +kernel
theorem dX0_copyFrom_67 : decode cX0_copyFrom 67 = .ok (.aload_n 1, 1) := by decide +kernel
theorem dX0_copyFrom_68 : decode cX0_copyFrom 68 = .ok (.getfield 30, 3) := by decide +kernel
theorem dX0_copyFrom_71 : decode cX0_copyFrom 71 = .ok (.iload_n 2, 1) := by decide +kernel
theorem dX0_copyFrom_72 : decode cX0_copyFrom 72 = .ok (.aaload, 1) := by decide +kernel
theorem dX0_copyFrom_73 : decode cX0_copyFrom 73 = .ok (.invokevirtual 59, 3) := by decide +kernel
theorem dX0_copyFrom_76 : decode cX0_copyFrom 76 = .ok (.iinc 2 1, 3) := by decide +kernel
theorem dX0_copyFrom_79 : decode cX0_copyFrom 79 = .ok (.goto (-24), 3) := by decide +kernel
theorem dX0_copyFrom_82 : decode cX0_copyFrom 82 = .ok (.aload_n 0, 1) := by decide +kernel
theorem dX0_copyFrom_83 : decode cX0_copyFrom 83 = .ok (.getfield 38, 3) := by decide +kernel
theorem dX0_copyFrom_86 : decode cX0_copyFrom 86 = .ok (.aload_n 1, 1) := by decide +kernel
theorem dX0_copyFrom_87 : decode cX0_copyFrom 87 = .ok (.getfield 38, 3) := by decide +kernel
theorem dX0_copyFrom_90 : decode cX0_copyFrom 90 = .ok (.invokevirtual 62, 3) := by decide +kernel
theorem dX0_copyFrom_93 : decode cX0_copyFrom 93 = .ok (.return_, 1) := by decide +kernel
theorem dX0_givenTimestamp_0 : decode cX0_givenTimestamp 0 = .ok (.aload_n 0, 1) := by decide +kernel
theorem dX0_givenTimestamp_1 : decode cX0_givenTimestamp 1 = .ok (.getfield 15, 3) := by decide +kernel
theorem dX0_givenTimestamp_4 : decode cX0_givenTimestamp 4 = .ok (.istore_n 1, 1) := by decide +kernel
theorem dX0_givenTimestamp_5 : decode cX0_givenTimestamp 5 = .ok (.aload_n 0, 1) := by decide +kernel
theorem dX0_givenTimestamp_6 : decode cX0_givenTimestamp 6 = .ok (.dup, 1) := by decide +kernel
theorem dX0_givenTimestamp_7 : decode cX0_givenTimestamp 7 = .ok (.getfield 15, 3) := by decide +kernel
theorem dX0_givenTimestamp_10 : decode cX0_givenTimestamp 10 = .ok (.iconst 1, 1) := by decide +kernel
theorem dX0_givenTimestamp_11 : decode cX0_givenTimestamp 11 = .ok (.iadd, 1) := by decide +kernel
theorem dX0_givenTimestamp_12 : decode cX0_givenTimestamp 12 = .ok (.putfield 15, 3) := by decide +kernel
theorem dX0_givenTimestamp_15 : decode cX0_givenTimestamp 15 = .ok (.iload_n 1, 1) := by decide +kernel
theorem dX0_givenTimestamp_16 : decode cX0_givenTimestamp 16 = .ok (.ireturn, 1) := by decide +kernel
theorem dX0_newTransaction_0 : decode cX0_newTransaction 0 = .ok (.aload_n 0, 1) := by decide +kernel
theorem dX0_newTransaction_1 : decode cX0_newTransaction 1 = .ok (.getfield 18, 3) := by decide +kernel
theorem dX0_newTransaction_4 : decode cX0_newTransaction 4 = .ok (.istore_n 2, 1) := by decide +kernel
theorem dX0_newTransaction_5 : decode cX0_newTransaction 5 = .ok (.aload_n 0, 1) := by decide +kernel
theorem dX0_newTransaction_6 : decode cX0_newTransaction 6 = .ok (.dup, 1) := by decide +kernel
theorem dX0_newTransaction_7 : decode cX0_newTransaction 7 = .ok (.getfield 18, 3) := by decide +kernel
theorem dX0_newTransaction_10 : decode cX0_newTransaction 10 = .ok (.iconst 1, 1) := by decide +kernel
theorem dX0_newTransaction_11 : decode cX0_newTransaction 11 = .ok (.iadd, 1) := by decide +kernel
theorem dX0_newTransaction_12 : decode cX0_newTransaction 12 = .ok (.putfield 18, 3) := by decide +kernel
theorem dX0_newTransaction_15 : decode cX0_newTransaction 15 = .ok (.aload_n 0, 1) := by decide +kernel
theorem dX0_newTransaction_16 : decode cX0_newTransaction 16 = .ok (.getfield 23, 3) := by decide +kernel
theorem dX0_newTransaction_19 : decode cX0_newTransaction 19 = .ok (.iload_n 2, 1) := by decide +kernel
theorem dX0_newTransaction_20 : decode cX0_newTransaction 20 = .ok (.aaload, 1) := by decide +kernel
theorem dX0_newTransaction_21 : decode cX0_newTransaction 21 = .ok (.iload_n 1, 1) := by decide +kernel
theorem dX0_newTransaction_22 : decode cX0_newTransaction 22 = .ok (.aload_n 0, 1) := by decide +kernel
theorem dX0_newTransaction_23 : decode cX0_newTransaction 23 = .ok (.invokevirtual 65, 3) := by decide +kernel
theorem dX0_newTransaction_26 : decode cX0_newTransaction 26 = .ok (.invokevirtual 69, 3) := by decide +kernel
theorem dX0_newTransaction_29 : decode cX0_newTransaction 29 = .ok (.aload_n 0, 1) := by decide +kernel
theorem dX0_newTransaction_30 : decode cX0_newTransaction 30 = .ok (.getfield 38, 3) := by decide +kernel
theorem dX0_newTransaction_33 : decode cX0_newTransaction 33 = .ok (.iconst 0, 1) := by decide +kernel
theorem dX0_newTransaction_34 : decode cX0_newTransaction 34 = .ok (.iload_n 2, 1) := by decide +kernel
theorem dX0_newTransaction_35 : decode cX0_newTransaction 35 = .ok (.iconst (-1), 1) := by decide +kernel
theorem dX0_newTransaction_36 : decode cX0_newTransaction 36 = .ok (.invokevirtual 73, 3) := by decide +kernel
theorem dX0_newTransaction_39 : decode cX0_newTransaction 39 = .ok (.iload_n 2, 1) := by decide +kernel
theorem dX0_newTransaction_40 : decode cX0_newTransaction 40 = .ok (.ireturn, 1) := by decide +kernel
theorem dX0_isUncommittedWriter_0 : decode cX0_isUncommittedWriter 0 = .ok (.iload_n 1, 1) := by decide +kernel
theorem dX0_isUncommittedWriter_1 : decode cX0_isUncommittedWriter 1 = .ok (.ifCond .lt 27, 3) := by decide +kernel
theorem dX0_isUncommittedWriter_4 : decode cX0_isUncommittedWriter 4 = .ok (.iload_n 1, 1) := by decide +kernel
theorem dX0_isUncommittedWriter_5 : decode cX0_isUncommittedWriter 5 = .ok (.aload_n 0, 1) := by decide +kernel
theorem dX0_isUncommittedWriter_6 : decode cX0_isUncommittedWriter 6 = .ok (.getfield 18, 3) := by decide +kernel
theorem dX0_isUncommittedWriter_9 : decode cX0_isUncommittedWriter 9 = .ok (.if_icmp .ge 19, 3) := by decide +kernel
theorem dX0_isUncommittedWriter_12 : decode cX0_isUncommittedWriter 12 = .ok (.aload_n 0, 1) := by decide +kernel
theorem dX0_isUncommittedWriter_13 : decode cX0_isUncommittedWriter 13 = .ok (.getfield 23, 3) := by decide +kernel
theorem dX0_isUncommittedWriter_16 : decode cX0_isUncommittedWriter 16 = .ok (.iload_n 1, 1) := by decide +kernel
theorem dX0_isUncommittedWriter_17 : decode cX0_isUncommittedWriter 17 = .ok (.aaload, 1) := by decide +kernel
theorem dX0_isUncommittedWriter_18 : decode cX0_isUncommittedWriter 18 = .ok (.invokevirtual 182, 3) := by decide +kernel
theorem dX0_isUncommittedWriter_21 : decode cX0_isUncommittedWriter 21 = .ok (.ifCond .eq 7, 3) := by decide +kernel
theorem dX0_isUncommittedWriter_24 : decode cX0_isUncommittedWriter 24 = .ok (.iconst 1, 1) := by decide +kernel
theorem dX0_isUncommittedWriter_25 : decode cX0_isUncommittedWriter 25 = .ok (.goto 4, 3) := by decide +kernel
theorem dX0_isUncommittedWriter_28 : decode cX0_isUncommittedWriter 28 = .ok (.iconst 0, 1) := by decide +kernel
theorem dX0_isUncommittedWriter_29 : decode cX0_isUncommittedWriter 29 = .ok (.ireturn, 1) := by decide +kernel
theorem dX0_readItem_0 : decode cX0_readItem 0 = .ok (.aload_n 0, 1) := by decide +kernel
theorem dX0_readItem_1 : decode cX0_readItem 1 = .ok (.getfield 23, 3) := by decide +kernel
theorem dX0_readItem_4 : decode cX0_readItem 4 = .ok (.iload_n 1, 1) := by decide +kernel
theorem dX0_readItem_5 : decode cX0_readItem 5 = .ok (.aaload, 1) := by decide +kernel
theorem dX0_readItem_6 : decode cX0_readItem 6 = .ok (.astore_n 3, 1) := by decide +kernel
theorem dX0_readItem_7 : decode cX0_readItem 7 = .ok (.aload_n 0, 1) := by decide +kernel
theorem dX0_readItem_8 : decode cX0_readItem 8 = .ok (.getfield 30, 3) := by decide +kernel
theorem dX0_readItem_11 : decode cX0_readItem 11 = .ok (.iload_n 2, 1) := by decide +kernel
theorem dX0_readItem_12 : decode cX0_readItem 12 = .ok (.aaload, 1) := by decide +kernel
theorem dX0_readItem_13 : decode cX0_readItem 13 = .ok (.astore 4, 2) := by decide +kernel
theorem dX0_readItem_15 : decode cX0_readItem 15 = .ok (.aload 4, 2) := by decide +kernel
theorem dX0_readItem_17 : decode cX0_readItem 17 = .ok (.aload_n 3, 1) := by decide +kernel
theorem dX0_readItem_18 : decode cX0_readItem 18 = .ok (.getfield 110, 3) := by decide +kernel
theorem dX0_readItem_21 : decode cX0_readItem 21 = .ok (.invokevirtual 113, 3) := by decide +kernel
theorem dX0_readItem_24 : decode cX0_readItem 24 = .ok (.istore 5, 2) := by decide +kernel
theorem dX0_readItem_26 : decode cX0_readItem 26 = .ok (.aload_n 0, 1) := by decide +kernel
theorem dX0_readItem_27 : decode cX0_readItem 27 = .ok (.getfield 9, 3) := by decide +kernel
theorem dX0_readItem_30 : decode cX0_readItem 30 = .ok (.iconst 2, 1) := by decide +kernel
theorem dX0_readItem_31 : decode cX0_readItem 31 = .ok (.if_icmp .eq 19, 3) := by decide +kernel
theorem dX0_readItem_34 : decode cX0_readItem 34 = .ok (.iload 5, 2) := by decide +kernel
theorem dX0_readItem_36 : decode cX0_readItem 36 = .ok (.aload 4, 2) := by decide +kernel
theorem dX0_readItem_38 : decode cX0_readItem 38 = .ok (.getfield 117, 3) := by decide +kernel
theorem dX0_readItem_41 : decode cX0_readItem 41 = .ok (.iconst 1, 1) := by decide +kernel
theorem dX0_readItem_42 : decode cX0_readItem 42 = .ok (.isub, 1) := by decide +kernel
theorem dX0_readItem_43 : decode cX0_readItem 43 = .ok (.if_icmp .eq 7, 3) := by decide +kernel
theorem dX0_readItem_46 : decode cX0_readItem 46 = .ok (.iconst 1, 1) := by decide +kernel
theorem dX0_readItem_47 : decode cX0_readItem 47 = .ok (.goto 4, 3) := by decide +kernel
theorem dX0_readItem_50 : decode cX0_readItem 50 = .ok (.iconst 0, 1) := by decide +kernel
theorem dX0_readItem_51 : decode cX0_readItem 51 = .ok (.istore 6, 2) := by decide +kernel
theorem dX0_readItem_53 : decode cX0_readItem 53 = .ok (.iload 5, 2) := by decide +kernel
theorem dX0_readItem_55 : decode cX0_readItem 55 = .ok (.ifCond .lt 8, 3) := by decide +kernel
theorem dX0_readItem_58 : decode cX0_readItem 58 = .ok (.iload 6, 2) := by decide +kernel
theorem dX0_readItem_60 : decode cX0_readItem 60 = .ok (.ifCond .eq 5, 3) := by decide +kernel
theorem dX0_readItem_63 : decode cX0_readItem 63 = .ok (.iconst (-1), 1) := by decide +kernel
theorem dX0_readItem_64 : decode cX0_readItem 64 = .ok (.ireturn, 1) := by decide +kernel
theorem dX0_readItem_65 : decode cX0_readItem 65 = .ok (.aload 4, 2) := by decide +kernel
theorem dX0_readItem_67 : decode cX0_readItem 67 = .ok (.iload 5, 2) := by decide +kernel
theorem dX0_readItem_69 : decode cX0_readItem 69 = .ok (.aload_n 3, 1) := by decide +kernel
theorem dX0_readItem_70 : decode cX0_readItem 70 = .ok (.getfield 110, 3) := by decide +kernel
theorem dX0_readItem_73 : decode cX0_readItem 73 = .ok (.invokevirtual 120, 3) := by decide +kernel
theorem dX0_readItem_76 : decode cX0_readItem 76 = .ok (.aload 4, 2) := by decide +kernel
theorem dX0_readItem_78 : decode cX0_readItem 78 = .ok (.getfield 123, 3) := by decide +kernel
theorem dX0_readItem_81 : decode cX0_readItem 81 = .ok (.iload 5, 2) := by decide +kernel
theorem dX0_readItem_83 : decode cX0_readItem 83 = .ok (.iaload, 1) := by decide +kernel
theorem dX0_readItem_84 : decode cX0_readItem 84 = .ok (.istore 7, 2) := by decide +kernel
theorem dX0_readItem_86 : decode cX0_readItem 86 = .ok (.iload 7, 2) := by decide +kernel
theorem dX0_readItem_88 : decode cX0_readItem 88 = .ok (.iload_n 1, 1) := by decide +kernel
theorem dX0_readItem_89 : decode cX0_readItem 89 = .ok (.if_icmp .eq 25, 3) := by decide +kernel
theorem dX0_readItem_92 : decode cX0_readItem 92 = .ok (.aload_n 0, 1) := by decide +kernel
theorem dX0_readItem_93 : decode cX0_readItem 93 = .ok (.iload 7, 2) := by decide +kernel
theorem dX0_readItem_95 : decode cX0_readItem 95 = .ok (.invokevirtual 126, 3) := by decide +kernel
theorem dX0_readItem_98 : decode cX0_readItem 98 = .ok (.ifCond .eq 16, 3) := by decide +kernel
theorem dX0_readItem_101 : decode cX0_readItem 101 = .ok (.aload_n 3, 1) := by decide +kernel
theorem dX0_readItem_102 : decode cX0_readItem 102 = .ok (.dup, 1) := by decide +kernel
theorem dX0_readItem_103 : decode cX0_readItem 103 = .ok (.getfield 130, 3) := by decide +kernel
theorem dX0_readItem_106 : decode cX0_readItem 106 = .ok (.iconst 1, 1) := by decide +kernel
theorem dX0_readItem_107 : decode cX0_readItem 107 = .ok (.iload 7, 2) := by decide +kernel
theorem dX0_readItem_109 : decode cX0_readItem 109 = .ok (.ishl, 1) := by decide +kernel
theorem dX0_readItem_110 : decode cX0_readItem 110 = .ok (.ior, 1) := by decide +kernel
theorem dX0_readItem_111 : decode cX0_readItem 111 = .ok (.putfield 130, 3) := by decide +kernel
theorem dX0_readItem_114 : decode cX0_readItem 114 = .ok (.aload_n 0, 1) := by decide +kernel
theorem dX0_readItem_115 : decode cX0_readItem 115 = .ok (.getfield 38, 3) := by decide +kernel
theorem dX0_readItem_118 : decode cX0_readItem 118 = .ok (.iconst 1, 1) := by decide +kernel
theorem dX0_readItem_119 : decode cX0_readItem 119 = .ok (.iload_n 1, 1) := by decide +kernel
theorem dX0_readItem_120 : decode cX0_readItem 120 = .ok (.iload_n 2, 1) := by decide +kernel
theorem dX0_readItem_121 : decode cX0_readItem 121 = .ok (.invokevirtual 73, 3) := by decide +kernel
theorem dX0_readItem_124 : decode cX0_readItem 124 = .ok (.iload 5, 2) := by decide +kernel
theorem dX0_readItem_126 : decode cX0_readItem 126 = .ok (.ireturn, 1) := by decide +kernel
theorem dX0_abortOne_0 : decode cX0_abortOne 0 = .ok (.iconst 0, 1) := by decide +kernel
theorem dX0_abortOne_1 : decode cX0_abortOne 1 = .ok (.istore 4, 2) := by decide +kernel
theorem dX0_abortOne_3 : decode cX0_abortOne 3 = .ok (.iload 4, 2) := by decide +kernel
theorem dX0_abortOne_5 : decode cX0_abortOne 5 = .ok (.bipush 8, 2) := by decide +kernel
theorem dX0_abortOne_7 : decode cX0_abortOne 7 = .ok (.if_icmp .ge 29, 3) := by decide +kernel
theorem dX0_abortOne_10 : decode cX0_abortOne 10 = .ok (.aload_n 0, 1) := by decide +kernel
theorem dX0_abortOne_11 : decode cX0_abortOne 11 = .ok (.getfield 30, 3) := by decide +kernel
theorem dX0_abortOne_14 : decode cX0_abortOne 14 = .ok (.iload 4, 2) := by decide +kernel
theorem dX0_abortOne_16 : decode cX0_abortOne 16 = .ok (.aaload, 1) := by decide +kernel
theorem dX0_abortOne_17 : decode cX0_abortOne 17 = .ok (.iload_n 1, 1) := by decide +kernel
theorem dX0_abortOne_18 : decode cX0_abortOne 18 = .ok (.aload_n 0, 1) := by decide +kernel
theorem dX0_abortOne_19 : decode cX0_abortOne 19 = .ok (.getfield 23, 3) := by decide +kernel
theorem dX0_abortOne_22 : decode cX0_abortOne 22 = .ok (.iload_n 1, 1) := by decide +kernel
theorem dX0_abortOne_23 : decode cX0_abortOne 23 = .ok (.aaload, 1) := by decide +kernel
theorem dX0_abortOne_24 : decode cX0_abortOne 24 = .ok (.getfield 110, 3) := by decide +kernel
theorem dX0_abortOne_27 : decode cX0_abortOne 27 = .ok (.invokevirtual 176, 3) := by decide +kernel
theorem dX0_abortOne_30 : decode cX0_abortOne 30 = .ok (.iinc 4 1, 3) := by decide +kernel
theorem dX0_abortOne_33 : decode cX0_abortOne 33 = .ok (.goto (-30), 3) := by decide +kernel
theorem dX0_abortOne_36 : decode cX0_abortOne 36 = .ok (.aload_n 0, 1) := by decide +kernel
theorem dX0_abortOne_37 : decode cX0_abortOne 37 = .ok (.getfield 23, 3) := by decide +kernel
theorem dX0_abortOne_40 : decode cX0_abortOne 40 = .ok (.iload_n 1, 1) := by decide +kernel
theorem dX0_abortOne_41 : decode cX0_abortOne 41 = .ok (.aaload, 1) := by decide +kernel
theorem dX0_abortOne_42 : decode cX0_abortOne 42 = .ok (.invokevirtual 179, 3) := by decide +kernel
theorem dX0_abortOne_45 : decode cX0_abortOne 45 = .ok (.aload_n 0, 1) := by decide +kernel
theorem dX0_abortOne_46 : decode cX0_abortOne 46 = .ok (.getfield 38, 3) := by decide +kernel
theorem dX0_abortOne_49 : decode cX0_abortOne 49 = .ok (.iload_n 2, 1) := by decide +kernel
theorem dX0_abortOne_50 : decode cX0_abortOne 50 = .ok (.iload_n 1, 1) := by decide +kernel
theorem dX0_abortOne_51 : decode cX0_abortOne 51 = .ok (.iload_n 3, 1) := by decide +kernel
theorem dX0_abortOne_52 : decode cX0_abortOne 52 = .ok (.invokevirtual 73, 3) := by decide +kernel
theorem dX0_abortOne_55 : decode cX0_abortOne 55 = .ok (.return_, 1) := by decide +kernel
theorem dX0_firstDependentOn_0 : decode cX0_firstDependentOn 0 = .ok (.iconst 0, 1) := by decide +kernel
theorem dX0_firstDependentOn_1 : decode cX0_firstDependentOn 1 = .ok (.istore_n 2, 1) := by decide +kernel
theorem dX0_firstDependentOn_2 : decode cX0_firstDependentOn 2 = .ok (.iload_n 2, 1) := by decide +kernel
theorem dX0_firstDependentOn_3 : decode cX0_firstDependentOn 3 = .ok (.aload_n 0, 1) := by decide +kernel
theorem dX0_firstDependentOn_4 : decode cX0_firstDependentOn 4 = .ok (.getfield 18, 3) := by decide +kernel
theorem dX0_firstDependentOn_7 : decode cX0_firstDependentOn 7 = .ok (.if_icmp .ge 39, 3) := by decide +kernel
theorem dX0_firstDependentOn_10 : decode cX0_firstDependentOn 10 = .ok (.aload_n 0, 1) := by decide +kernel
theorem dX0_firstDependentOn_11 : decode cX0_firstDependentOn 11 = .ok (.getfield 23, 3) := by decide +kernel
theorem dX0_firstDependentOn_14 : decode cX0_firstDependentOn 14 = .ok (.iload_n 2, 1) := by decide +kernel
theorem dX0_firstDependentOn_15 : decode cX0_firstDependentOn 15 = .ok (.aaload, 1) := by decide +kernel
theorem dX0_firstDependentOn_16 : decode cX0_firstDependentOn 16 = .ok (.invokevirtual 182, 3) := by decide +kernel
theorem dX0_firstDependentOn_19 : decode cX0_firstDependentOn 19 = .ok (.ifCond .eq 21, 3) := by decide +kernel
theorem dX0_firstDependentOn_22 : decode cX0_firstDependentOn 22 = .ok (.aload_n 0, 1) := by decide +kernel
theorem dX0_firstDependentOn_23 : decode cX0_firstDependentOn 23 = .ok (.getfield 23, 3) := by decide +kernel
theorem dX0_firstDependentOn_26 : decode cX0_firstDependentOn 26 = .ok (.iload_n 2, 1) := by decide +kernel
theorem dX0_firstDependentOn_27 : decode cX0_firstDependentOn 27 = .ok (.aaload, 1) := by decide +kernel
theorem dX0_firstDependentOn_28 : decode cX0_firstDependentOn 28 = .ok (.getfield 130, 3) := by decide +kernel
theorem dX0_firstDependentOn_31 : decode cX0_firstDependentOn 31 = .ok (.iconst 1, 1) := by decide +kernel
theorem dX0_firstDependentOn_32 : decode cX0_firstDependentOn 32 = .ok (.iload_n 1, 1) := by decide +kernel
theorem dX0_firstDependentOn_33 : decode cX0_firstDependentOn 33 = .ok (.ishl, 1) := by decide +kernel
theorem dX0_firstDependentOn_34 : decode cX0_firstDependentOn 34 = .ok (.iand, 1) := by decide +kernel
theorem dX0_firstDependentOn_35 : decode cX0_firstDependentOn 35 = .ok (.ifCond .eq 5, 3) := by decide +kernel
theorem dX0_firstDependentOn_38 : decode cX0_firstDependentOn 38 = .ok (.iload_n 2, 1) := by decide +kernel
theorem dX0_firstDependentOn_39 : decode cX0_firstDependentOn 39 = .ok (.ireturn, 1) := by decide +kernel
theorem dX0_firstDependentOn_40 : decode cX0_firstDependentOn 40 = .ok (.iinc 2 1, 3) := by decide +kernel
theorem dX0_firstDependentOn_43 : decode cX0_firstDependentOn 43 = .ok (.goto (-41), 3) := by decide +kernel
theorem dX0_firstDependentOn_46 : decode cX0_firstDependentOn 46 = .ok (.iconst (-1), 1) := by decide +kernel
theorem dX0_firstDependentOn_47 : decode cX0_firstDependentOn 47 = .ok (.ireturn, 1) := by decide +kernel
theorem dX0_abortWithDependents_0 : decode cX0_abortWithDependents 0 = .ok (.aload_n 0, 1) := by decide +kernel
theorem dX0_abortWithDependents_1 : decode cX0_abortWithDependents 1 = .ok (.iload_n 1, 1) := by decide +kernel
theorem dX0_abortWithDependents_2 : decode cX0_abortWithDependents 2 = .ok (.bipush 6, 2) := by decide +kernel
theorem dX0_abortWithDependents_4 : decode cX0_abortWithDependents 4 = .ok (.iload_n 2, 1) := by decide +kernel
theorem dX0_abortWithDependents_5 : decode cX0_abortWithDependents 5 = .ok (.invokevirtual 170, 3) := by decide +kernel
theorem dX0_abortWithDependents_8 : decode cX0_abortWithDependents 8 = .ok (.iconst 1, 1) := by decide +kernel
theorem dX0_abortWithDependents_9 : decode cX0_abortWithDependents 9 = .ok (.istore_n 3, 1) := by decide +kernel
theorem dX0_abortWithDependents_10 : decode cX0_abortWithDependents 10 = .ok (.iconst 1, 1) := by decide +kernel
theorem dX0_abortWithDependents_11 : decode cX0_abortWithDependents 11 = .ok (.istore 4, 2) := by decide +kernel
theorem dX0_abortWithDependents_13 : decode cX0_abortWithDependents 13 = .ok (.aload_n 0, 1) := by decide +kernel
theorem dX0_abortWithDependents_14 : decode cX0_abortWithDependents 14 = .ok (.getfield 46, 3) := by decide +kernel
theorem dX0_abortWithDependents_17 : decode cX0_abortWithDependents 17 = .ok (.iconst 0, 1) := by decide +kernel
theorem dX0_abortWithDependents_18 : decode cX0_abortWithDependents 18 = .ok (.iload_n 1, 1) := by decide +kernel
theorem dX0_abortWithDependents_19 : decode cX0_abortWithDependents 19 = .ok (.iastore, 1) := by decide +kernel
theorem dX0_abortWithDependents_20 : decode cX0_abortWithDependents 20 = .ok (.iconst 0, 1) := by decide +kernel
theorem dX0_abortWithDependents_21 : decode cX0_abortWithDependents 21 = .ok (.istore 5, 2) := by decide +kernel
theorem dX0_abortWithDependents_23 : decode cX0_abortWithDependents 23 = .ok (.iload 5, 2) := by decide +kernel
theorem dX0_abortWithDependents_25 : decode cX0_abortWithDependents 25 = .ok (.bipush 32, 2) := by decide +kernel
theorem dX0_abortWithDependents_27 : decode cX0_abortWithDependents 27 = .ok (.if_icmp .ge 71, 3) := by decide +kernel
theorem dX0_abortWithDependents_30 : decode cX0_abortWithDependents 30 = .ok (.iload 4, 2) := by decide +kernel
theorem dX0_abortWithDependents_32 : decode cX0_abortWithDependents 32 = .ok (.ifCond .le 66, 3) := by decide +kernel
theorem dX0_abortWithDependents_35 : decode cX0_abortWithDependents 35 = .ok (.aload_n 0, 1) := by decide +kernel
theorem dX0_abortWithDependents_36 : decode cX0_abortWithDependents 36 = .ok (.aload_n 0, 1) := by decide +kernel
theorem dX0_abortWithDependents_37 : decode cX0_abortWithDependents 37 = .ok (.getfield 46, 3) := by decide +kernel
theorem dX0_abortWithDependents_40 : decode cX0_abortWithDependents 40 = .ok (.iload 4, 2) := by decide +kernel
theorem dX0_abortWithDependents_42 : decode cX0_abortWithDependents 42 = .ok (.iconst 1, 1) := by decide +kernel
theorem dX0_abortWithDependents_43 : decode cX0_abortWithDependents 43 = .ok (.isub, 1) := by decide +kernel
theorem dX0_abortWithDependents_44 : decode cX0_abortWithDependents 44 = .ok (.iaload, 1) := by decide +kernel
theorem dX0_abortWithDependents_45 : decode cX0_abortWithDependents 45 = .ok (.invokevirtual 173, 3) := by decide +kernel
theorem dX0_abortWithDependents_48 : decode cX0_abortWithDependents 48 = .ok (.istore 6, 2) := by decide +kernel
theorem dX0_abortWithDependents_50 : decode cX0_abortWithDependents 50 = .ok (.iload 6, 2) := by decide +kernel
theorem dX0_abortWithDependents_52 : decode cX0_abortWithDependents 52 = .ok (.ifCond .lt 37, 3) := by decide +kernel
theorem dX0_abortWithDependents_55 : decode cX0_abortWithDependents 55 = .ok (.iload 4, 2) := by decide +kernel
theorem dX0_abortWithDependents_57 : decode cX0_abortWithDependents 57 = .ok (.bipush 16, 2) := by decide +kernel
theorem dX0_abortWithDependents_59 : decode cX0_abortWithDependents 59 = .ok (.if_icmp .ge 30, 3) := by decide +kernel
theorem dX0_abortWithDependents_62 : decode cX0_abortWithDependents 62 = .ok (.aload_n 0, 1) := by decide +kernel
theorem dX0_abortWithDependents_63 : decode cX0_abortWithDependents 63 = .ok (.iload 6, 2) := by decide +kernel
theorem dX0_abortWithDependents_65 : decode cX0_abortWithDependents 65 = .ok (.bipush 7, 2) := by decide +kernel
theorem dX0_abortWithDependents_67 : decode cX0_abortWithDependents 67 = .ok (.iconst (-1), 1) := by decide +kernel
theorem dX0_abortWithDependents_68 : decode cX0_abortWithDependents 68 = .ok (.invokevirtual 170, 3) := by decide +kernel
theorem dX0_abortWithDependents_71 : decode cX0_abortWithDependents 71 = .ok (.iinc 3 1, 3) := by decide +kernel
theorem dX0_abortWithDependents_74 : decode cX0_abortWithDependents 74 = .ok (.aload_n 0, 1) := by decide +kernel
theorem dX0_abortWithDependents_75 : decode cX0_abortWithDependents 75 = .ok (.getfield 46, 3) := by decide +kernel
theorem dX0_abortWithDependents_78 : decode cX0_abortWithDependents 78 = .ok (.iload 4, 2) := by decide +kernel
theorem dX0_abortWithDependents_80 : decode cX0_abortWithDependents 80 = .ok (.iload 6, 2) := by decide +kernel
theorem dX0_abortWithDependents_82 : decode cX0_abortWithDependents 82 = .ok (.iastore, 1) := by decide +kernel
theorem dX0_abortWithDependents_83 : decode cX0_abortWithDependents 83 = .ok (.iinc 4 1, 3) := by decide +kernel
theorem dX0_abortWithDependents_86 : decode cX0_abortWithDependents 86 = .ok (.goto 6, 3) := by decide +kernel
theorem dX0_abortWithDependents_89 : decode cX0_abortWithDependents 89 = .ok (.iinc 4 (-1), 3) := by decide +kernel
theorem dX0_abortWithDependents_92 : decode cX0_abortWithDependents 92 = .ok (.iinc 5 1, 3) := by decide +kernel
theorem dX0_abortWithDependents_95 : decode cX0_abortWithDependents 95 = .ok (.goto (-72), 3) := by decide +kernel
theorem dX0_abortWithDependents_98 : decode cX0_abortWithDependents 98 = .ok (.iload_n 3, 1) := by decide +kernel
theorem dX0_abortWithDependents_99 : decode cX0_abortWithDependents 99 = .ok (.ireturn, 1) := by decide +kernel
theorem dX0_isReadTooLate_0 : decode cX0_isReadTooLate 0 = .ok (.aload_n 0, 1) := by decide +kernel
theorem dX0_isReadTooLate_1 : decode cX0_isReadTooLate 1 = .ok (.getfield 9, 3) := by decide +kernel
theorem dX0_isReadTooLate_4 : decode cX0_isReadTooLate 4 = .ok (.iconst 2, 1) := by decide +kernel
theorem dX0_isReadTooLate_5 : decode cX0_isReadTooLate 5 = .ok (.if_icmp .eq 9, 3) := by decide +kernel
theorem dX0_isReadTooLate_8 : decode cX0_isReadTooLate 8 = .ok (.aload_n 1, 1) := by decide +kernel
theorem dX0_isReadTooLate_9 : decode cX0_isReadTooLate 9 = .ok (.iload_n 2, 1) := by decide +kernel
theorem dX0_isReadTooLate_10 : decode cX0_isReadTooLate 10 = .ok (.invokevirtual 140, 3) := by decide +kernel
theorem dX0_isReadTooLate_13 : decode cX0_isReadTooLate 13 = .ok (.ireturn, 1) := by decide +kernel
theorem dX0_isReadTooLate_14 : decode cX0_isReadTooLate 14 = .ok (.aload_n 1, 1) := by decide +kernel
theorem dX0_isReadTooLate_15 : decode cX0_isReadTooLate 15 = .ok (.iload_n 2, 1) := by decide +kernel
theorem dX0_isReadTooLate_16 : decode cX0_isReadTooLate 16 = .ok (.invokevirtual 113, 3) := by decide +kernel
theorem dX0_isReadTooLate_19 : decode cX0_isReadTooLate 19 = .ok (.istore_n 3, 1) := by decide +kernel
theorem dX0_isReadTooLate_20 : decode cX0_isReadTooLate 20 = .ok (.iload_n 3, 1) := by decide +kernel
theorem dX0_isReadTooLate_21 : decode cX0_isReadTooLate 21 = .ok (.ifCond .lt 17, 3) := by decide +kernel
theorem dX0_isReadTooLate_24 : decode cX0_isReadTooLate 24 = .ok (.aload_n 1, 1) := by decide +kernel
theorem dX0_isReadTooLate_25 : decode cX0_isReadTooLate 25 = .ok (.getfield 143, 3) := by decide +kernel
theorem dX0_isReadTooLate_28 : decode cX0_isReadTooLate 28 = .ok (.iload_n 3, 1) := by decide +kernel
theorem dX0_isReadTooLate_29 : decode cX0_isReadTooLate 29 = .ok (.iaload, 1) := by decide +kernel
theorem dX0_isReadTooLate_30 : decode cX0_isReadTooLate 30 = .ok (.iload_n 2, 1) := by decide +kernel
theorem dX0_isReadTooLate_31 : decode cX0_isReadTooLate 31 = .ok (.if_icmp .le 7, 3) := by decide +kernel
theorem dX0_isReadTooLate_34 : decode cX0_isReadTooLate 34 = .ok (.iconst 1, 1) := by decide +kernel
theorem dX0_isReadTooLate_35 : decode cX0_isReadTooLate 35 = .ok (.goto 4, 3) := by decide +kernel
theorem dX0_isReadTooLate_38 : decode cX0_isReadTooLate 38 = .ok (.iconst 0, 1) := by decide +kernel
theorem dX0_isReadTooLate_39 : decode cX0_isReadTooLate 39 = .ok (.ireturn, 1) := by decide +kernel
theorem dX0_writeItem_0 : decode cX0_writeItem 0 = .ok (.aload_n 0, 1) := by decide +kernel
theorem dX0_writeItem_1 : decode cX0_writeItem 1 = .ok (.getfield 23, 3) := by decide +kernel
theorem dX0_writeItem_4 : decode cX0_writeItem 4 = .ok (.iload_n 1, 1) := by decide +kernel
theorem dX0_writeItem_5 : decode cX0_writeItem 5 = .ok (.aaload, 1) := by decide +kernel
theorem dX0_writeItem_6 : decode cX0_writeItem 6 = .ok (.getfield 110, 3) := by decide +kernel
theorem dX0_writeItem_9 : decode cX0_writeItem 9 = .ok (.istore 4, 2) := by decide +kernel
theorem dX0_writeItem_11 : decode cX0_writeItem 11 = .ok (.aload_n 0, 1) := by decide +kernel
theorem dX0_writeItem_12 : decode cX0_writeItem 12 = .ok (.getfield 30, 3) := by decide +kernel
theorem dX0_writeItem_15 : decode cX0_writeItem 15 = .ok (.iload_n 2, 1) := by decide +kernel
theorem dX0_writeItem_16 : decode cX0_writeItem 16 = .ok (.aaload, 1) := by decide +kernel
theorem dX0_writeItem_17 : decode cX0_writeItem 17 = .ok (.astore 5, 2) := by decide +kernel
theorem dX0_writeItem_19 : decode cX0_writeItem 19 = .ok (.aload_n 0, 1) := by decide +kernel
theorem dX0_writeItem_20 : decode cX0_writeItem 20 = .ok (.getfield 9, 3) := by decide +kernel
theorem dX0_writeItem_23 : decode cX0_writeItem 23 = .ok (.iconst 2, 1) := by decide +kernel
theorem dX0_writeItem_24 : decode cX0_writeItem 24 = .ok (.if_icmp .eq 24, 3) := by decide +kernel
theorem dX0_writeItem_27 : decode cX0_writeItem 27 = .ok (.aload 5, 2) := by decide +kernel
theorem dX0_writeItem_29 : decode cX0_writeItem 29 = .ok (.iload 4, 2) := by decide +kernel
theorem dX0_writeItem_31 : decode cX0_writeItem 31 = .ok (.invokevirtual 113, 3) := by decide +kernel
theorem dX0_writeItem_34 : decode cX0_writeItem 34 = .ok (.aload 5, 2) := by decide +kernel
theorem dX0_writeItem_36 : decode cX0_writeItem 36 = .ok (.getfield 117, 3) := by decide +kernel
theorem dX0_writeItem_39 : decode cX0_writeItem 39 = .ok (.iconst 1, 1) := by decide +kernel
theorem dX0_writeItem_40 : decode cX0_writeItem 40 = .ok (.isub, 1) := by decide +kernel
theorem dX0_writeItem_41 : decode cX0_writeItem 41 = .ok (.if_icmp .eq 7, 3) := by decide +kernel
theorem dX0_writeItem_44 : decode cX0_writeItem 44 = .ok (.iconst 1, 1) := by decide +kernel
theorem dX0_writeItem_45 : decode cX0_writeItem 45 = .ok (.goto 4, 3) := by decide +kernel
theorem dX0_writeItem_48 : decode cX0_writeItem 48 = .ok (.iconst 0, 1) := by decide +kernel
theorem dX0_writeItem_49 : decode cX0_writeItem 49 = .ok (.istore 6, 2) := by decide +kernel
theorem dX0_writeItem_51 : decode cX0_writeItem 51 = .ok (.aload_n 0, 1) := by decide +kernel
theorem dX0_writeItem_52 : decode cX0_writeItem 52 = .ok (.aload 5, 2) := by decide +kernel
theorem dX0_writeItem_54 : decode cX0_writeItem 54 = .ok (.iload 4, 2) := by decide +kernel
theorem dX0_writeItem_56 : decode cX0_writeItem 56 = .ok (.invokevirtual 133, 3) := by decide +kernel
theorem dX0_writeItem_59 : decode cX0_writeItem 59 = .ok (.ifCond .ne 15, 3) := by decide +kernel
theorem dX0_writeItem_62 : decode cX0_writeItem 62 = .ok (.iload 6, 2) := by decide +kernel
theorem dX0_writeItem_64 : decode cX0_writeItem 64 = .ok (.ifCond .eq 12, 3) := by decide +kernel
theorem dX0_writeItem_67 : decode cX0_writeItem 67 = .ok (.aload_n 0, 1) := by decide +kernel
theorem dX0_writeItem_68 : decode cX0_writeItem 68 = .ok (.getfield 9, 3) := by decide +kernel
theorem dX0_writeItem_71 : decode cX0_writeItem 71 = .ok (.ifCond .ne 5, 3) := by decide +kernel
theorem dX0_writeItem_74 : decode cX0_writeItem 74 = .ok (.iconst (-1), 1) := by decide +kernel
theorem dX0_writeItem_75 : decode cX0_writeItem 75 = .ok (.ireturn, 1) := by decide +kernel
theorem dX0_writeItem_76 : decode cX0_writeItem 76 = .ok (.aload 5, 2) := by decide +kernel
theorem dX0_writeItem_78 : decode cX0_writeItem 78 = .ok (.iload 4, 2) := by decide +kernel
theorem dX0_writeItem_80 : decode cX0_writeItem 80 = .ok (.iload_n 1, 1) := by decide +kernel
theorem dX0_writeItem_81 : decode cX0_writeItem 81 = .ok (.iload_n 3, 1) := by decide +kernel
theorem dX0_writeItem_82 : decode cX0_writeItem 82 = .ok (.invokevirtual 137, 3) := by decide +kernel
theorem dX0_writeItem_85 : decode cX0_writeItem 85 = .ok (.aload_n 0, 1) := by decide +kernel
theorem dX0_writeItem_86 : decode cX0_writeItem 86 = .ok (.getfield 38, 3) := by decide +kernel
theorem dX0_writeItem_89 : decode cX0_writeItem 89 = .ok (.iload 6, 2) := by decide +kernel
theorem dX0_writeItem_91 : decode cX0_writeItem 91 = .ok (.ifCond .eq 7, 3) := by decide +kernel
theorem dX0_writeItem_94 : decode cX0_writeItem 94 = .ok (.iconst 3, 1) := by decide +kernel
theorem dX0_writeItem_95 : decode cX0_writeItem 95 = .ok (.goto 4, 3) := by decide +kernel
theorem dX0_writeItem_98 : decode cX0_writeItem 98 = .ok (.iconst 2, 1) := by decide +kernel
theorem dX0_writeItem_99 : decode cX0_writeItem 99 = .ok (.iload_n 1, 1) := by decide +kernel
theorem dX0_writeItem_100 : decode cX0_writeItem 100 = .ok (.iload_n 2, 1) := by decide +kernel
theorem dX0_writeItem_101 : decode cX0_writeItem 101 = .ok (.invokevirtual 73, 3) := by decide +kernel
theorem dX0_writeItem_104 : decode cX0_writeItem 104 = .ok (.iload 6, 2) := by decide +kernel
theorem dX0_writeItem_106 : decode cX0_writeItem 106 = .ok (.ifCond .eq 7, 3) := by decide +kernel
theorem dX0_writeItem_109 : decode cX0_writeItem 109 = .ok (.iconst 1, 1) := by decide +kernel
theorem dX0_writeItem_110 : decode cX0_writeItem 110 = .ok (.goto 4, 3) := by decide +kernel
theorem dX0_writeItem_113 : decode cX0_writeItem 113 = .ok (.iconst 0, 1) := by decide +kernel
theorem dX0_writeItem_114 : decode cX0_writeItem 114 = .ok (.ireturn, 1) := by decide +kernel
theorem dX0_perform_0 : decode cX0_perform 0 = .ok (.aload_n 0, 1) := by decide +kernel
theorem dX0_perform_1 : decode cX0_perform 1 = .ok (.getfield 23, 3) := by decide +kernel
theorem dX0_perform_4 : decode cX0_perform 4 = .ok (.iload_n 1, 1) := by decide +kernel
theorem dX0_perform_5 : decode cX0_perform 5 = .ok (.aaload, 1) := by decide +kernel
theorem dX0_perform_6 : decode cX0_perform 6 = .ok (.astore_n 3, 1) := by decide +kernel
theorem dX0_perform_7 : decode cX0_perform 7 = .ok (.aload_n 3, 1) := by decide +kernel
theorem dX0_perform_8 : decode cX0_perform 8 = .ok (.getfield 85, 3) := by decide +kernel
theorem dX0_perform_11 : decode cX0_perform 11 = .ok (.iload_n 2, 1) := by decide +kernel
theorem dX0_perform_12 : decode cX0_perform 12 = .ok (.iaload, 1) := by decide +kernel
theorem dX0_perform_13 : decode cX0_perform 13 = .ok (.istore 4, 2) := by decide +kernel
theorem dX0_perform_15 : decode cX0_perform 15 = .ok (.aload_n 3, 1) := by decide +kernel
theorem dX0_perform_16 : decode cX0_perform 16 = .ok (.getfield 88, 3) := by decide +kernel
theorem dX0_perform_19 : decode cX0_perform 19 = .ok (.iload_n 2, 1) := by decide +kernel
theorem dX0_perform_20 : decode cX0_perform 20 = .ok (.iaload, 1) := by decide +kernel
theorem dX0_perform_21 : decode cX0_perform 21 = .ok (.istore 5, 2) := by decide +kernel
theorem dX0_perform_23 : decode cX0_perform 23 = .ok (.iconst 0, 1) := by decide +kernel
theorem dX0_perform_24 : decode cX0_perform 24 = .ok (.istore 6, 2) := by decide +kernel
theorem dX0_perform_26 : decode cX0_perform 26 = .ok (.iconst 0, 1) := by decide +kernel
theorem dX0_perform_27 : decode cX0_perform 27 = .ok (.istore 7, 2) := by decide +kernel
theorem dX0_perform_29 : decode cX0_perform 29 = .ok (.iload 4, 2) := by decide +kernel
theorem dX0_perform_31 : decode cX0_perform 31 = .ok (.iconst 1, 1) := by decide +kernel
theorem dX0_perform_32 : decode cX0_perform 32 = .ok (.if_icmp .eq 47, 3) := by decide +kernel
theorem dX0_perform_35 : decode cX0_perform 35 = .ok (.aload_n 0, 1) := by decide +kernel
theorem dX0_perform_36 : decode cX0_perform 36 = .ok (.iload_n 1, 1) := by decide +kernel
theorem dX0_perform_37 : decode cX0_perform 37 = .ok (.iload 5, 2) := by decide +kernel
theorem dX0_perform_39 : decode cX0_perform 39 = .ok (.invokevirtual 91, 3) := by decide +kernel
theorem dX0_perform_42 : decode cX0_perform 42 = .ok (.istore 8, 2) := by decide +kernel
theorem dX0_perform_44 : decode cX0_perform 44 = .ok (.iload 8, 2) := by decide +kernel
theorem dX0_perform_46 : decode cX0_perform 46 = .ok (.ifCond .ge 14, 3) := by decide +kernel
theorem dX0_perform_49 : decode cX0_perform 49 = .ok (.aload_n 0, 1) := by decide +kernel
theorem dX0_perform_50 : decode cX0_perform 50 = .ok (.iload_n 1, 1) := by decide +kernel
theorem dX0_perform_51 : decode cX0_perform 51 = .ok (.iload 5, 2) := by decide +kernel
theorem dX0_perform_53 : decode cX0_perform 53 = .ok (.invokevirtual 94, 3) := by decide +kernel
theorem dX0_perform_56 : decode cX0_perform 56 = .ok (.pop, 1) := by decide +kernel
theorem dX0_perform_57 : decode cX0_perform 57 = .ok (.ldc 97, 2) := by decide +kernel
theorem dX0_perform_59 : decode cX0_perform 59 = .ok (.ireturn, 1) := by decide +kernel
theorem dX0_perform_60 : decode cX0_perform 60 = .ok (.aload_n 0, 1) := by decide +kernel
theorem dX0_perform_61 : decode cX0_perform 61 = .ok (.getfield 30, 3) := by decide +kernel
theorem dX0_perform_64 : decode cX0_perform 64 = .ok (.iload 5, 2) := by decide +kernel
theorem dX0_perform_66 : decode cX0_perform 66 = .ok (.aaload, 1) := by decide +kernel
theorem dX0_perform_67 : decode cX0_perform 67 = .ok (.getfield 98, 3) := by decide +kernel
theorem dX0_perform_70 : decode cX0_perform 70 = .ok (.iload 8, 2) := by decide +kernel
theorem dX0_perform_72 : decode cX0_perform 72 = .ok (.iaload, 1) := by decide +kernel
theorem dX0_perform_73 : decode cX0_perform 73 = .ok (.istore 6, 2) := by decide +kernel
theorem dX0_perform_75 : decode cX0_perform 75 = .ok (.iload 6, 2) := by decide +kernel
theorem dX0_perform_77 : decode cX0_perform 77 = .ok (.istore 7, 2) := by decide +kernel
theorem dX0_perform_79 : decode cX0_perform 79 = .ok (.iload 4, 2) := by decide +kernel
theorem dX0_perform_81 : decode cX0_perform 81 = .ok (.ifCond .eq 56, 3) := by decide +kernel
theorem dX0_perform_84 : decode cX0_perform 84 = .ok (.iload 6, 2) := by decide +kernel
theorem dX0_perform_86 : decode cX0_perform 86 = .ok (.aload_n 3, 1) := by decide +kernel
theorem dX0_perform_87 : decode cX0_perform 87 = .ok (.getfield 101, 3) := by decide +kernel
theorem dX0_perform_90 : decode cX0_perform 90 = .ok (.iload_n 2, 1) := by decide +kernel
theorem dX0_perform_91 : decode cX0_perform 91 = .ok (.iaload, 1) := by decide +kernel
theorem dX0_perform_92 : decode cX0_perform 92 = .ok (.iadd, 1) := by decide +kernel
theorem dX0_perform_93 : decode cX0_perform 93 = .ok (.istore 8, 2) := by decide +kernel
theorem dX0_perform_95 : decode cX0_perform 95 = .ok (.aload_n 0, 1) := by decide +kernel
theorem dX0_perform_96 : decode cX0_perform 96 = .ok (.iload_n 1, 1) := by decide +kernel
theorem dX0_perform_97 : decode cX0_perform 97 = .ok (.iload 5, 2) := by decide +kernel
theorem dX0_perform_99 : decode cX0_perform 99 = .ok (.iload 8, 2) := by decide +kernel
theorem dX0_perform_101 : decode cX0_perform 101 = .ok (.invokevirtual 104, 3) := by decide +kernel
theorem dX0_perform_104 : decode cX0_perform 104 = .ok (.istore 9, 2) := by decide +kernel
theorem dX0_perform_106 : decode cX0_perform 106 = .ok (.iload 9, 2) := by decide +kernel
theorem dX0_perform_108 : decode cX0_perform 108 = .ok (.ifCond .ge 14, 3) := by decide +kernel
theorem dX0_perform_111 : decode cX0_perform 111 = .ok (.aload_n 0, 1) := by decide +kernel
theorem dX0_perform_112 : decode cX0_perform 112 = .ok (.iload_n 1, 1) := by decide +kernel
theorem dX0_perform_113 : decode cX0_perform 113 = .ok (.iload 5, 2) := by decide +kernel
theorem dX0_perform_115 : decode cX0_perform 115 = .ok (.invokevirtual 94, 3) := by decide +kernel
theorem dX0_perform_118 : decode cX0_perform 118 = .ok (.pop, 1) := by decide +kernel
theorem dX0_perform_119 : decode cX0_perform 119 = .ok (.ldc 97, 2) := by decide +kernel
theorem dX0_perform_121 : decode cX0_perform 121 = .ok (.ireturn, 1) := by decide +kernel
theorem dX0_perform_122 : decode cX0_perform 122 = .ok (.iload 4, 2) := by decide +kernel
theorem dX0_perform_124 : decode cX0_perform 124 = .ok (.iconst 1, 1) := by decide +kernel
theorem dX0_perform_125 : decode cX0_perform 125 = .ok (.if_icmp .ne 8, 3) := by decide +kernel
theorem dX0_perform_128 : decode cX0_perform 128 = .ok (.iload 9, 2) := by decide +kernel
theorem dX0_perform_130 : decode cX0_perform 130 = .ok (.goto 5, 3) := by decide +kernel
theorem dX0_perform_133 : decode cX0_perform 133 = .ok (.iload 8, 2) := by decide +kernel
theorem dX0_perform_135 : decode cX0_perform 135 = .ok (.istore 7, 2) := by decide +kernel
theorem dX0_perform_137 : decode cX0_perform 137 = .ok (.aload_n 3, 1) := by decide +kernel
theorem dX0_perform_138 : decode cX0_perform 138 = .ok (.getfield 107, 3) := by decide +kernel
theorem dX0_perform_141 : decode cX0_perform 141 = .ok (.iload_n 2, 1) := by decide +kernel
theorem dX0_perform_142 : decode cX0_perform 142 = .ok (.iload 6, 2) := by decide +kernel
theorem dX0_perform_144 : decode cX0_perform 144 = .ok (.iastore, 1) := by decide +kernel
theorem dX0_perform_145 : decode cX0_perform 145 = .ok (.iload 7, 2) := by decide +kernel
theorem dX0_perform_147 : decode cX0_perform 147 = .ok (.ireturn, 1) := by decide +kernel
theorem dX0_ask_0 : decode cX0_ask 0 = .ok (.aload_n 0, 1) := by decide +kernel
theorem dX0_ask_1 : decode cX0_ask 1 = .ok (.getfield 23, 3) := by decide +kernel
theorem dX0_ask_4 : decode cX0_ask 4 = .ok (.iload_n 1, 1) := by decide +kernel
theorem dX0_ask_5 : decode cX0_ask 5 = .ok (.aaload, 1) := by decide +kernel
theorem dX0_ask_6 : decode cX0_ask 6 = .ok (.iload_n 2, 1) := by decide +kernel
theorem dX0_ask_7 : decode cX0_ask 7 = .ok (.iload_n 3, 1) := by decide +kernel
theorem dX0_ask_8 : decode cX0_ask 8 = .ok (.iload 4, 2) := by decide +kernel
theorem dX0_ask_10 : decode cX0_ask 10 = .ok (.invokevirtual 77, 3) := by decide +kernel
theorem dX0_ask_13 : decode cX0_ask 13 = .ok (.istore 5, 2) := by decide +kernel
theorem dX0_ask_15 : decode cX0_ask 15 = .ok (.aload_n 0, 1) := by decide +kernel
theorem dX0_ask_16 : decode cX0_ask 16 = .ok (.iload_n 1, 1) := by decide +kernel
theorem dX0_ask_17 : decode cX0_ask 17 = .ok (.iload 5, 2) := by decide +kernel
theorem dX0_ask_19 : decode cX0_ask 19 = .ok (.invokevirtual 81, 3) := by decide +kernel
theorem dX0_ask_22 : decode cX0_ask 22 = .ok (.ireturn, 1) := by decide +kernel
theorem dX0_finishCommit_0 : decode cX0_finishCommit 0 = .ok (.aload_n 0, 1) := by decide +kernel
theorem dX0_finishCommit_1 : decode cX0_finishCommit 1 = .ok (.getfield 23, 3) := by decide +kernel
theorem dX0_finishCommit_4 : decode cX0_finishCommit 4 = .ok (.iload_n 1, 1) := by decide +kernel
theorem dX0_finishCommit_5 : decode cX0_finishCommit 5 = .ok (.aaload, 1) := by decide +kernel
theorem dX0_finishCommit_6 : decode cX0_finishCommit 6 = .ok (.iconst 2, 1) := by decide +kernel
theorem dX0_finishCommit_7 : decode cX0_finishCommit 7 = .ok (.putfield 151, 3) := by decide +kernel
theorem dX0_finishCommit_10 : decode cX0_finishCommit 10 = .ok (.iconst 0, 1) := by decide +kernel
theorem dX0_finishCommit_11 : decode cX0_finishCommit 11 = .ok (.istore_n 2, 1) := by decide +kernel
theorem dX0_finishCommit_12 : decode cX0_finishCommit 12 = .ok (.iload_n 2, 1) := by decide +kernel
theorem dX0_finishCommit_13 : decode cX0_finishCommit 13 = .ok (.aload_n 0, 1) := by decide +kernel
theorem dX0_finishCommit_14 : decode cX0_finishCommit 14 = .ok (.getfield 18, 3) := by decide +kernel
theorem dX0_finishCommit_17 : decode cX0_finishCommit 17 = .ok (.if_icmp .ge 28, 3) := by decide +kernel
theorem dX0_finishCommit_20 : decode cX0_finishCommit 20 = .ok (.aload_n 0, 1) := by decide +kernel
theorem dX0_finishCommit_21 : decode cX0_finishCommit 21 = .ok (.getfield 23, 3) := by decide +kernel
theorem dX0_finishCommit_24 : decode cX0_finishCommit 24 = .ok (.iload_n 2, 1) := by decide +kernel
theorem dX0_finishCommit_25 : decode cX0_finishCommit 25 = .ok (.aaload, 1) := by decide +kernel
theorem dX0_finishCommit_26 : decode cX0_finishCommit 26 = .ok (.dup, 1) := by decide +kernel
theorem dX0_finishCommit_27 : decode cX0_finishCommit 27 = .ok (.getfield 130, 3) := by decide +kernel
theorem dX0_finishCommit_30 : decode cX0_finishCommit 30 = .ok (.iconst 1, 1) := by decide +kernel
theorem dX0_finishCommit_31 : decode cX0_finishCommit 31 = .ok (.iload_n 1, 1) := by decide +kernel
theorem dX0_finishCommit_32 : decode cX0_finishCommit 32 = .ok (.ishl, 1) := by decide +kernel
theorem dX0_finishCommit_33 : decode cX0_finishCommit 33 = .ok (.iconst (-1), 1) := by decide +kernel
theorem dX0_finishCommit_34 : decode cX0_finishCommit 34 = .ok (.ixor, 1) := by decide +kernel
theorem dX0_finishCommit_35 : decode cX0_finishCommit 35 = .ok (.iand, 1) := by decide +kernel
theorem dX0_finishCommit_36 : decode cX0_finishCommit 36 = .ok (.putfield 130, 3) := by decide +kernel
theorem dX0_finishCommit_39 : decode cX0_finishCommit 39 = .ok (.iinc 2 1, 3) := by decide +kernel
theorem dX0_finishCommit_42 : decode cX0_finishCommit 42 = .ok (.goto (-30), 3) := by decide +kernel
theorem dX0_finishCommit_45 : decode cX0_finishCommit 45 = .ok (.aload_n 0, 1) := by decide +kernel
theorem dX0_finishCommit_46 : decode cX0_finishCommit 46 = .ok (.getfield 38, 3) := by decide +kernel
theorem dX0_finishCommit_49 : decode cX0_finishCommit 49 = .ok (.iconst 5, 1) := by decide +kernel
theorem dX0_finishCommit_50 : decode cX0_finishCommit 50 = .ok (.iload_n 1, 1) := by decide +kernel
theorem dX0_finishCommit_51 : decode cX0_finishCommit 51 = .ok (.iconst (-1), 1) := by decide +kernel
theorem dX0_finishCommit_52 : decode cX0_finishCommit 52 = .ok (.invokevirtual 73, 3) := by decide +kernel
theorem dX0_finishCommit_55 : decode cX0_finishCommit 55 = .ok (.return_, 1) := by decide +kernel
theorem dX0_nextPendingToCommit_0 : decode cX0_nextPendingToCommit 0 = .ok (.iconst (-1), 1) := by decide +kernel
theorem dX0_nextPendingToCommit_1 : decode cX0_nextPendingToCommit 1 = .ok (.istore_n 1, 1) := by decide +kernel
theorem dX0_nextPendingToCommit_2 : decode cX0_nextPendingToCommit 2 = .ok (.iconst 0, 1) := by decide +kernel
theorem dX0_nextPendingToCommit_3 : decode cX0_nextPendingToCommit 3 = .ok (.istore_n 2, 1) := by decide +kernel
theorem dX0_nextPendingToCommit_4 : decode cX0_nextPendingToCommit 4 = .ok (.iload_n 2, 1) := by decide +kernel
theorem dX0_nextPendingToCommit_5 : decode cX0_nextPendingToCommit 5 = .ok (.aload_n 0, 1) := by decide +kernel
theorem dX0_nextPendingToCommit_6 : decode cX0_nextPendingToCommit 6 = .ok (.getfield 18, 3) := by decide +kernel
theorem dX0_nextPendingToCommit_9 : decode cX0_nextPendingToCommit 9 = .ok (.if_icmp .ge 53, 3) := by decide +kernel
theorem dX0_nextPendingToCommit_12 : decode cX0_nextPendingToCommit 12 = .ok (.aload_n 0, 1) := by decide +kernel
theorem dX0_nextPendingToCommit_13 : decode cX0_nextPendingToCommit 13 = .ok (.getfield 23, 3) := by decide +kernel
theorem dX0_nextPendingToCommit_16 : decode cX0_nextPendingToCommit 16 = .ok (.iload_n 2, 1) := by decide +kernel
theorem dX0_nextPendingToCommit_17 : decode cX0_nextPendingToCommit 17 = .ok (.aaload, 1) := by decide +kernel
theorem dX0_nextPendingToCommit_18 : decode cX0_nextPendingToCommit 18 = .ok (.astore_n 3, 1) := by decide +kernel
theorem dX0_nextPendingToCommit_19 : decode cX0_nextPendingToCommit 19 = .ok (.aload_n 3, 1) := by decide +kernel
theorem dX0_nextPendingToCommit_20 : decode cX0_nextPendingToCommit 20 = .ok (.getfield 151, 3) := by decide +kernel
theorem dX0_nextPendingToCommit_23 : decode cX0_nextPendingToCommit 23 = .ok (.iconst 1, 1) := by decide +kernel
theorem dX0_nextPendingToCommit_24 : decode cX0_nextPendingToCommit 24 = .ok (.if_icmp .ne 32, 3) := by decide +kernel
theorem dX0_nextPendingToCommit_27 : decode cX0_nextPendingToCommit 27 = .ok (.aload_n 3, 1) := by decide +kernel
theorem dX0_nextPendingToCommit_28 : decode cX0_nextPendingToCommit 28 = .ok (.getfield 130, 3) := by decide +kernel
theorem dX0_nextPendingToCommit_31 : decode cX0_nextPendingToCommit 31 = .ok (.ifCond .ne 25, 3) := by decide +kernel
theorem dX0_nextPendingToCommit_34 : decode cX0_nextPendingToCommit 34 = .ok (.iload_n 1, 1) := by decide +kernel
theorem dX0_nextPendingToCommit_35 : decode cX0_nextPendingToCommit 35 = .ok (.ifCond .lt 19, 3) := by decide +kernel
theorem dX0_nextPendingToCommit_38 : decode cX0_nextPendingToCommit 38 = .ok (.aload_n 3, 1) := by decide +kernel
theorem dX0_nextPendingToCommit_39 : decode cX0_nextPendingToCommit 39 = .ok (.getfield 110, 3) := by decide +kernel
theorem dX0_nextPendingToCommit_42 : decode cX0_nextPendingToCommit 42 = .ok (.aload_n 0, 1) := by decide +kernel
theorem dX0_nextPendingToCommit_43 : decode cX0_nextPendingToCommit 43 = .ok (.getfield 23, 3) := by decide +kernel
theorem dX0_nextPendingToCommit_46 : decode cX0_nextPendingToCommit 46 = .ok (.iload_n 1, 1) := by decide +kernel
theorem dX0_nextPendingToCommit_47 : decode cX0_nextPendingToCommit 47 = .ok (.aaload, 1) := by decide +kernel
theorem dX0_nextPendingToCommit_48 : decode cX0_nextPendingToCommit 48 = .ok (.getfield 110, 3) := by decide +kernel
theorem dX0_nextPendingToCommit_51 : decode cX0_nextPendingToCommit 51 = .ok (.if_icmp .ge 5, 3) := by decide +kernel
theorem dX0_nextPendingToCommit_54 : decode cX0_nextPendingToCommit 54 = .ok (.iload_n 2, 1) := by decide +kernel
theorem dX0_nextPendingToCommit_55 : decode cX0_nextPendingToCommit 55 = .ok (.istore_n 1, 1) := by decide +kernel
theorem dX0_nextPendingToCommit_56 : decode cX0_nextPendingToCommit 56 = .ok (.iinc 2 1, 3) := by decide +kernel
theorem dX0_nextPendingToCommit_59 : decode cX0_nextPendingToCommit 59 = .ok (.goto (-55), 3) := by decide +kernel
theorem dX0_nextPendingToCommit_62 : decode cX0_nextPendingToCommit 62 = .ok (.iload_n 1, 1) := by decide +kernel
theorem dX0_nextPendingToCommit_63 : decode cX0_nextPendingToCommit 63 = .ok (.ireturn, 1) := by decide +kernel
theorem dX0_askCommit_0 : decode cX0_askCommit 0 = .ok (.aload_n 0, 1) := by decide +kernel
theorem dX0_askCommit_1 : decode cX0_askCommit 1 = .ok (.getfield 23, 3) := by decide +kernel
theorem dX0_askCommit_4 : decode cX0_askCommit 4 = .ok (.iload_n 1, 1) := by decide +kernel
theorem dX0_askCommit_5 : decode cX0_askCommit 5 = .ok (.aaload, 1) := by decide +kernel
theorem dX0_askCommit_6 : decode cX0_askCommit 6 = .ok (.getfield 130, 3) := by decide +kernel
theorem dX0_askCommit_9 : decode cX0_askCommit 9 = .ok (.ifCond .eq 25, 3) := by decide +kernel
theorem dX0_askCommit_12 : decode cX0_askCommit 12 = .ok (.aload_n 0, 1) := by decide +kernel
theorem dX0_askCommit_13 : decode cX0_askCommit 13 = .ok (.getfield 23, 3) := by decide +kernel
theorem dX0_askCommit_16 : decode cX0_askCommit 16 = .ok (.iload_n 1, 1) := by decide +kernel
theorem dX0_askCommit_17 : decode cX0_askCommit 17 = .ok (.aaload, 1) := by decide +kernel
theorem dX0_askCommit_18 : decode cX0_askCommit 18 = .ok (.iconst 1, 1) := by decide +kernel
theorem dX0_askCommit_19 : decode cX0_askCommit 19 = .ok (.putfield 151, 3) := by decide +kernel
theorem dX0_askCommit_22 : decode cX0_askCommit 22 = .ok (.aload_n 0, 1) := by decide +kernel
theorem dX0_askCommit_23 : decode cX0_askCommit 23 = .ok (.getfield 38, 3) := by decide +kernel
theorem dX0_askCommit_26 : decode cX0_askCommit 26 = .ok (.iconst 4, 1) := by decide +kernel
theorem dX0_askCommit_27 : decode cX0_askCommit 27 = .ok (.iload_n 1, 1) := by decide +kernel
theorem dX0_askCommit_28 : decode cX0_askCommit 28 = .ok (.iconst (-1), 1) := by decide +kernel
theorem dX0_askCommit_29 : decode cX0_askCommit 29 = .ok (.invokevirtual 73, 3) := by decide +kernel
theorem dX0_askCommit_32 : decode cX0_askCommit 32 = .ok (.iconst 0, 1) := by decide +kernel
theorem dX0_askCommit_33 : decode cX0_askCommit 33 = .ok (.ireturn, 1) := by decide +kernel
theorem dX0_askCommit_34 : decode cX0_askCommit 34 = .ok (.iload_n 1, 1) := by decide +kernel
theorem dX0_askCommit_35 : decode cX0_askCommit 35 = .ok (.istore_n 2, 1) := by decide +kernel
theorem dX0_askCommit_36 : decode cX0_askCommit 36 = .ok (.iconst 0, 1) := by decide +kernel
theorem dX0_askCommit_37 : decode cX0_askCommit 37 = .ok (.istore_n 3, 1) := by decide +kernel
theorem dX0_askCommit_38 : decode cX0_askCommit 38 = .ok (.iload_n 3, 1) := by decide +kernel
theorem dX0_askCommit_39 : decode cX0_askCommit 39 = .ok (.bipush 16, 2) := by decide +kernel
theorem dX0_askCommit_41 : decode cX0_askCommit 41 = .ok (.if_icmp .ge 23, 3) := by decide +kernel
theorem dX0_askCommit_44 : decode cX0_askCommit 44 = .ok (.iload_n 2, 1) := by decide +kernel
theorem dX0_askCommit_45 : decode cX0_askCommit 45 = .ok (.ifCond .lt 19, 3) := by decide +kernel
theorem dX0_askCommit_48 : decode cX0_askCommit 48 = .ok (.aload_n 0, 1) := by decide +kernel
theorem dX0_askCommit_49 : decode cX0_askCommit 49 = .ok (.iload_n 2, 1) := by decide +kernel
theorem dX0_askCommit_50 : decode cX0_askCommit 50 = .ok (.invokevirtual 163, 3) := by decide +kernel
theorem dX0_askCommit_53 : decode cX0_askCommit 53 = .ok (.aload_n 0, 1) := by decide +kernel
theorem dX0_askCommit_54 : decode cX0_askCommit 54 = .ok (.invokevirtual 167, 3) := by decide +kernel
theorem dX0_askCommit_57 : decode cX0_askCommit 57 = .ok (.istore_n 2, 1) := by decide +kernel
theorem dX0_askCommit_58 : decode cX0_askCommit 58 = .ok (.iinc 3 1, 3) := by decide +kernel
theorem dX0_askCommit_61 : decode cX0_askCommit 61 = .ok (.goto (-23), 3) := by decide +kernel
theorem dX0_askCommit_64 : decode cX0_askCommit 64 = .ok (.iconst 1, 1) := by decide +kernel
theorem dX0_askCommit_65 : decode cX0_askCommit 65 = .ok (.ireturn, 1) := by decide +kernel
theorem dX0_execute_0 : decode cX0_execute 0 = .ok (.aload_n 0, 1) := by decide +kernel
theorem dX0_execute_1 : decode cX0_execute 1 = .ok (.getfield 23, 3) := by decide +kernel
theorem dX0_execute_4 : decode cX0_execute 4 = .ok (.iload_n 1, 1) := by decide +kernel
theorem dX0_execute_5 : decode cX0_execute 5 = .ok (.aaload, 1) := by decide +kernel
theorem dX0_execute_6 : decode cX0_execute 6 = .ok (.astore_n 3, 1) := by decide +kernel
theorem dX0_execute_7 : decode cX0_execute 7 = .ok (.iconst 0, 1) := by decide +kernel
theorem dX0_execute_8 : decode cX0_execute 8 = .ok (.istore 4, 2) := by decide +kernel
theorem dX0_execute_10 : decode cX0_execute 10 = .ok (.iload 4, 2) := by decide +kernel
theorem dX0_execute_12 : decode cX0_execute 12 = .ok (.aload_n 2, 1) := by decide +kernel
theorem dX0_execute_13 : decode cX0_execute 13 = .ok (.getfield 146, 3) := by decide +kernel
theorem dX0_execute_16 : decode cX0_execute 16 = .ok (.if_icmp .ge 51, 3) := by decide +kernel
theorem dX0_execute_19 : decode cX0_execute 19 = .ok (.aload_n 3, 1) := by decide +kernel
theorem dX0_execute_20 : decode cX0_execute 20 = .ok (.getfield 151, 3) := by decide +kernel
theorem dX0_execute_23 : decode cX0_execute 23 = .ok (.ifCond .ne 44, 3) := by decide +kernel
theorem dX0_execute_26 : decode cX0_execute 26 = .ok (.aload_n 3, 1) := by decide +kernel
theorem dX0_execute_27 : decode cX0_execute 27 = .ok (.aload_n 2, 1) := by decide +kernel
theorem dX0_execute_28 : decode cX0_execute 28 = .ok (.getfield 154, 3) := by decide +kernel
theorem dX0_execute_31 : decode cX0_execute 31 = .ok (.iload 4, 2) := by decide +kernel
theorem dX0_execute_33 : decode cX0_execute 33 = .ok (.iaload, 1) := by decide +kernel
theorem dX0_execute_34 : decode cX0_execute 34 = .ok (.aload_n 2, 1) := by decide +kernel
theorem dX0_execute_35 : decode cX0_execute 35 = .ok (.getfield 155, 3) := by decide +kernel
theorem dX0_execute_38 : decode cX0_execute 38 = .ok (.iload 4, 2) := by decide +kernel
theorem dX0_execute_40 : decode cX0_execute 40 = .ok (.iaload, 1) := by decide +kernel
theorem dX0_execute_41 : decode cX0_execute 41 = .ok (.aload_n 2, 1) := by decide +kernel
theorem dX0_execute_42 : decode cX0_execute 42 = .ok (.getfield 156, 3) := by decide +kernel
theorem dX0_execute_45 : decode cX0_execute 45 = .ok (.iload 4, 2) := by decide +kernel
theorem dX0_execute_47 : decode cX0_execute 47 = .ok (.iaload, 1) := by decide +kernel
theorem dX0_execute_48 : decode cX0_execute 48 = .ok (.invokevirtual 77, 3) := by decide +kernel
theorem dX0_execute_51 : decode cX0_execute 51 = .ok (.istore 5, 2) := by decide +kernel
theorem dX0_execute_53 : decode cX0_execute 53 = .ok (.aload_n 0, 1) := by decide +kernel
theorem dX0_execute_54 : decode cX0_execute 54 = .ok (.iload_n 1, 1) := by decide +kernel
theorem dX0_execute_55 : decode cX0_execute 55 = .ok (.iload 5, 2) := by decide +kernel
theorem dX0_execute_57 : decode cX0_execute 57 = .ok (.invokevirtual 81, 3) := by decide +kernel
theorem dX0_execute_60 : decode cX0_execute 60 = .ok (.pop, 1) := by decide +kernel
theorem dX0_execute_61 : decode cX0_execute 61 = .ok (.iinc 4 1, 3) := by decide +kernel
theorem dX0_execute_64 : decode cX0_execute 64 = .ok (.goto (-54), 3) := by decide +kernel
theorem dX0_execute_67 : decode cX0_execute 67 = .ok (.aload_n 3, 1) := by decide +kernel
theorem dX0_execute_68 : decode cX0_execute 68 = .ok (.getfield 151, 3) := by decide +kernel
theorem dX0_execute_71 : decode cX0_execute 71 = .ok (.ifCond .ne 35, 3) := by decide +kernel
theorem dX0_execute_74 : decode cX0_execute 74 = .ok (.aload_n 2, 1) := by decide +kernel
theorem dX0_execute_75 : decode cX0_execute 75 = .ok (.getfield 157, 3) := by decide +kernel
theorem dX0_execute_78 : decode cX0_execute 78 = .ok (.iconst 1, 1) := by decide +kernel
theorem dX0_execute_79 : decode cX0_execute 79 = .ok (.if_icmp .ne 12, 3) := by decide +kernel
theorem dX0_execute_82 : decode cX0_execute 82 = .ok (.aload_n 0, 1) := by decide +kernel
theorem dX0_execute_83 : decode cX0_execute 83 = .ok (.iload_n 1, 1) := by decide +kernel
theorem dX0_execute_84 : decode cX0_execute 84 = .ok (.invokevirtual 160, 3) := by decide +kernel
theorem dX0_execute_87 : decode cX0_execute 87 = .ok (.pop, 1) := by decide +kernel
theorem dX0_execute_88 : decode cX0_execute 88 = .ok (.goto 18, 3) := by decide +kernel
theorem dX0_execute_91 : decode cX0_execute 91 = .ok (.aload_n 2, 1) := by decide +kernel
theorem dX0_execute_92 : decode cX0_execute 92 = .ok (.getfield 157, 3) := by decide +kernel
theorem dX0_execute_95 : decode cX0_execute 95 = .ok (.iconst 2, 1) := by decide +kernel
theorem dX0_execute_96 : decode cX0_execute 96 = .ok (.if_icmp .ne 10, 3) := by decide +kernel
theorem dX0_execute_99 : decode cX0_execute 99 = .ok (.aload_n 0, 1) := by decide +kernel
theorem dX0_execute_100 : decode cX0_execute 100 = .ok (.iload_n 1, 1) := by decide +kernel
theorem dX0_execute_101 : decode cX0_execute 101 = .ok (.iconst (-1), 1) := by decide +kernel
theorem dX0_execute_102 : decode cX0_execute 102 = .ok (.invokevirtual 94, 3) := by decide +kernel
theorem dX0_execute_105 : decode cX0_execute 105 = .ok (.pop, 1) := by decide +kernel
theorem dX0_execute_106 : decode cX0_execute 106 = .ok (.iload 4, 2) := by decide +kernel
theorem dX0_execute_108 : decode cX0_execute 108 = .ok (.ireturn, 1) := by decide +kernel
theorem dX0_nextToRestart_0 : decode cX0_nextToRestart 0 = .ok (.iconst (-1), 1) := by decide +kernel
theorem dX0_nextToRestart_1 : decode cX0_nextToRestart 1 = .ok (.istore_n 1, 1) := by decide +kernel
theorem dX0_nextToRestart_2 : decode cX0_nextToRestart 2 = .ok (.iconst 0, 1) := by decide +kernel
theorem dX0_nextToRestart_3 : decode cX0_nextToRestart 3 = .ok (.istore_n 2, 1) := by decide +kernel
theorem dX0_nextToRestart_4 : decode cX0_nextToRestart 4 = .ok (.iload_n 2, 1) := by decide +kernel
theorem dX0_nextToRestart_5 : decode cX0_nextToRestart 5 = .ok (.aload_n 0, 1) := by decide +kernel
theorem dX0_nextToRestart_6 : decode cX0_nextToRestart 6 = .ok (.getfield 18, 3) := by decide +kernel
theorem dX0_nextToRestart_9 : decode cX0_nextToRestart 9 = .ok (.if_icmp .ge 46, 3) := by decide +kernel
theorem dX0_nextToRestart_12 : decode cX0_nextToRestart 12 = .ok (.aload_n 0, 1) := by decide +kernel
theorem dX0_nextToRestart_13 : decode cX0_nextToRestart 13 = .ok (.getfield 23, 3) := by decide +kernel
theorem dX0_nextToRestart_16 : decode cX0_nextToRestart 16 = .ok (.iload_n 2, 1) := by decide +kernel
theorem dX0_nextToRestart_17 : decode cX0_nextToRestart 17 = .ok (.aaload, 1) := by decide +kernel
theorem dX0_nextToRestart_18 : decode cX0_nextToRestart 18 = .ok (.getfield 151, 3) := by decide +kernel
theorem dX0_nextToRestart_21 : decode cX0_nextToRestart 21 = .ok (.iconst 3, 1) := by decide +kernel
theorem dX0_nextToRestart_22 : decode cX0_nextToRestart 22 = .ok (.if_icmp .ne 27, 3) := by decide +kernel
theorem dX0_nextToRestart_25 : decode cX0_nextToRestart 25 = .ok (.iload_n 1, 1) := by decide +kernel
theorem dX0_nextToRestart_26 : decode cX0_nextToRestart 26 = .ok (.ifCond .lt 21, 3) := by decide +kernel
theorem dX0_nextToRestart_29 : decode cX0_nextToRestart 29 = .ok (.aload_n 0, 1) := by decide +kernel
theorem dX0_nextToRestart_30 : decode cX0_nextToRestart 30 = .ok (.getfield 23, 3) := by decide +kernel
theorem dX0_nextToRestart_33 : decode cX0_nextToRestart 33 = .ok (.iload_n 2, 1) := by decide +kernel
theorem dX0_nextToRestart_34 : decode cX0_nextToRestart 34 = .ok (.aaload, 1) := by decide +kernel
theorem dX0_nextToRestart_35 : decode cX0_nextToRestart 35 = .ok (.aload_n 0, 1) := by decide +kernel
theorem dX0_nextToRestart_36 : decode cX0_nextToRestart 36 = .ok (.getfield 23, 3) := by decide +kernel
theorem dX0_nextToRestart_39 : decode cX0_nextToRestart 39 = .ok (.iload_n 1, 1) := by decide +kernel
theorem dX0_nextToRestart_40 : decode cX0_nextToRestart 40 = .ok (.aaload, 1) := by decide +kernel
theorem dX0_nextToRestart_41 : decode cX0_nextToRestart 41 = .ok (.invokevirtual 186, 3) := by decide +kernel
theorem dX0_nextToRestart_44 : decode cX0_nextToRestart 44 = .ok (.ifCond .eq 5, 3) := by decide +kernel
theorem dX0_nextToRestart_47 : decode cX0_nextToRestart 47 = .ok (.iload_n 2, 1) := by decide +kernel
theorem dX0_nextToRestart_48 : decode cX0_nextToRestart 48 = .ok (.istore_n 1, 1) := by decide +kernel
theorem dX0_nextToRestart_49 : decode cX0_nextToRestart 49 = .ok (.iinc 2 1, 3) := by decide +kernel
theorem dX0_nextToRestart_52 : decode cX0_nextToRestart 52 = .ok (.goto (-48), 3) := by decide +kernel
theorem dX0_nextToRestart_55 : decode cX0_nextToRestart 55 = .ok (.iload_n 1, 1) := by decide +kernel
theorem dX0_nextToRestart_56 : decode cX0_nextToRestart 56 = .ok (.ireturn, 1) := by decide +kernel
theorem dX0_restartTransaction_0 : decode cX0_restartTransaction 0 = .ok (.aload_n 0, 1) := by decide +kernel
theorem dX0_restartTransaction_1 : decode cX0_restartTransaction 1 = .ok (.getfield 23, 3) := by decide +kernel
theorem dX0_restartTransaction_4 : decode cX0_restartTransaction 4 = .ok (.iload_n 1, 1) := by decide +kernel
theorem dX0_restartTransaction_5 : decode cX0_restartTransaction 5 = .ok (.aaload, 1) := by decide +kernel
theorem dX0_restartTransaction_6 : decode cX0_restartTransaction 6 = .ok (.astore_n 2, 1) := by decide +kernel
theorem dX0_restartTransaction_7 : decode cX0_restartTransaction 7 = .ok (.aload_n 2, 1) := by decide +kernel
theorem dX0_restartTransaction_8 : decode cX0_restartTransaction 8 = .ok (.aload_n 0, 1) := by decide +kernel
theorem dX0_restartTransaction_9 : decode cX0_restartTransaction 9 = .ok (.invokevirtual 65, 3) := by decide +kernel
theorem dX0_restartTransaction_12 : decode cX0_restartTransaction 12 = .ok (.putfield 110, 3) := by decide +kernel
theorem dX0_restartTransaction_15 : decode cX0_restartTransaction 15 = .ok (.aload_n 2, 1) := by decide +kernel
theorem dX0_restartTransaction_16 : decode cX0_restartTransaction 16 = .ok (.iconst 0, 1) := by decide +kernel
