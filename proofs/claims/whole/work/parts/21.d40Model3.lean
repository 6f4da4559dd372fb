theorem dX7_valueAt_5 : decode cX7_valueAt 5 = .ok (.iload_n 1, 1) := by decide +kernel
theorem dX7_valueAt_6 : decode cX7_valueAt 6 = .ok (.invokestatic 177, 3) := by decide +kernel
theorem dX7_valueAt_9 : decode cX7_valueAt 9 = .ok (.ifCond .ne 9, 3) := by decide +kernel
theorem dX7_valueAt_12 : decode cX7_valueAt 12 = .ok (.aload_n 0, 1) := by decide +kernel
theorem dX7_valueAt_13 : decode cX7_valueAt 13 = .ok (.iconst 1, 1) := by decide +kernel
theorem dX7_valueAt_14 : decode cX7_valueAt 14 = .ok (.invokevirtual 99, 3) := by decide +kernel
theorem dX7_valueAt_17 : decode cX7_valueAt 17 = .ok (.ireturn, 1) := by decide +kernel
theorem dX7_valueAt_18 : decode cX7_valueAt 18 = .ok (.aload_n 0, 1) := by decide +kernel
theorem dX7_valueAt_19 : decode cX7_valueAt 19 = .ok (.iload_n 1, 1) := by decide +kernel
theorem dX7_valueAt_20 : decode cX7_valueAt 20 = .ok (.iload_n 2, 1) := by decide +kernel
theorem dX7_valueAt_21 : decode cX7_valueAt 21 = .ok (.invokevirtual 235, 3) := by decide +kernel
theorem dX7_valueAt_24 : decode cX7_valueAt 24 = .ok (.istore_n 3, 1) := by decide +kernel
theorem dX7_valueAt_25 : decode cX7_valueAt 25 = .ok (.iload_n 3, 1) := by decide +kernel
theorem dX7_valueAt_26 : decode cX7_valueAt 26 = .ok (.iconst (-1), 1) := by decide +kernel
theorem dX7_valueAt_27 : decode cX7_valueAt 27 = .ok (.if_icmp .ne 11, 3) := by decide +kernel
theorem dX7_valueAt_30 : decode cX7_valueAt 30 = .ok (.aload_n 0, 1) := by decide +kernel
theorem dX7_valueAt_31 : decode cX7_valueAt 31 = .ok (.iconst 2, 1) := by decide +kernel
theorem dX7_valueAt_32 : decode cX7_valueAt 32 = .ok (.invokevirtual 99, 3) := by decide +kernel
theorem dX7_valueAt_35 : decode cX7_valueAt 35 = .ok (.goto 15, 3) := by decide +kernel
theorem dX7_valueAt_38 : decode cX7_valueAt 38 = .ok (.aload_n 0, 1) := by decide +kernel
theorem dX7_valueAt_39 : decode cX7_valueAt 39 = .ok (.getfield 46, 3) := by decide +kernel
theorem dX7_valueAt_42 : decode cX7_valueAt 42 = .ok (.iload_n 1, 1) := by decide +kernel
theorem dX7_valueAt_43 : decode cX7_valueAt 43 = .ok (.iload_n 3, 1) := by decide +kernel
theorem dX7_valueAt_44 : decode cX7_valueAt 44 = .ok (.invokestatic 91, 3) := by decide +kernel
theorem dX7_valueAt_47 : decode cX7_valueAt 47 = .ok (.iconst 2, 1) := by decide +kernel
theorem dX7_valueAt_48 : decode cX7_valueAt 48 = .ok (.iadd, 1) := by decide +kernel
theorem dX7_valueAt_49 : decode cX7_valueAt 49 = .ok (.iaload, 1) := by decide +kernel
theorem dX7_valueAt_50 : decode cX7_valueAt 50 = .ok (.ireturn, 1) := by decide +kernel
theorem dX7_horizonNow_0 : decode cX7_horizonNow 0 = .ok (.aload_n 0, 1) := by decide +kernel
theorem dX7_horizonNow_1 : decode cX7_horizonNow 1 = .ok (.getfield 18, 3) := by decide +kernel
theorem dX7_horizonNow_4 : decode cX7_horizonNow 4 = .ok (.istore_n 1, 1) := by decide +kernel
theorem dX7_horizonNow_5 : decode cX7_horizonNow 5 = .ok (.iconst 0, 1) := by decide +kernel
theorem dX7_horizonNow_6 : decode cX7_horizonNow 6 = .ok (.istore_n 2, 1) := by decide +kernel
theorem dX7_horizonNow_7 : decode cX7_horizonNow 7 = .ok (.iload_n 2, 1) := by decide +kernel
theorem dX7_horizonNow_8 : decode cX7_horizonNow 8 = .ok (.aload_n 0, 1) := by decide +kernel
theorem dX7_horizonNow_9 : decode cX7_horizonNow 9 = .ok (.getfield 103, 3) := by decide +kernel
theorem dX7_horizonNow_12 : decode cX7_horizonNow 12 = .ok (.if_icmp .ge 32, 3) := by decide +kernel
theorem dX7_horizonNow_15 : decode cX7_horizonNow 15 = .ok (.aload_n 0, 1) := by decide +kernel
theorem dX7_horizonNow_16 : decode cX7_horizonNow 16 = .ok (.iload_n 2, 1) := by decide +kernel
theorem dX7_horizonNow_17 : decode cX7_horizonNow 17 = .ok (.invokevirtual 117, 3) := by decide +kernel
theorem dX7_horizonNow_20 : decode cX7_horizonNow 20 = .ok (.ifCond .eq 16, 3) := by decide +kernel
theorem dX7_horizonNow_23 : decode cX7_horizonNow 23 = .ok (.iload_n 1, 1) := by decide +kernel
theorem dX7_horizonNow_24 : decode cX7_horizonNow 24 = .ok (.aload_n 0, 1) := by decide +kernel
theorem dX7_horizonNow_25 : decode cX7_horizonNow 25 = .ok (.getfield 25, 3) := by decide +kernel
theorem dX7_horizonNow_28 : decode cX7_horizonNow 28 = .ok (.iload_n 2, 1) := by decide +kernel
theorem dX7_horizonNow_29 : decode cX7_horizonNow 29 = .ok (.iaload, 1) := by decide +kernel
theorem dX7_horizonNow_30 : decode cX7_horizonNow 30 = .ok (.invokestatic 238, 3) := by decide +kernel
theorem dX7_horizonNow_33 : decode cX7_horizonNow 33 = .ok (.goto 4, 3) := by decide +kernel
theorem dX7_horizonNow_36 : decode cX7_horizonNow 36 = .ok (.iload_n 1, 1) := by decide +kernel
theorem dX7_horizonNow_37 : decode cX7_horizonNow 37 = .ok (.istore_n 1, 1) := by decide +kernel
theorem dX7_horizonNow_38 : decode cX7_horizonNow 38 = .ok (.iinc 2 1, 3) := by decide +kernel
theorem dX7_horizonNow_41 : decode cX7_horizonNow 41 = .ok (.goto (-34), 3) := by decide +kernel
theorem dX7_horizonNow_44 : decode cX7_horizonNow 44 = .ok (.iload_n 1, 1) := by decide +kernel
theorem dX7_horizonNow_45 : decode cX7_horizonNow 45 = .ok (.ireturn, 1) := by decide +kernel
theorem dX7_horizon_0 : decode cX7_horizon 0 = .ok (.aload_n 0, 1) := by decide +kernel
theorem dX7_horizon_1 : decode cX7_horizon 1 = .ok (.iconst 0, 1) := by decide +kernel
theorem dX7_horizon_2 : decode cX7_horizon 2 = .ok (.putfield 3, 3) := by decide +kernel
theorem dX7_horizon_5 : decode cX7_horizon 5 = .ok (.aload_n 0, 1) := by decide +kernel
theorem dX7_horizon_6 : decode cX7_horizon 6 = .ok (.invokevirtual 241, 3) := by decide +kernel
theorem dX7_horizon_9 : decode cX7_horizon 9 = .ok (.ireturn, 1) := by decide +kernel
theorem dX7_collect_0 : decode cX7_collect 0 = .ok (.aload_n 0, 1) := by decide +kernel
theorem dX7_collect_1 : decode cX7_collect 1 = .ok (.iconst 0, 1) := by decide +kernel
theorem dX7_collect_2 : decode cX7_collect 2 = .ok (.putfield 3, 3) := by decide +kernel
theorem dX7_collect_5 : decode cX7_collect 5 = .ok (.aload_n 0, 1) := by decide +kernel
theorem dX7_collect_6 : decode cX7_collect 6 = .ok (.invokevirtual 241, 3) := by decide +kernel
theorem dX7_collect_9 : decode cX7_collect 9 = .ok (.istore_n 1, 1) := by decide +kernel
theorem dX7_collect_10 : decode cX7_collect 10 = .ok (.iconst 0, 1) := by decide +kernel
theorem dX7_collect_11 : decode cX7_collect 11 = .ok (.istore_n 2, 1) := by decide +kernel
theorem dX7_collect_12 : decode cX7_collect 12 = .ok (.iconst 0, 1) := by decide +kernel
theorem dX7_collect_13 : decode cX7_collect 13 = .ok (.istore_n 3, 1) := by decide +kernel
theorem dX7_collect_14 : decode cX7_collect 14 = .ok (.iload_n 3, 1) := by decide +kernel
theorem dX7_collect_15 : decode cX7_collect 15 = .ok (.bipush 8, 2) := by decide +kernel
theorem dX7_collect_17 : decode cX7_collect 17 = .ok (.if_icmp .ge 110, 3) := by decide +kernel
theorem dX7_collect_20 : decode cX7_collect 20 = .ok (.iconst 0, 1) := by decide +kernel
theorem dX7_collect_21 : decode cX7_collect 21 = .ok (.aload_n 0, 1) := by decide +kernel
theorem dX7_collect_22 : decode cX7_collect 22 = .ok (.iload_n 3, 1) := by decide +kernel
theorem dX7_collect_23 : decode cX7_collect 23 = .ok (.iload_n 1, 1) := by decide +kernel
theorem dX7_collect_24 : decode cX7_collect 24 = .ok (.invokevirtual 235, 3) := by decide +kernel
theorem dX7_collect_27 : decode cX7_collect 27 = .ok (.invokestatic 146, 3) := by decide +kernel
theorem dX7_collect_30 : decode cX7_collect 30 = .ok (.istore 4, 2) := by decide +kernel
theorem dX7_collect_32 : decode cX7_collect 32 = .ok (.iload 4, 2) := by decide +kernel
theorem dX7_collect_34 : decode cX7_collect 34 = .ok (.istore 5, 2) := by decide +kernel
theorem dX7_collect_36 : decode cX7_collect 36 = .ok (.iload 5, 2) := by decide +kernel
theorem dX7_collect_38 : decode cX7_collect 38 = .ok (.aload_n 0, 1) := by decide +kernel
theorem dX7_collect_39 : decode cX7_collect 39 = .ok (.getfield 43, 3) := by decide +kernel
theorem dX7_collect_42 : decode cX7_collect 42 = .ok (.iload_n 3, 1) := by decide +kernel
theorem dX7_collect_43 : decode cX7_collect 43 = .ok (.iaload, 1) := by decide +kernel
theorem dX7_collect_44 : decode cX7_collect 44 = .ok (.if_icmp .ge 61, 3) := by decide +kernel
theorem dX7_collect_47 : decode cX7_collect 47 = .ok (.iload_n 3, 1) := by decide +kernel
theorem dX7_collect_48 : decode cX7_collect 48 = .ok (.iload 5, 2) := by decide +kernel
theorem dX7_collect_50 : decode cX7_collect 50 = .ok (.invokestatic 91, 3) := by decide +kernel
theorem dX7_collect_53 : decode cX7_collect 53 = .ok (.istore 6, 2) := by decide +kernel
theorem dX7_collect_55 : decode cX7_collect 55 = .ok (.aload_n 0, 1) := by decide +kernel
theorem dX7_collect_56 : decode cX7_collect 56 = .ok (.iload_n 3, 1) := by decide +kernel
theorem dX7_collect_57 : decode cX7_collect 57 = .ok (.iload 5, 2) := by decide +kernel
theorem dX7_collect_59 : decode cX7_collect 59 = .ok (.iload 4, 2) := by decide +kernel
theorem dX7_collect_61 : decode cX7_collect 61 = .ok (.isub, 1) := by decide +kernel
theorem dX7_collect_62 : decode cX7_collect 62 = .ok (.aload_n 0, 1) := by decide +kernel
theorem dX7_collect_63 : decode cX7_collect 63 = .ok (.getfield 46, 3) := by decide +kernel
theorem dX7_collect_66 : decode cX7_collect 66 = .ok (.iload 6, 2) := by decide +kernel
theorem dX7_collect_68 : decode cX7_collect 68 = .ok (.iaload, 1) := by decide +kernel
theorem dX7_collect_69 : decode cX7_collect 69 = .ok (.aload_n 0, 1) := by decide +kernel
theorem dX7_collect_70 : decode cX7_collect 70 = .ok (.getfield 46, 3) := by decide +kernel
theorem dX7_collect_73 : decode cX7_collect 73 = .ok (.iload 6, 2) := by decide +kernel
theorem dX7_collect_75 : decode cX7_collect 75 = .ok (.iconst 1, 1) := by decide +kernel
theorem dX7_collect_76 : decode cX7_collect 76 = .ok (.iadd, 1) := by decide +kernel
theorem dX7_collect_77 : decode cX7_collect 77 = .ok (.iaload, 1) := by decide +kernel
theorem dX7_collect_78 : decode cX7_collect 78 = .ok (.aload_n 0, 1) := by decide +kernel
theorem dX7_collect_79 : decode cX7_collect 79 = .ok (.getfield 46, 3) := by decide +kernel
theorem dX7_collect_82 : decode cX7_collect 82 = .ok (.iload 6, 2) := by decide +kernel
theorem dX7_collect_84 : decode cX7_collect 84 = .ok (.iconst 2, 1) := by decide +kernel
theorem dX7_collect_85 : decode cX7_collect 85 = .ok (.iadd, 1) := by decide +kernel
theorem dX7_collect_86 : decode cX7_collect 86 = .ok (.iaload, 1) := by decide +kernel
theorem dX7_collect_87 : decode cX7_collect 87 = .ok (.aload_n 0, 1) := by decide +kernel
theorem dX7_collect_88 : decode cX7_collect 88 = .ok (.getfield 46, 3) := by decide +kernel
theorem dX7_collect_91 : decode cX7_collect 91 = .ok (.iload 6, 2) := by decide +kernel
theorem dX7_collect_93 : decode cX7_collect 93 = .ok (.iconst 3, 1) := by decide +kernel
theorem dX7_collect_94 : decode cX7_collect 94 = .ok (.iadd, 1) := by decide +kernel
theorem dX7_collect_95 : decode cX7_collect 95 = .ok (.iaload, 1) := by decide +kernel
theorem dX7_collect_96 : decode cX7_collect 96 = .ok (.invokevirtual 87, 3) := by decide +kernel
theorem dX7_collect_99 : decode cX7_collect 99 = .ok (.iinc 5 1, 3) := by decide +kernel
theorem dX7_collect_102 : decode cX7_collect 102 = .ok (.goto (-66), 3) := by decide +kernel
theorem dX7_collect_105 : decode cX7_collect 105 = .ok (.aload_n 0, 1) := by decide +kernel
theorem dX7_collect_106 : decode cX7_collect 106 = .ok (.getfield 43, 3) := by decide +kernel
theorem dX7_collect_109 : decode cX7_collect 109 = .ok (.iload_n 3, 1) := by decide +kernel
theorem dX7_collect_110 : decode cX7_collect 110 = .ok (.dup2, 1) := by decide +kernel
theorem dX7_collect_111 : decode cX7_collect 111 = .ok (.iaload, 1) := by decide +kernel
theorem dX7_collect_112 : decode cX7_collect 112 = .ok (.iload 4, 2) := by decide +kernel
theorem dX7_collect_114 : decode cX7_collect 114 = .ok (.isub, 1) := by decide +kernel
theorem dX7_collect_115 : decode cX7_collect 115 = .ok (.iastore, 1) := by decide +kernel
theorem dX7_collect_116 : decode cX7_collect 116 = .ok (.iload_n 2, 1) := by decide +kernel
theorem dX7_collect_117 : decode cX7_collect 117 = .ok (.iload 4, 2) := by decide +kernel
theorem dX7_collect_119 : decode cX7_collect 119 = .ok (.iadd, 1) := by decide +kernel
theorem dX7_collect_120 : decode cX7_collect 120 = .ok (.istore_n 2, 1) := by decide +kernel
theorem dX7_collect_121 : decode cX7_collect 121 = .ok (.iinc 3 1, 3) := by decide +kernel
theorem dX7_collect_124 : decode cX7_collect 124 = .ok (.goto (-110), 3) := by decide +kernel
theorem dX7_collect_127 : decode cX7_collect 127 = .ok (.iload_n 2, 1) := by decide +kernel
theorem dX7_collect_128 : decode cX7_collect 128 = .ok (.ireturn, 1) := by decide +kernel
theorem dX7_nextCommitted_0 : decode cX7_nextCommitted 0 = .ok (.iconst (-1), 1) := by decide +kernel
theorem dX7_nextCommitted_1 : decode cX7_nextCommitted 1 = .ok (.istore_n 2, 1) := by decide +kernel
theorem dX7_nextCommitted_2 : decode cX7_nextCommitted 2 = .ok (.iconst 0, 1) := by decide +kernel
theorem dX7_nextCommitted_3 : decode cX7_nextCommitted 3 = .ok (.istore_n 3, 1) := by decide +kernel
theorem dX7_nextCommitted_4 : decode cX7_nextCommitted 4 = .ok (.iload_n 3, 1) := by decide +kernel
theorem dX7_nextCommitted_5 : decode cX7_nextCommitted 5 = .ok (.aload_n 0, 1) := by decide +kernel
theorem dX7_nextCommitted_6 : decode cX7_nextCommitted 6 = .ok (.getfield 103, 3) := by decide +kernel
theorem dX7_nextCommitted_9 : decode cX7_nextCommitted 9 = .ok (.if_icmp .ge 67, 3) := by decide +kernel
theorem dX7_nextCommitted_12 : decode cX7_nextCommitted 12 = .ok (.aload_n 0, 1) := by decide +kernel
theorem dX7_nextCommitted_13 : decode cX7_nextCommitted 13 = .ok (.getfield 21, 3) := by decide +kernel
theorem dX7_nextCommitted_16 : decode cX7_nextCommitted 16 = .ok (.iload_n 3, 1) := by decide +kernel
theorem dX7_nextCommitted_17 : decode cX7_nextCommitted 17 = .ok (.iaload, 1) := by decide +kernel
theorem dX7_nextCommitted_18 : decode cX7_nextCommitted 18 = .ok (.iconst 2, 1) := by decide +kernel
theorem dX7_nextCommitted_19 : decode cX7_nextCommitted 19 = .ok (.if_icmp .ne 17, 3) := by decide +kernel
theorem dX7_nextCommitted_22 : decode cX7_nextCommitted 22 = .ok (.aload_n 0, 1) := by decide +kernel
theorem dX7_nextCommitted_23 : decode cX7_nextCommitted 23 = .ok (.getfield 25, 3) := by decide +kernel
theorem dX7_nextCommitted_26 : decode cX7_nextCommitted 26 = .ok (.iload_n 3, 1) := by decide +kernel
theorem dX7_nextCommitted_27 : decode cX7_nextCommitted 27 = .ok (.iaload, 1) := by decide +kernel
theorem dX7_nextCommitted_28 : decode cX7_nextCommitted 28 = .ok (.iload_n 1, 1) := by decide +kernel
theorem dX7_nextCommitted_29 : decode cX7_nextCommitted 29 = .ok (.if_icmp .le 7, 3) := by decide +kernel
theorem dX7_nextCommitted_32 : decode cX7_nextCommitted 32 = .ok (.iconst 1, 1) := by decide +kernel
theorem dX7_nextCommitted_33 : decode cX7_nextCommitted 33 = .ok (.goto 4, 3) := by decide +kernel
theorem dX7_nextCommitted_36 : decode cX7_nextCommitted 36 = .ok (.iconst 0, 1) := by decide +kernel
theorem dX7_nextCommitted_37 : decode cX7_nextCommitted 37 = .ok (.istore 4, 2) := by decide +kernel
theorem dX7_nextCommitted_39 : decode cX7_nextCommitted 39 = .ok (.iload 4, 2) := by decide +kernel
theorem dX7_nextCommitted_41 : decode cX7_nextCommitted 41 = .ok (.ifCond .eq 27, 3) := by decide +kernel
theorem dX7_nextCommitted_44 : decode cX7_nextCommitted 44 = .ok (.iload_n 2, 1) := by decide +kernel
theorem dX7_nextCommitted_45 : decode cX7_nextCommitted 45 = .ok (.iconst (-1), 1) := by decide +kernel
theorem dX7_nextCommitted_46 : decode cX7_nextCommitted 46 = .ok (.if_icmp .eq 18, 3) := by decide +kernel
theorem dX7_nextCommitted_49 : decode cX7_nextCommitted 49 = .ok (.aload_n 0, 1) := by decide +kernel
theorem dX7_nextCommitted_50 : decode cX7_nextCommitted 50 = .ok (.getfield 25, 3) := by decide +kernel
theorem dX7_nextCommitted_53 : decode cX7_nextCommitted 53 = .ok (.iload_n 3, 1) := by decide +kernel
theorem dX7_nextCommitted_54 : decode cX7_nextCommitted 54 = .ok (.iaload, 1) := by decide +kernel
theorem dX7_nextCommitted_55 : decode cX7_nextCommitted 55 = .ok (.aload_n 0, 1) := by decide +kernel
theorem dX7_nextCommitted_56 : decode cX7_nextCommitted 56 = .ok (.getfield 25, 3) := by decide +kernel
theorem dX7_nextCommitted_59 : decode cX7_nextCommitted 59 = .ok (.iload_n 2, 1) := by decide +kernel
theorem dX7_nextCommitted_60 : decode cX7_nextCommitted 60 = .ok (.iaload, 1) := by decide +kernel
theorem dX7_nextCommitted_61 : decode cX7_nextCommitted 61 = .ok (.if_icmp .ge 7, 3) := by decide +kernel
theorem dX7_nextCommitted_64 : decode cX7_nextCommitted 64 = .ok (.iload_n 3, 1) := by decide +kernel
theorem dX7_nextCommitted_65 : decode cX7_nextCommitted 65 = .ok (.goto 4, 3) := by decide +kernel
theorem dX7_nextCommitted_68 : decode cX7_nextCommitted 68 = .ok (.iload_n 2, 1) := by decide +kernel
theorem dX7_nextCommitted_69 : decode cX7_nextCommitted 69 = .ok (.istore_n 2, 1) := by decide +kernel
theorem dX7_nextCommitted_70 : decode cX7_nextCommitted 70 = .ok (.iinc 3 1, 3) := by decide +kernel
theorem dX7_nextCommitted_73 : decode cX7_nextCommitted 73 = .ok (.goto (-69), 3) := by decide +kernel
theorem dX7_nextCommitted_76 : decode cX7_nextCommitted 76 = .ok (.iload_n 2, 1) := by decide +kernel
theorem dX7_nextCommitted_77 : decode cX7_nextCommitted 77 = .ok (.ireturn, 1) := by decide +kernel
theorem dX7_check_0 : decode cX7_check 0 = .ok (.aload_n 0, 1) := by decide +kernel
theorem dX7_check_1 : decode cX7_check 1 = .ok (.iconst 0, 1) := by decide +kernel
theorem dX7_check_2 : decode cX7_check 2 = .ok (.putfield 3, 3) := by decide +kernel
theorem dX7_check_5 : decode cX7_check 5 = .ok (.iconst 0, 1) := by decide +kernel
theorem dX7_check_6 : decode cX7_check 6 = .ok (.istore_n 1, 1) := by decide +kernel
theorem dX7_check_7 : decode cX7_check 7 = .ok (.iload_n 1, 1) := by decide +kernel
theorem dX7_check_8 : decode cX7_check 8 = .ok (.bipush 8, 2) := by decide +kernel
theorem dX7_check_10 : decode cX7_check 10 = .ok (.if_icmp .ge 16, 3) := by decide +kernel
theorem dX7_check_13 : decode cX7_check 13 = .ok (.aload_n 0, 1) := by decide +kernel
theorem dX7_check_14 : decode cX7_check 14 = .ok (.getfield 65, 3) := by decide +kernel
theorem dX7_check_17 : decode cX7_check 17 = .ok (.iload_n 1, 1) := by decide +kernel
theorem dX7_check_18 : decode cX7_check 18 = .ok (.iconst 0, 1) := by decide +kernel
theorem dX7_check_19 : decode cX7_check 19 = .ok (.iastore, 1) := by decide +kernel
theorem dX7_check_20 : decode cX7_check 20 = .ok (.iinc 1 1, 3) := by decide +kernel
theorem dX7_check_23 : decode cX7_check 23 = .ok (.goto (-16), 3) := by decide +kernel
theorem dX7_check_26 : decode cX7_check 26 = .ok (.iconst 0, 1) := by decide +kernel
theorem dX7_check_27 : decode cX7_check 27 = .ok (.istore_n 1, 1) := by decide +kernel
theorem dX7_check_28 : decode cX7_check 28 = .ok (.aload_n 0, 1) := by decide +kernel
theorem dX7_check_29 : decode cX7_check 29 = .ok (.iconst 0, 1) := by decide +kernel
theorem dX7_check_30 : decode cX7_check 30 = .ok (.invokevirtual 244, 3) := by decide +kernel
theorem dX7_check_33 : decode cX7_check 33 = .ok (.istore_n 2, 1) := by decide +kernel
theorem dX7_check_34 : decode cX7_check 34 = .ok (.iload_n 2, 1) := by decide +kernel
theorem dX7_check_35 : decode cX7_check 35 = .ok (.iconst (-1), 1) := by decide +kernel
theorem dX7_check_36 : decode cX7_check 36 = .ok (.if_icmp .eq 159, 3) := by decide +kernel
theorem dX7_check_39 : decode cX7_check 39 = .ok (.iconst 0, 1) := by decide +kernel
theorem dX7_check_40 : decode cX7_check 40 = .ok (.istore_n 3, 1) := by decide +kernel
theorem dX7_check_41 : decode cX7_check 41 = .ok (.iload_n 3, 1) := by decide +kernel
theorem dX7_check_42 : decode cX7_check 42 = .ok (.aload_n 0, 1) := by decide +kernel
theorem dX7_check_43 : decode cX7_check 43 = .ok (.getfield 34, 3) := by decide +kernel
theorem dX7_check_46 : decode cX7_check 46 = .ok (.iload_n 2, 1) := by decide +kernel
theorem dX7_check_47 : decode cX7_check 47 = .ok (.iaload, 1) := by decide +kernel
theorem dX7_check_48 : decode cX7_check 48 = .ok (.if_icmp .ge 133, 3) := by decide +kernel
theorem dX7_check_51 : decode cX7_check 51 = .ok (.aload_n 0, 1) := by decide +kernel
theorem dX7_check_52 : decode cX7_check 52 = .ok (.iload_n 2, 1) := by decide +kernel
theorem dX7_check_53 : decode cX7_check 53 = .ok (.iload_n 3, 1) := by decide +kernel
theorem dX7_check_54 : decode cX7_check 54 = .ok (.invokevirtual 159, 3) := by decide +kernel
theorem dX7_check_57 : decode cX7_check 57 = .ok (.istore 4, 2) := by decide +kernel
theorem dX7_check_59 : decode cX7_check 59 = .ok (.aload_n 0, 1) := by decide +kernel
theorem dX7_check_60 : decode cX7_check 60 = .ok (.getfield 37, 3) := by decide +kernel
theorem dX7_check_63 : decode cX7_check 63 = .ok (.iload 4, 2) := by decide +kernel
theorem dX7_check_65 : decode cX7_check 65 = .ok (.iconst 1, 1) := by decide +kernel
theorem dX7_check_66 : decode cX7_check 66 = .ok (.iadd, 1) := by decide +kernel
theorem dX7_check_67 : decode cX7_check 67 = .ok (.iaload, 1) := by decide +kernel
theorem dX7_check_68 : decode cX7_check 68 = .ok (.istore 5, 2) := by decide +kernel
theorem dX7_check_70 : decode cX7_check 70 = .ok (.iload_n 1, 1) := by decide +kernel
theorem dX7_check_71 : decode cX7_check 71 = .ok (.aload_n 0, 1) := by decide +kernel
theorem dX7_check_72 : decode cX7_check 72 = .ok (.getfield 37, 3) := by decide +kernel
theorem dX7_check_75 : decode cX7_check 75 = .ok (.iload 4, 2) := by decide +kernel
theorem dX7_check_77 : decode cX7_check 77 = .ok (.iaload, 1) := by decide +kernel
theorem dX7_check_78 : decode cX7_check 78 = .ok (.iconst 1, 1) := by decide +kernel
theorem dX7_check_79 : decode cX7_check 79 = .ok (.if_icmp .eq 26, 3) := by decide +kernel
theorem dX7_check_82 : decode cX7_check 82 = .ok (.aload_n 0, 1) := by decide +kernel
theorem dX7_check_83 : decode cX7_check 83 = .ok (.getfield 37, 3) := by decide +kernel
theorem dX7_check_86 : decode cX7_check 86 = .ok (.iload 4, 2) := by decide +kernel
theorem dX7_check_88 : decode cX7_check 88 = .ok (.iconst 3, 1) := by decide +kernel
theorem dX7_check_89 : decode cX7_check 89 = .ok (.iadd, 1) := by decide +kernel
theorem dX7_check_90 : decode cX7_check 90 = .ok (.iaload, 1) := by decide +kernel
theorem dX7_check_91 : decode cX7_check 91 = .ok (.aload_n 0, 1) := by decide +kernel
theorem dX7_check_92 : decode cX7_check 92 = .ok (.getfield 65, 3) := by decide +kernel
theorem dX7_check_95 : decode cX7_check 95 = .ok (.iload 5, 2) := by decide +kernel
theorem dX7_check_97 : decode cX7_check 97 = .ok (.iaload, 1) := by decide +kernel
theorem dX7_check_98 : decode cX7_check 98 = .ok (.if_icmp .eq 7, 3) := by decide +kernel
theorem dX7_check_101 : decode cX7_check 101 = .ok (.iconst 1, 1) := by decide +kernel
theorem dX7_check_102 : decode cX7_check 102 = .ok (.goto 4, 3) := by decide +kernel
theorem dX7_check_105 : decode cX7_check 105 = .ok (.iconst 0, 1) := by decide +kernel
theorem dX7_check_106 : decode cX7_check 106 = .ok (.iadd, 1) := by decide +kernel
theorem dX7_check_107 : decode cX7_check 107 = .ok (.istore_n 1, 1) := by decide +kernel
theorem dX7_check_108 : decode cX7_check 108 = .ok (.aload_n 0, 1) := by decide +kernel
theorem dX7_check_109 : decode cX7_check 109 = .ok (.getfield 65, 3) := by decide +kernel
theorem dX7_check_112 : decode cX7_check 112 = .ok (.iload 5, 2) := by decide +kernel
theorem dX7_check_114 : decode cX7_check 114 = .ok (.aload_n 0, 1) := by decide +kernel
theorem dX7_check_115 : decode cX7_check 115 = .ok (.getfield 37, 3) := by decide +kernel
theorem dX7_check_118 : decode cX7_check 118 = .ok (.iload 4, 2) := by decide +kernel
theorem dX7_check_120 : decode cX7_check 120 = .ok (.iaload, 1) := by decide +kernel
theorem dX7_check_121 : decode cX7_check 121 = .ok (.ifCond .ne 13, 3) := by decide +kernel
theorem dX7_check_124 : decode cX7_check 124 = .ok (.aload_n 0, 1) := by decide +kernel
theorem dX7_check_125 : decode cX7_check 125 = .ok (.getfield 65, 3) := by decide +kernel
theorem dX7_check_128 : decode cX7_check 128 = .ok (.iload 5, 2) := by decide +kernel
theorem dX7_check_130 : decode cX7_check 130 = .ok (.iaload, 1) := by decide +kernel
theorem dX7_check_131 : decode cX7_check 131 = .ok (.goto 43, 3) := by decide +kernel
theorem dX7_check_134 : decode cX7_check 134 = .ok (.aload_n 0, 1) := by decide +kernel
theorem dX7_check_135 : decode cX7_check 135 = .ok (.getfield 37, 3) := by decide +kernel
theorem dX7_check_138 : decode cX7_check 138 = .ok (.iload 4, 2) := by decide +kernel
theorem dX7_check_140 : decode cX7_check 140 = .ok (.iaload, 1) := by decide +kernel
theorem dX7_check_141 : decode cX7_check 141 = .ok (.iconst 1, 1) := by decide +kernel
theorem dX7_check_142 : decode cX7_check 142 = .ok (.if_icmp .ne 15, 3) := by decide +kernel
theorem dX7_check_145 : decode cX7_check 145 = .ok (.aload_n 0, 1) := by decide +kernel
theorem dX7_check_146 : decode cX7_check 146 = .ok (.getfield 37, 3) := by decide +kernel
theorem dX7_check_149 : decode cX7_check 149 = .ok (.iload 4, 2) := by decide +kernel
theorem dX7_check_151 : decode cX7_check 151 = .ok (.iconst 2, 1) := by decide +kernel
theorem dX7_check_152 : decode cX7_check 152 = .ok (.iadd, 1) := by decide +kernel
theorem dX7_check_153 : decode cX7_check 153 = .ok (.iaload, 1) := by decide +kernel
theorem dX7_check_154 : decode cX7_check 154 = .ok (.goto 20, 3) := by decide +kernel
theorem dX7_check_157 : decode cX7_check 157 = .ok (.aload_n 0, 1) := by decide +kernel
theorem dX7_check_158 : decode cX7_check 158 = .ok (.getfield 65, 3) := by decide +kernel
theorem dX7_check_161 : decode cX7_check 161 = .ok (.iload 5, 2) := by decide +kernel
theorem dX7_check_163 : decode cX7_check 163 = .ok (.iaload, 1) := by decide +kernel
theorem dX7_check_164 : decode cX7_check 164 = .ok (.aload_n 0, 1) := by decide +kernel
theorem dX7_check_165 : decode cX7_check 165 = .ok (.getfield 37, 3) := by decide +kernel
theorem dX7_check_168 : decode cX7_check 168 = .ok (.iload 4, 2) := by decide +kernel
theorem dX7_check_170 : decode cX7_check 170 = .ok (.iconst 2, 1) := by decide +kernel
theorem dX7_check_171 : decode cX7_check 171 = .ok (.iadd, 1) := by decide +kernel
theorem dX7_check_172 : decode cX7_check 172 = .ok (.iaload, 1) := by decide +kernel
theorem dX7_check_173 : decode cX7_check 173 = .ok (.iadd, 1) := by decide +kernel
theorem dX7_check_174 : decode cX7_check 174 = .ok (.iastore, 1) := by decide +kernel
theorem dX7_check_175 : decode cX7_check 175 = .ok (.iinc 3 1, 3) := by decide +kernel
theorem dX7_check_178 : decode cX7_check 178 = .ok (.goto (-137), 3) := by decide +kernel
theorem dX7_check_181 : decode cX7_check 181 = .ok (.aload_n 0, 1) := by decide +kernel
theorem dX7_check_182 : decode cX7_check 182 = .ok (.aload_n 0, 1) := by decide +kernel
theorem dX7_check_183 : decode cX7_check 183 = .ok (.getfield 25, 3) := by decide +kernel
theorem dX7_check_186 : decode cX7_check 186 = .ok (.iload_n 2, 1) := by decide +kernel
theorem dX7_check_187 : decode cX7_check 187 = .ok (.iaload, 1) := by decide +kernel
theorem dX7_check_188 : decode cX7_check 188 = .ok (.invokevirtual 244, 3) := by decide +kernel
theorem dX7_check_191 : decode cX7_check 191 = .ok (.istore_n 2, 1) := by decide +kernel
theorem dX7_check_192 : decode cX7_check 192 = .ok (.goto (-158), 3) := by decide +kernel
theorem dX7_check_195 : decode cX7_check 195 = .ok (.iconst 0, 1) := by decide +kernel
theorem dX7_check_196 : decode cX7_check 196 = .ok (.istore_n 2, 1) := by decide +kernel
theorem dX7_check_197 : decode cX7_check 197 = .ok (.iload_n 2, 1) := by decide +kernel
theorem dX7_check_198 : decode cX7_check 198 = .ok (.bipush 8, 2) := by decide +kernel
theorem dX7_check_200 : decode cX7_check 200 = .ok (.if_icmp .ge 46, 3) := by decide +kernel
theorem dX7_check_203 : decode cX7_check 203 = .ok (.aload_n 0, 1) := by decide +kernel
theorem dX7_check_204 : decode cX7_check 204 = .ok (.iload_n 2, 1) := by decide +kernel
theorem dX7_check_205 : decode cX7_check 205 = .ok (.ldc 247, 2) := by decide +kernel
theorem dX7_check_207 : decode cX7_check 207 = .ok (.invokevirtual 235, 3) := by decide +kernel
theorem dX7_check_210 : decode cX7_check 210 = .ok (.istore_n 3, 1) := by decide +kernel
theorem dX7_check_211 : decode cX7_check 211 = .ok (.iload_n 1, 1) := by decide +kernel
theorem dX7_check_212 : decode cX7_check 212 = .ok (.aload_n 0, 1) := by decide +kernel
theorem dX7_check_213 : decode cX7_check 213 = .ok (.getfield 46, 3) := by decide +kernel
theorem dX7_check_216 : decode cX7_check 216 = .ok (.iload_n 2, 1) := by decide +kernel
theorem dX7_check_217 : decode cX7_check 217 = .ok (.iload_n 3, 1) := by decide +kernel
theorem dX7_check_218 : decode cX7_check 218 = .ok (.invokestatic 91, 3) := by decide +kernel
theorem dX7_check_221 : decode cX7_check 221 = .ok (.iconst 2, 1) := by decide +kernel
theorem dX7_check_222 : decode cX7_check 222 = .ok (.iadd, 1) := by decide +kernel
theorem dX7_check_223 : decode cX7_check 223 = .ok (.iaload, 1) := by decide +kernel
theorem dX7_check_224 : decode cX7_check 224 = .ok (.aload_n 0, 1) := by decide +kernel
theorem dX7_check_225 : decode cX7_check 225 = .ok (.getfield 65, 3) := by decide +kernel
theorem dX7_check_228 : decode cX7_check 228 = .ok (.iload_n 2, 1) := by decide +kernel
theorem dX7_check_229 : decode cX7_check 229 = .ok (.iaload, 1) := by decide +kernel
theorem dX7_check_230 : decode cX7_check 230 = .ok (.if_icmp .eq 7, 3) := by decide +kernel
theorem dX7_check_233 : decode cX7_check 233 = .ok (.iconst 1, 1) := by decide +kernel
theorem dX7_check_234 : decode cX7_check 234 = .ok (.goto 4, 3) := by decide +kernel
theorem dX7_check_237 : decode cX7_check 237 = .ok (.iconst 0, 1) := by decide +kernel
theorem dX7_check_238 : decode cX7_check 238 = .ok (.iadd, 1) := by decide +kernel
theorem dX7_check_239 : decode cX7_check 239 = .ok (.istore_n 1, 1) := by decide +kernel
theorem dX7_check_240 : decode cX7_check 240 = .ok (.iinc 2 1, 3) := by decide +kernel
theorem dX7_check_243 : decode cX7_check 243 = .ok (.goto (-46), 3) := by decide +kernel
theorem dX7_check_246 : decode cX7_check 246 = .ok (.iload_n 1, 1) := by decide +kernel
theorem dX7_check_247 : decode cX7_check 247 = .ok (.ireturn, 1) := by decide +kernel
theorem dX7_isSlot_0 : decode cX7_isSlot 0 = .ok (.iload_n 0, 1) := by decide +kernel
theorem dX7_isSlot_1 : decode cX7_isSlot 1 = .ok (.iconst 0, 1) := by decide +kernel
theorem dX7_isSlot_2 : decode cX7_isSlot 2 = .ok (.iconst 2, 1) := by decide +kernel
theorem dX7_isSlot_3 : decode cX7_isSlot 3 = .ok (.invokestatic 95, 3) := by decide +kernel
theorem dX7_isSlot_6 : decode cX7_isSlot 6 = .ok (.ireturn, 1) := by decide +kernel
theorem dX7_allocate_0 : decode cX7_allocate 0 = .ok (.aload_n 0, 1) := by decide +kernel
theorem dX7_allocate_1 : decode cX7_allocate 1 = .ok (.iload_n 1, 1) := by decide +kernel
theorem dX7_allocate_2 : decode cX7_allocate 2 = .ok (.invokestatic 248, 3) := by decide +kernel
theorem dX7_allocate_5 : decode cX7_allocate 5 = .ok (.ifCond .ne 7, 3) := by decide +kernel
theorem dX7_allocate_8 : decode cX7_allocate 8 = .ok (.iconst 1, 1) := by decide +kernel
theorem dX7_allocate_9 : decode cX7_allocate 9 = .ok (.goto 27, 3) := by decide +kernel
theorem dX7_allocate_12 : decode cX7_allocate 12 = .ok (.iload_n 2, 1) := by decide +kernel
theorem dX7_allocate_13 : decode cX7_allocate 13 = .ok (.iconst 0, 1) := by decide +kernel
theorem dX7_allocate_14 : decode cX7_allocate 14 = .ok (.iconst 1, 1) := by decide +kernel
theorem dX7_allocate_15 : decode cX7_allocate 15 = .ok (.invokestatic 95, 3) := by decide +kernel
theorem dX7_allocate_18 : decode cX7_allocate 18 = .ok (.ifCond .eq 13, 3) := by decide +kernel
theorem dX7_allocate_21 : decode cX7_allocate 21 = .ok (.iload_n 3, 1) := by decide +kernel
theorem dX7_allocate_22 : decode cX7_allocate 22 = .ok (.iconst 0, 1) := by decide +kernel
theorem dX7_allocate_23 : decode cX7_allocate 23 = .ok (.bipush 30, 2) := by decide +kernel
theorem dX7_allocate_25 : decode cX7_allocate 25 = .ok (.invokestatic 95, 3) := by decide +kernel
theorem dX7_allocate_28 : decode cX7_allocate 28 = .ok (.ifCond .ne 7, 3) := by decide +kernel
theorem dX7_allocate_31 : decode cX7_allocate 31 = .ok (.iconst 2, 1) := by decide +kernel
theorem dX7_allocate_32 : decode cX7_allocate 32 = .ok (.goto 4, 3) := by decide +kernel
theorem dX7_allocate_35 : decode cX7_allocate 35 = .ok (.iconst 0, 1) := by decide +kernel
theorem dX7_allocate_36 : decode cX7_allocate 36 = .ok (.putfield 3, 3) := by decide +kernel
theorem dX7_allocate_39 : decode cX7_allocate 39 = .ok (.aload_n 0, 1) := by decide +kernel
theorem dX7_allocate_40 : decode cX7_allocate 40 = .ok (.getfield 3, 3) := by decide +kernel
theorem dX7_allocate_43 : decode cX7_allocate 43 = .ok (.ifCond .ne 59, 3) := by decide +kernel
theorem dX7_allocate_46 : decode cX7_allocate 46 = .ok (.aload_n 0, 1) := by decide +kernel
theorem dX7_allocate_47 : decode cX7_allocate 47 = .ok (.getfield 68, 3) := by decide +kernel
theorem dX7_allocate_50 : decode cX7_allocate 50 = .ok (.iload_n 1, 1) := by decide +kernel
theorem dX7_allocate_51 : decode cX7_allocate 51 = .ok (.iload_n 2, 1) := by decide +kernel
theorem dX7_allocate_52 : decode cX7_allocate 52 = .ok (.iastore, 1) := by decide +kernel
theorem dX7_allocate_53 : decode cX7_allocate 53 = .ok (.aload_n 0, 1) := by decide +kernel
theorem dX7_allocate_54 : decode cX7_allocate 54 = .ok (.getfield 71, 3) := by decide +kernel
theorem dX7_allocate_57 : decode cX7_allocate 57 = .ok (.iload_n 1, 1) := by decide +kernel
theorem dX7_allocate_58 : decode cX7_allocate 58 = .ok (.iload_n 3, 1) := by decide +kernel
theorem dX7_allocate_59 : decode cX7_allocate 59 = .ok (.iastore, 1) := by decide +kernel
theorem dX7_allocate_60 : decode cX7_allocate 60 = .ok (.iconst 0, 1) := by decide +kernel
theorem dX7_allocate_61 : decode cX7_allocate 61 = .ok (.istore 4, 2) := by decide +kernel
theorem dX7_allocate_63 : decode cX7_allocate 63 = .ok (.iload 4, 2) := by decide +kernel
theorem dX7_allocate_65 : decode cX7_allocate 65 = .ok (.bipush 30, 2) := by decide +kernel
theorem dX7_allocate_67 : decode cX7_allocate 67 = .ok (.if_icmp .ge 35, 3) := by decide +kernel
theorem dX7_allocate_70 : decode cX7_allocate 70 = .ok (.aload_n 0, 1) := by decide +kernel
theorem dX7_allocate_71 : decode cX7_allocate 71 = .ok (.getfield 74, 3) := by decide +kernel
theorem dX7_allocate_74 : decode cX7_allocate 74 = .ok (.bipush 30, 2) := by decide +kernel
theorem dX7_allocate_76 : decode cX7_allocate 76 = .ok (.iload_n 1, 1) := by decide +kernel
theorem dX7_allocate_77 : decode cX7_allocate 77 = .ok (.imul, 1) := by decide +kernel
theorem dX7_allocate_78 : decode cX7_allocate 78 = .ok (.iload 4, 2) := by decide +kernel
theorem dX7_allocate_80 : decode cX7_allocate 80 = .ok (.iadd, 1) := by decide +kernel
theorem dX7_allocate_81 : decode cX7_allocate 81 = .ok (.iconst 0, 1) := by decide +kernel
theorem dX7_allocate_82 : decode cX7_allocate 82 = .ok (.iastore, 1) := by decide +kernel
theorem dX7_allocate_83 : decode cX7_allocate 83 = .ok (.aload_n 0, 1) := by decide +kernel
theorem dX7_allocate_84 : decode cX7_allocate 84 = .ok (.getfield 77, 3) := by decide +kernel
theorem dX7_allocate_87 : decode cX7_allocate 87 = .ok (.bipush 30, 2) := by decide +kernel
theorem dX7_allocate_89 : decode cX7_allocate 89 = .ok (.iload_n 1, 1) := by decide +kernel
theorem dX7_allocate_90 : decode cX7_allocate 90 = .ok (.imul, 1) := by decide +kernel
theorem dX7_allocate_91 : decode cX7_allocate 91 = .ok (.iload 4, 2) := by decide +kernel
theorem dX7_allocate_93 : decode cX7_allocate 93 = .ok (.iadd, 1) := by decide +kernel
theorem dX7_allocate_94 : decode cX7_allocate 94 = .ok (.fconst 0, 1) := by decide +kernel
theorem dX7_allocate_95 : decode cX7_allocate 95 = .ok (.fastore, 1) := by decide +kernel
theorem dX7_allocate_96 : decode cX7_allocate 96 = .ok (.iinc 4 1, 3) := by decide +kernel
theorem dX7_allocate_99 : decode cX7_allocate 99 = .ok (.goto (-36), 3) := by decide +kernel
theorem dX7_allocate_102 : decode cX7_allocate 102 = .ok (.return_, 1) := by decide +kernel
theorem dX7_export_0 : decode cX7_export 0 = .ok (.aload_n 0, 1) := by decide +kernel
theorem dX7_export_1 : decode cX7_export 1 = .ok (.iload_n 1, 1) := by decide +kernel
theorem dX7_export_2 : decode cX7_export 2 = .ok (.invokestatic 248, 3) := by decide +kernel
theorem dX7_export_5 : decode cX7_export 5 = .ok (.ifCond .eq 10, 3) := by decide +kernel
theorem dX7_export_8 : decode cX7_export 8 = .ok (.iload_n 2, 1) := by decide +kernel
theorem dX7_export_9 : decode cX7_export 9 = .ok (.invokestatic 177, 3) := by decide +kernel
theorem dX7_export_12 : decode cX7_export 12 = .ok (.ifCond .ne 7, 3) := by decide +kernel
theorem dX7_export_15 : decode cX7_export 15 = .ok (.iconst 1, 1) := by decide +kernel
theorem dX7_export_16 : decode cX7_export 16 = .ok (.goto 17, 3) := by decide +kernel
theorem dX7_export_19 : decode cX7_export 19 = .ok (.aload_n 0, 1) := by decide +kernel
theorem dX7_export_20 : decode cX7_export 20 = .ok (.getfield 68, 3) := by decide +kernel
theorem dX7_export_23 : decode cX7_export 23 = .ok (.iload_n 1, 1) := by decide +kernel
theorem dX7_export_24 : decode cX7_export 24 = .ok (.iaload, 1) := by decide +kernel
theorem dX7_export_25 : decode cX7_export 25 = .ok (.ifCond .ge 7, 3) := by decide +kernel
theorem dX7_export_28 : decode cX7_export 28 = .ok (.iconst 2, 1) := by decide +kernel
theorem dX7_export_29 : decode cX7_export 29 = .ok (.goto 4, 3) := by decide +kernel
theorem dX7_export_32 : decode cX7_export 32 = .ok (.iconst 0, 1) := by decide +kernel
theorem dX7_export_33 : decode cX7_export 33 = .ok (.putfield 3, 3) := by decide +kernel
theorem dX7_export_36 : decode cX7_export 36 = .ok (.aload_n 0, 1) := by decide +kernel
theorem dX7_export_37 : decode cX7_export 37 = .ok (.getfield 3, 3) := by decide +kernel
theorem dX7_export_40 : decode cX7_export 40 = .ok (.ifCond .eq 5, 3) := by decide +kernel
theorem dX7_export_43 : decode cX7_export 43 = .ok (.iconst 0, 1) := by decide +kernel
theorem dX7_export_44 : decode cX7_export 44 = .ok (.ireturn, 1) := by decide +kernel
theorem dX7_export_45 : decode cX7_export 45 = .ok (.iconst 0, 1) := by decide +kernel
theorem dX7_export_46 : decode cX7_export 46 = .ok (.istore_n 3, 1) := by decide +kernel
theorem dX7_export_47 : decode cX7_export 47 = .ok (.iload_n 3, 1) := by decide +kernel
theorem dX7_export_48 : decode cX7_export 48 = .ok (.aload_n 0, 1) := by decide +kernel
theorem dX7_export_49 : decode cX7_export 49 = .ok (.getfield 43, 3) := by decide +kernel
theorem dX7_export_52 : decode cX7_export 52 = .ok (.iload_n 2, 1) := by decide +kernel
theorem dX7_export_53 : decode cX7_export 53 = .ok (.iaload, 1) := by decide +kernel
theorem dX7_export_54 : decode cX7_export 54 = .ok (.if_icmp .ge 60, 3) := by decide +kernel
theorem dX7_export_57 : decode cX7_export 57 = .ok (.iload_n 3, 1) := by decide +kernel
theorem dX7_export_58 : decode cX7_export 58 = .ok (.aload_n 0, 1) := by decide +kernel
theorem dX7_export_59 : decode cX7_export 59 = .ok (.getfield 71, 3) := by decide +kernel
theorem dX7_export_62 : decode cX7_export 62 = .ok (.iload_n 1, 1) := by decide +kernel
theorem dX7_export_63 : decode cX7_export 63 = .ok (.iaload, 1) := by decide +kernel
theorem dX7_export_64 : decode cX7_export 64 = .ok (.if_icmp .ge 50, 3) := by decide +kernel
theorem dX7_export_67 : decode cX7_export 67 = .ok (.aload_n 0, 1) := by decide +kernel
theorem dX7_export_68 : decode cX7_export 68 = .ok (.getfield 46, 3) := by decide +kernel
theorem dX7_export_71 : decode cX7_export 71 = .ok (.iload_n 2, 1) := by decide +kernel
theorem dX7_export_72 : decode cX7_export 72 = .ok (.iload_n 3, 1) := by decide +kernel
theorem dX7_export_73 : decode cX7_export 73 = .ok (.invokestatic 91, 3) := by decide +kernel
theorem dX7_export_76 : decode cX7_export 76 = .ok (.iconst 2, 1) := by decide +kernel
theorem dX7_export_77 : decode cX7_export 77 = .ok (.iadd, 1) := by decide +kernel
theorem dX7_export_78 : decode cX7_export 78 = .ok (.iaload, 1) := by decide +kernel
theorem dX7_export_79 : decode cX7_export 79 = .ok (.istore 4, 2) := by decide +kernel
theorem dX7_export_81 : decode cX7_export 81 = .ok (.aload_n 0, 1) := by decide +kernel
theorem dX7_export_82 : decode cX7_export 82 = .ok (.getfield 74, 3) := by decide +kernel
theorem dX7_export_85 : decode cX7_export 85 = .ok (.bipush 30, 2) := by decide +kernel
theorem dX7_export_87 : decode cX7_export 87 = .ok (.iload_n 1, 1) := by decide +kernel
theorem dX7_export_88 : decode cX7_export 88 = .ok (.imul, 1) := by decide +kernel
theorem dX7_export_89 : decode cX7_export 89 = .ok (.iload_n 3, 1) := by decide +kernel
theorem dX7_export_90 : decode cX7_export 90 = .ok (.iadd, 1) := by decide +kernel
theorem dX7_export_91 : decode cX7_export 91 = .ok (.iload 4, 2) := by decide +kernel
theorem dX7_export_93 : decode cX7_export 93 = .ok (.iastore, 1) := by decide +kernel
theorem dX7_export_94 : decode cX7_export 94 = .ok (.aload_n 0, 1) := by decide +kernel
theorem dX7_export_95 : decode cX7_export 95 = .ok (.getfield 77, 3) := by decide +kernel
theorem dX7_export_98 : decode cX7_export 98 = .ok (.bipush 30, 2) := by decide +kernel
theorem dX7_export_100 : decode cX7_export 100 = .ok (.iload_n 1, 1) := by decide +kernel
theorem dX7_export_101 : decode cX7_export 101 = .ok (.imul, 1) := by decide +kernel
theorem dX7_export_102 : decode cX7_export 102 = .ok (.iload_n 3, 1) := by decide +kernel
theorem dX7_export_103 : decode cX7_export 103 = .ok (.iadd, 1) := by decide +kernel
theorem dX7_export_104 : decode cX7_export 104 = .ok (.iload 4, 2) := by decide +kernel
theorem dX7_export_106 : decode cX7_export 106 = .ok (.i2f, 1) := by decide +kernel
theorem dX7_export_107 : decode cX7_export 107 = .ok (.fastore, 1) := by decide +kernel
theorem dX7_export_108 : decode cX7_export 108 = .ok (.iinc 3 1, 3) := by decide +kernel
theorem dX7_export_111 : decode cX7_export 111 = .ok (.goto (-64), 3) := by decide +kernel
theorem dX7_export_114 : decode cX7_export 114 = .ok (.aload_n 0, 1) := by decide +kernel
theorem dX7_export_115 : decode cX7_export 115 = .ok (.getfield 43, 3) := by decide +kernel
theorem dX7_export_118 : decode cX7_export 118 = .ok (.iload_n 2, 1) := by decide +kernel
theorem dX7_export_119 : decode cX7_export 119 = .ok (.iaload, 1) := by decide +kernel
theorem dX7_export_120 : decode cX7_export 120 = .ok (.aload_n 0, 1) := by decide +kernel
theorem dX7_export_121 : decode cX7_export 121 = .ok (.getfield 71, 3) := by decide +kernel
theorem dX7_export_124 : decode cX7_export 124 = .ok (.iload_n 1, 1) := by decide +kernel
theorem dX7_export_125 : decode cX7_export 125 = .ok (.iaload, 1) := by decide +kernel
theorem dX7_export_126 : decode cX7_export 126 = .ok (.if_icmp .le 11, 3) := by decide +kernel
theorem dX7_export_129 : decode cX7_export 129 = .ok (.aload_n 0, 1) := by decide +kernel
theorem dX7_export_130 : decode cX7_export 130 = .ok (.iconst 1, 1) := by decide +kernel
theorem dX7_export_131 : decode cX7_export 131 = .ok (.invokevirtual 99, 3) := by decide +kernel
theorem dX7_export_134 : decode cX7_export 134 = .ok (.goto 9, 3) := by decide +kernel
theorem dX7_export_137 : decode cX7_export 137 = .ok (.aload_n 0, 1) := by decide +kernel
theorem dX7_export_138 : decode cX7_export 138 = .ok (.getfield 43, 3) := by decide +kernel
theorem dX7_export_141 : decode cX7_export 141 = .ok (.iload_n 2, 1) := by decide +kernel
theorem dX7_export_142 : decode cX7_export 142 = .ok (.iaload, 1) := by decide +kernel
theorem dX7_export_143 : decode cX7_export 143 = .ok (.ireturn, 1) := by decide +kernel
theorem dX7_divide_0 : decode cX7_divide 0 = .ok (.aload_n 0, 1) := by decide +kernel
theorem dX7_divide_1 : decode cX7_divide 1 = .ok (.iload_n 1, 1) := by decide +kernel
theorem dX7_divide_2 : decode cX7_divide 2 = .ok (.invokestatic 248, 3) := by decide +kernel
theorem dX7_divide_5 : decode cX7_divide 5 = .ok (.ifCond .ne 7, 3) := by decide +kernel
theorem dX7_divide_8 : decode cX7_divide 8 = .ok (.iconst 1, 1) := by decide +kernel
theorem dX7_divide_9 : decode cX7_divide 9 = .ok (.goto 45, 3) := by decide +kernel
theorem dX7_divide_12 : decode cX7_divide 12 = .ok (.aload_n 0, 1) := by decide +kernel
theorem dX7_divide_13 : decode cX7_divide 13 = .ok (.getfield 68, 3) := by decide +kernel
theorem dX7_divide_16 : decode cX7_divide 16 = .ok (.iload_n 1, 1) := by decide +kernel
theorem dX7_divide_17 : decode cX7_divide 17 = .ok (.iaload, 1) := by decide +kernel
theorem dX7_divide_18 : decode cX7_divide 18 = .ok (.ifCond .ge 7, 3) := by decide +kernel
theorem dX7_divide_21 : decode cX7_divide 21 = .ok (.iconst 2, 1) := by decide +kernel
theorem dX7_divide_22 : decode cX7_divide 22 = .ok (.goto 32, 3) := by decide +kernel
theorem dX7_divide_25 : decode cX7_divide 25 = .ok (.iload_n 3, 1) := by decide +kernel
theorem dX7_divide_26 : decode cX7_divide 26 = .ok (.ifCond .ne 7, 3) := by decide +kernel
theorem dX7_divide_29 : decode cX7_divide 29 = .ok (.iconst 3, 1) := by decide +kernel
theorem dX7_divide_30 : decode cX7_divide 30 = .ok (.goto 24, 3) := by decide +kernel
theorem dX7_divide_33 : decode cX7_divide 33 = .ok (.iload_n 2, 1) := by decide +kernel
theorem dX7_divide_34 : decode cX7_divide 34 = .ok (.iconst 0, 1) := by decide +kernel
theorem dX7_divide_35 : decode cX7_divide 35 = .ok (.aload_n 0, 1) := by decide +kernel
theorem dX7_divide_36 : decode cX7_divide 36 = .ok (.getfield 71, 3) := by decide +kernel
theorem dX7_divide_39 : decode cX7_divide 39 = .ok (.iload_n 1, 1) := by decide +kernel
theorem dX7_divide_40 : decode cX7_divide 40 = .ok (.iaload, 1) := by decide +kernel
theorem dX7_divide_41 : decode cX7_divide 41 = .ok (.iconst 1, 1) := by decide +kernel
theorem dX7_divide_42 : decode cX7_divide 42 = .ok (.isub, 1) := by decide +kernel
theorem dX7_divide_43 : decode cX7_divide 43 = .ok (.invokestatic 95, 3) := by decide +kernel
theorem dX7_divide_46 : decode cX7_divide 46 = .ok (.ifCond .eq 7, 3) := by decide +kernel
theorem dX7_divide_49 : decode cX7_divide 49 = .ok (.iconst 0, 1) := by decide +kernel
theorem dX7_divide_50 : decode cX7_divide 50 = .ok (.goto 4, 3) := by decide +kernel
theorem dX7_divide_53 : decode cX7_divide 53 = .ok (.iconst 4, 1) := by decide +kernel
theorem dX7_divide_54 : decode cX7_divide 54 = .ok (.putfield 3, 3) := by decide +kernel
theorem dX7_divide_57 : decode cX7_divide 57 = .ok (.aload_n 0, 1) := by decide +kernel
theorem dX7_divide_58 : decode cX7_divide 58 = .ok (.getfield 3, 3) := by decide +kernel
theorem dX7_divide_61 : decode cX7_divide 61 = .ok (.ifCond .eq 5, 3) := by decide +kernel
theorem dX7_divide_64 : decode cX7_divide 64 = .ok (.fconst 0, 1) := by decide +kernel
theorem dX7_divide_65 : decode cX7_divide 65 = .ok (.freturn, 1) := by decide +kernel
theorem dX7_divide_66 : decode cX7_divide 66 = .ok (.bipush 30, 2) := by decide +kernel
theorem dX7_divide_68 : decode cX7_divide 68 = .ok (.iload_n 1, 1) := by decide +kernel
theorem dX7_divide_69 : decode cX7_divide 69 = .ok (.imul, 1) := by decide +kernel
theorem dX7_divide_70 : decode cX7_divide 70 = .ok (.iload_n 2, 1) := by decide +kernel
theorem dX7_divide_71 : decode cX7_divide 71 = .ok (.iadd, 1) := by decide +kernel
theorem dX7_divide_72 : decode cX7_divide 72 = .ok (.istore 4, 2) := by decide +kernel
theorem dX7_divide_74 : decode cX7_divide 74 = .ok (.aload_n 0, 1) := by decide +kernel
theorem dX7_divide_75 : decode cX7_divide 75 = .ok (.getfield 68, 3) := by decide +kernel
theorem dX7_divide_78 : decode cX7_divide 78 = .ok (.iload_n 1, 1) := by decide +kernel
theorem dX7_divide_79 : decode cX7_divide 79 = .ok (.iaload, 1) := by decide +kernel
theorem dX7_divide_80 : decode cX7_divide 80 = .ok (.ifCond .ne 28, 3) := by decide +kernel
theorem dX7_divide_83 : decode cX7_divide 83 = .ok (.aload_n 0, 1) := by decide +kernel
theorem dX7_divide_84 : decode cX7_divide 84 = .ok (.getfield 77, 3) := by decide +kernel
theorem dX7_divide_87 : decode cX7_divide 87 = .ok (.iload 4, 2) := by decide +kernel
theorem dX7_divide_89 : decode cX7_divide 89 = .ok (.aload_n 0, 1) := by decide +kernel
theorem dX7_divide_90 : decode cX7_divide 90 = .ok (.getfield 77, 3) := by decide +kernel
theorem dX7_divide_93 : decode cX7_divide 93 = .ok (.iload 4, 2) := by decide +kernel
theorem dX7_divide_95 : decode cX7_divide 95 = .ok (.faload, 1) := by decide +kernel
theorem dX7_divide_96 : decode cX7_divide 96 = .ok (.iload_n 3, 1) := by decide +kernel
theorem dX7_divide_97 : decode cX7_divide 97 = .ok (.i2f, 1) := by decide +kernel
theorem dX7_divide_98 : decode cX7_divide 98 = .ok (.fdiv, 1) := by decide +kernel
theorem dX7_divide_99 : decode cX7_divide 99 = .ok (.fastore, 1) := by decide +kernel
theorem dX7_divide_100 : decode cX7_divide 100 = .ok (.aload_n 0, 1) := by decide +kernel
theorem dX7_divide_101 : decode cX7_divide 101 = .ok (.getfield 77, 3) := by decide +kernel
theorem dX7_divide_104 : decode cX7_divide 104 = .ok (.iload 4, 2) := by decide +kernel
theorem dX7_divide_106 : decode cX7_divide 106 = .ok (.faload, 1) := by decide +kernel
theorem dX7_divide_107 : decode cX7_divide 107 = .ok (.freturn, 1) := by decide +kernel
theorem dX7_divide_108 : decode cX7_divide 108 = .ok (.aload_n 0, 1) := by decide +kernel
theorem dX7_divide_109 : decode cX7_divide 109 = .ok (.getfield 74, 3) := by decide +kernel
theorem dX7_divide_112 : decode cX7_divide 112 = .ok (.iload 4, 2) := by decide +kernel
theorem dX7_divide_114 : decode cX7_divide 114 = .ok (.aload_n 0, 1) := by decide +kernel
theorem dX7_divide_115 : decode cX7_divide 115 = .ok (.getfield 74, 3) := by decide +kernel
theorem dX7_divide_118 : decode cX7_divide 118 = .ok (.iload 4, 2) := by decide +kernel
theorem dX7_divide_120 : decode cX7_divide 120 = .ok (.iaload, 1) := by decide +kernel
theorem dX7_divide_121 : decode cX7_divide 121 = .ok (.iload_n 3, 1) := by decide +kernel
theorem dX7_divide_122 : decode cX7_divide 122 = .ok (.idiv, 1) := by decide +kernel
theorem dX7_divide_123 : decode cX7_divide 123 = .ok (.iastore, 1) := by decide +kernel
theorem dX7_divide_124 : decode cX7_divide 124 = .ok (.aload_n 0, 1) := by decide +kernel
theorem dX7_divide_125 : decode cX7_divide 125 = .ok (.getfield 74, 3) := by decide +kernel
theorem dX7_divide_128 : decode cX7_divide 128 = .ok (.iload 4, 2) := by decide +kernel
theorem dX7_divide_130 : decode cX7_divide 130 = .ok (.iaload, 1) := by decide +kernel
theorem dX7_divide_131 : decode cX7_divide 131 = .ok (.i2f, 1) := by decide +kernel
theorem dX7_divide_132 : decode cX7_divide 132 = .ok (.freturn, 1) := by decide +kernel
theorem dX7_copyElements_0 : decode cX7_copyElements 0 = .ok (.iconst 0, 1) := by decide +kernel
theorem dX7_copyElements_1 : decode cX7_copyElements 1 = .ok (.istore_n 3, 1) := by decide +kernel
theorem dX7_copyElements_2 : decode cX7_copyElements 2 = .ok (.iload_n 3, 1) := by decide +kernel
theorem dX7_copyElements_3 : decode cX7_copyElements 3 = .ok (.aload_n 0, 1) := by decide +kernel
theorem dX7_copyElements_4 : decode cX7_copyElements 4 = .ok (.getfield 71, 3) := by decide +kernel
theorem dX7_copyElements_7 : decode cX7_copyElements 7 = .ok (.iload_n 1, 1) := by decide +kernel
theorem dX7_copyElements_8 : decode cX7_copyElements 8 = .ok (.iaload, 1) := by decide +kernel
theorem dX7_copyElements_9 : decode cX7_copyElements 9 = .ok (.if_icmp .ge 53, 3) := by decide +kernel
theorem dX7_copyElements_12 : decode cX7_copyElements 12 = .ok (.aload_n 0, 1) := by decide +kernel
theorem dX7_copyElements_13 : decode cX7_copyElements 13 = .ok (.getfield 74, 3) := by decide +kernel
theorem dX7_copyElements_16 : decode cX7_copyElements 16 = .ok (.bipush 30, 2) := by decide +kernel
theorem dX7_copyElements_18 : decode cX7_copyElements 18 = .ok (.iload_n 2, 1) := by decide +kernel
theorem dX7_copyElements_19 : decode cX7_copyElements 19 = .ok (.imul, 1) := by decide +kernel
theorem dX7_copyElements_20 : decode cX7_copyElements 20 = .ok (.iload_n 3, 1) := by decide +kernel
theorem dX7_copyElements_21 : decode cX7_copyElements 21 = .ok (.iadd, 1) := by decide +kernel
theorem dX7_copyElements_22 : decode cX7_copyElements 22 = .ok (.aload_n 0, 1) := by decide +kernel
theorem dX7_copyElements_23 : decode cX7_copyElements 23 = .ok (.getfield 74, 3) := by decide +kernel
theorem dX7_copyElements_26 : decode cX7_copyElements 26 = .ok (.bipush 30, 2) := by decide +kernel
theorem dX7_copyElements_28 : decode cX7_copyElements 28 = .ok (.iload_n 1, 1) := by decide +kernel
theorem dX7_copyElements_29 : decode cX7_copyElements 29 = .ok (.imul, 1) := by decide +kernel
theorem dX7_copyElements_30 : decode cX7_copyElements 30 = .ok (.iload_n 3, 1) := by decide +kernel
theorem dX7_copyElements_31 : decode cX7_copyElements 31 = .ok (.iadd, 1) := by decide +kernel
theorem dX7_copyElements_32 : decode cX7_copyElements 32 = .ok (.iaload, 1) := by decide +kernel
theorem dX7_copyElements_33 : decode cX7_copyElements 33 = .ok (.iastore, 1) := by decide +kernel
theorem dX7_copyElements_34 : decode cX7_copyElements 34 = .ok (.aload_n 0, 1) := by decide +kernel
theorem dX7_copyElements_35 : decode cX7_copyElements 35 = .ok (.getfield 77, 3) := by decide +kernel
theorem dX7_copyElements_38 : decode cX7_copyElements 38 = .ok (.bipush 30, 2) := by decide +kernel
theorem dX7_copyElements_40 : decode cX7_copyElements 40 = .ok (.iload_n 2, 1) := by decide +kernel
theorem dX7_copyElements_41 : decode cX7_copyElements 41 = .ok (.imul, 1) := by decide +kernel
theorem dX7_copyElements_42 : decode cX7_copyElements 42 = .ok (.iload_n 3, 1) := by decide +kernel
theorem dX7_copyElements_43 : decode cX7_copyElements 43 = .ok (.iadd, 1) := by decide +kernel
theorem dX7_copyElements_44 : decode cX7_copyElements 44 = .ok (.aload_n 0, 1) := by decide +kernel
theorem dX7_copyElements_45 : decode cX7_copyElements 45 = .ok (.getfield 77, 3) := by decide +kernel
theorem dX7_copyElements_48 : decode cX7_copyElements 48 = .ok (.bipush 30, 2) := by decide +kernel
theorem dX7_copyElements_50 : decode cX7_copyElements 50 = .ok (.iload_n 1, 1) := by decide +kernel
theorem dX7_copyElements_51 : decode cX7_copyElements 51 = .ok (.imul, 1) := by decide +kernel
theorem dX7_copyElements_52 : decode cX7_copyElements 52 = .ok (.iload_n 3, 1) := by decide +kernel
theorem dX7_copyElements_53 : decode cX7_copyElements 53 = .ok (.iadd, 1) := by decide +kernel
theorem dX7_copyElements_54 : decode cX7_copyElements 54 = .ok (.faload, 1) := by decide +kernel
theorem dX7_copyElements_55 : decode cX7_copyElements 55 = .ok (.fastore, 1) := by decide +kernel
theorem dX7_copyElements_56 : decode cX7_copyElements 56 = .ok (.iinc 3 1, 3) := by decide +kernel
theorem dX7_copyElements_59 : decode cX7_copyElements 59 = .ok (.goto (-57), 3) := by decide +kernel
theorem dX7_copyElements_62 : decode cX7_copyElements 62 = .ok (.return_, 1) := by decide +kernel
theorem dX7_cloneRow_0 : decode cX7_cloneRow 0 = .ok (.aload_n 0, 1) := by decide +kernel
theorem dX7_cloneRow_1 : decode cX7_cloneRow 1 = .ok (.iload_n 1, 1) := by decide +kernel
theorem dX7_cloneRow_2 : decode cX7_cloneRow 2 = .ok (.invokestatic 248, 3) := by decide +kernel
theorem dX7_cloneRow_5 : decode cX7_cloneRow 5 = .ok (.ifCond .eq 10, 3) := by decide +kernel
theorem dX7_cloneRow_8 : decode cX7_cloneRow 8 = .ok (.iload_n 2, 1) := by decide +kernel
theorem dX7_cloneRow_9 : decode cX7_cloneRow 9 = .ok (.invokestatic 248, 3) := by decide +kernel
theorem dX7_cloneRow_12 : decode cX7_cloneRow 12 = .ok (.ifCond .ne 7, 3) := by decide +kernel
theorem dX7_cloneRow_15 : decode cX7_cloneRow 15 = .ok (.iconst 1, 1) := by decide +kernel
theorem dX7_cloneRow_16 : decode cX7_cloneRow 16 = .ok (.goto 17, 3) := by decide +kernel
theorem dX7_cloneRow_19 : decode cX7_cloneRow 19 = .ok (.aload_n 0, 1) := by decide +kernel
theorem dX7_cloneRow_20 : decode cX7_cloneRow 20 = .ok (.getfield 68, 3) := by decide +kernel
theorem dX7_cloneRow_23 : decode cX7_cloneRow 23 = .ok (.iload_n 1, 1) := by decide +kernel
theorem dX7_cloneRow_24 : decode cX7_cloneRow 24 = .ok (.iaload, 1) := by decide +kernel
theorem dX7_cloneRow_25 : decode cX7_cloneRow 25 = .ok (.ifCond .ge 7, 3) := by decide +kernel
theorem dX7_cloneRow_28 : decode cX7_cloneRow 28 = .ok (.iconst 2, 1) := by decide +kernel
theorem dX7_cloneRow_29 : decode cX7_cloneRow 29 = .ok (.goto 4, 3) := by decide +kernel
theorem dX7_cloneRow_32 : decode cX7_cloneRow 32 = .ok (.iconst 0, 1) := by decide +kernel
theorem dX7_cloneRow_33 : decode cX7_cloneRow 33 = .ok (.putfield 3, 3) := by decide +kernel
theorem dX7_cloneRow_36 : decode cX7_cloneRow 36 = .ok (.aload_n 0, 1) := by decide +kernel
theorem dX7_cloneRow_37 : decode cX7_cloneRow 37 = .ok (.getfield 3, 3) := by decide +kernel
theorem dX7_cloneRow_40 : decode cX7_cloneRow 40 = .ok (.ifCond .eq 5, 3) := by decide +kernel
theorem dX7_cloneRow_43 : decode cX7_cloneRow 43 = .ok (.iconst 0, 1) := by decide +kernel
theorem dX7_cloneRow_44 : decode cX7_cloneRow 44 = .ok (.ireturn, 1) := by decide +kernel
theorem dX7_cloneRow_45 : decode cX7_cloneRow 45 = .ok (.aload_n 0, 1) := by decide +kernel
theorem dX7_cloneRow_46 : decode cX7_cloneRow 46 = .ok (.iload_n 1, 1) := by decide +kernel
theorem dX7_cloneRow_47 : decode cX7_cloneRow 47 = .ok (.iload_n 2, 1) := by decide +kernel
theorem dX7_cloneRow_48 : decode cX7_cloneRow 48 = .ok (.invokevirtual 251, 3) := by decide +kernel
theorem dX7_cloneRow_51 : decode cX7_cloneRow 51 = .ok (.aload_n 0, 1) := by decide +kernel
theorem dX7_cloneRow_52 : decode cX7_cloneRow 52 = .ok (.getfield 68, 3) := by decide +kernel
theorem dX7_cloneRow_55 : decode cX7_cloneRow 55 = .ok (.iload_n 2, 1) := by decide +kernel
theorem dX7_cloneRow_56 : decode cX7_cloneRow 56 = .ok (.aload_n 0, 1) := by decide +kernel
theorem dX7_cloneRow_57 : decode cX7_cloneRow 57 = .ok (.getfield 68, 3) := by decide +kernel
theorem dX7_cloneRow_60 : decode cX7_cloneRow 60 = .ok (.iload_n 1, 1) := by decide +kernel
theorem dX7_cloneRow_61 : decode cX7_cloneRow 61 = .ok (.iaload, 1) := by decide +kernel
theorem dX7_cloneRow_62 : decode cX7_cloneRow 62 = .ok (.iastore, 1) := by decide +kernel
theorem dX7_cloneRow_63 : decode cX7_cloneRow 63 = .ok (.aload_n 0, 1) := by decide +kernel
theorem dX7_cloneRow_64 : decode cX7_cloneRow 64 = .ok (.getfield 71, 3) := by decide +kernel
theorem dX7_cloneRow_67 : decode cX7_cloneRow 67 = .ok (.iload_n 2, 1) := by decide +kernel
theorem dX7_cloneRow_68 : decode cX7_cloneRow 68 = .ok (.aload_n 0, 1) := by decide +kernel
theorem dX7_cloneRow_69 : decode cX7_cloneRow 69 = .ok (.getfield 71, 3) := by decide +kernel
theorem dX7_cloneRow_72 : decode cX7_cloneRow 72 = .ok (.iload_n 1, 1) := by decide +kernel
theorem dX7_cloneRow_73 : decode cX7_cloneRow 73 = .ok (.iaload, 1) := by decide +kernel
theorem dX7_cloneRow_74 : decode cX7_cloneRow 74 = .ok (.iastore, 1) := by decide +kernel
theorem dX7_cloneRow_75 : decode cX7_cloneRow 75 = .ok (.aload_n 0, 1) := by decide +kernel
theorem dX7_cloneRow_76 : decode cX7_cloneRow 76 = .ok (.getfield 71, 3) := by decide +kernel
theorem dX7_cloneRow_79 : decode cX7_cloneRow 79 = .ok (.iload_n 1, 1) := by decide +kernel
theorem dX7_cloneRow_80 : decode cX7_cloneRow 80 = .ok (.iaload, 1) := by decide +kernel
theorem dX7_cloneRow_81 : decode cX7_cloneRow 81 = .ok (.ireturn, 1) := by decide +kernel
theorem dX7_copyRow_0 : decode cX7_copyRow 0 = .ok (.aload_n 0, 1) := by decide +kernel
theorem dX7_copyRow_1 : decode cX7_copyRow 1 = .ok (.iload_n 1, 1) := by decide +kernel
theorem dX7_copyRow_2 : decode cX7_copyRow 2 = .ok (.invokestatic 248, 3) := by decide +kernel
theorem dX7_copyRow_5 : decode cX7_copyRow 5 = .ok (.ifCond .eq 10, 3) := by decide +kernel
theorem dX7_copyRow_8 : decode cX7_copyRow 8 = .ok (.iload_n 2, 1) := by decide +kernel
theorem dX7_copyRow_9 : decode cX7_copyRow 9 = .ok (.invokestatic 248, 3) := by decide +kernel
theorem dX7_copyRow_12 : decode cX7_copyRow 12 = .ok (.ifCond .ne 7, 3) := by decide +kernel
theorem dX7_copyRow_15 : decode cX7_copyRow 15 = .ok (.iconst 1, 1) := by decide +kernel
theorem dX7_copyRow_16 : decode cX7_copyRow 16 = .ok (.goto 64, 3) := by decide +kernel
theorem dX7_copyRow_19 : decode cX7_copyRow 19 = .ok (.aload_n 0, 1) := by decide +kernel
theorem dX7_copyRow_20 : decode cX7_copyRow 20 = .ok (.getfield 68, 3) := by decide +kernel
theorem dX7_copyRow_23 : decode cX7_copyRow 23 = .ok (.iload_n 1, 1) := by decide +kernel
theorem dX7_copyRow_24 : decode cX7_copyRow 24 = .ok (.iaload, 1) := by decide +kernel
theorem dX7_copyRow_25 : decode cX7_copyRow 25 = .ok (.ifCond .lt 12, 3) := by decide +kernel
theorem dX7_copyRow_28 : decode cX7_copyRow 28 = .ok (.aload_n 0, 1) := by decide +kernel
theorem dX7_copyRow_29 : decode cX7_copyRow 29 = .ok (.getfield 68, 3) := by decide +kernel
theorem dX7_copyRow_32 : decode cX7_copyRow 32 = .ok (.iload_n 2, 1) := by decide +kernel
theorem dX7_copyRow_33 : decode cX7_copyRow 33 = .ok (.iaload, 1) := by decide +kernel
theorem dX7_copyRow_34 : decode cX7_copyRow 34 = .ok (.ifCond .ge 7, 3) := by decide +kernel
theorem dX7_copyRow_37 : decode cX7_copyRow 37 = .ok (.iconst 2, 1) := by decide +kernel
theorem dX7_copyRow_38 : decode cX7_copyRow 38 = .ok (.goto 42, 3) := by decide +kernel
theorem dX7_copyRow_41 : decode cX7_copyRow 41 = .ok (.aload_n 0, 1) := by decide +kernel
theorem dX7_copyRow_42 : decode cX7_copyRow 42 = .ok (.getfield 68, 3) := by decide +kernel
theorem dX7_copyRow_45 : decode cX7_copyRow 45 = .ok (.iload_n 1, 1) := by decide +kernel
theorem dX7_copyRow_46 : decode cX7_copyRow 46 = .ok (.iaload, 1) := by decide +kernel
theorem dX7_copyRow_47 : decode cX7_copyRow 47 = .ok (.aload_n 0, 1) := by decide +kernel
theorem dX7_copyRow_48 : decode cX7_copyRow 48 = .ok (.getfield 68, 3) := by decide +kernel
theorem dX7_copyRow_51 : decode cX7_copyRow 51 = .ok (.iload_n 2, 1) := by decide +kernel
theorem dX7_copyRow_52 : decode cX7_copyRow 52 = .ok (.iaload, 1) := by decide +kernel
theorem dX7_copyRow_53 : decode cX7_copyRow 53 = .ok (.if_icmp .eq 7, 3) := by decide +kernel
theorem dX7_copyRow_56 : decode cX7_copyRow 56 = .ok (.iconst 3, 1) := by decide +kernel
theorem dX7_copyRow_57 : decode cX7_copyRow 57 = .ok (.goto 23, 3) := by decide +kernel
theorem dX7_copyRow_60 : decode cX7_copyRow 60 = .ok (.aload_n 0, 1) := by decide +kernel
theorem dX7_copyRow_61 : decode cX7_copyRow 61 = .ok (.getfield 71, 3) := by decide +kernel
theorem dX7_copyRow_64 : decode cX7_copyRow 64 = .ok (.iload_n 2, 1) := by decide +kernel
theorem dX7_copyRow_65 : decode cX7_copyRow 65 = .ok (.iaload, 1) := by decide +kernel
theorem dX7_copyRow_66 : decode cX7_copyRow 66 = .ok (.aload_n 0, 1) := by decide +kernel
theorem dX7_copyRow_67 : decode cX7_copyRow 67 = .ok (.getfield 71, 3) := by decide +kernel
theorem dX7_copyRow_70 : decode cX7_copyRow 70 = .ok (.iload_n 1, 1) := by decide +kernel
theorem dX7_copyRow_71 : decode cX7_copyRow 71 = .ok (.iaload, 1) := by decide +kernel
theorem dX7_copyRow_72 : decode cX7_copyRow 72 = .ok (.if_icmp .ge 7, 3) := by decide +kernel
theorem dX7_copyRow_75 : decode cX7_copyRow 75 = .ok (.iconst 4, 1) := by decide +kernel
theorem dX7_copyRow_76 : decode cX7_copyRow 76 = .ok (.goto 4, 3) := by decide +kernel
theorem dX7_copyRow_79 : decode cX7_copyRow 79 = .ok (.iconst 0, 1) := by decide +kernel
theorem dX7_copyRow_80 : decode cX7_copyRow 80 = .ok (.putfield 3, 3) := by decide +kernel
theorem dX7_copyRow_83 : decode cX7_copyRow 83 = .ok (.aload_n 0, 1) := by decide +kernel
theorem dX7_copyRow_84 : decode cX7_copyRow 84 = .ok (.getfield 3, 3) := by decide +kernel
theorem dX7_copyRow_87 : decode cX7_copyRow 87 = .ok (.ifCond .eq 5, 3) := by decide +kernel
theorem dX7_copyRow_90 : decode cX7_copyRow 90 = .ok (.iconst 0, 1) := by decide +kernel
