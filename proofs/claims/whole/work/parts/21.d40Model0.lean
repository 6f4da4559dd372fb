theorem dX7_isIn_0 : decode cX7_isIn 0 = .ok (.iload_n 0, 1) := by decide +kernel
theorem dX7_isIn_1 : decode cX7_isIn 1 = .ok (.iload_n 1, 1) := by decide +kernel
theorem dX7_isIn_2 : decode cX7_isIn 2 = .ok (.if_icmp .lt 12, 3) := by decide +kernel
theorem dX7_isIn_5 : decode cX7_isIn 5 = .ok (.iload_n 0, 1) := by decide +kernel
theorem dX7_isIn_6 : decode cX7_isIn 6 = .ok (.iload_n 2, 1) := by decide +kernel
theorem dX7_isIn_7 : decode cX7_isIn 7 = .ok (.if_icmp .gt 7, 3) := by decide +kernel
theorem dX7_isIn_10 : decode cX7_isIn 10 = .ok (.iconst 1, 1) := by decide +kernel
theorem dX7_isIn_11 : decode cX7_isIn 11 = .ok (.goto 4, 3) := by decide +kernel
theorem dX7_isIn_14 : decode cX7_isIn 14 = .ok (.iconst 0, 1) := by decide +kernel
theorem dX7_isIn_15 : decode cX7_isIn 15 = .ok (.ireturn, 1) := by decide +kernel
theorem dX7_thrown_0 : decode cX7_thrown 0 = .ok (.aload_n 0, 1) := by decide +kernel
theorem dX7_thrown_1 : decode cX7_thrown 1 = .ok (.getfield 3, 3) := by decide +kernel
theorem dX7_thrown_4 : decode cX7_thrown 4 = .ok (.ireturn, 1) := by decide +kernel
theorem dX7_fail_0 : decode cX7_fail 0 = .ok (.aload_n 0, 1) := by decide +kernel
theorem dX7_fail_1 : decode cX7_fail 1 = .ok (.iload_n 1, 1) := by decide +kernel
theorem dX7_fail_2 : decode cX7_fail 2 = .ok (.putfield 3, 3) := by decide +kernel
theorem dX7_fail_5 : decode cX7_fail 5 = .ok (.iconst 0, 1) := by decide +kernel
theorem dX7_fail_6 : decode cX7_fail 6 = .ok (.ireturn, 1) := by decide +kernel
theorem dX7_place_0 : decode cX7_place 0 = .ok (.iconst 4, 1) := by decide +kernel
theorem dX7_place_1 : decode cX7_place 1 = .ok (.bipush 20, 2) := by decide +kernel
theorem dX7_place_3 : decode cX7_place 3 = .ok (.iload_n 0, 1) := by decide +kernel
theorem dX7_place_4 : decode cX7_place 4 = .ok (.imul, 1) := by decide +kernel
theorem dX7_place_5 : decode cX7_place 5 = .ok (.iload_n 1, 1) := by decide +kernel
theorem dX7_place_6 : decode cX7_place 6 = .ok (.iadd, 1) := by decide +kernel
theorem dX7_place_7 : decode cX7_place 7 = .ok (.imul, 1) := by decide +kernel
theorem dX7_place_8 : decode cX7_place 8 = .ok (.ireturn, 1) := by decide +kernel
theorem dX7_put_0 : decode cX7_put 0 = .ok (.iload_n 1, 1) := by decide +kernel
theorem dX7_put_1 : decode cX7_put 1 = .ok (.iload_n 2, 1) := by decide +kernel
theorem dX7_put_2 : decode cX7_put 2 = .ok (.invokestatic 91, 3) := by decide +kernel
theorem dX7_put_5 : decode cX7_put 5 = .ok (.istore 7, 2) := by decide +kernel
theorem dX7_put_7 : decode cX7_put 7 = .ok (.aload_n 0, 1) := by decide +kernel
theorem dX7_put_8 : decode cX7_put 8 = .ok (.getfield 46, 3) := by decide +kernel
theorem dX7_put_11 : decode cX7_put 11 = .ok (.iload 7, 2) := by decide +kernel
theorem dX7_put_13 : decode cX7_put 13 = .ok (.iload_n 3, 1) := by decide +kernel
theorem dX7_put_14 : decode cX7_put 14 = .ok (.iastore, 1) := by decide +kernel
theorem dX7_put_15 : decode cX7_put 15 = .ok (.aload_n 0, 1) := by decide +kernel
theorem dX7_put_16 : decode cX7_put 16 = .ok (.getfield 46, 3) := by decide +kernel
theorem dX7_put_19 : decode cX7_put 19 = .ok (.iload 7, 2) := by decide +kernel
theorem dX7_put_21 : decode cX7_put 21 = .ok (.iconst 1, 1) := by decide +kernel
theorem dX7_put_22 : decode cX7_put 22 = .ok (.iadd, 1) := by decide +kernel
theorem dX7_put_23 : decode cX7_put 23 = .ok (.iload 4, 2) := by decide +kernel
theorem dX7_put_25 : decode cX7_put 25 = .ok (.iastore, 1) := by decide +kernel
theorem dX7_put_26 : decode cX7_put 26 = .ok (.aload_n 0, 1) := by decide +kernel
theorem dX7_put_27 : decode cX7_put 27 = .ok (.getfield 46, 3) := by decide +kernel
theorem dX7_put_30 : decode cX7_put 30 = .ok (.iload 7, 2) := by decide +kernel
theorem dX7_put_32 : decode cX7_put 32 = .ok (.iconst 2, 1) := by decide +kernel
theorem dX7_put_33 : decode cX7_put 33 = .ok (.iadd, 1) := by decide +kernel
theorem dX7_put_34 : decode cX7_put 34 = .ok (.iload 5, 2) := by decide +kernel
theorem dX7_put_36 : decode cX7_put 36 = .ok (.iastore, 1) := by decide +kernel
theorem dX7_put_37 : decode cX7_put 37 = .ok (.aload_n 0, 1) := by decide +kernel
theorem dX7_put_38 : decode cX7_put 38 = .ok (.getfield 46, 3) := by decide +kernel
theorem dX7_put_41 : decode cX7_put 41 = .ok (.iload 7, 2) := by decide +kernel
theorem dX7_put_43 : decode cX7_put 43 = .ok (.iconst 3, 1) := by decide +kernel
theorem dX7_put_44 : decode cX7_put 44 = .ok (.iadd, 1) := by decide +kernel
theorem dX7_put_45 : decode cX7_put 45 = .ok (.iload 6, 2) := by decide +kernel
theorem dX7_put_47 : decode cX7_put 47 = .ok (.iastore, 1) := by decide +kernel
theorem dX7_put_48 : decode cX7_put 48 = .ok (.return_, 1) := by decide +kernel
theorem dX7_clearItems_0 : decode cX7_clearItems 0 = .ok (.iconst 0, 1) := by decide +kernel
theorem dX7_clearItems_1 : decode cX7_clearItems 1 = .ok (.istore_n 1, 1) := by decide +kernel
theorem dX7_clearItems_2 : decode cX7_clearItems 2 = .ok (.iload_n 1, 1) := by decide +kernel
theorem dX7_clearItems_3 : decode cX7_clearItems 3 = .ok (.bipush 8, 2) := by decide +kernel
theorem dX7_clearItems_5 : decode cX7_clearItems 5 = .ok (.if_icmp .ge 26, 3) := by decide +kernel
theorem dX7_clearItems_8 : decode cX7_clearItems 8 = .ok (.aload_n 0, 1) := by decide +kernel
theorem dX7_clearItems_9 : decode cX7_clearItems 9 = .ok (.getfield 43, 3) := by decide +kernel
theorem dX7_clearItems_12 : decode cX7_clearItems 12 = .ok (.iload_n 1, 1) := by decide +kernel
theorem dX7_clearItems_13 : decode cX7_clearItems 13 = .ok (.iconst 1, 1) := by decide +kernel
theorem dX7_clearItems_14 : decode cX7_clearItems 14 = .ok (.iastore, 1) := by decide +kernel
theorem dX7_clearItems_15 : decode cX7_clearItems 15 = .ok (.aload_n 0, 1) := by decide +kernel
theorem dX7_clearItems_16 : decode cX7_clearItems 16 = .ok (.iload_n 1, 1) := by decide +kernel
theorem dX7_clearItems_17 : decode cX7_clearItems 17 = .ok (.iconst 0, 1) := by decide +kernel
theorem dX7_clearItems_18 : decode cX7_clearItems 18 = .ok (.iconst 0, 1) := by decide +kernel
theorem dX7_clearItems_19 : decode cX7_clearItems 19 = .ok (.iconst 0, 1) := by decide +kernel
theorem dX7_clearItems_20 : decode cX7_clearItems 20 = .ok (.iconst 0, 1) := by decide +kernel
theorem dX7_clearItems_21 : decode cX7_clearItems 21 = .ok (.iconst (-1), 1) := by decide +kernel
theorem dX7_clearItems_22 : decode cX7_clearItems 22 = .ok (.invokevirtual 87, 3) := by decide +kernel
theorem dX7_clearItems_25 : decode cX7_clearItems 25 = .ok (.iinc 1 1, 3) := by decide +kernel
theorem dX7_clearItems_28 : decode cX7_clearItems 28 = .ok (.goto (-26), 3) := by decide +kernel
theorem dX7_clearItems_31 : decode cX7_clearItems 31 = .ok (.return_, 1) := by decide +kernel
theorem dX7_written_0 : decode cX7_written 0 = .ok (.aload_n 0, 1) := by decide +kernel
theorem dX7_written_1 : decode cX7_written 1 = .ok (.getfield 46, 3) := by decide +kernel
theorem dX7_written_4 : decode cX7_written 4 = .ok (.iload_n 1, 1) := by decide +kernel
theorem dX7_written_5 : decode cX7_written 5 = .ok (.iload_n 2, 1) := by decide +kernel
theorem dX7_written_6 : decode cX7_written 6 = .ok (.invokestatic 91, 3) := by decide +kernel
theorem dX7_written_9 : decode cX7_written 9 = .ok (.iaload, 1) := by decide +kernel
theorem dX7_written_10 : decode cX7_written 10 = .ok (.ireturn, 1) := by decide +kernel
theorem dX7_isUncommitted_0 : decode cX7_isUncommitted 0 = .ok (.iload_n 1, 1) := by decide +kernel
theorem dX7_isUncommitted_1 : decode cX7_isUncommitted 1 = .ok (.iconst (-1), 1) := by decide +kernel
theorem dX7_isUncommitted_2 : decode cX7_isUncommitted 2 = .ok (.if_icmp .eq 17, 3) := by decide +kernel
theorem dX7_isUncommitted_5 : decode cX7_isUncommitted 5 = .ok (.aload_n 0, 1) := by decide +kernel
theorem dX7_isUncommitted_6 : decode cX7_isUncommitted 6 = .ok (.getfield 21, 3) := by decide +kernel
theorem dX7_isUncommitted_9 : decode cX7_isUncommitted 9 = .ok (.iload_n 1, 1) := by decide +kernel
theorem dX7_isUncommitted_10 : decode cX7_isUncommitted 10 = .ok (.iaload, 1) := by decide +kernel
theorem dX7_isUncommitted_11 : decode cX7_isUncommitted 11 = .ok (.iconst 1, 1) := by decide +kernel
theorem dX7_isUncommitted_12 : decode cX7_isUncommitted 12 = .ok (.if_icmp .gt 7, 3) := by decide +kernel
theorem dX7_isUncommitted_15 : decode cX7_isUncommitted 15 = .ok (.iconst 1, 1) := by decide +kernel
theorem dX7_isUncommitted_16 : decode cX7_isUncommitted 16 = .ok (.goto 4, 3) := by decide +kernel
theorem dX7_isUncommitted_19 : decode cX7_isUncommitted 19 = .ok (.iconst 0, 1) := by decide +kernel
theorem dX7_isUncommitted_20 : decode cX7_isUncommitted 20 = .ok (.ireturn, 1) := by decide +kernel
theorem dX7_reset_0 : decode cX7_reset 0 = .ok (.aload_n 0, 1) := by decide +kernel
theorem dX7_reset_1 : decode cX7_reset 1 = .ok (.iconst 0, 1) := by decide +kernel
theorem dX7_reset_2 : decode cX7_reset 2 = .ok (.putfield 3, 3) := by decide +kernel
theorem dX7_reset_5 : decode cX7_reset 5 = .ok (.iload_n 1, 1) := by decide +kernel
theorem dX7_reset_6 : decode cX7_reset 6 = .ok (.iconst 0, 1) := by decide +kernel
theorem dX7_reset_7 : decode cX7_reset 7 = .ok (.iconst 2, 1) := by decide +kernel
theorem dX7_reset_8 : decode cX7_reset 8 = .ok (.invokestatic 95, 3) := by decide +kernel
theorem dX7_reset_11 : decode cX7_reset 11 = .ok (.ifCond .ne 9, 3) := by decide +kernel
theorem dX7_reset_14 : decode cX7_reset 14 = .ok (.aload_n 0, 1) := by decide +kernel
theorem dX7_reset_15 : decode cX7_reset 15 = .ok (.iconst 1, 1) := by decide +kernel
theorem dX7_reset_16 : decode cX7_reset 16 = .ok (.invokevirtual 99, 3) := by decide +kernel
theorem dX7_reset_19 : decode cX7_reset 19 = .ok (.ireturn, 1) := by decide +kernel
theorem dX7_reset_20 : decode cX7_reset 20 = .ok (.aload_n 0, 1) := by decide +kernel
theorem dX7_reset_21 : decode cX7_reset 21 = .ok (.getfield 15, 3) := by decide +kernel
theorem dX7_reset_24 : decode cX7_reset 24 = .ok (.istore_n 2, 1) := by decide +kernel
theorem dX7_reset_25 : decode cX7_reset 25 = .ok (.aload_n 0, 1) := by decide +kernel
theorem dX7_reset_26 : decode cX7_reset 26 = .ok (.iload_n 1, 1) := by decide +kernel
theorem dX7_reset_27 : decode cX7_reset 27 = .ok (.putfield 15, 3) := by decide +kernel
theorem dX7_reset_30 : decode cX7_reset 30 = .ok (.aload_n 0, 1) := by decide +kernel
theorem dX7_reset_31 : decode cX7_reset 31 = .ok (.iconst 0, 1) := by decide +kernel
theorem dX7_reset_32 : decode cX7_reset 32 = .ok (.putfield 103, 3) := by decide +kernel
theorem dX7_reset_35 : decode cX7_reset 35 = .ok (.aload_n 0, 1) := by decide +kernel
theorem dX7_reset_36 : decode cX7_reset 36 = .ok (.iconst 1, 1) := by decide +kernel
theorem dX7_reset_37 : decode cX7_reset 37 = .ok (.putfield 18, 3) := by decide +kernel
theorem dX7_reset_40 : decode cX7_reset 40 = .ok (.aload_n 0, 1) := by decide +kernel
theorem dX7_reset_41 : decode cX7_reset 41 = .ok (.iconst 0, 1) := by decide +kernel
theorem dX7_reset_42 : decode cX7_reset 42 = .ok (.putfield 106, 3) := by decide +kernel
theorem dX7_reset_45 : decode cX7_reset 45 = .ok (.iconst 0, 1) := by decide +kernel
theorem dX7_reset_46 : decode cX7_reset 46 = .ok (.istore_n 3, 1) := by decide +kernel
theorem dX7_reset_47 : decode cX7_reset 47 = .ok (.iload_n 3, 1) := by decide +kernel
theorem dX7_reset_48 : decode cX7_reset 48 = .ok (.bipush 9, 2) := by decide +kernel
theorem dX7_reset_50 : decode cX7_reset 50 = .ok (.if_icmp .ge 16, 3) := by decide +kernel
theorem dX7_reset_53 : decode cX7_reset 53 = .ok (.aload_n 0, 1) := by decide +kernel
theorem dX7_reset_54 : decode cX7_reset 54 = .ok (.getfield 52, 3) := by decide +kernel
theorem dX7_reset_57 : decode cX7_reset 57 = .ok (.iload_n 3, 1) := by decide +kernel
theorem dX7_reset_58 : decode cX7_reset 58 = .ok (.iconst 0, 1) := by decide +kernel
theorem dX7_reset_59 : decode cX7_reset 59 = .ok (.iastore, 1) := by decide +kernel
theorem dX7_reset_60 : decode cX7_reset 60 = .ok (.iinc 3 1, 3) := by decide +kernel
theorem dX7_reset_63 : decode cX7_reset 63 = .ok (.goto (-16), 3) := by decide +kernel
theorem dX7_reset_66 : decode cX7_reset 66 = .ok (.aload_n 0, 1) := by decide +kernel
theorem dX7_reset_67 : decode cX7_reset 67 = .ok (.invokevirtual 84, 3) := by decide +kernel
theorem dX7_reset_70 : decode cX7_reset 70 = .ok (.iload_n 2, 1) := by decide +kernel
theorem dX7_reset_71 : decode cX7_reset 71 = .ok (.ireturn, 1) := by decide +kernel
theorem dX7_record_0 : decode cX7_record 0 = .ok (.aload_n 0, 1) := by decide +kernel
theorem dX7_record_1 : decode cX7_record 1 = .ok (.getfield 52, 3) := by decide +kernel
theorem dX7_record_4 : decode cX7_record 4 = .ok (.iload_n 1, 1) := by decide +kernel
theorem dX7_record_5 : decode cX7_record 5 = .ok (.dup2, 1) := by decide +kernel
theorem dX7_record_6 : decode cX7_record 6 = .ok (.iaload, 1) := by decide +kernel
theorem dX7_record_7 : decode cX7_record 7 = .ok (.iconst 1, 1) := by decide +kernel
theorem dX7_record_8 : decode cX7_record 8 = .ok (.iadd, 1) := by decide +kernel
theorem dX7_record_9 : decode cX7_record 9 = .ok (.iastore, 1) := by decide +kernel
theorem dX7_record_10 : decode cX7_record 10 = .ok (.aload_n 0, 1) := by decide +kernel
theorem dX7_record_11 : decode cX7_record 11 = .ok (.getfield 106, 3) := by decide +kernel
theorem dX7_record_14 : decode cX7_record 14 = .ok (.bipush 50, 2) := by decide +kernel
theorem dX7_record_16 : decode cX7_record 16 = .ok (.if_icmp .ne 46, 3) := by decide +kernel
theorem dX7_record_19 : decode cX7_record 19 = .ok (.iconst 0, 1) := by decide +kernel
theorem dX7_record_20 : decode cX7_record 20 = .ok (.istore 4, 2) := by decide +kernel
theorem dX7_record_22 : decode cX7_record 22 = .ok (.iload 4, 2) := by decide +kernel
theorem dX7_record_24 : decode cX7_record 24 = .ok (.sipush 147, 3) := by decide +kernel
theorem dX7_record_27 : decode cX7_record 27 = .ok (.if_icmp .ge 25, 3) := by decide +kernel
theorem dX7_record_30 : decode cX7_record 30 = .ok (.aload_n 0, 1) := by decide +kernel
theorem dX7_record_31 : decode cX7_record 31 = .ok (.getfield 49, 3) := by decide +kernel
theorem dX7_record_34 : decode cX7_record 34 = .ok (.iload 4, 2) := by decide +kernel
theorem dX7_record_36 : decode cX7_record 36 = .ok (.aload_n 0, 1) := by decide +kernel
theorem dX7_record_37 : decode cX7_record 37 = .ok (.getfield 49, 3) := by decide +kernel
theorem dX7_record_40 : decode cX7_record 40 = .ok (.iload 4, 2) := by decide +kernel
theorem dX7_record_42 : decode cX7_record 42 = .ok (.iconst 3, 1) := by decide +kernel
theorem dX7_record_43 : decode cX7_record 43 = .ok (.iadd, 1) := by decide +kernel
theorem dX7_record_44 : decode cX7_record 44 = .ok (.iaload, 1) := by decide +kernel
theorem dX7_record_45 : decode cX7_record 45 = .ok (.iastore, 1) := by decide +kernel
theorem dX7_record_46 : decode cX7_record 46 = .ok (.iinc 4 1, 3) := by decide +kernel
theorem dX7_record_49 : decode cX7_record 49 = .ok (.goto (-27), 3) := by decide +kernel
theorem dX7_record_52 : decode cX7_record 52 = .ok (.aload_n 0, 1) := by decide +kernel
theorem dX7_record_53 : decode cX7_record 53 = .ok (.dup, 1) := by decide +kernel
theorem dX7_record_54 : decode cX7_record 54 = .ok (.getfield 106, 3) := by decide +kernel
theorem dX7_record_57 : decode cX7_record 57 = .ok (.iconst 1, 1) := by decide +kernel
theorem dX7_record_58 : decode cX7_record 58 = .ok (.isub, 1) := by decide +kernel
theorem dX7_record_59 : decode cX7_record 59 = .ok (.putfield 106, 3) := by decide +kernel
theorem dX7_record_62 : decode cX7_record 62 = .ok (.aload_n 0, 1) := by decide +kernel
theorem dX7_record_63 : decode cX7_record 63 = .ok (.getfield 49, 3) := by decide +kernel
theorem dX7_record_66 : decode cX7_record 66 = .ok (.iconst 3, 1) := by decide +kernel
theorem dX7_record_67 : decode cX7_record 67 = .ok (.aload_n 0, 1) := by decide +kernel
theorem dX7_record_68 : decode cX7_record 68 = .ok (.getfield 106, 3) := by decide +kernel
theorem dX7_record_71 : decode cX7_record 71 = .ok (.imul, 1) := by decide +kernel
theorem dX7_record_72 : decode cX7_record 72 = .ok (.iload_n 1, 1) := by decide +kernel
theorem dX7_record_73 : decode cX7_record 73 = .ok (.iastore, 1) := by decide +kernel
theorem dX7_record_74 : decode cX7_record 74 = .ok (.aload_n 0, 1) := by decide +kernel
theorem dX7_record_75 : decode cX7_record 75 = .ok (.getfield 49, 3) := by decide +kernel
theorem dX7_record_78 : decode cX7_record 78 = .ok (.iconst 3, 1) := by decide +kernel
theorem dX7_record_79 : decode cX7_record 79 = .ok (.aload_n 0, 1) := by decide +kernel
theorem dX7_record_80 : decode cX7_record 80 = .ok (.getfield 106, 3) := by decide +kernel
theorem dX7_record_83 : decode cX7_record 83 = .ok (.imul, 1) := by decide +kernel
theorem dX7_record_84 : decode cX7_record 84 = .ok (.iconst 1, 1) := by decide +kernel
theorem dX7_record_85 : decode cX7_record 85 = .ok (.iadd, 1) := by decide +kernel
theorem dX7_record_86 : decode cX7_record 86 = .ok (.iload_n 2, 1) := by decide +kernel
theorem dX7_record_87 : decode cX7_record 87 = .ok (.iastore, 1) := by decide +kernel
theorem dX7_record_88 : decode cX7_record 88 = .ok (.aload_n 0, 1) := by decide +kernel
theorem dX7_record_89 : decode cX7_record 89 = .ok (.getfield 49, 3) := by decide +kernel
theorem dX7_record_92 : decode cX7_record 92 = .ok (.iconst 3, 1) := by decide +kernel
theorem dX7_record_93 : decode cX7_record 93 = .ok (.aload_n 0, 1) := by decide +kernel
theorem dX7_record_94 : decode cX7_record 94 = .ok (.getfield 106, 3) := by decide +kernel
theorem dX7_record_97 : decode cX7_record 97 = .ok (.imul, 1) := by decide +kernel
theorem dX7_record_98 : decode cX7_record 98 = .ok (.iconst 2, 1) := by decide +kernel
theorem dX7_record_99 : decode cX7_record 99 = .ok (.iadd, 1) := by decide +kernel
theorem dX7_record_100 : decode cX7_record 100 = .ok (.iload_n 3, 1) := by decide +kernel
theorem dX7_record_101 : decode cX7_record 101 = .ok (.iastore, 1) := by decide +kernel
theorem dX7_record_102 : decode cX7_record 102 = .ok (.aload_n 0, 1) := by decide +kernel
theorem dX7_record_103 : decode cX7_record 103 = .ok (.dup, 1) := by decide +kernel
theorem dX7_record_104 : decode cX7_record 104 = .ok (.getfield 106, 3) := by decide +kernel
theorem dX7_record_107 : decode cX7_record 107 = .ok (.iconst 1, 1) := by decide +kernel
theorem dX7_record_108 : decode cX7_record 108 = .ok (.iadd, 1) := by decide +kernel
theorem dX7_record_109 : decode cX7_record 109 = .ok (.putfield 106, 3) := by decide +kernel
theorem dX7_record_112 : decode cX7_record 112 = .ok (.return_, 1) := by decide +kernel
theorem dX7_eventCount_0 : decode cX7_eventCount 0 = .ok (.aload_n 0, 1) := by decide +kernel
theorem dX7_eventCount_1 : decode cX7_eventCount 1 = .ok (.iconst 0, 1) := by decide +kernel
theorem dX7_eventCount_2 : decode cX7_eventCount 2 = .ok (.putfield 3, 3) := by decide +kernel
theorem dX7_eventCount_5 : decode cX7_eventCount 5 = .ok (.aload_n 0, 1) := by decide +kernel
theorem dX7_eventCount_6 : decode cX7_eventCount 6 = .ok (.getfield 106, 3) := by decide +kernel
theorem dX7_eventCount_9 : decode cX7_eventCount 9 = .ok (.ireturn, 1) := by decide +kernel
theorem dX7_event_0 : decode cX7_event 0 = .ok (.aload_n 0, 1) := by decide +kernel
theorem dX7_event_1 : decode cX7_event 1 = .ok (.iconst 0, 1) := by decide +kernel
theorem dX7_event_2 : decode cX7_event 2 = .ok (.putfield 3, 3) := by decide +kernel
theorem dX7_event_5 : decode cX7_event 5 = .ok (.iload_n 1, 1) := by decide +kernel
theorem dX7_event_6 : decode cX7_event 6 = .ok (.iconst 0, 1) := by decide +kernel
theorem dX7_event_7 : decode cX7_event 7 = .ok (.aload_n 0, 1) := by decide +kernel
theorem dX7_event_8 : decode cX7_event 8 = .ok (.getfield 106, 3) := by decide +kernel
theorem dX7_event_11 : decode cX7_event 11 = .ok (.iconst 1, 1) := by decide +kernel
theorem dX7_event_12 : decode cX7_event 12 = .ok (.isub, 1) := by decide +kernel
theorem dX7_event_13 : decode cX7_event 13 = .ok (.invokestatic 95, 3) := by decide +kernel
theorem dX7_event_16 : decode cX7_event 16 = .ok (.ifCond .eq 25, 3) := by decide +kernel
theorem dX7_event_19 : decode cX7_event 19 = .ok (.iload_n 2, 1) := by decide +kernel
theorem dX7_event_20 : decode cX7_event 20 = .ok (.iconst 0, 1) := by decide +kernel
theorem dX7_event_21 : decode cX7_event 21 = .ok (.iconst 2, 1) := by decide +kernel
theorem dX7_event_22 : decode cX7_event 22 = .ok (.invokestatic 95, 3) := by decide +kernel
theorem dX7_event_25 : decode cX7_event 25 = .ok (.ifCond .eq 16, 3) := by decide +kernel
theorem dX7_event_28 : decode cX7_event 28 = .ok (.aload_n 0, 1) := by decide +kernel
theorem dX7_event_29 : decode cX7_event 29 = .ok (.getfield 49, 3) := by decide +kernel
theorem dX7_event_32 : decode cX7_event 32 = .ok (.iconst 3, 1) := by decide +kernel
theorem dX7_event_33 : decode cX7_event 33 = .ok (.iload_n 1, 1) := by decide +kernel
theorem dX7_event_34 : decode cX7_event 34 = .ok (.imul, 1) := by decide +kernel
theorem dX7_event_35 : decode cX7_event 35 = .ok (.iload_n 2, 1) := by decide +kernel
theorem dX7_event_36 : decode cX7_event 36 = .ok (.iadd, 1) := by decide +kernel
theorem dX7_event_37 : decode cX7_event 37 = .ok (.iaload, 1) := by decide +kernel
theorem dX7_event_38 : decode cX7_event 38 = .ok (.goto 8, 3) := by decide +kernel
theorem dX7_event_41 : decode cX7_event 41 = .ok (.aload_n 0, 1) := by decide +kernel
theorem dX7_event_42 : decode cX7_event 42 = .ok (.iconst 1, 1) := by decide +kernel
theorem dX7_event_43 : decode cX7_event 43 = .ok (.invokevirtual 99, 3) := by decide +kernel
theorem dX7_event_46 : decode cX7_event 46 = .ok (.ireturn, 1) := by decide +kernel
theorem dX7_total_0 : decode cX7_total 0 = .ok (.aload_n 0, 1) := by decide +kernel
theorem dX7_total_1 : decode cX7_total 1 = .ok (.iconst 0, 1) := by decide +kernel
theorem dX7_total_2 : decode cX7_total 2 = .ok (.putfield 3, 3) := by decide +kernel
theorem dX7_total_5 : decode cX7_total 5 = .ok (.iload_n 1, 1) := by decide +kernel
theorem dX7_total_6 : decode cX7_total 6 = .ok (.iconst 0, 1) := by decide +kernel
theorem dX7_total_7 : decode cX7_total 7 = .ok (.bipush 8, 2) := by decide +kernel
theorem dX7_total_9 : decode cX7_total 9 = .ok (.invokestatic 95, 3) := by decide +kernel
theorem dX7_total_12 : decode cX7_total 12 = .ok (.ifCond .eq 12, 3) := by decide +kernel
theorem dX7_total_15 : decode cX7_total 15 = .ok (.aload_n 0, 1) := by decide +kernel
theorem dX7_total_16 : decode cX7_total 16 = .ok (.getfield 52, 3) := by decide +kernel
theorem dX7_total_19 : decode cX7_total 19 = .ok (.iload_n 1, 1) := by decide +kernel
theorem dX7_total_20 : decode cX7_total 20 = .ok (.iaload, 1) := by decide +kernel
theorem dX7_total_21 : decode cX7_total 21 = .ok (.goto 8, 3) := by decide +kernel
theorem dX7_total_24 : decode cX7_total 24 = .ok (.aload_n 0, 1) := by decide +kernel
theorem dX7_total_25 : decode cX7_total 25 = .ok (.iconst 1, 1) := by decide +kernel
theorem dX7_total_26 : decode cX7_total 26 = .ok (.invokevirtual 99, 3) := by decide +kernel
theorem dX7_total_29 : decode cX7_total 29 = .ok (.ireturn, 1) := by decide +kernel
theorem dX7_abortShare_0 : decode cX7_abortShare 0 = .ok (.aload_n 0, 1) := by decide +kernel
theorem dX7_abortShare_1 : decode cX7_abortShare 1 = .ok (.iconst 0, 1) := by decide +kernel
theorem dX7_abortShare_2 : decode cX7_abortShare 2 = .ok (.putfield 3, 3) := by decide +kernel
theorem dX7_abortShare_5 : decode cX7_abortShare 5 = .ok (.aload_n 0, 1) := by decide +kernel
theorem dX7_abortShare_6 : decode cX7_abortShare 6 = .ok (.getfield 18, 3) := by decide +kernel
theorem dX7_abortShare_9 : decode cX7_abortShare 9 = .ok (.iconst 1, 1) := by decide +kernel
theorem dX7_abortShare_10 : decode cX7_abortShare 10 = .ok (.if_icmp .ne 12, 3) := by decide +kernel
theorem dX7_abortShare_13 : decode cX7_abortShare 13 = .ok (.aload_n 0, 1) := by decide +kernel
theorem dX7_abortShare_14 : decode cX7_abortShare 14 = .ok (.iconst 1, 1) := by decide +kernel
theorem dX7_abortShare_15 : decode cX7_abortShare 15 = .ok (.invokevirtual 99, 3) := by decide +kernel
theorem dX7_abortShare_18 : decode cX7_abortShare 18 = .ok (.i2d, 1) := by decide +kernel
theorem dX7_abortShare_19 : decode cX7_abortShare 19 = .ok (.goto 27, 3) := by decide +kernel
theorem dX7_abortShare_22 : decode cX7_abortShare 22 = .ok (.aload_n 0, 1) := by decide +kernel
theorem dX7_abortShare_23 : decode cX7_abortShare 23 = .ok (.getfield 52, 3) := by decide +kernel
theorem dX7_abortShare_26 : decode cX7_abortShare 26 = .ok (.bipush 6, 2) := by decide +kernel
theorem dX7_abortShare_28 : decode cX7_abortShare 28 = .ok (.iaload, 1) := by decide +kernel
theorem dX7_abortShare_29 : decode cX7_abortShare 29 = .ok (.aload_n 0, 1) := by decide +kernel
theorem dX7_abortShare_30 : decode cX7_abortShare 30 = .ok (.getfield 52, 3) := by decide +kernel
theorem dX7_abortShare_33 : decode cX7_abortShare 33 = .ok (.bipush 7, 2) := by decide +kernel
theorem dX7_abortShare_35 : decode cX7_abortShare 35 = .ok (.iaload, 1) := by decide +kernel
theorem dX7_abortShare_36 : decode cX7_abortShare 36 = .ok (.iadd, 1) := by decide +kernel
theorem dX7_abortShare_37 : decode cX7_abortShare 37 = .ok (.i2d, 1) := by decide +kernel
theorem dX7_abortShare_38 : decode cX7_abortShare 38 = .ok (.aload_n 0, 1) := by decide +kernel
theorem dX7_abortShare_39 : decode cX7_abortShare 39 = .ok (.getfield 18, 3) := by decide +kernel
theorem dX7_abortShare_42 : decode cX7_abortShare 42 = .ok (.iconst 1, 1) := by decide +kernel
theorem dX7_abortShare_43 : decode cX7_abortShare 43 = .ok (.isub, 1) := by decide +kernel
theorem dX7_abortShare_44 : decode cX7_abortShare 44 = .ok (.i2d, 1) := by decide +kernel
theorem dX7_abortShare_45 : decode cX7_abortShare 45 = .ok (.ddiv, 1) := by decide +kernel
theorem dX7_abortShare_46 : decode cX7_abortShare 46 = .ok (.dreturn, 1) := by decide +kernel
theorem dX7_isTransaction_0 : decode cX7_isTransaction 0 = .ok (.iload_n 1, 1) := by decide +kernel
theorem dX7_isTransaction_1 : decode cX7_isTransaction 1 = .ok (.iconst 0, 1) := by decide +kernel
theorem dX7_isTransaction_2 : decode cX7_isTransaction 2 = .ok (.aload_n 0, 1) := by decide +kernel
theorem dX7_isTransaction_3 : decode cX7_isTransaction 3 = .ok (.getfield 103, 3) := by decide +kernel
theorem dX7_isTransaction_6 : decode cX7_isTransaction 6 = .ok (.iconst 1, 1) := by decide +kernel
theorem dX7_isTransaction_7 : decode cX7_isTransaction 7 = .ok (.isub, 1) := by decide +kernel
theorem dX7_isTransaction_8 : decode cX7_isTransaction 8 = .ok (.invokestatic 95, 3) := by decide +kernel
theorem dX7_isTransaction_11 : decode cX7_isTransaction 11 = .ok (.ireturn, 1) := by decide +kernel
theorem dX7_isItem_0 : decode cX7_isItem 0 = .ok (.iload_n 0, 1) := by decide +kernel
theorem dX7_isItem_1 : decode cX7_isItem 1 = .ok (.iconst 0, 1) := by decide +kernel
theorem dX7_isItem_2 : decode cX7_isItem 2 = .ok (.bipush 7, 2) := by decide +kernel
theorem dX7_isItem_4 : decode cX7_isItem 4 = .ok (.invokestatic 95, 3) := by decide +kernel
theorem dX7_isItem_7 : decode cX7_isItem 7 = .ok (.ireturn, 1) := by decide +kernel
theorem dX7_begin_0 : decode cX7_begin 0 = .ok (.aload_n 0, 1) := by decide +kernel
theorem dX7_begin_1 : decode cX7_begin 1 = .ok (.iconst 0, 1) := by decide +kernel
theorem dX7_begin_2 : decode cX7_begin 2 = .ok (.putfield 3, 3) := by decide +kernel
theorem dX7_begin_5 : decode cX7_begin 5 = .ok (.iload_n 1, 1) := by decide +kernel
theorem dX7_begin_6 : decode cX7_begin 6 = .ok (.iconst 0, 1) := by decide +kernel
theorem dX7_begin_7 : decode cX7_begin 7 = .ok (.bipush 9, 2) := by decide +kernel
theorem dX7_begin_9 : decode cX7_begin 9 = .ok (.invokestatic 95, 3) := by decide +kernel
theorem dX7_begin_12 : decode cX7_begin 12 = .ok (.ifCond .ne 9, 3) := by decide +kernel
theorem dX7_begin_15 : decode cX7_begin 15 = .ok (.aload_n 0, 1) := by decide +kernel
theorem dX7_begin_16 : decode cX7_begin 16 = .ok (.iconst 1, 1) := by decide +kernel
theorem dX7_begin_17 : decode cX7_begin 17 = .ok (.invokevirtual 99, 3) := by decide +kernel
theorem dX7_begin_20 : decode cX7_begin 20 = .ok (.ireturn, 1) := by decide +kernel
theorem dX7_begin_21 : decode cX7_begin 21 = .ok (.aload_n 0, 1) := by decide +kernel
theorem dX7_begin_22 : decode cX7_begin 22 = .ok (.getfield 103, 3) := by decide +kernel
theorem dX7_begin_25 : decode cX7_begin 25 = .ok (.bipush 16, 2) := by decide +kernel
theorem dX7_begin_27 : decode cX7_begin 27 = .ok (.if_icmp .ne 9, 3) := by decide +kernel
theorem dX7_begin_30 : decode cX7_begin 30 = .ok (.aload_n 0, 1) := by decide +kernel
theorem dX7_begin_31 : decode cX7_begin 31 = .ok (.iconst 2, 1) := by decide +kernel
theorem dX7_begin_32 : decode cX7_begin 32 = .ok (.invokevirtual 99, 3) := by decide +kernel
theorem dX7_begin_35 : decode cX7_begin 35 = .ok (.ireturn, 1) := by decide +kernel
theorem dX7_begin_36 : decode cX7_begin 36 = .ok (.aload_n 0, 1) := by decide +kernel
theorem dX7_begin_37 : decode cX7_begin 37 = .ok (.getfield 21, 3) := by decide +kernel
theorem dX7_begin_40 : decode cX7_begin 40 = .ok (.aload_n 0, 1) := by decide +kernel
theorem dX7_begin_41 : decode cX7_begin 41 = .ok (.getfield 103, 3) := by decide +kernel
theorem dX7_begin_44 : decode cX7_begin 44 = .ok (.iconst 0, 1) := by decide +kernel
theorem dX7_begin_45 : decode cX7_begin 45 = .ok (.iastore, 1) := by decide +kernel
theorem dX7_begin_46 : decode cX7_begin 46 = .ok (.aload_n 0, 1) := by decide +kernel
theorem dX7_begin_47 : decode cX7_begin 47 = .ok (.getfield 25, 3) := by decide +kernel
theorem dX7_begin_50 : decode cX7_begin 50 = .ok (.aload_n 0, 1) := by decide +kernel
theorem dX7_begin_51 : decode cX7_begin 51 = .ok (.getfield 103, 3) := by decide +kernel
theorem dX7_begin_54 : decode cX7_begin 54 = .ok (.aload_n 0, 1) := by decide +kernel
theorem dX7_begin_55 : decode cX7_begin 55 = .ok (.getfield 18, 3) := by decide +kernel
theorem dX7_begin_58 : decode cX7_begin 58 = .ok (.iastore, 1) := by decide +kernel
theorem dX7_begin_59 : decode cX7_begin 59 = .ok (.aload_n 0, 1) := by decide +kernel
theorem dX7_begin_60 : decode cX7_begin 60 = .ok (.getfield 28, 3) := by decide +kernel
theorem dX7_begin_63 : decode cX7_begin 63 = .ok (.aload_n 0, 1) := by decide +kernel
theorem dX7_begin_64 : decode cX7_begin 64 = .ok (.getfield 103, 3) := by decide +kernel
theorem dX7_begin_67 : decode cX7_begin 67 = .ok (.iload_n 1, 1) := by decide +kernel
theorem dX7_begin_68 : decode cX7_begin 68 = .ok (.iastore, 1) := by decide +kernel
theorem dX7_begin_69 : decode cX7_begin 69 = .ok (.aload_n 0, 1) := by decide +kernel
theorem dX7_begin_70 : decode cX7_begin 70 = .ok (.getfield 31, 3) := by decide +kernel
theorem dX7_begin_73 : decode cX7_begin 73 = .ok (.aload_n 0, 1) := by decide +kernel
theorem dX7_begin_74 : decode cX7_begin 74 = .ok (.getfield 103, 3) := by decide +kernel
theorem dX7_begin_77 : decode cX7_begin 77 = .ok (.iconst 0, 1) := by decide +kernel
theorem dX7_begin_78 : decode cX7_begin 78 = .ok (.iastore, 1) := by decide +kernel
theorem dX7_begin_79 : decode cX7_begin 79 = .ok (.aload_n 0, 1) := by decide +kernel
theorem dX7_begin_80 : decode cX7_begin 80 = .ok (.getfield 34, 3) := by decide +kernel
theorem dX7_begin_83 : decode cX7_begin 83 = .ok (.aload_n 0, 1) := by decide +kernel
theorem dX7_begin_84 : decode cX7_begin 84 = .ok (.getfield 103, 3) := by decide +kernel
theorem dX7_begin_87 : decode cX7_begin 87 = .ok (.iconst 0, 1) := by decide +kernel
theorem dX7_begin_88 : decode cX7_begin 88 = .ok (.iastore, 1) := by decide +kernel
theorem dX7_begin_89 : decode cX7_begin 89 = .ok (.aload_n 0, 1) := by decide +kernel
theorem dX7_begin_90 : decode cX7_begin 90 = .ok (.getfield 40, 3) := by decide +kernel
theorem dX7_begin_93 : decode cX7_begin 93 = .ok (.aload_n 0, 1) := by decide +kernel
theorem dX7_begin_94 : decode cX7_begin 94 = .ok (.getfield 103, 3) := by decide +kernel
theorem dX7_begin_97 : decode cX7_begin 97 = .ok (.iconst 0, 1) := by decide +kernel
theorem dX7_begin_98 : decode cX7_begin 98 = .ok (.iastore, 1) := by decide +kernel
theorem dX7_begin_99 : decode cX7_begin 99 = .ok (.aload_n 0, 1) := by decide +kernel
theorem dX7_begin_100 : decode cX7_begin 100 = .ok (.dup, 1) := by decide +kernel
theorem dX7_begin_101 : decode cX7_begin 101 = .ok (.getfield 18, 3) := by decide +kernel
theorem dX7_begin_104 : decode cX7_begin 104 = .ok (.iconst 1, 1) := by decide +kernel
theorem dX7_begin_105 : decode cX7_begin 105 = .ok (.iadd, 1) := by decide +kernel
theorem dX7_begin_106 : decode cX7_begin 106 = .ok (.putfield 18, 3) := by decide +kernel
theorem dX7_begin_109 : decode cX7_begin 109 = .ok (.aload_n 0, 1) := by decide +kernel
theorem dX7_begin_110 : decode cX7_begin 110 = .ok (.iconst 0, 1) := by decide +kernel
theorem dX7_begin_111 : decode cX7_begin 111 = .ok (.aload_n 0, 1) := by decide +kernel
theorem dX7_begin_112 : decode cX7_begin 112 = .ok (.getfield 103, 3) := by decide +kernel
theorem dX7_begin_115 : decode cX7_begin 115 = .ok (.iconst (-1), 1) := by decide +kernel
theorem dX7_begin_116 : decode cX7_begin 116 = .ok (.invokevirtual 109, 3) := by decide +kernel
theorem dX7_begin_119 : decode cX7_begin 119 = .ok (.aload_n 0, 1) := by decide +kernel
theorem dX7_begin_120 : decode cX7_begin 120 = .ok (.dup, 1) := by decide +kernel
theorem dX7_begin_121 : decode cX7_begin 121 = .ok (.getfield 103, 3) := by decide +kernel
theorem dX7_begin_124 : decode cX7_begin 124 = .ok (.iconst 1, 1) := by decide +kernel
theorem dX7_begin_125 : decode cX7_begin 125 = .ok (.iadd, 1) := by decide +kernel
theorem dX7_begin_126 : decode cX7_begin 126 = .ok (.putfield 103, 3) := by decide +kernel
theorem dX7_begin_129 : decode cX7_begin 129 = .ok (.aload_n 0, 1) := by decide +kernel
theorem dX7_begin_130 : decode cX7_begin 130 = .ok (.getfield 103, 3) := by decide +kernel
theorem dX7_begin_133 : decode cX7_begin 133 = .ok (.iconst 1, 1) := by decide +kernel
theorem dX7_begin_134 : decode cX7_begin 134 = .ok (.isub, 1) := by decide +kernel
theorem dX7_begin_135 : decode cX7_begin 135 = .ok (.ireturn, 1) := by decide +kernel
theorem dX7_takeVersions_0 : decode cX7_takeVersions 0 = .ok (.iconst 0, 1) := by decide +kernel
theorem dX7_takeVersions_1 : decode cX7_takeVersions 1 = .ok (.istore_n 2, 1) := by decide +kernel
theorem dX7_takeVersions_2 : decode cX7_takeVersions 2 = .ok (.iload_n 2, 1) := by decide +kernel
theorem dX7_takeVersions_3 : decode cX7_takeVersions 3 = .ok (.bipush 8, 2) := by decide +kernel
theorem dX7_takeVersions_5 : decode cX7_takeVersions 5 = .ok (.if_icmp .ge 102, 3) := by decide +kernel
theorem dX7_takeVersions_8 : decode cX7_takeVersions 8 = .ok (.iconst 0, 1) := by decide +kernel
theorem dX7_takeVersions_9 : decode cX7_takeVersions 9 = .ok (.istore_n 3, 1) := by decide +kernel
theorem dX7_takeVersions_10 : decode cX7_takeVersions 10 = .ok (.iconst 0, 1) := by decide +kernel
theorem dX7_takeVersions_11 : decode cX7_takeVersions 11 = .ok (.istore 4, 2) := by decide +kernel
theorem dX7_takeVersions_13 : decode cX7_takeVersions 13 = .ok (.iload 4, 2) := by decide +kernel
theorem dX7_takeVersions_15 : decode cX7_takeVersions 15 = .ok (.aload_n 0, 1) := by decide +kernel
theorem dX7_takeVersions_16 : decode cX7_takeVersions 16 = .ok (.getfield 43, 3) := by decide +kernel
theorem dX7_takeVersions_19 : decode cX7_takeVersions 19 = .ok (.iload_n 2, 1) := by decide +kernel
theorem dX7_takeVersions_20 : decode cX7_takeVersions 20 = .ok (.iaload, 1) := by decide +kernel
theorem dX7_takeVersions_21 : decode cX7_takeVersions 21 = .ok (.if_icmp .ge 73, 3) := by decide +kernel
theorem dX7_takeVersions_24 : decode cX7_takeVersions 24 = .ok (.iload_n 2, 1) := by decide +kernel
theorem dX7_takeVersions_25 : decode cX7_takeVersions 25 = .ok (.iload 4, 2) := by decide +kernel
theorem dX7_takeVersions_27 : decode cX7_takeVersions 27 = .ok (.invokestatic 91, 3) := by decide +kernel
theorem dX7_takeVersions_30 : decode cX7_takeVersions 30 = .ok (.istore 5, 2) := by decide +kernel
theorem dX7_takeVersions_32 : decode cX7_takeVersions 32 = .ok (.aload_n 0, 1) := by decide +kernel
theorem dX7_takeVersions_33 : decode cX7_takeVersions 33 = .ok (.getfield 46, 3) := by decide +kernel
theorem dX7_takeVersions_36 : decode cX7_takeVersions 36 = .ok (.iload 5, 2) := by decide +kernel
theorem dX7_takeVersions_38 : decode cX7_takeVersions 38 = .ok (.iconst 3, 1) := by decide +kernel
theorem dX7_takeVersions_39 : decode cX7_takeVersions 39 = .ok (.iadd, 1) := by decide +kernel
theorem dX7_takeVersions_40 : decode cX7_takeVersions 40 = .ok (.iaload, 1) := by decide +kernel
theorem dX7_takeVersions_41 : decode cX7_takeVersions 41 = .ok (.iload_n 1, 1) := by decide +kernel
theorem dX7_takeVersions_42 : decode cX7_takeVersions 42 = .ok (.if_icmp .eq 46, 3) := by decide +kernel
theorem dX7_takeVersions_45 : decode cX7_takeVersions 45 = .ok (.aload_n 0, 1) := by decide +kernel
theorem dX7_takeVersions_46 : decode cX7_takeVersions 46 = .ok (.iload_n 2, 1) := by decide +kernel
theorem dX7_takeVersions_47 : decode cX7_takeVersions 47 = .ok (.iload_n 3, 1) := by decide +kernel
theorem dX7_takeVersions_48 : decode cX7_takeVersions 48 = .ok (.aload_n 0, 1) := by decide +kernel
theorem dX7_takeVersions_49 : decode cX7_takeVersions 49 = .ok (.getfield 46, 3) := by decide +kernel
theorem dX7_takeVersions_52 : decode cX7_takeVersions 52 = .ok (.iload 5, 2) := by decide +kernel
theorem dX7_takeVersions_54 : decode cX7_takeVersions 54 = .ok (.iaload, 1) := by decide +kernel
theorem dX7_takeVersions_55 : decode cX7_takeVersions 55 = .ok (.aload_n 0, 1) := by decide +kernel
theorem dX7_takeVersions_56 : decode cX7_takeVersions 56 = .ok (.getfield 46, 3) := by decide +kernel
theorem dX7_takeVersions_59 : decode cX7_takeVersions 59 = .ok (.iload 5, 2) := by decide +kernel
theorem dX7_takeVersions_61 : decode cX7_takeVersions 61 = .ok (.iconst 1, 1) := by decide +kernel
theorem dX7_takeVersions_62 : decode cX7_takeVersions 62 = .ok (.iadd, 1) := by decide +kernel
theorem dX7_takeVersions_63 : decode cX7_takeVersions 63 = .ok (.iaload, 1) := by decide +kernel
theorem dX7_takeVersions_64 : decode cX7_takeVersions 64 = .ok (.aload_n 0, 1) := by decide +kernel
theorem dX7_takeVersions_65 : decode cX7_takeVersions 65 = .ok (.getfield 46, 3) := by decide +kernel
theorem dX7_takeVersions_68 : decode cX7_takeVersions 68 = .ok (.iload 5, 2) := by decide +kernel
theorem dX7_takeVersions_70 : decode cX7_takeVersions 70 = .ok (.iconst 2, 1) := by decide +kernel
theorem dX7_takeVersions_71 : decode cX7_takeVersions 71 = .ok (.iadd, 1) := by decide +kernel
theorem dX7_takeVersions_72 : decode cX7_takeVersions 72 = .ok (.iaload, 1) := by decide +kernel
theorem dX7_takeVersions_73 : decode cX7_takeVersions 73 = .ok (.aload_n 0, 1) := by decide +kernel
theorem dX7_takeVersions_74 : decode cX7_takeVersions 74 = .ok (.getfield 46, 3) := by decide +kernel
theorem dX7_takeVersions_77 : decode cX7_takeVersions 77 = .ok (.iload 5, 2) := by decide +kernel
theorem dX7_takeVersions_79 : decode cX7_takeVersions 79 = .ok (.iconst 3, 1) := by decide +kernel
theorem dX7_takeVersions_80 : decode cX7_takeVersions 80 = .ok (.iadd, 1) := by decide +kernel
theorem dX7_takeVersions_81 : decode cX7_takeVersions 81 = .ok (.iaload, 1) := by decide +kernel
theorem dX7_takeVersions_82 : decode cX7_takeVersions 82 = .ok (.invokevirtual 87, 3) := by decide +kernel
theorem dX7_takeVersions_85 : decode cX7_takeVersions 85 = .ok (.iinc 3 1, 3) := by decide +kernel
theorem dX7_takeVersions_88 : decode cX7_takeVersions 88 = .ok (.iinc 4 1, 3) := by decide +kernel
theorem dX7_takeVersions_91 : decode cX7_takeVersions 91 = .ok (.goto (-78), 3) := by decide +kernel
theorem dX7_takeVersions_94 : decode cX7_takeVersions 94 = .ok (.aload_n 0, 1) := by decide +kernel
theorem dX7_takeVersions_95 : decode cX7_takeVersions 95 = .ok (.getfield 43, 3) := by decide +kernel
theorem dX7_takeVersions_98 : decode cX7_takeVersions 98 = .ok (.iload_n 2, 1) := by decide +kernel
theorem dX7_takeVersions_99 : decode cX7_takeVersions 99 = .ok (.iload_n 3, 1) := by decide +kernel
theorem dX7_takeVersions_100 : decode cX7_takeVersions 100 = .ok (.iastore, 1) := by decide +kernel
theorem dX7_takeVersions_101 : decode cX7_takeVersions 101 = .ok (.iinc 2 1, 3) := by decide +kernel
theorem dX7_takeVersions_104 : decode cX7_takeVersions 104 = .ok (.goto (-102), 3) := by decide +kernel
theorem dX7_takeVersions_107 : decode cX7_takeVersions 107 = .ok (.return_, 1) := by decide +kernel
theorem dX7_doAbort_0 : decode cX7_doAbort 0 = .ok (.aload_n 0, 1) := by decide +kernel
theorem dX7_doAbort_1 : decode cX7_doAbort 1 = .ok (.getfield 21, 3) := by decide +kernel
theorem dX7_doAbort_4 : decode cX7_doAbort 4 = .ok (.iload_n 1, 1) := by decide +kernel
theorem dX7_doAbort_5 : decode cX7_doAbort 5 = .ok (.iconst 3, 1) := by decide +kernel
theorem dX7_doAbort_6 : decode cX7_doAbort 6 = .ok (.iastore, 1) := by decide +kernel
theorem dX7_doAbort_7 : decode cX7_doAbort 7 = .ok (.aload_n 0, 1) := by decide +kernel
theorem dX7_doAbort_8 : decode cX7_doAbort 8 = .ok (.getfield 31, 3) := by decide +kernel
theorem dX7_doAbort_11 : decode cX7_doAbort 11 = .ok (.iload_n 1, 1) := by decide +kernel
theorem dX7_doAbort_12 : decode cX7_doAbort 12 = .ok (.dup2, 1) := by decide +kernel
theorem dX7_doAbort_13 : decode cX7_doAbort 13 = .ok (.iaload, 1) := by decide +kernel
theorem dX7_doAbort_14 : decode cX7_doAbort 14 = .ok (.iconst 1, 1) := by decide +kernel
theorem dX7_doAbort_15 : decode cX7_doAbort 15 = .ok (.iadd, 1) := by decide +kernel
theorem dX7_doAbort_16 : decode cX7_doAbort 16 = .ok (.iastore, 1) := by decide +kernel
theorem dX7_doAbort_17 : decode cX7_doAbort 17 = .ok (.aload_n 0, 1) := by decide +kernel
theorem dX7_doAbort_18 : decode cX7_doAbort 18 = .ok (.getfield 40, 3) := by decide +kernel
theorem dX7_doAbort_21 : decode cX7_doAbort 21 = .ok (.iload_n 1, 1) := by decide +kernel
theorem dX7_doAbort_22 : decode cX7_doAbort 22 = .ok (.iconst 0, 1) := by decide +kernel
theorem dX7_doAbort_23 : decode cX7_doAbort 23 = .ok (.iastore, 1) := by decide +kernel
theorem dX7_doAbort_24 : decode cX7_doAbort 24 = .ok (.aload_n 0, 1) := by decide +kernel
theorem dX7_doAbort_25 : decode cX7_doAbort 25 = .ok (.iload_n 1, 1) := by decide +kernel
theorem dX7_doAbort_26 : decode cX7_doAbort 26 = .ok (.invokevirtual 113, 3) := by decide +kernel
theorem dX7_doAbort_29 : decode cX7_doAbort 29 = .ok (.aload_n 0, 1) := by decide +kernel
theorem dX7_doAbort_30 : decode cX7_doAbort 30 = .ok (.iload_n 2, 1) := by decide +kernel
theorem dX7_doAbort_31 : decode cX7_doAbort 31 = .ok (.iload_n 1, 1) := by decide +kernel
theorem dX7_doAbort_32 : decode cX7_doAbort 32 = .ok (.iload_n 3, 1) := by decide +kernel
theorem dX7_doAbort_33 : decode cX7_doAbort 33 = .ok (.invokevirtual 109, 3) := by decide +kernel
theorem dX7_doAbort_36 : decode cX7_doAbort 36 = .ok (.iconst 1, 1) := by decide +kernel
theorem dX7_doAbort_37 : decode cX7_doAbort 37 = .ok (.istore 4, 2) := by decide +kernel
theorem dX7_doAbort_39 : decode cX7_doAbort 39 = .ok (.iconst 0, 1) := by decide +kernel
theorem dX7_doAbort_40 : decode cX7_doAbort 40 = .ok (.istore 5, 2) := by decide +kernel
theorem dX7_doAbort_42 : decode cX7_doAbort 42 = .ok (.iload 5, 2) := by decide +kernel
theorem dX7_doAbort_44 : decode cX7_doAbort 44 = .ok (.aload_n 0, 1) := by decide +kernel
theorem dX7_doAbort_45 : decode cX7_doAbort 45 = .ok (.getfield 103, 3) := by decide +kernel
theorem dX7_doAbort_48 : decode cX7_doAbort 48 = .ok (.if_icmp .ge 47, 3) := by decide +kernel
theorem dX7_doAbort_51 : decode cX7_doAbort 51 = .ok (.aload_n 0, 1) := by decide +kernel
theorem dX7_doAbort_52 : decode cX7_doAbort 52 = .ok (.iload 5, 2) := by decide +kernel
theorem dX7_doAbort_54 : decode cX7_doAbort 54 = .ok (.invokevirtual 117, 3) := by decide +kernel
theorem dX7_doAbort_57 : decode cX7_doAbort 57 = .ok (.ifCond .eq 32, 3) := by decide +kernel
theorem dX7_doAbort_60 : decode cX7_doAbort 60 = .ok (.aload_n 0, 1) := by decide +kernel
theorem dX7_doAbort_61 : decode cX7_doAbort 61 = .ok (.getfield 40, 3) := by decide +kernel
theorem dX7_doAbort_64 : decode cX7_doAbort 64 = .ok (.iload 5, 2) := by decide +kernel
theorem dX7_doAbort_66 : decode cX7_doAbort 66 = .ok (.iaload, 1) := by decide +kernel
theorem dX7_doAbort_67 : decode cX7_doAbort 67 = .ok (.iload_n 1, 1) := by decide +kernel
theorem dX7_doAbort_68 : decode cX7_doAbort 68 = .ok (.ishr, 1) := by decide +kernel
theorem dX7_doAbort_69 : decode cX7_doAbort 69 = .ok (.iconst 1, 1) := by decide +kernel
theorem dX7_doAbort_70 : decode cX7_doAbort 70 = .ok (.iand, 1) := by decide +kernel
theorem dX7_doAbort_71 : decode cX7_doAbort 71 = .ok (.iconst 1, 1) := by decide +kernel
theorem dX7_doAbort_72 : decode cX7_doAbort 72 = .ok (.if_icmp .ne 17, 3) := by decide +kernel
theorem dX7_doAbort_75 : decode cX7_doAbort 75 = .ok (.iload 4, 2) := by decide +kernel
theorem dX7_doAbort_77 : decode cX7_doAbort 77 = .ok (.aload_n 0, 1) := by decide +kernel
theorem dX7_doAbort_78 : decode cX7_doAbort 78 = .ok (.iload 5, 2) := by decide +kernel
theorem dX7_doAbort_80 : decode cX7_doAbort 80 = .ok (.bipush 7, 2) := by decide +kernel
theorem dX7_doAbort_82 : decode cX7_doAbort 82 = .ok (.iconst (-1), 1) := by decide +kernel
theorem dX7_doAbort_83 : decode cX7_doAbort 83 = .ok (.invokevirtual 121, 3) := by decide +kernel
theorem dX7_doAbort_86 : decode cX7_doAbort 86 = .ok (.iadd, 1) := by decide +kernel
theorem dX7_doAbort_87 : decode cX7_doAbort 87 = .ok (.istore 4, 2) := by decide +kernel
theorem dX7_doAbort_89 : decode cX7_doAbort 89 = .ok (.iinc 5 1, 3) := by decide +kernel
theorem dX7_doAbort_92 : decode cX7_doAbort 92 = .ok (.goto (-50), 3) := by decide +kernel
theorem dX7_doAbort_95 : decode cX7_doAbort 95 = .ok (.iload 4, 2) := by decide +kernel
theorem dX7_doAbort_97 : decode cX7_doAbort 97 = .ok (.ireturn, 1) := by decide +kernel
theorem dX7_waitsFor_0 : decode cX7_waitsFor 0 = .ok (.iconst 0, 1) := by decide +kernel
theorem dX7_waitsFor_1 : decode cX7_waitsFor 1 = .ok (.istore_n 2, 1) := by decide +kernel
theorem dX7_waitsFor_2 : decode cX7_waitsFor 2 = .ok (.iconst 0, 1) := by decide +kernel
theorem dX7_waitsFor_3 : decode cX7_waitsFor 3 = .ok (.istore_n 3, 1) := by decide +kernel
theorem dX7_waitsFor_4 : decode cX7_waitsFor 4 = .ok (.iload_n 3, 1) := by decide +kernel
theorem dX7_waitsFor_5 : decode cX7_waitsFor 5 = .ok (.aload_n 0, 1) := by decide +kernel
theorem dX7_waitsFor_6 : decode cX7_waitsFor 6 = .ok (.getfield 103, 3) := by decide +kernel
theorem dX7_waitsFor_9 : decode cX7_waitsFor 9 = .ok (.if_icmp .ge 41, 3) := by decide +kernel
theorem dX7_waitsFor_12 : decode cX7_waitsFor 12 = .ok (.iload_n 2, 1) := by decide +kernel
theorem dX7_waitsFor_13 : decode cX7_waitsFor 13 = .ok (.aload_n 0, 1) := by decide +kernel
theorem dX7_waitsFor_14 : decode cX7_waitsFor 14 = .ok (.getfield 40, 3) := by decide +kernel
theorem dX7_waitsFor_17 : decode cX7_waitsFor 17 = .ok (.iload_n 1, 1) := by decide +kernel
theorem dX7_waitsFor_18 : decode cX7_waitsFor 18 = .ok (.iaload, 1) := by decide +kernel
theorem dX7_waitsFor_19 : decode cX7_waitsFor 19 = .ok (.iload_n 3, 1) := by decide +kernel
theorem dX7_waitsFor_20 : decode cX7_waitsFor 20 = .ok (.ishr, 1) := by decide +kernel
theorem dX7_waitsFor_21 : decode cX7_waitsFor 21 = .ok (.iconst 1, 1) := by decide +kernel
theorem dX7_waitsFor_22 : decode cX7_waitsFor 22 = .ok (.iand, 1) := by decide +kernel
theorem dX7_waitsFor_23 : decode cX7_waitsFor 23 = .ok (.iconst 1, 1) := by decide +kernel
theorem dX7_waitsFor_24 : decode cX7_waitsFor 24 = .ok (.if_icmp .ne 17, 3) := by decide +kernel
theorem dX7_waitsFor_27 : decode cX7_waitsFor 27 = .ok (.aload_n 0, 1) := by decide +kernel
theorem dX7_waitsFor_28 : decode cX7_waitsFor 28 = .ok (.iload_n 3, 1) := by decide +kernel
theorem dX7_waitsFor_29 : decode cX7_waitsFor 29 = .ok (.invokevirtual 117, 3) := by decide +kernel
theorem dX7_waitsFor_32 : decode cX7_waitsFor 32 = .ok (.ifCond .eq 9, 3) := by decide +kernel
theorem dX7_waitsFor_35 : decode cX7_waitsFor 35 = .ok (.iconst 1, 1) := by decide +kernel
theorem dX7_waitsFor_36 : decode cX7_waitsFor 36 = .ok (.iload_n 3, 1) := by decide +kernel
theorem dX7_waitsFor_37 : decode cX7_waitsFor 37 = .ok (.ishl, 1) := by decide +kernel
theorem dX7_waitsFor_38 : decode cX7_waitsFor 38 = .ok (.goto 4, 3) := by decide +kernel
theorem dX7_waitsFor_41 : decode cX7_waitsFor 41 = .ok (.iconst 0, 1) := by decide +kernel
theorem dX7_waitsFor_42 : decode cX7_waitsFor 42 = .ok (.ior, 1) := by decide +kernel
theorem dX7_waitsFor_43 : decode cX7_waitsFor 43 = .ok (.istore_n 2, 1) := by decide +kernel
theorem dX7_waitsFor_44 : decode cX7_waitsFor 44 = .ok (.iinc 3 1, 3) := by decide +kernel
theorem dX7_waitsFor_47 : decode cX7_waitsFor 47 = .ok (.goto (-43), 3) := by decide +kernel
theorem dX7_waitsFor_50 : decode cX7_waitsFor 50 = .ok (.iload_n 2, 1) := by decide +kernel
theorem dX7_waitsFor_51 : decode cX7_waitsFor 51 = .ok (.ireturn, 1) := by decide +kernel
theorem dX7_doCommit_0 : decode cX7_doCommit 0 = .ok (.aload_n 0, 1) := by decide +kernel
theorem dX7_doCommit_1 : decode cX7_doCommit 1 = .ok (.getfield 21, 3) := by decide +kernel
theorem dX7_doCommit_4 : decode cX7_doCommit 4 = .ok (.iload_n 1, 1) := by decide +kernel
theorem dX7_doCommit_5 : decode cX7_doCommit 5 = .ok (.iconst 2, 1) := by decide +kernel
theorem dX7_doCommit_6 : decode cX7_doCommit 6 = .ok (.iastore, 1) := by decide +kernel
theorem dX7_doCommit_7 : decode cX7_doCommit 7 = .ok (.aload_n 0, 1) := by decide +kernel
theorem dX7_doCommit_8 : decode cX7_doCommit 8 = .ok (.iconst 5, 1) := by decide +kernel
theorem dX7_doCommit_9 : decode cX7_doCommit 9 = .ok (.iload_n 1, 1) := by decide +kernel
theorem dX7_doCommit_10 : decode cX7_doCommit 10 = .ok (.iconst (-1), 1) := by decide +kernel
theorem dX7_doCommit_11 : decode cX7_doCommit 11 = .ok (.invokevirtual 109, 3) := by decide +kernel
theorem dX7_doCommit_14 : decode cX7_doCommit 14 = .ok (.iload_n 1, 1) := by decide +kernel
theorem dX7_doCommit_15 : decode cX7_doCommit 15 = .ok (.istore_n 2, 1) := by decide +kernel
theorem dX7_doCommit_16 : decode cX7_doCommit 16 = .ok (.iload_n 2, 1) := by decide +kernel
theorem dX7_doCommit_17 : decode cX7_doCommit 17 = .ok (.iconst (-1), 1) := by decide +kernel
theorem dX7_doCommit_18 : decode cX7_doCommit 18 = .ok (.if_icmp .eq 99, 3) := by decide +kernel
theorem dX7_doCommit_21 : decode cX7_doCommit 21 = .ok (.iconst (-1), 1) := by decide +kernel
theorem dX7_doCommit_22 : decode cX7_doCommit 22 = .ok (.istore_n 2, 1) := by decide +kernel
theorem dX7_doCommit_23 : decode cX7_doCommit 23 = .ok (.iconst 0, 1) := by decide +kernel
theorem dX7_doCommit_24 : decode cX7_doCommit 24 = .ok (.istore_n 3, 1) := by decide +kernel
theorem dX7_doCommit_25 : decode cX7_doCommit 25 = .ok (.iload_n 3, 1) := by decide +kernel
theorem dX7_doCommit_26 : decode cX7_doCommit 26 = .ok (.aload_n 0, 1) := by decide +kernel
theorem dX7_doCommit_27 : decode cX7_doCommit 27 = .ok (.getfield 103, 3) := by decide +kernel
theorem dX7_doCommit_30 : decode cX7_doCommit 30 = .ok (.if_icmp .ge 65, 3) := by decide +kernel
theorem dX7_doCommit_33 : decode cX7_doCommit 33 = .ok (.aload_n 0, 1) := by decide +kernel
theorem dX7_doCommit_34 : decode cX7_doCommit 34 = .ok (.getfield 21, 3) := by decide +kernel
theorem dX7_doCommit_37 : decode cX7_doCommit 37 = .ok (.iload_n 3, 1) := by decide +kernel
theorem dX7_doCommit_38 : decode cX7_doCommit 38 = .ok (.iaload, 1) := by decide +kernel
theorem dX7_doCommit_39 : decode cX7_doCommit 39 = .ok (.iconst 1, 1) := by decide +kernel
theorem dX7_doCommit_40 : decode cX7_doCommit 40 = .ok (.if_icmp .ne 15, 3) := by decide +kernel
theorem dX7_doCommit_43 : decode cX7_doCommit 43 = .ok (.aload_n 0, 1) := by decide +kernel
theorem dX7_doCommit_44 : decode cX7_doCommit 44 = .ok (.iload_n 3, 1) := by decide +kernel
theorem dX7_doCommit_45 : decode cX7_doCommit 45 = .ok (.invokevirtual 125, 3) := by decide +kernel
theorem dX7_doCommit_48 : decode cX7_doCommit 48 = .ok (.ifCond .ne 7, 3) := by decide +kernel
theorem dX7_doCommit_51 : decode cX7_doCommit 51 = .ok (.iconst 1, 1) := by decide +kernel
theorem dX7_doCommit_52 : decode cX7_doCommit 52 = .ok (.goto 4, 3) := by decide +kernel
theorem dX7_doCommit_55 : decode cX7_doCommit 55 = .ok (.iconst 0, 1) := by decide +kernel
theorem dX7_doCommit_56 : decode cX7_doCommit 56 = .ok (.istore 4, 2) := by decide +kernel
theorem dX7_doCommit_58 : decode cX7_doCommit 58 = .ok (.iload 4, 2) := by decide +kernel
theorem dX7_doCommit_60 : decode cX7_doCommit 60 = .ok (.ifCond .eq 27, 3) := by decide +kernel
theorem dX7_doCommit_63 : decode cX7_doCommit 63 = .ok (.iload_n 2, 1) := by decide +kernel
theorem dX7_doCommit_64 : decode cX7_doCommit 64 = .ok (.iconst (-1), 1) := by decide +kernel
theorem dX7_doCommit_65 : decode cX7_doCommit 65 = .ok (.if_icmp .eq 18, 3) := by decide +kernel
theorem dX7_doCommit_68 : decode cX7_doCommit 68 = .ok (.aload_n 0, 1) := by decide +kernel
theorem dX7_doCommit_69 : decode cX7_doCommit 69 = .ok (.getfield 25, 3) := by decide +kernel
theorem dX7_doCommit_72 : decode cX7_doCommit 72 = .ok (.iload_n 3, 1) := by decide +kernel
theorem dX7_doCommit_73 : decode cX7_doCommit 73 = .ok (.iaload, 1) := by decide +kernel
theorem dX7_doCommit_74 : decode cX7_doCommit 74 = .ok (.aload_n 0, 1) := by decide +kernel
theorem dX7_doCommit_75 : decode cX7_doCommit 75 = .ok (.getfield 25, 3) := by decide +kernel
theorem dX7_doCommit_78 : decode cX7_doCommit 78 = .ok (.iload_n 2, 1) := by decide +kernel
theorem dX7_doCommit_79 : decode cX7_doCommit 79 = .ok (.iaload, 1) := by decide +kernel
theorem dX7_doCommit_80 : decode cX7_doCommit 80 = .ok (.if_icmp .ge 7, 3) := by decide +kernel
theorem dX7_doCommit_83 : decode cX7_doCommit 83 = .ok (.iload_n 3, 1) := by decide +kernel
theorem dX7_doCommit_84 : decode cX7_doCommit 84 = .ok (.goto 4, 3) := by decide +kernel
theorem dX7_doCommit_87 : decode cX7_doCommit 87 = .ok (.iload_n 2, 1) := by decide +kernel
theorem dX7_doCommit_88 : decode cX7_doCommit 88 = .ok (.istore_n 2, 1) := by decide +kernel
theorem dX7_doCommit_89 : decode cX7_doCommit 89 = .ok (.iinc 3 1, 3) := by decide +kernel
theorem dX7_doCommit_92 : decode cX7_doCommit 92 = .ok (.goto (-67), 3) := by decide +kernel
theorem dX7_doCommit_95 : decode cX7_doCommit 95 = .ok (.iload_n 2, 1) := by decide +kernel
theorem dX7_doCommit_96 : decode cX7_doCommit 96 = .ok (.iconst (-1), 1) := by decide +kernel
theorem dX7_doCommit_97 : decode cX7_doCommit 97 = .ok (.if_icmp .eq (-81), 3) := by decide +kernel
theorem dX7_doCommit_100 : decode cX7_doCommit 100 = .ok (.aload_n 0, 1) := by decide +kernel
theorem dX7_doCommit_101 : decode cX7_doCommit 101 = .ok (.getfield 21, 3) := by decide +kernel
theorem dX7_doCommit_104 : decode cX7_doCommit 104 = .ok (.iload_n 2, 1) := by decide +kernel
theorem dX7_doCommit_105 : decode cX7_doCommit 105 = .ok (.iconst 2, 1) := by decide +kernel
theorem dX7_doCommit_106 : decode cX7_doCommit 106 = .ok (.iastore, 1) := by decide +kernel
theorem dX7_doCommit_107 : decode cX7_doCommit 107 = .ok (.aload_n 0, 1) := by decide +kernel
theorem dX7_doCommit_108 : decode cX7_doCommit 108 = .ok (.iconst 5, 1) := by decide +kernel
theorem dX7_doCommit_109 : decode cX7_doCommit 109 = .ok (.iload_n 2, 1) := by decide +kernel
theorem dX7_doCommit_110 : decode cX7_doCommit 110 = .ok (.iconst (-1), 1) := by decide +kernel
theorem dX7_doCommit_111 : decode cX7_doCommit 111 = .ok (.invokevirtual 109, 3) := by decide +kernel
theorem dX7_doCommit_114 : decode cX7_doCommit 114 = .ok (.goto (-98), 3) := by decide +kernel
theorem dX7_doCommit_117 : decode cX7_doCommit 117 = .ok (.return_, 1) := by decide +kernel
theorem dX7_problem_0 : decode cX7_problem 0 = .ok (.aload_n 0, 1) := by decide +kernel
theorem dX7_problem_1 : decode cX7_problem 1 = .ok (.iload_n 1, 1) := by decide +kernel
theorem dX7_problem_2 : decode cX7_problem 2 = .ok (.invokevirtual 128, 3) := by decide +kernel
theorem dX7_problem_5 : decode cX7_problem 5 = .ok (.ifCond .ne 7, 3) := by decide +kernel
theorem dX7_problem_8 : decode cX7_problem 8 = .ok (.iconst 1, 1) := by decide +kernel
theorem dX7_problem_9 : decode cX7_problem 9 = .ok (.goto 17, 3) := by decide +kernel
theorem dX7_problem_12 : decode cX7_problem 12 = .ok (.aload_n 0, 1) := by decide +kernel
theorem dX7_problem_13 : decode cX7_problem 13 = .ok (.getfield 21, 3) := by decide +kernel
theorem dX7_problem_16 : decode cX7_problem 16 = .ok (.iload_n 1, 1) := by decide +kernel
theorem dX7_problem_17 : decode cX7_problem 17 = .ok (.iaload, 1) := by decide +kernel
theorem dX7_problem_18 : decode cX7_problem 18 = .ok (.ifCond .eq 7, 3) := by decide +kernel
theorem dX7_problem_21 : decode cX7_problem 21 = .ok (.iconst 2, 1) := by decide +kernel
theorem dX7_problem_22 : decode cX7_problem 22 = .ok (.goto 4, 3) := by decide +kernel
theorem dX7_problem_25 : decode cX7_problem 25 = .ok (.iconst 0, 1) := by decide +kernel
theorem dX7_problem_26 : decode cX7_problem 26 = .ok (.ireturn, 1) := by decide +kernel
theorem dX7_commits_0 : decode cX7_commits 0 = .ok (.aload_n 0, 1) := by decide +kernel
theorem dX7_commits_1 : decode cX7_commits 1 = .ok (.iload_n 1, 1) := by decide +kernel
theorem dX7_commits_2 : decode cX7_commits 2 = .ok (.invokevirtual 125, 3) := by decide +kernel
theorem dX7_commits_5 : decode cX7_commits 5 = .ok (.ifCond .ne 10, 3) := by decide +kernel
theorem dX7_commits_8 : decode cX7_commits 8 = .ok (.aload_n 0, 1) := by decide +kernel
theorem dX7_commits_9 : decode cX7_commits 9 = .ok (.iload_n 1, 1) := by decide +kernel
theorem dX7_commits_10 : decode cX7_commits 10 = .ok (.invokevirtual 131, 3) := by decide +kernel
theorem dX7_commits_13 : decode cX7_commits 13 = .ok (.iconst 1, 1) := by decide +kernel
theorem dX7_commits_14 : decode cX7_commits 14 = .ok (.ireturn, 1) := by decide +kernel
theorem dX7_commits_15 : decode cX7_commits 15 = .ok (.aload_n 0, 1) := by decide +kernel
theorem dX7_commits_16 : decode cX7_commits 16 = .ok (.getfield 21, 3) := by decide +kernel
theorem dX7_commits_19 : decode cX7_commits 19 = .ok (.iload_n 1, 1) := by decide +kernel
theorem dX7_commits_20 : decode cX7_commits 20 = .ok (.iconst 1, 1) := by decide +kernel
theorem dX7_commits_21 : decode cX7_commits 21 = .ok (.iastore, 1) := by decide +kernel
theorem dX7_commits_22 : decode cX7_commits 22 = .ok (.aload_n 0, 1) := by decide +kernel
theorem dX7_commits_23 : decode cX7_commits 23 = .ok (.iconst 4, 1) := by decide +kernel
theorem dX7_commits_24 : decode cX7_commits 24 = .ok (.iload_n 1, 1) := by decide +kernel
theorem dX7_commits_25 : decode cX7_commits 25 = .ok (.iconst (-1), 1) := by decide +kernel
theorem dX7_commits_26 : decode cX7_commits 26 = .ok (.invokevirtual 109, 3) := by decide +kernel
theorem dX7_commits_29 : decode cX7_commits 29 = .ok (.iconst 0, 1) := by decide +kernel
theorem dX7_commits_30 : decode cX7_commits 30 = .ok (.ireturn, 1) := by decide +kernel
theorem dX7_commit_0 : decode cX7_commit 0 = .ok (.aload_n 0, 1) := by decide +kernel
theorem dX7_commit_1 : decode cX7_commit 1 = .ok (.aload_n 0, 1) := by decide +kernel
theorem dX7_commit_2 : decode cX7_commit 2 = .ok (.iload_n 1, 1) := by decide +kernel
theorem dX7_commit_3 : decode cX7_commit 3 = .ok (.invokevirtual 134, 3) := by decide +kernel
theorem dX7_commit_6 : decode cX7_commit 6 = .ok (.putfield 3, 3) := by decide +kernel
theorem dX7_commit_9 : decode cX7_commit 9 = .ok (.aload_n 0, 1) := by decide +kernel
theorem dX7_commit_10 : decode cX7_commit 10 = .ok (.getfield 3, 3) := by decide +kernel
theorem dX7_commit_13 : decode cX7_commit 13 = .ok (.ifCond .ne 15, 3) := by decide +kernel
theorem dX7_commit_16 : decode cX7_commit 16 = .ok (.aload_n 0, 1) := by decide +kernel
theorem dX7_commit_17 : decode cX7_commit 17 = .ok (.iload_n 1, 1) := by decide +kernel
theorem dX7_commit_18 : decode cX7_commit 18 = .ok (.invokevirtual 137, 3) := by decide +kernel
theorem dX7_commit_21 : decode cX7_commit 21 = .ok (.ifCond .eq 7, 3) := by decide +kernel
theorem dX7_commit_24 : decode cX7_commit 24 = .ok (.iconst 1, 1) := by decide +kernel
theorem dX7_commit_25 : decode cX7_commit 25 = .ok (.goto 4, 3) := by decide +kernel
theorem dX7_commit_28 : decode cX7_commit 28 = .ok (.iconst 0, 1) := by decide +kernel
theorem dX7_commit_29 : decode cX7_commit 29 = .ok (.ireturn, 1) := by decide +kernel
theorem dX7_abort_0 : decode cX7_abort 0 = .ok (.aload_n 0, 1) := by decide +kernel
theorem dX7_abort_1 : decode cX7_abort 1 = .ok (.aload_n 0, 1) := by decide +kernel
theorem dX7_abort_2 : decode cX7_abort 2 = .ok (.iload_n 1, 1) := by decide +kernel
theorem dX7_abort_3 : decode cX7_abort 3 = .ok (.invokevirtual 128, 3) := by decide +kernel
theorem dX7_abort_6 : decode cX7_abort 6 = .ok (.ifCond .ne 7, 3) := by decide +kernel
theorem dX7_abort_9 : decode cX7_abort 9 = .ok (.iconst 1, 1) := by decide +kernel
theorem dX7_abort_10 : decode cX7_abort 10 = .ok (.goto 16, 3) := by decide +kernel
theorem dX7_abort_13 : decode cX7_abort 13 = .ok (.aload_n 0, 1) := by decide +kernel
theorem dX7_abort_14 : decode cX7_abort 14 = .ok (.iload_n 1, 1) := by decide +kernel
theorem dX7_abort_15 : decode cX7_abort 15 = .ok (.invokevirtual 117, 3) := by decide +kernel
theorem dX7_abort_18 : decode cX7_abort 18 = .ok (.ifCond .eq 7, 3) := by decide +kernel
theorem dX7_abort_21 : decode cX7_abort 21 = .ok (.iconst 0, 1) := by decide +kernel
theorem dX7_abort_22 : decode cX7_abort 22 = .ok (.goto 4, 3) := by decide +kernel
theorem dX7_abort_25 : decode cX7_abort 25 = .ok (.iconst 2, 1) := by decide +kernel
theorem dX7_abort_26 : decode cX7_abort 26 = .ok (.putfield 3, 3) := by decide +kernel
theorem dX7_abort_29 : decode cX7_abort 29 = .ok (.aload_n 0, 1) := by decide +kernel
theorem dX7_abort_30 : decode cX7_abort 30 = .ok (.getfield 3, 3) := by decide +kernel
theorem dX7_abort_33 : decode cX7_abort 33 = .ok (.ifCond .ne 14, 3) := by decide +kernel
theorem dX7_abort_36 : decode cX7_abort 36 = .ok (.aload_n 0, 1) := by decide +kernel
theorem dX7_abort_37 : decode cX7_abort 37 = .ok (.iload_n 1, 1) := by decide +kernel
theorem dX7_abort_38 : decode cX7_abort 38 = .ok (.bipush 6, 2) := by decide +kernel
theorem dX7_abort_40 : decode cX7_abort 40 = .ok (.iconst (-1), 1) := by decide +kernel
theorem dX7_abort_41 : decode cX7_abort 41 = .ok (.invokevirtual 121, 3) := by decide +kernel
theorem dX7_abort_44 : decode cX7_abort 44 = .ok (.goto 4, 3) := by decide +kernel
theorem dX7_abort_47 : decode cX7_abort 47 = .ok (.iconst 0, 1) := by decide +kernel
theorem dX7_abort_48 : decode cX7_abort 48 = .ok (.ireturn, 1) := by decide +kernel
theorem dX7_lastUpTo_0 : decode cX7_lastUpTo 0 = .ok (.iconst (-1), 1) := by decide +kernel
theorem dX7_lastUpTo_1 : decode cX7_lastUpTo 1 = .ok (.istore_n 3, 1) := by decide +kernel
theorem dX7_lastUpTo_2 : decode cX7_lastUpTo 2 = .ok (.iconst 0, 1) := by decide +kernel
theorem dX7_lastUpTo_3 : decode cX7_lastUpTo 3 = .ok (.istore 4, 2) := by decide +kernel
theorem dX7_lastUpTo_5 : decode cX7_lastUpTo 5 = .ok (.iload 4, 2) := by decide +kernel
theorem dX7_lastUpTo_7 : decode cX7_lastUpTo 7 = .ok (.aload_n 0, 1) := by decide +kernel
theorem dX7_lastUpTo_8 : decode cX7_lastUpTo 8 = .ok (.getfield 43, 3) := by decide +kernel
