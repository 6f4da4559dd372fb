theorem dX6_divide_37 : decode cX6_divide 37 = .ok (.iload_n 2, 1) := by decide +kernel
theorem dX6_divide_38 : decode cX6_divide 38 = .ok (.aload_n 0, 1) := by decide +kernel
theorem dX6_divide_39 : decode cX6_divide 39 = .ok (.getfield 38, 3) := by decide +kernel
theorem dX6_divide_42 : decode cX6_divide 42 = .ok (.iload_n 1, 1) := by decide +kernel
theorem dX6_divide_43 : decode cX6_divide 43 = .ok (.aaload, 1) := by decide +kernel
theorem dX6_divide_44 : decode cX6_divide 44 = .ok (.getfield 213, 3) := by decide +kernel
theorem dX6_divide_47 : decode cX6_divide 47 = .ok (.if_icmp .ge 7, 3) := by decide +kernel
theorem dX6_divide_50 : decode cX6_divide 50 = .ok (.iconst 1, 1) := by decide +kernel
theorem dX6_divide_51 : decode cX6_divide 51 = .ok (.goto 4, 3) := by decide +kernel
theorem dX6_divide_54 : decode cX6_divide 54 = .ok (.iconst 0, 1) := by decide +kernel
theorem dX6_divide_55 : decode cX6_divide 55 = .ok (.invokestatic 106, 3) := by decide +kernel
theorem dX6_divide_58 : decode cX6_divide 58 = .ok (.aload_n 0, 1) := by decide +kernel
theorem dX6_divide_59 : decode cX6_divide 59 = .ok (.getfield 38, 3) := by decide +kernel
theorem dX6_divide_62 : decode cX6_divide 62 = .ok (.iload_n 1, 1) := by decide +kernel
theorem dX6_divide_63 : decode cX6_divide 63 = .ok (.aaload, 1) := by decide +kernel
theorem dX6_divide_64 : decode cX6_divide 64 = .ok (.iload_n 2, 1) := by decide +kernel
theorem dX6_divide_65 : decode cX6_divide 65 = .ok (.iload_n 3, 1) := by decide +kernel
theorem dX6_divide_66 : decode cX6_divide 66 = .ok (.invokevirtual 216, 3) := by decide +kernel
theorem dX6_divide_69 : decode cX6_divide 69 = .ok (.freturn, 1) := by decide +kernel
theorem dX6_cloneRow_0 : decode cX6_cloneRow 0 = .ok (.iload_n 1, 1) := by decide +kernel
theorem dX6_cloneRow_1 : decode cX6_cloneRow 1 = .ok (.invokestatic 200, 3) := by decide +kernel
theorem dX6_cloneRow_4 : decode cX6_cloneRow 4 = .ok (.ifCond .eq 14, 3) := by decide +kernel
theorem dX6_cloneRow_7 : decode cX6_cloneRow 7 = .ok (.iload_n 2, 1) := by decide +kernel
theorem dX6_cloneRow_8 : decode cX6_cloneRow 8 = .ok (.invokestatic 200, 3) := by decide +kernel
theorem dX6_cloneRow_11 : decode cX6_cloneRow 11 = .ok (.ifCond .eq 7, 3) := by decide +kernel
theorem dX6_cloneRow_14 : decode cX6_cloneRow 14 = .ok (.iconst 1, 1) := by decide +kernel
theorem dX6_cloneRow_15 : decode cX6_cloneRow 15 = .ok (.goto 4, 3) := by decide +kernel
theorem dX6_cloneRow_18 : decode cX6_cloneRow 18 = .ok (.iconst 0, 1) := by decide +kernel
theorem dX6_cloneRow_19 : decode cX6_cloneRow 19 = .ok (.invokestatic 71, 3) := by decide +kernel
theorem dX6_cloneRow_22 : decode cX6_cloneRow 22 = .ok (.aload_n 0, 1) := by decide +kernel
theorem dX6_cloneRow_23 : decode cX6_cloneRow 23 = .ok (.getfield 38, 3) := by decide +kernel
theorem dX6_cloneRow_26 : decode cX6_cloneRow 26 = .ok (.iload_n 1, 1) := by decide +kernel
theorem dX6_cloneRow_27 : decode cX6_cloneRow 27 = .ok (.aaload, 1) := by decide +kernel
theorem dX6_cloneRow_28 : decode cX6_cloneRow 28 = .ok (.invokevirtual 206, 3) := by decide +kernel
theorem dX6_cloneRow_31 : decode cX6_cloneRow 31 = .ok (.invokestatic 57, 3) := by decide +kernel
theorem dX6_cloneRow_34 : decode cX6_cloneRow 34 = .ok (.aload_n 0, 1) := by decide +kernel
theorem dX6_cloneRow_35 : decode cX6_cloneRow 35 = .ok (.getfield 38, 3) := by decide +kernel
theorem dX6_cloneRow_38 : decode cX6_cloneRow 38 = .ok (.iload_n 2, 1) := by decide +kernel
theorem dX6_cloneRow_39 : decode cX6_cloneRow 39 = .ok (.aaload, 1) := by decide +kernel
theorem dX6_cloneRow_40 : decode cX6_cloneRow 40 = .ok (.aload_n 0, 1) := by decide +kernel
theorem dX6_cloneRow_41 : decode cX6_cloneRow 41 = .ok (.getfield 38, 3) := by decide +kernel
theorem dX6_cloneRow_44 : decode cX6_cloneRow 44 = .ok (.iload_n 1, 1) := by decide +kernel
theorem dX6_cloneRow_45 : decode cX6_cloneRow 45 = .ok (.aaload, 1) := by decide +kernel
theorem dX6_cloneRow_46 : decode cX6_cloneRow 46 = .ok (.invokevirtual 220, 3) := by decide +kernel
theorem dX6_cloneRow_49 : decode cX6_cloneRow 49 = .ok (.aload_n 0, 1) := by decide +kernel
theorem dX6_cloneRow_50 : decode cX6_cloneRow 50 = .ok (.getfield 38, 3) := by decide +kernel
theorem dX6_cloneRow_53 : decode cX6_cloneRow 53 = .ok (.iload_n 1, 1) := by decide +kernel
theorem dX6_cloneRow_54 : decode cX6_cloneRow 54 = .ok (.aaload, 1) := by decide +kernel
theorem dX6_cloneRow_55 : decode cX6_cloneRow 55 = .ok (.getfield 213, 3) := by decide +kernel
theorem dX6_cloneRow_58 : decode cX6_cloneRow 58 = .ok (.ireturn, 1) := by decide +kernel
theorem dX6_copyRow_0 : decode cX6_copyRow 0 = .ok (.iload_n 1, 1) := by decide +kernel
theorem dX6_copyRow_1 : decode cX6_copyRow 1 = .ok (.invokestatic 200, 3) := by decide +kernel
theorem dX6_copyRow_4 : decode cX6_copyRow 4 = .ok (.ifCond .eq 14, 3) := by decide +kernel
theorem dX6_copyRow_7 : decode cX6_copyRow 7 = .ok (.iload_n 2, 1) := by decide +kernel
theorem dX6_copyRow_8 : decode cX6_copyRow 8 = .ok (.invokestatic 200, 3) := by decide +kernel
theorem dX6_copyRow_11 : decode cX6_copyRow 11 = .ok (.ifCond .eq 7, 3) := by decide +kernel
theorem dX6_copyRow_14 : decode cX6_copyRow 14 = .ok (.iconst 1, 1) := by decide +kernel
theorem dX6_copyRow_15 : decode cX6_copyRow 15 = .ok (.goto 4, 3) := by decide +kernel
theorem dX6_copyRow_18 : decode cX6_copyRow 18 = .ok (.iconst 0, 1) := by decide +kernel
theorem dX6_copyRow_19 : decode cX6_copyRow 19 = .ok (.invokestatic 71, 3) := by decide +kernel
theorem dX6_copyRow_22 : decode cX6_copyRow 22 = .ok (.aload_n 0, 1) := by decide +kernel
theorem dX6_copyRow_23 : decode cX6_copyRow 23 = .ok (.getfield 38, 3) := by decide +kernel
theorem dX6_copyRow_26 : decode cX6_copyRow 26 = .ok (.iload_n 1, 1) := by decide +kernel
theorem dX6_copyRow_27 : decode cX6_copyRow 27 = .ok (.aaload, 1) := by decide +kernel
theorem dX6_copyRow_28 : decode cX6_copyRow 28 = .ok (.invokevirtual 206, 3) := by decide +kernel
theorem dX6_copyRow_31 : decode cX6_copyRow 31 = .ok (.ifCond .eq 19, 3) := by decide +kernel
theorem dX6_copyRow_34 : decode cX6_copyRow 34 = .ok (.aload_n 0, 1) := by decide +kernel
theorem dX6_copyRow_35 : decode cX6_copyRow 35 = .ok (.getfield 38, 3) := by decide +kernel
theorem dX6_copyRow_38 : decode cX6_copyRow 38 = .ok (.iload_n 2, 1) := by decide +kernel
theorem dX6_copyRow_39 : decode cX6_copyRow 39 = .ok (.aaload, 1) := by decide +kernel
theorem dX6_copyRow_40 : decode cX6_copyRow 40 = .ok (.invokevirtual 206, 3) := by decide +kernel
theorem dX6_copyRow_43 : decode cX6_copyRow 43 = .ok (.ifCond .eq 7, 3) := by decide +kernel
theorem dX6_copyRow_46 : decode cX6_copyRow 46 = .ok (.iconst 1, 1) := by decide +kernel
theorem dX6_copyRow_47 : decode cX6_copyRow 47 = .ok (.goto 4, 3) := by decide +kernel
theorem dX6_copyRow_50 : decode cX6_copyRow 50 = .ok (.iconst 0, 1) := by decide +kernel
theorem dX6_copyRow_51 : decode cX6_copyRow 51 = .ok (.invokestatic 57, 3) := by decide +kernel
theorem dX6_copyRow_54 : decode cX6_copyRow 54 = .ok (.aload_n 0, 1) := by decide +kernel
theorem dX6_copyRow_55 : decode cX6_copyRow 55 = .ok (.getfield 38, 3) := by decide +kernel
theorem dX6_copyRow_58 : decode cX6_copyRow 58 = .ok (.iload_n 1, 1) := by decide +kernel
theorem dX6_copyRow_59 : decode cX6_copyRow 59 = .ok (.aaload, 1) := by decide +kernel
theorem dX6_copyRow_60 : decode cX6_copyRow 60 = .ok (.getfield 224, 3) := by decide +kernel
theorem dX6_copyRow_63 : decode cX6_copyRow 63 = .ok (.aload_n 0, 1) := by decide +kernel
theorem dX6_copyRow_64 : decode cX6_copyRow 64 = .ok (.getfield 38, 3) := by decide +kernel
theorem dX6_copyRow_67 : decode cX6_copyRow 67 = .ok (.iload_n 2, 1) := by decide +kernel
theorem dX6_copyRow_68 : decode cX6_copyRow 68 = .ok (.aaload, 1) := by decide +kernel
theorem dX6_copyRow_69 : decode cX6_copyRow 69 = .ok (.getfield 224, 3) := by decide +kernel
theorem dX6_copyRow_72 : decode cX6_copyRow 72 = .ok (.if_icmp .ne 7, 3) := by decide +kernel
theorem dX6_copyRow_75 : decode cX6_copyRow 75 = .ok (.iconst 1, 1) := by decide +kernel
theorem dX6_copyRow_76 : decode cX6_copyRow 76 = .ok (.goto 4, 3) := by decide +kernel
theorem dX6_copyRow_79 : decode cX6_copyRow 79 = .ok (.iconst 0, 1) := by decide +kernel
theorem dX6_copyRow_80 : decode cX6_copyRow 80 = .ok (.invokestatic 43, 3) := by decide +kernel
theorem dX6_copyRow_83 : decode cX6_copyRow 83 = .ok (.aload_n 0, 1) := by decide +kernel
theorem dX6_copyRow_84 : decode cX6_copyRow 84 = .ok (.getfield 38, 3) := by decide +kernel
theorem dX6_copyRow_87 : decode cX6_copyRow 87 = .ok (.iload_n 2, 1) := by decide +kernel
theorem dX6_copyRow_88 : decode cX6_copyRow 88 = .ok (.aaload, 1) := by decide +kernel
theorem dX6_copyRow_89 : decode cX6_copyRow 89 = .ok (.getfield 213, 3) := by decide +kernel
theorem dX6_copyRow_92 : decode cX6_copyRow 92 = .ok (.aload_n 0, 1) := by decide +kernel
theorem dX6_copyRow_93 : decode cX6_copyRow 93 = .ok (.getfield 38, 3) := by decide +kernel
theorem dX6_copyRow_96 : decode cX6_copyRow 96 = .ok (.iload_n 1, 1) := by decide +kernel
theorem dX6_copyRow_97 : decode cX6_copyRow 97 = .ok (.aaload, 1) := by decide +kernel
theorem dX6_copyRow_98 : decode cX6_copyRow 98 = .ok (.getfield 213, 3) := by decide +kernel
theorem dX6_copyRow_101 : decode cX6_copyRow 101 = .ok (.if_icmp .lt 7, 3) := by decide +kernel
theorem dX6_copyRow_104 : decode cX6_copyRow 104 = .ok (.iconst 1, 1) := by decide +kernel
theorem dX6_copyRow_105 : decode cX6_copyRow 105 = .ok (.goto 4, 3) := by decide +kernel
theorem dX6_copyRow_108 : decode cX6_copyRow 108 = .ok (.iconst 0, 1) := by decide +kernel
theorem dX6_copyRow_109 : decode cX6_copyRow 109 = .ok (.invokestatic 106, 3) := by decide +kernel
theorem dX6_copyRow_112 : decode cX6_copyRow 112 = .ok (.aload_n 0, 1) := by decide +kernel
theorem dX6_copyRow_113 : decode cX6_copyRow 113 = .ok (.getfield 38, 3) := by decide +kernel
theorem dX6_copyRow_116 : decode cX6_copyRow 116 = .ok (.iload_n 2, 1) := by decide +kernel
theorem dX6_copyRow_117 : decode cX6_copyRow 117 = .ok (.aaload, 1) := by decide +kernel
theorem dX6_copyRow_118 : decode cX6_copyRow 118 = .ok (.aload_n 0, 1) := by decide +kernel
theorem dX6_copyRow_119 : decode cX6_copyRow 119 = .ok (.getfield 38, 3) := by decide +kernel
theorem dX6_copyRow_122 : decode cX6_copyRow 122 = .ok (.iload_n 1, 1) := by decide +kernel
theorem dX6_copyRow_123 : decode cX6_copyRow 123 = .ok (.aaload, 1) := by decide +kernel
theorem dX6_copyRow_124 : decode cX6_copyRow 124 = .ok (.invokevirtual 227, 3) := by decide +kernel
theorem dX6_copyRow_127 : decode cX6_copyRow 127 = .ok (.aload_n 0, 1) := by decide +kernel
theorem dX6_copyRow_128 : decode cX6_copyRow 128 = .ok (.getfield 38, 3) := by decide +kernel
theorem dX6_copyRow_131 : decode cX6_copyRow 131 = .ok (.iload_n 1, 1) := by decide +kernel
theorem dX6_copyRow_132 : decode cX6_copyRow 132 = .ok (.aaload, 1) := by decide +kernel
theorem dX6_copyRow_133 : decode cX6_copyRow 133 = .ok (.getfield 213, 3) := by decide +kernel
theorem dX6_copyRow_136 : decode cX6_copyRow 136 = .ok (.ireturn, 1) := by decide +kernel
theorem dX6_snapshot_0 : decode cX6_snapshot 0 = .ok (.aload_n 0, 1) := by decide +kernel
theorem dX6_snapshot_1 : decode cX6_snapshot 1 = .ok (.getfield 18, 3) := by decide +kernel
theorem dX6_snapshot_4 : decode cX6_snapshot 4 = .ok (.aload_n 0, 1) := by decide +kernel
theorem dX6_snapshot_5 : decode cX6_snapshot 5 = .ok (.getfield 12, 3) := by decide +kernel
theorem dX6_snapshot_8 : decode cX6_snapshot 8 = .ok (.invokevirtual 230, 3) := by decide +kernel
theorem dX6_snapshot_11 : decode cX6_snapshot 11 = .ok (.aload_n 0, 1) := by decide +kernel
theorem dX6_snapshot_12 : decode cX6_snapshot 12 = .ok (.iconst 1, 1) := by decide +kernel
theorem dX6_snapshot_13 : decode cX6_snapshot 13 = .ok (.putfield 21, 3) := by decide +kernel
theorem dX6_snapshot_16 : decode cX6_snapshot 16 = .ok (.aload_n 0, 1) := by decide +kernel
theorem dX6_snapshot_17 : decode cX6_snapshot 17 = .ok (.getfield 12, 3) := by decide +kernel
theorem dX6_snapshot_20 : decode cX6_snapshot 20 = .ok (.getfield 54, 3) := by decide +kernel
theorem dX6_snapshot_23 : decode cX6_snapshot 23 = .ok (.ireturn, 1) := by decide +kernel
theorem dX6_restore_0 : decode cX6_restore 0 = .ok (.aload_n 0, 1) := by decide +kernel
theorem dX6_restore_1 : decode cX6_restore 1 = .ok (.getfield 21, 3) := by decide +kernel
theorem dX6_restore_4 : decode cX6_restore 4 = .ok (.invokestatic 57, 3) := by decide +kernel
theorem dX6_restore_7 : decode cX6_restore 7 = .ok (.aload_n 0, 1) := by decide +kernel
theorem dX6_restore_8 : decode cX6_restore 8 = .ok (.getfield 12, 3) := by decide +kernel
theorem dX6_restore_11 : decode cX6_restore 11 = .ok (.aload_n 0, 1) := by decide +kernel
theorem dX6_restore_12 : decode cX6_restore 12 = .ok (.getfield 18, 3) := by decide +kernel
theorem dX6_restore_15 : decode cX6_restore 15 = .ok (.invokevirtual 230, 3) := by decide +kernel
theorem dX6_restore_18 : decode cX6_restore 18 = .ok (.aload_n 0, 1) := by decide +kernel
theorem dX6_restore_19 : decode cX6_restore 19 = .ok (.getfield 12, 3) := by decide +kernel
theorem dX6_restore_22 : decode cX6_restore 22 = .ok (.getfield 54, 3) := by decide +kernel
theorem dX6_restore_25 : decode cX6_restore 25 = .ok (.ireturn, 1) := by decide +kernel
