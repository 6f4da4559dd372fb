theorem dX7_append_49 : decode cX7_append 49 = .ok (.getfield 187, 3) := by decide +kernel
theorem dX7_append_52 : decode cX7_append 52 = .ok (.iconst 1, 1) := by decide +kernel
theorem dX7_append_53 : decode cX7_append 53 = .ok (.iadd, 1) := by decide +kernel
theorem dX7_append_54 : decode cX7_append 54 = .ok (.putfield 187, 3) := by decide +kernel
theorem dX7_append_57 : decode cX7_append 57 = .ok (.aload_n 0, 1) := by decide +kernel
theorem dX7_append_58 : decode cX7_append 58 = .ok (.getfield 187, 3) := by decide +kernel
theorem dX7_append_61 : decode cX7_append 61 = .ok (.ireturn, 1) := by decide +kernel
theorem dX7_sign_0 : decode cX7_sign 0 = .ok (.aload_n 0, 1) := by decide +kernel
theorem dX7_sign_1 : decode cX7_sign 1 = .ok (.getfield 190, 3) := by decide +kernel
theorem dX7_sign_4 : decode cX7_sign 4 = .ok (.aload_n 0, 1) := by decide +kernel
theorem dX7_sign_5 : decode cX7_sign 5 = .ok (.getfield 193, 3) := by decide +kernel
theorem dX7_sign_8 : decode cX7_sign 8 = .ok (.if_icmp .ge 15, 3) := by decide +kernel
theorem dX7_sign_11 : decode cX7_sign 11 = .ok (.aload_n 0, 1) := by decide +kernel
theorem dX7_sign_12 : decode cX7_sign 12 = .ok (.getfield 55, 3) := by decide +kernel
theorem dX7_sign_15 : decode cX7_sign 15 = .ok (.aload_n 0, 1) := by decide +kernel
theorem dX7_sign_16 : decode cX7_sign 16 = .ok (.getfield 190, 3) := by decide +kernel
theorem dX7_sign_19 : decode cX7_sign 19 = .ok (.caload, 1) := by decide +kernel
theorem dX7_sign_20 : decode cX7_sign 20 = .ok (.goto 4, 3) := by decide +kernel
theorem dX7_sign_23 : decode cX7_sign 23 = .ok (.iconst (-1), 1) := by decide +kernel
theorem dX7_sign_24 : decode cX7_sign 24 = .ok (.ireturn, 1) := by decide +kernel
theorem dX7_goes_0 : decode cX7_goes 0 = .ok (.aload_n 0, 1) := by decide +kernel
theorem dX7_goes_1 : decode cX7_goes 1 = .ok (.getfield 196, 3) := by decide +kernel
theorem dX7_goes_4 : decode cX7_goes 4 = .ok (.iconst (-1), 1) := by decide +kernel
theorem dX7_goes_5 : decode cX7_goes 5 = .ok (.if_icmp .ne 15, 3) := by decide +kernel
theorem dX7_goes_8 : decode cX7_goes 8 = .ok (.aload_n 0, 1) := by decide +kernel
theorem dX7_goes_9 : decode cX7_goes 9 = .ok (.invokevirtual 199, 3) := by decide +kernel
theorem dX7_goes_12 : decode cX7_goes 12 = .ok (.iload_n 1, 1) := by decide +kernel
theorem dX7_goes_13 : decode cX7_goes 13 = .ok (.if_icmp .ne 7, 3) := by decide +kernel
theorem dX7_goes_16 : decode cX7_goes 16 = .ok (.iconst 1, 1) := by decide +kernel
theorem dX7_goes_17 : decode cX7_goes 17 = .ok (.goto 4, 3) := by decide +kernel
theorem dX7_goes_20 : decode cX7_goes 20 = .ok (.iconst 0, 1) := by decide +kernel
theorem dX7_goes_21 : decode cX7_goes 21 = .ok (.istore_n 2, 1) := by decide +kernel
theorem dX7_goes_22 : decode cX7_goes 22 = .ok (.aload_n 0, 1) := by decide +kernel
theorem dX7_goes_23 : decode cX7_goes 23 = .ok (.dup, 1) := by decide +kernel
theorem dX7_goes_24 : decode cX7_goes 24 = .ok (.getfield 190, 3) := by decide +kernel
theorem dX7_goes_27 : decode cX7_goes 27 = .ok (.iload_n 2, 1) := by decide +kernel
theorem dX7_goes_28 : decode cX7_goes 28 = .ok (.ifCond .eq 7, 3) := by decide +kernel
theorem dX7_goes_31 : decode cX7_goes 31 = .ok (.iconst 1, 1) := by decide +kernel
theorem dX7_goes_32 : decode cX7_goes 32 = .ok (.goto 4, 3) := by decide +kernel
theorem dX7_goes_35 : decode cX7_goes 35 = .ok (.iconst 0, 1) := by decide +kernel
theorem dX7_goes_36 : decode cX7_goes 36 = .ok (.iadd, 1) := by decide +kernel
theorem dX7_goes_37 : decode cX7_goes 37 = .ok (.putfield 190, 3) := by decide +kernel
theorem dX7_goes_40 : decode cX7_goes 40 = .ok (.iload_n 2, 1) := by decide +kernel
theorem dX7_goes_41 : decode cX7_goes 41 = .ok (.ireturn, 1) := by decide +kernel
theorem dX7_fault_0 : decode cX7_fault 0 = .ok (.aload_n 0, 1) := by decide +kernel
theorem dX7_fault_1 : decode cX7_fault 1 = .ok (.aload_n 0, 1) := by decide +kernel
theorem dX7_fault_2 : decode cX7_fault 2 = .ok (.getfield 196, 3) := by decide +kernel
theorem dX7_fault_5 : decode cX7_fault 5 = .ok (.iconst (-1), 1) := by decide +kernel
theorem dX7_fault_6 : decode cX7_fault 6 = .ok (.if_icmp .ne 10, 3) := by decide +kernel
theorem dX7_fault_9 : decode cX7_fault 9 = .ok (.aload_n 0, 1) := by decide +kernel
theorem dX7_fault_10 : decode cX7_fault 10 = .ok (.getfield 190, 3) := by decide +kernel
theorem dX7_fault_13 : decode cX7_fault 13 = .ok (.goto 7, 3) := by decide +kernel
theorem dX7_fault_16 : decode cX7_fault 16 = .ok (.aload_n 0, 1) := by decide +kernel
theorem dX7_fault_17 : decode cX7_fault 17 = .ok (.getfield 196, 3) := by decide +kernel
theorem dX7_fault_20 : decode cX7_fault 20 = .ok (.putfield 196, 3) := by decide +kernel
theorem dX7_fault_23 : decode cX7_fault 23 = .ok (.return_, 1) := by decide +kernel
theorem dX7_digit_0 : decode cX7_digit 0 = .ok (.aload_n 0, 1) := by decide +kernel
theorem dX7_digit_1 : decode cX7_digit 1 = .ok (.invokevirtual 199, 3) := by decide +kernel
theorem dX7_digit_4 : decode cX7_digit 4 = .ok (.bipush 48, 2) := by decide +kernel
theorem dX7_digit_6 : decode cX7_digit 6 = .ok (.isub, 1) := by decide +kernel
theorem dX7_digit_7 : decode cX7_digit 7 = .ok (.istore_n 2, 1) := by decide +kernel
theorem dX7_digit_8 : decode cX7_digit 8 = .ok (.aload_n 0, 1) := by decide +kernel
theorem dX7_digit_9 : decode cX7_digit 9 = .ok (.getfield 196, 3) := by decide +kernel
theorem dX7_digit_12 : decode cX7_digit 12 = .ok (.iconst (-1), 1) := by decide +kernel
theorem dX7_digit_13 : decode cX7_digit 13 = .ok (.if_icmp .ne 28, 3) := by decide +kernel
theorem dX7_digit_16 : decode cX7_digit 16 = .ok (.aload_n 0, 1) := by decide +kernel
theorem dX7_digit_17 : decode cX7_digit 17 = .ok (.invokevirtual 199, 3) := by decide +kernel
theorem dX7_digit_20 : decode cX7_digit 20 = .ok (.bipush 48, 2) := by decide +kernel
theorem dX7_digit_22 : decode cX7_digit 22 = .ok (.iload_n 1, 1) := by decide +kernel
theorem dX7_digit_23 : decode cX7_digit 23 = .ok (.invokestatic 95, 3) := by decide +kernel
theorem dX7_digit_26 : decode cX7_digit 26 = .ok (.ifCond .eq 15, 3) := by decide +kernel
theorem dX7_digit_29 : decode cX7_digit 29 = .ok (.aload_n 0, 1) := by decide +kernel
theorem dX7_digit_30 : decode cX7_digit 30 = .ok (.dup, 1) := by decide +kernel
theorem dX7_digit_31 : decode cX7_digit 31 = .ok (.getfield 190, 3) := by decide +kernel
theorem dX7_digit_34 : decode cX7_digit 34 = .ok (.iconst 1, 1) := by decide +kernel
theorem dX7_digit_35 : decode cX7_digit 35 = .ok (.iadd, 1) := by decide +kernel
theorem dX7_digit_36 : decode cX7_digit 36 = .ok (.putfield 190, 3) := by decide +kernel
theorem dX7_digit_39 : decode cX7_digit 39 = .ok (.iload_n 2, 1) := by decide +kernel
theorem dX7_digit_40 : decode cX7_digit 40 = .ok (.ireturn, 1) := by decide +kernel
theorem dX7_digit_41 : decode cX7_digit 41 = .ok (.aload_n 0, 1) := by decide +kernel
theorem dX7_digit_42 : decode cX7_digit 42 = .ok (.invokevirtual 203, 3) := by decide +kernel
theorem dX7_digit_45 : decode cX7_digit 45 = .ok (.iconst 0, 1) := by decide +kernel
theorem dX7_digit_46 : decode cX7_digit 46 = .ok (.ireturn, 1) := by decide +kernel
theorem dX7_readNumber_0 : decode cX7_readNumber 0 = .ok (.aload_n 0, 1) := by decide +kernel
theorem dX7_readNumber_1 : decode cX7_readNumber 1 = .ok (.bipush 57, 2) := by decide +kernel
theorem dX7_readNumber_3 : decode cX7_readNumber 3 = .ok (.invokevirtual 205, 3) := by decide +kernel
theorem dX7_readNumber_6 : decode cX7_readNumber 6 = .ok (.istore_n 1, 1) := by decide +kernel
theorem dX7_readNumber_7 : decode cX7_readNumber 7 = .ok (.iconst 0, 1) := by decide +kernel
theorem dX7_readNumber_8 : decode cX7_readNumber 8 = .ok (.istore_n 2, 1) := by decide +kernel
theorem dX7_readNumber_9 : decode cX7_readNumber 9 = .ok (.iload_n 2, 1) := by decide +kernel
theorem dX7_readNumber_10 : decode cX7_readNumber 10 = .ok (.iconst 3, 1) := by decide +kernel
theorem dX7_readNumber_11 : decode cX7_readNumber 11 = .ok (.if_icmp .ge 54, 3) := by decide +kernel
theorem dX7_readNumber_14 : decode cX7_readNumber 14 = .ok (.aload_n 0, 1) := by decide +kernel
theorem dX7_readNumber_15 : decode cX7_readNumber 15 = .ok (.getfield 196, 3) := by decide +kernel
theorem dX7_readNumber_18 : decode cX7_readNumber 18 = .ok (.iconst (-1), 1) := by decide +kernel
theorem dX7_readNumber_19 : decode cX7_readNumber 19 = .ok (.if_icmp .ne 46, 3) := by decide +kernel
theorem dX7_readNumber_22 : decode cX7_readNumber 22 = .ok (.aload_n 0, 1) := by decide +kernel
theorem dX7_readNumber_23 : decode cX7_readNumber 23 = .ok (.invokevirtual 199, 3) := by decide +kernel
theorem dX7_readNumber_26 : decode cX7_readNumber 26 = .ok (.bipush 48, 2) := by decide +kernel
theorem dX7_readNumber_28 : decode cX7_readNumber 28 = .ok (.bipush 57, 2) := by decide +kernel
theorem dX7_readNumber_30 : decode cX7_readNumber 30 = .ok (.invokestatic 95, 3) := by decide +kernel
theorem dX7_readNumber_33 : decode cX7_readNumber 33 = .ok (.ifCond .eq 32, 3) := by decide +kernel
theorem dX7_readNumber_36 : decode cX7_readNumber 36 = .ok (.bipush 10, 2) := by decide +kernel
theorem dX7_readNumber_38 : decode cX7_readNumber 38 = .ok (.iload_n 1, 1) := by decide +kernel
theorem dX7_readNumber_39 : decode cX7_readNumber 39 = .ok (.imul, 1) := by decide +kernel
theorem dX7_readNumber_40 : decode cX7_readNumber 40 = .ok (.aload_n 0, 1) := by decide +kernel
theorem dX7_readNumber_41 : decode cX7_readNumber 41 = .ok (.invokevirtual 199, 3) := by decide +kernel
theorem dX7_readNumber_44 : decode cX7_readNumber 44 = .ok (.iadd, 1) := by decide +kernel
theorem dX7_readNumber_45 : decode cX7_readNumber 45 = .ok (.bipush 48, 2) := by decide +kernel
theorem dX7_readNumber_47 : decode cX7_readNumber 47 = .ok (.isub, 1) := by decide +kernel
theorem dX7_readNumber_48 : decode cX7_readNumber 48 = .ok (.istore_n 1, 1) := by decide +kernel
theorem dX7_readNumber_49 : decode cX7_readNumber 49 = .ok (.aload_n 0, 1) := by decide +kernel
theorem dX7_readNumber_50 : decode cX7_readNumber 50 = .ok (.dup, 1) := by decide +kernel
theorem dX7_readNumber_51 : decode cX7_readNumber 51 = .ok (.getfield 190, 3) := by decide +kernel
theorem dX7_readNumber_54 : decode cX7_readNumber 54 = .ok (.iconst 1, 1) := by decide +kernel
theorem dX7_readNumber_55 : decode cX7_readNumber 55 = .ok (.iadd, 1) := by decide +kernel
theorem dX7_readNumber_56 : decode cX7_readNumber 56 = .ok (.putfield 190, 3) := by decide +kernel
theorem dX7_readNumber_59 : decode cX7_readNumber 59 = .ok (.iinc 2 1, 3) := by decide +kernel
theorem dX7_readNumber_62 : decode cX7_readNumber 62 = .ok (.goto (-53), 3) := by decide +kernel
theorem dX7_readNumber_65 : decode cX7_readNumber 65 = .ok (.iload_n 1, 1) := by decide +kernel
theorem dX7_readNumber_66 : decode cX7_readNumber 66 = .ok (.ireturn, 1) := by decide +kernel
theorem dX7_readOperation_0 : decode cX7_readOperation 0 = .ok (.aload_n 0, 1) := by decide +kernel
theorem dX7_readOperation_1 : decode cX7_readOperation 1 = .ok (.bipush 114, 2) := by decide +kernel
theorem dX7_readOperation_3 : decode cX7_readOperation 3 = .ok (.invokevirtual 209, 3) := by decide +kernel
theorem dX7_readOperation_6 : decode cX7_readOperation 6 = .ok (.ifCond .eq 7, 3) := by decide +kernel
theorem dX7_readOperation_9 : decode cX7_readOperation 9 = .ok (.iconst 0, 1) := by decide +kernel
theorem dX7_readOperation_10 : decode cX7_readOperation 10 = .ok (.goto 30, 3) := by decide +kernel
theorem dX7_readOperation_13 : decode cX7_readOperation 13 = .ok (.aload_n 0, 1) := by decide +kernel
theorem dX7_readOperation_14 : decode cX7_readOperation 14 = .ok (.bipush 119, 2) := by decide +kernel
theorem dX7_readOperation_16 : decode cX7_readOperation 16 = .ok (.invokevirtual 209, 3) := by decide +kernel
theorem dX7_readOperation_19 : decode cX7_readOperation 19 = .ok (.ifCond .eq 7, 3) := by decide +kernel
theorem dX7_readOperation_22 : decode cX7_readOperation 22 = .ok (.iconst 1, 1) := by decide +kernel
theorem dX7_readOperation_23 : decode cX7_readOperation 23 = .ok (.goto 17, 3) := by decide +kernel
theorem dX7_readOperation_26 : decode cX7_readOperation 26 = .ok (.aload_n 0, 1) := by decide +kernel
theorem dX7_readOperation_27 : decode cX7_readOperation 27 = .ok (.bipush 97, 2) := by decide +kernel
theorem dX7_readOperation_29 : decode cX7_readOperation 29 = .ok (.invokevirtual 209, 3) := by decide +kernel
theorem dX7_readOperation_32 : decode cX7_readOperation 32 = .ok (.ifCond .eq 7, 3) := by decide +kernel
theorem dX7_readOperation_35 : decode cX7_readOperation 35 = .ok (.iconst 2, 1) := by decide +kernel
theorem dX7_readOperation_36 : decode cX7_readOperation 36 = .ok (.goto 4, 3) := by decide +kernel
theorem dX7_readOperation_39 : decode cX7_readOperation 39 = .ok (.iconst (-1), 1) := by decide +kernel
theorem dX7_readOperation_40 : decode cX7_readOperation 40 = .ok (.istore_n 1, 1) := by decide +kernel
theorem dX7_readOperation_41 : decode cX7_readOperation 41 = .ok (.iload_n 1, 1) := by decide +kernel
theorem dX7_readOperation_42 : decode cX7_readOperation 42 = .ok (.iconst (-1), 1) := by decide +kernel
theorem dX7_readOperation_43 : decode cX7_readOperation 43 = .ok (.if_icmp .ne 8, 3) := by decide +kernel
theorem dX7_readOperation_46 : decode cX7_readOperation 46 = .ok (.aload_n 0, 1) := by decide +kernel
theorem dX7_readOperation_47 : decode cX7_readOperation 47 = .ok (.invokevirtual 203, 3) := by decide +kernel
theorem dX7_readOperation_50 : decode cX7_readOperation 50 = .ok (.return_, 1) := by decide +kernel
theorem dX7_readOperation_51 : decode cX7_readOperation 51 = .ok (.iconst 3, 1) := by decide +kernel
theorem dX7_readOperation_52 : decode cX7_readOperation 52 = .ok (.aload_n 0, 1) := by decide +kernel
theorem dX7_readOperation_53 : decode cX7_readOperation 53 = .ok (.getfield 213, 3) := by decide +kernel
theorem dX7_readOperation_56 : decode cX7_readOperation 56 = .ok (.imul, 1) := by decide +kernel
theorem dX7_readOperation_57 : decode cX7_readOperation 57 = .ok (.istore_n 2, 1) := by decide +kernel
theorem dX7_readOperation_58 : decode cX7_readOperation 58 = .ok (.aload_n 0, 1) := by decide +kernel
theorem dX7_readOperation_59 : decode cX7_readOperation 59 = .ok (.getfield 62, 3) := by decide +kernel
theorem dX7_readOperation_62 : decode cX7_readOperation 62 = .ok (.iload_n 2, 1) := by decide +kernel
theorem dX7_readOperation_63 : decode cX7_readOperation 63 = .ok (.iload_n 1, 1) := by decide +kernel
theorem dX7_readOperation_64 : decode cX7_readOperation 64 = .ok (.iastore, 1) := by decide +kernel
theorem dX7_readOperation_65 : decode cX7_readOperation 65 = .ok (.aload_n 0, 1) := by decide +kernel
theorem dX7_readOperation_66 : decode cX7_readOperation 66 = .ok (.getfield 62, 3) := by decide +kernel
theorem dX7_readOperation_69 : decode cX7_readOperation 69 = .ok (.iload_n 2, 1) := by decide +kernel
theorem dX7_readOperation_70 : decode cX7_readOperation 70 = .ok (.iconst 1, 1) := by decide +kernel
theorem dX7_readOperation_71 : decode cX7_readOperation 71 = .ok (.iadd, 1) := by decide +kernel
theorem dX7_readOperation_72 : decode cX7_readOperation 72 = .ok (.aload_n 0, 1) := by decide +kernel
theorem dX7_readOperation_73 : decode cX7_readOperation 73 = .ok (.bipush 55, 2) := by decide +kernel
theorem dX7_readOperation_75 : decode cX7_readOperation 75 = .ok (.invokevirtual 205, 3) := by decide +kernel
theorem dX7_readOperation_78 : decode cX7_readOperation 78 = .ok (.iastore, 1) := by decide +kernel
theorem dX7_readOperation_79 : decode cX7_readOperation 79 = .ok (.aload_n 0, 1) := by decide +kernel
theorem dX7_readOperation_80 : decode cX7_readOperation 80 = .ok (.getfield 62, 3) := by decide +kernel
theorem dX7_readOperation_83 : decode cX7_readOperation 83 = .ok (.iload_n 2, 1) := by decide +kernel
theorem dX7_readOperation_84 : decode cX7_readOperation 84 = .ok (.iconst 2, 1) := by decide +kernel
theorem dX7_readOperation_85 : decode cX7_readOperation 85 = .ok (.iadd, 1) := by decide +kernel
theorem dX7_readOperation_86 : decode cX7_readOperation 86 = .ok (.iconst 0, 1) := by decide +kernel
theorem dX7_readOperation_87 : decode cX7_readOperation 87 = .ok (.iastore, 1) := by decide +kernel
theorem dX7_readOperation_88 : decode cX7_readOperation 88 = .ok (.iload_n 1, 1) := by decide +kernel
theorem dX7_readOperation_89 : decode cX7_readOperation 89 = .ok (.iconst 1, 1) := by decide +kernel
theorem dX7_readOperation_90 : decode cX7_readOperation 90 = .ok (.if_icmp .ne 48, 3) := by decide +kernel
theorem dX7_readOperation_93 : decode cX7_readOperation 93 = .ok (.aload_n 0, 1) := by decide +kernel
theorem dX7_readOperation_94 : decode cX7_readOperation 94 = .ok (.bipush 61, 2) := by decide +kernel
theorem dX7_readOperation_96 : decode cX7_readOperation 96 = .ok (.invokevirtual 209, 3) := by decide +kernel
theorem dX7_readOperation_99 : decode cX7_readOperation 99 = .ok (.ifCond .ne 7, 3) := by decide +kernel
theorem dX7_readOperation_102 : decode cX7_readOperation 102 = .ok (.aload_n 0, 1) := by decide +kernel
theorem dX7_readOperation_103 : decode cX7_readOperation 103 = .ok (.invokevirtual 203, 3) := by decide +kernel
theorem dX7_readOperation_106 : decode cX7_readOperation 106 = .ok (.aload_n 0, 1) := by decide +kernel
theorem dX7_readOperation_107 : decode cX7_readOperation 107 = .ok (.bipush 45, 2) := by decide +kernel
theorem dX7_readOperation_109 : decode cX7_readOperation 109 = .ok (.invokevirtual 209, 3) := by decide +kernel
theorem dX7_readOperation_112 : decode cX7_readOperation 112 = .ok (.ifCond .eq 7, 3) := by decide +kernel
theorem dX7_readOperation_115 : decode cX7_readOperation 115 = .ok (.iconst (-1), 1) := by decide +kernel
theorem dX7_readOperation_116 : decode cX7_readOperation 116 = .ok (.goto 4, 3) := by decide +kernel
theorem dX7_readOperation_119 : decode cX7_readOperation 119 = .ok (.iconst 1, 1) := by decide +kernel
theorem dX7_readOperation_120 : decode cX7_readOperation 120 = .ok (.istore_n 3, 1) := by decide +kernel
theorem dX7_readOperation_121 : decode cX7_readOperation 121 = .ok (.aload_n 0, 1) := by decide +kernel
theorem dX7_readOperation_122 : decode cX7_readOperation 122 = .ok (.getfield 62, 3) := by decide +kernel
theorem dX7_readOperation_125 : decode cX7_readOperation 125 = .ok (.iload_n 2, 1) := by decide +kernel
theorem dX7_readOperation_126 : decode cX7_readOperation 126 = .ok (.iconst 2, 1) := by decide +kernel
theorem dX7_readOperation_127 : decode cX7_readOperation 127 = .ok (.iadd, 1) := by decide +kernel
theorem dX7_readOperation_128 : decode cX7_readOperation 128 = .ok (.iload_n 3, 1) := by decide +kernel
theorem dX7_readOperation_129 : decode cX7_readOperation 129 = .ok (.aload_n 0, 1) := by decide +kernel
theorem dX7_readOperation_130 : decode cX7_readOperation 130 = .ok (.invokevirtual 216, 3) := by decide +kernel
theorem dX7_readOperation_133 : decode cX7_readOperation 133 = .ok (.imul, 1) := by decide +kernel
theorem dX7_readOperation_134 : decode cX7_readOperation 134 = .ok (.iastore, 1) := by decide +kernel
theorem dX7_readOperation_135 : decode cX7_readOperation 135 = .ok (.goto 54, 3) := by decide +kernel
theorem dX7_readOperation_138 : decode cX7_readOperation 138 = .ok (.iload_n 1, 1) := by decide +kernel
theorem dX7_readOperation_139 : decode cX7_readOperation 139 = .ok (.iconst 2, 1) := by decide +kernel
theorem dX7_readOperation_140 : decode cX7_readOperation 140 = .ok (.if_icmp .ne 49, 3) := by decide +kernel
theorem dX7_readOperation_143 : decode cX7_readOperation 143 = .ok (.aload_n 0, 1) := by decide +kernel
theorem dX7_readOperation_144 : decode cX7_readOperation 144 = .ok (.bipush 43, 2) := by decide +kernel
theorem dX7_readOperation_146 : decode cX7_readOperation 146 = .ok (.invokevirtual 209, 3) := by decide +kernel
theorem dX7_readOperation_149 : decode cX7_readOperation 149 = .ok (.ifCond .eq 7, 3) := by decide +kernel
theorem dX7_readOperation_152 : decode cX7_readOperation 152 = .ok (.iconst 1, 1) := by decide +kernel
theorem dX7_readOperation_153 : decode cX7_readOperation 153 = .ok (.goto 4, 3) := by decide +kernel
theorem dX7_readOperation_156 : decode cX7_readOperation 156 = .ok (.iconst (-1), 1) := by decide +kernel
theorem dX7_readOperation_157 : decode cX7_readOperation 157 = .ok (.istore_n 3, 1) := by decide +kernel
theorem dX7_readOperation_158 : decode cX7_readOperation 158 = .ok (.iload_n 3, 1) := by decide +kernel
theorem dX7_readOperation_159 : decode cX7_readOperation 159 = .ok (.ifCond .ge 16, 3) := by decide +kernel
theorem dX7_readOperation_162 : decode cX7_readOperation 162 = .ok (.aload_n 0, 1) := by decide +kernel
theorem dX7_readOperation_163 : decode cX7_readOperation 163 = .ok (.bipush 45, 2) := by decide +kernel
theorem dX7_readOperation_165 : decode cX7_readOperation 165 = .ok (.invokevirtual 209, 3) := by decide +kernel
theorem dX7_readOperation_168 : decode cX7_readOperation 168 = .ok (.ifCond .ne 7, 3) := by decide +kernel
theorem dX7_readOperation_171 : decode cX7_readOperation 171 = .ok (.aload_n 0, 1) := by decide +kernel
theorem dX7_readOperation_172 : decode cX7_readOperation 172 = .ok (.invokevirtual 203, 3) := by decide +kernel
theorem dX7_readOperation_175 : decode cX7_readOperation 175 = .ok (.aload_n 0, 1) := by decide +kernel
theorem dX7_readOperation_176 : decode cX7_readOperation 176 = .ok (.getfield 62, 3) := by decide +kernel
theorem dX7_readOperation_179 : decode cX7_readOperation 179 = .ok (.iload_n 2, 1) := by decide +kernel
theorem dX7_readOperation_180 : decode cX7_readOperation 180 = .ok (.iconst 2, 1) := by decide +kernel
theorem dX7_readOperation_181 : decode cX7_readOperation 181 = .ok (.iadd, 1) := by decide +kernel
theorem dX7_readOperation_182 : decode cX7_readOperation 182 = .ok (.iload_n 3, 1) := by decide +kernel
theorem dX7_readOperation_183 : decode cX7_readOperation 183 = .ok (.aload_n 0, 1) := by decide +kernel
theorem dX7_readOperation_184 : decode cX7_readOperation 184 = .ok (.invokevirtual 216, 3) := by decide +kernel
theorem dX7_readOperation_187 : decode cX7_readOperation 187 = .ok (.imul, 1) := by decide +kernel
theorem dX7_readOperation_188 : decode cX7_readOperation 188 = .ok (.iastore, 1) := by decide +kernel
theorem dX7_readOperation_189 : decode cX7_readOperation 189 = .ok (.aload_n 0, 1) := by decide +kernel
theorem dX7_readOperation_190 : decode cX7_readOperation 190 = .ok (.dup, 1) := by decide +kernel
theorem dX7_readOperation_191 : decode cX7_readOperation 191 = .ok (.getfield 213, 3) := by decide +kernel
theorem dX7_readOperation_194 : decode cX7_readOperation 194 = .ok (.iconst 1, 1) := by decide +kernel
theorem dX7_readOperation_195 : decode cX7_readOperation 195 = .ok (.iadd, 1) := by decide +kernel
theorem dX7_readOperation_196 : decode cX7_readOperation 196 = .ok (.putfield 213, 3) := by decide +kernel
theorem dX7_readOperation_199 : decode cX7_readOperation 199 = .ok (.return_, 1) := by decide +kernel
theorem dX7_ends_0 : decode cX7_ends 0 = .ok (.aload_n 0, 1) := by decide +kernel
theorem dX7_ends_1 : decode cX7_ends 1 = .ok (.aload_n 0, 1) := by decide +kernel
theorem dX7_ends_2 : decode cX7_ends 2 = .ok (.bipush 99, 2) := by decide +kernel
theorem dX7_ends_4 : decode cX7_ends 4 = .ok (.invokevirtual 209, 3) := by decide +kernel
theorem dX7_ends_7 : decode cX7_ends 7 = .ok (.ifCond .eq 7, 3) := by decide +kernel
theorem dX7_ends_10 : decode cX7_ends 10 = .ok (.iconst 1, 1) := by decide +kernel
theorem dX7_ends_11 : decode cX7_ends 11 = .ok (.goto 17, 3) := by decide +kernel
theorem dX7_ends_14 : decode cX7_ends 14 = .ok (.aload_n 0, 1) := by decide +kernel
theorem dX7_ends_15 : decode cX7_ends 15 = .ok (.bipush 120, 2) := by decide +kernel
theorem dX7_ends_17 : decode cX7_ends 17 = .ok (.invokevirtual 209, 3) := by decide +kernel
theorem dX7_ends_20 : decode cX7_ends 20 = .ok (.ifCond .eq 7, 3) := by decide +kernel
theorem dX7_ends_23 : decode cX7_ends 23 = .ok (.iconst 2, 1) := by decide +kernel
theorem dX7_ends_24 : decode cX7_ends 24 = .ok (.goto 4, 3) := by decide +kernel
theorem dX7_ends_27 : decode cX7_ends 27 = .ok (.iconst 0, 1) := by decide +kernel
theorem dX7_ends_28 : decode cX7_ends 28 = .ok (.putfield 219, 3) := by decide +kernel
theorem dX7_ends_31 : decode cX7_ends 31 = .ok (.aload_n 0, 1) := by decide +kernel
theorem dX7_ends_32 : decode cX7_ends 32 = .ok (.getfield 219, 3) := by decide +kernel
theorem dX7_ends_35 : decode cX7_ends 35 = .ok (.ifCond .le 7, 3) := by decide +kernel
theorem dX7_ends_38 : decode cX7_ends 38 = .ok (.iconst 1, 1) := by decide +kernel
theorem dX7_ends_39 : decode cX7_ends 39 = .ok (.goto 4, 3) := by decide +kernel
theorem dX7_ends_42 : decode cX7_ends 42 = .ok (.iconst 0, 1) := by decide +kernel
theorem dX7_ends_43 : decode cX7_ends 43 = .ok (.ireturn, 1) := by decide +kernel
theorem dX7_readProgram_0 : decode cX7_readProgram 0 = .ok (.aload_n 0, 1) := by decide +kernel
theorem dX7_readProgram_1 : decode cX7_readProgram 1 = .ok (.getfield 193, 3) := by decide +kernel
theorem dX7_readProgram_4 : decode cX7_readProgram 4 = .ok (.ifCond .eq 10, 3) := by decide +kernel
theorem dX7_readProgram_7 : decode cX7_readProgram 7 = .ok (.aload_n 0, 1) := by decide +kernel
theorem dX7_readProgram_8 : decode cX7_readProgram 8 = .ok (.invokevirtual 222, 3) := by decide +kernel
theorem dX7_readProgram_11 : decode cX7_readProgram 11 = .ok (.ifCond .eq 4, 3) := by decide +kernel
theorem dX7_readProgram_14 : decode cX7_readProgram 14 = .ok (.return_, 1) := by decide +kernel
theorem dX7_readProgram_15 : decode cX7_readProgram 15 = .ok (.aload_n 0, 1) := by decide +kernel
theorem dX7_readProgram_16 : decode cX7_readProgram 16 = .ok (.invokevirtual 226, 3) := by decide +kernel
theorem dX7_readProgram_19 : decode cX7_readProgram 19 = .ok (.aload_n 0, 1) := by decide +kernel
theorem dX7_readProgram_20 : decode cX7_readProgram 20 = .ok (.bipush 32, 2) := by decide +kernel
theorem dX7_readProgram_22 : decode cX7_readProgram 22 = .ok (.invokevirtual 209, 3) := by decide +kernel
theorem dX7_readProgram_25 : decode cX7_readProgram 25 = .ok (.ifCond .eq 18, 3) := by decide +kernel
theorem dX7_readProgram_28 : decode cX7_readProgram 28 = .ok (.aload_n 0, 1) := by decide +kernel
theorem dX7_readProgram_29 : decode cX7_readProgram 29 = .ok (.invokevirtual 222, 3) := by decide +kernel
theorem dX7_readProgram_32 : decode cX7_readProgram 32 = .ok (.ifCond .eq 4, 3) := by decide +kernel
theorem dX7_readProgram_35 : decode cX7_readProgram 35 = .ok (.return_, 1) := by decide +kernel
theorem dX7_readProgram_36 : decode cX7_readProgram 36 = .ok (.aload_n 0, 1) := by decide +kernel
theorem dX7_readProgram_37 : decode cX7_readProgram 37 = .ok (.invokevirtual 226, 3) := by decide +kernel
theorem dX7_readProgram_40 : decode cX7_readProgram 40 = .ok (.goto (-21), 3) := by decide +kernel
theorem dX7_readProgram_43 : decode cX7_readProgram 43 = .ok (.return_, 1) := by decide +kernel
theorem dX7_run_0 : decode cX7_run 0 = .ok (.aload_n 0, 1) := by decide +kernel
theorem dX7_run_1 : decode cX7_run 1 = .ok (.aload_n 0, 1) := by decide +kernel
theorem dX7_run_2 : decode cX7_run 2 = .ok (.iload_n 1, 1) := by decide +kernel
theorem dX7_run_3 : decode cX7_run 3 = .ok (.invokevirtual 134, 3) := by decide +kernel
theorem dX7_run_6 : decode cX7_run 6 = .ok (.putfield 3, 3) := by decide +kernel
theorem dX7_run_9 : decode cX7_run 9 = .ok (.aload_n 0, 1) := by decide +kernel
theorem dX7_run_10 : decode cX7_run 10 = .ok (.getfield 3, 3) := by decide +kernel
theorem dX7_run_13 : decode cX7_run 13 = .ok (.ifCond .eq 5, 3) := by decide +kernel
theorem dX7_run_16 : decode cX7_run 16 = .ok (.iconst 0, 1) := by decide +kernel
theorem dX7_run_17 : decode cX7_run 17 = .ok (.ireturn, 1) := by decide +kernel
theorem dX7_run_18 : decode cX7_run 18 = .ok (.aload_n 0, 1) := by decide +kernel
theorem dX7_run_19 : decode cX7_run 19 = .ok (.aload_n 0, 1) := by decide +kernel
theorem dX7_run_20 : decode cX7_run 20 = .ok (.getfield 187, 3) := by decide +kernel
theorem dX7_run_23 : decode cX7_run 23 = .ok (.putfield 193, 3) := by decide +kernel
theorem dX7_run_26 : decode cX7_run 26 = .ok (.aload_n 0, 1) := by decide +kernel
theorem dX7_run_27 : decode cX7_run 27 = .ok (.iconst 0, 1) := by decide +kernel
theorem dX7_run_28 : decode cX7_run 28 = .ok (.putfield 187, 3) := by decide +kernel
theorem dX7_run_31 : decode cX7_run 31 = .ok (.aload_n 0, 1) := by decide +kernel
theorem dX7_run_32 : decode cX7_run 32 = .ok (.iconst 0, 1) := by decide +kernel
theorem dX7_run_33 : decode cX7_run 33 = .ok (.putfield 190, 3) := by decide +kernel
theorem dX7_run_36 : decode cX7_run 36 = .ok (.aload_n 0, 1) := by decide +kernel
theorem dX7_run_37 : decode cX7_run 37 = .ok (.iconst (-1), 1) := by decide +kernel
theorem dX7_run_38 : decode cX7_run 38 = .ok (.putfield 196, 3) := by decide +kernel
theorem dX7_run_41 : decode cX7_run 41 = .ok (.aload_n 0, 1) := by decide +kernel
theorem dX7_run_42 : decode cX7_run 42 = .ok (.iconst 0, 1) := by decide +kernel
theorem dX7_run_43 : decode cX7_run 43 = .ok (.putfield 213, 3) := by decide +kernel
theorem dX7_run_46 : decode cX7_run 46 = .ok (.aload_n 0, 1) := by decide +kernel
theorem dX7_run_47 : decode cX7_run 47 = .ok (.iconst 0, 1) := by decide +kernel
theorem dX7_run_48 : decode cX7_run 48 = .ok (.putfield 219, 3) := by decide +kernel
theorem dX7_run_51 : decode cX7_run 51 = .ok (.aload_n 0, 1) := by decide +kernel
theorem dX7_run_52 : decode cX7_run 52 = .ok (.invokevirtual 229, 3) := by decide +kernel
theorem dX7_run_55 : decode cX7_run 55 = .ok (.aload_n 0, 1) := by decide +kernel
theorem dX7_run_56 : decode cX7_run 56 = .ok (.getfield 190, 3) := by decide +kernel
theorem dX7_run_59 : decode cX7_run 59 = .ok (.aload_n 0, 1) := by decide +kernel
theorem dX7_run_60 : decode cX7_run 60 = .ok (.getfield 193, 3) := by decide +kernel
theorem dX7_run_63 : decode cX7_run 63 = .ok (.if_icmp .ge 7, 3) := by decide +kernel
theorem dX7_run_66 : decode cX7_run 66 = .ok (.aload_n 0, 1) := by decide +kernel
theorem dX7_run_67 : decode cX7_run 67 = .ok (.invokevirtual 203, 3) := by decide +kernel
theorem dX7_run_70 : decode cX7_run 70 = .ok (.aload_n 0, 1) := by decide +kernel
theorem dX7_run_71 : decode cX7_run 71 = .ok (.getfield 196, 3) := by decide +kernel
theorem dX7_run_74 : decode cX7_run 74 = .ok (.iconst (-1), 1) := by decide +kernel
theorem dX7_run_75 : decode cX7_run 75 = .ok (.if_icmp .eq 17, 3) := by decide +kernel
theorem dX7_run_78 : decode cX7_run 78 = .ok (.aload_n 0, 1) := by decide +kernel
theorem dX7_run_79 : decode cX7_run 79 = .ok (.aload_n 0, 1) := by decide +kernel
theorem dX7_run_80 : decode cX7_run 80 = .ok (.getfield 196, 3) := by decide +kernel
theorem dX7_run_83 : decode cX7_run 83 = .ok (.putfield 59, 3) := by decide +kernel
theorem dX7_run_86 : decode cX7_run 86 = .ok (.aload_n 0, 1) := by decide +kernel
theorem dX7_run_87 : decode cX7_run 87 = .ok (.iconst 3, 1) := by decide +kernel
theorem dX7_run_88 : decode cX7_run 88 = .ok (.invokevirtual 99, 3) := by decide +kernel
theorem dX7_run_91 : decode cX7_run 91 = .ok (.ireturn, 1) := by decide +kernel
theorem dX7_run_92 : decode cX7_run 92 = .ok (.aload_n 0, 1) := by decide +kernel
theorem dX7_run_93 : decode cX7_run 93 = .ok (.getfield 34, 3) := by decide +kernel
theorem dX7_run_96 : decode cX7_run 96 = .ok (.iload_n 1, 1) := by decide +kernel
theorem dX7_run_97 : decode cX7_run 97 = .ok (.iaload, 1) := by decide +kernel
theorem dX7_run_98 : decode cX7_run 98 = .ok (.aload_n 0, 1) := by decide +kernel
theorem dX7_run_99 : decode cX7_run 99 = .ok (.getfield 213, 3) := by decide +kernel
theorem dX7_run_102 : decode cX7_run 102 = .ok (.iadd, 1) := by decide +kernel
theorem dX7_run_103 : decode cX7_run 103 = .ok (.bipush 20, 2) := by decide +kernel
theorem dX7_run_105 : decode cX7_run 105 = .ok (.if_icmp .le 9, 3) := by decide +kernel
theorem dX7_run_108 : decode cX7_run 108 = .ok (.aload_n 0, 1) := by decide +kernel
theorem dX7_run_109 : decode cX7_run 109 = .ok (.iconst 4, 1) := by decide +kernel
theorem dX7_run_110 : decode cX7_run 110 = .ok (.invokevirtual 99, 3) := by decide +kernel
theorem dX7_run_113 : decode cX7_run 113 = .ok (.ireturn, 1) := by decide +kernel
theorem dX7_run_114 : decode cX7_run 114 = .ok (.iconst 0, 1) := by decide +kernel
theorem dX7_run_115 : decode cX7_run 115 = .ok (.istore_n 2, 1) := by decide +kernel
theorem dX7_run_116 : decode cX7_run 116 = .ok (.iload_n 2, 1) := by decide +kernel
theorem dX7_run_117 : decode cX7_run 117 = .ok (.aload_n 0, 1) := by decide +kernel
theorem dX7_run_118 : decode cX7_run 118 = .ok (.getfield 213, 3) := by decide +kernel
theorem dX7_run_121 : decode cX7_run 121 = .ok (.if_icmp .ge 52, 3) := by decide +kernel
theorem dX7_run_124 : decode cX7_run 124 = .ok (.aload_n 0, 1) := by decide +kernel
theorem dX7_run_125 : decode cX7_run 125 = .ok (.getfield 21, 3) := by decide +kernel
theorem dX7_run_128 : decode cX7_run 128 = .ok (.iload_n 1, 1) := by decide +kernel
theorem dX7_run_129 : decode cX7_run 129 = .ok (.iaload, 1) := by decide +kernel
theorem dX7_run_130 : decode cX7_run 130 = .ok (.ifCond .ne 43, 3) := by decide +kernel
theorem dX7_run_133 : decode cX7_run 133 = .ok (.aload_n 0, 1) := by decide +kernel
theorem dX7_run_134 : decode cX7_run 134 = .ok (.iload_n 1, 1) := by decide +kernel
theorem dX7_run_135 : decode cX7_run 135 = .ok (.aload_n 0, 1) := by decide +kernel
theorem dX7_run_136 : decode cX7_run 136 = .ok (.getfield 62, 3) := by decide +kernel
theorem dX7_run_139 : decode cX7_run 139 = .ok (.iconst 3, 1) := by decide +kernel
theorem dX7_run_140 : decode cX7_run 140 = .ok (.iload_n 2, 1) := by decide +kernel
theorem dX7_run_141 : decode cX7_run 141 = .ok (.imul, 1) := by decide +kernel
theorem dX7_run_142 : decode cX7_run 142 = .ok (.iaload, 1) := by decide +kernel
theorem dX7_run_143 : decode cX7_run 143 = .ok (.aload_n 0, 1) := by decide +kernel
theorem dX7_run_144 : decode cX7_run 144 = .ok (.getfield 62, 3) := by decide +kernel
theorem dX7_run_147 : decode cX7_run 147 = .ok (.iconst 3, 1) := by decide +kernel
theorem dX7_run_148 : decode cX7_run 148 = .ok (.iload_n 2, 1) := by decide +kernel
theorem dX7_run_149 : decode cX7_run 149 = .ok (.imul, 1) := by decide +kernel
theorem dX7_run_150 : decode cX7_run 150 = .ok (.iconst 1, 1) := by decide +kernel
theorem dX7_run_151 : decode cX7_run 151 = .ok (.iadd, 1) := by decide +kernel
theorem dX7_run_152 : decode cX7_run 152 = .ok (.iaload, 1) := by decide +kernel
theorem dX7_run_153 : decode cX7_run 153 = .ok (.aload_n 0, 1) := by decide +kernel
theorem dX7_run_154 : decode cX7_run 154 = .ok (.getfield 62, 3) := by decide +kernel
theorem dX7_run_157 : decode cX7_run 157 = .ok (.iconst 3, 1) := by decide +kernel
theorem dX7_run_158 : decode cX7_run 158 = .ok (.iload_n 2, 1) := by decide +kernel
theorem dX7_run_159 : decode cX7_run 159 = .ok (.imul, 1) := by decide +kernel
theorem dX7_run_160 : decode cX7_run 160 = .ok (.iconst 2, 1) := by decide +kernel
theorem dX7_run_161 : decode cX7_run 161 = .ok (.iadd, 1) := by decide +kernel
theorem dX7_run_162 : decode cX7_run 162 = .ok (.iaload, 1) := by decide +kernel
theorem dX7_run_163 : decode cX7_run 163 = .ok (.invokevirtual 183, 3) := by decide +kernel
theorem dX7_run_166 : decode cX7_run 166 = .ok (.pop, 1) := by decide +kernel
theorem dX7_run_167 : decode cX7_run 167 = .ok (.iinc 2 1, 3) := by decide +kernel
theorem dX7_run_170 : decode cX7_run 170 = .ok (.goto (-54), 3) := by decide +kernel
theorem dX7_run_173 : decode cX7_run 173 = .ok (.aload_n 0, 1) := by decide +kernel
theorem dX7_run_174 : decode cX7_run 174 = .ok (.getfield 21, 3) := by decide +kernel
theorem dX7_run_177 : decode cX7_run 177 = .ok (.iload_n 1, 1) := by decide +kernel
theorem dX7_run_178 : decode cX7_run 178 = .ok (.iaload, 1) := by decide +kernel
theorem dX7_run_179 : decode cX7_run 179 = .ok (.ifCond .ne 20, 3) := by decide +kernel
theorem dX7_run_182 : decode cX7_run 182 = .ok (.aload_n 0, 1) := by decide +kernel
theorem dX7_run_183 : decode cX7_run 183 = .ok (.getfield 219, 3) := by decide +kernel
theorem dX7_run_186 : decode cX7_run 186 = .ok (.iconst 1, 1) := by decide +kernel
theorem dX7_run_187 : decode cX7_run 187 = .ok (.if_icmp .ne 12, 3) := by decide +kernel
theorem dX7_run_190 : decode cX7_run 190 = .ok (.aload_n 0, 1) := by decide +kernel
theorem dX7_run_191 : decode cX7_run 191 = .ok (.iload_n 1, 1) := by decide +kernel
theorem dX7_run_192 : decode cX7_run 192 = .ok (.invokevirtual 137, 3) := by decide +kernel
theorem dX7_run_195 : decode cX7_run 195 = .ok (.pop, 1) := by decide +kernel
theorem dX7_run_196 : decode cX7_run 196 = .ok (.goto 29, 3) := by decide +kernel
theorem dX7_run_199 : decode cX7_run 199 = .ok (.aload_n 0, 1) := by decide +kernel
theorem dX7_run_200 : decode cX7_run 200 = .ok (.getfield 21, 3) := by decide +kernel
theorem dX7_run_203 : decode cX7_run 203 = .ok (.iload_n 1, 1) := by decide +kernel
theorem dX7_run_204 : decode cX7_run 204 = .ok (.iaload, 1) := by decide +kernel
theorem dX7_run_205 : decode cX7_run 205 = .ok (.ifCond .ne 20, 3) := by decide +kernel
theorem dX7_run_208 : decode cX7_run 208 = .ok (.aload_n 0, 1) := by decide +kernel
theorem dX7_run_209 : decode cX7_run 209 = .ok (.getfield 219, 3) := by decide +kernel
theorem dX7_run_212 : decode cX7_run 212 = .ok (.iconst 2, 1) := by decide +kernel
theorem dX7_run_213 : decode cX7_run 213 = .ok (.if_icmp .ne 12, 3) := by decide +kernel
theorem dX7_run_216 : decode cX7_run 216 = .ok (.aload_n 0, 1) := by decide +kernel
theorem dX7_run_217 : decode cX7_run 217 = .ok (.iload_n 1, 1) := by decide +kernel
theorem dX7_run_218 : decode cX7_run 218 = .ok (.bipush 6, 2) := by decide +kernel
theorem dX7_run_220 : decode cX7_run 220 = .ok (.iconst (-1), 1) := by decide +kernel
theorem dX7_run_221 : decode cX7_run 221 = .ok (.invokevirtual 121, 3) := by decide +kernel
theorem dX7_run_224 : decode cX7_run 224 = .ok (.pop, 1) := by decide +kernel
theorem dX7_run_225 : decode cX7_run 225 = .ok (.iload_n 2, 1) := by decide +kernel
theorem dX7_run_226 : decode cX7_run 226 = .ok (.ireturn, 1) := by decide +kernel
theorem dX7_errorPosition_0 : decode cX7_errorPosition 0 = .ok (.aload_n 0, 1) := by decide +kernel
theorem dX7_errorPosition_1 : decode cX7_errorPosition 1 = .ok (.iconst 0, 1) := by decide +kernel
theorem dX7_errorPosition_2 : decode cX7_errorPosition 2 = .ok (.putfield 3, 3) := by decide +kernel
theorem dX7_errorPosition_5 : decode cX7_errorPosition 5 = .ok (.aload_n 0, 1) := by decide +kernel
theorem dX7_errorPosition_6 : decode cX7_errorPosition 6 = .ok (.getfield 59, 3) := by decide +kernel
theorem dX7_errorPosition_9 : decode cX7_errorPosition 9 = .ok (.iconst (-1), 1) := by decide +kernel
theorem dX7_errorPosition_10 : decode cX7_errorPosition 10 = .ok (.if_icmp .ne 11, 3) := by decide +kernel
theorem dX7_errorPosition_13 : decode cX7_errorPosition 13 = .ok (.aload_n 0, 1) := by decide +kernel
theorem dX7_errorPosition_14 : decode cX7_errorPosition 14 = .ok (.iconst 1, 1) := by decide +kernel
theorem dX7_errorPosition_15 : decode cX7_errorPosition 15 = .ok (.invokevirtual 99, 3) := by decide +kernel
theorem dX7_errorPosition_18 : decode cX7_errorPosition 18 = .ok (.goto 7, 3) := by decide +kernel
theorem dX7_errorPosition_21 : decode cX7_errorPosition 21 = .ok (.aload_n 0, 1) := by decide +kernel
theorem dX7_errorPosition_22 : decode cX7_errorPosition 22 = .ok (.getfield 59, 3) := by decide +kernel
theorem dX7_errorPosition_25 : decode cX7_errorPosition 25 = .ok (.ireturn, 1) := by decide +kernel
theorem dX7_transactionCount_0 : decode cX7_transactionCount 0 = .ok (.aload_n 0, 1) := by decide +kernel
theorem dX7_transactionCount_1 : decode cX7_transactionCount 1 = .ok (.iconst 0, 1) := by decide +kernel
theorem dX7_transactionCount_2 : decode cX7_transactionCount 2 = .ok (.putfield 3, 3) := by decide +kernel
theorem dX7_transactionCount_5 : decode cX7_transactionCount 5 = .ok (.aload_n 0, 1) := by decide +kernel
theorem dX7_transactionCount_6 : decode cX7_transactionCount 6 = .ok (.getfield 103, 3) := by decide +kernel
theorem dX7_transactionCount_9 : decode cX7_transactionCount 9 = .ok (.ireturn, 1) := by decide +kernel
theorem dX7_transaction_0 : decode cX7_transaction 0 = .ok (.aload_n 0, 1) := by decide +kernel
theorem dX7_transaction_1 : decode cX7_transaction 1 = .ok (.iconst 0, 1) := by decide +kernel
theorem dX7_transaction_2 : decode cX7_transaction 2 = .ok (.putfield 3, 3) := by decide +kernel
theorem dX7_transaction_5 : decode cX7_transaction 5 = .ok (.aload_n 0, 1) := by decide +kernel
theorem dX7_transaction_6 : decode cX7_transaction 6 = .ok (.iload_n 1, 1) := by decide +kernel
theorem dX7_transaction_7 : decode cX7_transaction 7 = .ok (.invokevirtual 128, 3) := by decide +kernel
theorem dX7_transaction_10 : decode cX7_transaction 10 = .ok (.ifCond .ne 9, 3) := by decide +kernel
theorem dX7_transaction_13 : decode cX7_transaction 13 = .ok (.aload_n 0, 1) := by decide +kernel
theorem dX7_transaction_14 : decode cX7_transaction 14 = .ok (.iconst 1, 1) := by decide +kernel
theorem dX7_transaction_15 : decode cX7_transaction 15 = .ok (.invokevirtual 99, 3) := by decide +kernel
theorem dX7_transaction_18 : decode cX7_transaction 18 = .ok (.ireturn, 1) := by decide +kernel
theorem dX7_transaction_19 : decode cX7_transaction 19 = .ok (.iload_n 2, 1) := by decide +kernel
theorem dX7_transaction_20 : decode cX7_transaction 20 = .ok (.tableswitch 71 0 4 #[36, 43, 50, 57, 64], 36) := by decide +kernel
theorem dX7_transaction_56 : decode cX7_transaction 56 = .ok (.aload_n 0, 1) := by decide +kernel
theorem dX7_transaction_57 : decode cX7_transaction 57 = .ok (.getfield 21, 3) := by decide +kernel
theorem dX7_transaction_60 : decode cX7_transaction 60 = .ok (.iload_n 1, 1) := by decide +kernel
theorem dX7_transaction_61 : decode cX7_transaction 61 = .ok (.iaload, 1) := by decide +kernel
theorem dX7_transaction_62 : decode cX7_transaction 62 = .ok (.ireturn, 1) := by decide +kernel
theorem dX7_transaction_63 : decode cX7_transaction 63 = .ok (.aload_n 0, 1) := by decide +kernel
theorem dX7_transaction_64 : decode cX7_transaction 64 = .ok (.getfield 25, 3) := by decide +kernel
theorem dX7_transaction_67 : decode cX7_transaction 67 = .ok (.iload_n 1, 1) := by decide +kernel
theorem dX7_transaction_68 : decode cX7_transaction 68 = .ok (.iaload, 1) := by decide +kernel
theorem dX7_transaction_69 : decode cX7_transaction 69 = .ok (.ireturn, 1) := by decide +kernel
theorem dX7_transaction_70 : decode cX7_transaction 70 = .ok (.aload_n 0, 1) := by decide +kernel
theorem dX7_transaction_71 : decode cX7_transaction 71 = .ok (.getfield 28, 3) := by decide +kernel
theorem dX7_transaction_74 : decode cX7_transaction 74 = .ok (.iload_n 1, 1) := by decide +kernel
theorem dX7_transaction_75 : decode cX7_transaction 75 = .ok (.iaload, 1) := by decide +kernel
theorem dX7_transaction_76 : decode cX7_transaction 76 = .ok (.ireturn, 1) := by decide +kernel
theorem dX7_transaction_77 : decode cX7_transaction 77 = .ok (.aload_n 0, 1) := by decide +kernel
theorem dX7_transaction_78 : decode cX7_transaction 78 = .ok (.getfield 31, 3) := by decide +kernel
theorem dX7_transaction_81 : decode cX7_transaction 81 = .ok (.iload_n 1, 1) := by decide +kernel
theorem dX7_transaction_82 : decode cX7_transaction 82 = .ok (.iaload, 1) := by decide +kernel
theorem dX7_transaction_83 : decode cX7_transaction 83 = .ok (.ireturn, 1) := by decide +kernel
theorem dX7_transaction_84 : decode cX7_transaction 84 = .ok (.aload_n 0, 1) := by decide +kernel
theorem dX7_transaction_85 : decode cX7_transaction 85 = .ok (.getfield 34, 3) := by decide +kernel
theorem dX7_transaction_88 : decode cX7_transaction 88 = .ok (.iload_n 1, 1) := by decide +kernel
theorem dX7_transaction_89 : decode cX7_transaction 89 = .ok (.iaload, 1) := by decide +kernel
theorem dX7_transaction_90 : decode cX7_transaction 90 = .ok (.ireturn, 1) := by decide +kernel
theorem dX7_transaction_91 : decode cX7_transaction 91 = .ok (.aload_n 0, 1) := by decide +kernel
theorem dX7_transaction_92 : decode cX7_transaction 92 = .ok (.iconst 2, 1) := by decide +kernel
theorem dX7_transaction_93 : decode cX7_transaction 93 = .ok (.invokevirtual 99, 3) := by decide +kernel
theorem dX7_transaction_96 : decode cX7_transaction 96 = .ok (.ireturn, 1) := by decide +kernel
theorem dX7_dependencies_0 : decode cX7_dependencies 0 = .ok (.aload_n 0, 1) := by decide +kernel
theorem dX7_dependencies_1 : decode cX7_dependencies 1 = .ok (.iconst 0, 1) := by decide +kernel
theorem dX7_dependencies_2 : decode cX7_dependencies 2 = .ok (.putfield 3, 3) := by decide +kernel
theorem dX7_dependencies_5 : decode cX7_dependencies 5 = .ok (.aload_n 0, 1) := by decide +kernel
theorem dX7_dependencies_6 : decode cX7_dependencies 6 = .ok (.iload_n 1, 1) := by decide +kernel
theorem dX7_dependencies_7 : decode cX7_dependencies 7 = .ok (.invokevirtual 128, 3) := by decide +kernel
theorem dX7_dependencies_10 : decode cX7_dependencies 10 = .ok (.ifCond .eq 11, 3) := by decide +kernel
theorem dX7_dependencies_13 : decode cX7_dependencies 13 = .ok (.aload_n 0, 1) := by decide +kernel
theorem dX7_dependencies_14 : decode cX7_dependencies 14 = .ok (.iload_n 1, 1) := by decide +kernel
theorem dX7_dependencies_15 : decode cX7_dependencies 15 = .ok (.invokevirtual 125, 3) := by decide +kernel
theorem dX7_dependencies_18 : decode cX7_dependencies 18 = .ok (.goto 8, 3) := by decide +kernel
theorem dX7_dependencies_21 : decode cX7_dependencies 21 = .ok (.aload_n 0, 1) := by decide +kernel
theorem dX7_dependencies_22 : decode cX7_dependencies 22 = .ok (.iconst 1, 1) := by decide +kernel
theorem dX7_dependencies_23 : decode cX7_dependencies 23 = .ok (.invokevirtual 99, 3) := by decide +kernel
theorem dX7_dependencies_26 : decode cX7_dependencies 26 = .ok (.ireturn, 1) := by decide +kernel
theorem dX7_cascade_0 : decode cX7_cascade 0 = .ok (.aload_n 0, 1) := by decide +kernel
theorem dX7_cascade_1 : decode cX7_cascade 1 = .ok (.iconst 0, 1) := by decide +kernel
theorem dX7_cascade_2 : decode cX7_cascade 2 = .ok (.putfield 3, 3) := by decide +kernel
theorem dX7_cascade_5 : decode cX7_cascade 5 = .ok (.aload_n 0, 1) := by decide +kernel
theorem dX7_cascade_6 : decode cX7_cascade 6 = .ok (.iload_n 1, 1) := by decide +kernel
theorem dX7_cascade_7 : decode cX7_cascade 7 = .ok (.invokevirtual 128, 3) := by decide +kernel
theorem dX7_cascade_10 : decode cX7_cascade 10 = .ok (.ifCond .ne 9, 3) := by decide +kernel
theorem dX7_cascade_13 : decode cX7_cascade 13 = .ok (.aload_n 0, 1) := by decide +kernel
theorem dX7_cascade_14 : decode cX7_cascade 14 = .ok (.iconst 1, 1) := by decide +kernel
theorem dX7_cascade_15 : decode cX7_cascade 15 = .ok (.invokevirtual 99, 3) := by decide +kernel
theorem dX7_cascade_18 : decode cX7_cascade 18 = .ok (.ireturn, 1) := by decide +kernel
theorem dX7_cascade_19 : decode cX7_cascade 19 = .ok (.aload_n 0, 1) := by decide +kernel
theorem dX7_cascade_20 : decode cX7_cascade 20 = .ok (.iload_n 1, 1) := by decide +kernel
theorem dX7_cascade_21 : decode cX7_cascade 21 = .ok (.invokevirtual 117, 3) := by decide +kernel
theorem dX7_cascade_24 : decode cX7_cascade 24 = .ok (.ifCond .eq 9, 3) := by decide +kernel
theorem dX7_cascade_27 : decode cX7_cascade 27 = .ok (.iconst 1, 1) := by decide +kernel
theorem dX7_cascade_28 : decode cX7_cascade 28 = .ok (.iload_n 1, 1) := by decide +kernel
theorem dX7_cascade_29 : decode cX7_cascade 29 = .ok (.ishl, 1) := by decide +kernel
theorem dX7_cascade_30 : decode cX7_cascade 30 = .ok (.goto 4, 3) := by decide +kernel
theorem dX7_cascade_33 : decode cX7_cascade 33 = .ok (.iconst 0, 1) := by decide +kernel
theorem dX7_cascade_34 : decode cX7_cascade 34 = .ok (.istore_n 2, 1) := by decide +kernel
theorem dX7_cascade_35 : decode cX7_cascade 35 = .ok (.iconst 0, 1) := by decide +kernel
theorem dX7_cascade_36 : decode cX7_cascade 36 = .ok (.istore_n 3, 1) := by decide +kernel
theorem dX7_cascade_37 : decode cX7_cascade 37 = .ok (.iload_n 2, 1) := by decide +kernel
theorem dX7_cascade_38 : decode cX7_cascade 38 = .ok (.iload_n 3, 1) := by decide +kernel
theorem dX7_cascade_39 : decode cX7_cascade 39 = .ok (.if_icmp .eq 58, 3) := by decide +kernel
theorem dX7_cascade_42 : decode cX7_cascade 42 = .ok (.iload_n 2, 1) := by decide +kernel
theorem dX7_cascade_43 : decode cX7_cascade 43 = .ok (.istore_n 3, 1) := by decide +kernel
theorem dX7_cascade_44 : decode cX7_cascade 44 = .ok (.iconst 0, 1) := by decide +kernel
theorem dX7_cascade_45 : decode cX7_cascade 45 = .ok (.istore 4, 2) := by decide +kernel
theorem dX7_cascade_47 : decode cX7_cascade 47 = .ok (.iload 4, 2) := by decide +kernel
theorem dX7_cascade_49 : decode cX7_cascade 49 = .ok (.aload_n 0, 1) := by decide +kernel
theorem dX7_cascade_50 : decode cX7_cascade 50 = .ok (.getfield 103, 3) := by decide +kernel
theorem dX7_cascade_53 : decode cX7_cascade 53 = .ok (.if_icmp .ge 41, 3) := by decide +kernel
theorem dX7_cascade_56 : decode cX7_cascade 56 = .ok (.iload_n 2, 1) := by decide +kernel
theorem dX7_cascade_57 : decode cX7_cascade 57 = .ok (.aload_n 0, 1) := by decide +kernel
theorem dX7_cascade_58 : decode cX7_cascade 58 = .ok (.iload 4, 2) := by decide +kernel
theorem dX7_cascade_60 : decode cX7_cascade 60 = .ok (.invokevirtual 117, 3) := by decide +kernel
theorem dX7_cascade_63 : decode cX7_cascade 63 = .ok (.ifCond .eq 22, 3) := by decide +kernel
theorem dX7_cascade_66 : decode cX7_cascade 66 = .ok (.aload_n 0, 1) := by decide +kernel
theorem dX7_cascade_67 : decode cX7_cascade 67 = .ok (.getfield 40, 3) := by decide +kernel
theorem dX7_cascade_70 : decode cX7_cascade 70 = .ok (.iload 4, 2) := by decide +kernel
theorem dX7_cascade_72 : decode cX7_cascade 72 = .ok (.iaload, 1) := by decide +kernel
theorem dX7_cascade_73 : decode cX7_cascade 73 = .ok (.iload_n 2, 1) := by decide +kernel
theorem dX7_cascade_74 : decode cX7_cascade 74 = .ok (.iand, 1) := by decide +kernel
theorem dX7_cascade_75 : decode cX7_cascade 75 = .ok (.ifCond .eq 10, 3) := by decide +kernel
theorem dX7_cascade_78 : decode cX7_cascade 78 = .ok (.iconst 1, 1) := by decide +kernel
theorem dX7_cascade_79 : decode cX7_cascade 79 = .ok (.iload 4, 2) := by decide +kernel
theorem dX7_cascade_81 : decode cX7_cascade 81 = .ok (.ishl, 1) := by decide +kernel
theorem dX7_cascade_82 : decode cX7_cascade 82 = .ok (.goto 4, 3) := by decide +kernel
theorem dX7_cascade_85 : decode cX7_cascade 85 = .ok (.iconst 0, 1) := by decide +kernel
theorem dX7_cascade_86 : decode cX7_cascade 86 = .ok (.ior, 1) := by decide +kernel
theorem dX7_cascade_87 : decode cX7_cascade 87 = .ok (.istore_n 2, 1) := by decide +kernel
theorem dX7_cascade_88 : decode cX7_cascade 88 = .ok (.iinc 4 1, 3) := by decide +kernel
theorem dX7_cascade_91 : decode cX7_cascade 91 = .ok (.goto (-44), 3) := by decide +kernel
theorem dX7_cascade_94 : decode cX7_cascade 94 = .ok (.goto (-57), 3) := by decide +kernel
theorem dX7_cascade_97 : decode cX7_cascade 97 = .ok (.iload_n 2, 1) := by decide +kernel
theorem dX7_cascade_98 : decode cX7_cascade 98 = .ok (.ireturn, 1) := by decide +kernel
theorem dX7_operation_0 : decode cX7_operation 0 = .ok (.aload_n 0, 1) := by decide +kernel
theorem dX7_operation_1 : decode cX7_operation 1 = .ok (.iconst 0, 1) := by decide +kernel
theorem dX7_operation_2 : decode cX7_operation 2 = .ok (.putfield 3, 3) := by decide +kernel
theorem dX7_operation_5 : decode cX7_operation 5 = .ok (.aload_n 0, 1) := by decide +kernel
theorem dX7_operation_6 : decode cX7_operation 6 = .ok (.iload_n 1, 1) := by decide +kernel
theorem dX7_operation_7 : decode cX7_operation 7 = .ok (.invokevirtual 128, 3) := by decide +kernel
theorem dX7_operation_10 : decode cX7_operation 10 = .ok (.ifCond .eq 19, 3) := by decide +kernel
theorem dX7_operation_13 : decode cX7_operation 13 = .ok (.iload_n 2, 1) := by decide +kernel
theorem dX7_operation_14 : decode cX7_operation 14 = .ok (.iconst 0, 1) := by decide +kernel
theorem dX7_operation_15 : decode cX7_operation 15 = .ok (.aload_n 0, 1) := by decide +kernel
theorem dX7_operation_16 : decode cX7_operation 16 = .ok (.getfield 34, 3) := by decide +kernel
theorem dX7_operation_19 : decode cX7_operation 19 = .ok (.iload_n 1, 1) := by decide +kernel
theorem dX7_operation_20 : decode cX7_operation 20 = .ok (.iaload, 1) := by decide +kernel
theorem dX7_operation_21 : decode cX7_operation 21 = .ok (.iconst 1, 1) := by decide +kernel
theorem dX7_operation_22 : decode cX7_operation 22 = .ok (.isub, 1) := by decide +kernel
theorem dX7_operation_23 : decode cX7_operation 23 = .ok (.invokestatic 95, 3) := by decide +kernel
theorem dX7_operation_26 : decode cX7_operation 26 = .ok (.ifCond .ne 9, 3) := by decide +kernel
theorem dX7_operation_29 : decode cX7_operation 29 = .ok (.aload_n 0, 1) := by decide +kernel
theorem dX7_operation_30 : decode cX7_operation 30 = .ok (.iconst 1, 1) := by decide +kernel
theorem dX7_operation_31 : decode cX7_operation 31 = .ok (.invokevirtual 99, 3) := by decide +kernel
theorem dX7_operation_34 : decode cX7_operation 34 = .ok (.ireturn, 1) := by decide +kernel
theorem dX7_operation_35 : decode cX7_operation 35 = .ok (.iload_n 3, 1) := by decide +kernel
theorem dX7_operation_36 : decode cX7_operation 36 = .ok (.iconst 0, 1) := by decide +kernel
theorem dX7_operation_37 : decode cX7_operation 37 = .ok (.iconst 3, 1) := by decide +kernel
theorem dX7_operation_38 : decode cX7_operation 38 = .ok (.invokestatic 95, 3) := by decide +kernel
theorem dX7_operation_41 : decode cX7_operation 41 = .ok (.ifCond .eq 19, 3) := by decide +kernel
theorem dX7_operation_44 : decode cX7_operation 44 = .ok (.aload_n 0, 1) := by decide +kernel
theorem dX7_operation_45 : decode cX7_operation 45 = .ok (.getfield 37, 3) := by decide +kernel
theorem dX7_operation_48 : decode cX7_operation 48 = .ok (.aload_n 0, 1) := by decide +kernel
theorem dX7_operation_49 : decode cX7_operation 49 = .ok (.iload_n 1, 1) := by decide +kernel
theorem dX7_operation_50 : decode cX7_operation 50 = .ok (.iload_n 2, 1) := by decide +kernel
theorem dX7_operation_51 : decode cX7_operation 51 = .ok (.invokevirtual 159, 3) := by decide +kernel
theorem dX7_operation_54 : decode cX7_operation 54 = .ok (.iload_n 3, 1) := by decide +kernel
theorem dX7_operation_55 : decode cX7_operation 55 = .ok (.iadd, 1) := by decide +kernel
theorem dX7_operation_56 : decode cX7_operation 56 = .ok (.iaload, 1) := by decide +kernel
theorem dX7_operation_57 : decode cX7_operation 57 = .ok (.goto 8, 3) := by decide +kernel
theorem dX7_operation_60 : decode cX7_operation 60 = .ok (.aload_n 0, 1) := by decide +kernel
theorem dX7_operation_61 : decode cX7_operation 61 = .ok (.iconst 2, 1) := by decide +kernel
theorem dX7_operation_62 : decode cX7_operation 62 = .ok (.invokevirtual 99, 3) := by decide +kernel
theorem dX7_operation_65 : decode cX7_operation 65 = .ok (.ireturn, 1) := by decide +kernel
theorem dX7_versionCount_0 : decode cX7_versionCount 0 = .ok (.aload_n 0, 1) := by decide +kernel
theorem dX7_versionCount_1 : decode cX7_versionCount 1 = .ok (.iconst 0, 1) := by decide +kernel
theorem dX7_versionCount_2 : decode cX7_versionCount 2 = .ok (.putfield 3, 3) := by decide +kernel
theorem dX7_versionCount_5 : decode cX7_versionCount 5 = .ok (.iload_n 1, 1) := by decide +kernel
theorem dX7_versionCount_6 : decode cX7_versionCount 6 = .ok (.invokestatic 177, 3) := by decide +kernel
theorem dX7_versionCount_9 : decode cX7_versionCount 9 = .ok (.ifCond .eq 12, 3) := by decide +kernel
theorem dX7_versionCount_12 : decode cX7_versionCount 12 = .ok (.aload_n 0, 1) := by decide +kernel
theorem dX7_versionCount_13 : decode cX7_versionCount 13 = .ok (.getfield 43, 3) := by decide +kernel
theorem dX7_versionCount_16 : decode cX7_versionCount 16 = .ok (.iload_n 1, 1) := by decide +kernel
theorem dX7_versionCount_17 : decode cX7_versionCount 17 = .ok (.iaload, 1) := by decide +kernel
theorem dX7_versionCount_18 : decode cX7_versionCount 18 = .ok (.goto 8, 3) := by decide +kernel
theorem dX7_versionCount_21 : decode cX7_versionCount 21 = .ok (.aload_n 0, 1) := by decide +kernel
theorem dX7_versionCount_22 : decode cX7_versionCount 22 = .ok (.iconst 1, 1) := by decide +kernel
theorem dX7_versionCount_23 : decode cX7_versionCount 23 = .ok (.invokevirtual 99, 3) := by decide +kernel
theorem dX7_versionCount_26 : decode cX7_versionCount 26 = .ok (.ireturn, 1) := by decide +kernel
theorem dX7_isCommitted_0 : decode cX7_isCommitted 0 = .ok (.aload_n 0, 1) := by decide +kernel
theorem dX7_isCommitted_1 : decode cX7_isCommitted 1 = .ok (.aload_n 0, 1) := by decide +kernel
theorem dX7_isCommitted_2 : decode cX7_isCommitted 2 = .ok (.getfield 46, 3) := by decide +kernel
theorem dX7_isCommitted_5 : decode cX7_isCommitted 5 = .ok (.iload_n 1, 1) := by decide +kernel
theorem dX7_isCommitted_6 : decode cX7_isCommitted 6 = .ok (.iload_n 2, 1) := by decide +kernel
theorem dX7_isCommitted_7 : decode cX7_isCommitted 7 = .ok (.invokestatic 91, 3) := by decide +kernel
theorem dX7_isCommitted_10 : decode cX7_isCommitted 10 = .ok (.iconst 3, 1) := by decide +kernel
theorem dX7_isCommitted_11 : decode cX7_isCommitted 11 = .ok (.iadd, 1) := by decide +kernel
theorem dX7_isCommitted_12 : decode cX7_isCommitted 12 = .ok (.iaload, 1) := by decide +kernel
theorem dX7_isCommitted_13 : decode cX7_isCommitted 13 = .ok (.invokevirtual 117, 3) := by decide +kernel
theorem dX7_isCommitted_16 : decode cX7_isCommitted 16 = .ok (.ifCond .ne 7, 3) := by decide +kernel
theorem dX7_isCommitted_19 : decode cX7_isCommitted 19 = .ok (.iconst 1, 1) := by decide +kernel
theorem dX7_isCommitted_20 : decode cX7_isCommitted 20 = .ok (.goto 4, 3) := by decide +kernel
theorem dX7_isCommitted_23 : decode cX7_isCommitted 23 = .ok (.iconst 0, 1) := by decide +kernel
theorem dX7_isCommitted_24 : decode cX7_isCommitted 24 = .ok (.ireturn, 1) := by decide +kernel
theorem dX7_version_0 : decode cX7_version 0 = .ok (.aload_n 0, 1) := by decide +kernel
theorem dX7_version_1 : decode cX7_version 1 = .ok (.iconst 0, 1) := by decide +kernel
theorem dX7_version_2 : decode cX7_version 2 = .ok (.putfield 3, 3) := by decide +kernel
theorem dX7_version_5 : decode cX7_version 5 = .ok (.iload_n 1, 1) := by decide +kernel
theorem dX7_version_6 : decode cX7_version 6 = .ok (.invokestatic 177, 3) := by decide +kernel
theorem dX7_version_9 : decode cX7_version 9 = .ok (.ifCond .eq 19, 3) := by decide +kernel
theorem dX7_version_12 : decode cX7_version 12 = .ok (.iload_n 2, 1) := by decide +kernel
theorem dX7_version_13 : decode cX7_version 13 = .ok (.iconst 0, 1) := by decide +kernel
theorem dX7_version_14 : decode cX7_version 14 = .ok (.aload_n 0, 1) := by decide +kernel
theorem dX7_version_15 : decode cX7_version 15 = .ok (.getfield 43, 3) := by decide +kernel
theorem dX7_version_18 : decode cX7_version 18 = .ok (.iload_n 1, 1) := by decide +kernel
theorem dX7_version_19 : decode cX7_version 19 = .ok (.iaload, 1) := by decide +kernel
theorem dX7_version_20 : decode cX7_version 20 = .ok (.iconst 1, 1) := by decide +kernel
theorem dX7_version_21 : decode cX7_version 21 = .ok (.isub, 1) := by decide +kernel
theorem dX7_version_22 : decode cX7_version 22 = .ok (.invokestatic 95, 3) := by decide +kernel
theorem dX7_version_25 : decode cX7_version 25 = .ok (.ifCond .ne 9, 3) := by decide +kernel
theorem dX7_version_28 : decode cX7_version 28 = .ok (.aload_n 0, 1) := by decide +kernel
theorem dX7_version_29 : decode cX7_version 29 = .ok (.iconst 1, 1) := by decide +kernel
theorem dX7_version_30 : decode cX7_version 30 = .ok (.invokevirtual 99, 3) := by decide +kernel
theorem dX7_version_33 : decode cX7_version 33 = .ok (.ireturn, 1) := by decide +kernel
theorem dX7_version_34 : decode cX7_version 34 = .ok (.iload_n 3, 1) := by decide +kernel
theorem dX7_version_35 : decode cX7_version 35 = .ok (.iconst 0, 1) := by decide +kernel
theorem dX7_version_36 : decode cX7_version 36 = .ok (.iconst 4, 1) := by decide +kernel
theorem dX7_version_37 : decode cX7_version 37 = .ok (.invokestatic 95, 3) := by decide +kernel
theorem dX7_version_40 : decode cX7_version 40 = .ok (.ifCond .ne 9, 3) := by decide +kernel
theorem dX7_version_43 : decode cX7_version 43 = .ok (.aload_n 0, 1) := by decide +kernel
theorem dX7_version_44 : decode cX7_version 44 = .ok (.iconst 2, 1) := by decide +kernel
theorem dX7_version_45 : decode cX7_version 45 = .ok (.invokevirtual 99, 3) := by decide +kernel
theorem dX7_version_48 : decode cX7_version 48 = .ok (.ireturn, 1) := by decide +kernel
theorem dX7_version_49 : decode cX7_version 49 = .ok (.iload_n 3, 1) := by decide +kernel
theorem dX7_version_50 : decode cX7_version 50 = .ok (.iconst 4, 1) := by decide +kernel
theorem dX7_version_51 : decode cX7_version 51 = .ok (.if_icmp .ge 18, 3) := by decide +kernel
theorem dX7_version_54 : decode cX7_version 54 = .ok (.aload_n 0, 1) := by decide +kernel
theorem dX7_version_55 : decode cX7_version 55 = .ok (.getfield 46, 3) := by decide +kernel
theorem dX7_version_58 : decode cX7_version 58 = .ok (.iload_n 1, 1) := by decide +kernel
theorem dX7_version_59 : decode cX7_version 59 = .ok (.iload_n 2, 1) := by decide +kernel
theorem dX7_version_60 : decode cX7_version 60 = .ok (.invokestatic 91, 3) := by decide +kernel
theorem dX7_version_63 : decode cX7_version 63 = .ok (.iload_n 3, 1) := by decide +kernel
theorem dX7_version_64 : decode cX7_version 64 = .ok (.iadd, 1) := by decide +kernel
theorem dX7_version_65 : decode cX7_version 65 = .ok (.iaload, 1) := by decide +kernel
theorem dX7_version_66 : decode cX7_version 66 = .ok (.goto 17, 3) := by decide +kernel
theorem dX7_version_69 : decode cX7_version 69 = .ok (.aload_n 0, 1) := by decide +kernel
theorem dX7_version_70 : decode cX7_version 70 = .ok (.iload_n 1, 1) := by decide +kernel
theorem dX7_version_71 : decode cX7_version 71 = .ok (.iload_n 2, 1) := by decide +kernel
theorem dX7_version_72 : decode cX7_version 72 = .ok (.invokevirtual 232, 3) := by decide +kernel
theorem dX7_version_75 : decode cX7_version 75 = .ok (.ifCond .eq 7, 3) := by decide +kernel
theorem dX7_version_78 : decode cX7_version 78 = .ok (.iconst 1, 1) := by decide +kernel
theorem dX7_version_79 : decode cX7_version 79 = .ok (.goto 4, 3) := by decide +kernel
theorem dX7_version_82 : decode cX7_version 82 = .ok (.iconst 0, 1) := by decide +kernel
theorem dX7_version_83 : decode cX7_version 83 = .ok (.ireturn, 1) := by decide +kernel
theorem dX7_lastCommitted_0 : decode cX7_lastCommitted 0 = .ok (.iconst (-1), 1) := by decide +kernel
theorem dX7_lastCommitted_1 : decode cX7_lastCommitted 1 = .ok (.istore_n 3, 1) := by decide +kernel
theorem dX7_lastCommitted_2 : decode cX7_lastCommitted 2 = .ok (.iconst 0, 1) := by decide +kernel
theorem dX7_lastCommitted_3 : decode cX7_lastCommitted 3 = .ok (.istore 4, 2) := by decide +kernel
theorem dX7_lastCommitted_5 : decode cX7_lastCommitted 5 = .ok (.iload 4, 2) := by decide +kernel
theorem dX7_lastCommitted_7 : decode cX7_lastCommitted 7 = .ok (.aload_n 0, 1) := by decide +kernel
theorem dX7_lastCommitted_8 : decode cX7_lastCommitted 8 = .ok (.getfield 43, 3) := by decide +kernel
theorem dX7_lastCommitted_11 : decode cX7_lastCommitted 11 = .ok (.iload_n 1, 1) := by decide +kernel
theorem dX7_lastCommitted_12 : decode cX7_lastCommitted 12 = .ok (.iaload, 1) := by decide +kernel
theorem dX7_lastCommitted_13 : decode cX7_lastCommitted 13 = .ok (.if_icmp .ge 37, 3) := by decide +kernel
theorem dX7_lastCommitted_16 : decode cX7_lastCommitted 16 = .ok (.aload_n 0, 1) := by decide +kernel
theorem dX7_lastCommitted_17 : decode cX7_lastCommitted 17 = .ok (.iload_n 1, 1) := by decide +kernel
theorem dX7_lastCommitted_18 : decode cX7_lastCommitted 18 = .ok (.iload 4, 2) := by decide +kernel
theorem dX7_lastCommitted_20 : decode cX7_lastCommitted 20 = .ok (.invokevirtual 232, 3) := by decide +kernel
theorem dX7_lastCommitted_23 : decode cX7_lastCommitted 23 = .ok (.ifCond .eq 19, 3) := by decide +kernel
theorem dX7_lastCommitted_26 : decode cX7_lastCommitted 26 = .ok (.aload_n 0, 1) := by decide +kernel
theorem dX7_lastCommitted_27 : decode cX7_lastCommitted 27 = .ok (.iload_n 1, 1) := by decide +kernel
theorem dX7_lastCommitted_28 : decode cX7_lastCommitted 28 = .ok (.iload 4, 2) := by decide +kernel
theorem dX7_lastCommitted_30 : decode cX7_lastCommitted 30 = .ok (.invokevirtual 140, 3) := by decide +kernel
theorem dX7_lastCommitted_33 : decode cX7_lastCommitted 33 = .ok (.iload_n 2, 1) := by decide +kernel
theorem dX7_lastCommitted_34 : decode cX7_lastCommitted 34 = .ok (.if_icmp .gt 8, 3) := by decide +kernel
theorem dX7_lastCommitted_37 : decode cX7_lastCommitted 37 = .ok (.iload 4, 2) := by decide +kernel
theorem dX7_lastCommitted_39 : decode cX7_lastCommitted 39 = .ok (.goto 4, 3) := by decide +kernel
theorem dX7_lastCommitted_42 : decode cX7_lastCommitted 42 = .ok (.iload_n 3, 1) := by decide +kernel
theorem dX7_lastCommitted_43 : decode cX7_lastCommitted 43 = .ok (.istore_n 3, 1) := by decide +kernel
theorem dX7_lastCommitted_44 : decode cX7_lastCommitted 44 = .ok (.iinc 4 1, 3) := by decide +kernel
theorem dX7_lastCommitted_47 : decode cX7_lastCommitted 47 = .ok (.goto (-42), 3) := by decide +kernel
theorem dX7_lastCommitted_50 : decode cX7_lastCommitted 50 = .ok (.iload_n 3, 1) := by decide +kernel
theorem dX7_lastCommitted_51 : decode cX7_lastCommitted 51 = .ok (.ireturn, 1) := by decide +kernel
theorem dX7_valueAt_0 : decode cX7_valueAt 0 = .ok (.aload_n 0, 1) := by decide +kernel
theorem dX7_valueAt_1 : decode cX7_valueAt 1 = .ok (.iconst 0, 1) := by decide +kernel
theorem dX7_valueAt_2 : decode cX7_valueAt 2 = .ok (.putfield 3, 3) := by decide +kernel
