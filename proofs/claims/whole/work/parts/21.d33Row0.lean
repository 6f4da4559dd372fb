theorem dX4_isUsed_0 : decode cX4_isUsed 0 = .ok (.aload_n 0, 1) := by decide +kernel
theorem dX4_isUsed_1 : decode cX4_isUsed 1 = .ok (.getfield 9, 3) := by decide +kernel
theorem dX4_isUsed_4 : decode cX4_isUsed 4 = .ok (.iconst (-1), 1) := by decide +kernel
theorem dX4_isUsed_5 : decode cX4_isUsed 5 = .ok (.if_icmp .eq 7, 3) := by decide +kernel
theorem dX4_isUsed_8 : decode cX4_isUsed 8 = .ok (.iconst 1, 1) := by decide +kernel
theorem dX4_isUsed_9 : decode cX4_isUsed 9 = .ok (.goto 4, 3) := by decide +kernel
theorem dX4_isUsed_12 : decode cX4_isUsed 12 = .ok (.iconst 0, 1) := by decide +kernel
theorem dX4_isUsed_13 : decode cX4_isUsed 13 = .ok (.ireturn, 1) := by decide +kernel
theorem dX4_makeNew_0 : decode cX4_makeNew 0 = .ok (.aload_n 0, 1) := by decide +kernel
theorem dX4_makeNew_1 : decode cX4_makeNew 1 = .ok (.iload_n 1, 1) := by decide +kernel
theorem dX4_makeNew_2 : decode cX4_makeNew 2 = .ok (.putfield 9, 3) := by decide +kernel
theorem dX4_makeNew_5 : decode cX4_makeNew 5 = .ok (.aload_n 0, 1) := by decide +kernel
theorem dX4_makeNew_6 : decode cX4_makeNew 6 = .ok (.iload_n 2, 1) := by decide +kernel
theorem dX4_makeNew_7 : decode cX4_makeNew 7 = .ok (.putfield 23, 3) := by decide +kernel
theorem dX4_makeNew_10 : decode cX4_makeNew 10 = .ok (.iconst 0, 1) := by decide +kernel
theorem dX4_makeNew_11 : decode cX4_makeNew 11 = .ok (.istore_n 3, 1) := by decide +kernel
theorem dX4_makeNew_12 : decode cX4_makeNew 12 = .ok (.iload_n 3, 1) := by decide +kernel
theorem dX4_makeNew_13 : decode cX4_makeNew 13 = .ok (.bipush 30, 2) := by decide +kernel
theorem dX4_makeNew_15 : decode cX4_makeNew 15 = .ok (.if_icmp .ge 23, 3) := by decide +kernel
theorem dX4_makeNew_18 : decode cX4_makeNew 18 = .ok (.aload_n 0, 1) := by decide +kernel
theorem dX4_makeNew_19 : decode cX4_makeNew 19 = .ok (.getfield 15, 3) := by decide +kernel
theorem dX4_makeNew_22 : decode cX4_makeNew 22 = .ok (.iload_n 3, 1) := by decide +kernel
theorem dX4_makeNew_23 : decode cX4_makeNew 23 = .ok (.fconst 0, 1) := by decide +kernel
theorem dX4_makeNew_24 : decode cX4_makeNew 24 = .ok (.fastore, 1) := by decide +kernel
theorem dX4_makeNew_25 : decode cX4_makeNew 25 = .ok (.aload_n 0, 1) := by decide +kernel
theorem dX4_makeNew_26 : decode cX4_makeNew 26 = .ok (.getfield 19, 3) := by decide +kernel
theorem dX4_makeNew_29 : decode cX4_makeNew 29 = .ok (.iload_n 3, 1) := by decide +kernel
theorem dX4_makeNew_30 : decode cX4_makeNew 30 = .ok (.iconst 0, 1) := by decide +kernel
theorem dX4_makeNew_31 : decode cX4_makeNew 31 = .ok (.iastore, 1) := by decide +kernel
theorem dX4_makeNew_32 : decode cX4_makeNew 32 = .ok (.iinc 3 1, 3) := by decide +kernel
theorem dX4_makeNew_35 : decode cX4_makeNew 35 = .ok (.goto (-23), 3) := by decide +kernel
theorem dX4_makeNew_38 : decode cX4_makeNew 38 = .ok (.return_, 1) := by decide +kernel
theorem dX4_takeValues_0 : decode cX4_takeValues 0 = .ok (.iconst 0, 1) := by decide +kernel
theorem dX4_takeValues_1 : decode cX4_takeValues 1 = .ok (.istore_n 2, 1) := by decide +kernel
theorem dX4_takeValues_2 : decode cX4_takeValues 2 = .ok (.iload_n 2, 1) := by decide +kernel
theorem dX4_takeValues_3 : decode cX4_takeValues 3 = .ok (.aload_n 0, 1) := by decide +kernel
theorem dX4_takeValues_4 : decode cX4_takeValues 4 = .ok (.getfield 23, 3) := by decide +kernel
theorem dX4_takeValues_7 : decode cX4_takeValues 7 = .ok (.if_icmp .ge 42, 3) := by decide +kernel
theorem dX4_takeValues_10 : decode cX4_takeValues 10 = .ok (.iload_n 2, 1) := by decide +kernel
theorem dX4_takeValues_11 : decode cX4_takeValues 11 = .ok (.aload_n 1, 1) := by decide +kernel
theorem dX4_takeValues_12 : decode cX4_takeValues 12 = .ok (.getfield 26, 3) := by decide +kernel
theorem dX4_takeValues_15 : decode cX4_takeValues 15 = .ok (.if_icmp .ge 34, 3) := by decide +kernel
theorem dX4_takeValues_18 : decode cX4_takeValues 18 = .ok (.aload_n 0, 1) := by decide +kernel
theorem dX4_takeValues_19 : decode cX4_takeValues 19 = .ok (.getfield 15, 3) := by decide +kernel
theorem dX4_takeValues_22 : decode cX4_takeValues 22 = .ok (.iload_n 2, 1) := by decide +kernel
theorem dX4_takeValues_23 : decode cX4_takeValues 23 = .ok (.aload_n 1, 1) := by decide +kernel
theorem dX4_takeValues_24 : decode cX4_takeValues 24 = .ok (.getfield 31, 3) := by decide +kernel
theorem dX4_takeValues_27 : decode cX4_takeValues 27 = .ok (.iload_n 2, 1) := by decide +kernel
theorem dX4_takeValues_28 : decode cX4_takeValues 28 = .ok (.iaload, 1) := by decide +kernel
theorem dX4_takeValues_29 : decode cX4_takeValues 29 = .ok (.i2f, 1) := by decide +kernel
theorem dX4_takeValues_30 : decode cX4_takeValues 30 = .ok (.fastore, 1) := by decide +kernel
theorem dX4_takeValues_31 : decode cX4_takeValues 31 = .ok (.aload_n 0, 1) := by decide +kernel
theorem dX4_takeValues_32 : decode cX4_takeValues 32 = .ok (.getfield 19, 3) := by decide +kernel
theorem dX4_takeValues_35 : decode cX4_takeValues 35 = .ok (.iload_n 2, 1) := by decide +kernel
theorem dX4_takeValues_36 : decode cX4_takeValues 36 = .ok (.aload_n 1, 1) := by decide +kernel
theorem dX4_takeValues_37 : decode cX4_takeValues 37 = .ok (.getfield 31, 3) := by decide +kernel
theorem dX4_takeValues_40 : decode cX4_takeValues 40 = .ok (.iload_n 2, 1) := by decide +kernel
theorem dX4_takeValues_41 : decode cX4_takeValues 41 = .ok (.iaload, 1) := by decide +kernel
theorem dX4_takeValues_42 : decode cX4_takeValues 42 = .ok (.iastore, 1) := by decide +kernel
theorem dX4_takeValues_43 : decode cX4_takeValues 43 = .ok (.iinc 2 1, 3) := by decide +kernel
theorem dX4_takeValues_46 : decode cX4_takeValues 46 = .ok (.goto (-44), 3) := by decide +kernel
theorem dX4_takeValues_49 : decode cX4_takeValues 49 = .ok (.return_, 1) := by decide +kernel
theorem dX4_quotient_0 : decode cX4_quotient 0 = .ok (.aload_n 0, 1) := by decide +kernel
theorem dX4_quotient_1 : decode cX4_quotient 1 = .ok (.getfield 9, 3) := by decide +kernel
theorem dX4_quotient_4 : decode cX4_quotient 4 = .ok (.ifCond .ne 25, 3) := by decide +kernel
theorem dX4_quotient_7 : decode cX4_quotient 7 = .ok (.aload_n 0, 1) := by decide +kernel
theorem dX4_quotient_8 : decode cX4_quotient 8 = .ok (.getfield 15, 3) := by decide +kernel
theorem dX4_quotient_11 : decode cX4_quotient 11 = .ok (.iload_n 1, 1) := by decide +kernel
theorem dX4_quotient_12 : decode cX4_quotient 12 = .ok (.aload_n 0, 1) := by decide +kernel
theorem dX4_quotient_13 : decode cX4_quotient 13 = .ok (.getfield 15, 3) := by decide +kernel
theorem dX4_quotient_16 : decode cX4_quotient 16 = .ok (.iload_n 1, 1) := by decide +kernel
theorem dX4_quotient_17 : decode cX4_quotient 17 = .ok (.faload, 1) := by decide +kernel
theorem dX4_quotient_18 : decode cX4_quotient 18 = .ok (.iload_n 2, 1) := by decide +kernel
theorem dX4_quotient_19 : decode cX4_quotient 19 = .ok (.i2f, 1) := by decide +kernel
theorem dX4_quotient_20 : decode cX4_quotient 20 = .ok (.fdiv, 1) := by decide +kernel
theorem dX4_quotient_21 : decode cX4_quotient 21 = .ok (.fastore, 1) := by decide +kernel
theorem dX4_quotient_22 : decode cX4_quotient 22 = .ok (.aload_n 0, 1) := by decide +kernel
theorem dX4_quotient_23 : decode cX4_quotient 23 = .ok (.getfield 15, 3) := by decide +kernel
theorem dX4_quotient_26 : decode cX4_quotient 26 = .ok (.iload_n 1, 1) := by decide +kernel
theorem dX4_quotient_27 : decode cX4_quotient 27 = .ok (.faload, 1) := by decide +kernel
theorem dX4_quotient_28 : decode cX4_quotient 28 = .ok (.freturn, 1) := by decide +kernel
theorem dX4_quotient_29 : decode cX4_quotient 29 = .ok (.aload_n 0, 1) := by decide +kernel
theorem dX4_quotient_30 : decode cX4_quotient 30 = .ok (.getfield 19, 3) := by decide +kernel
theorem dX4_quotient_33 : decode cX4_quotient 33 = .ok (.iload_n 1, 1) := by decide +kernel
theorem dX4_quotient_34 : decode cX4_quotient 34 = .ok (.aload_n 0, 1) := by decide +kernel
theorem dX4_quotient_35 : decode cX4_quotient 35 = .ok (.getfield 19, 3) := by decide +kernel
theorem dX4_quotient_38 : decode cX4_quotient 38 = .ok (.iload_n 1, 1) := by decide +kernel
theorem dX4_quotient_39 : decode cX4_quotient 39 = .ok (.iaload, 1) := by decide +kernel
theorem dX4_quotient_40 : decode cX4_quotient 40 = .ok (.iload_n 2, 1) := by decide +kernel
theorem dX4_quotient_41 : decode cX4_quotient 41 = .ok (.idiv, 1) := by decide +kernel
theorem dX4_quotient_42 : decode cX4_quotient 42 = .ok (.iastore, 1) := by decide +kernel
theorem dX4_quotient_43 : decode cX4_quotient 43 = .ok (.aload_n 0, 1) := by decide +kernel
theorem dX4_quotient_44 : decode cX4_quotient 44 = .ok (.getfield 19, 3) := by decide +kernel
theorem dX4_quotient_47 : decode cX4_quotient 47 = .ok (.iload_n 1, 1) := by decide +kernel
theorem dX4_quotient_48 : decode cX4_quotient 48 = .ok (.iaload, 1) := by decide +kernel
theorem dX4_quotient_49 : decode cX4_quotient 49 = .ok (.i2f, 1) := by decide +kernel
theorem dX4_quotient_50 : decode cX4_quotient 50 = .ok (.freturn, 1) := by decide +kernel
theorem dX4_takeElements_0 : decode cX4_takeElements 0 = .ok (.aload_n 1, 1) := by decide +kernel
theorem dX4_takeElements_1 : decode cX4_takeElements 1 = .ok (.getfield 15, 3) := by decide +kernel
theorem dX4_takeElements_4 : decode cX4_takeElements 4 = .ok (.iconst 0, 1) := by decide +kernel
theorem dX4_takeElements_5 : decode cX4_takeElements 5 = .ok (.aload_n 0, 1) := by decide +kernel
theorem dX4_takeElements_6 : decode cX4_takeElements 6 = .ok (.getfield 15, 3) := by decide +kernel
theorem dX4_takeElements_9 : decode cX4_takeElements 9 = .ok (.iconst 0, 1) := by decide +kernel
theorem dX4_takeElements_10 : decode cX4_takeElements 10 = .ok (.aload_n 1, 1) := by decide +kernel
theorem dX4_takeElements_11 : decode cX4_takeElements 11 = .ok (.getfield 23, 3) := by decide +kernel
theorem dX4_takeElements_14 : decode cX4_takeElements 14 = .ok (.invokestatic 38, 3) := by decide +kernel
theorem dX4_takeElements_17 : decode cX4_takeElements 17 = .ok (.aload_n 1, 1) := by decide +kernel
theorem dX4_takeElements_18 : decode cX4_takeElements 18 = .ok (.getfield 19, 3) := by decide +kernel
theorem dX4_takeElements_21 : decode cX4_takeElements 21 = .ok (.iconst 0, 1) := by decide +kernel
theorem dX4_takeElements_22 : decode cX4_takeElements 22 = .ok (.aload_n 0, 1) := by decide +kernel
theorem dX4_takeElements_23 : decode cX4_takeElements 23 = .ok (.getfield 19, 3) := by decide +kernel
theorem dX4_takeElements_26 : decode cX4_takeElements 26 = .ok (.iconst 0, 1) := by decide +kernel
theorem dX4_takeElements_27 : decode cX4_takeElements 27 = .ok (.aload_n 1, 1) := by decide +kernel
theorem dX4_takeElements_28 : decode cX4_takeElements 28 = .ok (.getfield 23, 3) := by decide +kernel
theorem dX4_takeElements_31 : decode cX4_takeElements 31 = .ok (.invokestatic 38, 3) := by decide +kernel
theorem dX4_takeElements_34 : decode cX4_takeElements 34 = .ok (.return_, 1) := by decide +kernel
theorem dX4_becomeCopyOf_0 : decode cX4_becomeCopyOf 0 = .ok (.aload_n 0, 1) := by decide +kernel
theorem dX4_becomeCopyOf_1 : decode cX4_becomeCopyOf 1 = .ok (.aload_n 1, 1) := by decide +kernel
theorem dX4_becomeCopyOf_2 : decode cX4_becomeCopyOf 2 = .ok (.getfield 9, 3) := by decide +kernel
theorem dX4_becomeCopyOf_5 : decode cX4_becomeCopyOf 5 = .ok (.putfield 9, 3) := by decide +kernel
theorem dX4_becomeCopyOf_8 : decode cX4_becomeCopyOf 8 = .ok (.aload_n 0, 1) := by decide +kernel
theorem dX4_becomeCopyOf_9 : decode cX4_becomeCopyOf 9 = .ok (.aload_n 1, 1) := by decide +kernel
theorem dX4_becomeCopyOf_10 : decode cX4_becomeCopyOf 10 = .ok (.getfield 23, 3) := by decide +kernel
theorem dX4_becomeCopyOf_13 : decode cX4_becomeCopyOf 13 = .ok (.putfield 23, 3) := by decide +kernel
theorem dX4_becomeCopyOf_16 : decode cX4_becomeCopyOf 16 = .ok (.aload_n 0, 1) := by decide +kernel
theorem dX4_becomeCopyOf_17 : decode cX4_becomeCopyOf 17 = .ok (.aload_n 1, 1) := by decide +kernel
theorem dX4_becomeCopyOf_18 : decode cX4_becomeCopyOf 18 = .ok (.invokevirtual 34, 3) := by decide +kernel
theorem dX4_becomeCopyOf_21 : decode cX4_becomeCopyOf 21 = .ok (.return_, 1) := by decide +kernel
