theorem dX3_takeSign_0 : decode cX3_takeSign 0 = .ok (.aload_n 0, 1) := by decide +kernel
theorem dX3_takeSign_1 : decode cX3_takeSign 1 = .ok (.getfield 32, 3) := by decide +kernel
theorem dX3_takeSign_4 : decode cX3_takeSign 4 = .ok (.aload_n 0, 1) := by decide +kernel
theorem dX3_takeSign_5 : decode cX3_takeSign 5 = .ok (.getfield 35, 3) := by decide +kernel
theorem dX3_takeSign_8 : decode cX3_takeSign 8 = .ok (.if_icmp .ge 28, 3) := by decide +kernel
theorem dX3_takeSign_11 : decode cX3_takeSign 11 = .ok (.aload_n 0, 1) := by decide +kernel
theorem dX3_takeSign_12 : decode cX3_takeSign 12 = .ok (.getfield 9, 3) := by decide +kernel
theorem dX3_takeSign_15 : decode cX3_takeSign 15 = .ok (.aload_n 0, 1) := by decide +kernel
theorem dX3_takeSign_16 : decode cX3_takeSign 16 = .ok (.getfield 32, 3) := by decide +kernel
theorem dX3_takeSign_19 : decode cX3_takeSign 19 = .ok (.caload, 1) := by decide +kernel
theorem dX3_takeSign_20 : decode cX3_takeSign 20 = .ok (.iload_n 1, 1) := by decide +kernel
theorem dX3_takeSign_21 : decode cX3_takeSign 21 = .ok (.if_icmp .ne 15, 3) := by decide +kernel
theorem dX3_takeSign_24 : decode cX3_takeSign 24 = .ok (.aload_n 0, 1) := by decide +kernel
theorem dX3_takeSign_25 : decode cX3_takeSign 25 = .ok (.dup, 1) := by decide +kernel
theorem dX3_takeSign_26 : decode cX3_takeSign 26 = .ok (.getfield 32, 3) := by decide +kernel
theorem dX3_takeSign_29 : decode cX3_takeSign 29 = .ok (.iconst 1, 1) := by decide +kernel
theorem dX3_takeSign_30 : decode cX3_takeSign 30 = .ok (.iadd, 1) := by decide +kernel
theorem dX3_takeSign_31 : decode cX3_takeSign 31 = .ok (.putfield 32, 3) := by decide +kernel
theorem dX3_takeSign_34 : decode cX3_takeSign 34 = .ok (.iconst 1, 1) := by decide +kernel
theorem dX3_takeSign_35 : decode cX3_takeSign 35 = .ok (.ireturn, 1) := by decide +kernel
theorem dX3_takeSign_36 : decode cX3_takeSign 36 = .ok (.iconst 0, 1) := by decide +kernel
theorem dX3_takeSign_37 : decode cX3_takeSign 37 = .ok (.ireturn, 1) := by decide +kernel
theorem dX3_digitHere_0 : decode cX3_digitHere 0 = .ok (.aload_n 0, 1) := by decide +kernel
theorem dX3_digitHere_1 : decode cX3_digitHere 1 = .ok (.getfield 32, 3) := by decide +kernel
theorem dX3_digitHere_4 : decode cX3_digitHere 4 = .ok (.aload_n 0, 1) := by decide +kernel
theorem dX3_digitHere_5 : decode cX3_digitHere 5 = .ok (.getfield 35, 3) := by decide +kernel
theorem dX3_digitHere_8 : decode cX3_digitHere 8 = .ok (.if_icmp .ge 44, 3) := by decide +kernel
theorem dX3_digitHere_11 : decode cX3_digitHere 11 = .ok (.aload_n 0, 1) := by decide +kernel
theorem dX3_digitHere_12 : decode cX3_digitHere 12 = .ok (.getfield 9, 3) := by decide +kernel
theorem dX3_digitHere_15 : decode cX3_digitHere 15 = .ok (.aload_n 0, 1) := by decide +kernel
theorem dX3_digitHere_16 : decode cX3_digitHere 16 = .ok (.getfield 32, 3) := by decide +kernel
theorem dX3_digitHere_19 : decode cX3_digitHere 19 = .ok (.caload, 1) := by decide +kernel
theorem dX3_digitHere_20 : decode cX3_digitHere 20 = .ok (.bipush 48, 2) := by decide +kernel
theorem dX3_digitHere_22 : decode cX3_digitHere 22 = .ok (.if_icmp .lt 30, 3) := by decide +kernel
theorem dX3_digitHere_25 : decode cX3_digitHere 25 = .ok (.aload_n 0, 1) := by decide +kernel
theorem dX3_digitHere_26 : decode cX3_digitHere 26 = .ok (.getfield 9, 3) := by decide +kernel
theorem dX3_digitHere_29 : decode cX3_digitHere 29 = .ok (.aload_n 0, 1) := by decide +kernel
theorem dX3_digitHere_30 : decode cX3_digitHere 30 = .ok (.getfield 32, 3) := by decide +kernel
theorem dX3_digitHere_33 : decode cX3_digitHere 33 = .ok (.caload, 1) := by decide +kernel
theorem dX3_digitHere_34 : decode cX3_digitHere 34 = .ok (.bipush 57, 2) := by decide +kernel
theorem dX3_digitHere_36 : decode cX3_digitHere 36 = .ok (.if_icmp .gt 16, 3) := by decide +kernel
theorem dX3_digitHere_39 : decode cX3_digitHere 39 = .ok (.aload_n 0, 1) := by decide +kernel
theorem dX3_digitHere_40 : decode cX3_digitHere 40 = .ok (.getfield 9, 3) := by decide +kernel
theorem dX3_digitHere_43 : decode cX3_digitHere 43 = .ok (.aload_n 0, 1) := by decide +kernel
theorem dX3_digitHere_44 : decode cX3_digitHere 44 = .ok (.getfield 32, 3) := by decide +kernel
theorem dX3_digitHere_47 : decode cX3_digitHere 47 = .ok (.caload, 1) := by decide +kernel
theorem dX3_digitHere_48 : decode cX3_digitHere 48 = .ok (.bipush 48, 2) := by decide +kernel
theorem dX3_digitHere_50 : decode cX3_digitHere 50 = .ok (.isub, 1) := by decide +kernel
theorem dX3_digitHere_51 : decode cX3_digitHere 51 = .ok (.ireturn, 1) := by decide +kernel
theorem dX3_digitHere_52 : decode cX3_digitHere 52 = .ok (.iconst (-1), 1) := by decide +kernel
theorem dX3_digitHere_53 : decode cX3_digitHere 53 = .ok (.ireturn, 1) := by decide +kernel
theorem dX3_takeItem_0 : decode cX3_takeItem 0 = .ok (.aload_n 0, 1) := by decide +kernel
theorem dX3_takeItem_1 : decode cX3_takeItem 1 = .ok (.invokevirtual 63, 3) := by decide +kernel
theorem dX3_takeItem_4 : decode cX3_takeItem 4 = .ok (.istore_n 1, 1) := by decide +kernel
theorem dX3_takeItem_5 : decode cX3_takeItem 5 = .ok (.iload_n 1, 1) := by decide +kernel
theorem dX3_takeItem_6 : decode cX3_takeItem 6 = .ok (.ifCond .lt 9, 3) := by decide +kernel
theorem dX3_takeItem_9 : decode cX3_takeItem 9 = .ok (.iload_n 1, 1) := by decide +kernel
theorem dX3_takeItem_10 : decode cX3_takeItem 10 = .ok (.bipush 8, 2) := by decide +kernel
theorem dX3_takeItem_12 : decode cX3_takeItem 12 = .ok (.if_icmp .lt 5, 3) := by decide +kernel
theorem dX3_takeItem_15 : decode cX3_takeItem 15 = .ok (.iconst (-1), 1) := by decide +kernel
theorem dX3_takeItem_16 : decode cX3_takeItem 16 = .ok (.ireturn, 1) := by decide +kernel
theorem dX3_takeItem_17 : decode cX3_takeItem 17 = .ok (.aload_n 0, 1) := by decide +kernel
theorem dX3_takeItem_18 : decode cX3_takeItem 18 = .ok (.dup, 1) := by decide +kernel
theorem dX3_takeItem_19 : decode cX3_takeItem 19 = .ok (.getfield 32, 3) := by decide +kernel
theorem dX3_takeItem_22 : decode cX3_takeItem 22 = .ok (.iconst 1, 1) := by decide +kernel
theorem dX3_takeItem_23 : decode cX3_takeItem 23 = .ok (.iadd, 1) := by decide +kernel
theorem dX3_takeItem_24 : decode cX3_takeItem 24 = .ok (.putfield 32, 3) := by decide +kernel
theorem dX3_takeItem_27 : decode cX3_takeItem 27 = .ok (.iload_n 1, 1) := by decide +kernel
theorem dX3_takeItem_28 : decode cX3_takeItem 28 = .ok (.ireturn, 1) := by decide +kernel
theorem dX3_keepOperation_0 : decode cX3_keepOperation 0 = .ok (.aload_n 0, 1) := by decide +kernel
theorem dX3_keepOperation_1 : decode cX3_keepOperation 1 = .ok (.getfield 25, 3) := by decide +kernel
theorem dX3_keepOperation_4 : decode cX3_keepOperation 4 = .ok (.bipush 20, 2) := by decide +kernel
theorem dX3_keepOperation_6 : decode cX3_keepOperation 6 = .ok (.if_icmp .lt 5, 3) := by decide +kernel
theorem dX3_keepOperation_9 : decode cX3_keepOperation 9 = .ok (.iconst 0, 1) := by decide +kernel
theorem dX3_keepOperation_10 : decode cX3_keepOperation 10 = .ok (.ireturn, 1) := by decide +kernel
theorem dX3_keepOperation_11 : decode cX3_keepOperation 11 = .ok (.aload_n 0, 1) := by decide +kernel
theorem dX3_keepOperation_12 : decode cX3_keepOperation 12 = .ok (.getfield 15, 3) := by decide +kernel
theorem dX3_keepOperation_15 : decode cX3_keepOperation 15 = .ok (.aload_n 0, 1) := by decide +kernel
theorem dX3_keepOperation_16 : decode cX3_keepOperation 16 = .ok (.getfield 25, 3) := by decide +kernel
theorem dX3_keepOperation_19 : decode cX3_keepOperation 19 = .ok (.iload_n 1, 1) := by decide +kernel
theorem dX3_keepOperation_20 : decode cX3_keepOperation 20 = .ok (.iastore, 1) := by decide +kernel
theorem dX3_keepOperation_21 : decode cX3_keepOperation 21 = .ok (.aload_n 0, 1) := by decide +kernel
theorem dX3_keepOperation_22 : decode cX3_keepOperation 22 = .ok (.getfield 19, 3) := by decide +kernel
theorem dX3_keepOperation_25 : decode cX3_keepOperation 25 = .ok (.aload_n 0, 1) := by decide +kernel
theorem dX3_keepOperation_26 : decode cX3_keepOperation 26 = .ok (.getfield 25, 3) := by decide +kernel
theorem dX3_keepOperation_29 : decode cX3_keepOperation 29 = .ok (.iload_n 2, 1) := by decide +kernel
theorem dX3_keepOperation_30 : decode cX3_keepOperation 30 = .ok (.iastore, 1) := by decide +kernel
theorem dX3_keepOperation_31 : decode cX3_keepOperation 31 = .ok (.aload_n 0, 1) := by decide +kernel
theorem dX3_keepOperation_32 : decode cX3_keepOperation 32 = .ok (.getfield 22, 3) := by decide +kernel
theorem dX3_keepOperation_35 : decode cX3_keepOperation 35 = .ok (.aload_n 0, 1) := by decide +kernel
theorem dX3_keepOperation_36 : decode cX3_keepOperation 36 = .ok (.getfield 25, 3) := by decide +kernel
theorem dX3_keepOperation_39 : decode cX3_keepOperation 39 = .ok (.iload_n 3, 1) := by decide +kernel
theorem dX3_keepOperation_40 : decode cX3_keepOperation 40 = .ok (.iastore, 1) := by decide +kernel
theorem dX3_keepOperation_41 : decode cX3_keepOperation 41 = .ok (.aload_n 0, 1) := by decide +kernel
theorem dX3_keepOperation_42 : decode cX3_keepOperation 42 = .ok (.dup, 1) := by decide +kernel
theorem dX3_keepOperation_43 : decode cX3_keepOperation 43 = .ok (.getfield 25, 3) := by decide +kernel
theorem dX3_keepOperation_46 : decode cX3_keepOperation 46 = .ok (.iconst 1, 1) := by decide +kernel
theorem dX3_keepOperation_47 : decode cX3_keepOperation 47 = .ok (.iadd, 1) := by decide +kernel
theorem dX3_keepOperation_48 : decode cX3_keepOperation 48 = .ok (.putfield 25, 3) := by decide +kernel
theorem dX3_keepOperation_51 : decode cX3_keepOperation 51 = .ok (.iconst 1, 1) := by decide +kernel
theorem dX3_keepOperation_52 : decode cX3_keepOperation 52 = .ok (.ireturn, 1) := by decide +kernel
theorem dX3_takeNumber_0 : decode cX3_takeNumber 0 = .ok (.aload_n 0, 1) := by decide +kernel
theorem dX3_takeNumber_1 : decode cX3_takeNumber 1 = .ok (.invokevirtual 63, 3) := by decide +kernel
theorem dX3_takeNumber_4 : decode cX3_takeNumber 4 = .ok (.istore_n 1, 1) := by decide +kernel
theorem dX3_takeNumber_5 : decode cX3_takeNumber 5 = .ok (.iload_n 1, 1) := by decide +kernel
theorem dX3_takeNumber_6 : decode cX3_takeNumber 6 = .ok (.ifCond .ge 5, 3) := by decide +kernel
theorem dX3_takeNumber_9 : decode cX3_takeNumber 9 = .ok (.iconst (-1), 1) := by decide +kernel
theorem dX3_takeNumber_10 : decode cX3_takeNumber 10 = .ok (.ireturn, 1) := by decide +kernel
theorem dX3_takeNumber_11 : decode cX3_takeNumber 11 = .ok (.aload_n 0, 1) := by decide +kernel
theorem dX3_takeNumber_12 : decode cX3_takeNumber 12 = .ok (.dup, 1) := by decide +kernel
theorem dX3_takeNumber_13 : decode cX3_takeNumber 13 = .ok (.getfield 32, 3) := by decide +kernel
theorem dX3_takeNumber_16 : decode cX3_takeNumber 16 = .ok (.iconst 1, 1) := by decide +kernel
theorem dX3_takeNumber_17 : decode cX3_takeNumber 17 = .ok (.iadd, 1) := by decide +kernel
theorem dX3_takeNumber_18 : decode cX3_takeNumber 18 = .ok (.putfield 32, 3) := by decide +kernel
theorem dX3_takeNumber_21 : decode cX3_takeNumber 21 = .ok (.iconst 1, 1) := by decide +kernel
theorem dX3_takeNumber_22 : decode cX3_takeNumber 22 = .ok (.istore_n 2, 1) := by decide +kernel
theorem dX3_takeNumber_23 : decode cX3_takeNumber 23 = .ok (.iload_n 2, 1) := by decide +kernel
theorem dX3_takeNumber_24 : decode cX3_takeNumber 24 = .ok (.iconst 4, 1) := by decide +kernel
theorem dX3_takeNumber_25 : decode cX3_takeNumber 25 = .ok (.if_icmp .ge 36, 3) := by decide +kernel
theorem dX3_takeNumber_28 : decode cX3_takeNumber 28 = .ok (.aload_n 0, 1) := by decide +kernel
theorem dX3_takeNumber_29 : decode cX3_takeNumber 29 = .ok (.invokevirtual 63, 3) := by decide +kernel
theorem dX3_takeNumber_32 : decode cX3_takeNumber 32 = .ok (.ifCond .lt 29, 3) := by decide +kernel
theorem dX3_takeNumber_35 : decode cX3_takeNumber 35 = .ok (.bipush 10, 2) := by decide +kernel
theorem dX3_takeNumber_37 : decode cX3_takeNumber 37 = .ok (.iload_n 1, 1) := by decide +kernel
theorem dX3_takeNumber_38 : decode cX3_takeNumber 38 = .ok (.imul, 1) := by decide +kernel
theorem dX3_takeNumber_39 : decode cX3_takeNumber 39 = .ok (.aload_n 0, 1) := by decide +kernel
theorem dX3_takeNumber_40 : decode cX3_takeNumber 40 = .ok (.invokevirtual 63, 3) := by decide +kernel
theorem dX3_takeNumber_43 : decode cX3_takeNumber 43 = .ok (.iadd, 1) := by decide +kernel
theorem dX3_takeNumber_44 : decode cX3_takeNumber 44 = .ok (.istore_n 1, 1) := by decide +kernel
theorem dX3_takeNumber_45 : decode cX3_takeNumber 45 = .ok (.aload_n 0, 1) := by decide +kernel
theorem dX3_takeNumber_46 : decode cX3_takeNumber 46 = .ok (.dup, 1) := by decide +kernel
theorem dX3_takeNumber_47 : decode cX3_takeNumber 47 = .ok (.getfield 32, 3) := by decide +kernel
theorem dX3_takeNumber_50 : decode cX3_takeNumber 50 = .ok (.iconst 1, 1) := by decide +kernel
theorem dX3_takeNumber_51 : decode cX3_takeNumber 51 = .ok (.iadd, 1) := by decide +kernel
theorem dX3_takeNumber_52 : decode cX3_takeNumber 52 = .ok (.putfield 32, 3) := by decide +kernel
theorem dX3_takeNumber_55 : decode cX3_takeNumber 55 = .ok (.iinc 2 1, 3) := by decide +kernel
theorem dX3_takeNumber_58 : decode cX3_takeNumber 58 = .ok (.goto (-35), 3) := by decide +kernel
theorem dX3_takeNumber_61 : decode cX3_takeNumber 61 = .ok (.iload_n 1, 1) := by decide +kernel
theorem dX3_takeNumber_62 : decode cX3_takeNumber 62 = .ok (.ireturn, 1) := by decide +kernel
theorem dX3_takeWrite_0 : decode cX3_takeWrite 0 = .ok (.aload_n 0, 1) := by decide +kernel
theorem dX3_takeWrite_1 : decode cX3_takeWrite 1 = .ok (.invokevirtual 46, 3) := by decide +kernel
theorem dX3_takeWrite_4 : decode cX3_takeWrite 4 = .ok (.istore_n 1, 1) := by decide +kernel
theorem dX3_takeWrite_5 : decode cX3_takeWrite 5 = .ok (.iload_n 1, 1) := by decide +kernel
theorem dX3_takeWrite_6 : decode cX3_takeWrite 6 = .ok (.ifCond .lt 12, 3) := by decide +kernel
theorem dX3_takeWrite_9 : decode cX3_takeWrite 9 = .ok (.aload_n 0, 1) := by decide +kernel
theorem dX3_takeWrite_10 : decode cX3_takeWrite 10 = .ok (.bipush 61, 2) := by decide +kernel
theorem dX3_takeWrite_12 : decode cX3_takeWrite 12 = .ok (.invokevirtual 42, 3) := by decide +kernel
theorem dX3_takeWrite_15 : decode cX3_takeWrite 15 = .ok (.ifCond .ne 5, 3) := by decide +kernel
theorem dX3_takeWrite_18 : decode cX3_takeWrite 18 = .ok (.iconst 0, 1) := by decide +kernel
theorem dX3_takeWrite_19 : decode cX3_takeWrite 19 = .ok (.ireturn, 1) := by decide +kernel
theorem dX3_takeWrite_20 : decode cX3_takeWrite 20 = .ok (.aload_n 0, 1) := by decide +kernel
theorem dX3_takeWrite_21 : decode cX3_takeWrite 21 = .ok (.bipush 45, 2) := by decide +kernel
theorem dX3_takeWrite_23 : decode cX3_takeWrite 23 = .ok (.invokevirtual 42, 3) := by decide +kernel
theorem dX3_takeWrite_26 : decode cX3_takeWrite 26 = .ok (.istore_n 2, 1) := by decide +kernel
theorem dX3_takeWrite_27 : decode cX3_takeWrite 27 = .ok (.aload_n 0, 1) := by decide +kernel
theorem dX3_takeWrite_28 : decode cX3_takeWrite 28 = .ok (.invokevirtual 60, 3) := by decide +kernel
theorem dX3_takeWrite_31 : decode cX3_takeWrite 31 = .ok (.istore_n 3, 1) := by decide +kernel
theorem dX3_takeWrite_32 : decode cX3_takeWrite 32 = .ok (.iload_n 3, 1) := by decide +kernel
theorem dX3_takeWrite_33 : decode cX3_takeWrite 33 = .ok (.ifCond .lt 26, 3) := by decide +kernel
theorem dX3_takeWrite_36 : decode cX3_takeWrite 36 = .ok (.aload_n 0, 1) := by decide +kernel
theorem dX3_takeWrite_37 : decode cX3_takeWrite 37 = .ok (.iconst 1, 1) := by decide +kernel
theorem dX3_takeWrite_38 : decode cX3_takeWrite 38 = .ok (.iload_n 1, 1) := by decide +kernel
theorem dX3_takeWrite_39 : decode cX3_takeWrite 39 = .ok (.iload_n 2, 1) := by decide +kernel
theorem dX3_takeWrite_40 : decode cX3_takeWrite 40 = .ok (.ifCond .eq 8, 3) := by decide +kernel
theorem dX3_takeWrite_43 : decode cX3_takeWrite 43 = .ok (.iload_n 3, 1) := by decide +kernel
theorem dX3_takeWrite_44 : decode cX3_takeWrite 44 = .ok (.ineg, 1) := by decide +kernel
theorem dX3_takeWrite_45 : decode cX3_takeWrite 45 = .ok (.goto 4, 3) := by decide +kernel
theorem dX3_takeWrite_48 : decode cX3_takeWrite 48 = .ok (.iload_n 3, 1) := by decide +kernel
theorem dX3_takeWrite_49 : decode cX3_takeWrite 49 = .ok (.invokevirtual 50, 3) := by decide +kernel
theorem dX3_takeWrite_52 : decode cX3_takeWrite 52 = .ok (.ifCond .eq 7, 3) := by decide +kernel
theorem dX3_takeWrite_55 : decode cX3_takeWrite 55 = .ok (.iconst 1, 1) := by decide +kernel
theorem dX3_takeWrite_56 : decode cX3_takeWrite 56 = .ok (.goto 4, 3) := by decide +kernel
theorem dX3_takeWrite_59 : decode cX3_takeWrite 59 = .ok (.iconst 0, 1) := by decide +kernel
theorem dX3_takeWrite_60 : decode cX3_takeWrite 60 = .ok (.ireturn, 1) := by decide +kernel
theorem dX3_takeAddition_0 : decode cX3_takeAddition 0 = .ok (.aload_n 0, 1) := by decide +kernel
theorem dX3_takeAddition_1 : decode cX3_takeAddition 1 = .ok (.invokevirtual 46, 3) := by decide +kernel
theorem dX3_takeAddition_4 : decode cX3_takeAddition 4 = .ok (.istore_n 1, 1) := by decide +kernel
theorem dX3_takeAddition_5 : decode cX3_takeAddition 5 = .ok (.iload_n 1, 1) := by decide +kernel
theorem dX3_takeAddition_6 : decode cX3_takeAddition 6 = .ok (.ifCond .ge 5, 3) := by decide +kernel
theorem dX3_takeAddition_9 : decode cX3_takeAddition 9 = .ok (.iconst 0, 1) := by decide +kernel
theorem dX3_takeAddition_10 : decode cX3_takeAddition 10 = .ok (.ireturn, 1) := by decide +kernel
theorem dX3_takeAddition_11 : decode cX3_takeAddition 11 = .ok (.aload_n 0, 1) := by decide +kernel
theorem dX3_takeAddition_12 : decode cX3_takeAddition 12 = .ok (.bipush 45, 2) := by decide +kernel
theorem dX3_takeAddition_14 : decode cX3_takeAddition 14 = .ok (.invokevirtual 42, 3) := by decide +kernel
theorem dX3_takeAddition_17 : decode cX3_takeAddition 17 = .ok (.istore_n 2, 1) := by decide +kernel
theorem dX3_takeAddition_18 : decode cX3_takeAddition 18 = .ok (.iload_n 2, 1) := by decide +kernel
theorem dX3_takeAddition_19 : decode cX3_takeAddition 19 = .ok (.ifCond .ne 14, 3) := by decide +kernel
theorem dX3_takeAddition_22 : decode cX3_takeAddition 22 = .ok (.aload_n 0, 1) := by decide +kernel
theorem dX3_takeAddition_23 : decode cX3_takeAddition 23 = .ok (.bipush 43, 2) := by decide +kernel
theorem dX3_takeAddition_25 : decode cX3_takeAddition 25 = .ok (.invokevirtual 42, 3) := by decide +kernel
theorem dX3_takeAddition_28 : decode cX3_takeAddition 28 = .ok (.ifCond .ne 5, 3) := by decide +kernel
theorem dX3_takeAddition_31 : decode cX3_takeAddition 31 = .ok (.iconst 0, 1) := by decide +kernel
theorem dX3_takeAddition_32 : decode cX3_takeAddition 32 = .ok (.ireturn, 1) := by decide +kernel
theorem dX3_takeAddition_33 : decode cX3_takeAddition 33 = .ok (.aload_n 0, 1) := by decide +kernel
theorem dX3_takeAddition_34 : decode cX3_takeAddition 34 = .ok (.invokevirtual 60, 3) := by decide +kernel
theorem dX3_takeAddition_37 : decode cX3_takeAddition 37 = .ok (.istore_n 3, 1) := by decide +kernel
theorem dX3_takeAddition_38 : decode cX3_takeAddition 38 = .ok (.iload_n 3, 1) := by decide +kernel
theorem dX3_takeAddition_39 : decode cX3_takeAddition 39 = .ok (.ifCond .lt 26, 3) := by decide +kernel
theorem dX3_takeAddition_42 : decode cX3_takeAddition 42 = .ok (.aload_n 0, 1) := by decide +kernel
theorem dX3_takeAddition_43 : decode cX3_takeAddition 43 = .ok (.iconst 2, 1) := by decide +kernel
theorem dX3_takeAddition_44 : decode cX3_takeAddition 44 = .ok (.iload_n 1, 1) := by decide +kernel
theorem dX3_takeAddition_45 : decode cX3_takeAddition 45 = .ok (.iload_n 2, 1) := by decide +kernel
theorem dX3_takeAddition_46 : decode cX3_takeAddition 46 = .ok (.ifCond .eq 8, 3) := by decide +kernel
theorem dX3_takeAddition_49 : decode cX3_takeAddition 49 = .ok (.iload_n 3, 1) := by decide +kernel
theorem dX3_takeAddition_50 : decode cX3_takeAddition 50 = .ok (.ineg, 1) := by decide +kernel
theorem dX3_takeAddition_51 : decode cX3_takeAddition 51 = .ok (.goto 4, 3) := by decide +kernel
theorem dX3_takeAddition_54 : decode cX3_takeAddition 54 = .ok (.iload_n 3, 1) := by decide +kernel
theorem dX3_takeAddition_55 : decode cX3_takeAddition 55 = .ok (.invokevirtual 50, 3) := by decide +kernel
theorem dX3_takeAddition_58 : decode cX3_takeAddition 58 = .ok (.ifCond .eq 7, 3) := by decide +kernel
theorem dX3_takeAddition_61 : decode cX3_takeAddition 61 = .ok (.iconst 1, 1) := by decide +kernel
theorem dX3_takeAddition_62 : decode cX3_takeAddition 62 = .ok (.goto 4, 3) := by decide +kernel
theorem dX3_takeAddition_65 : decode cX3_takeAddition 65 = .ok (.iconst 0, 1) := by decide +kernel
theorem dX3_takeAddition_66 : decode cX3_takeAddition 66 = .ok (.ireturn, 1) := by decide +kernel
theorem dX3_takePart_0 : decode cX3_takePart 0 = .ok (.aload_n 0, 1) := by decide +kernel
theorem dX3_takePart_1 : decode cX3_takePart 1 = .ok (.bipush 99, 2) := by decide +kernel
theorem dX3_takePart_3 : decode cX3_takePart 3 = .ok (.invokevirtual 42, 3) := by decide +kernel
theorem dX3_takePart_6 : decode cX3_takePart 6 = .ok (.ifCond .eq 10, 3) := by decide +kernel
theorem dX3_takePart_9 : decode cX3_takePart 9 = .ok (.aload_n 0, 1) := by decide +kernel
theorem dX3_takePart_10 : decode cX3_takePart 10 = .ok (.iconst 1, 1) := by decide +kernel
theorem dX3_takePart_11 : decode cX3_takePart 11 = .ok (.putfield 29, 3) := by decide +kernel
theorem dX3_takePart_14 : decode cX3_takePart 14 = .ok (.iconst 1, 1) := by decide +kernel
theorem dX3_takePart_15 : decode cX3_takePart 15 = .ok (.ireturn, 1) := by decide +kernel
theorem dX3_takePart_16 : decode cX3_takePart 16 = .ok (.aload_n 0, 1) := by decide +kernel
theorem dX3_takePart_17 : decode cX3_takePart 17 = .ok (.bipush 120, 2) := by decide +kernel
theorem dX3_takePart_19 : decode cX3_takePart 19 = .ok (.invokevirtual 42, 3) := by decide +kernel
theorem dX3_takePart_22 : decode cX3_takePart 22 = .ok (.ifCond .eq 10, 3) := by decide +kernel
theorem dX3_takePart_25 : decode cX3_takePart 25 = .ok (.aload_n 0, 1) := by decide +kernel
theorem dX3_takePart_26 : decode cX3_takePart 26 = .ok (.iconst 2, 1) := by decide +kernel
theorem dX3_takePart_27 : decode cX3_takePart 27 = .ok (.putfield 29, 3) := by decide +kernel
theorem dX3_takePart_30 : decode cX3_takePart 30 = .ok (.iconst 1, 1) := by decide +kernel
theorem dX3_takePart_31 : decode cX3_takePart 31 = .ok (.ireturn, 1) := by decide +kernel
theorem dX3_takePart_32 : decode cX3_takePart 32 = .ok (.aload_n 0, 1) := by decide +kernel
theorem dX3_takePart_33 : decode cX3_takePart 33 = .ok (.bipush 114, 2) := by decide +kernel
theorem dX3_takePart_35 : decode cX3_takePart 35 = .ok (.invokevirtual 42, 3) := by decide +kernel
theorem dX3_takePart_38 : decode cX3_takePart 38 = .ok (.ifCond .eq 28, 3) := by decide +kernel
theorem dX3_takePart_41 : decode cX3_takePart 41 = .ok (.aload_n 0, 1) := by decide +kernel
theorem dX3_takePart_42 : decode cX3_takePart 42 = .ok (.invokevirtual 46, 3) := by decide +kernel
theorem dX3_takePart_45 : decode cX3_takePart 45 = .ok (.istore_n 1, 1) := by decide +kernel
theorem dX3_takePart_46 : decode cX3_takePart 46 = .ok (.iload_n 1, 1) := by decide +kernel
theorem dX3_takePart_47 : decode cX3_takePart 47 = .ok (.ifCond .lt 17, 3) := by decide +kernel
theorem dX3_takePart_50 : decode cX3_takePart 50 = .ok (.aload_n 0, 1) := by decide +kernel
theorem dX3_takePart_51 : decode cX3_takePart 51 = .ok (.iconst 0, 1) := by decide +kernel
theorem dX3_takePart_52 : decode cX3_takePart 52 = .ok (.iload_n 1, 1) := by decide +kernel
theorem dX3_takePart_53 : decode cX3_takePart 53 = .ok (.iconst 0, 1) := by decide +kernel
theorem dX3_takePart_54 : decode cX3_takePart 54 = .ok (.invokevirtual 50, 3) := by decide +kernel
theorem dX3_takePart_57 : decode cX3_takePart 57 = .ok (.ifCond .eq 7, 3) := by decide +kernel
theorem dX3_takePart_60 : decode cX3_takePart 60 = .ok (.iconst 1, 1) := by decide +kernel
theorem dX3_takePart_61 : decode cX3_takePart 61 = .ok (.goto 4, 3) := by decide +kernel
theorem dX3_takePart_64 : decode cX3_takePart 64 = .ok (.iconst 0, 1) := by decide +kernel
theorem dX3_takePart_65 : decode cX3_takePart 65 = .ok (.ireturn, 1) := by decide +kernel
theorem dX3_takePart_66 : decode cX3_takePart 66 = .ok (.aload_n 0, 1) := by decide +kernel
theorem dX3_takePart_67 : decode cX3_takePart 67 = .ok (.bipush 119, 2) := by decide +kernel
theorem dX3_takePart_69 : decode cX3_takePart 69 = .ok (.invokevirtual 42, 3) := by decide +kernel
theorem dX3_takePart_72 : decode cX3_takePart 72 = .ok (.ifCond .eq 8, 3) := by decide +kernel
theorem dX3_takePart_75 : decode cX3_takePart 75 = .ok (.aload_n 0, 1) := by decide +kernel
theorem dX3_takePart_76 : decode cX3_takePart 76 = .ok (.invokevirtual 54, 3) := by decide +kernel
theorem dX3_takePart_79 : decode cX3_takePart 79 = .ok (.ireturn, 1) := by decide +kernel
theorem dX3_takePart_80 : decode cX3_takePart 80 = .ok (.aload_n 0, 1) := by decide +kernel
theorem dX3_takePart_81 : decode cX3_takePart 81 = .ok (.bipush 97, 2) := by decide +kernel
theorem dX3_takePart_83 : decode cX3_takePart 83 = .ok (.invokevirtual 42, 3) := by decide +kernel
theorem dX3_takePart_86 : decode cX3_takePart 86 = .ok (.ifCond .eq 14, 3) := by decide +kernel
theorem dX3_takePart_89 : decode cX3_takePart 89 = .ok (.aload_n 0, 1) := by decide +kernel
theorem dX3_takePart_90 : decode cX3_takePart 90 = .ok (.invokevirtual 57, 3) := by decide +kernel
theorem dX3_takePart_93 : decode cX3_takePart 93 = .ok (.ifCond .eq 7, 3) := by decide +kernel
theorem dX3_takePart_96 : decode cX3_takePart 96 = .ok (.iconst 1, 1) := by decide +kernel
theorem dX3_takePart_97 : decode cX3_takePart 97 = .ok (.goto 4, 3) := by decide +kernel
theorem dX3_takePart_100 : decode cX3_takePart 100 = .ok (.iconst 0, 1) := by decide +kernel
theorem dX3_takePart_101 : decode cX3_takePart 101 = .ok (.ireturn, 1) := by decide +kernel
theorem dX3_parse_0 : decode cX3_parse 0 = .ok (.aload_n 0, 1) := by decide +kernel
theorem dX3_parse_1 : decode cX3_parse 1 = .ok (.iconst 0, 1) := by decide +kernel
theorem dX3_parse_2 : decode cX3_parse 2 = .ok (.putfield 25, 3) := by decide +kernel
theorem dX3_parse_5 : decode cX3_parse 5 = .ok (.aload_n 0, 1) := by decide +kernel
theorem dX3_parse_6 : decode cX3_parse 6 = .ok (.iconst 0, 1) := by decide +kernel
theorem dX3_parse_7 : decode cX3_parse 7 = .ok (.putfield 29, 3) := by decide +kernel
theorem dX3_parse_10 : decode cX3_parse 10 = .ok (.aload_n 0, 1) := by decide +kernel
theorem dX3_parse_11 : decode cX3_parse 11 = .ok (.iconst 0, 1) := by decide +kernel
theorem dX3_parse_12 : decode cX3_parse 12 = .ok (.putfield 32, 3) := by decide +kernel
theorem dX3_parse_15 : decode cX3_parse 15 = .ok (.aload_n 0, 1) := by decide +kernel
theorem dX3_parse_16 : decode cX3_parse 16 = .ok (.getfield 35, 3) := by decide +kernel
theorem dX3_parse_19 : decode cX3_parse 19 = .ok (.ifCond .ne 5, 3) := by decide +kernel
theorem dX3_parse_22 : decode cX3_parse 22 = .ok (.iconst (-1), 1) := by decide +kernel
theorem dX3_parse_23 : decode cX3_parse 23 = .ok (.ireturn, 1) := by decide +kernel
theorem dX3_parse_24 : decode cX3_parse 24 = .ok (.iconst 0, 1) := by decide +kernel
theorem dX3_parse_25 : decode cX3_parse 25 = .ok (.istore_n 1, 1) := by decide +kernel
theorem dX3_parse_26 : decode cX3_parse 26 = .ok (.iload_n 1, 1) := by decide +kernel
theorem dX3_parse_27 : decode cX3_parse 27 = .ok (.bipush 60, 2) := by decide +kernel
theorem dX3_parse_29 : decode cX3_parse 29 = .ok (.if_icmp .ge 55, 3) := by decide +kernel
theorem dX3_parse_32 : decode cX3_parse 32 = .ok (.aload_n 0, 1) := by decide +kernel
theorem dX3_parse_33 : decode cX3_parse 33 = .ok (.invokevirtual 38, 3) := by decide +kernel
theorem dX3_parse_36 : decode cX3_parse 36 = .ok (.ifCond .ne 8, 3) := by decide +kernel
theorem dX3_parse_39 : decode cX3_parse 39 = .ok (.aload_n 0, 1) := by decide +kernel
theorem dX3_parse_40 : decode cX3_parse 40 = .ok (.getfield 32, 3) := by decide +kernel
theorem dX3_parse_43 : decode cX3_parse 43 = .ok (.ireturn, 1) := by decide +kernel
theorem dX3_parse_44 : decode cX3_parse 44 = .ok (.aload_n 0, 1) := by decide +kernel
theorem dX3_parse_45 : decode cX3_parse 45 = .ok (.getfield 32, 3) := by decide +kernel
theorem dX3_parse_48 : decode cX3_parse 48 = .ok (.aload_n 0, 1) := by decide +kernel
theorem dX3_parse_49 : decode cX3_parse 49 = .ok (.getfield 35, 3) := by decide +kernel
theorem dX3_parse_52 : decode cX3_parse 52 = .ok (.if_icmp .ne 5, 3) := by decide +kernel
theorem dX3_parse_55 : decode cX3_parse 55 = .ok (.iconst (-1), 1) := by decide +kernel
theorem dX3_parse_56 : decode cX3_parse 56 = .ok (.ireturn, 1) := by decide +kernel
theorem dX3_parse_57 : decode cX3_parse 57 = .ok (.aload_n 0, 1) := by decide +kernel
theorem dX3_parse_58 : decode cX3_parse 58 = .ok (.getfield 29, 3) := by decide +kernel
theorem dX3_parse_61 : decode cX3_parse 61 = .ok (.ifCond .ne 12, 3) := by decide +kernel
theorem dX3_parse_64 : decode cX3_parse 64 = .ok (.aload_n 0, 1) := by decide +kernel
theorem dX3_parse_65 : decode cX3_parse 65 = .ok (.bipush 32, 2) := by decide +kernel
theorem dX3_parse_67 : decode cX3_parse 67 = .ok (.invokevirtual 42, 3) := by decide +kernel
theorem dX3_parse_70 : decode cX3_parse 70 = .ok (.ifCond .ne 8, 3) := by decide +kernel
theorem dX3_parse_73 : decode cX3_parse 73 = .ok (.aload_n 0, 1) := by decide +kernel
theorem dX3_parse_74 : decode cX3_parse 74 = .ok (.getfield 32, 3) := by decide +kernel
theorem dX3_parse_77 : decode cX3_parse 77 = .ok (.ireturn, 1) := by decide +kernel
theorem dX3_parse_78 : decode cX3_parse 78 = .ok (.iinc 1 1, 3) := by decide +kernel
theorem dX3_parse_81 : decode cX3_parse 81 = .ok (.goto (-55), 3) := by decide +kernel
theorem dX3_parse_84 : decode cX3_parse 84 = .ok (.aload_n 0, 1) := by decide +kernel
theorem dX3_parse_85 : decode cX3_parse 85 = .ok (.getfield 32, 3) := by decide +kernel
theorem dX3_parse_88 : decode cX3_parse 88 = .ok (.ireturn, 1) := by decide +kernel
