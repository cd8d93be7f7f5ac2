theorem dX1_init_0 : decode cX1_init 0 = .ok (.aload_n 0, 1) := by decide +kernel
theorem dX1_init_1 : decode cX1_init 1 = .ok (.invokespecial 3, 3) := by decide +kernel
theorem dX1_init_4 : decode cX1_init 4 = .ok (.aload_n 0, 1) := by decide +kernel
theorem dX1_init_5 : decode cX1_init 5 = .ok (.iconst 2, 1) := by decide +kernel
theorem dX1_init_6 : decode cX1_init 6 = .ok (.putfield 9, 3) := by decide +kernel
theorem dX1_init_9 : decode cX1_init 9 = .ok (.aload_n 0, 1) := by decide +kernel
theorem dX1_init_10 : decode cX1_init 10 = .ok (.bipush 20, 2) := by decide +kernel
theorem dX1_init_12 : decode cX1_init 12 = .ok (.putfield 15, 3) := by decide +kernel
theorem dX1_init_15 : decode cX1_init 15 = .ok (.aload_n 0, 1) := by decide +kernel
theorem dX1_init_16 : decode cX1_init 16 = .ok (.bipush 30, 2) := by decide +kernel
theorem dX1_init_18 : decode cX1_init 18 = .ok (.putfield 18, 3) := by decide +kernel
theorem dX1_init_21 : decode cX1_init 21 = .ok (.aload_n 0, 1) := by decide +kernel
theorem dX1_init_22 : decode cX1_init 22 = .ok (.sipush 400, 3) := by decide +kernel
theorem dX1_init_25 : decode cX1_init 25 = .ok (.putfield 21, 3) := by decide +kernel
theorem dX1_init_28 : decode cX1_init 28 = .ok (.aload_n 0, 1) := by decide +kernel
theorem dX1_init_29 : decode cX1_init 29 = .ok (.bipush 40, 2) := by decide +kernel
theorem dX1_init_31 : decode cX1_init 31 = .ok (.putfield 24, 3) := by decide +kernel
theorem dX1_init_34 : decode cX1_init 34 = .ok (.return_, 1) := by decide +kernel
theorem dX1_change_0 : decode cX1_change 0 = .ok (.aload_n 0, 1) := by decide +kernel
theorem dX1_change_1 : decode cX1_change 1 = .ok (.iload_n 1, 1) := by decide +kernel
theorem dX1_change_2 : decode cX1_change 2 = .ok (.putfield 9, 3) := by decide +kernel
theorem dX1_change_5 : decode cX1_change 5 = .ok (.aload_n 0, 1) := by decide +kernel
theorem dX1_change_6 : decode cX1_change 6 = .ok (.iload_n 2, 1) := by decide +kernel
theorem dX1_change_7 : decode cX1_change 7 = .ok (.putfield 15, 3) := by decide +kernel
theorem dX1_change_10 : decode cX1_change 10 = .ok (.aload_n 0, 1) := by decide +kernel
theorem dX1_change_11 : decode cX1_change 11 = .ok (.iload_n 3, 1) := by decide +kernel
theorem dX1_change_12 : decode cX1_change 12 = .ok (.putfield 18, 3) := by decide +kernel
theorem dX1_change_15 : decode cX1_change 15 = .ok (.aload_n 0, 1) := by decide +kernel
theorem dX1_change_16 : decode cX1_change 16 = .ok (.iload 4, 2) := by decide +kernel
theorem dX1_change_18 : decode cX1_change 18 = .ok (.putfield 21, 3) := by decide +kernel
theorem dX1_change_21 : decode cX1_change 21 = .ok (.aload_n 0, 1) := by decide +kernel
theorem dX1_change_22 : decode cX1_change 22 = .ok (.iload 5, 2) := by decide +kernel
theorem dX1_change_24 : decode cX1_change 24 = .ok (.putfield 24, 3) := by decide +kernel
theorem dX1_change_27 : decode cX1_change 27 = .ok (.return_, 1) := by decide +kernel
theorem dX1_costOfReading_0 : decode cX1_costOfReading 0 = .ok (.iload_n 1, 1) := by decide +kernel
theorem dX1_costOfReading_1 : decode cX1_costOfReading 1 = .ok (.iconst (-1), 1) := by decide +kernel
theorem dX1_costOfReading_2 : decode cX1_costOfReading 2 = .ok (.if_icmp .ne 10, 3) := by decide +kernel
theorem dX1_costOfReading_5 : decode cX1_costOfReading 5 = .ok (.aload_n 0, 1) := by decide +kernel
theorem dX1_costOfReading_6 : decode cX1_costOfReading 6 = .ok (.getfield 15, 3) := by decide +kernel
theorem dX1_costOfReading_9 : decode cX1_costOfReading 9 = .ok (.goto 15, 3) := by decide +kernel
theorem dX1_costOfReading_12 : decode cX1_costOfReading 12 = .ok (.iload_n 1, 1) := by decide +kernel
theorem dX1_costOfReading_13 : decode cX1_costOfReading 13 = .ok (.iload_n 2, 1) := by decide +kernel
theorem dX1_costOfReading_14 : decode cX1_costOfReading 14 = .ok (.isub, 1) := by decide +kernel
theorem dX1_costOfReading_15 : decode cX1_costOfReading 15 = .ok (.invokestatic 27, 3) := by decide +kernel
theorem dX1_costOfReading_18 : decode cX1_costOfReading 18 = .ok (.sipush 300, 3) := by decide +kernel
theorem dX1_costOfReading_21 : decode cX1_costOfReading 21 = .ok (.invokestatic 33, 3) := by decide +kernel
theorem dX1_costOfReading_24 : decode cX1_costOfReading 24 = .ok (.ireturn, 1) := by decide +kernel
theorem dX1_costOfLength_0 : decode cX1_costOfLength 0 = .ok (.aload_n 0, 1) := by decide +kernel
theorem dX1_costOfLength_1 : decode cX1_costOfLength 1 = .ok (.getfield 18, 3) := by decide +kernel
theorem dX1_costOfLength_4 : decode cX1_costOfLength 4 = .ok (.iload_n 1, 1) := by decide +kernel
theorem dX1_costOfLength_5 : decode cX1_costOfLength 5 = .ok (.iload_n 2, 1) := by decide +kernel
theorem dX1_costOfLength_6 : decode cX1_costOfLength 6 = .ok (.aload_n 0, 1) := by decide +kernel
theorem dX1_costOfLength_7 : decode cX1_costOfLength 7 = .ok (.getfield 9, 3) := by decide +kernel
theorem dX1_costOfLength_10 : decode cX1_costOfLength 10 = .ok (.imul, 1) := by decide +kernel
theorem dX1_costOfLength_11 : decode cX1_costOfLength 11 = .ok (.isub, 1) := by decide +kernel
theorem dX1_costOfLength_12 : decode cX1_costOfLength 12 = .ok (.invokestatic 27, 3) := by decide +kernel
theorem dX1_costOfLength_15 : decode cX1_costOfLength 15 = .ok (.imul, 1) := by decide +kernel
theorem dX1_costOfLength_16 : decode cX1_costOfLength 16 = .ok (.istore_n 3, 1) := by decide +kernel
theorem dX1_costOfLength_17 : decode cX1_costOfLength 17 = .ok (.iload_n 1, 1) := by decide +kernel
theorem dX1_costOfLength_18 : decode cX1_costOfLength 18 = .ok (.ifCond .ne 12, 3) := by decide +kernel
theorem dX1_costOfLength_21 : decode cX1_costOfLength 21 = .ok (.iload_n 3, 1) := by decide +kernel
theorem dX1_costOfLength_22 : decode cX1_costOfLength 22 = .ok (.aload_n 0, 1) := by decide +kernel
theorem dX1_costOfLength_23 : decode cX1_costOfLength 23 = .ok (.getfield 21, 3) := by decide +kernel
theorem dX1_costOfLength_26 : decode cX1_costOfLength 26 = .ok (.iadd, 1) := by decide +kernel
theorem dX1_costOfLength_27 : decode cX1_costOfLength 27 = .ok (.goto 4, 3) := by decide +kernel
theorem dX1_costOfLength_30 : decode cX1_costOfLength 30 = .ok (.iload_n 3, 1) := by decide +kernel
theorem dX1_costOfLength_31 : decode cX1_costOfLength 31 = .ok (.ireturn, 1) := by decide +kernel
theorem dX2_init_0 : decode cX2_init 0 = .ok (.aload_n 0, 1) := by decide +kernel
theorem dX2_init_1 : decode cX2_init 1 = .ok (.invokespecial 3, 3) := by decide +kernel
theorem dX2_init_4 : decode cX2_init 4 = .ok (.aload_n 0, 1) := by decide +kernel
theorem dX2_init_5 : decode cX2_init 5 = .ok (.iconst 0, 1) := by decide +kernel
theorem dX2_init_6 : decode cX2_init 6 = .ok (.putfield 9, 3) := by decide +kernel
theorem dX2_init_9 : decode cX2_init 9 = .ok (.aload_n 0, 1) := by decide +kernel
theorem dX2_init_10 : decode cX2_init 10 = .ok (.bipush 9, 2) := by decide +kernel
theorem dX2_init_12 : decode cX2_init 12 = .ok (.newarray .int, 2) := by decide +kernel
theorem dX2_init_14 : decode cX2_init 14 = .ok (.putfield 15, 3) := by decide +kernel
theorem dX2_init_17 : decode cX2_init 17 = .ok (.aload_n 0, 1) := by decide +kernel
theorem dX2_init_18 : decode cX2_init 18 = .ok (.bipush 9, 2) := by decide +kernel
theorem dX2_init_20 : decode cX2_init 20 = .ok (.bipush 10, 2) := by decide +kernel
theorem dX2_init_22 : decode cX2_init 22 = .ok (.multianewarray 19 2, 4) := by decide +kernel
theorem dX2_init_26 : decode cX2_init 26 = .ok (.putfield 21, 3) := by decide +kernel
theorem dX2_init_29 : decode cX2_init 29 = .ok (.return_, 1) := by decide +kernel
theorem dX2_takeRow_0 : decode cX2_takeRow 0 = .ok (.iconst 0, 1) := by decide +kernel
theorem dX2_takeRow_1 : decode cX2_takeRow 1 = .ok (.istore 5, 2) := by decide +kernel
theorem dX2_takeRow_3 : decode cX2_takeRow 3 = .ok (.iconst 0, 1) := by decide +kernel
theorem dX2_takeRow_4 : decode cX2_takeRow 4 = .ok (.istore 6, 2) := by decide +kernel
theorem dX2_takeRow_6 : decode cX2_takeRow 6 = .ok (.iload 6, 2) := by decide +kernel
theorem dX2_takeRow_8 : decode cX2_takeRow 8 = .ok (.iload_n 2, 1) := by decide +kernel
theorem dX2_takeRow_9 : decode cX2_takeRow 9 = .ok (.if_icmp .ge 46, 3) := by decide +kernel
theorem dX2_takeRow_12 : decode cX2_takeRow 12 = .ok (.lload_n 3, 1) := by decide +kernel
theorem dX2_takeRow_13 : decode cX2_takeRow 13 = .ok (.iload 6, 2) := by decide +kernel
theorem dX2_takeRow_15 : decode cX2_takeRow 15 = .ok (.invokestatic 24, 3) := by decide +kernel
theorem dX2_takeRow_18 : decode cX2_takeRow 18 = .ok (.istore 7, 2) := by decide +kernel
theorem dX2_takeRow_20 : decode cX2_takeRow 20 = .ok (.iload 7, 2) := by decide +kernel
theorem dX2_takeRow_22 : decode cX2_takeRow 22 = .ok (.bipush 10, 2) := by decide +kernel
theorem dX2_takeRow_24 : decode cX2_takeRow 24 = .ok (.if_icmp .ge 14, 3) := by decide +kernel
theorem dX2_takeRow_27 : decode cX2_takeRow 27 = .ok (.iload 5, 2) := by decide +kernel
theorem dX2_takeRow_29 : decode cX2_takeRow 29 = .ok (.iload 7, 2) := by decide +kernel
theorem dX2_takeRow_31 : decode cX2_takeRow 31 = .ok (.ishr, 1) := by decide +kernel
theorem dX2_takeRow_32 : decode cX2_takeRow 32 = .ok (.iconst 1, 1) := by decide +kernel
theorem dX2_takeRow_33 : decode cX2_takeRow 33 = .ok (.iand, 1) := by decide +kernel
theorem dX2_takeRow_34 : decode cX2_takeRow 34 = .ok (.iconst 1, 1) := by decide +kernel
theorem dX2_takeRow_35 : decode cX2_takeRow 35 = .ok (.if_icmp .ne 5, 3) := by decide +kernel
theorem dX2_takeRow_38 : decode cX2_takeRow 38 = .ok (.iconst 0, 1) := by decide +kernel
theorem dX2_takeRow_39 : decode cX2_takeRow 39 = .ok (.ireturn, 1) := by decide +kernel
theorem dX2_takeRow_40 : decode cX2_takeRow 40 = .ok (.iload 5, 2) := by decide +kernel
theorem dX2_takeRow_42 : decode cX2_takeRow 42 = .ok (.iconst 1, 1) := by decide +kernel
theorem dX2_takeRow_43 : decode cX2_takeRow 43 = .ok (.iload 7, 2) := by decide +kernel
theorem dX2_takeRow_45 : decode cX2_takeRow 45 = .ok (.ishl, 1) := by decide +kernel
theorem dX2_takeRow_46 : decode cX2_takeRow 46 = .ok (.ior, 1) := by decide +kernel
theorem dX2_takeRow_47 : decode cX2_takeRow 47 = .ok (.istore 5, 2) := by decide +kernel
theorem dX2_takeRow_49 : decode cX2_takeRow 49 = .ok (.iinc 6 1, 3) := by decide +kernel
theorem dX2_takeRow_52 : decode cX2_takeRow 52 = .ok (.goto (-46), 3) := by decide +kernel
theorem dX2_takeRow_55 : decode cX2_takeRow 55 = .ok (.aload_n 0, 1) := by decide +kernel
theorem dX2_takeRow_56 : decode cX2_takeRow 56 = .ok (.getfield 15, 3) := by decide +kernel
theorem dX2_takeRow_59 : decode cX2_takeRow 59 = .ok (.iload_n 1, 1) := by decide +kernel
theorem dX2_takeRow_60 : decode cX2_takeRow 60 = .ok (.iload 5, 2) := by decide +kernel
theorem dX2_takeRow_62 : decode cX2_takeRow 62 = .ok (.iastore, 1) := by decide +kernel
theorem dX2_takeRow_63 : decode cX2_takeRow 63 = .ok (.iconst 0, 1) := by decide +kernel
theorem dX2_takeRow_64 : decode cX2_takeRow 64 = .ok (.istore 6, 2) := by decide +kernel
theorem dX2_takeRow_66 : decode cX2_takeRow 66 = .ok (.iload 6, 2) := by decide +kernel
theorem dX2_takeRow_68 : decode cX2_takeRow 68 = .ok (.iload_n 2, 1) := by decide +kernel
theorem dX2_takeRow_69 : decode cX2_takeRow 69 = .ok (.if_icmp .ge 26, 3) := by decide +kernel
theorem dX2_takeRow_72 : decode cX2_takeRow 72 = .ok (.aload_n 0, 1) := by decide +kernel
theorem dX2_takeRow_73 : decode cX2_takeRow 73 = .ok (.getfield 21, 3) := by decide +kernel
theorem dX2_takeRow_76 : decode cX2_takeRow 76 = .ok (.iload_n 1, 1) := by decide +kernel
theorem dX2_takeRow_77 : decode cX2_takeRow 77 = .ok (.aaload, 1) := by decide +kernel
theorem dX2_takeRow_78 : decode cX2_takeRow 78 = .ok (.lload_n 3, 1) := by decide +kernel
theorem dX2_takeRow_79 : decode cX2_takeRow 79 = .ok (.iload 6, 2) := by decide +kernel
theorem dX2_takeRow_81 : decode cX2_takeRow 81 = .ok (.invokestatic 24, 3) := by decide +kernel
theorem dX2_takeRow_84 : decode cX2_takeRow 84 = .ok (.iload 6, 2) := by decide +kernel
theorem dX2_takeRow_86 : decode cX2_takeRow 86 = .ok (.iconst 1, 1) := by decide +kernel
theorem dX2_takeRow_87 : decode cX2_takeRow 87 = .ok (.iadd, 1) := by decide +kernel
theorem dX2_takeRow_88 : decode cX2_takeRow 88 = .ok (.iastore, 1) := by decide +kernel
theorem dX2_takeRow_89 : decode cX2_takeRow 89 = .ok (.iinc 6 1, 3) := by decide +kernel
theorem dX2_takeRow_92 : decode cX2_takeRow 92 = .ok (.goto (-26), 3) := by decide +kernel
theorem dX2_takeRow_95 : decode cX2_takeRow 95 = .ok (.iconst 1, 1) := by decide +kernel
theorem dX2_takeRow_96 : decode cX2_takeRow 96 = .ok (.ireturn, 1) := by decide +kernel
theorem dX2_clubAt_0 : decode cX2_clubAt 0 = .ok (.lload_n 0, 1) := by decide +kernel
theorem dX2_clubAt_1 : decode cX2_clubAt 1 = .ok (.iconst 4, 1) := by decide +kernel
theorem dX2_clubAt_2 : decode cX2_clubAt 2 = .ok (.iload_n 2, 1) := by decide +kernel
theorem dX2_clubAt_3 : decode cX2_clubAt 3 = .ok (.imul, 1) := by decide +kernel
theorem dX2_clubAt_4 : decode cX2_clubAt 4 = .ok (.lushr, 1) := by decide +kernel
theorem dX2_clubAt_5 : decode cX2_clubAt 5 = .ok (.l2i, 1) := by decide +kernel
theorem dX2_clubAt_6 : decode cX2_clubAt 6 = .ok (.bipush 15, 2) := by decide +kernel
theorem dX2_clubAt_8 : decode cX2_clubAt 8 = .ok (.iand, 1) := by decide +kernel
theorem dX2_clubAt_9 : decode cX2_clubAt 9 = .ok (.ireturn, 1) := by decide +kernel
theorem dX2_isSinging_0 : decode cX2_isSinging 0 = .ok (.iload_n 1, 1) := by decide +kernel
theorem dX2_isSinging_1 : decode cX2_isSinging 1 = .ok (.iconst 0, 1) := by decide +kernel
theorem dX2_isSinging_2 : decode cX2_isSinging 2 = .ok (.bipush 9, 2) := by decide +kernel
theorem dX2_isSinging_4 : decode cX2_isSinging 4 = .ok (.invokestatic 28, 3) := by decide +kernel
theorem dX2_isSinging_7 : decode cX2_isSinging 7 = .ok (.ifCond .eq 19, 3) := by decide +kernel
theorem dX2_isSinging_10 : decode cX2_isSinging 10 = .ok (.aload_n 0, 1) := by decide +kernel
theorem dX2_isSinging_11 : decode cX2_isSinging 11 = .ok (.getfield 9, 3) := by decide +kernel
theorem dX2_isSinging_14 : decode cX2_isSinging 14 = .ok (.iload_n 1, 1) := by decide +kernel
theorem dX2_isSinging_15 : decode cX2_isSinging 15 = .ok (.ishr, 1) := by decide +kernel
theorem dX2_isSinging_16 : decode cX2_isSinging 16 = .ok (.iconst 1, 1) := by decide +kernel
theorem dX2_isSinging_17 : decode cX2_isSinging 17 = .ok (.iand, 1) := by decide +kernel
theorem dX2_isSinging_18 : decode cX2_isSinging 18 = .ok (.iconst 1, 1) := by decide +kernel
theorem dX2_isSinging_19 : decode cX2_isSinging 19 = .ok (.if_icmp .ne 7, 3) := by decide +kernel
theorem dX2_isSinging_22 : decode cX2_isSinging 22 = .ok (.iconst 1, 1) := by decide +kernel
theorem dX2_isSinging_23 : decode cX2_isSinging 23 = .ok (.goto 4, 3) := by decide +kernel
theorem dX2_isSinging_26 : decode cX2_isSinging 26 = .ok (.iconst 0, 1) := by decide +kernel
theorem dX2_isSinging_27 : decode cX2_isSinging 27 = .ok (.ireturn, 1) := by decide +kernel
theorem dX2_isCounting_0 : decode cX2_isCounting 0 = .ok (.aload_n 0, 1) := by decide +kernel
theorem dX2_isCounting_1 : decode cX2_isCounting 1 = .ok (.getfield 9, 3) := by decide +kernel
theorem dX2_isCounting_4 : decode cX2_isCounting 4 = .ok (.ifCond .eq 20, 3) := by decide +kernel
theorem dX2_isCounting_7 : decode cX2_isCounting 7 = .ok (.aload_n 0, 1) := by decide +kernel
theorem dX2_isCounting_8 : decode cX2_isCounting 8 = .ok (.getfield 15, 3) := by decide +kernel
theorem dX2_isCounting_11 : decode cX2_isCounting 11 = .ok (.iload_n 1, 1) := by decide +kernel
theorem dX2_isCounting_12 : decode cX2_isCounting 12 = .ok (.iaload, 1) := by decide +kernel
theorem dX2_isCounting_13 : decode cX2_isCounting 13 = .ok (.aload_n 0, 1) := by decide +kernel
theorem dX2_isCounting_14 : decode cX2_isCounting 14 = .ok (.getfield 9, 3) := by decide +kernel
theorem dX2_isCounting_17 : decode cX2_isCounting 17 = .ok (.if_icmp .ne 7, 3) := by decide +kernel
theorem dX2_isCounting_20 : decode cX2_isCounting 20 = .ok (.iconst 1, 1) := by decide +kernel
theorem dX2_isCounting_21 : decode cX2_isCounting 21 = .ok (.goto 4, 3) := by decide +kernel
theorem dX2_isCounting_24 : decode cX2_isCounting 24 = .ok (.iconst 0, 1) := by decide +kernel
theorem dX2_isCounting_25 : decode cX2_isCounting 25 = .ok (.ireturn, 1) := by decide +kernel
theorem dX2_countJudges_0 : decode cX2_countJudges 0 = .ok (.iconst 0, 1) := by decide +kernel
theorem dX2_countJudges_1 : decode cX2_countJudges 1 = .ok (.istore_n 1, 1) := by decide +kernel
theorem dX2_countJudges_2 : decode cX2_countJudges 2 = .ok (.iconst 0, 1) := by decide +kernel
theorem dX2_countJudges_3 : decode cX2_countJudges 3 = .ok (.istore_n 2, 1) := by decide +kernel
theorem dX2_countJudges_4 : decode cX2_countJudges 4 = .ok (.iload_n 2, 1) := by decide +kernel
theorem dX2_countJudges_5 : decode cX2_countJudges 5 = .ok (.bipush 9, 2) := by decide +kernel
theorem dX2_countJudges_7 : decode cX2_countJudges 7 = .ok (.if_icmp .ge 20, 3) := by decide +kernel
theorem dX2_countJudges_10 : decode cX2_countJudges 10 = .ok (.aload_n 0, 1) := by decide +kernel
theorem dX2_countJudges_11 : decode cX2_countJudges 11 = .ok (.iload_n 2, 1) := by decide +kernel
theorem dX2_countJudges_12 : decode cX2_countJudges 12 = .ok (.invokevirtual 32, 3) := by decide +kernel
theorem dX2_countJudges_15 : decode cX2_countJudges 15 = .ok (.ifCond .eq 6, 3) := by decide +kernel
theorem dX2_countJudges_18 : decode cX2_countJudges 18 = .ok (.iinc 1 1, 3) := by decide +kernel
theorem dX2_countJudges_21 : decode cX2_countJudges 21 = .ok (.iinc 2 1, 3) := by decide +kernel
theorem dX2_countJudges_24 : decode cX2_countJudges 24 = .ok (.goto (-20), 3) := by decide +kernel
theorem dX2_countJudges_27 : decode cX2_countJudges 27 = .ok (.iload_n 1, 1) := by decide +kernel
theorem dX2_countJudges_28 : decode cX2_countJudges 28 = .ok (.ireturn, 1) := by decide +kernel
theorem dX2_countRanks_0 : decode cX2_countRanks 0 = .ok (.iconst 0, 1) := by decide +kernel
theorem dX2_countRanks_1 : decode cX2_countRanks 1 = .ok (.istore_n 3, 1) := by decide +kernel
theorem dX2_countRanks_2 : decode cX2_countRanks 2 = .ok (.iconst 0, 1) := by decide +kernel
theorem dX2_countRanks_3 : decode cX2_countRanks 3 = .ok (.istore 4, 2) := by decide +kernel
theorem dX2_countRanks_5 : decode cX2_countRanks 5 = .ok (.iload 4, 2) := by decide +kernel
theorem dX2_countRanks_7 : decode cX2_countRanks 7 = .ok (.bipush 9, 2) := by decide +kernel
theorem dX2_countRanks_9 : decode cX2_countRanks 9 = .ok (.if_icmp .ge 34, 3) := by decide +kernel
theorem dX2_countRanks_12 : decode cX2_countRanks 12 = .ok (.aload_n 0, 1) := by decide +kernel
theorem dX2_countRanks_13 : decode cX2_countRanks 13 = .ok (.iload 4, 2) := by decide +kernel
theorem dX2_countRanks_15 : decode cX2_countRanks 15 = .ok (.invokevirtual 32, 3) := by decide +kernel
theorem dX2_countRanks_18 : decode cX2_countRanks 18 = .ok (.ifCond .eq 19, 3) := by decide +kernel
theorem dX2_countRanks_21 : decode cX2_countRanks 21 = .ok (.aload_n 0, 1) := by decide +kernel
theorem dX2_countRanks_22 : decode cX2_countRanks 22 = .ok (.getfield 21, 3) := by decide +kernel
theorem dX2_countRanks_25 : decode cX2_countRanks 25 = .ok (.iload 4, 2) := by decide +kernel
theorem dX2_countRanks_27 : decode cX2_countRanks 27 = .ok (.aaload, 1) := by decide +kernel
theorem dX2_countRanks_28 : decode cX2_countRanks 28 = .ok (.iload_n 1, 1) := by decide +kernel
theorem dX2_countRanks_29 : decode cX2_countRanks 29 = .ok (.iaload, 1) := by decide +kernel
theorem dX2_countRanks_30 : decode cX2_countRanks 30 = .ok (.iload_n 2, 1) := by decide +kernel
theorem dX2_countRanks_31 : decode cX2_countRanks 31 = .ok (.if_icmp .gt 6, 3) := by decide +kernel
theorem dX2_countRanks_34 : decode cX2_countRanks 34 = .ok (.iinc 3 1, 3) := by decide +kernel
theorem dX2_countRanks_37 : decode cX2_countRanks 37 = .ok (.iinc 4 1, 3) := by decide +kernel
theorem dX2_countRanks_40 : decode cX2_countRanks 40 = .ok (.goto (-35), 3) := by decide +kernel
theorem dX2_countRanks_43 : decode cX2_countRanks 43 = .ok (.iload_n 3, 1) := by decide +kernel
theorem dX2_countRanks_44 : decode cX2_countRanks 44 = .ok (.ireturn, 1) := by decide +kernel
theorem dX2_sumRanks_0 : decode cX2_sumRanks 0 = .ok (.iconst 0, 1) := by decide +kernel
theorem dX2_sumRanks_1 : decode cX2_sumRanks 1 = .ok (.istore_n 3, 1) := by decide +kernel
theorem dX2_sumRanks_2 : decode cX2_sumRanks 2 = .ok (.iconst 0, 1) := by decide +kernel
theorem dX2_sumRanks_3 : decode cX2_sumRanks 3 = .ok (.istore 4, 2) := by decide +kernel
theorem dX2_sumRanks_5 : decode cX2_sumRanks 5 = .ok (.iload 4, 2) := by decide +kernel
theorem dX2_sumRanks_7 : decode cX2_sumRanks 7 = .ok (.bipush 9, 2) := by decide +kernel
theorem dX2_sumRanks_9 : decode cX2_sumRanks 9 = .ok (.if_icmp .ge 43, 3) := by decide +kernel
theorem dX2_sumRanks_12 : decode cX2_sumRanks 12 = .ok (.aload_n 0, 1) := by decide +kernel
theorem dX2_sumRanks_13 : decode cX2_sumRanks 13 = .ok (.iload 4, 2) := by decide +kernel
theorem dX2_sumRanks_15 : decode cX2_sumRanks 15 = .ok (.invokevirtual 32, 3) := by decide +kernel
theorem dX2_sumRanks_18 : decode cX2_sumRanks 18 = .ok (.ifCond .eq 28, 3) := by decide +kernel
theorem dX2_sumRanks_21 : decode cX2_sumRanks 21 = .ok (.aload_n 0, 1) := by decide +kernel
theorem dX2_sumRanks_22 : decode cX2_sumRanks 22 = .ok (.getfield 21, 3) := by decide +kernel
theorem dX2_sumRanks_25 : decode cX2_sumRanks 25 = .ok (.iload 4, 2) := by decide +kernel
theorem dX2_sumRanks_27 : decode cX2_sumRanks 27 = .ok (.aaload, 1) := by decide +kernel
theorem dX2_sumRanks_28 : decode cX2_sumRanks 28 = .ok (.iload_n 1, 1) := by decide +kernel
theorem dX2_sumRanks_29 : decode cX2_sumRanks 29 = .ok (.iaload, 1) := by decide +kernel
theorem dX2_sumRanks_30 : decode cX2_sumRanks 30 = .ok (.iload_n 2, 1) := by decide +kernel
theorem dX2_sumRanks_31 : decode cX2_sumRanks 31 = .ok (.if_icmp .gt 15, 3) := by decide +kernel
theorem dX2_sumRanks_34 : decode cX2_sumRanks 34 = .ok (.iload_n 3, 1) := by decide +kernel
theorem dX2_sumRanks_35 : decode cX2_sumRanks 35 = .ok (.aload_n 0, 1) := by decide +kernel
theorem dX2_sumRanks_36 : decode cX2_sumRanks 36 = .ok (.getfield 21, 3) := by decide +kernel
theorem dX2_sumRanks_39 : decode cX2_sumRanks 39 = .ok (.iload 4, 2) := by decide +kernel
theorem dX2_sumRanks_41 : decode cX2_sumRanks 41 = .ok (.aaload, 1) := by decide +kernel
theorem dX2_sumRanks_42 : decode cX2_sumRanks 42 = .ok (.iload_n 1, 1) := by decide +kernel
theorem dX2_sumRanks_43 : decode cX2_sumRanks 43 = .ok (.iaload, 1) := by decide +kernel
theorem dX2_sumRanks_44 : decode cX2_sumRanks 44 = .ok (.iadd, 1) := by decide +kernel
theorem dX2_sumRanks_45 : decode cX2_sumRanks 45 = .ok (.istore_n 3, 1) := by decide +kernel
theorem dX2_sumRanks_46 : decode cX2_sumRanks 46 = .ok (.iinc 4 1, 3) := by decide +kernel
theorem dX2_sumRanks_49 : decode cX2_sumRanks 49 = .ok (.goto (-44), 3) := by decide +kernel
theorem dX2_sumRanks_52 : decode cX2_sumRanks 52 = .ok (.iload_n 3, 1) := by decide +kernel
theorem dX2_sumRanks_53 : decode cX2_sumRanks 53 = .ok (.ireturn, 1) := by decide +kernel
theorem dX2_findPlace_0 : decode cX2_findPlace 0 = .ok (.aload_n 0, 1) := by decide +kernel
theorem dX2_findPlace_1 : decode cX2_findPlace 1 = .ok (.iload_n 1, 1) := by decide +kernel
theorem dX2_findPlace_2 : decode cX2_findPlace 2 = .ok (.invokevirtual 36, 3) := by decide +kernel
theorem dX2_findPlace_5 : decode cX2_findPlace 5 = .ok (.istore_n 2, 1) := by decide +kernel
theorem dX2_findPlace_6 : decode cX2_findPlace 6 = .ok (.iconst 0, 1) := by decide +kernel
theorem dX2_findPlace_7 : decode cX2_findPlace 7 = .ok (.istore_n 3, 1) := by decide +kernel
theorem dX2_findPlace_8 : decode cX2_findPlace 8 = .ok (.iconst 0, 1) := by decide +kernel
theorem dX2_findPlace_9 : decode cX2_findPlace 9 = .ok (.istore 4, 2) := by decide +kernel
theorem dX2_findPlace_11 : decode cX2_findPlace 11 = .ok (.iload 4, 2) := by decide +kernel
theorem dX2_findPlace_13 : decode cX2_findPlace 13 = .ok (.bipush 10, 2) := by decide +kernel
theorem dX2_findPlace_15 : decode cX2_findPlace 15 = .ok (.if_icmp .ge 32, 3) := by decide +kernel
theorem dX2_findPlace_18 : decode cX2_findPlace 18 = .ok (.aload_n 0, 1) := by decide +kernel
theorem dX2_findPlace_19 : decode cX2_findPlace 19 = .ok (.iload 4, 2) := by decide +kernel
theorem dX2_findPlace_21 : decode cX2_findPlace 21 = .ok (.invokevirtual 40, 3) := by decide +kernel
theorem dX2_findPlace_24 : decode cX2_findPlace 24 = .ok (.ifCond .eq 17, 3) := by decide +kernel
theorem dX2_findPlace_27 : decode cX2_findPlace 27 = .ok (.aload_n 0, 1) := by decide +kernel
theorem dX2_findPlace_28 : decode cX2_findPlace 28 = .ok (.iload 4, 2) := by decide +kernel
theorem dX2_findPlace_30 : decode cX2_findPlace 30 = .ok (.iload_n 1, 1) := by decide +kernel
theorem dX2_findPlace_31 : decode cX2_findPlace 31 = .ok (.iload_n 2, 1) := by decide +kernel
theorem dX2_findPlace_32 : decode cX2_findPlace 32 = .ok (.invokevirtual 43, 3) := by decide +kernel
theorem dX2_findPlace_35 : decode cX2_findPlace 35 = .ok (.ifCond .eq 6, 3) := by decide +kernel
theorem dX2_findPlace_38 : decode cX2_findPlace 38 = .ok (.iinc 3 1, 3) := by decide +kernel
theorem dX2_findPlace_41 : decode cX2_findPlace 41 = .ok (.iinc 4 1, 3) := by decide +kernel
theorem dX2_findPlace_44 : decode cX2_findPlace 44 = .ok (.goto (-33), 3) := by decide +kernel
theorem dX2_findPlace_47 : decode cX2_findPlace 47 = .ok (.iload_n 3, 1) := by decide +kernel
theorem dX2_findPlace_48 : decode cX2_findPlace 48 = .ok (.iconst 1, 1) := by decide +kernel
theorem dX2_findPlace_49 : decode cX2_findPlace 49 = .ok (.iadd, 1) := by decide +kernel
theorem dX2_findPlace_50 : decode cX2_findPlace 50 = .ok (.ireturn, 1) := by decide +kernel
theorem dX2_findGreaterHalf_0 : decode cX2_findGreaterHalf 0 = .ok (.aload_n 0, 1) := by decide +kernel
theorem dX2_findGreaterHalf_1 : decode cX2_findGreaterHalf 1 = .ok (.invokevirtual 46, 3) := by decide +kernel
theorem dX2_findGreaterHalf_4 : decode cX2_findGreaterHalf 4 = .ok (.istore_n 2, 1) := by decide +kernel
theorem dX2_findGreaterHalf_5 : decode cX2_findGreaterHalf 5 = .ok (.iconst 1, 1) := by decide +kernel
theorem dX2_findGreaterHalf_6 : decode cX2_findGreaterHalf 6 = .ok (.istore_n 3, 1) := by decide +kernel
theorem dX2_findGreaterHalf_7 : decode cX2_findGreaterHalf 7 = .ok (.iload_n 3, 1) := by decide +kernel
theorem dX2_findGreaterHalf_8 : decode cX2_findGreaterHalf 8 = .ok (.bipush 10, 2) := by decide +kernel
theorem dX2_findGreaterHalf_10 : decode cX2_findGreaterHalf 10 = .ok (.if_icmp .ge 21, 3) := by decide +kernel
theorem dX2_findGreaterHalf_13 : decode cX2_findGreaterHalf 13 = .ok (.iconst 2, 1) := by decide +kernel
theorem dX2_findGreaterHalf_14 : decode cX2_findGreaterHalf 14 = .ok (.aload_n 0, 1) := by decide +kernel
theorem dX2_findGreaterHalf_15 : decode cX2_findGreaterHalf 15 = .ok (.iload_n 1, 1) := by decide +kernel
theorem dX2_findGreaterHalf_16 : decode cX2_findGreaterHalf 16 = .ok (.iload_n 3, 1) := by decide +kernel
theorem dX2_findGreaterHalf_17 : decode cX2_findGreaterHalf 17 = .ok (.invokevirtual 50, 3) := by decide +kernel
theorem dX2_findGreaterHalf_20 : decode cX2_findGreaterHalf 20 = .ok (.imul, 1) := by decide +kernel
theorem dX2_findGreaterHalf_21 : decode cX2_findGreaterHalf 21 = .ok (.iload_n 2, 1) := by decide +kernel
theorem dX2_findGreaterHalf_22 : decode cX2_findGreaterHalf 22 = .ok (.if_icmp .gt 9, 3) := by decide +kernel
theorem dX2_findGreaterHalf_25 : decode cX2_findGreaterHalf 25 = .ok (.iinc 3 1, 3) := by decide +kernel
theorem dX2_findGreaterHalf_28 : decode cX2_findGreaterHalf 28 = .ok (.goto (-21), 3) := by decide +kernel
theorem dX2_findGreaterHalf_31 : decode cX2_findGreaterHalf 31 = .ok (.iload_n 3, 1) := by decide +kernel
theorem dX2_findGreaterHalf_32 : decode cX2_findGreaterHalf 32 = .ok (.ireturn, 1) := by decide +kernel
theorem dX2_isAhead_0 : decode cX2_isAhead 0 = .ok (.aload_n 0, 1) := by decide +kernel
theorem dX2_isAhead_1 : decode cX2_isAhead 1 = .ok (.iload_n 1, 1) := by decide +kernel
theorem dX2_isAhead_2 : decode cX2_isAhead 2 = .ok (.invokevirtual 36, 3) := by decide +kernel
theorem dX2_isAhead_5 : decode cX2_isAhead 5 = .ok (.istore 4, 2) := by decide +kernel
theorem dX2_isAhead_7 : decode cX2_isAhead 7 = .ok (.iload 4, 2) := by decide +kernel
theorem dX2_isAhead_9 : decode cX2_isAhead 9 = .ok (.iload_n 3, 1) := by decide +kernel
theorem dX2_isAhead_10 : decode cX2_isAhead 10 = .ok (.if_icmp .eq 15, 3) := by decide +kernel
theorem dX2_isAhead_13 : decode cX2_isAhead 13 = .ok (.iload 4, 2) := by decide +kernel
theorem dX2_isAhead_15 : decode cX2_isAhead 15 = .ok (.iload_n 3, 1) := by decide +kernel
theorem dX2_isAhead_16 : decode cX2_isAhead 16 = .ok (.if_icmp .ge 7, 3) := by decide +kernel
theorem dX2_isAhead_19 : decode cX2_isAhead 19 = .ok (.iconst 1, 1) := by decide +kernel
theorem dX2_isAhead_20 : decode cX2_isAhead 20 = .ok (.goto 4, 3) := by decide +kernel
theorem dX2_isAhead_23 : decode cX2_isAhead 23 = .ok (.iconst 0, 1) := by decide +kernel
theorem dX2_isAhead_24 : decode cX2_isAhead 24 = .ok (.ireturn, 1) := by decide +kernel
theorem dX2_isAhead_25 : decode cX2_isAhead 25 = .ok (.iload_n 3, 1) := by decide +kernel
theorem dX2_isAhead_26 : decode cX2_isAhead 26 = .ok (.istore 5, 2) := by decide +kernel
theorem dX2_isAhead_28 : decode cX2_isAhead 28 = .ok (.iload 5, 2) := by decide +kernel
theorem dX2_isAhead_30 : decode cX2_isAhead 30 = .ok (.bipush 10, 2) := by decide +kernel
theorem dX2_isAhead_32 : decode cX2_isAhead 32 = .ok (.if_icmp .gt 75, 3) := by decide +kernel
theorem dX2_isAhead_35 : decode cX2_isAhead 35 = .ok (.aload_n 0, 1) := by decide +kernel
theorem dX2_isAhead_36 : decode cX2_isAhead 36 = .ok (.iload_n 1, 1) := by decide +kernel
theorem dX2_isAhead_37 : decode cX2_isAhead 37 = .ok (.iload 5, 2) := by decide +kernel
theorem dX2_isAhead_39 : decode cX2_isAhead 39 = .ok (.invokevirtual 50, 3) := by decide +kernel
theorem dX2_isAhead_42 : decode cX2_isAhead 42 = .ok (.aload_n 0, 1) := by decide +kernel
theorem dX2_isAhead_43 : decode cX2_isAhead 43 = .ok (.iload_n 2, 1) := by decide +kernel
theorem dX2_isAhead_44 : decode cX2_isAhead 44 = .ok (.iload 5, 2) := by decide +kernel
theorem dX2_isAhead_46 : decode cX2_isAhead 46 = .ok (.invokevirtual 50, 3) := by decide +kernel
theorem dX2_isAhead_49 : decode cX2_isAhead 49 = .ok (.isub, 1) := by decide +kernel
theorem dX2_isAhead_50 : decode cX2_isAhead 50 = .ok (.istore 6, 2) := by decide +kernel
theorem dX2_isAhead_52 : decode cX2_isAhead 52 = .ok (.iload 6, 2) := by decide +kernel
theorem dX2_isAhead_54 : decode cX2_isAhead 54 = .ok (.ifCond .eq 14, 3) := by decide +kernel
theorem dX2_isAhead_57 : decode cX2_isAhead 57 = .ok (.iload 6, 2) := by decide +kernel
theorem dX2_isAhead_59 : decode cX2_isAhead 59 = .ok (.ifCond .le 7, 3) := by decide +kernel
theorem dX2_isAhead_62 : decode cX2_isAhead 62 = .ok (.iconst 1, 1) := by decide +kernel
theorem dX2_isAhead_63 : decode cX2_isAhead 63 = .ok (.goto 4, 3) := by decide +kernel
theorem dX2_isAhead_66 : decode cX2_isAhead 66 = .ok (.iconst 0, 1) := by decide +kernel
theorem dX2_isAhead_67 : decode cX2_isAhead 67 = .ok (.ireturn, 1) := by decide +kernel
theorem dX2_isAhead_68 : decode cX2_isAhead 68 = .ok (.aload_n 0, 1) := by decide +kernel
theorem dX2_isAhead_69 : decode cX2_isAhead 69 = .ok (.iload_n 2, 1) := by decide +kernel
theorem dX2_isAhead_70 : decode cX2_isAhead 70 = .ok (.iload 5, 2) := by decide +kernel
theorem dX2_isAhead_72 : decode cX2_isAhead 72 = .ok (.invokevirtual 54, 3) := by decide +kernel
theorem dX2_isAhead_75 : decode cX2_isAhead 75 = .ok (.aload_n 0, 1) := by decide +kernel
theorem dX2_isAhead_76 : decode cX2_isAhead 76 = .ok (.iload_n 1, 1) := by decide +kernel
theorem dX2_isAhead_77 : decode cX2_isAhead 77 = .ok (.iload 5, 2) := by decide +kernel
theorem dX2_isAhead_79 : decode cX2_isAhead 79 = .ok (.invokevirtual 54, 3) := by decide +kernel
theorem dX2_isAhead_82 : decode cX2_isAhead 82 = .ok (.isub, 1) := by decide +kernel
theorem dX2_isAhead_83 : decode cX2_isAhead 83 = .ok (.istore 7, 2) := by decide +kernel
theorem dX2_isAhead_85 : decode cX2_isAhead 85 = .ok (.iload 7, 2) := by decide +kernel
theorem dX2_isAhead_87 : decode cX2_isAhead 87 = .ok (.ifCond .eq 14, 3) := by decide +kernel
theorem dX2_isAhead_90 : decode cX2_isAhead 90 = .ok (.iload 7, 2) := by decide +kernel
theorem dX2_isAhead_92 : decode cX2_isAhead 92 = .ok (.ifCond .le 7, 3) := by decide +kernel
theorem dX2_isAhead_95 : decode cX2_isAhead 95 = .ok (.iconst 1, 1) := by decide +kernel
theorem dX2_isAhead_96 : decode cX2_isAhead 96 = .ok (.goto 4, 3) := by decide +kernel
theorem dX2_isAhead_99 : decode cX2_isAhead 99 = .ok (.iconst 0, 1) := by decide +kernel
theorem dX2_isAhead_100 : decode cX2_isAhead 100 = .ok (.ireturn, 1) := by decide +kernel
theorem dX2_isAhead_101 : decode cX2_isAhead 101 = .ok (.iinc 5 1, 3) := by decide +kernel
theorem dX2_isAhead_104 : decode cX2_isAhead 104 = .ok (.goto (-76), 3) := by decide +kernel
theorem dX2_isAhead_107 : decode cX2_isAhead 107 = .ok (.iconst 0, 1) := by decide +kernel
theorem dX2_isAhead_108 : decode cX2_isAhead 108 = .ok (.ireturn, 1) := by decide +kernel
theorem dX3_init_0 : decode cX3_init 0 = .ok (.aload_n 0, 1) := by decide +kernel
theorem dX3_init_1 : decode cX3_init 1 = .ok (.invokespecial 3, 3) := by decide +kernel
theorem dX3_init_4 : decode cX3_init 4 = .ok (.aload_n 0, 1) := by decide +kernel
theorem dX3_init_5 : decode cX3_init 5 = .ok (.bipush 24, 2) := by decide +kernel
theorem dX3_init_7 : decode cX3_init 7 = .ok (.newarray .int, 2) := by decide +kernel
theorem dX3_init_9 : decode cX3_init 9 = .ok (.putfield 9, 3) := by decide +kernel
theorem dX3_init_12 : decode cX3_init 12 = .ok (.aload_n 0, 1) := by decide +kernel
theorem dX3_init_13 : decode cX3_init 13 = .ok (.bipush 24, 2) := by decide +kernel
theorem dX3_init_15 : decode cX3_init 15 = .ok (.newarray .int, 2) := by decide +kernel
theorem dX3_init_17 : decode cX3_init 17 = .ok (.putfield 15, 3) := by decide +kernel
theorem dX3_init_20 : decode cX3_init 20 = .ok (.aload_n 0, 1) := by decide +kernel
theorem dX3_init_21 : decode cX3_init 21 = .ok (.iconst 0, 1) := by decide +kernel
theorem dX3_init_22 : decode cX3_init 22 = .ok (.putfield 18, 3) := by decide +kernel
theorem dX3_init_25 : decode cX3_init 25 = .ok (.return_, 1) := by decide +kernel
theorem dX3_addNote_0 : decode cX3_addNote 0 = .ok (.aload_n 0, 1) := by decide +kernel
theorem dX3_addNote_1 : decode cX3_addNote 1 = .ok (.getfield 9, 3) := by decide +kernel
theorem dX3_addNote_4 : decode cX3_addNote 4 = .ok (.aload_n 0, 1) := by decide +kernel
theorem dX3_addNote_5 : decode cX3_addNote 5 = .ok (.getfield 18, 3) := by decide +kernel
theorem dX3_addNote_8 : decode cX3_addNote 8 = .ok (.iload_n 1, 1) := by decide +kernel
theorem dX3_addNote_9 : decode cX3_addNote 9 = .ok (.iastore, 1) := by decide +kernel
theorem dX3_addNote_10 : decode cX3_addNote 10 = .ok (.aload_n 0, 1) := by decide +kernel
theorem dX3_addNote_11 : decode cX3_addNote 11 = .ok (.getfield 15, 3) := by decide +kernel
theorem dX3_addNote_14 : decode cX3_addNote 14 = .ok (.aload_n 0, 1) := by decide +kernel
theorem dX3_addNote_15 : decode cX3_addNote 15 = .ok (.getfield 18, 3) := by decide +kernel
theorem dX3_addNote_18 : decode cX3_addNote 18 = .ok (.iload_n 2, 1) := by decide +kernel
theorem dX3_addNote_19 : decode cX3_addNote 19 = .ok (.iastore, 1) := by decide +kernel
theorem dX3_addNote_20 : decode cX3_addNote 20 = .ok (.aload_n 0, 1) := by decide +kernel
theorem dX3_addNote_21 : decode cX3_addNote 21 = .ok (.dup, 1) := by decide +kernel
theorem dX3_addNote_22 : decode cX3_addNote 22 = .ok (.getfield 18, 3) := by decide +kernel
theorem dX3_addNote_25 : decode cX3_addNote 25 = .ok (.iconst 1, 1) := by decide +kernel
theorem dX3_addNote_26 : decode cX3_addNote 26 = .ok (.iadd, 1) := by decide +kernel
theorem dX3_addNote_27 : decode cX3_addNote 27 = .ok (.putfield 18, 3) := by decide +kernel
theorem dX3_addNote_30 : decode cX3_addNote 30 = .ok (.aload_n 0, 1) := by decide +kernel
theorem dX3_addNote_31 : decode cX3_addNote 31 = .ok (.getfield 18, 3) := by decide +kernel
theorem dX3_addNote_34 : decode cX3_addNote 34 = .ok (.ireturn, 1) := by decide +kernel
theorem dX4_init_0 : decode cX4_init 0 = .ok (.aload_n 0, 1) := by decide +kernel
theorem dX4_init_1 : decode cX4_init 1 = .ok (.invokespecial 3, 3) := by decide +kernel
theorem dX4_init_4 : decode cX4_init 4 = .ok (.aload_n 0, 1) := by decide +kernel
theorem dX4_init_5 : decode cX4_init 5 = .ok (.bipush 120, 2) := by decide +kernel
theorem dX4_init_7 : decode cX4_init 7 = .ok (.newarray .int, 2) := by decide +kernel
theorem dX4_init_9 : decode cX4_init 9 = .ok (.putfield 9, 3) := by decide +kernel
theorem dX4_init_12 : decode cX4_init 12 = .ok (.aload_n 0, 1) := by decide +kernel
theorem dX4_init_13 : decode cX4_init 13 = .ok (.iconst 0, 1) := by decide +kernel
theorem dX4_init_14 : decode cX4_init 14 = .ok (.putfield 15, 3) := by decide +kernel
theorem dX4_init_17 : decode cX4_init 17 = .ok (.aload_n 0, 1) := by decide +kernel
theorem dX4_init_18 : decode cX4_init 18 = .ok (.iconst 0, 1) := by decide +kernel
theorem dX4_init_19 : decode cX4_init 19 = .ok (.putfield 19, 3) := by decide +kernel
theorem dX4_init_22 : decode cX4_init 22 = .ok (.return_, 1) := by decide +kernel
theorem dX4_startAnew_0 : decode cX4_startAnew 0 = .ok (.aload_n 0, 1) := by decide +kernel
theorem dX4_startAnew_1 : decode cX4_startAnew 1 = .ok (.getfield 15, 3) := by decide +kernel
theorem dX4_startAnew_4 : decode cX4_startAnew 4 = .ok (.istore_n 2, 1) := by decide +kernel
theorem dX4_startAnew_5 : decode cX4_startAnew 5 = .ok (.aload_n 0, 1) := by decide +kernel
theorem dX4_startAnew_6 : decode cX4_startAnew 6 = .ok (.iconst 0, 1) := by decide +kernel
theorem dX4_startAnew_7 : decode cX4_startAnew 7 = .ok (.putfield 15, 3) := by decide +kernel
theorem dX4_startAnew_10 : decode cX4_startAnew 10 = .ok (.aload_n 0, 1) := by decide +kernel
theorem dX4_startAnew_11 : decode cX4_startAnew 11 = .ok (.iload_n 1, 1) := by decide +kernel
theorem dX4_startAnew_12 : decode cX4_startAnew 12 = .ok (.putfield 19, 3) := by decide +kernel
theorem dX4_startAnew_15 : decode cX4_startAnew 15 = .ok (.iload_n 2, 1) := by decide +kernel
theorem dX4_startAnew_16 : decode cX4_startAnew 16 = .ok (.ireturn, 1) := by decide +kernel
theorem dX4_addReadings_0 : decode cX4_addReadings 0 = .ok (.iconst 0, 1) := by decide +kernel
theorem dX4_addReadings_1 : decode cX4_addReadings 1 = .ok (.istore_n 3, 1) := by decide +kernel
theorem dX4_addReadings_2 : decode cX4_addReadings 2 = .ok (.iload_n 3, 1) := by decide +kernel
theorem dX4_addReadings_3 : decode cX4_addReadings 3 = .ok (.iload_n 2, 1) := by decide +kernel
theorem dX4_addReadings_4 : decode cX4_addReadings 4 = .ok (.if_icmp .ge 29, 3) := by decide +kernel
theorem dX4_addReadings_7 : decode cX4_addReadings 7 = .ok (.aload_n 0, 1) := by decide +kernel
theorem dX4_addReadings_8 : decode cX4_addReadings 8 = .ok (.getfield 9, 3) := by decide +kernel
theorem dX4_addReadings_11 : decode cX4_addReadings 11 = .ok (.aload_n 0, 1) := by decide +kernel
theorem dX4_addReadings_12 : decode cX4_addReadings 12 = .ok (.getfield 15, 3) := by decide +kernel
theorem dX4_addReadings_15 : decode cX4_addReadings 15 = .ok (.iload_n 1, 1) := by decide +kernel
theorem dX4_addReadings_16 : decode cX4_addReadings 16 = .ok (.iastore, 1) := by decide +kernel
theorem dX4_addReadings_17 : decode cX4_addReadings 17 = .ok (.aload_n 0, 1) := by decide +kernel
theorem dX4_addReadings_18 : decode cX4_addReadings 18 = .ok (.dup, 1) := by decide +kernel
theorem dX4_addReadings_19 : decode cX4_addReadings 19 = .ok (.getfield 15, 3) := by decide +kernel
theorem dX4_addReadings_22 : decode cX4_addReadings 22 = .ok (.iconst 1, 1) := by decide +kernel
theorem dX4_addReadings_23 : decode cX4_addReadings 23 = .ok (.iadd, 1) := by decide +kernel
theorem dX4_addReadings_24 : decode cX4_addReadings 24 = .ok (.putfield 15, 3) := by decide +kernel
theorem dX4_addReadings_27 : decode cX4_addReadings 27 = .ok (.iinc 3 1, 3) := by decide +kernel
theorem dX4_addReadings_30 : decode cX4_addReadings 30 = .ok (.goto (-28), 3) := by decide +kernel
theorem dX4_addReadings_33 : decode cX4_addReadings 33 = .ok (.aload_n 0, 1) := by decide +kernel
theorem dX4_addReadings_34 : decode cX4_addReadings 34 = .ok (.getfield 15, 3) := by decide +kernel
theorem dX4_addReadings_37 : decode cX4_addReadings 37 = .ok (.ireturn, 1) := by decide +kernel
theorem dX5_init_0 : decode cX5_init 0 = .ok (.aload_n 0, 1) := by decide +kernel
theorem dX5_init_1 : decode cX5_init 1 = .ok (.invokespecial 3, 3) := by decide +kernel
theorem dX5_init_4 : decode cX5_init 4 = .ok (.aload_n 0, 1) := by decide +kernel
theorem dX5_init_5 : decode cX5_init 5 = .ok (.bipush 60, 2) := by decide +kernel
theorem dX5_init_7 : decode cX5_init 7 = .ok (.newarray .int, 2) := by decide +kernel
theorem dX5_init_9 : decode cX5_init 9 = .ok (.putfield 9, 3) := by decide +kernel
theorem dX5_init_12 : decode cX5_init 12 = .ok (.aload_n 0, 1) := by decide +kernel
theorem dX5_init_13 : decode cX5_init 13 = .ok (.bipush 60, 2) := by decide +kernel
theorem dX5_init_15 : decode cX5_init 15 = .ok (.newarray .int, 2) := by decide +kernel
theorem dX5_init_17 : decode cX5_init 17 = .ok (.putfield 15, 3) := by decide +kernel
theorem dX5_init_20 : decode cX5_init 20 = .ok (.aload_n 0, 1) := by decide +kernel
theorem dX5_init_21 : decode cX5_init 21 = .ok (.bipush 60, 2) := by decide +kernel
theorem dX5_init_23 : decode cX5_init 23 = .ok (.newarray .int, 2) := by decide +kernel
theorem dX5_init_25 : decode cX5_init 25 = .ok (.putfield 18, 3) := by decide +kernel
theorem dX5_init_28 : decode cX5_init 28 = .ok (.aload_n 0, 1) := by decide +kernel
theorem dX5_init_29 : decode cX5_init 29 = .ok (.bipush 60, 2) := by decide +kernel
theorem dX5_init_31 : decode cX5_init 31 = .ok (.newarray .int, 2) := by decide +kernel
theorem dX5_init_33 : decode cX5_init 33 = .ok (.putfield 21, 3) := by decide +kernel
theorem dX5_init_36 : decode cX5_init 36 = .ok (.aload_n 0, 1) := by decide +kernel
theorem dX5_init_37 : decode cX5_init 37 = .ok (.iconst 0, 1) := by decide +kernel
theorem dX5_init_38 : decode cX5_init 38 = .ok (.putfield 24, 3) := by decide +kernel
theorem dX5_init_41 : decode cX5_init 41 = .ok (.return_, 1) := by decide +kernel
theorem dX5_addSpan_0 : decode cX5_addSpan 0 = .ok (.aload_n 0, 1) := by decide +kernel
theorem dX5_addSpan_1 : decode cX5_addSpan 1 = .ok (.getfield 9, 3) := by decide +kernel
theorem dX5_addSpan_4 : decode cX5_addSpan 4 = .ok (.aload_n 0, 1) := by decide +kernel
theorem dX5_addSpan_5 : decode cX5_addSpan 5 = .ok (.getfield 24, 3) := by decide +kernel
theorem dX5_addSpan_8 : decode cX5_addSpan 8 = .ok (.iload_n 1, 1) := by decide +kernel
theorem dX5_addSpan_9 : decode cX5_addSpan 9 = .ok (.iastore, 1) := by decide +kernel
theorem dX5_addSpan_10 : decode cX5_addSpan 10 = .ok (.aload_n 0, 1) := by decide +kernel
theorem dX5_addSpan_11 : decode cX5_addSpan 11 = .ok (.getfield 15, 3) := by decide +kernel
theorem dX5_addSpan_14 : decode cX5_addSpan 14 = .ok (.aload_n 0, 1) := by decide +kernel
theorem dX5_addSpan_15 : decode cX5_addSpan 15 = .ok (.getfield 24, 3) := by decide +kernel
theorem dX5_addSpan_18 : decode cX5_addSpan 18 = .ok (.iload_n 2, 1) := by decide +kernel
theorem dX5_addSpan_19 : decode cX5_addSpan 19 = .ok (.iastore, 1) := by decide +kernel
theorem dX5_addSpan_20 : decode cX5_addSpan 20 = .ok (.aload_n 0, 1) := by decide +kernel
theorem dX5_addSpan_21 : decode cX5_addSpan 21 = .ok (.getfield 18, 3) := by decide +kernel
theorem dX5_addSpan_24 : decode cX5_addSpan 24 = .ok (.aload_n 0, 1) := by decide +kernel
theorem dX5_addSpan_25 : decode cX5_addSpan 25 = .ok (.getfield 24, 3) := by decide +kernel
theorem dX5_addSpan_28 : decode cX5_addSpan 28 = .ok (.iload_n 3, 1) := by decide +kernel
theorem dX5_addSpan_29 : decode cX5_addSpan 29 = .ok (.iastore, 1) := by decide +kernel
theorem dX5_addSpan_30 : decode cX5_addSpan 30 = .ok (.aload_n 0, 1) := by decide +kernel
theorem dX5_addSpan_31 : decode cX5_addSpan 31 = .ok (.getfield 21, 3) := by decide +kernel
theorem dX5_addSpan_34 : decode cX5_addSpan 34 = .ok (.aload_n 0, 1) := by decide +kernel
theorem dX5_addSpan_35 : decode cX5_addSpan 35 = .ok (.getfield 24, 3) := by decide +kernel
theorem dX5_addSpan_38 : decode cX5_addSpan 38 = .ok (.iload 4, 2) := by decide +kernel
theorem dX5_addSpan_40 : decode cX5_addSpan 40 = .ok (.iastore, 1) := by decide +kernel
theorem dX5_addSpan_41 : decode cX5_addSpan 41 = .ok (.aload_n 0, 1) := by decide +kernel
theorem dX5_addSpan_42 : decode cX5_addSpan 42 = .ok (.dup, 1) := by decide +kernel
theorem dX5_addSpan_43 : decode cX5_addSpan 43 = .ok (.getfield 24, 3) := by decide +kernel
theorem dX5_addSpan_46 : decode cX5_addSpan 46 = .ok (.iconst 1, 1) := by decide +kernel
theorem dX5_addSpan_47 : decode cX5_addSpan 47 = .ok (.iadd, 1) := by decide +kernel
theorem dX5_addSpan_48 : decode cX5_addSpan 48 = .ok (.putfield 24, 3) := by decide +kernel
theorem dX5_addSpan_51 : decode cX5_addSpan 51 = .ok (.aload_n 0, 1) := by decide +kernel
theorem dX5_addSpan_52 : decode cX5_addSpan 52 = .ok (.getfield 24, 3) := by decide +kernel
theorem dX5_addSpan_55 : decode cX5_addSpan 55 = .ok (.ireturn, 1) := by decide +kernel
theorem dX5_findSingers_0 : decode cX5_findSingers 0 = .ok (.iconst 0, 1) := by decide +kernel
theorem dX5_findSingers_1 : decode cX5_findSingers 1 = .ok (.istore_n 3, 1) := by decide +kernel
theorem dX5_findSingers_2 : decode cX5_findSingers 2 = .ok (.iconst 0, 1) := by decide +kernel
theorem dX5_findSingers_3 : decode cX5_findSingers 3 = .ok (.istore 4, 2) := by decide +kernel
theorem dX5_findSingers_5 : decode cX5_findSingers 5 = .ok (.iload 4, 2) := by decide +kernel
theorem dX5_findSingers_7 : decode cX5_findSingers 7 = .ok (.aload_n 0, 1) := by decide +kernel
theorem dX5_findSingers_8 : decode cX5_findSingers 8 = .ok (.getfield 24, 3) := by decide +kernel
theorem dX5_findSingers_11 : decode cX5_findSingers 11 = .ok (.if_icmp .ge 53, 3) := by decide +kernel
theorem dX5_findSingers_14 : decode cX5_findSingers 14 = .ok (.aload_n 0, 1) := by decide +kernel
theorem dX5_findSingers_15 : decode cX5_findSingers 15 = .ok (.getfield 15, 3) := by decide +kernel
theorem dX5_findSingers_18 : decode cX5_findSingers 18 = .ok (.iload 4, 2) := by decide +kernel
theorem dX5_findSingers_20 : decode cX5_findSingers 20 = .ok (.iaload, 1) := by decide +kernel
theorem dX5_findSingers_21 : decode cX5_findSingers 21 = .ok (.iload_n 1, 1) := by decide +kernel
theorem dX5_findSingers_22 : decode cX5_findSingers 22 = .ok (.if_icmp .ne 36, 3) := by decide +kernel
theorem dX5_findSingers_25 : decode cX5_findSingers 25 = .ok (.iload_n 2, 1) := by decide +kernel
theorem dX5_findSingers_26 : decode cX5_findSingers 26 = .ok (.aload_n 0, 1) := by decide +kernel
theorem dX5_findSingers_27 : decode cX5_findSingers 27 = .ok (.getfield 18, 3) := by decide +kernel
theorem dX5_findSingers_30 : decode cX5_findSingers 30 = .ok (.iload 4, 2) := by decide +kernel
theorem dX5_findSingers_32 : decode cX5_findSingers 32 = .ok (.iaload, 1) := by decide +kernel
theorem dX5_findSingers_33 : decode cX5_findSingers 33 = .ok (.aload_n 0, 1) := by decide +kernel
theorem dX5_findSingers_34 : decode cX5_findSingers 34 = .ok (.getfield 21, 3) := by decide +kernel
theorem dX5_findSingers_37 : decode cX5_findSingers 37 = .ok (.iload 4, 2) := by decide +kernel
theorem dX5_findSingers_39 : decode cX5_findSingers 39 = .ok (.iaload, 1) := by decide +kernel
theorem dX5_findSingers_40 : decode cX5_findSingers 40 = .ok (.invokestatic 28, 3) := by decide +kernel
theorem dX5_findSingers_43 : decode cX5_findSingers 43 = .ok (.ifCond .eq 15, 3) := by decide +kernel
theorem dX5_findSingers_46 : decode cX5_findSingers 46 = .ok (.iload_n 3, 1) := by decide +kernel
theorem dX5_findSingers_47 : decode cX5_findSingers 47 = .ok (.iconst 1, 1) := by decide +kernel
theorem dX5_findSingers_48 : decode cX5_findSingers 48 = .ok (.aload_n 0, 1) := by decide +kernel
theorem dX5_findSingers_49 : decode cX5_findSingers 49 = .ok (.getfield 9, 3) := by decide +kernel
theorem dX5_findSingers_52 : decode cX5_findSingers 52 = .ok (.iload 4, 2) := by decide +kernel
theorem dX5_findSingers_54 : decode cX5_findSingers 54 = .ok (.iaload, 1) := by decide +kernel
theorem dX5_findSingers_55 : decode cX5_findSingers 55 = .ok (.ishl, 1) := by decide +kernel
theorem dX5_findSingers_56 : decode cX5_findSingers 56 = .ok (.ior, 1) := by decide +kernel
theorem dX5_findSingers_57 : decode cX5_findSingers 57 = .ok (.istore_n 3, 1) := by decide +kernel
theorem dX5_findSingers_58 : decode cX5_findSingers 58 = .ok (.iinc 4 1, 3) := by decide +kernel
theorem dX5_findSingers_61 : decode cX5_findSingers 61 = .ok (.goto (-56), 3) := by decide +kernel
theorem dX5_findSingers_64 : decode cX5_findSingers 64 = .ok (.iload_n 3, 1) := by decide +kernel
theorem dX5_findSingers_65 : decode cX5_findSingers 65 = .ok (.ireturn, 1) := by decide +kernel
theorem dX6_init_0 : decode cX6_init 0 = .ok (.aload_n 0, 1) := by decide +kernel
theorem dX6_init_1 : decode cX6_init 1 = .ok (.invokespecial 3, 3) := by decide +kernel
theorem dX6_init_4 : decode cX6_init 4 = .ok (.aload_n 0, 1) := by decide +kernel
theorem dX6_init_5 : decode cX6_init 5 = .ok (.bipush 12, 2) := by decide +kernel
theorem dX6_init_7 : decode cX6_init 7 = .ok (.newarray .int, 2) := by decide +kernel
theorem dX6_init_9 : decode cX6_init 9 = .ok (.putfield 9, 3) := by decide +kernel
theorem dX6_init_12 : decode cX6_init 12 = .ok (.aload_n 0, 1) := by decide +kernel
theorem dX6_init_13 : decode cX6_init 13 = .ok (.iconst 0, 1) := by decide +kernel
theorem dX6_init_14 : decode cX6_init 14 = .ok (.putfield 15, 3) := by decide +kernel
theorem dX6_init_17 : decode cX6_init 17 = .ok (.aload_n 0, 1) := by decide +kernel
theorem dX6_init_18 : decode cX6_init 18 = .ok (.iconst 2, 1) := by decide +kernel
theorem dX6_init_19 : decode cX6_init 19 = .ok (.putfield 19, 3) := by decide +kernel
theorem dX6_init_22 : decode cX6_init 22 = .ok (.aload_n 0, 1) := by decide +kernel
theorem dX6_init_23 : decode cX6_init 23 = .ok (.iconst 0, 1) := by decide +kernel
theorem dX6_init_24 : decode cX6_init 24 = .ok (.putfield 22, 3) := by decide +kernel
theorem dX6_init_27 : decode cX6_init 27 = .ok (.aload_n 0, 1) := by decide +kernel
theorem dX6_init_28 : decode cX6_init 28 = .ok (.bipush 12, 2) := by decide +kernel
theorem dX6_init_30 : decode cX6_init 30 = .ok (.newarray .int, 2) := by decide +kernel
theorem dX6_init_32 : decode cX6_init 32 = .ok (.putfield 25, 3) := by decide +kernel
theorem dX6_init_35 : decode cX6_init 35 = .ok (.aload_n 0, 1) := by decide +kernel
theorem dX6_init_36 : decode cX6_init 36 = .ok (.bipush 12, 2) := by decide +kernel
theorem dX6_init_38 : decode cX6_init 38 = .ok (.newarray .int, 2) := by decide +kernel
theorem dX6_init_40 : decode cX6_init 40 = .ok (.putfield 28, 3) := by decide +kernel
theorem dX6_init_43 : decode cX6_init 43 = .ok (.aload_n 0, 1) := by decide +kernel
theorem dX6_init_44 : decode cX6_init 44 = .ok (.bipush 12, 2) := by decide +kernel
theorem dX6_init_46 : decode cX6_init 46 = .ok (.newarray .int, 2) := by decide +kernel
theorem dX6_init_48 : decode cX6_init 48 = .ok (.putfield 31, 3) := by decide +kernel
theorem dX6_init_51 : decode cX6_init 51 = .ok (.aload_n 0, 1) := by decide +kernel
theorem dX6_init_52 : decode cX6_init 52 = .ok (.bipush 12, 2) := by decide +kernel
theorem dX6_init_54 : decode cX6_init 54 = .ok (.newarray .int, 2) := by decide +kernel
theorem dX6_init_56 : decode cX6_init 56 = .ok (.putfield 34, 3) := by decide +kernel
theorem dX6_init_59 : decode cX6_init 59 = .ok (.return_, 1) := by decide +kernel
theorem dX6_addPerformance_0 : decode cX6_addPerformance 0 = .ok (.aload_n 0, 1) := by decide +kernel
theorem dX6_addPerformance_1 : decode cX6_addPerformance 1 = .ok (.getfield 25, 3) := by decide +kernel
theorem dX6_addPerformance_4 : decode cX6_addPerformance 4 = .ok (.aload_n 0, 1) := by decide +kernel
theorem dX6_addPerformance_5 : decode cX6_addPerformance 5 = .ok (.getfield 15, 3) := by decide +kernel
theorem dX6_addPerformance_8 : decode cX6_addPerformance 8 = .ok (.iload_n 1, 1) := by decide +kernel
theorem dX6_addPerformance_9 : decode cX6_addPerformance 9 = .ok (.iastore, 1) := by decide +kernel
theorem dX6_addPerformance_10 : decode cX6_addPerformance 10 = .ok (.aload_n 0, 1) := by decide +kernel
theorem dX6_addPerformance_11 : decode cX6_addPerformance 11 = .ok (.dup, 1) := by decide +kernel
theorem dX6_addPerformance_12 : decode cX6_addPerformance 12 = .ok (.getfield 15, 3) := by decide +kernel
theorem dX6_addPerformance_15 : decode cX6_addPerformance 15 = .ok (.iconst 1, 1) := by decide +kernel
theorem dX6_addPerformance_16 : decode cX6_addPerformance 16 = .ok (.iadd, 1) := by decide +kernel
theorem dX6_addPerformance_17 : decode cX6_addPerformance 17 = .ok (.putfield 15, 3) := by decide +kernel
theorem dX6_addPerformance_20 : decode cX6_addPerformance 20 = .ok (.aload_n 0, 1) := by decide +kernel
theorem dX6_addPerformance_21 : decode cX6_addPerformance 21 = .ok (.getfield 15, 3) := by decide +kernel
theorem dX6_addPerformance_24 : decode cX6_addPerformance 24 = .ok (.iconst 1, 1) := by decide +kernel
theorem dX6_addPerformance_25 : decode cX6_addPerformance 25 = .ok (.isub, 1) := by decide +kernel
theorem dX6_addPerformance_26 : decode cX6_addPerformance 26 = .ok (.ireturn, 1) := by decide +kernel
theorem dX6_findHours_0 : decode cX6_findHours 0 = .ok (.aload_n 0, 1) := by decide +kernel
theorem dX6_findHours_1 : decode cX6_findHours 1 = .ok (.aload_n 1, 1) := by decide +kernel
theorem dX6_findHours_2 : decode cX6_findHours 2 = .ok (.iload_n 2, 1) := by decide +kernel
theorem dX6_findHours_3 : decode cX6_findHours 3 = .ok (.invokevirtual 37, 3) := by decide +kernel
theorem dX6_findHours_6 : decode cX6_findHours 6 = .ok (.aload_n 0, 1) := by decide +kernel
theorem dX6_findHours_7 : decode cX6_findHours 7 = .ok (.aload_n 0, 1) := by decide +kernel
theorem dX6_findHours_8 : decode cX6_findHours 8 = .ok (.getfield 15, 3) := by decide +kernel
theorem dX6_findHours_11 : decode cX6_findHours 11 = .ok (.putfield 22, 3) := by decide +kernel
theorem dX6_findHours_14 : decode cX6_findHours 14 = .ok (.aload_n 0, 1) := by decide +kernel
theorem dX6_findHours_15 : decode cX6_findHours 15 = .ok (.invokevirtual 41, 3) := by decide +kernel
theorem dX6_findHours_18 : decode cX6_findHours 18 = .ok (.istore_n 3, 1) := by decide +kernel
theorem dX6_findHours_19 : decode cX6_findHours 19 = .ok (.iload_n 3, 1) := by decide +kernel
theorem dX6_findHours_20 : decode cX6_findHours 20 = .ok (.aload_n 0, 1) := by decide +kernel
theorem dX6_findHours_21 : decode cX6_findHours 21 = .ok (.getfield 15, 3) := by decide +kernel
theorem dX6_findHours_24 : decode cX6_findHours 24 = .ok (.if_icmp .ge 34, 3) := by decide +kernel
theorem dX6_findHours_27 : decode cX6_findHours 27 = .ok (.iload_n 3, 1) := by decide +kernel
theorem dX6_findHours_28 : decode cX6_findHours 28 = .ok (.aload_n 0, 1) := by decide +kernel
theorem dX6_findHours_29 : decode cX6_findHours 29 = .ok (.getfield 19, 3) := by decide +kernel
theorem dX6_findHours_32 : decode cX6_findHours 32 = .ok (.imul, 1) := by decide +kernel
theorem dX6_findHours_33 : decode cX6_findHours 33 = .ok (.aload_n 0, 1) := by decide +kernel
theorem dX6_findHours_34 : decode cX6_findHours 34 = .ok (.getfield 15, 3) := by decide +kernel
theorem dX6_findHours_37 : decode cX6_findHours 37 = .ok (.if_icmp .lt 15, 3) := by decide +kernel
theorem dX6_findHours_40 : decode cX6_findHours 40 = .ok (.aload_n 0, 1) := by decide +kernel
theorem dX6_findHours_41 : decode cX6_findHours 41 = .ok (.iconst 0, 1) := by decide +kernel
theorem dX6_findHours_42 : decode cX6_findHours 42 = .ok (.iconst 0, 1) := by decide +kernel
theorem dX6_findHours_43 : decode cX6_findHours 43 = .ok (.iload_n 3, 1) := by decide +kernel
theorem dX6_findHours_44 : decode cX6_findHours 44 = .ok (.invokevirtual 45, 3) := by decide +kernel
theorem dX6_findHours_47 : decode cX6_findHours 47 = .ok (.ifCond .eq 5, 3) := by decide +kernel
theorem dX6_findHours_50 : decode cX6_findHours 50 = .ok (.iload_n 3, 1) := by decide +kernel
theorem dX6_findHours_51 : decode cX6_findHours 51 = .ok (.ireturn, 1) := by decide +kernel
theorem dX6_findHours_52 : decode cX6_findHours 52 = .ok (.iinc 3 1, 3) := by decide +kernel
theorem dX6_findHours_55 : decode cX6_findHours 55 = .ok (.goto (-36), 3) := by decide +kernel
theorem dX6_findHours_58 : decode cX6_findHours 58 = .ok (.aload_n 0, 1) := by decide +kernel
theorem dX6_findHours_59 : decode cX6_findHours 59 = .ok (.iconst 0, 1) := by decide +kernel
theorem dX6_findHours_60 : decode cX6_findHours 60 = .ok (.iconst 0, 1) := by decide +kernel
theorem dX6_findHours_61 : decode cX6_findHours 61 = .ok (.aload_n 0, 1) := by decide +kernel
theorem dX6_findHours_62 : decode cX6_findHours 62 = .ok (.getfield 15, 3) := by decide +kernel
theorem dX6_findHours_65 : decode cX6_findHours 65 = .ok (.invokevirtual 45, 3) := by decide +kernel
theorem dX6_findHours_68 : decode cX6_findHours 68 = .ok (.pop, 1) := by decide +kernel
theorem dX6_findHours_69 : decode cX6_findHours 69 = .ok (.aload_n 0, 1) := by decide +kernel
theorem dX6_findHours_70 : decode cX6_findHours 70 = .ok (.getfield 15, 3) := by decide +kernel
theorem dX6_findHours_73 : decode cX6_findHours 73 = .ok (.ireturn, 1) := by decide +kernel
theorem dX6_countNeeded_0 : decode cX6_countNeeded 0 = .ok (.iconst 0, 1) := by decide +kernel
theorem dX6_countNeeded_1 : decode cX6_countNeeded 1 = .ok (.istore_n 1, 1) := by decide +kernel
theorem dX6_countNeeded_2 : decode cX6_countNeeded 2 = .ok (.iconst 0, 1) := by decide +kernel
theorem dX6_countNeeded_3 : decode cX6_countNeeded 3 = .ok (.istore_n 2, 1) := by decide +kernel
theorem dX6_countNeeded_4 : decode cX6_countNeeded 4 = .ok (.iload_n 2, 1) := by decide +kernel
theorem dX6_countNeeded_5 : decode cX6_countNeeded 5 = .ok (.aload_n 0, 1) := by decide +kernel
theorem dX6_countNeeded_6 : decode cX6_countNeeded 6 = .ok (.getfield 15, 3) := by decide +kernel
theorem dX6_countNeeded_9 : decode cX6_countNeeded 9 = .ok (.if_icmp .ge 61, 3) := by decide +kernel
theorem dX6_countNeeded_12 : decode cX6_countNeeded 12 = .ok (.iconst 1, 1) := by decide +kernel
theorem dX6_countNeeded_13 : decode cX6_countNeeded 13 = .ok (.iload_n 2, 1) := by decide +kernel
theorem dX6_countNeeded_14 : decode cX6_countNeeded 14 = .ok (.ishl, 1) := by decide +kernel
theorem dX6_countNeeded_15 : decode cX6_countNeeded 15 = .ok (.istore_n 3, 1) := by decide +kernel
theorem dX6_countNeeded_16 : decode cX6_countNeeded 16 = .ok (.iconst 0, 1) := by decide +kernel
theorem dX6_countNeeded_17 : decode cX6_countNeeded 17 = .ok (.istore 4, 2) := by decide +kernel
theorem dX6_countNeeded_19 : decode cX6_countNeeded 19 = .ok (.iload 4, 2) := by decide +kernel
theorem dX6_countNeeded_21 : decode cX6_countNeeded 21 = .ok (.aload_n 0, 1) := by decide +kernel
theorem dX6_countNeeded_22 : decode cX6_countNeeded 22 = .ok (.getfield 15, 3) := by decide +kernel
theorem dX6_countNeeded_25 : decode cX6_countNeeded 25 = .ok (.if_icmp .ge 30, 3) := by decide +kernel
theorem dX6_countNeeded_28 : decode cX6_countNeeded 28 = .ok (.iload_n 3, 1) := by decide +kernel
theorem dX6_countNeeded_29 : decode cX6_countNeeded 29 = .ok (.aload_n 0, 1) := by decide +kernel
theorem dX6_countNeeded_30 : decode cX6_countNeeded 30 = .ok (.getfield 31, 3) := by decide +kernel
theorem dX6_countNeeded_33 : decode cX6_countNeeded 33 = .ok (.iload 4, 2) := by decide +kernel
theorem dX6_countNeeded_35 : decode cX6_countNeeded 35 = .ok (.iaload, 1) := by decide +kernel
theorem dX6_countNeeded_36 : decode cX6_countNeeded 36 = .ok (.iconst (-1), 1) := by decide +kernel
theorem dX6_countNeeded_37 : decode cX6_countNeeded 37 = .ok (.ixor, 1) := by decide +kernel
theorem dX6_countNeeded_38 : decode cX6_countNeeded 38 = .ok (.iand, 1) := by decide +kernel
theorem dX6_countNeeded_39 : decode cX6_countNeeded 39 = .ok (.ifCond .ne 10, 3) := by decide +kernel
theorem dX6_countNeeded_42 : decode cX6_countNeeded 42 = .ok (.iload_n 3, 1) := by decide +kernel
theorem dX6_countNeeded_43 : decode cX6_countNeeded 43 = .ok (.iconst 1, 1) := by decide +kernel
theorem dX6_countNeeded_44 : decode cX6_countNeeded 44 = .ok (.iload 4, 2) := by decide +kernel
theorem dX6_countNeeded_46 : decode cX6_countNeeded 46 = .ok (.ishl, 1) := by decide +kernel
theorem dX6_countNeeded_47 : decode cX6_countNeeded 47 = .ok (.ior, 1) := by decide +kernel
theorem dX6_countNeeded_48 : decode cX6_countNeeded 48 = .ok (.istore_n 3, 1) := by decide +kernel
theorem dX6_countNeeded_49 : decode cX6_countNeeded 49 = .ok (.iinc 4 1, 3) := by decide +kernel
theorem dX6_countNeeded_52 : decode cX6_countNeeded 52 = .ok (.goto (-33), 3) := by decide +kernel
theorem dX6_countNeeded_55 : decode cX6_countNeeded 55 = .ok (.iload_n 1, 1) := by decide +kernel
theorem dX6_countNeeded_56 : decode cX6_countNeeded 56 = .ok (.iload_n 3, 1) := by decide +kernel
theorem dX6_countNeeded_57 : decode cX6_countNeeded 57 = .ok (.invokestatic 49, 3) := by decide +kernel
theorem dX6_countNeeded_60 : decode cX6_countNeeded 60 = .ok (.invokestatic 55, 3) := by decide +kernel
theorem dX6_countNeeded_63 : decode cX6_countNeeded 63 = .ok (.istore_n 1, 1) := by decide +kernel
theorem dX6_countNeeded_64 : decode cX6_countNeeded 64 = .ok (.iinc 2 1, 3) := by decide +kernel
theorem dX6_countNeeded_67 : decode cX6_countNeeded 67 = .ok (.goto (-63), 3) := by decide +kernel
theorem dX6_countNeeded_70 : decode cX6_countNeeded 70 = .ok (.iload_n 1, 1) := by decide +kernel
theorem dX6_countNeeded_71 : decode cX6_countNeeded 71 = .ok (.ireturn, 1) := by decide +kernel
theorem dX6_findClashes_0 : decode cX6_findClashes 0 = .ok (.iconst 0, 1) := by decide +kernel
theorem dX6_findClashes_1 : decode cX6_findClashes 1 = .ok (.istore_n 3, 1) := by decide +kernel
theorem dX6_findClashes_2 : decode cX6_findClashes 2 = .ok (.iload_n 3, 1) := by decide +kernel
theorem dX6_findClashes_3 : decode cX6_findClashes 3 = .ok (.aload_n 0, 1) := by decide +kernel
theorem dX6_findClashes_4 : decode cX6_findClashes 4 = .ok (.getfield 15, 3) := by decide +kernel
theorem dX6_findClashes_7 : decode cX6_findClashes 7 = .ok (.if_icmp .ge 114, 3) := by decide +kernel
theorem dX6_findClashes_10 : decode cX6_findClashes 10 = .ok (.aload_n 0, 1) := by decide +kernel
theorem dX6_findClashes_11 : decode cX6_findClashes 11 = .ok (.getfield 28, 3) := by decide +kernel
theorem dX6_findClashes_14 : decode cX6_findClashes 14 = .ok (.iload_n 3, 1) := by decide +kernel
theorem dX6_findClashes_15 : decode cX6_findClashes 15 = .ok (.aload_n 1, 1) := by decide +kernel
theorem dX6_findClashes_16 : decode cX6_findClashes 16 = .ok (.aload_n 0, 1) := by decide +kernel
theorem dX6_findClashes_17 : decode cX6_findClashes 17 = .ok (.getfield 25, 3) := by decide +kernel
theorem dX6_findClashes_20 : decode cX6_findClashes 20 = .ok (.iload_n 3, 1) := by decide +kernel
theorem dX6_findClashes_21 : decode cX6_findClashes 21 = .ok (.iaload, 1) := by decide +kernel
theorem dX6_findClashes_22 : decode cX6_findClashes 22 = .ok (.iload_n 2, 1) := by decide +kernel
theorem dX6_findClashes_23 : decode cX6_findClashes 23 = .ok (.invokevirtual 61, 3) := by decide +kernel
theorem dX6_findClashes_26 : decode cX6_findClashes 26 = .ok (.iastore, 1) := by decide +kernel
theorem dX6_findClashes_27 : decode cX6_findClashes 27 = .ok (.aload_n 0, 1) := by decide +kernel
theorem dX6_findClashes_28 : decode cX6_findClashes 28 = .ok (.getfield 31, 3) := by decide +kernel
theorem dX6_findClashes_31 : decode cX6_findClashes 31 = .ok (.iload_n 3, 1) := by decide +kernel
theorem dX6_findClashes_32 : decode cX6_findClashes 32 = .ok (.iconst 0, 1) := by decide +kernel
theorem dX6_findClashes_33 : decode cX6_findClashes 33 = .ok (.iastore, 1) := by decide +kernel
theorem dX6_findClashes_34 : decode cX6_findClashes 34 = .ok (.aload_n 0, 1) := by decide +kernel
theorem dX6_findClashes_35 : decode cX6_findClashes 35 = .ok (.getfield 34, 3) := by decide +kernel
theorem dX6_findClashes_38 : decode cX6_findClashes 38 = .ok (.iload_n 3, 1) := by decide +kernel
theorem dX6_findClashes_39 : decode cX6_findClashes 39 = .ok (.iconst 0, 1) := by decide +kernel
theorem dX6_findClashes_40 : decode cX6_findClashes 40 = .ok (.iastore, 1) := by decide +kernel
theorem dX6_findClashes_41 : decode cX6_findClashes 41 = .ok (.iconst 0, 1) := by decide +kernel
theorem dX6_findClashes_42 : decode cX6_findClashes 42 = .ok (.istore 4, 2) := by decide +kernel
theorem dX6_findClashes_44 : decode cX6_findClashes 44 = .ok (.iload 4, 2) := by decide +kernel
theorem dX6_findClashes_46 : decode cX6_findClashes 46 = .ok (.iload_n 3, 1) := by decide +kernel
theorem dX6_findClashes_47 : decode cX6_findClashes 47 = .ok (.if_icmp .ge 68, 3) := by decide +kernel
theorem dX6_findClashes_50 : decode cX6_findClashes 50 = .ok (.aload_n 0, 1) := by decide +kernel
theorem dX6_findClashes_51 : decode cX6_findClashes 51 = .ok (.getfield 25, 3) := by decide +kernel
theorem dX6_findClashes_54 : decode cX6_findClashes 54 = .ok (.iload 4, 2) := by decide +kernel
theorem dX6_findClashes_56 : decode cX6_findClashes 56 = .ok (.iaload, 1) := by decide +kernel
theorem dX6_findClashes_57 : decode cX6_findClashes 57 = .ok (.aload_n 0, 1) := by decide +kernel
theorem dX6_findClashes_58 : decode cX6_findClashes 58 = .ok (.getfield 25, 3) := by decide +kernel
theorem dX6_findClashes_61 : decode cX6_findClashes 61 = .ok (.iload_n 3, 1) := by decide +kernel
theorem dX6_findClashes_62 : decode cX6_findClashes 62 = .ok (.iaload, 1) := by decide +kernel
theorem dX6_findClashes_63 : decode cX6_findClashes 63 = .ok (.if_icmp .eq 20, 3) := by decide +kernel
theorem dX6_findClashes_66 : decode cX6_findClashes 66 = .ok (.aload_n 0, 1) := by decide +kernel
theorem dX6_findClashes_67 : decode cX6_findClashes 67 = .ok (.getfield 28, 3) := by decide +kernel
theorem dX6_findClashes_70 : decode cX6_findClashes 70 = .ok (.iload 4, 2) := by decide +kernel
theorem dX6_findClashes_72 : decode cX6_findClashes 72 = .ok (.iaload, 1) := by decide +kernel
theorem dX6_findClashes_73 : decode cX6_findClashes 73 = .ok (.aload_n 0, 1) := by decide +kernel
theorem dX6_findClashes_74 : decode cX6_findClashes 74 = .ok (.getfield 28, 3) := by decide +kernel
theorem dX6_findClashes_77 : decode cX6_findClashes 77 = .ok (.iload_n 3, 1) := by decide +kernel
theorem dX6_findClashes_78 : decode cX6_findClashes 78 = .ok (.iaload, 1) := by decide +kernel
theorem dX6_findClashes_79 : decode cX6_findClashes 79 = .ok (.iand, 1) := by decide +kernel
theorem dX6_findClashes_80 : decode cX6_findClashes 80 = .ok (.ifCond .eq 29, 3) := by decide +kernel
theorem dX6_findClashes_83 : decode cX6_findClashes 83 = .ok (.aload_n 0, 1) := by decide +kernel
theorem dX6_findClashes_84 : decode cX6_findClashes 84 = .ok (.getfield 31, 3) := by decide +kernel
theorem dX6_findClashes_87 : decode cX6_findClashes 87 = .ok (.iload_n 3, 1) := by decide +kernel
theorem dX6_findClashes_88 : decode cX6_findClashes 88 = .ok (.dup2, 1) := by decide +kernel
theorem dX6_findClashes_89 : decode cX6_findClashes 89 = .ok (.iaload, 1) := by decide +kernel
theorem dX6_findClashes_90 : decode cX6_findClashes 90 = .ok (.iconst 1, 1) := by decide +kernel
theorem dX6_findClashes_91 : decode cX6_findClashes 91 = .ok (.iload 4, 2) := by decide +kernel
theorem dX6_findClashes_93 : decode cX6_findClashes 93 = .ok (.ishl, 1) := by decide +kernel
theorem dX6_findClashes_94 : decode cX6_findClashes 94 = .ok (.ior, 1) := by decide +kernel
theorem dX6_findClashes_95 : decode cX6_findClashes 95 = .ok (.iastore, 1) := by decide +kernel
theorem dX6_findClashes_96 : decode cX6_findClashes 96 = .ok (.aload_n 0, 1) := by decide +kernel
theorem dX6_findClashes_97 : decode cX6_findClashes 97 = .ok (.getfield 31, 3) := by decide +kernel
theorem dX6_findClashes_100 : decode cX6_findClashes 100 = .ok (.iload 4, 2) := by decide +kernel
theorem dX6_findClashes_102 : decode cX6_findClashes 102 = .ok (.dup2, 1) := by decide +kernel
theorem dX6_findClashes_103 : decode cX6_findClashes 103 = .ok (.iaload, 1) := by decide +kernel
theorem dX6_findClashes_104 : decode cX6_findClashes 104 = .ok (.iconst 1, 1) := by decide +kernel
theorem dX6_findClashes_105 : decode cX6_findClashes 105 = .ok (.iload_n 3, 1) := by decide +kernel
theorem dX6_findClashes_106 : decode cX6_findClashes 106 = .ok (.ishl, 1) := by decide +kernel
theorem dX6_findClashes_107 : decode cX6_findClashes 107 = .ok (.ior, 1) := by decide +kernel
theorem dX6_findClashes_108 : decode cX6_findClashes 108 = .ok (.iastore, 1) := by decide +kernel
theorem dX6_findClashes_109 : decode cX6_findClashes 109 = .ok (.iinc 4 1, 3) := by decide +kernel
theorem dX6_findClashes_112 : decode cX6_findClashes 112 = .ok (.goto (-68), 3) := by decide +kernel
theorem dX6_findClashes_115 : decode cX6_findClashes 115 = .ok (.iinc 3 1, 3) := by decide +kernel
theorem dX6_findClashes_118 : decode cX6_findClashes 118 = .ok (.goto (-116), 3) := by decide +kernel
theorem dX6_findClashes_121 : decode cX6_findClashes 121 = .ok (.return_, 1) := by decide +kernel
theorem dX6_standsFrom_0 : decode cX6_standsFrom 0 = .ok (.iload_n 1, 1) := by decide +kernel
theorem dX6_standsFrom_1 : decode cX6_standsFrom 1 = .ok (.aload_n 0, 1) := by decide +kernel
theorem dX6_standsFrom_2 : decode cX6_standsFrom 2 = .ok (.getfield 15, 3) := by decide +kernel
theorem dX6_standsFrom_5 : decode cX6_standsFrom 5 = .ok (.if_icmp .lt 5, 3) := by decide +kernel
theorem dX6_standsFrom_8 : decode cX6_standsFrom 8 = .ok (.iconst 1, 1) := by decide +kernel
theorem dX6_standsFrom_9 : decode cX6_standsFrom 9 = .ok (.ireturn, 1) := by decide +kernel
theorem dX6_standsFrom_10 : decode cX6_standsFrom 10 = .ok (.iconst 0, 1) := by decide +kernel
theorem dX6_standsFrom_11 : decode cX6_standsFrom 11 = .ok (.istore 4, 2) := by decide +kernel
theorem dX6_standsFrom_13 : decode cX6_standsFrom 13 = .ok (.iload 4, 2) := by decide +kernel
theorem dX6_standsFrom_15 : decode cX6_standsFrom 15 = .ok (.iload_n 2, 1) := by decide +kernel
theorem dX6_standsFrom_16 : decode cX6_standsFrom 16 = .ok (.if_icmp .gt 104, 3) := by decide +kernel
theorem dX6_standsFrom_19 : decode cX6_standsFrom 19 = .ok (.iload 4, 2) := by decide +kernel
theorem dX6_standsFrom_21 : decode cX6_standsFrom 21 = .ok (.iload_n 3, 1) := by decide +kernel
theorem dX6_standsFrom_22 : decode cX6_standsFrom 22 = .ok (.if_icmp .ge 98, 3) := by decide +kernel
theorem dX6_standsFrom_25 : decode cX6_standsFrom 25 = .ok (.aload_n 0, 1) := by decide +kernel
theorem dX6_standsFrom_26 : decode cX6_standsFrom 26 = .ok (.getfield 34, 3) := by decide +kernel
theorem dX6_standsFrom_29 : decode cX6_standsFrom 29 = .ok (.iload 4, 2) := by decide +kernel
theorem dX6_standsFrom_31 : decode cX6_standsFrom 31 = .ok (.iaload, 1) := by decide +kernel
theorem dX6_standsFrom_32 : decode cX6_standsFrom 32 = .ok (.aload_n 0, 1) := by decide +kernel
theorem dX6_standsFrom_33 : decode cX6_standsFrom 33 = .ok (.getfield 31, 3) := by decide +kernel
theorem dX6_standsFrom_36 : decode cX6_standsFrom 36 = .ok (.iload_n 1, 1) := by decide +kernel
theorem dX6_standsFrom_37 : decode cX6_standsFrom 37 = .ok (.iaload, 1) := by decide +kernel
theorem dX6_standsFrom_38 : decode cX6_standsFrom 38 = .ok (.iand, 1) := by decide +kernel
theorem dX6_standsFrom_39 : decode cX6_standsFrom 39 = .ok (.ifCond .ne 75, 3) := by decide +kernel
theorem dX6_standsFrom_42 : decode cX6_standsFrom 42 = .ok (.aload_n 0, 1) := by decide +kernel
theorem dX6_standsFrom_43 : decode cX6_standsFrom 43 = .ok (.getfield 34, 3) := by decide +kernel
theorem dX6_standsFrom_46 : decode cX6_standsFrom 46 = .ok (.iload 4, 2) := by decide +kernel
theorem dX6_standsFrom_48 : decode cX6_standsFrom 48 = .ok (.iaload, 1) := by decide +kernel
theorem dX6_standsFrom_49 : decode cX6_standsFrom 49 = .ok (.invokestatic 49, 3) := by decide +kernel
theorem dX6_standsFrom_52 : decode cX6_standsFrom 52 = .ok (.aload_n 0, 1) := by decide +kernel
theorem dX6_standsFrom_53 : decode cX6_standsFrom 53 = .ok (.getfield 19, 3) := by decide +kernel
theorem dX6_standsFrom_56 : decode cX6_standsFrom 56 = .ok (.if_icmp .ge 58, 3) := by decide +kernel
theorem dX6_standsFrom_59 : decode cX6_standsFrom 59 = .ok (.aload_n 0, 1) := by decide +kernel
theorem dX6_standsFrom_60 : decode cX6_standsFrom 60 = .ok (.getfield 34, 3) := by decide +kernel
theorem dX6_standsFrom_63 : decode cX6_standsFrom 63 = .ok (.iload 4, 2) := by decide +kernel
theorem dX6_standsFrom_65 : decode cX6_standsFrom 65 = .ok (.dup2, 1) := by decide +kernel
theorem dX6_standsFrom_66 : decode cX6_standsFrom 66 = .ok (.iaload, 1) := by decide +kernel
theorem dX6_standsFrom_67 : decode cX6_standsFrom 67 = .ok (.iconst 1, 1) := by decide +kernel
theorem dX6_standsFrom_68 : decode cX6_standsFrom 68 = .ok (.iload_n 1, 1) := by decide +kernel
theorem dX6_standsFrom_69 : decode cX6_standsFrom 69 = .ok (.ishl, 1) := by decide +kernel
theorem dX6_standsFrom_70 : decode cX6_standsFrom 70 = .ok (.ior, 1) := by decide +kernel
theorem dX6_standsFrom_71 : decode cX6_standsFrom 71 = .ok (.iastore, 1) := by decide +kernel
theorem dX6_standsFrom_72 : decode cX6_standsFrom 72 = .ok (.aload_n 0, 1) := by decide +kernel
theorem dX6_standsFrom_73 : decode cX6_standsFrom 73 = .ok (.getfield 9, 3) := by decide +kernel
theorem dX6_standsFrom_76 : decode cX6_standsFrom 76 = .ok (.iload_n 1, 1) := by decide +kernel
theorem dX6_standsFrom_77 : decode cX6_standsFrom 77 = .ok (.iload 4, 2) := by decide +kernel
theorem dX6_standsFrom_79 : decode cX6_standsFrom 79 = .ok (.iastore, 1) := by decide +kernel
theorem dX6_standsFrom_80 : decode cX6_standsFrom 80 = .ok (.aload_n 0, 1) := by decide +kernel
theorem dX6_standsFrom_81 : decode cX6_standsFrom 81 = .ok (.iload_n 1, 1) := by decide +kernel
theorem dX6_standsFrom_82 : decode cX6_standsFrom 82 = .ok (.iconst 1, 1) := by decide +kernel
theorem dX6_standsFrom_83 : decode cX6_standsFrom 83 = .ok (.iadd, 1) := by decide +kernel
theorem dX6_standsFrom_84 : decode cX6_standsFrom 84 = .ok (.iload_n 2, 1) := by decide +kernel
theorem dX6_standsFrom_85 : decode cX6_standsFrom 85 = .ok (.iload 4, 2) := by decide +kernel
theorem dX6_standsFrom_87 : decode cX6_standsFrom 87 = .ok (.iconst 1, 1) := by decide +kernel
theorem dX6_standsFrom_88 : decode cX6_standsFrom 88 = .ok (.iadd, 1) := by decide +kernel
theorem dX6_standsFrom_89 : decode cX6_standsFrom 89 = .ok (.invokestatic 55, 3) := by decide +kernel
theorem dX6_standsFrom_92 : decode cX6_standsFrom 92 = .ok (.iload_n 3, 1) := by decide +kernel
theorem dX6_standsFrom_93 : decode cX6_standsFrom 93 = .ok (.invokevirtual 45, 3) := by decide +kernel
theorem dX6_standsFrom_96 : decode cX6_standsFrom 96 = .ok (.ifCond .eq 5, 3) := by decide +kernel
theorem dX6_standsFrom_99 : decode cX6_standsFrom 99 = .ok (.iconst 1, 1) := by decide +kernel
theorem dX6_standsFrom_100 : decode cX6_standsFrom 100 = .ok (.ireturn, 1) := by decide +kernel
theorem dX6_standsFrom_101 : decode cX6_standsFrom 101 = .ok (.aload_n 0, 1) := by decide +kernel
theorem dX6_standsFrom_102 : decode cX6_standsFrom 102 = .ok (.getfield 34, 3) := by decide +kernel
theorem dX6_standsFrom_105 : decode cX6_standsFrom 105 = .ok (.iload 4, 2) := by decide +kernel
theorem dX6_standsFrom_107 : decode cX6_standsFrom 107 = .ok (.dup2, 1) := by decide +kernel
theorem dX6_standsFrom_108 : decode cX6_standsFrom 108 = .ok (.iaload, 1) := by decide +kernel
theorem dX6_standsFrom_109 : decode cX6_standsFrom 109 = .ok (.iconst 1, 1) := by decide +kernel
theorem dX6_standsFrom_110 : decode cX6_standsFrom 110 = .ok (.iload_n 1, 1) := by decide +kernel
theorem dX6_standsFrom_111 : decode cX6_standsFrom 111 = .ok (.ishl, 1) := by decide +kernel
theorem dX6_standsFrom_112 : decode cX6_standsFrom 112 = .ok (.ixor, 1) := by decide +kernel
theorem dX6_standsFrom_113 : decode cX6_standsFrom 113 = .ok (.iastore, 1) := by decide +kernel
theorem dX6_standsFrom_114 : decode cX6_standsFrom 114 = .ok (.iinc 4 1, 3) := by decide +kernel
theorem dX6_standsFrom_117 : decode cX6_standsFrom 117 = .ok (.goto (-104), 3) := by decide +kernel
theorem dX6_standsFrom_120 : decode cX6_standsFrom 120 = .ok (.iconst 0, 1) := by decide +kernel
theorem dX6_standsFrom_121 : decode cX6_standsFrom 121 = .ok (.ireturn, 1) := by decide +kernel
theorem dJ6_bitCount_0f7a4_0 : decode cJ6_bitCount_0f7a4 0 = .ok (.iload_n 0, 1) := by decide +kernel
theorem dJ6_bitCount_0f7a4_1 : decode cJ6_bitCount_0f7a4 1 = .ok (.iload_n 0, 1) := by decide +kernel
theorem dJ6_bitCount_0f7a4_2 : decode cJ6_bitCount_0f7a4 2 = .ok (.iconst 1, 1) := by decide +kernel
theorem dJ6_bitCount_0f7a4_3 : decode cJ6_bitCount_0f7a4 3 = .ok (.iushr, 1) := by decide +kernel
theorem dJ6_bitCount_0f7a4_4 : decode cJ6_bitCount_0f7a4 4 = .ok (.ldc_w 265, 3) := by decide +kernel
theorem dJ6_bitCount_0f7a4_7 : decode cJ6_bitCount_0f7a4 7 = .ok (.iand, 1) := by decide +kernel
theorem dJ6_bitCount_0f7a4_8 : decode cJ6_bitCount_0f7a4 8 = .ok (.isub, 1) := by decide +kernel
theorem dJ6_bitCount_0f7a4_9 : decode cJ6_bitCount_0f7a4 9 = .ok (.istore_n 0, 1) := by decide +kernel
theorem dJ6_bitCount_0f7a4_10 : decode cJ6_bitCount_0f7a4 10 = .ok (.iload_n 0, 1) := by decide +kernel
theorem dJ6_bitCount_0f7a4_11 : decode cJ6_bitCount_0f7a4 11 = .ok (.ldc_w 266, 3) := by decide +kernel
theorem dJ6_bitCount_0f7a4_14 : decode cJ6_bitCount_0f7a4 14 = .ok (.iand, 1) := by decide +kernel
theorem dJ6_bitCount_0f7a4_15 : decode cJ6_bitCount_0f7a4 15 = .ok (.iload_n 0, 1) := by decide +kernel
theorem dJ6_bitCount_0f7a4_16 : decode cJ6_bitCount_0f7a4 16 = .ok (.iconst 2, 1) := by decide +kernel
theorem dJ6_bitCount_0f7a4_17 : decode cJ6_bitCount_0f7a4 17 = .ok (.iushr, 1) := by decide +kernel
theorem dJ6_bitCount_0f7a4_18 : decode cJ6_bitCount_0f7a4 18 = .ok (.ldc_w 266, 3) := by decide +kernel
theorem dJ6_bitCount_0f7a4_21 : decode cJ6_bitCount_0f7a4 21 = .ok (.iand, 1) := by decide +kernel
theorem dJ6_bitCount_0f7a4_22 : decode cJ6_bitCount_0f7a4 22 = .ok (.iadd, 1) := by decide +kernel
theorem dJ6_bitCount_0f7a4_23 : decode cJ6_bitCount_0f7a4 23 = .ok (.istore_n 0, 1) := by decide +kernel
theorem dJ6_bitCount_0f7a4_24 : decode cJ6_bitCount_0f7a4 24 = .ok (.iload_n 0, 1) := by decide +kernel
theorem dJ6_bitCount_0f7a4_25 : decode cJ6_bitCount_0f7a4 25 = .ok (.iload_n 0, 1) := by decide +kernel
theorem dJ6_bitCount_0f7a4_26 : decode cJ6_bitCount_0f7a4 26 = .ok (.iconst 4, 1) := by decide +kernel
theorem dJ6_bitCount_0f7a4_27 : decode cJ6_bitCount_0f7a4 27 = .ok (.iushr, 1) := by decide +kernel
theorem dJ6_bitCount_0f7a4_28 : decode cJ6_bitCount_0f7a4 28 = .ok (.iadd, 1) := by decide +kernel
theorem dJ6_bitCount_0f7a4_29 : decode cJ6_bitCount_0f7a4 29 = .ok (.ldc_w 267, 3) := by decide +kernel
theorem dJ6_bitCount_0f7a4_32 : decode cJ6_bitCount_0f7a4 32 = .ok (.iand, 1) := by decide +kernel
theorem dJ6_bitCount_0f7a4_33 : decode cJ6_bitCount_0f7a4 33 = .ok (.istore_n 0, 1) := by decide +kernel
theorem dJ6_bitCount_0f7a4_34 : decode cJ6_bitCount_0f7a4 34 = .ok (.iload_n 0, 1) := by decide +kernel
theorem dJ6_bitCount_0f7a4_35 : decode cJ6_bitCount_0f7a4 35 = .ok (.iload_n 0, 1) := by decide +kernel
theorem dJ6_bitCount_0f7a4_36 : decode cJ6_bitCount_0f7a4 36 = .ok (.bipush 8, 2) := by decide +kernel
theorem dJ6_bitCount_0f7a4_38 : decode cJ6_bitCount_0f7a4 38 = .ok (.iushr, 1) := by decide +kernel
theorem dJ6_bitCount_0f7a4_39 : decode cJ6_bitCount_0f7a4 39 = .ok (.iadd, 1) := by decide +kernel
theorem dJ6_bitCount_0f7a4_40 : decode cJ6_bitCount_0f7a4 40 = .ok (.istore_n 0, 1) := by decide +kernel
theorem dJ6_bitCount_0f7a4_41 : decode cJ6_bitCount_0f7a4 41 = .ok (.iload_n 0, 1) := by decide +kernel
theorem dJ6_bitCount_0f7a4_42 : decode cJ6_bitCount_0f7a4 42 = .ok (.iload_n 0, 1) := by decide +kernel
theorem dJ6_bitCount_0f7a4_43 : decode cJ6_bitCount_0f7a4 43 = .ok (.bipush 16, 2) := by decide +kernel
theorem dJ6_bitCount_0f7a4_45 : decode cJ6_bitCount_0f7a4 45 = .ok (.iushr, 1) := by decide +kernel
theorem dJ6_bitCount_0f7a4_46 : decode cJ6_bitCount_0f7a4 46 = .ok (.iadd, 1) := by decide +kernel
theorem dJ6_bitCount_0f7a4_47 : decode cJ6_bitCount_0f7a4 47 = .ok (.istore_n 0, 1) := by decide +kernel
theorem dJ6_bitCount_0f7a4_48 : decode cJ6_bitCount_0f7a4 48 = .ok (.iload_n 0, 1) := by decide +kernel
theorem dJ6_bitCount_0f7a4_49 : decode cJ6_bitCount_0f7a4 49 = .ok (.bipush 63, 2) := by decide +kernel
theorem dJ6_bitCount_0f7a4_51 : decode cJ6_bitCount_0f7a4 51 = .ok (.iand, 1) := by decide +kernel
theorem dJ6_bitCount_0f7a4_52 : decode cJ6_bitCount_0f7a4 52 = .ok (.ireturn, 1) := by decide +kernel
theorem dJ9_floorDiv_7cf53_0 : decode cJ9_floorDiv_7cf53 0 = .ok (.iload_n 0, 1) := by decide +kernel
theorem dJ9_floorDiv_7cf53_1 : decode cJ9_floorDiv_7cf53 1 = .ok (.iload_n 1, 1) := by decide +kernel
theorem dJ9_floorDiv_7cf53_2 : decode cJ9_floorDiv_7cf53 2 = .ok (.idiv, 1) := by decide +kernel
theorem dJ9_floorDiv_7cf53_3 : decode cJ9_floorDiv_7cf53 3 = .ok (.istore_n 2, 1) := by decide +kernel
theorem dJ9_floorDiv_7cf53_4 : decode cJ9_floorDiv_7cf53 4 = .ok (.iload_n 0, 1) := by decide +kernel
theorem dJ9_floorDiv_7cf53_5 : decode cJ9_floorDiv_7cf53 5 = .ok (.iload_n 1, 1) := by decide +kernel
theorem dJ9_floorDiv_7cf53_6 : decode cJ9_floorDiv_7cf53 6 = .ok (.ixor, 1) := by decide +kernel
theorem dJ9_floorDiv_7cf53_7 : decode cJ9_floorDiv_7cf53 7 = .ok (.ifCond .ge 14, 3) := by decide +kernel
theorem dJ9_floorDiv_7cf53_10 : decode cJ9_floorDiv_7cf53 10 = .ok (.iload_n 2, 1) := by decide +kernel
theorem dJ9_floorDiv_7cf53_11 : decode cJ9_floorDiv_7cf53 11 = .ok (.iload_n 1, 1) := by decide +kernel
theorem dJ9_floorDiv_7cf53_12 : decode cJ9_floorDiv_7cf53 12 = .ok (.imul, 1) := by decide +kernel
theorem dJ9_floorDiv_7cf53_13 : decode cJ9_floorDiv_7cf53 13 = .ok (.iload_n 0, 1) := by decide +kernel
theorem dJ9_floorDiv_7cf53_14 : decode cJ9_floorDiv_7cf53 14 = .ok (.if_icmp .eq 7, 3) := by decide +kernel
theorem dJ9_floorDiv_7cf53_17 : decode cJ9_floorDiv_7cf53 17 = .ok (.iload_n 2, 1) := by decide +kernel
theorem dJ9_floorDiv_7cf53_18 : decode cJ9_floorDiv_7cf53 18 = .ok (.iconst 1, 1) := by decide +kernel
theorem dJ9_floorDiv_7cf53_19 : decode cJ9_floorDiv_7cf53 19 = .ok (.isub, 1) := by decide +kernel
theorem dJ9_floorDiv_7cf53_20 : decode cJ9_floorDiv_7cf53 20 = .ok (.ireturn, 1) := by decide +kernel
theorem dJ9_floorDiv_7cf53_21 : decode cJ9_floorDiv_7cf53 21 = .ok (.iload_n 2, 1) := by decide +kernel
theorem dJ9_floorDiv_7cf53_22 : decode cJ9_floorDiv_7cf53 22 = .ok (.ireturn, 1) := by decide +kernel
theorem dJ9_abs_0f7a4_0 : decode cJ9_abs_0f7a4 0 = .ok (.iload_n 0, 1) := by decide +kernel
theorem dJ9_abs_0f7a4_1 : decode cJ9_abs_0f7a4 1 = .ok (.ifCond .ge 8, 3) := by decide +kernel
theorem dJ9_abs_0f7a4_4 : decode cJ9_abs_0f7a4 4 = .ok (.iload_n 0, 1) := by decide +kernel
theorem dJ9_abs_0f7a4_5 : decode cJ9_abs_0f7a4 5 = .ok (.ineg, 1) := by decide +kernel
theorem dJ9_abs_0f7a4_6 : decode cJ9_abs_0f7a4 6 = .ok (.goto 4, 3) := by decide +kernel
theorem dJ9_abs_0f7a4_9 : decode cJ9_abs_0f7a4 9 = .ok (.iload_n 0, 1) := by decide +kernel
theorem dJ9_abs_0f7a4_10 : decode cJ9_abs_0f7a4 10 = .ok (.ireturn, 1) := by decide +kernel
theorem dJ9_max_7cf53_0 : decode cJ9_max_7cf53 0 = .ok (.iload_n 0, 1) := by decide +kernel
theorem dJ9_max_7cf53_1 : decode cJ9_max_7cf53 1 = .ok (.iload_n 1, 1) := by decide +kernel
theorem dJ9_max_7cf53_2 : decode cJ9_max_7cf53 2 = .ok (.if_icmp .lt 7, 3) := by decide +kernel
theorem dJ9_max_7cf53_5 : decode cJ9_max_7cf53 5 = .ok (.iload_n 0, 1) := by decide +kernel
theorem dJ9_max_7cf53_6 : decode cJ9_max_7cf53 6 = .ok (.goto 4, 3) := by decide +kernel
theorem dJ9_max_7cf53_9 : decode cJ9_max_7cf53 9 = .ok (.iload_n 1, 1) := by decide +kernel
theorem dJ9_max_7cf53_10 : decode cJ9_max_7cf53 10 = .ok (.ireturn, 1) := by decide +kernel
theorem dJ9_min_7cf53_0 : decode cJ9_min_7cf53 0 = .ok (.iload_n 0, 1) := by decide +kernel
theorem dJ9_min_7cf53_1 : decode cJ9_min_7cf53 1 = .ok (.iload_n 1, 1) := by decide +kernel
theorem dJ9_min_7cf53_2 : decode cJ9_min_7cf53 2 = .ok (.if_icmp .gt 7, 3) := by decide +kernel
theorem dJ9_min_7cf53_5 : decode cJ9_min_7cf53 5 = .ok (.iload_n 0, 1) := by decide +kernel
theorem dJ9_min_7cf53_6 : decode cJ9_min_7cf53 6 = .ok (.goto 4, 3) := by decide +kernel
theorem dJ9_min_7cf53_9 : decode cJ9_min_7cf53 9 = .ok (.iload_n 1, 1) := by decide +kernel
theorem dJ9_min_7cf53_10 : decode cJ9_min_7cf53 10 = .ok (.ireturn, 1) := by decide +kernel
