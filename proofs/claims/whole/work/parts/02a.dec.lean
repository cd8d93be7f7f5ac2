theorem dX0_init_0 : decode cX0_init 0 = .ok (.aload_n 0, 1) := by decide +kernel
theorem dX0_init_1 : decode cX0_init 1 = .ok (.invokespecial 3, 3) := by decide +kernel
theorem dX0_init_4 : decode cX0_init 4 = .ok (.aload_n 0, 1) := by decide +kernel
theorem dX0_init_5 : decode cX0_init 5 = .ok (.bipush 24, 2) := by decide +kernel
theorem dX0_init_7 : decode cX0_init 7 = .ok (.newarray .int, 2) := by decide +kernel
theorem dX0_init_9 : decode cX0_init 9 = .ok (.putfield 9, 3) := by decide +kernel
theorem dX0_init_12 : decode cX0_init 12 = .ok (.aload_n 0, 1) := by decide +kernel
theorem dX0_init_13 : decode cX0_init 13 = .ok (.bipush 24, 2) := by decide +kernel
theorem dX0_init_15 : decode cX0_init 15 = .ok (.newarray .int, 2) := by decide +kernel
theorem dX0_init_17 : decode cX0_init 17 = .ok (.putfield 15, 3) := by decide +kernel
theorem dX0_init_20 : decode cX0_init 20 = .ok (.aload_n 0, 1) := by decide +kernel
theorem dX0_init_21 : decode cX0_init 21 = .ok (.bipush 24, 2) := by decide +kernel
theorem dX0_init_23 : decode cX0_init 23 = .ok (.newarray .int, 2) := by decide +kernel
theorem dX0_init_25 : decode cX0_init 25 = .ok (.putfield 18, 3) := by decide +kernel
theorem dX0_init_28 : decode cX0_init 28 = .ok (.aload_n 0, 1) := by decide +kernel
theorem dX0_init_29 : decode cX0_init 29 = .ok (.bipush 24, 2) := by decide +kernel
theorem dX0_init_31 : decode cX0_init 31 = .ok (.newarray .int, 2) := by decide +kernel
theorem dX0_init_33 : decode cX0_init 33 = .ok (.putfield 21, 3) := by decide +kernel
theorem dX0_init_36 : decode cX0_init 36 = .ok (.aload_n 0, 1) := by decide +kernel
theorem dX0_init_37 : decode cX0_init 37 = .ok (.iconst 0, 1) := by decide +kernel
theorem dX0_init_38 : decode cX0_init 38 = .ok (.putfield 24, 3) := by decide +kernel
theorem dX0_init_41 : decode cX0_init 41 = .ok (.aload_n 0, 1) := by decide +kernel
theorem dX0_init_42 : decode cX0_init 42 = .ok (.iconst 0, 1) := by decide +kernel
theorem dX0_init_43 : decode cX0_init 43 = .ok (.putfield 28, 3) := by decide +kernel
theorem dX0_init_46 : decode cX0_init 46 = .ok (.aload_n 0, 1) := by decide +kernel
theorem dX0_init_47 : decode cX0_init 47 = .ok (.iconst 0, 1) := by decide +kernel
theorem dX0_init_48 : decode cX0_init 48 = .ok (.putfield 31, 3) := by decide +kernel
theorem dX0_init_51 : decode cX0_init 51 = .ok (.aload_n 0, 1) := by decide +kernel
theorem dX0_init_52 : decode cX0_init 52 = .ok (.iconst 0, 1) := by decide +kernel
theorem dX0_init_53 : decode cX0_init 53 = .ok (.putfield 34, 3) := by decide +kernel
theorem dX0_init_56 : decode cX0_init 56 = .ok (.aload_n 0, 1) := by decide +kernel
theorem dX0_init_57 : decode cX0_init 57 = .ok (.iconst (-1), 1) := by decide +kernel
theorem dX0_init_58 : decode cX0_init 58 = .ok (.putfield 37, 3) := by decide +kernel
theorem dX0_init_61 : decode cX0_init 61 = .ok (.aload_n 0, 1) := by decide +kernel
theorem dX0_init_62 : decode cX0_init 62 = .ok (.bipush 25, 2) := by decide +kernel
theorem dX0_init_64 : decode cX0_init 64 = .ok (.bipush 121, 2) := by decide +kernel
theorem dX0_init_66 : decode cX0_init 66 = .ok (.multianewarray 40 2, 4) := by decide +kernel
theorem dX0_init_70 : decode cX0_init 70 = .ok (.putfield 42, 3) := by decide +kernel
theorem dX0_init_73 : decode cX0_init 73 = .ok (.aload_n 0, 1) := by decide +kernel
theorem dX0_init_74 : decode cX0_init 74 = .ok (.bipush 121, 2) := by decide +kernel
theorem dX0_init_76 : decode cX0_init 76 = .ok (.newarray .int, 2) := by decide +kernel
theorem dX0_init_78 : decode cX0_init 78 = .ok (.putfield 45, 3) := by decide +kernel
theorem dX0_init_81 : decode cX0_init 81 = .ok (.aload_n 0, 1) := by decide +kernel
theorem dX0_init_82 : decode cX0_init 82 = .ok (.bipush 121, 2) := by decide +kernel
theorem dX0_init_84 : decode cX0_init 84 = .ok (.newarray .int, 2) := by decide +kernel
theorem dX0_init_86 : decode cX0_init 86 = .ok (.putfield 48, 3) := by decide +kernel
theorem dX0_init_89 : decode cX0_init 89 = .ok (.aload_n 0, 1) := by decide +kernel
theorem dX0_init_90 : decode cX0_init 90 = .ok (.bipush 121, 2) := by decide +kernel
theorem dX0_init_92 : decode cX0_init 92 = .ok (.newarray .int, 2) := by decide +kernel
theorem dX0_init_94 : decode cX0_init 94 = .ok (.putfield 51, 3) := by decide +kernel
theorem dX0_init_97 : decode cX0_init 97 = .ok (.return_, 1) := by decide +kernel
theorem dX0_forget_0 : decode cX0_forget 0 = .ok (.aload_n 0, 1) := by decide +kernel
theorem dX0_forget_1 : decode cX0_forget 1 = .ok (.iconst (-1), 1) := by decide +kernel
theorem dX0_forget_2 : decode cX0_forget 2 = .ok (.putfield 37, 3) := by decide +kernel
theorem dX0_forget_5 : decode cX0_forget 5 = .ok (.return_, 1) := by decide +kernel
theorem dX0_find_0 : decode cX0_find 0 = .ok (.aload_n 0, 1) := by decide +kernel
theorem dX0_find_1 : decode cX0_find 1 = .ok (.aload_n 1, 1) := by decide +kernel
theorem dX0_find_2 : decode cX0_find 2 = .ok (.getfield 54, 3) := by decide +kernel
theorem dX0_find_5 : decode cX0_find 5 = .ok (.putfield 24, 3) := by decide +kernel
theorem dX0_find_8 : decode cX0_find 8 = .ok (.aload_n 0, 1) := by decide +kernel
theorem dX0_find_9 : decode cX0_find 9 = .ok (.aload_n 2, 1) := by decide +kernel
theorem dX0_find_10 : decode cX0_find 10 = .ok (.getfield 57, 3) := by decide +kernel
theorem dX0_find_13 : decode cX0_find 13 = .ok (.invokevirtual 60, 3) := by decide +kernel
theorem dX0_find_16 : decode cX0_find 16 = .ok (.aload_n 0, 1) := by decide +kernel
theorem dX0_find_17 : decode cX0_find 17 = .ok (.getfield 24, 3) := by decide +kernel
theorem dX0_find_20 : decode cX0_find 20 = .ok (.iconst 1, 1) := by decide +kernel
theorem dX0_find_21 : decode cX0_find 21 = .ok (.isub, 1) := by decide +kernel
theorem dX0_find_22 : decode cX0_find 22 = .ok (.istore 4, 2) := by decide +kernel
theorem dX0_find_24 : decode cX0_find 24 = .ok (.iload 4, 2) := by decide +kernel
theorem dX0_find_26 : decode cX0_find 26 = .ok (.ifCond .lt 109, 3) := by decide +kernel
theorem dX0_find_29 : decode cX0_find 29 = .ok (.aload_n 0, 1) := by decide +kernel
theorem dX0_find_30 : decode cX0_find 30 = .ok (.aload_n 2, 1) := by decide +kernel
theorem dX0_find_31 : decode cX0_find 31 = .ok (.aload_n 3, 1) := by decide +kernel
theorem dX0_find_32 : decode cX0_find 32 = .ok (.aload_n 1, 1) := by decide +kernel
theorem dX0_find_33 : decode cX0_find 33 = .ok (.getfield 64, 3) := by decide +kernel
theorem dX0_find_36 : decode cX0_find 36 = .ok (.iload 4, 2) := by decide +kernel
theorem dX0_find_38 : decode cX0_find 38 = .ok (.iaload, 1) := by decide +kernel
theorem dX0_find_39 : decode cX0_find 39 = .ok (.invokevirtual 67, 3) := by decide +kernel
theorem dX0_find_42 : decode cX0_find 42 = .ok (.aload_n 0, 1) := by decide +kernel
theorem dX0_find_43 : decode cX0_find 43 = .ok (.aload_n 0, 1) := by decide +kernel
theorem dX0_find_44 : decode cX0_find 44 = .ok (.getfield 42, 3) := by decide +kernel
theorem dX0_find_47 : decode cX0_find 47 = .ok (.iload 4, 2) := by decide +kernel
theorem dX0_find_49 : decode cX0_find 49 = .ok (.iconst 1, 1) := by decide +kernel
theorem dX0_find_50 : decode cX0_find 50 = .ok (.iadd, 1) := by decide +kernel
theorem dX0_find_51 : decode cX0_find 51 = .ok (.aaload, 1) := by decide +kernel
theorem dX0_find_52 : decode cX0_find 52 = .ok (.aload_n 2, 1) := by decide +kernel
theorem dX0_find_53 : decode cX0_find 53 = .ok (.getfield 57, 3) := by decide +kernel
theorem dX0_find_56 : decode cX0_find 56 = .ok (.aload_n 3, 1) := by decide +kernel
theorem dX0_find_57 : decode cX0_find 57 = .ok (.getfield 71, 3) := by decide +kernel
theorem dX0_find_60 : decode cX0_find 60 = .ok (.invokevirtual 76, 3) := by decide +kernel
theorem dX0_find_63 : decode cX0_find 63 = .ok (.aload_n 1, 1) := by decide +kernel
theorem dX0_find_64 : decode cX0_find 64 = .ok (.getfield 80, 3) := by decide +kernel
theorem dX0_find_67 : decode cX0_find 67 = .ok (.iload 4, 2) := by decide +kernel
theorem dX0_find_69 : decode cX0_find 69 = .ok (.iaload, 1) := by decide +kernel
theorem dX0_find_70 : decode cX0_find 70 = .ok (.aload_n 3, 1) := by decide +kernel
theorem dX0_find_71 : decode cX0_find 71 = .ok (.getfield 83, 3) := by decide +kernel
theorem dX0_find_74 : decode cX0_find 74 = .ok (.imul, 1) := by decide +kernel
theorem dX0_find_75 : decode cX0_find 75 = .ok (.istore 5, 2) := by decide +kernel
theorem dX0_find_77 : decode cX0_find 77 = .ok (.iconst 0, 1) := by decide +kernel
theorem dX0_find_78 : decode cX0_find 78 = .ok (.istore 6, 2) := by decide +kernel
theorem dX0_find_80 : decode cX0_find 80 = .ok (.iload 6, 2) := by decide +kernel
theorem dX0_find_82 : decode cX0_find 82 = .ok (.aload_n 2, 1) := by decide +kernel
theorem dX0_find_83 : decode cX0_find 83 = .ok (.getfield 57, 3) := by decide +kernel
theorem dX0_find_86 : decode cX0_find 86 = .ok (.if_icmp .gt 43, 3) := by decide +kernel
theorem dX0_find_89 : decode cX0_find 89 = .ok (.aload_n 0, 1) := by decide +kernel
theorem dX0_find_90 : decode cX0_find 90 = .ok (.getfield 42, 3) := by decide +kernel
theorem dX0_find_93 : decode cX0_find 93 = .ok (.iload 4, 2) := by decide +kernel
theorem dX0_find_95 : decode cX0_find 95 = .ok (.aaload, 1) := by decide +kernel
theorem dX0_find_96 : decode cX0_find 96 = .ok (.iload 6, 2) := by decide +kernel
theorem dX0_find_98 : decode cX0_find 98 = .ok (.aload_n 0, 1) := by decide +kernel
theorem dX0_find_99 : decode cX0_find 99 = .ok (.iload 6, 2) := by decide +kernel
theorem dX0_find_101 : decode cX0_find 101 = .ok (.iload 6, 2) := by decide +kernel
theorem dX0_find_103 : decode cX0_find 103 = .ok (.iload 5, 2) := by decide +kernel
theorem dX0_find_105 : decode cX0_find 105 = .ok (.iadd, 1) := by decide +kernel
theorem dX0_find_106 : decode cX0_find 106 = .ok (.aload_n 2, 1) := by decide +kernel
theorem dX0_find_107 : decode cX0_find 107 = .ok (.getfield 57, 3) := by decide +kernel
theorem dX0_find_110 : decode cX0_find 110 = .ok (.aload_n 3, 1) := by decide +kernel
theorem dX0_find_111 : decode cX0_find 111 = .ok (.invokevirtual 86, 3) := by decide +kernel
theorem dX0_find_114 : decode cX0_find 114 = .ok (.aload_n 0, 1) := by decide +kernel
theorem dX0_find_115 : decode cX0_find 115 = .ok (.getfield 45, 3) := by decide +kernel
theorem dX0_find_118 : decode cX0_find 118 = .ok (.iload 6, 2) := by decide +kernel
theorem dX0_find_120 : decode cX0_find 120 = .ok (.iaload, 1) := by decide +kernel
theorem dX0_find_121 : decode cX0_find 121 = .ok (.isub, 1) := by decide +kernel
theorem dX0_find_122 : decode cX0_find 122 = .ok (.iastore, 1) := by decide +kernel
theorem dX0_find_123 : decode cX0_find 123 = .ok (.iinc 6 1, 3) := by decide +kernel
theorem dX0_find_126 : decode cX0_find 126 = .ok (.goto (-46), 3) := by decide +kernel
theorem dX0_find_129 : decode cX0_find 129 = .ok (.iinc 4 (-1), 3) := by decide +kernel
theorem dX0_find_132 : decode cX0_find 132 = .ok (.goto (-108), 3) := by decide +kernel
theorem dX0_find_135 : decode cX0_find 135 = .ok (.aload_n 0, 1) := by decide +kernel
theorem dX0_find_136 : decode cX0_find 136 = .ok (.aload_n 0, 1) := by decide +kernel
theorem dX0_find_137 : decode cX0_find 137 = .ok (.getfield 42, 3) := by decide +kernel
theorem dX0_find_140 : decode cX0_find 140 = .ok (.iconst 0, 1) := by decide +kernel
theorem dX0_find_141 : decode cX0_find 141 = .ok (.aaload, 1) := by decide +kernel
theorem dX0_find_142 : decode cX0_find 142 = .ok (.iconst 0, 1) := by decide +kernel
theorem dX0_find_143 : decode cX0_find 143 = .ok (.iaload, 1) := by decide +kernel
theorem dX0_find_144 : decode cX0_find 144 = .ok (.putfield 28, 3) := by decide +kernel
theorem dX0_find_147 : decode cX0_find 147 = .ok (.aload_n 0, 1) := by decide +kernel
theorem dX0_find_148 : decode cX0_find 148 = .ok (.aload_n 1, 1) := by decide +kernel
theorem dX0_find_149 : decode cX0_find 149 = .ok (.aload_n 2, 1) := by decide +kernel
theorem dX0_find_150 : decode cX0_find 150 = .ok (.aload_n 3, 1) := by decide +kernel
theorem dX0_find_151 : decode cX0_find 151 = .ok (.invokevirtual 90, 3) := by decide +kernel
theorem dX0_find_154 : decode cX0_find 154 = .ok (.aload_n 0, 1) := by decide +kernel
theorem dX0_find_155 : decode cX0_find 155 = .ok (.aload_n 1, 1) := by decide +kernel
theorem dX0_find_156 : decode cX0_find 156 = .ok (.aload_n 2, 1) := by decide +kernel
theorem dX0_find_157 : decode cX0_find 157 = .ok (.aload_n 3, 1) := by decide +kernel
theorem dX0_find_158 : decode cX0_find 158 = .ok (.getfield 94, 3) := by decide +kernel
theorem dX0_find_161 : decode cX0_find 161 = .ok (.invokevirtual 97, 3) := by decide +kernel
theorem dX0_find_164 : decode cX0_find 164 = .ok (.return_, 1) := by decide +kernel
theorem dX0_endAt_0 : decode cX0_endAt 0 = .ok (.iconst 0, 1) := by decide +kernel
theorem dX0_endAt_1 : decode cX0_endAt 1 = .ok (.istore_n 2, 1) := by decide +kernel
theorem dX0_endAt_2 : decode cX0_endAt 2 = .ok (.iload_n 2, 1) := by decide +kernel
theorem dX0_endAt_3 : decode cX0_endAt 3 = .ok (.iload_n 1, 1) := by decide +kernel
theorem dX0_endAt_4 : decode cX0_endAt 4 = .ok (.if_icmp .ge 22, 3) := by decide +kernel
theorem dX0_endAt_7 : decode cX0_endAt 7 = .ok (.aload_n 0, 1) := by decide +kernel
theorem dX0_endAt_8 : decode cX0_endAt 8 = .ok (.getfield 42, 3) := by decide +kernel
theorem dX0_endAt_11 : decode cX0_endAt 11 = .ok (.aload_n 0, 1) := by decide +kernel
theorem dX0_endAt_12 : decode cX0_endAt 12 = .ok (.getfield 24, 3) := by decide +kernel
theorem dX0_endAt_15 : decode cX0_endAt 15 = .ok (.aaload, 1) := by decide +kernel
theorem dX0_endAt_16 : decode cX0_endAt 16 = .ok (.iload_n 2, 1) := by decide +kernel
theorem dX0_endAt_17 : decode cX0_endAt 17 = .ok (.ldc 101, 2) := by decide +kernel
theorem dX0_endAt_19 : decode cX0_endAt 19 = .ok (.iastore, 1) := by decide +kernel
theorem dX0_endAt_20 : decode cX0_endAt 20 = .ok (.iinc 2 1, 3) := by decide +kernel
theorem dX0_endAt_23 : decode cX0_endAt 23 = .ok (.goto (-21), 3) := by decide +kernel
theorem dX0_endAt_26 : decode cX0_endAt 26 = .ok (.aload_n 0, 1) := by decide +kernel
theorem dX0_endAt_27 : decode cX0_endAt 27 = .ok (.getfield 42, 3) := by decide +kernel
theorem dX0_endAt_30 : decode cX0_endAt 30 = .ok (.aload_n 0, 1) := by decide +kernel
theorem dX0_endAt_31 : decode cX0_endAt 31 = .ok (.getfield 24, 3) := by decide +kernel
theorem dX0_endAt_34 : decode cX0_endAt 34 = .ok (.aaload, 1) := by decide +kernel
theorem dX0_endAt_35 : decode cX0_endAt 35 = .ok (.iload_n 1, 1) := by decide +kernel
theorem dX0_endAt_36 : decode cX0_endAt 36 = .ok (.iconst 0, 1) := by decide +kernel
theorem dX0_endAt_37 : decode cX0_endAt 37 = .ok (.iastore, 1) := by decide +kernel
theorem dX0_endAt_38 : decode cX0_endAt 38 = .ok (.return_, 1) := by decide +kernel
theorem dX0_addUpReadings_0 : decode cX0_addUpReadings 0 = .ok (.aload_n 0, 1) := by decide +kernel
theorem dX0_addUpReadings_1 : decode cX0_addUpReadings 1 = .ok (.getfield 45, 3) := by decide +kernel
theorem dX0_addUpReadings_4 : decode cX0_addUpReadings 4 = .ok (.iconst 0, 1) := by decide +kernel
theorem dX0_addUpReadings_5 : decode cX0_addUpReadings 5 = .ok (.iconst 0, 1) := by decide +kernel
theorem dX0_addUpReadings_6 : decode cX0_addUpReadings 6 = .ok (.iastore, 1) := by decide +kernel
theorem dX0_addUpReadings_7 : decode cX0_addUpReadings 7 = .ok (.iconst 0, 1) := by decide +kernel
theorem dX0_addUpReadings_8 : decode cX0_addUpReadings 8 = .ok (.istore 4, 2) := by decide +kernel
theorem dX0_addUpReadings_10 : decode cX0_addUpReadings 10 = .ok (.iload 4, 2) := by decide +kernel
theorem dX0_addUpReadings_12 : decode cX0_addUpReadings 12 = .ok (.aload_n 1, 1) := by decide +kernel
theorem dX0_addUpReadings_13 : decode cX0_addUpReadings 13 = .ok (.getfield 57, 3) := by decide +kernel
theorem dX0_addUpReadings_16 : decode cX0_addUpReadings 16 = .ok (.if_icmp .ge 38, 3) := by decide +kernel
theorem dX0_addUpReadings_19 : decode cX0_addUpReadings 19 = .ok (.aload_n 0, 1) := by decide +kernel
theorem dX0_addUpReadings_20 : decode cX0_addUpReadings 20 = .ok (.getfield 45, 3) := by decide +kernel
theorem dX0_addUpReadings_23 : decode cX0_addUpReadings 23 = .ok (.iload 4, 2) := by decide +kernel
theorem dX0_addUpReadings_25 : decode cX0_addUpReadings 25 = .ok (.iconst 1, 1) := by decide +kernel
theorem dX0_addUpReadings_26 : decode cX0_addUpReadings 26 = .ok (.iadd, 1) := by decide +kernel
theorem dX0_addUpReadings_27 : decode cX0_addUpReadings 27 = .ok (.aload_n 0, 1) := by decide +kernel
theorem dX0_addUpReadings_28 : decode cX0_addUpReadings 28 = .ok (.getfield 45, 3) := by decide +kernel
theorem dX0_addUpReadings_31 : decode cX0_addUpReadings 31 = .ok (.iload 4, 2) := by decide +kernel
theorem dX0_addUpReadings_33 : decode cX0_addUpReadings 33 = .ok (.iaload, 1) := by decide +kernel
theorem dX0_addUpReadings_34 : decode cX0_addUpReadings 34 = .ok (.aload_n 2, 1) := by decide +kernel
theorem dX0_addUpReadings_35 : decode cX0_addUpReadings 35 = .ok (.aload_n 1, 1) := by decide +kernel
theorem dX0_addUpReadings_36 : decode cX0_addUpReadings 36 = .ok (.getfield 102, 3) := by decide +kernel
theorem dX0_addUpReadings_39 : decode cX0_addUpReadings 39 = .ok (.iload 4, 2) := by decide +kernel
theorem dX0_addUpReadings_41 : decode cX0_addUpReadings 41 = .ok (.iaload, 1) := by decide +kernel
theorem dX0_addUpReadings_42 : decode cX0_addUpReadings 42 = .ok (.iload_n 3, 1) := by decide +kernel
theorem dX0_addUpReadings_43 : decode cX0_addUpReadings 43 = .ok (.invokevirtual 105, 3) := by decide +kernel
theorem dX0_addUpReadings_46 : decode cX0_addUpReadings 46 = .ok (.iadd, 1) := by decide +kernel
theorem dX0_addUpReadings_47 : decode cX0_addUpReadings 47 = .ok (.iastore, 1) := by decide +kernel
theorem dX0_addUpReadings_48 : decode cX0_addUpReadings 48 = .ok (.iinc 4 1, 3) := by decide +kernel
theorem dX0_addUpReadings_51 : decode cX0_addUpReadings 51 = .ok (.goto (-41), 3) := by decide +kernel
theorem dX0_addUpReadings_54 : decode cX0_addUpReadings 54 = .ok (.return_, 1) := by decide +kernel
theorem dX0_splitByLength_0 : decode cX0_splitByLength 0 = .ok (.ldc 109, 2) := by decide +kernel
theorem dX0_splitByLength_2 : decode cX0_splitByLength 2 = .ok (.istore 4, 2) := by decide +kernel
theorem dX0_splitByLength_4 : decode cX0_splitByLength 4 = .ok (.iload_n 2, 1) := by decide +kernel
theorem dX0_splitByLength_5 : decode cX0_splitByLength 5 = .ok (.istore 5, 2) := by decide +kernel
theorem dX0_splitByLength_7 : decode cX0_splitByLength 7 = .ok (.iload 5, 2) := by decide +kernel
theorem dX0_splitByLength_9 : decode cX0_splitByLength 9 = .ok (.ifCond .lt 60, 3) := by decide +kernel
theorem dX0_splitByLength_12 : decode cX0_splitByLength 12 = .ok (.aload_n 0, 1) := by decide +kernel
theorem dX0_splitByLength_13 : decode cX0_splitByLength 13 = .ok (.getfield 45, 3) := by decide +kernel
theorem dX0_splitByLength_16 : decode cX0_splitByLength 16 = .ok (.iload 5, 2) := by decide +kernel
theorem dX0_splitByLength_18 : decode cX0_splitByLength 18 = .ok (.iaload, 1) := by decide +kernel
theorem dX0_splitByLength_19 : decode cX0_splitByLength 19 = .ok (.aload_n 1, 1) := by decide +kernel
theorem dX0_splitByLength_20 : decode cX0_splitByLength 20 = .ok (.iload 5, 2) := by decide +kernel
theorem dX0_splitByLength_22 : decode cX0_splitByLength 22 = .ok (.iaload, 1) := by decide +kernel
theorem dX0_splitByLength_23 : decode cX0_splitByLength 23 = .ok (.iadd, 1) := by decide +kernel
theorem dX0_splitByLength_24 : decode cX0_splitByLength 24 = .ok (.istore 6, 2) := by decide +kernel
theorem dX0_splitByLength_26 : decode cX0_splitByLength 26 = .ok (.aload_n 0, 1) := by decide +kernel
theorem dX0_splitByLength_27 : decode cX0_splitByLength 27 = .ok (.getfield 48, 3) := by decide +kernel
theorem dX0_splitByLength_30 : decode cX0_splitByLength 30 = .ok (.iload 5, 2) := by decide +kernel
theorem dX0_splitByLength_32 : decode cX0_splitByLength 32 = .ok (.iload 6, 2) := by decide +kernel
theorem dX0_splitByLength_34 : decode cX0_splitByLength 34 = .ok (.iload_n 3, 1) := by decide +kernel
theorem dX0_splitByLength_35 : decode cX0_splitByLength 35 = .ok (.iload 5, 2) := by decide +kernel
theorem dX0_splitByLength_37 : decode cX0_splitByLength 37 = .ok (.imul, 1) := by decide +kernel
theorem dX0_splitByLength_38 : decode cX0_splitByLength 38 = .ok (.isub, 1) := by decide +kernel
theorem dX0_splitByLength_39 : decode cX0_splitByLength 39 = .ok (.iastore, 1) := by decide +kernel
theorem dX0_splitByLength_40 : decode cX0_splitByLength 40 = .ok (.iload 4, 2) := by decide +kernel
theorem dX0_splitByLength_42 : decode cX0_splitByLength 42 = .ok (.iload 6, 2) := by decide +kernel
theorem dX0_splitByLength_44 : decode cX0_splitByLength 44 = .ok (.iload_n 3, 1) := by decide +kernel
theorem dX0_splitByLength_45 : decode cX0_splitByLength 45 = .ok (.iload 5, 2) := by decide +kernel
theorem dX0_splitByLength_47 : decode cX0_splitByLength 47 = .ok (.imul, 1) := by decide +kernel
theorem dX0_splitByLength_48 : decode cX0_splitByLength 48 = .ok (.iadd, 1) := by decide +kernel
theorem dX0_splitByLength_49 : decode cX0_splitByLength 49 = .ok (.invokestatic 110, 3) := by decide +kernel
theorem dX0_splitByLength_52 : decode cX0_splitByLength 52 = .ok (.istore 4, 2) := by decide +kernel
theorem dX0_splitByLength_54 : decode cX0_splitByLength 54 = .ok (.aload_n 0, 1) := by decide +kernel
theorem dX0_splitByLength_55 : decode cX0_splitByLength 55 = .ok (.getfield 51, 3) := by decide +kernel
theorem dX0_splitByLength_58 : decode cX0_splitByLength 58 = .ok (.iload 5, 2) := by decide +kernel
theorem dX0_splitByLength_60 : decode cX0_splitByLength 60 = .ok (.iload 4, 2) := by decide +kernel
theorem dX0_splitByLength_62 : decode cX0_splitByLength 62 = .ok (.iastore, 1) := by decide +kernel
theorem dX0_splitByLength_63 : decode cX0_splitByLength 63 = .ok (.iinc 5 (-1), 3) := by decide +kernel
theorem dX0_splitByLength_66 : decode cX0_splitByLength 66 = .ok (.goto (-59), 3) := by decide +kernel
theorem dX0_splitByLength_69 : decode cX0_splitByLength 69 = .ok (.return_, 1) := by decide +kernel
theorem dX0_findLeast_0 : decode cX0_findLeast 0 = .ok (.aload 4, 2) := by decide +kernel
theorem dX0_findLeast_2 : decode cX0_findLeast 2 = .ok (.getfield 71, 3) := by decide +kernel
theorem dX0_findLeast_5 : decode cX0_findLeast 5 = .ok (.iload_n 2, 1) := by decide +kernel
theorem dX0_findLeast_6 : decode cX0_findLeast 6 = .ok (.imul, 1) := by decide +kernel
theorem dX0_findLeast_7 : decode cX0_findLeast 7 = .ok (.istore 5, 2) := by decide +kernel
theorem dX0_findLeast_9 : decode cX0_findLeast 9 = .ok (.aload_n 0, 1) := by decide +kernel
theorem dX0_findLeast_10 : decode cX0_findLeast 10 = .ok (.getfield 48, 3) := by decide +kernel
theorem dX0_findLeast_13 : decode cX0_findLeast 13 = .ok (.iload_n 1, 1) := by decide +kernel
theorem dX0_findLeast_14 : decode cX0_findLeast 14 = .ok (.iaload, 1) := by decide +kernel
theorem dX0_findLeast_15 : decode cX0_findLeast 15 = .ok (.aload 4, 2) := by decide +kernel
theorem dX0_findLeast_17 : decode cX0_findLeast 17 = .ok (.getfield 115, 3) := by decide +kernel
theorem dX0_findLeast_20 : decode cX0_findLeast 20 = .ok (.iadd, 1) := by decide +kernel
theorem dX0_findLeast_21 : decode cX0_findLeast 21 = .ok (.istore 6, 2) := by decide +kernel
theorem dX0_findLeast_23 : decode cX0_findLeast 23 = .ok (.iload_n 1, 1) := by decide +kernel
theorem dX0_findLeast_24 : decode cX0_findLeast 24 = .ok (.iconst 1, 1) := by decide +kernel
theorem dX0_findLeast_25 : decode cX0_findLeast 25 = .ok (.iadd, 1) := by decide +kernel
theorem dX0_findLeast_26 : decode cX0_findLeast 26 = .ok (.istore 7, 2) := by decide +kernel
theorem dX0_findLeast_28 : decode cX0_findLeast 28 = .ok (.iload 7, 2) := by decide +kernel
theorem dX0_findLeast_30 : decode cX0_findLeast 30 = .ok (.iload_n 2, 1) := by decide +kernel
theorem dX0_findLeast_31 : decode cX0_findLeast 31 = .ok (.if_icmp .ge 29, 3) := by decide +kernel
theorem dX0_findLeast_34 : decode cX0_findLeast 34 = .ok (.iload 7, 2) := by decide +kernel
theorem dX0_findLeast_36 : decode cX0_findLeast 36 = .ok (.iload_n 3, 1) := by decide +kernel
theorem dX0_findLeast_37 : decode cX0_findLeast 37 = .ok (.if_icmp .gt 23, 3) := by decide +kernel
theorem dX0_findLeast_40 : decode cX0_findLeast 40 = .ok (.iload 6, 2) := by decide +kernel
theorem dX0_findLeast_42 : decode cX0_findLeast 42 = .ok (.aload_n 0, 1) := by decide +kernel
theorem dX0_findLeast_43 : decode cX0_findLeast 43 = .ok (.getfield 48, 3) := by decide +kernel
theorem dX0_findLeast_46 : decode cX0_findLeast 46 = .ok (.iload 7, 2) := by decide +kernel
theorem dX0_findLeast_48 : decode cX0_findLeast 48 = .ok (.iaload, 1) := by decide +kernel
theorem dX0_findLeast_49 : decode cX0_findLeast 49 = .ok (.invokestatic 110, 3) := by decide +kernel
theorem dX0_findLeast_52 : decode cX0_findLeast 52 = .ok (.istore 6, 2) := by decide +kernel
theorem dX0_findLeast_54 : decode cX0_findLeast 54 = .ok (.iinc 7 1, 3) := by decide +kernel
theorem dX0_findLeast_57 : decode cX0_findLeast 57 = .ok (.goto (-29), 3) := by decide +kernel
theorem dX0_findLeast_60 : decode cX0_findLeast 60 = .ok (.iload 6, 2) := by decide +kernel
theorem dX0_findLeast_62 : decode cX0_findLeast 62 = .ok (.iload 5, 2) := by decide +kernel
theorem dX0_findLeast_64 : decode cX0_findLeast 64 = .ok (.iadd, 1) := by decide +kernel
theorem dX0_findLeast_65 : decode cX0_findLeast 65 = .ok (.istore 6, 2) := by decide +kernel
theorem dX0_findLeast_67 : decode cX0_findLeast 67 = .ok (.iload_n 2, 1) := by decide +kernel
theorem dX0_findLeast_68 : decode cX0_findLeast 68 = .ok (.iload_n 3, 1) := by decide +kernel
theorem dX0_findLeast_69 : decode cX0_findLeast 69 = .ok (.if_icmp .gt 20, 3) := by decide +kernel
theorem dX0_findLeast_72 : decode cX0_findLeast 72 = .ok (.iload 6, 2) := by decide +kernel
theorem dX0_findLeast_74 : decode cX0_findLeast 74 = .ok (.aload_n 0, 1) := by decide +kernel
theorem dX0_findLeast_75 : decode cX0_findLeast 75 = .ok (.getfield 51, 3) := by decide +kernel
theorem dX0_findLeast_78 : decode cX0_findLeast 78 = .ok (.iload_n 2, 1) := by decide +kernel
theorem dX0_findLeast_79 : decode cX0_findLeast 79 = .ok (.iaload, 1) := by decide +kernel
theorem dX0_findLeast_80 : decode cX0_findLeast 80 = .ok (.iload 5, 2) := by decide +kernel
theorem dX0_findLeast_82 : decode cX0_findLeast 82 = .ok (.isub, 1) := by decide +kernel
theorem dX0_findLeast_83 : decode cX0_findLeast 83 = .ok (.invokestatic 110, 3) := by decide +kernel
theorem dX0_findLeast_86 : decode cX0_findLeast 86 = .ok (.goto 5, 3) := by decide +kernel
theorem dX0_findLeast_89 : decode cX0_findLeast 89 = .ok (.iload 6, 2) := by decide +kernel
theorem dX0_findLeast_91 : decode cX0_findLeast 91 = .ok (.ireturn, 1) := by decide +kernel
theorem dX0_layForward_0 : decode cX0_layForward 0 = .ok (.iconst 0, 1) := by decide +kernel
theorem dX0_layForward_1 : decode cX0_layForward 1 = .ok (.istore 4, 2) := by decide +kernel
theorem dX0_layForward_3 : decode cX0_layForward 3 = .ok (.iconst 0, 1) := by decide +kernel
theorem dX0_layForward_4 : decode cX0_layForward 4 = .ok (.istore 5, 2) := by decide +kernel
theorem dX0_layForward_6 : decode cX0_layForward 6 = .ok (.iload 5, 2) := by decide +kernel
theorem dX0_layForward_8 : decode cX0_layForward 8 = .ok (.aload_n 0, 1) := by decide +kernel
theorem dX0_layForward_9 : decode cX0_layForward 9 = .ok (.getfield 24, 3) := by decide +kernel
theorem dX0_layForward_12 : decode cX0_layForward 12 = .ok (.if_icmp .ge 56, 3) := by decide +kernel
theorem dX0_layForward_15 : decode cX0_layForward 15 = .ok (.aload_n 0, 1) := by decide +kernel
theorem dX0_layForward_16 : decode cX0_layForward 16 = .ok (.aload_n 1, 1) := by decide +kernel
theorem dX0_layForward_17 : decode cX0_layForward 17 = .ok (.aload_n 2, 1) := by decide +kernel
theorem dX0_layForward_18 : decode cX0_layForward 18 = .ok (.aload_n 3, 1) := by decide +kernel
theorem dX0_layForward_19 : decode cX0_layForward 19 = .ok (.iload 5, 2) := by decide +kernel
theorem dX0_layForward_21 : decode cX0_layForward 21 = .ok (.iload 4, 2) := by decide +kernel
theorem dX0_layForward_23 : decode cX0_layForward 23 = .ok (.invokevirtual 118, 3) := by decide +kernel
theorem dX0_layForward_26 : decode cX0_layForward 26 = .ok (.istore 6, 2) := by decide +kernel
theorem dX0_layForward_28 : decode cX0_layForward 28 = .ok (.aload_n 0, 1) := by decide +kernel
theorem dX0_layForward_29 : decode cX0_layForward 29 = .ok (.getfield 9, 3) := by decide +kernel
theorem dX0_layForward_32 : decode cX0_layForward 32 = .ok (.iload 5, 2) := by decide +kernel
theorem dX0_layForward_34 : decode cX0_layForward 34 = .ok (.iload 6, 2) := by decide +kernel
theorem dX0_layForward_36 : decode cX0_layForward 36 = .ok (.ifCond .ne 7, 3) := by decide +kernel
theorem dX0_layForward_39 : decode cX0_layForward 39 = .ok (.iconst (-1), 1) := by decide +kernel
theorem dX0_layForward_40 : decode cX0_layForward 40 = .ok (.goto 5, 3) := by decide +kernel
theorem dX0_layForward_43 : decode cX0_layForward 43 = .ok (.iload 4, 2) := by decide +kernel
theorem dX0_layForward_45 : decode cX0_layForward 45 = .ok (.iastore, 1) := by decide +kernel
theorem dX0_layForward_46 : decode cX0_layForward 46 = .ok (.aload_n 0, 1) := by decide +kernel
theorem dX0_layForward_47 : decode cX0_layForward 47 = .ok (.getfield 15, 3) := by decide +kernel
theorem dX0_layForward_50 : decode cX0_layForward 50 = .ok (.iload 5, 2) := by decide +kernel
theorem dX0_layForward_52 : decode cX0_layForward 52 = .ok (.iload 6, 2) := by decide +kernel
theorem dX0_layForward_54 : decode cX0_layForward 54 = .ok (.iastore, 1) := by decide +kernel
theorem dX0_layForward_55 : decode cX0_layForward 55 = .ok (.iload 4, 2) := by decide +kernel
theorem dX0_layForward_57 : decode cX0_layForward 57 = .ok (.iload 6, 2) := by decide +kernel
theorem dX0_layForward_59 : decode cX0_layForward 59 = .ok (.iadd, 1) := by decide +kernel
theorem dX0_layForward_60 : decode cX0_layForward 60 = .ok (.istore 4, 2) := by decide +kernel
theorem dX0_layForward_62 : decode cX0_layForward 62 = .ok (.iinc 5 1, 3) := by decide +kernel
theorem dX0_layForward_65 : decode cX0_layForward 65 = .ok (.goto (-59), 3) := by decide +kernel
theorem dX0_layForward_68 : decode cX0_layForward 68 = .ok (.return_, 1) := by decide +kernel
theorem dX0_findTaken_0 : decode cX0_findTaken 0 = .ok (.aload_n 2, 1) := by decide +kernel
theorem dX0_findTaken_1 : decode cX0_findTaken 1 = .ok (.getfield 57, 3) := by decide +kernel
theorem dX0_findTaken_4 : decode cX0_findTaken 4 = .ok (.iload 5, 2) := by decide +kernel
theorem dX0_findTaken_6 : decode cX0_findTaken 6 = .ok (.isub, 1) := by decide +kernel
theorem dX0_findTaken_7 : decode cX0_findTaken 7 = .ok (.istore 6, 2) := by decide +kernel
theorem dX0_findTaken_9 : decode cX0_findTaken 9 = .ok (.iconst 0, 1) := by decide +kernel
theorem dX0_findTaken_10 : decode cX0_findTaken 10 = .ok (.istore 7, 2) := by decide +kernel
theorem dX0_findTaken_12 : decode cX0_findTaken 12 = .ok (.iconst 0, 1) := by decide +kernel
theorem dX0_findTaken_13 : decode cX0_findTaken 13 = .ok (.istore 8, 2) := by decide +kernel
theorem dX0_findTaken_15 : decode cX0_findTaken 15 = .ok (.iload 8, 2) := by decide +kernel
theorem dX0_findTaken_17 : decode cX0_findTaken 17 = .ok (.iload 6, 2) := by decide +kernel
theorem dX0_findTaken_19 : decode cX0_findTaken 19 = .ok (.if_icmp .ge 87, 3) := by decide +kernel
theorem dX0_findTaken_22 : decode cX0_findTaken 22 = .ok (.iload 7, 2) := by decide +kernel
theorem dX0_findTaken_24 : decode cX0_findTaken 24 = .ok (.aload_n 3, 1) := by decide +kernel
theorem dX0_findTaken_25 : decode cX0_findTaken 25 = .ok (.iload 8, 2) := by decide +kernel
theorem dX0_findTaken_27 : decode cX0_findTaken 27 = .ok (.aload_n 1, 1) := by decide +kernel
theorem dX0_findTaken_28 : decode cX0_findTaken 28 = .ok (.getfield 80, 3) := by decide +kernel
theorem dX0_findTaken_31 : decode cX0_findTaken 31 = .ok (.iload 4, 2) := by decide +kernel
theorem dX0_findTaken_33 : decode cX0_findTaken 33 = .ok (.iaload, 1) := by decide +kernel
theorem dX0_findTaken_34 : decode cX0_findTaken 34 = .ok (.invokevirtual 122, 3) := by decide +kernel
theorem dX0_findTaken_37 : decode cX0_findTaken 37 = .ok (.iadd, 1) := by decide +kernel
theorem dX0_findTaken_38 : decode cX0_findTaken 38 = .ok (.aload_n 0, 1) := by decide +kernel
theorem dX0_findTaken_39 : decode cX0_findTaken 39 = .ok (.getfield 42, 3) := by decide +kernel
theorem dX0_findTaken_42 : decode cX0_findTaken 42 = .ok (.iload 4, 2) := by decide +kernel
theorem dX0_findTaken_44 : decode cX0_findTaken 44 = .ok (.iconst 1, 1) := by decide +kernel
theorem dX0_findTaken_45 : decode cX0_findTaken 45 = .ok (.iadd, 1) := by decide +kernel
theorem dX0_findTaken_46 : decode cX0_findTaken 46 = .ok (.aaload, 1) := by decide +kernel
theorem dX0_findTaken_47 : decode cX0_findTaken 47 = .ok (.iload 5, 2) := by decide +kernel
theorem dX0_findTaken_49 : decode cX0_findTaken 49 = .ok (.iload 8, 2) := by decide +kernel
theorem dX0_findTaken_51 : decode cX0_findTaken 51 = .ok (.iadd, 1) := by decide +kernel
theorem dX0_findTaken_52 : decode cX0_findTaken 52 = .ok (.iaload, 1) := by decide +kernel
theorem dX0_findTaken_53 : decode cX0_findTaken 53 = .ok (.iadd, 1) := by decide +kernel
theorem dX0_findTaken_54 : decode cX0_findTaken 54 = .ok (.istore 9, 2) := by decide +kernel
theorem dX0_findTaken_56 : decode cX0_findTaken 56 = .ok (.iload 9, 2) := by decide +kernel
theorem dX0_findTaken_58 : decode cX0_findTaken 58 = .ok (.aload_n 0, 1) := by decide +kernel
theorem dX0_findTaken_59 : decode cX0_findTaken 59 = .ok (.getfield 42, 3) := by decide +kernel
theorem dX0_findTaken_62 : decode cX0_findTaken 62 = .ok (.iload 4, 2) := by decide +kernel
theorem dX0_findTaken_64 : decode cX0_findTaken 64 = .ok (.aaload, 1) := by decide +kernel
theorem dX0_findTaken_65 : decode cX0_findTaken 65 = .ok (.iload 5, 2) := by decide +kernel
theorem dX0_findTaken_67 : decode cX0_findTaken 67 = .ok (.iaload, 1) := by decide +kernel
theorem dX0_findTaken_68 : decode cX0_findTaken 68 = .ok (.if_icmp .ne 6, 3) := by decide +kernel
theorem dX0_findTaken_71 : decode cX0_findTaken 71 = .ok (.iload 8, 2) := by decide +kernel
theorem dX0_findTaken_73 : decode cX0_findTaken 73 = .ok (.ireturn, 1) := by decide +kernel
theorem dX0_findTaken_74 : decode cX0_findTaken 74 = .ok (.iload 7, 2) := by decide +kernel
theorem dX0_findTaken_76 : decode cX0_findTaken 76 = .ok (.aload_n 3, 1) := by decide +kernel
theorem dX0_findTaken_77 : decode cX0_findTaken 77 = .ok (.aload_n 2, 1) := by decide +kernel
theorem dX0_findTaken_78 : decode cX0_findTaken 78 = .ok (.getfield 102, 3) := by decide +kernel
theorem dX0_findTaken_81 : decode cX0_findTaken 81 = .ok (.iload 5, 2) := by decide +kernel
theorem dX0_findTaken_83 : decode cX0_findTaken 83 = .ok (.iload 8, 2) := by decide +kernel
theorem dX0_findTaken_85 : decode cX0_findTaken 85 = .ok (.iadd, 1) := by decide +kernel
theorem dX0_findTaken_86 : decode cX0_findTaken 86 = .ok (.iaload, 1) := by decide +kernel
theorem dX0_findTaken_87 : decode cX0_findTaken 87 = .ok (.aload_n 1, 1) := by decide +kernel
theorem dX0_findTaken_88 : decode cX0_findTaken 88 = .ok (.getfield 64, 3) := by decide +kernel
theorem dX0_findTaken_91 : decode cX0_findTaken 91 = .ok (.iload 4, 2) := by decide +kernel
theorem dX0_findTaken_93 : decode cX0_findTaken 93 = .ok (.iaload, 1) := by decide +kernel
theorem dX0_findTaken_94 : decode cX0_findTaken 94 = .ok (.invokevirtual 105, 3) := by decide +kernel
theorem dX0_findTaken_97 : decode cX0_findTaken 97 = .ok (.iadd, 1) := by decide +kernel
theorem dX0_findTaken_98 : decode cX0_findTaken 98 = .ok (.istore 7, 2) := by decide +kernel
theorem dX0_findTaken_100 : decode cX0_findTaken 100 = .ok (.iinc 8 1, 3) := by decide +kernel
theorem dX0_findTaken_103 : decode cX0_findTaken 103 = .ok (.goto (-88), 3) := by decide +kernel
theorem dX0_findTaken_106 : decode cX0_findTaken 106 = .ok (.iload 6, 2) := by decide +kernel
theorem dX0_findTaken_108 : decode cX0_findTaken 108 = .ok (.ireturn, 1) := by decide +kernel
theorem dX0_hear_0 : decode cX0_hear 0 = .ok (.ldc 125, 2) := by decide +kernel
theorem dX0_hear_2 : decode cX0_hear 2 = .ok (.istore 4, 2) := by decide +kernel
theorem dX0_hear_4 : decode cX0_hear 4 = .ok (.iconst 0, 1) := by decide +kernel
theorem dX0_hear_5 : decode cX0_hear 5 = .ok (.istore 5, 2) := by decide +kernel
theorem dX0_hear_7 : decode cX0_hear 7 = .ok (.aload_n 0, 1) := by decide +kernel
theorem dX0_hear_8 : decode cX0_hear 8 = .ok (.iconst 0, 1) := by decide +kernel
theorem dX0_hear_9 : decode cX0_hear 9 = .ok (.putfield 34, 3) := by decide +kernel
theorem dX0_hear_12 : decode cX0_hear 12 = .ok (.iconst 0, 1) := by decide +kernel
theorem dX0_hear_13 : decode cX0_hear 13 = .ok (.istore 6, 2) := by decide +kernel
theorem dX0_hear_15 : decode cX0_hear 15 = .ok (.iload 6, 2) := by decide +kernel
theorem dX0_hear_17 : decode cX0_hear 17 = .ok (.aload_n 0, 1) := by decide +kernel
theorem dX0_hear_18 : decode cX0_hear 18 = .ok (.getfield 24, 3) := by decide +kernel
theorem dX0_hear_21 : decode cX0_hear 21 = .ok (.if_icmp .ge 141, 3) := by decide +kernel
theorem dX0_hear_24 : decode cX0_hear 24 = .ok (.aload_n 0, 1) := by decide +kernel
theorem dX0_hear_25 : decode cX0_hear 25 = .ok (.getfield 18, 3) := by decide +kernel
theorem dX0_hear_28 : decode cX0_hear 28 = .ok (.iload 6, 2) := by decide +kernel
theorem dX0_hear_30 : decode cX0_hear 30 = .ok (.aload_n 0, 1) := by decide +kernel
theorem dX0_hear_31 : decode cX0_hear 31 = .ok (.aload_n 2, 1) := by decide +kernel
theorem dX0_hear_32 : decode cX0_hear 32 = .ok (.iload 6, 2) := by decide +kernel
theorem dX0_hear_34 : decode cX0_hear 34 = .ok (.aload_n 1, 1) := by decide +kernel
theorem dX0_hear_35 : decode cX0_hear 35 = .ok (.getfield 64, 3) := by decide +kernel
theorem dX0_hear_38 : decode cX0_hear 38 = .ok (.iload 6, 2) := by decide +kernel
theorem dX0_hear_40 : decode cX0_hear 40 = .ok (.iaload, 1) := by decide +kernel
theorem dX0_hear_41 : decode cX0_hear 41 = .ok (.invokevirtual 126, 3) := by decide +kernel
theorem dX0_hear_44 : decode cX0_hear 44 = .ok (.iastore, 1) := by decide +kernel
theorem dX0_hear_45 : decode cX0_hear 45 = .ok (.aload_n 0, 1) := by decide +kernel
theorem dX0_hear_46 : decode cX0_hear 46 = .ok (.getfield 15, 3) := by decide +kernel
theorem dX0_hear_49 : decode cX0_hear 49 = .ok (.iload 6, 2) := by decide +kernel
theorem dX0_hear_51 : decode cX0_hear 51 = .ok (.iaload, 1) := by decide +kernel
theorem dX0_hear_52 : decode cX0_hear 52 = .ok (.ifCond .ne 7, 3) := by decide +kernel
theorem dX0_hear_55 : decode cX0_hear 55 = .ok (.iconst 1, 1) := by decide +kernel
theorem dX0_hear_56 : decode cX0_hear 56 = .ok (.goto 4, 3) := by decide +kernel
theorem dX0_hear_59 : decode cX0_hear 59 = .ok (.iconst 0, 1) := by decide +kernel
theorem dX0_hear_60 : decode cX0_hear 60 = .ok (.istore 7, 2) := by decide +kernel
theorem dX0_hear_62 : decode cX0_hear 62 = .ok (.aload_n 0, 1) := by decide +kernel
theorem dX0_hear_63 : decode cX0_hear 63 = .ok (.getfield 18, 3) := by decide +kernel
theorem dX0_hear_66 : decode cX0_hear 66 = .ok (.iload 6, 2) := by decide +kernel
theorem dX0_hear_68 : decode cX0_hear 68 = .ok (.iaload, 1) := by decide +kernel
theorem dX0_hear_69 : decode cX0_hear 69 = .ok (.ldc 125, 2) := by decide +kernel
theorem dX0_hear_71 : decode cX0_hear 71 = .ok (.if_icmp .eq 52, 3) := by decide +kernel
theorem dX0_hear_74 : decode cX0_hear 74 = .ok (.aload_n 0, 1) := by decide +kernel
theorem dX0_hear_75 : decode cX0_hear 75 = .ok (.getfield 18, 3) := by decide +kernel
theorem dX0_hear_78 : decode cX0_hear 78 = .ok (.iload 6, 2) := by decide +kernel
theorem dX0_hear_80 : decode cX0_hear 80 = .ok (.iaload, 1) := by decide +kernel
theorem dX0_hear_81 : decode cX0_hear 81 = .ok (.iload 5, 2) := by decide +kernel
theorem dX0_hear_83 : decode cX0_hear 83 = .ok (.isub, 1) := by decide +kernel
theorem dX0_hear_84 : decode cX0_hear 84 = .ok (.invokestatic 130, 3) := by decide +kernel
theorem dX0_hear_87 : decode cX0_hear 87 = .ok (.iload_n 3, 1) := by decide +kernel
theorem dX0_hear_88 : decode cX0_hear 88 = .ok (.if_icmp .le 7, 3) := by decide +kernel
theorem dX0_hear_91 : decode cX0_hear 91 = .ok (.iconst 1, 1) := by decide +kernel
theorem dX0_hear_92 : decode cX0_hear 92 = .ok (.goto 4, 3) := by decide +kernel
theorem dX0_hear_95 : decode cX0_hear 95 = .ok (.iconst 0, 1) := by decide +kernel
theorem dX0_hear_96 : decode cX0_hear 96 = .ok (.istore 7, 2) := by decide +kernel
theorem dX0_hear_98 : decode cX0_hear 98 = .ok (.aload_n 0, 1) := by decide +kernel
theorem dX0_hear_99 : decode cX0_hear 99 = .ok (.getfield 18, 3) := by decide +kernel
theorem dX0_hear_102 : decode cX0_hear 102 = .ok (.iload 6, 2) := by decide +kernel
theorem dX0_hear_104 : decode cX0_hear 104 = .ok (.iaload, 1) := by decide +kernel
theorem dX0_hear_105 : decode cX0_hear 105 = .ok (.istore 5, 2) := by decide +kernel
theorem dX0_hear_107 : decode cX0_hear 107 = .ok (.iload 4, 2) := by decide +kernel
theorem dX0_hear_109 : decode cX0_hear 109 = .ok (.ldc 125, 2) := by decide +kernel
theorem dX0_hear_111 : decode cX0_hear 111 = .ok (.if_icmp .ne 8, 3) := by decide +kernel
theorem dX0_hear_114 : decode cX0_hear 114 = .ok (.iload 5, 2) := by decide +kernel
theorem dX0_hear_116 : decode cX0_hear 116 = .ok (.goto 5, 3) := by decide +kernel
theorem dX0_hear_119 : decode cX0_hear 119 = .ok (.iload 4, 2) := by decide +kernel
theorem dX0_hear_121 : decode cX0_hear 121 = .ok (.istore 4, 2) := by decide +kernel
theorem dX0_hear_123 : decode cX0_hear 123 = .ok (.aload_n 0, 1) := by decide +kernel
theorem dX0_hear_124 : decode cX0_hear 124 = .ok (.getfield 21, 3) := by decide +kernel
theorem dX0_hear_127 : decode cX0_hear 127 = .ok (.iload 6, 2) := by decide +kernel
theorem dX0_hear_129 : decode cX0_hear 129 = .ok (.iload 7, 2) := by decide +kernel
theorem dX0_hear_131 : decode cX0_hear 131 = .ok (.ifCond .eq 7, 3) := by decide +kernel
theorem dX0_hear_134 : decode cX0_hear 134 = .ok (.iconst 1, 1) := by decide +kernel
theorem dX0_hear_135 : decode cX0_hear 135 = .ok (.goto 4, 3) := by decide +kernel
theorem dX0_hear_138 : decode cX0_hear 138 = .ok (.iconst 0, 1) := by decide +kernel
theorem dX0_hear_139 : decode cX0_hear 139 = .ok (.iastore, 1) := by decide +kernel
theorem dX0_hear_140 : decode cX0_hear 140 = .ok (.aload_n 0, 1) := by decide +kernel
theorem dX0_hear_141 : decode cX0_hear 141 = .ok (.dup, 1) := by decide +kernel
theorem dX0_hear_142 : decode cX0_hear 142 = .ok (.getfield 34, 3) := by decide +kernel
theorem dX0_hear_145 : decode cX0_hear 145 = .ok (.aload_n 0, 1) := by decide +kernel
theorem dX0_hear_146 : decode cX0_hear 146 = .ok (.getfield 21, 3) := by decide +kernel
theorem dX0_hear_149 : decode cX0_hear 149 = .ok (.iload 6, 2) := by decide +kernel
theorem dX0_hear_151 : decode cX0_hear 151 = .ok (.iaload, 1) := by decide +kernel
theorem dX0_hear_152 : decode cX0_hear 152 = .ok (.iadd, 1) := by decide +kernel
theorem dX0_hear_153 : decode cX0_hear 153 = .ok (.putfield 34, 3) := by decide +kernel
theorem dX0_hear_156 : decode cX0_hear 156 = .ok (.iinc 6 1, 3) := by decide +kernel
theorem dX0_hear_159 : decode cX0_hear 159 = .ok (.goto (-144), 3) := by decide +kernel
theorem dX0_hear_162 : decode cX0_hear 162 = .ok (.aload_n 0, 1) := by decide +kernel
theorem dX0_hear_163 : decode cX0_hear 163 = .ok (.iload 4, 2) := by decide +kernel
theorem dX0_hear_165 : decode cX0_hear 165 = .ok (.ldc 125, 2) := by decide +kernel
theorem dX0_hear_167 : decode cX0_hear 167 = .ok (.if_icmp .ne 7, 3) := by decide +kernel
theorem dX0_hear_170 : decode cX0_hear 170 = .ok (.iconst 0, 1) := by decide +kernel
theorem dX0_hear_171 : decode cX0_hear 171 = .ok (.goto 8, 3) := by decide +kernel
theorem dX0_hear_174 : decode cX0_hear 174 = .ok (.iload 4, 2) := by decide +kernel
theorem dX0_hear_176 : decode cX0_hear 176 = .ok (.iload 5, 2) := by decide +kernel
theorem dX0_hear_178 : decode cX0_hear 178 = .ok (.isub, 1) := by decide +kernel
theorem dX0_hear_179 : decode cX0_hear 179 = .ok (.putfield 31, 3) := by decide +kernel
theorem dX0_hear_182 : decode cX0_hear 182 = .ok (.return_, 1) := by decide +kernel
theorem dX0_findOff_0 : decode cX0_findOff 0 = .ok (.iconst 0, 1) := by decide +kernel
theorem dX0_findOff_1 : decode cX0_findOff 1 = .ok (.istore 4, 2) := by decide +kernel
theorem dX0_findOff_3 : decode cX0_findOff 3 = .ok (.iconst 0, 1) := by decide +kernel
theorem dX0_findOff_4 : decode cX0_findOff 4 = .ok (.istore 5, 2) := by decide +kernel
theorem dX0_findOff_6 : decode cX0_findOff 6 = .ok (.iconst 0, 1) := by decide +kernel
theorem dX0_findOff_7 : decode cX0_findOff 7 = .ok (.istore 6, 2) := by decide +kernel
theorem dX0_findOff_9 : decode cX0_findOff 9 = .ok (.iload 6, 2) := by decide +kernel
theorem dX0_findOff_11 : decode cX0_findOff 11 = .ok (.aload_n 0, 1) := by decide +kernel
theorem dX0_findOff_12 : decode cX0_findOff 12 = .ok (.getfield 15, 3) := by decide +kernel
theorem dX0_findOff_15 : decode cX0_findOff 15 = .ok (.iload_n 2, 1) := by decide +kernel
theorem dX0_findOff_16 : decode cX0_findOff 16 = .ok (.iaload, 1) := by decide +kernel
theorem dX0_findOff_17 : decode cX0_findOff 17 = .ok (.if_icmp .ge 43, 3) := by decide +kernel
theorem dX0_findOff_20 : decode cX0_findOff 20 = .ok (.aload_n 1, 1) := by decide +kernel
theorem dX0_findOff_21 : decode cX0_findOff 21 = .ok (.getfield 102, 3) := by decide +kernel
theorem dX0_findOff_24 : decode cX0_findOff 24 = .ok (.aload_n 0, 1) := by decide +kernel
theorem dX0_findOff_25 : decode cX0_findOff 25 = .ok (.getfield 9, 3) := by decide +kernel
theorem dX0_findOff_28 : decode cX0_findOff 28 = .ok (.iload_n 2, 1) := by decide +kernel
theorem dX0_findOff_29 : decode cX0_findOff 29 = .ok (.iaload, 1) := by decide +kernel
theorem dX0_findOff_30 : decode cX0_findOff 30 = .ok (.iload 6, 2) := by decide +kernel
theorem dX0_findOff_32 : decode cX0_findOff 32 = .ok (.iadd, 1) := by decide +kernel
theorem dX0_findOff_33 : decode cX0_findOff 33 = .ok (.iaload, 1) := by decide +kernel
theorem dX0_findOff_34 : decode cX0_findOff 34 = .ok (.istore 7, 2) := by decide +kernel
theorem dX0_findOff_36 : decode cX0_findOff 36 = .ok (.iload 7, 2) := by decide +kernel
theorem dX0_findOff_38 : decode cX0_findOff 38 = .ok (.iconst (-1), 1) := by decide +kernel
theorem dX0_findOff_39 : decode cX0_findOff 39 = .ok (.if_icmp .eq 15, 3) := by decide +kernel
theorem dX0_findOff_42 : decode cX0_findOff 42 = .ok (.iinc 4 1, 3) := by decide +kernel
theorem dX0_findOff_45 : decode cX0_findOff 45 = .ok (.iload 5, 2) := by decide +kernel
theorem dX0_findOff_47 : decode cX0_findOff 47 = .ok (.iload 7, 2) := by decide +kernel
theorem dX0_findOff_49 : decode cX0_findOff 49 = .ok (.iload_n 3, 1) := by decide +kernel
theorem dX0_findOff_50 : decode cX0_findOff 50 = .ok (.isub, 1) := by decide +kernel
theorem dX0_findOff_51 : decode cX0_findOff 51 = .ok (.iadd, 1) := by decide +kernel
theorem dX0_findOff_52 : decode cX0_findOff 52 = .ok (.istore 5, 2) := by decide +kernel
theorem dX0_findOff_54 : decode cX0_findOff 54 = .ok (.iinc 6 1, 3) := by decide +kernel
theorem dX0_findOff_57 : decode cX0_findOff 57 = .ok (.goto (-48), 3) := by decide +kernel
theorem dX0_findOff_60 : decode cX0_findOff 60 = .ok (.iload 4, 2) := by decide +kernel
theorem dX0_findOff_62 : decode cX0_findOff 62 = .ok (.ifCond .ne 8, 3) := by decide +kernel
theorem dX0_findOff_65 : decode cX0_findOff 65 = .ok (.ldc 125, 2) := by decide +kernel
theorem dX0_findOff_67 : decode cX0_findOff 67 = .ok (.goto 10, 3) := by decide +kernel
theorem dX0_findOff_70 : decode cX0_findOff 70 = .ok (.iload 5, 2) := by decide +kernel
theorem dX0_findOff_72 : decode cX0_findOff 72 = .ok (.iload 4, 2) := by decide +kernel
theorem dX0_findOff_74 : decode cX0_findOff 74 = .ok (.invokestatic 134, 3) := by decide +kernel
theorem dX0_findOff_77 : decode cX0_findOff 77 = .ok (.ireturn, 1) := by decide +kernel
