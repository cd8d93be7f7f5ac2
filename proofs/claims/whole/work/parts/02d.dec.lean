theorem dX8_init_0 : decode cX8_init 0 = .ok (.aload_n 0, 1) := by decide +kernel
theorem dX8_init_1 : decode cX8_init 1 = .ok (.invokespecial 1, 3) := by decide +kernel
theorem dX8_init_4 : decode cX8_init 4 = .ok (.aload_n 0, 1) := by decide +kernel
theorem dX8_init_5 : decode cX8_init 5 = .ok (.bipush 6, 2) := by decide +kernel
theorem dX8_init_7 : decode cX8_init 7 = .ok (.newarray .int, 2) := by decide +kernel
theorem dX8_init_9 : decode cX8_init 9 = .ok (.putfield 7, 3) := by decide +kernel
theorem dX8_init_12 : decode cX8_init 12 = .ok (.aload_n 0, 1) := by decide +kernel
theorem dX8_init_13 : decode cX8_init 13 = .ok (.sipush 144, 3) := by decide +kernel
theorem dX8_init_16 : decode cX8_init 16 = .ok (.newarray .int, 2) := by decide +kernel
theorem dX8_init_18 : decode cX8_init 18 = .ok (.putfield 13, 3) := by decide +kernel
theorem dX8_init_21 : decode cX8_init 21 = .ok (.aload_n 0, 1) := by decide +kernel
theorem dX8_init_22 : decode cX8_init 22 = .ok (.sipush 144, 3) := by decide +kernel
theorem dX8_init_25 : decode cX8_init 25 = .ok (.newarray .int, 2) := by decide +kernel
theorem dX8_init_27 : decode cX8_init 27 = .ok (.putfield 16, 3) := by decide +kernel
theorem dX8_init_30 : decode cX8_init 30 = .ok (.aload_n 0, 1) := by decide +kernel
theorem dX8_init_31 : decode cX8_init 31 = .ok (.bipush 10, 2) := by decide +kernel
theorem dX8_init_33 : decode cX8_init 33 = .ok (.newarray .int, 2) := by decide +kernel
theorem dX8_init_35 : decode cX8_init 35 = .ok (.putfield 19, 3) := by decide +kernel
theorem dX8_init_38 : decode cX8_init 38 = .ok (.aload_n 0, 1) := by decide +kernel
theorem dX8_init_39 : decode cX8_init 39 = .ok (.bipush 10, 2) := by decide +kernel
theorem dX8_init_41 : decode cX8_init 41 = .ok (.newarray .int, 2) := by decide +kernel
theorem dX8_init_43 : decode cX8_init 43 = .ok (.putfield 22, 3) := by decide +kernel
theorem dX8_init_46 : decode cX8_init 46 = .ok (.aload_n 0, 1) := by decide +kernel
theorem dX8_init_47 : decode cX8_init 47 = .ok (.sipush 1200, 3) := by decide +kernel
theorem dX8_init_50 : decode cX8_init 50 = .ok (.newarray .int, 2) := by decide +kernel
theorem dX8_init_52 : decode cX8_init 52 = .ok (.putfield 25, 3) := by decide +kernel
theorem dX8_init_55 : decode cX8_init 55 = .ok (.aload_n 0, 1) := by decide +kernel
theorem dX8_init_56 : decode cX8_init 56 = .ok (.iconst 2, 1) := by decide +kernel
theorem dX8_init_57 : decode cX8_init 57 = .ok (.putfield 28, 3) := by decide +kernel
theorem dX8_init_60 : decode cX8_init 60 = .ok (.aload_n 0, 1) := by decide +kernel
theorem dX8_init_61 : decode cX8_init 61 = .ok (.bipush 20, 2) := by decide +kernel
theorem dX8_init_63 : decode cX8_init 63 = .ok (.putfield 32, 3) := by decide +kernel
theorem dX8_init_66 : decode cX8_init 66 = .ok (.aload_n 0, 1) := by decide +kernel
theorem dX8_init_67 : decode cX8_init 67 = .ok (.bipush 30, 2) := by decide +kernel
theorem dX8_init_69 : decode cX8_init 69 = .ok (.putfield 35, 3) := by decide +kernel
theorem dX8_init_72 : decode cX8_init 72 = .ok (.aload_n 0, 1) := by decide +kernel
theorem dX8_init_73 : decode cX8_init 73 = .ok (.sipush 400, 3) := by decide +kernel
theorem dX8_init_76 : decode cX8_init 76 = .ok (.putfield 38, 3) := by decide +kernel
theorem dX8_init_79 : decode cX8_init 79 = .ok (.aload_n 0, 1) := by decide +kernel
theorem dX8_init_80 : decode cX8_init 80 = .ok (.bipush 40, 2) := by decide +kernel
theorem dX8_init_82 : decode cX8_init 82 = .ok (.putfield 41, 3) := by decide +kernel
theorem dX8_init_85 : decode cX8_init 85 = .ok (.aload_n 0, 1) := by decide +kernel
theorem dX8_init_86 : decode cX8_init 86 = .ok (.sipush 3025, 3) := by decide +kernel
theorem dX8_init_89 : decode cX8_init 89 = .ok (.newarray .int, 2) := by decide +kernel
theorem dX8_init_91 : decode cX8_init 91 = .ok (.putfield 44, 3) := by decide +kernel
theorem dX8_init_94 : decode cX8_init 94 = .ok (.aload_n 0, 1) := by decide +kernel
theorem dX8_init_95 : decode cX8_init 95 = .ok (.bipush 24, 2) := by decide +kernel
theorem dX8_init_97 : decode cX8_init 97 = .ok (.newarray .int, 2) := by decide +kernel
theorem dX8_init_99 : decode cX8_init 99 = .ok (.putfield 47, 3) := by decide +kernel
theorem dX8_init_102 : decode cX8_init 102 = .ok (.aload_n 0, 1) := by decide +kernel
theorem dX8_init_103 : decode cX8_init 103 = .ok (.bipush 24, 2) := by decide +kernel
theorem dX8_init_105 : decode cX8_init 105 = .ok (.newarray .int, 2) := by decide +kernel
theorem dX8_init_107 : decode cX8_init 107 = .ok (.putfield 50, 3) := by decide +kernel
theorem dX8_init_110 : decode cX8_init 110 = .ok (.aload_n 0, 1) := by decide +kernel
theorem dX8_init_111 : decode cX8_init 111 = .ok (.bipush 24, 2) := by decide +kernel
theorem dX8_init_113 : decode cX8_init 113 = .ok (.newarray .int, 2) := by decide +kernel
theorem dX8_init_115 : decode cX8_init 115 = .ok (.putfield 53, 3) := by decide +kernel
theorem dX8_init_118 : decode cX8_init 118 = .ok (.aload_n 0, 1) := by decide +kernel
theorem dX8_init_119 : decode cX8_init 119 = .ok (.bipush 24, 2) := by decide +kernel
theorem dX8_init_121 : decode cX8_init 121 = .ok (.newarray .boolean, 2) := by decide +kernel
theorem dX8_init_123 : decode cX8_init 123 = .ok (.putfield 56, 3) := by decide +kernel
theorem dX8_init_126 : decode cX8_init 126 = .ok (.aload_n 0, 1) := by decide +kernel
theorem dX8_init_127 : decode cX8_init 127 = .ok (.bipush 9, 2) := by decide +kernel
theorem dX8_init_129 : decode cX8_init 129 = .ok (.newarray .int, 2) := by decide +kernel
theorem dX8_init_131 : decode cX8_init 131 = .ok (.putfield 60, 3) := by decide +kernel
theorem dX8_init_134 : decode cX8_init 134 = .ok (.aload_n 0, 1) := by decide +kernel
theorem dX8_init_135 : decode cX8_init 135 = .ok (.bipush 9, 2) := by decide +kernel
theorem dX8_init_137 : decode cX8_init 137 = .ok (.newarray .int, 2) := by decide +kernel
theorem dX8_init_139 : decode cX8_init 139 = .ok (.putfield 63, 3) := by decide +kernel
theorem dX8_init_142 : decode cX8_init 142 = .ok (.aload_n 0, 1) := by decide +kernel
theorem dX8_init_143 : decode cX8_init 143 = .ok (.bipush 90, 2) := by decide +kernel
theorem dX8_init_145 : decode cX8_init 145 = .ok (.newarray .int, 2) := by decide +kernel
theorem dX8_init_147 : decode cX8_init 147 = .ok (.putfield 66, 3) := by decide +kernel
theorem dX8_init_150 : decode cX8_init 150 = .ok (.aload_n 0, 1) := by decide +kernel
theorem dX8_init_151 : decode cX8_init 151 = .ok (.bipush 10, 2) := by decide +kernel
theorem dX8_init_153 : decode cX8_init 153 = .ok (.newarray .int, 2) := by decide +kernel
theorem dX8_init_155 : decode cX8_init 155 = .ok (.putfield 69, 3) := by decide +kernel
theorem dX8_init_158 : decode cX8_init 158 = .ok (.aload_n 0, 1) := by decide +kernel
theorem dX8_init_159 : decode cX8_init 159 = .ok (.bipush 60, 2) := by decide +kernel
theorem dX8_init_161 : decode cX8_init 161 = .ok (.newarray .int, 2) := by decide +kernel
theorem dX8_init_163 : decode cX8_init 163 = .ok (.putfield 72, 3) := by decide +kernel
theorem dX8_init_166 : decode cX8_init 166 = .ok (.aload_n 0, 1) := by decide +kernel
theorem dX8_init_167 : decode cX8_init 167 = .ok (.bipush 60, 2) := by decide +kernel
theorem dX8_init_169 : decode cX8_init 169 = .ok (.newarray .int, 2) := by decide +kernel
theorem dX8_init_171 : decode cX8_init 171 = .ok (.putfield 75, 3) := by decide +kernel
theorem dX8_init_174 : decode cX8_init 174 = .ok (.aload_n 0, 1) := by decide +kernel
theorem dX8_init_175 : decode cX8_init 175 = .ok (.bipush 60, 2) := by decide +kernel
theorem dX8_init_177 : decode cX8_init 177 = .ok (.newarray .int, 2) := by decide +kernel
theorem dX8_init_179 : decode cX8_init 179 = .ok (.putfield 78, 3) := by decide +kernel
theorem dX8_init_182 : decode cX8_init 182 = .ok (.aload_n 0, 1) := by decide +kernel
theorem dX8_init_183 : decode cX8_init 183 = .ok (.bipush 60, 2) := by decide +kernel
theorem dX8_init_185 : decode cX8_init 185 = .ok (.newarray .int, 2) := by decide +kernel
theorem dX8_init_187 : decode cX8_init 187 = .ok (.putfield 81, 3) := by decide +kernel
theorem dX8_init_190 : decode cX8_init 190 = .ok (.aload_n 0, 1) := by decide +kernel
theorem dX8_init_191 : decode cX8_init 191 = .ok (.bipush 12, 2) := by decide +kernel
theorem dX8_init_193 : decode cX8_init 193 = .ok (.newarray .int, 2) := by decide +kernel
theorem dX8_init_195 : decode cX8_init 195 = .ok (.putfield 84, 3) := by decide +kernel
theorem dX8_init_198 : decode cX8_init 198 = .ok (.aload_n 0, 1) := by decide +kernel
theorem dX8_init_199 : decode cX8_init 199 = .ok (.iconst 2, 1) := by decide +kernel
theorem dX8_init_200 : decode cX8_init 200 = .ok (.putfield 87, 3) := by decide +kernel
theorem dX8_init_203 : decode cX8_init 203 = .ok (.aload_n 0, 1) := by decide +kernel
theorem dX8_init_204 : decode cX8_init 204 = .ok (.bipush 12, 2) := by decide +kernel
theorem dX8_init_206 : decode cX8_init 206 = .ok (.newarray .int, 2) := by decide +kernel
theorem dX8_init_208 : decode cX8_init 208 = .ok (.putfield 90, 3) := by decide +kernel
theorem dX8_init_211 : decode cX8_init 211 = .ok (.aload_n 0, 1) := by decide +kernel
theorem dX8_init_212 : decode cX8_init 212 = .ok (.bipush 12, 2) := by decide +kernel
theorem dX8_init_214 : decode cX8_init 214 = .ok (.newarray .int, 2) := by decide +kernel
theorem dX8_init_216 : decode cX8_init 216 = .ok (.putfield 93, 3) := by decide +kernel
theorem dX8_init_219 : decode cX8_init 219 = .ok (.aload_n 0, 1) := by decide +kernel
theorem dX8_init_220 : decode cX8_init 220 = .ok (.sipush 144, 3) := by decide +kernel
theorem dX8_init_223 : decode cX8_init 223 = .ok (.newarray .boolean, 2) := by decide +kernel
theorem dX8_init_225 : decode cX8_init 225 = .ok (.putfield 96, 3) := by decide +kernel
theorem dX8_init_228 : decode cX8_init 228 = .ok (.aload_n 0, 1) := by decide +kernel
theorem dX8_init_229 : decode cX8_init 229 = .ok (.bipush 12, 2) := by decide +kernel
theorem dX8_init_231 : decode cX8_init 231 = .ok (.newarray .int, 2) := by decide +kernel
theorem dX8_init_233 : decode cX8_init 233 = .ok (.putfield 99, 3) := by decide +kernel
theorem dX8_init_236 : decode cX8_init 236 = .ok (.return_, 1) := by decide +kernel
theorem dX8_isIn_0 : decode cX8_isIn 0 = .ok (.iload_n 0, 1) := by decide +kernel
theorem dX8_isIn_1 : decode cX8_isIn 1 = .ok (.iload_n 1, 1) := by decide +kernel
theorem dX8_isIn_2 : decode cX8_isIn 2 = .ok (.if_icmp .lt 12, 3) := by decide +kernel
theorem dX8_isIn_5 : decode cX8_isIn 5 = .ok (.iload_n 0, 1) := by decide +kernel
theorem dX8_isIn_6 : decode cX8_isIn 6 = .ok (.iload_n 2, 1) := by decide +kernel
theorem dX8_isIn_7 : decode cX8_isIn 7 = .ok (.if_icmp .gt 7, 3) := by decide +kernel
theorem dX8_isIn_10 : decode cX8_isIn 10 = .ok (.iconst 1, 1) := by decide +kernel
theorem dX8_isIn_11 : decode cX8_isIn 11 = .ok (.goto 4, 3) := by decide +kernel
theorem dX8_isIn_14 : decode cX8_isIn 14 = .ok (.iconst 0, 1) := by decide +kernel
theorem dX8_isIn_15 : decode cX8_isIn 15 = .ok (.ireturn, 1) := by decide +kernel
theorem dX8_isRecording_0 : decode cX8_isRecording 0 = .ok (.iload_n 0, 1) := by decide +kernel
theorem dX8_isRecording_1 : decode cX8_isRecording 1 = .ok (.iconst 0, 1) := by decide +kernel
theorem dX8_isRecording_2 : decode cX8_isRecording 2 = .ok (.bipush 9, 2) := by decide +kernel
theorem dX8_isRecording_4 : decode cX8_isRecording 4 = .ok (.invokestatic 102, 3) := by decide +kernel
theorem dX8_isRecording_7 : decode cX8_isRecording 7 = .ok (.ireturn, 1) := by decide +kernel
theorem dX8_far_0 : decode cX8_far 0 = .ok (.iload_n 0, 1) := by decide +kernel
theorem dX8_far_1 : decode cX8_far 1 = .ok (.iload_n 1, 1) := by decide +kernel
theorem dX8_far_2 : decode cX8_far 2 = .ok (.if_icmp .ge 9, 3) := by decide +kernel
theorem dX8_far_5 : decode cX8_far 5 = .ok (.iload_n 1, 1) := by decide +kernel
theorem dX8_far_6 : decode cX8_far 6 = .ok (.iload_n 0, 1) := by decide +kernel
theorem dX8_far_7 : decode cX8_far 7 = .ok (.isub, 1) := by decide +kernel
theorem dX8_far_8 : decode cX8_far 8 = .ok (.goto 6, 3) := by decide +kernel
theorem dX8_far_11 : decode cX8_far 11 = .ok (.iload_n 0, 1) := by decide +kernel
theorem dX8_far_12 : decode cX8_far 12 = .ok (.iload_n 1, 1) := by decide +kernel
theorem dX8_far_13 : decode cX8_far 13 = .ok (.isub, 1) := by decide +kernel
theorem dX8_far_14 : decode cX8_far 14 = .ok (.ireturn, 1) := by decide +kernel
theorem dX8_note_0 : decode cX8_note 0 = .ok (.iload_n 1, 1) := by decide +kernel
theorem dX8_note_1 : decode cX8_note 1 = .ok (.iconst 0, 1) := by decide +kernel
theorem dX8_note_2 : decode cX8_note 2 = .ok (.iconst 5, 1) := by decide +kernel
theorem dX8_note_3 : decode cX8_note 3 = .ok (.invokestatic 102, 3) := by decide +kernel
theorem dX8_note_6 : decode cX8_note 6 = .ok (.ifCond .eq 35, 3) := by decide +kernel
theorem dX8_note_9 : decode cX8_note 9 = .ok (.iload_n 2, 1) := by decide +kernel
theorem dX8_note_10 : decode cX8_note 10 = .ok (.iconst 0, 1) := by decide +kernel
theorem dX8_note_11 : decode cX8_note 11 = .ok (.sipush 4800, 3) := by decide +kernel
theorem dX8_note_14 : decode cX8_note 14 = .ok (.invokestatic 102, 3) := by decide +kernel
theorem dX8_note_17 : decode cX8_note 17 = .ok (.ifCond .eq 24, 3) := by decide +kernel
theorem dX8_note_20 : decode cX8_note 20 = .ok (.iload_n 3, 1) := by decide +kernel
theorem dX8_note_21 : decode cX8_note 21 = .ok (.iconst 1, 1) := by decide +kernel
theorem dX8_note_22 : decode cX8_note 22 = .ok (.bipush 8, 2) := by decide +kernel
theorem dX8_note_24 : decode cX8_note 24 = .ok (.invokestatic 102, 3) := by decide +kernel
theorem dX8_note_27 : decode cX8_note 27 = .ok (.ifCond .eq 14, 3) := by decide +kernel
theorem dX8_note_30 : decode cX8_note 30 = .ok (.aload_n 0, 1) := by decide +kernel
theorem dX8_note_31 : decode cX8_note 31 = .ok (.getfield 7, 3) := by decide +kernel
theorem dX8_note_34 : decode cX8_note 34 = .ok (.iload_n 1, 1) := by decide +kernel
theorem dX8_note_35 : decode cX8_note 35 = .ok (.iaload, 1) := by decide +kernel
theorem dX8_note_36 : decode cX8_note 36 = .ok (.bipush 24, 2) := by decide +kernel
theorem dX8_note_38 : decode cX8_note 38 = .ok (.if_icmp .ne 5, 3) := by decide +kernel
theorem dX8_note_41 : decode cX8_note 41 = .ok (.iconst (-1), 1) := by decide +kernel
theorem dX8_note_42 : decode cX8_note 42 = .ok (.ireturn, 1) := by decide +kernel
theorem dX8_note_43 : decode cX8_note 43 = .ok (.aload_n 0, 1) := by decide +kernel
theorem dX8_note_44 : decode cX8_note 44 = .ok (.getfield 13, 3) := by decide +kernel
theorem dX8_note_47 : decode cX8_note 47 = .ok (.bipush 24, 2) := by decide +kernel
theorem dX8_note_49 : decode cX8_note 49 = .ok (.iload_n 1, 1) := by decide +kernel
theorem dX8_note_50 : decode cX8_note 50 = .ok (.imul, 1) := by decide +kernel
theorem dX8_note_51 : decode cX8_note 51 = .ok (.aload_n 0, 1) := by decide +kernel
theorem dX8_note_52 : decode cX8_note 52 = .ok (.getfield 7, 3) := by decide +kernel
theorem dX8_note_55 : decode cX8_note 55 = .ok (.iload_n 1, 1) := by decide +kernel
theorem dX8_note_56 : decode cX8_note 56 = .ok (.iaload, 1) := by decide +kernel
theorem dX8_note_57 : decode cX8_note 57 = .ok (.iadd, 1) := by decide +kernel
theorem dX8_note_58 : decode cX8_note 58 = .ok (.iload_n 2, 1) := by decide +kernel
theorem dX8_note_59 : decode cX8_note 59 = .ok (.iastore, 1) := by decide +kernel
theorem dX8_note_60 : decode cX8_note 60 = .ok (.aload_n 0, 1) := by decide +kernel
theorem dX8_note_61 : decode cX8_note 61 = .ok (.getfield 16, 3) := by decide +kernel
theorem dX8_note_64 : decode cX8_note 64 = .ok (.bipush 24, 2) := by decide +kernel
theorem dX8_note_66 : decode cX8_note 66 = .ok (.iload_n 1, 1) := by decide +kernel
theorem dX8_note_67 : decode cX8_note 67 = .ok (.imul, 1) := by decide +kernel
theorem dX8_note_68 : decode cX8_note 68 = .ok (.aload_n 0, 1) := by decide +kernel
theorem dX8_note_69 : decode cX8_note 69 = .ok (.getfield 7, 3) := by decide +kernel
theorem dX8_note_72 : decode cX8_note 72 = .ok (.iload_n 1, 1) := by decide +kernel
theorem dX8_note_73 : decode cX8_note 73 = .ok (.iaload, 1) := by decide +kernel
theorem dX8_note_74 : decode cX8_note 74 = .ok (.iadd, 1) := by decide +kernel
theorem dX8_note_75 : decode cX8_note 75 = .ok (.iload_n 3, 1) := by decide +kernel
theorem dX8_note_76 : decode cX8_note 76 = .ok (.iastore, 1) := by decide +kernel
theorem dX8_note_77 : decode cX8_note 77 = .ok (.aload_n 0, 1) := by decide +kernel
theorem dX8_note_78 : decode cX8_note 78 = .ok (.getfield 7, 3) := by decide +kernel
theorem dX8_note_81 : decode cX8_note 81 = .ok (.iload_n 1, 1) := by decide +kernel
theorem dX8_note_82 : decode cX8_note 82 = .ok (.dup2, 1) := by decide +kernel
theorem dX8_note_83 : decode cX8_note 83 = .ok (.iaload, 1) := by decide +kernel
theorem dX8_note_84 : decode cX8_note 84 = .ok (.iconst 1, 1) := by decide +kernel
theorem dX8_note_85 : decode cX8_note 85 = .ok (.iadd, 1) := by decide +kernel
theorem dX8_note_86 : decode cX8_note 86 = .ok (.iastore, 1) := by decide +kernel
theorem dX8_note_87 : decode cX8_note 87 = .ok (.aload_n 0, 1) := by decide +kernel
theorem dX8_note_88 : decode cX8_note 88 = .ok (.getfield 7, 3) := by decide +kernel
theorem dX8_note_91 : decode cX8_note 91 = .ok (.iload_n 1, 1) := by decide +kernel
theorem dX8_note_92 : decode cX8_note 92 = .ok (.iaload, 1) := by decide +kernel
theorem dX8_note_93 : decode cX8_note 93 = .ok (.ireturn, 1) := by decide +kernel
theorem dX8_record_0 : decode cX8_record 0 = .ok (.iload_n 1, 1) := by decide +kernel
theorem dX8_record_1 : decode cX8_record 1 = .ok (.invokestatic 106, 3) := by decide +kernel
theorem dX8_record_4 : decode cX8_record 4 = .ok (.ifCond .eq 12, 3) := by decide +kernel
theorem dX8_record_7 : decode cX8_record 7 = .ok (.iload_n 2, 1) := by decide +kernel
theorem dX8_record_8 : decode cX8_record 8 = .ok (.iconst 0, 1) := by decide +kernel
theorem dX8_record_9 : decode cX8_record 9 = .ok (.iconst 5, 1) := by decide +kernel
theorem dX8_record_10 : decode cX8_record 10 = .ok (.invokestatic 102, 3) := by decide +kernel
theorem dX8_record_13 : decode cX8_record 13 = .ok (.ifCond .ne 5, 3) := by decide +kernel
theorem dX8_record_16 : decode cX8_record 16 = .ok (.iconst (-1), 1) := by decide +kernel
theorem dX8_record_17 : decode cX8_record 17 = .ok (.ireturn, 1) := by decide +kernel
theorem dX8_record_18 : decode cX8_record 18 = .ok (.aload_n 0, 1) := by decide +kernel
theorem dX8_record_19 : decode cX8_record 19 = .ok (.getfield 22, 3) := by decide +kernel
theorem dX8_record_22 : decode cX8_record 22 = .ok (.iload_n 1, 1) := by decide +kernel
theorem dX8_record_23 : decode cX8_record 23 = .ok (.iaload, 1) := by decide +kernel
theorem dX8_record_24 : decode cX8_record 24 = .ok (.istore_n 3, 1) := by decide +kernel
theorem dX8_record_25 : decode cX8_record 25 = .ok (.aload_n 0, 1) := by decide +kernel
theorem dX8_record_26 : decode cX8_record 26 = .ok (.getfield 19, 3) := by decide +kernel
theorem dX8_record_29 : decode cX8_record 29 = .ok (.iload_n 1, 1) := by decide +kernel
theorem dX8_record_30 : decode cX8_record 30 = .ok (.iload_n 2, 1) := by decide +kernel
theorem dX8_record_31 : decode cX8_record 31 = .ok (.iastore, 1) := by decide +kernel
theorem dX8_record_32 : decode cX8_record 32 = .ok (.aload_n 0, 1) := by decide +kernel
theorem dX8_record_33 : decode cX8_record 33 = .ok (.getfield 22, 3) := by decide +kernel
theorem dX8_record_36 : decode cX8_record 36 = .ok (.iload_n 1, 1) := by decide +kernel
theorem dX8_record_37 : decode cX8_record 37 = .ok (.iconst 0, 1) := by decide +kernel
theorem dX8_record_38 : decode cX8_record 38 = .ok (.iastore, 1) := by decide +kernel
theorem dX8_record_39 : decode cX8_record 39 = .ok (.iload_n 3, 1) := by decide +kernel
theorem dX8_record_40 : decode cX8_record 40 = .ok (.ireturn, 1) := by decide +kernel
theorem dX8_read_0 : decode cX8_read 0 = .ok (.iload_n 1, 1) := by decide +kernel
theorem dX8_read_1 : decode cX8_read 1 = .ok (.invokestatic 106, 3) := by decide +kernel
theorem dX8_read_4 : decode cX8_read 4 = .ok (.ifCond .eq 37, 3) := by decide +kernel
theorem dX8_read_7 : decode cX8_read 7 = .ok (.iload_n 2, 1) := by decide +kernel
theorem dX8_read_8 : decode cX8_read 8 = .ok (.iconst (-1), 1) := by decide +kernel
theorem dX8_read_9 : decode cX8_read 9 = .ok (.sipush 4800, 3) := by decide +kernel
theorem dX8_read_12 : decode cX8_read 12 = .ok (.invokestatic 102, 3) := by decide +kernel
theorem dX8_read_15 : decode cX8_read 15 = .ok (.ifCond .eq 26, 3) := by decide +kernel
theorem dX8_read_18 : decode cX8_read 18 = .ok (.iload_n 3, 1) := by decide +kernel
theorem dX8_read_19 : decode cX8_read 19 = .ok (.iconst 1, 1) := by decide +kernel
theorem dX8_read_20 : decode cX8_read 20 = .ok (.bipush 60, 2) := by decide +kernel
theorem dX8_read_22 : decode cX8_read 22 = .ok (.invokestatic 102, 3) := by decide +kernel
theorem dX8_read_25 : decode cX8_read 25 = .ok (.ifCond .eq 16, 3) := by decide +kernel
theorem dX8_read_28 : decode cX8_read 28 = .ok (.aload_n 0, 1) := by decide +kernel
theorem dX8_read_29 : decode cX8_read 29 = .ok (.getfield 22, 3) := by decide +kernel
theorem dX8_read_32 : decode cX8_read 32 = .ok (.iload_n 1, 1) := by decide +kernel
theorem dX8_read_33 : decode cX8_read 33 = .ok (.iaload, 1) := by decide +kernel
theorem dX8_read_34 : decode cX8_read 34 = .ok (.iload_n 3, 1) := by decide +kernel
theorem dX8_read_35 : decode cX8_read 35 = .ok (.iadd, 1) := by decide +kernel
theorem dX8_read_36 : decode cX8_read 36 = .ok (.bipush 120, 2) := by decide +kernel
theorem dX8_read_38 : decode cX8_read 38 = .ok (.if_icmp .le 5, 3) := by decide +kernel
theorem dX8_read_41 : decode cX8_read 41 = .ok (.iconst (-1), 1) := by decide +kernel
theorem dX8_read_42 : decode cX8_read 42 = .ok (.ireturn, 1) := by decide +kernel
theorem dX8_read_43 : decode cX8_read 43 = .ok (.iconst 0, 1) := by decide +kernel
theorem dX8_read_44 : decode cX8_read 44 = .ok (.istore 4, 2) := by decide +kernel
theorem dX8_read_46 : decode cX8_read 46 = .ok (.iload 4, 2) := by decide +kernel
theorem dX8_read_48 : decode cX8_read 48 = .ok (.iload_n 3, 1) := by decide +kernel
theorem dX8_read_49 : decode cX8_read 49 = .ok (.if_icmp .ge 36, 3) := by decide +kernel
theorem dX8_read_52 : decode cX8_read 52 = .ok (.aload_n 0, 1) := by decide +kernel
theorem dX8_read_53 : decode cX8_read 53 = .ok (.getfield 25, 3) := by decide +kernel
theorem dX8_read_56 : decode cX8_read 56 = .ok (.bipush 120, 2) := by decide +kernel
theorem dX8_read_58 : decode cX8_read 58 = .ok (.iload_n 1, 1) := by decide +kernel
theorem dX8_read_59 : decode cX8_read 59 = .ok (.imul, 1) := by decide +kernel
theorem dX8_read_60 : decode cX8_read 60 = .ok (.aload_n 0, 1) := by decide +kernel
theorem dX8_read_61 : decode cX8_read 61 = .ok (.getfield 22, 3) := by decide +kernel
theorem dX8_read_64 : decode cX8_read 64 = .ok (.iload_n 1, 1) := by decide +kernel
theorem dX8_read_65 : decode cX8_read 65 = .ok (.iaload, 1) := by decide +kernel
theorem dX8_read_66 : decode cX8_read 66 = .ok (.iadd, 1) := by decide +kernel
theorem dX8_read_67 : decode cX8_read 67 = .ok (.iload_n 2, 1) := by decide +kernel
theorem dX8_read_68 : decode cX8_read 68 = .ok (.iastore, 1) := by decide +kernel
theorem dX8_read_69 : decode cX8_read 69 = .ok (.aload_n 0, 1) := by decide +kernel
theorem dX8_read_70 : decode cX8_read 70 = .ok (.getfield 22, 3) := by decide +kernel
theorem dX8_read_73 : decode cX8_read 73 = .ok (.iload_n 1, 1) := by decide +kernel
theorem dX8_read_74 : decode cX8_read 74 = .ok (.dup2, 1) := by decide +kernel
theorem dX8_read_75 : decode cX8_read 75 = .ok (.iaload, 1) := by decide +kernel
theorem dX8_read_76 : decode cX8_read 76 = .ok (.iconst 1, 1) := by decide +kernel
theorem dX8_read_77 : decode cX8_read 77 = .ok (.iadd, 1) := by decide +kernel
theorem dX8_read_78 : decode cX8_read 78 = .ok (.iastore, 1) := by decide +kernel
theorem dX8_read_79 : decode cX8_read 79 = .ok (.iinc 4 1, 3) := by decide +kernel
theorem dX8_read_82 : decode cX8_read 82 = .ok (.goto (-36), 3) := by decide +kernel
theorem dX8_read_85 : decode cX8_read 85 = .ok (.aload_n 0, 1) := by decide +kernel
theorem dX8_read_86 : decode cX8_read 86 = .ok (.getfield 22, 3) := by decide +kernel
theorem dX8_read_89 : decode cX8_read 89 = .ok (.iload_n 1, 1) := by decide +kernel
theorem dX8_read_90 : decode cX8_read 90 = .ok (.iaload, 1) := by decide +kernel
theorem dX8_read_91 : decode cX8_read 91 = .ok (.ireturn, 1) := by decide +kernel
theorem dX8_rules_0 : decode cX8_rules 0 = .ok (.iload_n 1, 1) := by decide +kernel
theorem dX8_rules_1 : decode cX8_rules 1 = .ok (.iconst 1, 1) := by decide +kernel
theorem dX8_rules_2 : decode cX8_rules 2 = .ok (.bipush 8, 2) := by decide +kernel
theorem dX8_rules_4 : decode cX8_rules 4 = .ok (.invokestatic 102, 3) := by decide +kernel
theorem dX8_rules_7 : decode cX8_rules 7 = .ok (.ifCond .eq 49, 3) := by decide +kernel
theorem dX8_rules_10 : decode cX8_rules 10 = .ok (.iload_n 2, 1) := by decide +kernel
theorem dX8_rules_11 : decode cX8_rules 11 = .ok (.iconst 0, 1) := by decide +kernel
theorem dX8_rules_12 : decode cX8_rules 12 = .ok (.sipush 1000, 3) := by decide +kernel
theorem dX8_rules_15 : decode cX8_rules 15 = .ok (.invokestatic 102, 3) := by decide +kernel
theorem dX8_rules_18 : decode cX8_rules 18 = .ok (.ifCond .eq 38, 3) := by decide +kernel
theorem dX8_rules_21 : decode cX8_rules 21 = .ok (.iload_n 3, 1) := by decide +kernel
theorem dX8_rules_22 : decode cX8_rules 22 = .ok (.iconst 0, 1) := by decide +kernel
theorem dX8_rules_23 : decode cX8_rules 23 = .ok (.sipush 1000, 3) := by decide +kernel
theorem dX8_rules_26 : decode cX8_rules 26 = .ok (.invokestatic 102, 3) := by decide +kernel
theorem dX8_rules_29 : decode cX8_rules 29 = .ok (.ifCond .eq 27, 3) := by decide +kernel
theorem dX8_rules_32 : decode cX8_rules 32 = .ok (.iload 4, 2) := by decide +kernel
theorem dX8_rules_34 : decode cX8_rules 34 = .ok (.iconst 0, 1) := by decide +kernel
theorem dX8_rules_35 : decode cX8_rules 35 = .ok (.sipush 10000, 3) := by decide +kernel
theorem dX8_rules_38 : decode cX8_rules 38 = .ok (.invokestatic 102, 3) := by decide +kernel
theorem dX8_rules_41 : decode cX8_rules 41 = .ok (.ifCond .eq 15, 3) := by decide +kernel
theorem dX8_rules_44 : decode cX8_rules 44 = .ok (.iload 5, 2) := by decide +kernel
theorem dX8_rules_46 : decode cX8_rules 46 = .ok (.iconst 0, 1) := by decide +kernel
theorem dX8_rules_47 : decode cX8_rules 47 = .ok (.sipush 1000, 3) := by decide +kernel
theorem dX8_rules_50 : decode cX8_rules 50 = .ok (.invokestatic 102, 3) := by decide +kernel
theorem dX8_rules_53 : decode cX8_rules 53 = .ok (.ifCond .ne 5, 3) := by decide +kernel
theorem dX8_rules_56 : decode cX8_rules 56 = .ok (.iconst 0, 1) := by decide +kernel
theorem dX8_rules_57 : decode cX8_rules 57 = .ok (.ireturn, 1) := by decide +kernel
theorem dX8_rules_58 : decode cX8_rules 58 = .ok (.aload_n 0, 1) := by decide +kernel
theorem dX8_rules_59 : decode cX8_rules 59 = .ok (.iload_n 1, 1) := by decide +kernel
theorem dX8_rules_60 : decode cX8_rules 60 = .ok (.putfield 28, 3) := by decide +kernel
theorem dX8_rules_63 : decode cX8_rules 63 = .ok (.aload_n 0, 1) := by decide +kernel
theorem dX8_rules_64 : decode cX8_rules 64 = .ok (.iload_n 2, 1) := by decide +kernel
theorem dX8_rules_65 : decode cX8_rules 65 = .ok (.putfield 32, 3) := by decide +kernel
theorem dX8_rules_68 : decode cX8_rules 68 = .ok (.aload_n 0, 1) := by decide +kernel
theorem dX8_rules_69 : decode cX8_rules 69 = .ok (.iload_n 3, 1) := by decide +kernel
theorem dX8_rules_70 : decode cX8_rules 70 = .ok (.putfield 35, 3) := by decide +kernel
theorem dX8_rules_73 : decode cX8_rules 73 = .ok (.aload_n 0, 1) := by decide +kernel
theorem dX8_rules_74 : decode cX8_rules 74 = .ok (.iload 4, 2) := by decide +kernel
theorem dX8_rules_76 : decode cX8_rules 76 = .ok (.putfield 38, 3) := by decide +kernel
theorem dX8_rules_79 : decode cX8_rules 79 = .ok (.aload_n 0, 1) := by decide +kernel
theorem dX8_rules_80 : decode cX8_rules 80 = .ok (.iload 5, 2) := by decide +kernel
theorem dX8_rules_82 : decode cX8_rules 82 = .ok (.putfield 41, 3) := by decide +kernel
theorem dX8_rules_85 : decode cX8_rules 85 = .ok (.iconst 1, 1) := by decide +kernel
theorem dX8_rules_86 : decode cX8_rules 86 = .ok (.ireturn, 1) := by decide +kernel
theorem dX8_readCost_0 : decode cX8_readCost 0 = .ok (.aload_n 0, 1) := by decide +kernel
theorem dX8_readCost_1 : decode cX8_readCost 1 = .ok (.getfield 25, 3) := by decide +kernel
theorem dX8_readCost_4 : decode cX8_readCost 4 = .ok (.bipush 120, 2) := by decide +kernel
theorem dX8_readCost_6 : decode cX8_readCost 6 = .ok (.iload_n 1, 1) := by decide +kernel
theorem dX8_readCost_7 : decode cX8_readCost 7 = .ok (.imul, 1) := by decide +kernel
theorem dX8_readCost_8 : decode cX8_readCost 8 = .ok (.iload_n 2, 1) := by decide +kernel
theorem dX8_readCost_9 : decode cX8_readCost 9 = .ok (.iadd, 1) := by decide +kernel
theorem dX8_readCost_10 : decode cX8_readCost 10 = .ok (.iaload, 1) := by decide +kernel
theorem dX8_readCost_11 : decode cX8_readCost 11 = .ok (.istore 4, 2) := by decide +kernel
theorem dX8_readCost_13 : decode cX8_readCost 13 = .ok (.iload 4, 2) := by decide +kernel
theorem dX8_readCost_15 : decode cX8_readCost 15 = .ok (.iconst (-1), 1) := by decide +kernel
theorem dX8_readCost_16 : decode cX8_readCost 16 = .ok (.if_icmp .ne 8, 3) := by decide +kernel
theorem dX8_readCost_19 : decode cX8_readCost 19 = .ok (.aload_n 0, 1) := by decide +kernel
theorem dX8_readCost_20 : decode cX8_readCost 20 = .ok (.getfield 32, 3) := by decide +kernel
theorem dX8_readCost_23 : decode cX8_readCost 23 = .ok (.ireturn, 1) := by decide +kernel
theorem dX8_readCost_24 : decode cX8_readCost 24 = .ok (.iload 4, 2) := by decide +kernel
theorem dX8_readCost_26 : decode cX8_readCost 26 = .ok (.aload_n 0, 1) := by decide +kernel
theorem dX8_readCost_27 : decode cX8_readCost 27 = .ok (.getfield 13, 3) := by decide +kernel
theorem dX8_readCost_30 : decode cX8_readCost 30 = .ok (.iload_n 3, 1) := by decide +kernel
theorem dX8_readCost_31 : decode cX8_readCost 31 = .ok (.iaload, 1) := by decide +kernel
theorem dX8_readCost_32 : decode cX8_readCost 32 = .ok (.invokestatic 110, 3) := by decide +kernel
theorem dX8_readCost_35 : decode cX8_readCost 35 = .ok (.istore 5, 2) := by decide +kernel
theorem dX8_readCost_37 : decode cX8_readCost 37 = .ok (.iload 5, 2) := by decide +kernel
theorem dX8_readCost_39 : decode cX8_readCost 39 = .ok (.sipush 300, 3) := by decide +kernel
theorem dX8_readCost_42 : decode cX8_readCost 42 = .ok (.if_icmp .ge 8, 3) := by decide +kernel
theorem dX8_readCost_45 : decode cX8_readCost 45 = .ok (.iload 5, 2) := by decide +kernel
theorem dX8_readCost_47 : decode cX8_readCost 47 = .ok (.goto 6, 3) := by decide +kernel
theorem dX8_readCost_50 : decode cX8_readCost 50 = .ok (.sipush 300, 3) := by decide +kernel
theorem dX8_readCost_53 : decode cX8_readCost 53 = .ok (.ireturn, 1) := by decide +kernel
theorem dX8_shapeCost_0 : decode cX8_shapeCost 0 = .ok (.aload_n 0, 1) := by decide +kernel
theorem dX8_shapeCost_1 : decode cX8_shapeCost 1 = .ok (.getfield 35, 3) := by decide +kernel
theorem dX8_shapeCost_4 : decode cX8_shapeCost 4 = .ok (.iload_n 2, 1) := by decide +kernel
theorem dX8_shapeCost_5 : decode cX8_shapeCost 5 = .ok (.aload_n 0, 1) := by decide +kernel
theorem dX8_shapeCost_6 : decode cX8_shapeCost 6 = .ok (.getfield 16, 3) := by decide +kernel
theorem dX8_shapeCost_9 : decode cX8_shapeCost 9 = .ok (.iload_n 1, 1) := by decide +kernel
theorem dX8_shapeCost_10 : decode cX8_shapeCost 10 = .ok (.iaload, 1) := by decide +kernel
theorem dX8_shapeCost_11 : decode cX8_shapeCost 11 = .ok (.aload_n 0, 1) := by decide +kernel
theorem dX8_shapeCost_12 : decode cX8_shapeCost 12 = .ok (.getfield 28, 3) := by decide +kernel
theorem dX8_shapeCost_15 : decode cX8_shapeCost 15 = .ok (.imul, 1) := by decide +kernel
theorem dX8_shapeCost_16 : decode cX8_shapeCost 16 = .ok (.invokestatic 110, 3) := by decide +kernel
theorem dX8_shapeCost_19 : decode cX8_shapeCost 19 = .ok (.imul, 1) := by decide +kernel
theorem dX8_shapeCost_20 : decode cX8_shapeCost 20 = .ok (.iload_n 2, 1) := by decide +kernel
theorem dX8_shapeCost_21 : decode cX8_shapeCost 21 = .ok (.ifCond .ne 10, 3) := by decide +kernel
theorem dX8_shapeCost_24 : decode cX8_shapeCost 24 = .ok (.aload_n 0, 1) := by decide +kernel
theorem dX8_shapeCost_25 : decode cX8_shapeCost 25 = .ok (.getfield 38, 3) := by decide +kernel
theorem dX8_shapeCost_28 : decode cX8_shapeCost 28 = .ok (.goto 4, 3) := by decide +kernel
theorem dX8_shapeCost_31 : decode cX8_shapeCost 31 = .ok (.iconst 0, 1) := by decide +kernel
theorem dX8_shapeCost_32 : decode cX8_shapeCost 32 = .ok (.iadd, 1) := by decide +kernel
theorem dX8_shapeCost_33 : decode cX8_shapeCost 33 = .ok (.ireturn, 1) := by decide +kernel
theorem dX8_place_0 : decode cX8_place 0 = .ok (.bipush 121, 2) := by decide +kernel
theorem dX8_place_2 : decode cX8_place 2 = .ok (.iload_n 1, 1) := by decide +kernel
theorem dX8_place_3 : decode cX8_place 3 = .ok (.imul, 1) := by decide +kernel
theorem dX8_place_4 : decode cX8_place 4 = .ok (.iload_n 2, 1) := by decide +kernel
theorem dX8_place_5 : decode cX8_place 5 = .ok (.iadd, 1) := by decide +kernel
theorem dX8_place_6 : decode cX8_place 6 = .ok (.ireturn, 1) := by decide +kernel
theorem dX8_lays_0 : decode cX8_lays 0 = .ok (.aload_n 0, 1) := by decide +kernel
theorem dX8_lays_1 : decode cX8_lays 1 = .ok (.getfield 19, 3) := by decide +kernel
theorem dX8_lays_4 : decode cX8_lays 4 = .ok (.iload_n 1, 1) := by decide +kernel
theorem dX8_lays_5 : decode cX8_lays 5 = .ok (.iaload, 1) := by decide +kernel
theorem dX8_lays_6 : decode cX8_lays 6 = .ok (.istore_n 2, 1) := by decide +kernel
theorem dX8_lays_7 : decode cX8_lays 7 = .ok (.aload_n 0, 1) := by decide +kernel
theorem dX8_lays_8 : decode cX8_lays 8 = .ok (.getfield 7, 3) := by decide +kernel
theorem dX8_lays_11 : decode cX8_lays 11 = .ok (.iload_n 2, 1) := by decide +kernel
theorem dX8_lays_12 : decode cX8_lays 12 = .ok (.iaload, 1) := by decide +kernel
theorem dX8_lays_13 : decode cX8_lays 13 = .ok (.istore_n 3, 1) := by decide +kernel
theorem dX8_lays_14 : decode cX8_lays 14 = .ok (.aload_n 0, 1) := by decide +kernel
theorem dX8_lays_15 : decode cX8_lays 15 = .ok (.getfield 22, 3) := by decide +kernel
theorem dX8_lays_18 : decode cX8_lays 18 = .ok (.iload_n 1, 1) := by decide +kernel
theorem dX8_lays_19 : decode cX8_lays 19 = .ok (.iaload, 1) := by decide +kernel
theorem dX8_lays_20 : decode cX8_lays 20 = .ok (.istore 4, 2) := by decide +kernel
theorem dX8_lays_22 : decode cX8_lays 22 = .ok (.iload_n 3, 1) := by decide +kernel
theorem dX8_lays_23 : decode cX8_lays 23 = .ok (.ifCond .ne 5, 3) := by decide +kernel
theorem dX8_lays_26 : decode cX8_lays 26 = .ok (.iconst (-1), 1) := by decide +kernel
theorem dX8_lays_27 : decode cX8_lays 27 = .ok (.ireturn, 1) := by decide +kernel
theorem dX8_lays_28 : decode cX8_lays 28 = .ok (.iconst 0, 1) := by decide +kernel
theorem dX8_lays_29 : decode cX8_lays 29 = .ok (.istore 5, 2) := by decide +kernel
theorem dX8_lays_31 : decode cX8_lays 31 = .ok (.iload 5, 2) := by decide +kernel
theorem dX8_lays_33 : decode cX8_lays 33 = .ok (.iload 4, 2) := by decide +kernel
theorem dX8_lays_35 : decode cX8_lays 35 = .ok (.if_icmp .gt 34, 3) := by decide +kernel
theorem dX8_lays_38 : decode cX8_lays 38 = .ok (.aload_n 0, 1) := by decide +kernel
theorem dX8_lays_39 : decode cX8_lays 39 = .ok (.getfield 44, 3) := by decide +kernel
theorem dX8_lays_42 : decode cX8_lays 42 = .ok (.aload_n 0, 1) := by decide +kernel
theorem dX8_lays_43 : decode cX8_lays 43 = .ok (.iload_n 3, 1) := by decide +kernel
theorem dX8_lays_44 : decode cX8_lays 44 = .ok (.iload 5, 2) := by decide +kernel
theorem dX8_lays_46 : decode cX8_lays 46 = .ok (.invokevirtual 114, 3) := by decide +kernel
theorem dX8_lays_49 : decode cX8_lays 49 = .ok (.iload 5, 2) := by decide +kernel
theorem dX8_lays_51 : decode cX8_lays 51 = .ok (.iload 4, 2) := by decide +kernel
theorem dX8_lays_53 : decode cX8_lays 53 = .ok (.if_icmp .ne 7, 3) := by decide +kernel
theorem dX8_lays_56 : decode cX8_lays 56 = .ok (.iconst 0, 1) := by decide +kernel
theorem dX8_lays_57 : decode cX8_lays 57 = .ok (.goto 5, 3) := by decide +kernel
theorem dX8_lays_60 : decode cX8_lays 60 = .ok (.ldc 117, 2) := by decide +kernel
theorem dX8_lays_62 : decode cX8_lays 62 = .ok (.iastore, 1) := by decide +kernel
theorem dX8_lays_63 : decode cX8_lays 63 = .ok (.iinc 5 1, 3) := by decide +kernel
theorem dX8_lays_66 : decode cX8_lays 66 = .ok (.goto (-35), 3) := by decide +kernel
theorem dX8_lays_69 : decode cX8_lays 69 = .ok (.iload_n 3, 1) := by decide +kernel
theorem dX8_lays_70 : decode cX8_lays 70 = .ok (.iconst 1, 1) := by decide +kernel
theorem dX8_lays_71 : decode cX8_lays 71 = .ok (.isub, 1) := by decide +kernel
theorem dX8_lays_72 : decode cX8_lays 72 = .ok (.istore 5, 2) := by decide +kernel
theorem dX8_lays_74 : decode cX8_lays 74 = .ok (.iload 5, 2) := by decide +kernel
theorem dX8_lays_76 : decode cX8_lays 76 = .ok (.ifCond .lt 142, 3) := by decide +kernel
theorem dX8_lays_79 : decode cX8_lays 79 = .ok (.bipush 24, 2) := by decide +kernel
theorem dX8_lays_81 : decode cX8_lays 81 = .ok (.iload_n 2, 1) := by decide +kernel
theorem dX8_lays_82 : decode cX8_lays 82 = .ok (.imul, 1) := by decide +kernel
theorem dX8_lays_83 : decode cX8_lays 83 = .ok (.iload 5, 2) := by decide +kernel
theorem dX8_lays_85 : decode cX8_lays 85 = .ok (.iadd, 1) := by decide +kernel
theorem dX8_lays_86 : decode cX8_lays 86 = .ok (.istore 6, 2) := by decide +kernel
theorem dX8_lays_88 : decode cX8_lays 88 = .ok (.iconst 0, 1) := by decide +kernel
theorem dX8_lays_89 : decode cX8_lays 89 = .ok (.istore 7, 2) := by decide +kernel
theorem dX8_lays_91 : decode cX8_lays 91 = .ok (.iload 7, 2) := by decide +kernel
theorem dX8_lays_93 : decode cX8_lays 93 = .ok (.iload 4, 2) := by decide +kernel
theorem dX8_lays_95 : decode cX8_lays 95 = .ok (.if_icmp .gt 117, 3) := by decide +kernel
theorem dX8_lays_98 : decode cX8_lays 98 = .ok (.ldc 117, 2) := by decide +kernel
theorem dX8_lays_100 : decode cX8_lays 100 = .ok (.istore 8, 2) := by decide +kernel
theorem dX8_lays_102 : decode cX8_lays 102 = .ok (.iconst 0, 1) := by decide +kernel
theorem dX8_lays_103 : decode cX8_lays 103 = .ok (.istore 9, 2) := by decide +kernel
theorem dX8_lays_105 : decode cX8_lays 105 = .ok (.iconst 0, 1) := by decide +kernel
theorem dX8_lays_106 : decode cX8_lays 106 = .ok (.istore 10, 2) := by decide +kernel
theorem dX8_lays_108 : decode cX8_lays 108 = .ok (.iload 7, 2) := by decide +kernel
theorem dX8_lays_110 : decode cX8_lays 110 = .ok (.iload 10, 2) := by decide +kernel
theorem dX8_lays_112 : decode cX8_lays 112 = .ok (.iadd, 1) := by decide +kernel
theorem dX8_lays_113 : decode cX8_lays 113 = .ok (.iload 4, 2) := by decide +kernel
theorem dX8_lays_115 : decode cX8_lays 115 = .ok (.if_icmp .gt 76, 3) := by decide +kernel
theorem dX8_lays_118 : decode cX8_lays 118 = .ok (.iload 10, 2) := by decide +kernel
theorem dX8_lays_120 : decode cX8_lays 120 = .ok (.ifCond .le 22, 3) := by decide +kernel
theorem dX8_lays_123 : decode cX8_lays 123 = .ok (.iload 9, 2) := by decide +kernel
theorem dX8_lays_125 : decode cX8_lays 125 = .ok (.aload_n 0, 1) := by decide +kernel
theorem dX8_lays_126 : decode cX8_lays 126 = .ok (.iload_n 1, 1) := by decide +kernel
theorem dX8_lays_127 : decode cX8_lays 127 = .ok (.iload 7, 2) := by decide +kernel
theorem dX8_lays_129 : decode cX8_lays 129 = .ok (.iload 10, 2) := by decide +kernel
theorem dX8_lays_131 : decode cX8_lays 131 = .ok (.iadd, 1) := by decide +kernel
theorem dX8_lays_132 : decode cX8_lays 132 = .ok (.iconst 1, 1) := by decide +kernel
theorem dX8_lays_133 : decode cX8_lays 133 = .ok (.isub, 1) := by decide +kernel
theorem dX8_lays_134 : decode cX8_lays 134 = .ok (.iload 6, 2) := by decide +kernel
theorem dX8_lays_136 : decode cX8_lays 136 = .ok (.invokevirtual 118, 3) := by decide +kernel
theorem dX8_lays_139 : decode cX8_lays 139 = .ok (.iadd, 1) := by decide +kernel
theorem dX8_lays_140 : decode cX8_lays 140 = .ok (.istore 9, 2) := by decide +kernel
theorem dX8_lays_142 : decode cX8_lays 142 = .ok (.iload 9, 2) := by decide +kernel
theorem dX8_lays_144 : decode cX8_lays 144 = .ok (.aload_n 0, 1) := by decide +kernel
theorem dX8_lays_145 : decode cX8_lays 145 = .ok (.iload 6, 2) := by decide +kernel
theorem dX8_lays_147 : decode cX8_lays 147 = .ok (.iload 10, 2) := by decide +kernel
theorem dX8_lays_149 : decode cX8_lays 149 = .ok (.invokevirtual 122, 3) := by decide +kernel
theorem dX8_lays_152 : decode cX8_lays 152 = .ok (.iadd, 1) := by decide +kernel
theorem dX8_lays_153 : decode cX8_lays 153 = .ok (.aload_n 0, 1) := by decide +kernel
theorem dX8_lays_154 : decode cX8_lays 154 = .ok (.getfield 44, 3) := by decide +kernel
theorem dX8_lays_157 : decode cX8_lays 157 = .ok (.aload_n 0, 1) := by decide +kernel
theorem dX8_lays_158 : decode cX8_lays 158 = .ok (.iload 5, 2) := by decide +kernel
theorem dX8_lays_160 : decode cX8_lays 160 = .ok (.iconst 1, 1) := by decide +kernel
theorem dX8_lays_161 : decode cX8_lays 161 = .ok (.iadd, 1) := by decide +kernel
theorem dX8_lays_162 : decode cX8_lays 162 = .ok (.iload 7, 2) := by decide +kernel
theorem dX8_lays_164 : decode cX8_lays 164 = .ok (.iload 10, 2) := by decide +kernel
theorem dX8_lays_166 : decode cX8_lays 166 = .ok (.iadd, 1) := by decide +kernel
theorem dX8_lays_167 : decode cX8_lays 167 = .ok (.invokevirtual 114, 3) := by decide +kernel
theorem dX8_lays_170 : decode cX8_lays 170 = .ok (.iaload, 1) := by decide +kernel
theorem dX8_lays_171 : decode cX8_lays 171 = .ok (.iadd, 1) := by decide +kernel
theorem dX8_lays_172 : decode cX8_lays 172 = .ok (.istore 11, 2) := by decide +kernel
theorem dX8_lays_174 : decode cX8_lays 174 = .ok (.iload 11, 2) := by decide +kernel
theorem dX8_lays_176 : decode cX8_lays 176 = .ok (.iload 8, 2) := by decide +kernel
theorem dX8_lays_178 : decode cX8_lays 178 = .ok (.if_icmp .ge 7, 3) := by decide +kernel
theorem dX8_lays_181 : decode cX8_lays 181 = .ok (.iload 11, 2) := by decide +kernel
theorem dX8_lays_183 : decode cX8_lays 183 = .ok (.istore 8, 2) := by decide +kernel
theorem dX8_lays_185 : decode cX8_lays 185 = .ok (.iinc 10 1, 3) := by decide +kernel
theorem dX8_lays_188 : decode cX8_lays 188 = .ok (.goto (-80), 3) := by decide +kernel
theorem dX8_lays_191 : decode cX8_lays 191 = .ok (.aload_n 0, 1) := by decide +kernel
theorem dX8_lays_192 : decode cX8_lays 192 = .ok (.getfield 44, 3) := by decide +kernel
theorem dX8_lays_195 : decode cX8_lays 195 = .ok (.aload_n 0, 1) := by decide +kernel
theorem dX8_lays_196 : decode cX8_lays 196 = .ok (.iload 5, 2) := by decide +kernel
theorem dX8_lays_198 : decode cX8_lays 198 = .ok (.iload 7, 2) := by decide +kernel
theorem dX8_lays_200 : decode cX8_lays 200 = .ok (.invokevirtual 114, 3) := by decide +kernel
theorem dX8_lays_203 : decode cX8_lays 203 = .ok (.iload 8, 2) := by decide +kernel
theorem dX8_lays_205 : decode cX8_lays 205 = .ok (.iastore, 1) := by decide +kernel
theorem dX8_lays_206 : decode cX8_lays 206 = .ok (.iinc 7 1, 3) := by decide +kernel
theorem dX8_lays_209 : decode cX8_lays 209 = .ok (.goto (-118), 3) := by decide +kernel
theorem dX8_lays_212 : decode cX8_lays 212 = .ok (.iinc 5 (-1), 3) := by decide +kernel
theorem dX8_lays_215 : decode cX8_lays 215 = .ok (.goto (-141), 3) := by decide +kernel
theorem dX8_lays_218 : decode cX8_lays 218 = .ok (.aload_n 0, 1) := by decide +kernel
theorem dX8_lays_219 : decode cX8_lays 219 = .ok (.iload_n 1, 1) := by decide +kernel
theorem dX8_lays_220 : decode cX8_lays 220 = .ok (.iload_n 2, 1) := by decide +kernel
theorem dX8_lays_221 : decode cX8_lays 221 = .ok (.iload_n 3, 1) := by decide +kernel
theorem dX8_lays_222 : decode cX8_lays 222 = .ok (.iload 4, 2) := by decide +kernel
theorem dX8_lays_224 : decode cX8_lays 224 = .ok (.invokevirtual 125, 3) := by decide +kernel
theorem dX8_lays_227 : decode cX8_lays 227 = .ok (.aload_n 0, 1) := by decide +kernel
theorem dX8_lays_228 : decode cX8_lays 228 = .ok (.getfield 44, 3) := by decide +kernel
theorem dX8_lays_231 : decode cX8_lays 231 = .ok (.iconst 0, 1) := by decide +kernel
theorem dX8_lays_232 : decode cX8_lays 232 = .ok (.iaload, 1) := by decide +kernel
theorem dX8_lays_233 : decode cX8_lays 233 = .ok (.ireturn, 1) := by decide +kernel
theorem dX8_takes_0 : decode cX8_takes 0 = .ok (.iconst 0, 1) := by decide +kernel
theorem dX8_takes_1 : decode cX8_takes 1 = .ok (.istore 5, 2) := by decide +kernel
theorem dX8_takes_3 : decode cX8_takes 3 = .ok (.iconst 0, 1) := by decide +kernel
theorem dX8_takes_4 : decode cX8_takes 4 = .ok (.istore 6, 2) := by decide +kernel
theorem dX8_takes_6 : decode cX8_takes 6 = .ok (.iload 6, 2) := by decide +kernel
theorem dX8_takes_8 : decode cX8_takes 8 = .ok (.iload_n 3, 1) := by decide +kernel
theorem dX8_takes_9 : decode cX8_takes 9 = .ok (.if_icmp .ge 248, 3) := by decide +kernel
theorem dX8_takes_12 : decode cX8_takes 12 = .ok (.bipush 24, 2) := by decide +kernel
theorem dX8_takes_14 : decode cX8_takes 14 = .ok (.iload_n 2, 1) := by decide +kernel
theorem dX8_takes_15 : decode cX8_takes 15 = .ok (.imul, 1) := by decide +kernel
theorem dX8_takes_16 : decode cX8_takes 16 = .ok (.iload 6, 2) := by decide +kernel
theorem dX8_takes_18 : decode cX8_takes 18 = .ok (.iadd, 1) := by decide +kernel
theorem dX8_takes_19 : decode cX8_takes 19 = .ok (.istore 7, 2) := by decide +kernel
theorem dX8_takes_21 : decode cX8_takes 21 = .ok (.iconst 0, 1) := by decide +kernel
theorem dX8_takes_22 : decode cX8_takes 22 = .ok (.istore 8, 2) := by decide +kernel
theorem dX8_takes_24 : decode cX8_takes 24 = .ok (.iconst 0, 1) := by decide +kernel
theorem dX8_takes_25 : decode cX8_takes 25 = .ok (.istore 9, 2) := by decide +kernel
theorem dX8_takes_27 : decode cX8_takes 27 = .ok (.iload 8, 2) := by decide +kernel
theorem dX8_takes_29 : decode cX8_takes 29 = .ok (.aload_n 0, 1) := by decide +kernel
theorem dX8_takes_30 : decode cX8_takes 30 = .ok (.iload 7, 2) := by decide +kernel
theorem dX8_takes_32 : decode cX8_takes 32 = .ok (.iload 9, 2) := by decide +kernel
theorem dX8_takes_34 : decode cX8_takes 34 = .ok (.invokevirtual 122, 3) := by decide +kernel
theorem dX8_takes_37 : decode cX8_takes 37 = .ok (.iadd, 1) := by decide +kernel
theorem dX8_takes_38 : decode cX8_takes 38 = .ok (.aload_n 0, 1) := by decide +kernel
theorem dX8_takes_39 : decode cX8_takes 39 = .ok (.getfield 44, 3) := by decide +kernel
theorem dX8_takes_42 : decode cX8_takes 42 = .ok (.aload_n 0, 1) := by decide +kernel
theorem dX8_takes_43 : decode cX8_takes 43 = .ok (.iload 6, 2) := by decide +kernel
theorem dX8_takes_45 : decode cX8_takes 45 = .ok (.iconst 1, 1) := by decide +kernel
theorem dX8_takes_46 : decode cX8_takes 46 = .ok (.iadd, 1) := by decide +kernel
theorem dX8_takes_47 : decode cX8_takes 47 = .ok (.iload 5, 2) := by decide +kernel
theorem dX8_takes_49 : decode cX8_takes 49 = .ok (.iload 9, 2) := by decide +kernel
theorem dX8_takes_51 : decode cX8_takes 51 = .ok (.iadd, 1) := by decide +kernel
theorem dX8_takes_52 : decode cX8_takes 52 = .ok (.invokevirtual 114, 3) := by decide +kernel
theorem dX8_takes_55 : decode cX8_takes 55 = .ok (.iaload, 1) := by decide +kernel
theorem dX8_takes_56 : decode cX8_takes 56 = .ok (.iadd, 1) := by decide +kernel
theorem dX8_takes_57 : decode cX8_takes 57 = .ok (.aload_n 0, 1) := by decide +kernel
theorem dX8_takes_58 : decode cX8_takes 58 = .ok (.getfield 44, 3) := by decide +kernel
theorem dX8_takes_61 : decode cX8_takes 61 = .ok (.aload_n 0, 1) := by decide +kernel
theorem dX8_takes_62 : decode cX8_takes 62 = .ok (.iload 6, 2) := by decide +kernel
theorem dX8_takes_64 : decode cX8_takes 64 = .ok (.iload 5, 2) := by decide +kernel
theorem dX8_takes_66 : decode cX8_takes 66 = .ok (.invokevirtual 114, 3) := by decide +kernel
theorem dX8_takes_69 : decode cX8_takes 69 = .ok (.iaload, 1) := by decide +kernel
theorem dX8_takes_70 : decode cX8_takes 70 = .ok (.if_icmp .eq 26, 3) := by decide +kernel
theorem dX8_takes_73 : decode cX8_takes 73 = .ok (.iload 8, 2) := by decide +kernel
theorem dX8_takes_75 : decode cX8_takes 75 = .ok (.aload_n 0, 1) := by decide +kernel
theorem dX8_takes_76 : decode cX8_takes 76 = .ok (.iload_n 1, 1) := by decide +kernel
theorem dX8_takes_77 : decode cX8_takes 77 = .ok (.iload 5, 2) := by decide +kernel
theorem dX8_takes_79 : decode cX8_takes 79 = .ok (.iload 9, 2) := by decide +kernel
theorem dX8_takes_81 : decode cX8_takes 81 = .ok (.iadd, 1) := by decide +kernel
theorem dX8_takes_82 : decode cX8_takes 82 = .ok (.iload 7, 2) := by decide +kernel
theorem dX8_takes_84 : decode cX8_takes 84 = .ok (.invokevirtual 118, 3) := by decide +kernel
theorem dX8_takes_87 : decode cX8_takes 87 = .ok (.iadd, 1) := by decide +kernel
theorem dX8_takes_88 : decode cX8_takes 88 = .ok (.istore 8, 2) := by decide +kernel
theorem dX8_takes_90 : decode cX8_takes 90 = .ok (.iinc 9 1, 3) := by decide +kernel
theorem dX8_takes_93 : decode cX8_takes 93 = .ok (.goto (-66), 3) := by decide +kernel
theorem dX8_takes_96 : decode cX8_takes 96 = .ok (.aload_n 0, 1) := by decide +kernel
theorem dX8_takes_97 : decode cX8_takes 97 = .ok (.getfield 50, 3) := by decide +kernel
theorem dX8_takes_100 : decode cX8_takes 100 = .ok (.iload 6, 2) := by decide +kernel
theorem dX8_takes_102 : decode cX8_takes 102 = .ok (.iload 5, 2) := by decide +kernel
theorem dX8_takes_104 : decode cX8_takes 104 = .ok (.iastore, 1) := by decide +kernel
theorem dX8_takes_105 : decode cX8_takes 105 = .ok (.aload_n 0, 1) := by decide +kernel
theorem dX8_takes_106 : decode cX8_takes 106 = .ok (.getfield 47, 3) := by decide +kernel
theorem dX8_takes_109 : decode cX8_takes 109 = .ok (.iload 6, 2) := by decide +kernel
theorem dX8_takes_111 : decode cX8_takes 111 = .ok (.iload 9, 2) := by decide +kernel
theorem dX8_takes_113 : decode cX8_takes 113 = .ok (.iastore, 1) := by decide +kernel
theorem dX8_takes_114 : decode cX8_takes 114 = .ok (.iconst 0, 1) := by decide +kernel
theorem dX8_takes_115 : decode cX8_takes 115 = .ok (.istore 10, 2) := by decide +kernel
theorem dX8_takes_117 : decode cX8_takes 117 = .ok (.iconst 0, 1) := by decide +kernel
theorem dX8_takes_118 : decode cX8_takes 118 = .ok (.istore 11, 2) := by decide +kernel
theorem dX8_takes_120 : decode cX8_takes 120 = .ok (.iload 5, 2) := by decide +kernel
theorem dX8_takes_122 : decode cX8_takes 122 = .ok (.istore 12, 2) := by decide +kernel
theorem dX8_takes_124 : decode cX8_takes 124 = .ok (.iload 12, 2) := by decide +kernel
theorem dX8_takes_126 : decode cX8_takes 126 = .ok (.iload 5, 2) := by decide +kernel
theorem dX8_takes_128 : decode cX8_takes 128 = .ok (.iload 9, 2) := by decide +kernel
theorem dX8_takes_130 : decode cX8_takes 130 = .ok (.iadd, 1) := by decide +kernel
theorem dX8_takes_131 : decode cX8_takes 131 = .ok (.if_icmp .ge 56, 3) := by decide +kernel
theorem dX8_takes_134 : decode cX8_takes 134 = .ok (.aload_n 0, 1) := by decide +kernel
theorem dX8_takes_135 : decode cX8_takes 135 = .ok (.getfield 25, 3) := by decide +kernel
theorem dX8_takes_138 : decode cX8_takes 138 = .ok (.bipush 120, 2) := by decide +kernel
theorem dX8_takes_140 : decode cX8_takes 140 = .ok (.iload_n 1, 1) := by decide +kernel
theorem dX8_takes_141 : decode cX8_takes 141 = .ok (.imul, 1) := by decide +kernel
theorem dX8_takes_142 : decode cX8_takes 142 = .ok (.iload 12, 2) := by decide +kernel
theorem dX8_takes_144 : decode cX8_takes 144 = .ok (.iadd, 1) := by decide +kernel
theorem dX8_takes_145 : decode cX8_takes 145 = .ok (.iaload, 1) := by decide +kernel
theorem dX8_takes_146 : decode cX8_takes 146 = .ok (.iconst (-1), 1) := by decide +kernel
theorem dX8_takes_147 : decode cX8_takes 147 = .ok (.if_icmp .ne 6, 3) := by decide +kernel
theorem dX8_takes_150 : decode cX8_takes 150 = .ok (.goto 31, 3) := by decide +kernel
theorem dX8_takes_153 : decode cX8_takes 153 = .ok (.iinc 10 1, 3) := by decide +kernel
theorem dX8_takes_156 : decode cX8_takes 156 = .ok (.iload 11, 2) := by decide +kernel
theorem dX8_takes_158 : decode cX8_takes 158 = .ok (.aload_n 0, 1) := by decide +kernel
theorem dX8_takes_159 : decode cX8_takes 159 = .ok (.getfield 25, 3) := by decide +kernel
theorem dX8_takes_162 : decode cX8_takes 162 = .ok (.bipush 120, 2) := by decide +kernel
theorem dX8_takes_164 : decode cX8_takes 164 = .ok (.iload_n 1, 1) := by decide +kernel
theorem dX8_takes_165 : decode cX8_takes 165 = .ok (.imul, 1) := by decide +kernel
theorem dX8_takes_166 : decode cX8_takes 166 = .ok (.iload 12, 2) := by decide +kernel
theorem dX8_takes_168 : decode cX8_takes 168 = .ok (.iadd, 1) := by decide +kernel
theorem dX8_takes_169 : decode cX8_takes 169 = .ok (.iaload, 1) := by decide +kernel
theorem dX8_takes_170 : decode cX8_takes 170 = .ok (.aload_n 0, 1) := by decide +kernel
theorem dX8_takes_171 : decode cX8_takes 171 = .ok (.getfield 13, 3) := by decide +kernel
theorem dX8_takes_174 : decode cX8_takes 174 = .ok (.iload 7, 2) := by decide +kernel
theorem dX8_takes_176 : decode cX8_takes 176 = .ok (.iaload, 1) := by decide +kernel
theorem dX8_takes_177 : decode cX8_takes 177 = .ok (.isub, 1) := by decide +kernel
theorem dX8_takes_178 : decode cX8_takes 178 = .ok (.iadd, 1) := by decide +kernel
theorem dX8_takes_179 : decode cX8_takes 179 = .ok (.istore 11, 2) := by decide +kernel
theorem dX8_takes_181 : decode cX8_takes 181 = .ok (.iinc 12 1, 3) := by decide +kernel
theorem dX8_takes_184 : decode cX8_takes 184 = .ok (.goto (-60), 3) := by decide +kernel
theorem dX8_takes_187 : decode cX8_takes 187 = .ok (.aload_n 0, 1) := by decide +kernel
theorem dX8_takes_188 : decode cX8_takes 188 = .ok (.getfield 56, 3) := by decide +kernel
theorem dX8_takes_191 : decode cX8_takes 191 = .ok (.iload 6, 2) := by decide +kernel
theorem dX8_takes_193 : decode cX8_takes 193 = .ok (.iload 10, 2) := by decide +kernel
theorem dX8_takes_195 : decode cX8_takes 195 = .ok (.ifCond .le 7, 3) := by decide +kernel
theorem dX8_takes_198 : decode cX8_takes 198 = .ok (.iconst 1, 1) := by decide +kernel
theorem dX8_takes_199 : decode cX8_takes 199 = .ok (.goto 4, 3) := by decide +kernel
theorem dX8_takes_202 : decode cX8_takes 202 = .ok (.iconst 0, 1) := by decide +kernel
theorem dX8_takes_203 : decode cX8_takes 203 = .ok (.bastore, 1) := by decide +kernel
theorem dX8_takes_204 : decode cX8_takes 204 = .ok (.aload_n 0, 1) := by decide +kernel
theorem dX8_takes_205 : decode cX8_takes 205 = .ok (.getfield 53, 3) := by decide +kernel
theorem dX8_takes_208 : decode cX8_takes 208 = .ok (.iload 6, 2) := by decide +kernel
theorem dX8_takes_210 : decode cX8_takes 210 = .ok (.iload 10, 2) := by decide +kernel
theorem dX8_takes_212 : decode cX8_takes 212 = .ok (.ifCond .ne 7, 3) := by decide +kernel
theorem dX8_takes_215 : decode cX8_takes 215 = .ok (.iconst 0, 1) := by decide +kernel
theorem dX8_takes_216 : decode cX8_takes 216 = .ok (.goto 27, 3) := by decide +kernel
theorem dX8_takes_219 : decode cX8_takes 219 = .ok (.iload 11, 2) := by decide +kernel
theorem dX8_takes_221 : decode cX8_takes 221 = .ok (.ifCond .lt 11, 3) := by decide +kernel
theorem dX8_takes_224 : decode cX8_takes 224 = .ok (.iload 11, 2) := by decide +kernel
theorem dX8_takes_226 : decode cX8_takes 226 = .ok (.iload 10, 2) := by decide +kernel
theorem dX8_takes_228 : decode cX8_takes 228 = .ok (.idiv, 1) := by decide +kernel
theorem dX8_takes_229 : decode cX8_takes 229 = .ok (.goto 14, 3) := by decide +kernel
theorem dX8_takes_232 : decode cX8_takes 232 = .ok (.iload 10, 2) := by decide +kernel
theorem dX8_takes_234 : decode cX8_takes 234 = .ok (.iconst 1, 1) := by decide +kernel
theorem dX8_takes_235 : decode cX8_takes 235 = .ok (.isub, 1) := by decide +kernel
theorem dX8_takes_236 : decode cX8_takes 236 = .ok (.iload 11, 2) := by decide +kernel
theorem dX8_takes_238 : decode cX8_takes 238 = .ok (.isub, 1) := by decide +kernel
theorem dX8_takes_239 : decode cX8_takes 239 = .ok (.iload 10, 2) := by decide +kernel
theorem dX8_takes_241 : decode cX8_takes 241 = .ok (.idiv, 1) := by decide +kernel
theorem dX8_takes_242 : decode cX8_takes 242 = .ok (.ineg, 1) := by decide +kernel
theorem dX8_takes_243 : decode cX8_takes 243 = .ok (.iastore, 1) := by decide +kernel
theorem dX8_takes_244 : decode cX8_takes 244 = .ok (.iload 5, 2) := by decide +kernel
theorem dX8_takes_246 : decode cX8_takes 246 = .ok (.iload 9, 2) := by decide +kernel
theorem dX8_takes_248 : decode cX8_takes 248 = .ok (.iadd, 1) := by decide +kernel
theorem dX8_takes_249 : decode cX8_takes 249 = .ok (.istore 5, 2) := by decide +kernel
theorem dX8_takes_251 : decode cX8_takes 251 = .ok (.iinc 6 1, 3) := by decide +kernel
theorem dX8_takes_254 : decode cX8_takes 254 = .ok (.goto (-248), 3) := by decide +kernel
theorem dX8_takes_257 : decode cX8_takes 257 = .ok (.return_, 1) := by decide +kernel
theorem dX8_lay_0 : decode cX8_lay 0 = .ok (.iload_n 1, 1) := by decide +kernel
theorem dX8_lay_1 : decode cX8_lay 1 = .ok (.invokestatic 106, 3) := by decide +kernel
theorem dX8_lay_4 : decode cX8_lay 4 = .ok (.ifCond .eq 11, 3) := by decide +kernel
theorem dX8_lay_7 : decode cX8_lay 7 = .ok (.aload_n 0, 1) := by decide +kernel
theorem dX8_lay_8 : decode cX8_lay 8 = .ok (.iload_n 1, 1) := by decide +kernel
theorem dX8_lay_9 : decode cX8_lay 9 = .ok (.invokevirtual 129, 3) := by decide +kernel
theorem dX8_lay_12 : decode cX8_lay 12 = .ok (.goto 4, 3) := by decide +kernel
theorem dX8_lay_15 : decode cX8_lay 15 = .ok (.iconst (-1), 1) := by decide +kernel
theorem dX8_lay_16 : decode cX8_lay 16 = .ok (.ireturn, 1) := by decide +kernel
theorem dX8_isNote_0 : decode cX8_isNote 0 = .ok (.iload_n 1, 1) := by decide +kernel
theorem dX8_isNote_1 : decode cX8_isNote 1 = .ok (.invokestatic 106, 3) := by decide +kernel
theorem dX8_isNote_4 : decode cX8_isNote 4 = .ok (.ifCond .eq 35, 3) := by decide +kernel
theorem dX8_isNote_7 : decode cX8_isNote 7 = .ok (.iload_n 2, 1) := by decide +kernel
theorem dX8_isNote_8 : decode cX8_isNote 8 = .ok (.ifCond .lt 31, 3) := by decide +kernel
theorem dX8_isNote_11 : decode cX8_isNote 11 = .ok (.iload_n 2, 1) := by decide +kernel
theorem dX8_isNote_12 : decode cX8_isNote 12 = .ok (.aload_n 0, 1) := by decide +kernel
theorem dX8_isNote_13 : decode cX8_isNote 13 = .ok (.getfield 7, 3) := by decide +kernel
theorem dX8_isNote_16 : decode cX8_isNote 16 = .ok (.aload_n 0, 1) := by decide +kernel
theorem dX8_isNote_17 : decode cX8_isNote 17 = .ok (.getfield 19, 3) := by decide +kernel
theorem dX8_isNote_20 : decode cX8_isNote 20 = .ok (.iload_n 1, 1) := by decide +kernel
theorem dX8_isNote_21 : decode cX8_isNote 21 = .ok (.iaload, 1) := by decide +kernel
theorem dX8_isNote_22 : decode cX8_isNote 22 = .ok (.iaload, 1) := by decide +kernel
theorem dX8_isNote_23 : decode cX8_isNote 23 = .ok (.if_icmp .ge 16, 3) := by decide +kernel
theorem dX8_isNote_26 : decode cX8_isNote 26 = .ok (.aload_n 0, 1) := by decide +kernel
theorem dX8_isNote_27 : decode cX8_isNote 27 = .ok (.iload_n 1, 1) := by decide +kernel
theorem dX8_isNote_28 : decode cX8_isNote 28 = .ok (.invokevirtual 129, 3) := by decide +kernel
theorem dX8_isNote_31 : decode cX8_isNote 31 = .ok (.iconst (-1), 1) := by decide +kernel
theorem dX8_isNote_32 : decode cX8_isNote 32 = .ok (.if_icmp .eq 7, 3) := by decide +kernel
theorem dX8_isNote_35 : decode cX8_isNote 35 = .ok (.iconst 1, 1) := by decide +kernel
theorem dX8_isNote_36 : decode cX8_isNote 36 = .ok (.goto 4, 3) := by decide +kernel
theorem dX8_isNote_39 : decode cX8_isNote 39 = .ok (.iconst 0, 1) := by decide +kernel
theorem dX8_isNote_40 : decode cX8_isNote 40 = .ok (.ireturn, 1) := by decide +kernel
theorem dX8_isFault_0 : decode cX8_isFault 0 = .ok (.aload_n 0, 1) := by decide +kernel
theorem dX8_isFault_1 : decode cX8_isFault 1 = .ok (.getfield 47, 3) := by decide +kernel
theorem dX8_isFault_4 : decode cX8_isFault 4 = .ok (.iload_n 1, 1) := by decide +kernel
theorem dX8_isFault_5 : decode cX8_isFault 5 = .ok (.iaload, 1) := by decide +kernel
theorem dX8_isFault_6 : decode cX8_isFault 6 = .ok (.ifCond .ne 5, 3) := by decide +kernel
theorem dX8_isFault_9 : decode cX8_isFault 9 = .ok (.iconst 1, 1) := by decide +kernel
theorem dX8_isFault_10 : decode cX8_isFault 10 = .ok (.ireturn, 1) := by decide +kernel
theorem dX8_isFault_11 : decode cX8_isFault 11 = .ok (.aload_n 0, 1) := by decide +kernel
theorem dX8_isFault_12 : decode cX8_isFault 12 = .ok (.getfield 56, 3) := by decide +kernel
theorem dX8_isFault_15 : decode cX8_isFault 15 = .ok (.iload_n 1, 1) := by decide +kernel
theorem dX8_isFault_16 : decode cX8_isFault 16 = .ok (.baload, 1) := by decide +kernel
theorem dX8_isFault_17 : decode cX8_isFault 17 = .ok (.ifCond .ne 5, 3) := by decide +kernel
theorem dX8_isFault_20 : decode cX8_isFault 20 = .ok (.iconst 0, 1) := by decide +kernel
theorem dX8_isFault_21 : decode cX8_isFault 21 = .ok (.ireturn, 1) := by decide +kernel
theorem dX8_isFault_22 : decode cX8_isFault 22 = .ok (.iconst 0, 1) := by decide +kernel
theorem dX8_isFault_23 : decode cX8_isFault 23 = .ok (.istore_n 2, 1) := by decide +kernel
theorem dX8_isFault_24 : decode cX8_isFault 24 = .ok (.iconst 0, 1) := by decide +kernel
theorem dX8_isFault_25 : decode cX8_isFault 25 = .ok (.istore_n 3, 1) := by decide +kernel
theorem dX8_isFault_26 : decode cX8_isFault 26 = .ok (.iload_n 3, 1) := by decide +kernel
theorem dX8_isFault_27 : decode cX8_isFault 27 = .ok (.iload_n 1, 1) := by decide +kernel
theorem dX8_isFault_28 : decode cX8_isFault 28 = .ok (.if_icmp .ge 25, 3) := by decide +kernel
theorem dX8_isFault_31 : decode cX8_isFault 31 = .ok (.aload_n 0, 1) := by decide +kernel
theorem dX8_isFault_32 : decode cX8_isFault 32 = .ok (.getfield 56, 3) := by decide +kernel
theorem dX8_isFault_35 : decode cX8_isFault 35 = .ok (.iload_n 3, 1) := by decide +kernel
theorem dX8_isFault_36 : decode cX8_isFault 36 = .ok (.baload, 1) := by decide +kernel
theorem dX8_isFault_37 : decode cX8_isFault 37 = .ok (.ifCond .eq 10, 3) := by decide +kernel
theorem dX8_isFault_40 : decode cX8_isFault 40 = .ok (.aload_n 0, 1) := by decide +kernel
theorem dX8_isFault_41 : decode cX8_isFault 41 = .ok (.getfield 53, 3) := by decide +kernel
theorem dX8_isFault_44 : decode cX8_isFault 44 = .ok (.iload_n 3, 1) := by decide +kernel
theorem dX8_isFault_45 : decode cX8_isFault 45 = .ok (.iaload, 1) := by decide +kernel
theorem dX8_isFault_46 : decode cX8_isFault 46 = .ok (.istore_n 2, 1) := by decide +kernel
theorem dX8_isFault_47 : decode cX8_isFault 47 = .ok (.iinc 3 1, 3) := by decide +kernel
theorem dX8_isFault_50 : decode cX8_isFault 50 = .ok (.goto (-24), 3) := by decide +kernel
theorem dX8_isFault_53 : decode cX8_isFault 53 = .ok (.aload_n 0, 1) := by decide +kernel
theorem dX8_isFault_54 : decode cX8_isFault 54 = .ok (.getfield 53, 3) := by decide +kernel
theorem dX8_isFault_57 : decode cX8_isFault 57 = .ok (.iload_n 1, 1) := by decide +kernel
theorem dX8_isFault_58 : decode cX8_isFault 58 = .ok (.iaload, 1) := by decide +kernel
theorem dX8_isFault_59 : decode cX8_isFault 59 = .ok (.iload_n 2, 1) := by decide +kernel
theorem dX8_isFault_60 : decode cX8_isFault 60 = .ok (.invokestatic 110, 3) := by decide +kernel
theorem dX8_isFault_63 : decode cX8_isFault 63 = .ok (.aload_n 0, 1) := by decide +kernel
theorem dX8_isFault_64 : decode cX8_isFault 64 = .ok (.getfield 41, 3) := by decide +kernel
theorem dX8_isFault_67 : decode cX8_isFault 67 = .ok (.if_icmp .le 7, 3) := by decide +kernel
theorem dX8_isFault_70 : decode cX8_isFault 70 = .ok (.iconst 1, 1) := by decide +kernel
theorem dX8_isFault_71 : decode cX8_isFault 71 = .ok (.goto 4, 3) := by decide +kernel
theorem dX8_isFault_74 : decode cX8_isFault 74 = .ok (.iconst 0, 1) := by decide +kernel
theorem dX8_isFault_75 : decode cX8_isFault 75 = .ok (.ireturn, 1) := by decide +kernel
theorem dX8_laid_0 : decode cX8_laid 0 = .ok (.aload_n 0, 1) := by decide +kernel
theorem dX8_laid_1 : decode cX8_laid 1 = .ok (.iload_n 1, 1) := by decide +kernel
theorem dX8_laid_2 : decode cX8_laid 2 = .ok (.iload_n 2, 1) := by decide +kernel
theorem dX8_laid_3 : decode cX8_laid 3 = .ok (.invokevirtual 133, 3) := by decide +kernel
theorem dX8_laid_6 : decode cX8_laid 6 = .ok (.ifCond .ne 6, 3) := by decide +kernel
theorem dX8_laid_9 : decode cX8_laid 9 = .ok (.bipush (-2), 2) := by decide +kernel
theorem dX8_laid_11 : decode cX8_laid 11 = .ok (.ireturn, 1) := by decide +kernel
theorem dX8_laid_12 : decode cX8_laid 12 = .ok (.iload_n 3, 1) := by decide +kernel
theorem dX8_laid_13 : decode cX8_laid 13 = .ok (.tableswitch 68 0 2 #[27, 47, 54], 27) := by decide +kernel
theorem dX8_laid_40 : decode cX8_laid 40 = .ok (.aload_n 0, 1) := by decide +kernel
theorem dX8_laid_41 : decode cX8_laid 41 = .ok (.getfield 47, 3) := by decide +kernel
theorem dX8_laid_44 : decode cX8_laid 44 = .ok (.iload_n 2, 1) := by decide +kernel
theorem dX8_laid_45 : decode cX8_laid 45 = .ok (.iaload, 1) := by decide +kernel
theorem dX8_laid_46 : decode cX8_laid 46 = .ok (.ifCond .ne 7, 3) := by decide +kernel
theorem dX8_laid_49 : decode cX8_laid 49 = .ok (.iconst (-1), 1) := by decide +kernel
theorem dX8_laid_50 : decode cX8_laid 50 = .ok (.goto 9, 3) := by decide +kernel
theorem dX8_laid_53 : decode cX8_laid 53 = .ok (.aload_n 0, 1) := by decide +kernel
theorem dX8_laid_54 : decode cX8_laid 54 = .ok (.getfield 50, 3) := by decide +kernel
theorem dX8_laid_57 : decode cX8_laid 57 = .ok (.iload_n 2, 1) := by decide +kernel
theorem dX8_laid_58 : decode cX8_laid 58 = .ok (.iaload, 1) := by decide +kernel
theorem dX8_laid_59 : decode cX8_laid 59 = .ok (.ireturn, 1) := by decide +kernel
theorem dX8_laid_60 : decode cX8_laid 60 = .ok (.aload_n 0, 1) := by decide +kernel
theorem dX8_laid_61 : decode cX8_laid 61 = .ok (.getfield 47, 3) := by decide +kernel
theorem dX8_laid_64 : decode cX8_laid 64 = .ok (.iload_n 2, 1) := by decide +kernel
theorem dX8_laid_65 : decode cX8_laid 65 = .ok (.iaload, 1) := by decide +kernel
theorem dX8_laid_66 : decode cX8_laid 66 = .ok (.ireturn, 1) := by decide +kernel
theorem dX8_laid_67 : decode cX8_laid 67 = .ok (.aload_n 0, 1) := by decide +kernel
theorem dX8_laid_68 : decode cX8_laid 68 = .ok (.iload_n 2, 1) := by decide +kernel
theorem dX8_laid_69 : decode cX8_laid 69 = .ok (.invokevirtual 137, 3) := by decide +kernel
theorem dX8_laid_72 : decode cX8_laid 72 = .ok (.ifCond .eq 7, 3) := by decide +kernel
theorem dX8_laid_75 : decode cX8_laid 75 = .ok (.iconst 1, 1) := by decide +kernel
theorem dX8_laid_76 : decode cX8_laid 76 = .ok (.goto 4, 3) := by decide +kernel
theorem dX8_laid_79 : decode cX8_laid 79 = .ok (.iconst 0, 1) := by decide +kernel
theorem dX8_laid_80 : decode cX8_laid 80 = .ok (.ireturn, 1) := by decide +kernel
theorem dX8_laid_81 : decode cX8_laid 81 = .ok (.bipush (-2), 2) := by decide +kernel
theorem dX8_laid_83 : decode cX8_laid 83 = .ok (.ireturn, 1) := by decide +kernel
theorem dX8_off_0 : decode cX8_off 0 = .ok (.aload_n 0, 1) := by decide +kernel
theorem dX8_off_1 : decode cX8_off 1 = .ok (.iload_n 1, 1) := by decide +kernel
theorem dX8_off_2 : decode cX8_off 2 = .ok (.iload_n 2, 1) := by decide +kernel
theorem dX8_off_3 : decode cX8_off 3 = .ok (.invokevirtual 133, 3) := by decide +kernel
theorem dX8_off_6 : decode cX8_off 6 = .ok (.ifCond .eq 21, 3) := by decide +kernel
theorem dX8_off_9 : decode cX8_off 9 = .ok (.aload_n 0, 1) := by decide +kernel
theorem dX8_off_10 : decode cX8_off 10 = .ok (.getfield 56, 3) := by decide +kernel
theorem dX8_off_13 : decode cX8_off 13 = .ok (.iload_n 2, 1) := by decide +kernel
theorem dX8_off_14 : decode cX8_off 14 = .ok (.baload, 1) := by decide +kernel
theorem dX8_off_15 : decode cX8_off 15 = .ok (.ifCond .eq 12, 3) := by decide +kernel
theorem dX8_off_18 : decode cX8_off 18 = .ok (.aload_n 0, 1) := by decide +kernel
theorem dX8_off_19 : decode cX8_off 19 = .ok (.getfield 53, 3) := by decide +kernel
theorem dX8_off_22 : decode cX8_off 22 = .ok (.iload_n 2, 1) := by decide +kernel
theorem dX8_off_23 : decode cX8_off 23 = .ok (.iaload, 1) := by decide +kernel
theorem dX8_off_24 : decode cX8_off 24 = .ok (.goto 5, 3) := by decide +kernel
theorem dX8_off_27 : decode cX8_off 27 = .ok (.ldc 140, 2) := by decide +kernel
theorem dX8_off_29 : decode cX8_off 29 = .ok (.ireturn, 1) := by decide +kernel
theorem dX8_told_0 : decode cX8_told 0 = .ok (.iload_n 1, 1) := by decide +kernel
theorem dX8_told_1 : decode cX8_told 1 = .ok (.invokestatic 106, 3) := by decide +kernel
theorem dX8_told_4 : decode cX8_told 4 = .ok (.ifCond .eq 21, 3) := by decide +kernel
theorem dX8_told_7 : decode cX8_told 7 = .ok (.iload_n 2, 1) := by decide +kernel
theorem dX8_told_8 : decode cX8_told 8 = .ok (.ifCond .eq 8, 3) := by decide +kernel
theorem dX8_told_11 : decode cX8_told 11 = .ok (.iload_n 2, 1) := by decide +kernel
theorem dX8_told_12 : decode cX8_told 12 = .ok (.iconst 1, 1) := by decide +kernel
theorem dX8_told_13 : decode cX8_told 13 = .ok (.if_icmp .ne 12, 3) := by decide +kernel
theorem dX8_told_16 : decode cX8_told 16 = .ok (.aload_n 0, 1) := by decide +kernel
theorem dX8_told_17 : decode cX8_told 17 = .ok (.iload_n 1, 1) := by decide +kernel
theorem dX8_told_18 : decode cX8_told 18 = .ok (.invokevirtual 129, 3) := by decide +kernel
theorem dX8_told_21 : decode cX8_told 21 = .ok (.iconst (-1), 1) := by decide +kernel
theorem dX8_told_22 : decode cX8_told 22 = .ok (.if_icmp .ne 6, 3) := by decide +kernel
theorem dX8_told_25 : decode cX8_told 25 = .ok (.ldc 140, 2) := by decide +kernel
theorem dX8_told_27 : decode cX8_told 27 = .ok (.ireturn, 1) := by decide +kernel
theorem dX8_told_28 : decode cX8_told 28 = .ok (.aload_n 0, 1) := by decide +kernel
theorem dX8_told_29 : decode cX8_told 29 = .ok (.getfield 7, 3) := by decide +kernel
theorem dX8_told_32 : decode cX8_told 32 = .ok (.aload_n 0, 1) := by decide +kernel
theorem dX8_told_33 : decode cX8_told 33 = .ok (.getfield 19, 3) := by decide +kernel
theorem dX8_told_36 : decode cX8_told 36 = .ok (.iload_n 1, 1) := by decide +kernel
theorem dX8_told_37 : decode cX8_told 37 = .ok (.iaload, 1) := by decide +kernel
theorem dX8_told_38 : decode cX8_told 38 = .ok (.iaload, 1) := by decide +kernel
theorem dX8_told_39 : decode cX8_told 39 = .ok (.istore_n 3, 1) := by decide +kernel
theorem dX8_told_40 : decode cX8_told 40 = .ok (.iconst 0, 1) := by decide +kernel
theorem dX8_told_41 : decode cX8_told 41 = .ok (.istore 4, 2) := by decide +kernel
theorem dX8_told_43 : decode cX8_told 43 = .ok (.iconst (-1), 1) := by decide +kernel
theorem dX8_told_44 : decode cX8_told 44 = .ok (.istore 5, 2) := by decide +kernel
theorem dX8_told_46 : decode cX8_told 46 = .ok (.iconst (-1), 1) := by decide +kernel
theorem dX8_told_47 : decode cX8_told 47 = .ok (.istore 6, 2) := by decide +kernel
theorem dX8_told_49 : decode cX8_told 49 = .ok (.iconst 0, 1) := by decide +kernel
theorem dX8_told_50 : decode cX8_told 50 = .ok (.istore 7, 2) := by decide +kernel
theorem dX8_told_52 : decode cX8_told 52 = .ok (.iload 7, 2) := by decide +kernel
theorem dX8_told_54 : decode cX8_told 54 = .ok (.iload_n 3, 1) := by decide +kernel
theorem dX8_told_55 : decode cX8_told 55 = .ok (.if_icmp .ge 48, 3) := by decide +kernel
theorem dX8_told_58 : decode cX8_told 58 = .ok (.aload_n 0, 1) := by decide +kernel
theorem dX8_told_59 : decode cX8_told 59 = .ok (.iload 7, 2) := by decide +kernel
theorem dX8_told_61 : decode cX8_told 61 = .ok (.invokevirtual 137, 3) := by decide +kernel
theorem dX8_told_64 : decode cX8_told 64 = .ok (.ifCond .eq 6, 3) := by decide +kernel
theorem dX8_told_67 : decode cX8_told 67 = .ok (.iinc 4 1, 3) := by decide +kernel
theorem dX8_told_70 : decode cX8_told 70 = .ok (.aload_n 0, 1) := by decide +kernel
theorem dX8_told_71 : decode cX8_told 71 = .ok (.getfield 56, 3) := by decide +kernel
theorem dX8_told_74 : decode cX8_told 74 = .ok (.iload 7, 2) := by decide +kernel
theorem dX8_told_76 : decode cX8_told 76 = .ok (.baload, 1) := by decide +kernel
theorem dX8_told_77 : decode cX8_told 77 = .ok (.ifCond .ne 6, 3) := by decide +kernel
theorem dX8_told_80 : decode cX8_told 80 = .ok (.goto 17, 3) := by decide +kernel
theorem dX8_told_83 : decode cX8_told 83 = .ok (.iload 5, 2) := by decide +kernel
theorem dX8_told_85 : decode cX8_told 85 = .ok (.iconst (-1), 1) := by decide +kernel
theorem dX8_told_86 : decode cX8_told 86 = .ok (.if_icmp .ne 7, 3) := by decide +kernel
theorem dX8_told_89 : decode cX8_told 89 = .ok (.iload 7, 2) := by decide +kernel
theorem dX8_told_91 : decode cX8_told 91 = .ok (.istore 5, 2) := by decide +kernel
theorem dX8_told_93 : decode cX8_told 93 = .ok (.iload 7, 2) := by decide +kernel
theorem dX8_told_95 : decode cX8_told 95 = .ok (.istore 6, 2) := by decide +kernel
theorem dX8_told_97 : decode cX8_told 97 = .ok (.iinc 7 1, 3) := by decide +kernel
theorem dX8_told_100 : decode cX8_told 100 = .ok (.goto (-48), 3) := by decide +kernel
theorem dX8_told_103 : decode cX8_told 103 = .ok (.iload_n 2, 1) := by decide +kernel
theorem dX8_told_104 : decode cX8_told 104 = .ok (.iconst 1, 1) := by decide +kernel
theorem dX8_told_105 : decode cX8_told 105 = .ok (.if_icmp .ne 8, 3) := by decide +kernel
theorem dX8_told_108 : decode cX8_told 108 = .ok (.iload 4, 2) := by decide +kernel
theorem dX8_told_110 : decode cX8_told 110 = .ok (.goto 28, 3) := by decide +kernel
theorem dX8_told_113 : decode cX8_told 113 = .ok (.iload 5, 2) := by decide +kernel
theorem dX8_told_115 : decode cX8_told 115 = .ok (.iconst (-1), 1) := by decide +kernel
theorem dX8_told_116 : decode cX8_told 116 = .ok (.if_icmp .ne 7, 3) := by decide +kernel
theorem dX8_told_119 : decode cX8_told 119 = .ok (.iconst 0, 1) := by decide +kernel
theorem dX8_told_120 : decode cX8_told 120 = .ok (.goto 18, 3) := by decide +kernel
theorem dX8_told_123 : decode cX8_told 123 = .ok (.aload_n 0, 1) := by decide +kernel
theorem dX8_told_124 : decode cX8_told 124 = .ok (.getfield 53, 3) := by decide +kernel
theorem dX8_told_127 : decode cX8_told 127 = .ok (.iload 5, 2) := by decide +kernel
theorem dX8_told_129 : decode cX8_told 129 = .ok (.iaload, 1) := by decide +kernel
theorem dX8_told_130 : decode cX8_told 130 = .ok (.aload_n 0, 1) := by decide +kernel
theorem dX8_told_131 : decode cX8_told 131 = .ok (.getfield 53, 3) := by decide +kernel
theorem dX8_told_134 : decode cX8_told 134 = .ok (.iload 6, 2) := by decide +kernel
theorem dX8_told_136 : decode cX8_told 136 = .ok (.iaload, 1) := by decide +kernel
theorem dX8_told_137 : decode cX8_told 137 = .ok (.isub, 1) := by decide +kernel
theorem dX8_told_138 : decode cX8_told 138 = .ok (.ireturn, 1) := by decide +kernel
theorem dX8_ones_0 : decode cX8_ones 0 = .ok (.iconst 0, 1) := by decide +kernel
theorem dX8_ones_1 : decode cX8_ones 1 = .ok (.istore_n 1, 1) := by decide +kernel
theorem dX8_ones_2 : decode cX8_ones 2 = .ok (.iconst 0, 1) := by decide +kernel
theorem dX8_ones_3 : decode cX8_ones 3 = .ok (.istore_n 2, 1) := by decide +kernel
theorem dX8_ones_4 : decode cX8_ones 4 = .ok (.iload_n 2, 1) := by decide +kernel
theorem dX8_ones_5 : decode cX8_ones 5 = .ok (.bipush 30, 2) := by decide +kernel
theorem dX8_ones_7 : decode cX8_ones 7 = .ok (.if_icmp .ge 17, 3) := by decide +kernel
theorem dX8_ones_10 : decode cX8_ones 10 = .ok (.iload_n 1, 1) := by decide +kernel
theorem dX8_ones_11 : decode cX8_ones 11 = .ok (.iload_n 0, 1) := by decide +kernel
theorem dX8_ones_12 : decode cX8_ones 12 = .ok (.iload_n 2, 1) := by decide +kernel
theorem dX8_ones_13 : decode cX8_ones 13 = .ok (.ishr, 1) := by decide +kernel
theorem dX8_ones_14 : decode cX8_ones 14 = .ok (.iconst 1, 1) := by decide +kernel
theorem dX8_ones_15 : decode cX8_ones 15 = .ok (.iand, 1) := by decide +kernel
theorem dX8_ones_16 : decode cX8_ones 16 = .ok (.iadd, 1) := by decide +kernel
theorem dX8_ones_17 : decode cX8_ones 17 = .ok (.istore_n 1, 1) := by decide +kernel
theorem dX8_ones_18 : decode cX8_ones 18 = .ok (.iinc 2 1, 3) := by decide +kernel
theorem dX8_ones_21 : decode cX8_ones 21 = .ok (.goto (-17), 3) := by decide +kernel
theorem dX8_ones_24 : decode cX8_ones 24 = .ok (.iload_n 1, 1) := by decide +kernel
theorem dX8_ones_25 : decode cX8_ones 25 = .ok (.ireturn, 1) := by decide +kernel
theorem dX8_sing_0 : decode cX8_sing 0 = .ok (.iload_n 1, 1) := by decide +kernel
theorem dX8_sing_1 : decode cX8_sing 1 = .ok (.iconst 1, 1) := by decide +kernel
theorem dX8_sing_2 : decode cX8_sing 2 = .ok (.sipush 1023, 3) := by decide +kernel
theorem dX8_sing_5 : decode cX8_sing 5 = .ok (.invokestatic 102, 3) := by decide +kernel
theorem dX8_sing_8 : decode cX8_sing 8 = .ok (.ifCond .ne 5, 3) := by decide +kernel
theorem dX8_sing_11 : decode cX8_sing 11 = .ok (.iconst (-1), 1) := by decide +kernel
theorem dX8_sing_12 : decode cX8_sing 12 = .ok (.ireturn, 1) := by decide +kernel
theorem dX8_sing_13 : decode cX8_sing 13 = .ok (.aload_n 0, 1) := by decide +kernel
theorem dX8_sing_14 : decode cX8_sing 14 = .ok (.iload_n 1, 1) := by decide +kernel
theorem dX8_sing_15 : decode cX8_sing 15 = .ok (.putfield 141, 3) := by decide +kernel
theorem dX8_sing_18 : decode cX8_sing 18 = .ok (.iload_n 1, 1) := by decide +kernel
theorem dX8_sing_19 : decode cX8_sing 19 = .ok (.invokestatic 144, 3) := by decide +kernel
theorem dX8_sing_22 : decode cX8_sing 22 = .ok (.ireturn, 1) := by decide +kernel
theorem dX8_judge_0 : decode cX8_judge 0 = .ok (.iload_n 1, 1) := by decide +kernel
theorem dX8_judge_1 : decode cX8_judge 1 = .ok (.iconst 0, 1) := by decide +kernel
theorem dX8_judge_2 : decode cX8_judge 2 = .ok (.bipush 8, 2) := by decide +kernel
theorem dX8_judge_4 : decode cX8_judge 4 = .ok (.invokestatic 102, 3) := by decide +kernel
theorem dX8_judge_7 : decode cX8_judge 7 = .ok (.ifCond .eq 13, 3) := by decide +kernel
theorem dX8_judge_10 : decode cX8_judge 10 = .ok (.iload_n 2, 1) := by decide +kernel
theorem dX8_judge_11 : decode cX8_judge 11 = .ok (.iconst 0, 1) := by decide +kernel
theorem dX8_judge_12 : decode cX8_judge 12 = .ok (.bipush 10, 2) := by decide +kernel
theorem dX8_judge_14 : decode cX8_judge 14 = .ok (.invokestatic 102, 3) := by decide +kernel
theorem dX8_judge_17 : decode cX8_judge 17 = .ok (.ifCond .ne 5, 3) := by decide +kernel
theorem dX8_judge_20 : decode cX8_judge 20 = .ok (.iconst 0, 1) := by decide +kernel
theorem dX8_judge_21 : decode cX8_judge 21 = .ok (.ireturn, 1) := by decide +kernel
theorem dX8_judge_22 : decode cX8_judge 22 = .ok (.iconst 0, 1) := by decide +kernel
theorem dX8_judge_23 : decode cX8_judge 23 = .ok (.istore 5, 2) := by decide +kernel
theorem dX8_judge_25 : decode cX8_judge 25 = .ok (.iconst 0, 1) := by decide +kernel
theorem dX8_judge_26 : decode cX8_judge 26 = .ok (.istore 6, 2) := by decide +kernel
theorem dX8_judge_28 : decode cX8_judge 28 = .ok (.iload 6, 2) := by decide +kernel
theorem dX8_judge_30 : decode cX8_judge 30 = .ok (.iload_n 2, 1) := by decide +kernel
theorem dX8_judge_31 : decode cX8_judge 31 = .ok (.if_icmp .ge 51, 3) := by decide +kernel
theorem dX8_judge_34 : decode cX8_judge 34 = .ok (.lload_n 3, 1) := by decide +kernel
theorem dX8_judge_35 : decode cX8_judge 35 = .ok (.iconst 4, 1) := by decide +kernel
theorem dX8_judge_36 : decode cX8_judge 36 = .ok (.iload 6, 2) := by decide +kernel
theorem dX8_judge_38 : decode cX8_judge 38 = .ok (.imul, 1) := by decide +kernel
theorem dX8_judge_39 : decode cX8_judge 39 = .ok (.lshr, 1) := by decide +kernel
theorem dX8_judge_40 : decode cX8_judge 40 = .ok (.ldc2_w 147, 3) := by decide +kernel
theorem dX8_judge_43 : decode cX8_judge 43 = .ok (.land, 1) := by decide +kernel
theorem dX8_judge_44 : decode cX8_judge 44 = .ok (.l2i, 1) := by decide +kernel
theorem dX8_judge_45 : decode cX8_judge 45 = .ok (.istore 7, 2) := by decide +kernel
theorem dX8_judge_47 : decode cX8_judge 47 = .ok (.iload 7, 2) := by decide +kernel
theorem dX8_judge_49 : decode cX8_judge 49 = .ok (.bipush 10, 2) := by decide +kernel
theorem dX8_judge_51 : decode cX8_judge 51 = .ok (.if_icmp .ge 14, 3) := by decide +kernel
theorem dX8_judge_54 : decode cX8_judge 54 = .ok (.iload 5, 2) := by decide +kernel
theorem dX8_judge_56 : decode cX8_judge 56 = .ok (.iload 7, 2) := by decide +kernel
theorem dX8_judge_58 : decode cX8_judge 58 = .ok (.ishr, 1) := by decide +kernel
theorem dX8_judge_59 : decode cX8_judge 59 = .ok (.iconst 1, 1) := by decide +kernel
theorem dX8_judge_60 : decode cX8_judge 60 = .ok (.iand, 1) := by decide +kernel
theorem dX8_judge_61 : decode cX8_judge 61 = .ok (.iconst 1, 1) := by decide +kernel
theorem dX8_judge_62 : decode cX8_judge 62 = .ok (.if_icmp .ne 5, 3) := by decide +kernel
theorem dX8_judge_65 : decode cX8_judge 65 = .ok (.iconst 0, 1) := by decide +kernel
theorem dX8_judge_66 : decode cX8_judge 66 = .ok (.ireturn, 1) := by decide +kernel
theorem dX8_judge_67 : decode cX8_judge 67 = .ok (.iload 5, 2) := by decide +kernel
theorem dX8_judge_69 : decode cX8_judge 69 = .ok (.iconst 1, 1) := by decide +kernel
theorem dX8_judge_70 : decode cX8_judge 70 = .ok (.iload 7, 2) := by decide +kernel
theorem dX8_judge_72 : decode cX8_judge 72 = .ok (.ishl, 1) := by decide +kernel
theorem dX8_judge_73 : decode cX8_judge 73 = .ok (.ior, 1) := by decide +kernel
theorem dX8_judge_74 : decode cX8_judge 74 = .ok (.istore 5, 2) := by decide +kernel
theorem dX8_judge_76 : decode cX8_judge 76 = .ok (.iinc 6 1, 3) := by decide +kernel
theorem dX8_judge_79 : decode cX8_judge 79 = .ok (.goto (-51), 3) := by decide +kernel
theorem dX8_judge_82 : decode cX8_judge 82 = .ok (.aload_n 0, 1) := by decide +kernel
theorem dX8_judge_83 : decode cX8_judge 83 = .ok (.getfield 60, 3) := by decide +kernel
theorem dX8_judge_86 : decode cX8_judge 86 = .ok (.iload_n 1, 1) := by decide +kernel
theorem dX8_judge_87 : decode cX8_judge 87 = .ok (.iload_n 2, 1) := by decide +kernel
theorem dX8_judge_88 : decode cX8_judge 88 = .ok (.iastore, 1) := by decide +kernel
theorem dX8_judge_89 : decode cX8_judge 89 = .ok (.aload_n 0, 1) := by decide +kernel
theorem dX8_judge_90 : decode cX8_judge 90 = .ok (.getfield 63, 3) := by decide +kernel
theorem dX8_judge_93 : decode cX8_judge 93 = .ok (.iload_n 1, 1) := by decide +kernel
theorem dX8_judge_94 : decode cX8_judge 94 = .ok (.iload 5, 2) := by decide +kernel
theorem dX8_judge_96 : decode cX8_judge 96 = .ok (.iastore, 1) := by decide +kernel
theorem dX8_judge_97 : decode cX8_judge 97 = .ok (.iconst 0, 1) := by decide +kernel
theorem dX8_judge_98 : decode cX8_judge 98 = .ok (.istore 6, 2) := by decide +kernel
theorem dX8_judge_100 : decode cX8_judge 100 = .ok (.iload 6, 2) := by decide +kernel
theorem dX8_judge_102 : decode cX8_judge 102 = .ok (.iload_n 2, 1) := by decide +kernel
theorem dX8_judge_103 : decode cX8_judge 103 = .ok (.if_icmp .ge 34, 3) := by decide +kernel
theorem dX8_judge_106 : decode cX8_judge 106 = .ok (.aload_n 0, 1) := by decide +kernel
theorem dX8_judge_107 : decode cX8_judge 107 = .ok (.getfield 66, 3) := by decide +kernel
theorem dX8_judge_110 : decode cX8_judge 110 = .ok (.bipush 10, 2) := by decide +kernel
theorem dX8_judge_112 : decode cX8_judge 112 = .ok (.iload_n 1, 1) := by decide +kernel
theorem dX8_judge_113 : decode cX8_judge 113 = .ok (.imul, 1) := by decide +kernel
theorem dX8_judge_114 : decode cX8_judge 114 = .ok (.lload_n 3, 1) := by decide +kernel
theorem dX8_judge_115 : decode cX8_judge 115 = .ok (.iconst 4, 1) := by decide +kernel
theorem dX8_judge_116 : decode cX8_judge 116 = .ok (.iload 6, 2) := by decide +kernel
theorem dX8_judge_118 : decode cX8_judge 118 = .ok (.imul, 1) := by decide +kernel
theorem dX8_judge_119 : decode cX8_judge 119 = .ok (.lshr, 1) := by decide +kernel
theorem dX8_judge_120 : decode cX8_judge 120 = .ok (.ldc2_w 147, 3) := by decide +kernel
theorem dX8_judge_123 : decode cX8_judge 123 = .ok (.land, 1) := by decide +kernel
theorem dX8_judge_124 : decode cX8_judge 124 = .ok (.l2i, 1) := by decide +kernel
theorem dX8_judge_125 : decode cX8_judge 125 = .ok (.iadd, 1) := by decide +kernel
theorem dX8_judge_126 : decode cX8_judge 126 = .ok (.iload 6, 2) := by decide +kernel
theorem dX8_judge_128 : decode cX8_judge 128 = .ok (.iconst 1, 1) := by decide +kernel
theorem dX8_judge_129 : decode cX8_judge 129 = .ok (.iadd, 1) := by decide +kernel
theorem dX8_judge_130 : decode cX8_judge 130 = .ok (.iastore, 1) := by decide +kernel
theorem dX8_judge_131 : decode cX8_judge 131 = .ok (.iinc 6 1, 3) := by decide +kernel
theorem dX8_judge_134 : decode cX8_judge 134 = .ok (.goto (-34), 3) := by decide +kernel
theorem dX8_judge_137 : decode cX8_judge 137 = .ok (.iconst 1, 1) := by decide +kernel
theorem dX8_judge_138 : decode cX8_judge 138 = .ok (.ireturn, 1) := by decide +kernel
theorem dX8_hasJudge_0 : decode cX8_hasJudge 0 = .ok (.aload_n 0, 1) := by decide +kernel
theorem dX8_hasJudge_1 : decode cX8_hasJudge 1 = .ok (.getfield 60, 3) := by decide +kernel
theorem dX8_hasJudge_4 : decode cX8_hasJudge 4 = .ok (.iload_n 1, 1) := by decide +kernel
theorem dX8_hasJudge_5 : decode cX8_hasJudge 5 = .ok (.iaload, 1) := by decide +kernel
theorem dX8_hasJudge_6 : decode cX8_hasJudge 6 = .ok (.ifCond .le 20, 3) := by decide +kernel
theorem dX8_hasJudge_9 : decode cX8_hasJudge 9 = .ok (.aload_n 0, 1) := by decide +kernel
theorem dX8_hasJudge_10 : decode cX8_hasJudge 10 = .ok (.getfield 63, 3) := by decide +kernel
theorem dX8_hasJudge_13 : decode cX8_hasJudge 13 = .ok (.iload_n 1, 1) := by decide +kernel
theorem dX8_hasJudge_14 : decode cX8_hasJudge 14 = .ok (.iaload, 1) := by decide +kernel
theorem dX8_hasJudge_15 : decode cX8_hasJudge 15 = .ok (.aload_n 0, 1) := by decide +kernel
theorem dX8_hasJudge_16 : decode cX8_hasJudge 16 = .ok (.getfield 141, 3) := by decide +kernel
theorem dX8_hasJudge_19 : decode cX8_hasJudge 19 = .ok (.if_icmp .ne 7, 3) := by decide +kernel
theorem dX8_hasJudge_22 : decode cX8_hasJudge 22 = .ok (.iconst 1, 1) := by decide +kernel
theorem dX8_hasJudge_23 : decode cX8_hasJudge 23 = .ok (.goto 4, 3) := by decide +kernel
theorem dX8_hasJudge_26 : decode cX8_hasJudge 26 = .ok (.iconst 0, 1) := by decide +kernel
theorem dX8_hasJudge_27 : decode cX8_hasJudge 27 = .ok (.ireturn, 1) := by decide +kernel
theorem dX8_judges_0 : decode cX8_judges 0 = .ok (.iconst 0, 1) := by decide +kernel
theorem dX8_judges_1 : decode cX8_judges 1 = .ok (.istore_n 1, 1) := by decide +kernel
theorem dX8_judges_2 : decode cX8_judges 2 = .ok (.iconst 0, 1) := by decide +kernel
theorem dX8_judges_3 : decode cX8_judges 3 = .ok (.istore_n 2, 1) := by decide +kernel
theorem dX8_judges_4 : decode cX8_judges 4 = .ok (.iload_n 2, 1) := by decide +kernel
theorem dX8_judges_5 : decode cX8_judges 5 = .ok (.bipush 9, 2) := by decide +kernel
theorem dX8_judges_7 : decode cX8_judges 7 = .ok (.if_icmp .ge 20, 3) := by decide +kernel
theorem dX8_judges_10 : decode cX8_judges 10 = .ok (.aload_n 0, 1) := by decide +kernel
theorem dX8_judges_11 : decode cX8_judges 11 = .ok (.iload_n 2, 1) := by decide +kernel
theorem dX8_judges_12 : decode cX8_judges 12 = .ok (.invokevirtual 149, 3) := by decide +kernel
theorem dX8_judges_15 : decode cX8_judges 15 = .ok (.ifCond .eq 6, 3) := by decide +kernel
theorem dX8_judges_18 : decode cX8_judges 18 = .ok (.iinc 1 1, 3) := by decide +kernel
theorem dX8_judges_21 : decode cX8_judges 21 = .ok (.iinc 2 1, 3) := by decide +kernel
theorem dX8_judges_24 : decode cX8_judges 24 = .ok (.goto (-20), 3) := by decide +kernel
theorem dX8_judges_27 : decode cX8_judges 27 = .ok (.iload_n 1, 1) := by decide +kernel
theorem dX8_judges_28 : decode cX8_judges 28 = .ok (.ireturn, 1) := by decide +kernel
theorem dX8_sings_0 : decode cX8_sings 0 = .ok (.iload_n 1, 1) := by decide +kernel
theorem dX8_sings_1 : decode cX8_sings 1 = .ok (.iconst 0, 1) := by decide +kernel
theorem dX8_sings_2 : decode cX8_sings 2 = .ok (.bipush 9, 2) := by decide +kernel
theorem dX8_sings_4 : decode cX8_sings 4 = .ok (.invokestatic 102, 3) := by decide +kernel
theorem dX8_sings_7 : decode cX8_sings 7 = .ok (.ifCond .eq 19, 3) := by decide +kernel
theorem dX8_sings_10 : decode cX8_sings 10 = .ok (.aload_n 0, 1) := by decide +kernel
theorem dX8_sings_11 : decode cX8_sings 11 = .ok (.getfield 141, 3) := by decide +kernel
theorem dX8_sings_14 : decode cX8_sings 14 = .ok (.iload_n 1, 1) := by decide +kernel
theorem dX8_sings_15 : decode cX8_sings 15 = .ok (.ishr, 1) := by decide +kernel
theorem dX8_sings_16 : decode cX8_sings 16 = .ok (.iconst 1, 1) := by decide +kernel
theorem dX8_sings_17 : decode cX8_sings 17 = .ok (.iand, 1) := by decide +kernel
theorem dX8_sings_18 : decode cX8_sings 18 = .ok (.iconst 1, 1) := by decide +kernel
theorem dX8_sings_19 : decode cX8_sings 19 = .ok (.if_icmp .ne 7, 3) := by decide +kernel
theorem dX8_sings_22 : decode cX8_sings 22 = .ok (.iconst 1, 1) := by decide +kernel
theorem dX8_sings_23 : decode cX8_sings 23 = .ok (.goto 4, 3) := by decide +kernel
theorem dX8_sings_26 : decode cX8_sings 26 = .ok (.iconst 0, 1) := by decide +kernel
theorem dX8_sings_27 : decode cX8_sings 27 = .ok (.ireturn, 1) := by decide +kernel
theorem dX8_ranked_0 : decode cX8_ranked 0 = .ok (.iconst 0, 1) := by decide +kernel
theorem dX8_ranked_1 : decode cX8_ranked 1 = .ok (.istore 4, 2) := by decide +kernel
theorem dX8_ranked_3 : decode cX8_ranked 3 = .ok (.iconst 0, 1) := by decide +kernel
theorem dX8_ranked_4 : decode cX8_ranked 4 = .ok (.istore 5, 2) := by decide +kernel
theorem dX8_ranked_6 : decode cX8_ranked 6 = .ok (.iload 5, 2) := by decide +kernel
theorem dX8_ranked_8 : decode cX8_ranked 8 = .ok (.bipush 9, 2) := by decide +kernel
theorem dX8_ranked_10 : decode cX8_ranked 10 = .ok (.if_icmp .ge 59, 3) := by decide +kernel
theorem dX8_ranked_13 : decode cX8_ranked 13 = .ok (.aload_n 0, 1) := by decide +kernel
theorem dX8_ranked_14 : decode cX8_ranked 14 = .ok (.iload 5, 2) := by decide +kernel
theorem dX8_ranked_16 : decode cX8_ranked 16 = .ok (.invokevirtual 149, 3) := by decide +kernel
theorem dX8_ranked_19 : decode cX8_ranked 19 = .ok (.ifCond .eq 44, 3) := by decide +kernel
theorem dX8_ranked_22 : decode cX8_ranked 22 = .ok (.aload_n 0, 1) := by decide +kernel
theorem dX8_ranked_23 : decode cX8_ranked 23 = .ok (.getfield 66, 3) := by decide +kernel
theorem dX8_ranked_26 : decode cX8_ranked 26 = .ok (.bipush 10, 2) := by decide +kernel
theorem dX8_ranked_28 : decode cX8_ranked 28 = .ok (.iload 5, 2) := by decide +kernel
theorem dX8_ranked_30 : decode cX8_ranked 30 = .ok (.imul, 1) := by decide +kernel
theorem dX8_ranked_31 : decode cX8_ranked 31 = .ok (.iload_n 1, 1) := by decide +kernel
theorem dX8_ranked_32 : decode cX8_ranked 32 = .ok (.iadd, 1) := by decide +kernel
theorem dX8_ranked_33 : decode cX8_ranked 33 = .ok (.iaload, 1) := by decide +kernel
theorem dX8_ranked_34 : decode cX8_ranked 34 = .ok (.iload_n 2, 1) := by decide +kernel
theorem dX8_ranked_35 : decode cX8_ranked 35 = .ok (.if_icmp .gt 28, 3) := by decide +kernel
theorem dX8_ranked_38 : decode cX8_ranked 38 = .ok (.iload 4, 2) := by decide +kernel
theorem dX8_ranked_40 : decode cX8_ranked 40 = .ok (.iload_n 3, 1) := by decide +kernel
theorem dX8_ranked_41 : decode cX8_ranked 41 = .ok (.ifCond .eq 18, 3) := by decide +kernel
theorem dX8_ranked_44 : decode cX8_ranked 44 = .ok (.aload_n 0, 1) := by decide +kernel
theorem dX8_ranked_45 : decode cX8_ranked 45 = .ok (.getfield 66, 3) := by decide +kernel
theorem dX8_ranked_48 : decode cX8_ranked 48 = .ok (.bipush 10, 2) := by decide +kernel
theorem dX8_ranked_50 : decode cX8_ranked 50 = .ok (.iload 5, 2) := by decide +kernel
theorem dX8_ranked_52 : decode cX8_ranked 52 = .ok (.imul, 1) := by decide +kernel
theorem dX8_ranked_53 : decode cX8_ranked 53 = .ok (.iload_n 1, 1) := by decide +kernel
theorem dX8_ranked_54 : decode cX8_ranked 54 = .ok (.iadd, 1) := by decide +kernel
theorem dX8_ranked_55 : decode cX8_ranked 55 = .ok (.iaload, 1) := by decide +kernel
theorem dX8_ranked_56 : decode cX8_ranked 56 = .ok (.goto 4, 3) := by decide +kernel
theorem dX8_ranked_59 : decode cX8_ranked 59 = .ok (.iconst 1, 1) := by decide +kernel
theorem dX8_ranked_60 : decode cX8_ranked 60 = .ok (.iadd, 1) := by decide +kernel
theorem dX8_ranked_61 : decode cX8_ranked 61 = .ok (.istore 4, 2) := by decide +kernel
theorem dX8_ranked_63 : decode cX8_ranked 63 = .ok (.iinc 5 1, 3) := by decide +kernel
theorem dX8_ranked_66 : decode cX8_ranked 66 = .ok (.goto (-60), 3) := by decide +kernel
theorem dX8_ranked_69 : decode cX8_ranked 69 = .ok (.iload 4, 2) := by decide +kernel
theorem dX8_ranked_71 : decode cX8_ranked 71 = .ok (.ireturn, 1) := by decide +kernel
theorem dX8_against_0 : decode cX8_against 0 = .ok (.aload_n 0, 1) := by decide +kernel
theorem dX8_against_1 : decode cX8_against 1 = .ok (.getfield 141, 3) := by decide +kernel
theorem dX8_against_4 : decode cX8_against 4 = .ok (.invokestatic 144, 3) := by decide +kernel
theorem dX8_against_7 : decode cX8_against 7 = .ok (.istore 4, 2) := by decide +kernel
theorem dX8_against_9 : decode cX8_against 9 = .ok (.iload_n 3, 1) := by decide +kernel
theorem dX8_against_10 : decode cX8_against 10 = .ok (.istore 5, 2) := by decide +kernel
theorem dX8_against_12 : decode cX8_against 12 = .ok (.iload 5, 2) := by decide +kernel
theorem dX8_against_14 : decode cX8_against 14 = .ok (.iload 4, 2) := by decide +kernel
theorem dX8_against_16 : decode cX8_against 16 = .ok (.if_icmp .gt 60, 3) := by decide +kernel
theorem dX8_against_19 : decode cX8_against 19 = .ok (.aload_n 0, 1) := by decide +kernel
theorem dX8_against_20 : decode cX8_against 20 = .ok (.iload_n 2, 1) := by decide +kernel
theorem dX8_against_21 : decode cX8_against 21 = .ok (.iload 5, 2) := by decide +kernel
theorem dX8_against_23 : decode cX8_against 23 = .ok (.iconst 0, 1) := by decide +kernel
theorem dX8_against_24 : decode cX8_against 24 = .ok (.invokevirtual 152, 3) := by decide +kernel
theorem dX8_against_27 : decode cX8_against 27 = .ok (.aload_n 0, 1) := by decide +kernel
theorem dX8_against_28 : decode cX8_against 28 = .ok (.iload_n 1, 1) := by decide +kernel
theorem dX8_against_29 : decode cX8_against 29 = .ok (.iload 5, 2) := by decide +kernel
theorem dX8_against_31 : decode cX8_against 31 = .ok (.iconst 0, 1) := by decide +kernel
theorem dX8_against_32 : decode cX8_against 32 = .ok (.invokevirtual 152, 3) := by decide +kernel
theorem dX8_against_35 : decode cX8_against 35 = .ok (.isub, 1) := by decide +kernel
theorem dX8_against_36 : decode cX8_against 36 = .ok (.istore 6, 2) := by decide +kernel
theorem dX8_against_38 : decode cX8_against 38 = .ok (.iload 6, 2) := by decide +kernel
theorem dX8_against_40 : decode cX8_against 40 = .ok (.ifCond .ne 22, 3) := by decide +kernel
theorem dX8_against_43 : decode cX8_against 43 = .ok (.aload_n 0, 1) := by decide +kernel
theorem dX8_against_44 : decode cX8_against 44 = .ok (.iload_n 1, 1) := by decide +kernel
theorem dX8_against_45 : decode cX8_against 45 = .ok (.iload 5, 2) := by decide +kernel
theorem dX8_against_47 : decode cX8_against 47 = .ok (.iconst 1, 1) := by decide +kernel
theorem dX8_against_48 : decode cX8_against 48 = .ok (.invokevirtual 152, 3) := by decide +kernel
theorem dX8_against_51 : decode cX8_against 51 = .ok (.aload_n 0, 1) := by decide +kernel
theorem dX8_against_52 : decode cX8_against 52 = .ok (.iload_n 2, 1) := by decide +kernel
theorem dX8_against_53 : decode cX8_against 53 = .ok (.iload 5, 2) := by decide +kernel
theorem dX8_against_55 : decode cX8_against 55 = .ok (.iconst 1, 1) := by decide +kernel
theorem dX8_against_56 : decode cX8_against 56 = .ok (.invokevirtual 152, 3) := by decide +kernel
theorem dX8_against_59 : decode cX8_against 59 = .ok (.isub, 1) := by decide +kernel
theorem dX8_against_60 : decode cX8_against 60 = .ok (.istore 6, 2) := by decide +kernel
theorem dX8_against_62 : decode cX8_against 62 = .ok (.iload 6, 2) := by decide +kernel
theorem dX8_against_64 : decode cX8_against 64 = .ok (.ifCond .eq 6, 3) := by decide +kernel
theorem dX8_against_67 : decode cX8_against 67 = .ok (.iload 6, 2) := by decide +kernel
theorem dX8_against_69 : decode cX8_against 69 = .ok (.ireturn, 1) := by decide +kernel
theorem dX8_against_70 : decode cX8_against 70 = .ok (.iinc 5 1, 3) := by decide +kernel
theorem dX8_against_73 : decode cX8_against 73 = .ok (.goto (-61), 3) := by decide +kernel
theorem dX8_against_76 : decode cX8_against 76 = .ok (.iconst 0, 1) := by decide +kernel
theorem dX8_against_77 : decode cX8_against 77 = .ok (.ireturn, 1) := by decide +kernel
theorem dX8_placesOf_0 : decode cX8_placesOf 0 = .ok (.aload_n 0, 1) := by decide +kernel
theorem dX8_placesOf_1 : decode cX8_placesOf 1 = .ok (.invokevirtual 156, 3) := by decide +kernel
theorem dX8_placesOf_4 : decode cX8_placesOf 4 = .ok (.iconst 2, 1) := by decide +kernel
theorem dX8_placesOf_5 : decode cX8_placesOf 5 = .ok (.idiv, 1) := by decide +kernel
theorem dX8_placesOf_6 : decode cX8_placesOf 6 = .ok (.iconst 1, 1) := by decide +kernel
theorem dX8_placesOf_7 : decode cX8_placesOf 7 = .ok (.iadd, 1) := by decide +kernel
theorem dX8_placesOf_8 : decode cX8_placesOf 8 = .ok (.istore_n 1, 1) := by decide +kernel
theorem dX8_placesOf_9 : decode cX8_placesOf 9 = .ok (.aload_n 0, 1) := by decide +kernel
theorem dX8_placesOf_10 : decode cX8_placesOf 10 = .ok (.getfield 141, 3) := by decide +kernel
theorem dX8_placesOf_13 : decode cX8_placesOf 13 = .ok (.invokestatic 144, 3) := by decide +kernel
theorem dX8_placesOf_16 : decode cX8_placesOf 16 = .ok (.istore_n 2, 1) := by decide +kernel
theorem dX8_placesOf_17 : decode cX8_placesOf 17 = .ok (.iconst 0, 1) := by decide +kernel
theorem dX8_placesOf_18 : decode cX8_placesOf 18 = .ok (.istore_n 3, 1) := by decide +kernel
theorem dX8_placesOf_19 : decode cX8_placesOf 19 = .ok (.iconst 0, 1) := by decide +kernel
theorem dX8_placesOf_20 : decode cX8_placesOf 20 = .ok (.istore 4, 2) := by decide +kernel
theorem dX8_placesOf_22 : decode cX8_placesOf 22 = .ok (.iload 4, 2) := by decide +kernel
theorem dX8_placesOf_24 : decode cX8_placesOf 24 = .ok (.bipush 10, 2) := by decide +kernel
theorem dX8_placesOf_26 : decode cX8_placesOf 26 = .ok (.if_icmp .ge 17, 3) := by decide +kernel
theorem dX8_placesOf_29 : decode cX8_placesOf 29 = .ok (.aload_n 0, 1) := by decide +kernel
theorem dX8_placesOf_30 : decode cX8_placesOf 30 = .ok (.getfield 69, 3) := by decide +kernel
theorem dX8_placesOf_33 : decode cX8_placesOf 33 = .ok (.iload 4, 2) := by decide +kernel
theorem dX8_placesOf_35 : decode cX8_placesOf 35 = .ok (.iconst 0, 1) := by decide +kernel
theorem dX8_placesOf_36 : decode cX8_placesOf 36 = .ok (.iastore, 1) := by decide +kernel
theorem dX8_placesOf_37 : decode cX8_placesOf 37 = .ok (.iinc 4 1, 3) := by decide +kernel
theorem dX8_placesOf_40 : decode cX8_placesOf 40 = .ok (.goto (-18), 3) := by decide +kernel
theorem dX8_placesOf_43 : decode cX8_placesOf 43 = .ok (.iconst 1, 1) := by decide +kernel
theorem dX8_placesOf_44 : decode cX8_placesOf 44 = .ok (.istore 4, 2) := by decide +kernel
theorem dX8_placesOf_46 : decode cX8_placesOf 46 = .ok (.iload 4, 2) := by decide +kernel
theorem dX8_placesOf_48 : decode cX8_placesOf 48 = .ok (.iload_n 2, 1) := by decide +kernel
theorem dX8_placesOf_49 : decode cX8_placesOf 49 = .ok (.if_icmp .gt 165, 3) := by decide +kernel
theorem dX8_placesOf_52 : decode cX8_placesOf 52 = .ok (.iconst 0, 1) := by decide +kernel
theorem dX8_placesOf_53 : decode cX8_placesOf 53 = .ok (.istore 5, 2) := by decide +kernel
theorem dX8_placesOf_55 : decode cX8_placesOf 55 = .ok (.iconst 0, 1) := by decide +kernel
theorem dX8_placesOf_56 : decode cX8_placesOf 56 = .ok (.istore 6, 2) := by decide +kernel
theorem dX8_placesOf_58 : decode cX8_placesOf 58 = .ok (.iload 6, 2) := by decide +kernel
theorem dX8_placesOf_60 : decode cX8_placesOf 60 = .ok (.bipush 10, 2) := by decide +kernel
theorem dX8_placesOf_62 : decode cX8_placesOf 62 = .ok (.if_icmp .ge 50, 3) := by decide +kernel
theorem dX8_placesOf_65 : decode cX8_placesOf 65 = .ok (.aload_n 0, 1) := by decide +kernel
theorem dX8_placesOf_66 : decode cX8_placesOf 66 = .ok (.iload 6, 2) := by decide +kernel
theorem dX8_placesOf_68 : decode cX8_placesOf 68 = .ok (.invokevirtual 160, 3) := by decide +kernel
theorem dX8_placesOf_71 : decode cX8_placesOf 71 = .ok (.ifCond .eq 35, 3) := by decide +kernel
theorem dX8_placesOf_74 : decode cX8_placesOf 74 = .ok (.aload_n 0, 1) := by decide +kernel
theorem dX8_placesOf_75 : decode cX8_placesOf 75 = .ok (.getfield 69, 3) := by decide +kernel
theorem dX8_placesOf_78 : decode cX8_placesOf 78 = .ok (.iload 6, 2) := by decide +kernel
theorem dX8_placesOf_80 : decode cX8_placesOf 80 = .ok (.iaload, 1) := by decide +kernel
theorem dX8_placesOf_81 : decode cX8_placesOf 81 = .ok (.ifCond .ne 25, 3) := by decide +kernel
theorem dX8_placesOf_84 : decode cX8_placesOf 84 = .ok (.aload_n 0, 1) := by decide +kernel
theorem dX8_placesOf_85 : decode cX8_placesOf 85 = .ok (.iload 6, 2) := by decide +kernel
theorem dX8_placesOf_87 : decode cX8_placesOf 87 = .ok (.iload 4, 2) := by decide +kernel
theorem dX8_placesOf_89 : decode cX8_placesOf 89 = .ok (.iconst 0, 1) := by decide +kernel
theorem dX8_placesOf_90 : decode cX8_placesOf 90 = .ok (.invokevirtual 152, 3) := by decide +kernel
theorem dX8_placesOf_93 : decode cX8_placesOf 93 = .ok (.iload_n 1, 1) := by decide +kernel
theorem dX8_placesOf_94 : decode cX8_placesOf 94 = .ok (.if_icmp .lt 12, 3) := by decide +kernel
theorem dX8_placesOf_97 : decode cX8_placesOf 97 = .ok (.iload 5, 2) := by decide +kernel
theorem dX8_placesOf_99 : decode cX8_placesOf 99 = .ok (.iconst 1, 1) := by decide +kernel
theorem dX8_placesOf_100 : decode cX8_placesOf 100 = .ok (.iload 6, 2) := by decide +kernel
theorem dX8_placesOf_102 : decode cX8_placesOf 102 = .ok (.ishl, 1) := by decide +kernel
theorem dX8_placesOf_103 : decode cX8_placesOf 103 = .ok (.ior, 1) := by decide +kernel
theorem dX8_placesOf_104 : decode cX8_placesOf 104 = .ok (.istore 5, 2) := by decide +kernel
theorem dX8_placesOf_106 : decode cX8_placesOf 106 = .ok (.iinc 6 1, 3) := by decide +kernel
theorem dX8_placesOf_109 : decode cX8_placesOf 109 = .ok (.goto (-51), 3) := by decide +kernel
theorem dX8_placesOf_112 : decode cX8_placesOf 112 = .ok (.iconst 0, 1) := by decide +kernel
theorem dX8_placesOf_113 : decode cX8_placesOf 113 = .ok (.istore 6, 2) := by decide +kernel
theorem dX8_placesOf_115 : decode cX8_placesOf 115 = .ok (.iload 6, 2) := by decide +kernel
theorem dX8_placesOf_117 : decode cX8_placesOf 117 = .ok (.bipush 10, 2) := by decide +kernel
theorem dX8_placesOf_119 : decode cX8_placesOf 119 = .ok (.if_icmp .ge 81, 3) := by decide +kernel
theorem dX8_placesOf_122 : decode cX8_placesOf 122 = .ok (.iload 5, 2) := by decide +kernel
theorem dX8_placesOf_124 : decode cX8_placesOf 124 = .ok (.iload 6, 2) := by decide +kernel
theorem dX8_placesOf_126 : decode cX8_placesOf 126 = .ok (.ishr, 1) := by decide +kernel
theorem dX8_placesOf_127 : decode cX8_placesOf 127 = .ok (.iconst 1, 1) := by decide +kernel
theorem dX8_placesOf_128 : decode cX8_placesOf 128 = .ok (.iand, 1) := by decide +kernel
theorem dX8_placesOf_129 : decode cX8_placesOf 129 = .ok (.ifCond .ne 6, 3) := by decide +kernel
theorem dX8_placesOf_132 : decode cX8_placesOf 132 = .ok (.goto 62, 3) := by decide +kernel
theorem dX8_placesOf_135 : decode cX8_placesOf 135 = .ok (.iconst 0, 1) := by decide +kernel
theorem dX8_placesOf_136 : decode cX8_placesOf 136 = .ok (.istore 7, 2) := by decide +kernel
theorem dX8_placesOf_138 : decode cX8_placesOf 138 = .ok (.iconst 0, 1) := by decide +kernel
theorem dX8_placesOf_139 : decode cX8_placesOf 139 = .ok (.istore 8, 2) := by decide +kernel
theorem dX8_placesOf_141 : decode cX8_placesOf 141 = .ok (.iload 8, 2) := by decide +kernel
theorem dX8_placesOf_143 : decode cX8_placesOf 143 = .ok (.bipush 10, 2) := by decide +kernel
theorem dX8_placesOf_145 : decode cX8_placesOf 145 = .ok (.if_icmp .ge 36, 3) := by decide +kernel
theorem dX8_placesOf_148 : decode cX8_placesOf 148 = .ok (.iload 5, 2) := by decide +kernel
theorem dX8_placesOf_150 : decode cX8_placesOf 150 = .ok (.iload 8, 2) := by decide +kernel
theorem dX8_placesOf_152 : decode cX8_placesOf 152 = .ok (.ishr, 1) := by decide +kernel
theorem dX8_placesOf_153 : decode cX8_placesOf 153 = .ok (.iconst 1, 1) := by decide +kernel
theorem dX8_placesOf_154 : decode cX8_placesOf 154 = .ok (.iand, 1) := by decide +kernel
theorem dX8_placesOf_155 : decode cX8_placesOf 155 = .ok (.iconst 1, 1) := by decide +kernel
theorem dX8_placesOf_156 : decode cX8_placesOf 156 = .ok (.if_icmp .ne 19, 3) := by decide +kernel
theorem dX8_placesOf_159 : decode cX8_placesOf 159 = .ok (.aload_n 0, 1) := by decide +kernel
theorem dX8_placesOf_160 : decode cX8_placesOf 160 = .ok (.iload 8, 2) := by decide +kernel
theorem dX8_placesOf_162 : decode cX8_placesOf 162 = .ok (.iload 6, 2) := by decide +kernel
theorem dX8_placesOf_164 : decode cX8_placesOf 164 = .ok (.iload 4, 2) := by decide +kernel
theorem dX8_placesOf_166 : decode cX8_placesOf 166 = .ok (.invokevirtual 163, 3) := by decide +kernel
theorem dX8_placesOf_169 : decode cX8_placesOf 169 = .ok (.ifCond .ge 6, 3) := by decide +kernel
theorem dX8_placesOf_172 : decode cX8_placesOf 172 = .ok (.iinc 7 1, 3) := by decide +kernel
theorem dX8_placesOf_175 : decode cX8_placesOf 175 = .ok (.iinc 8 1, 3) := by decide +kernel
theorem dX8_placesOf_178 : decode cX8_placesOf 178 = .ok (.goto (-37), 3) := by decide +kernel
theorem dX8_placesOf_181 : decode cX8_placesOf 181 = .ok (.aload_n 0, 1) := by decide +kernel
theorem dX8_placesOf_182 : decode cX8_placesOf 182 = .ok (.getfield 69, 3) := by decide +kernel
theorem dX8_placesOf_185 : decode cX8_placesOf 185 = .ok (.iload 6, 2) := by decide +kernel
theorem dX8_placesOf_187 : decode cX8_placesOf 187 = .ok (.iload_n 3, 1) := by decide +kernel
theorem dX8_placesOf_188 : decode cX8_placesOf 188 = .ok (.iload 7, 2) := by decide +kernel
theorem dX8_placesOf_190 : decode cX8_placesOf 190 = .ok (.iadd, 1) := by decide +kernel
theorem dX8_placesOf_191 : decode cX8_placesOf 191 = .ok (.iconst 1, 1) := by decide +kernel
theorem dX8_placesOf_192 : decode cX8_placesOf 192 = .ok (.iadd, 1) := by decide +kernel
theorem dX8_placesOf_193 : decode cX8_placesOf 193 = .ok (.iastore, 1) := by decide +kernel
theorem dX8_placesOf_194 : decode cX8_placesOf 194 = .ok (.iinc 6 1, 3) := by decide +kernel
theorem dX8_placesOf_197 : decode cX8_placesOf 197 = .ok (.goto (-82), 3) := by decide +kernel
theorem dX8_placesOf_200 : decode cX8_placesOf 200 = .ok (.iload_n 3, 1) := by decide +kernel
theorem dX8_placesOf_201 : decode cX8_placesOf 201 = .ok (.iload 5, 2) := by decide +kernel
theorem dX8_placesOf_203 : decode cX8_placesOf 203 = .ok (.invokestatic 144, 3) := by decide +kernel
theorem dX8_placesOf_206 : decode cX8_placesOf 206 = .ok (.iadd, 1) := by decide +kernel
theorem dX8_placesOf_207 : decode cX8_placesOf 207 = .ok (.istore_n 3, 1) := by decide +kernel
theorem dX8_placesOf_208 : decode cX8_placesOf 208 = .ok (.iinc 4 1, 3) := by decide +kernel
theorem dX8_placesOf_211 : decode cX8_placesOf 211 = .ok (.goto (-165), 3) := by decide +kernel
theorem dX8_placesOf_214 : decode cX8_placesOf 214 = .ok (.return_, 1) := by decide +kernel
theorem dX8_place__0 : decode cX8_place_ 0 = .ok (.aload_n 0, 1) := by decide +kernel
theorem dX8_place__1 : decode cX8_place_ 1 = .ok (.iload_n 1, 1) := by decide +kernel
theorem dX8_place__2 : decode cX8_place_ 2 = .ok (.invokevirtual 160, 3) := by decide +kernel
theorem dX8_place__5 : decode cX8_place_ 5 = .ok (.ifCond .eq 10, 3) := by decide +kernel
theorem dX8_place__8 : decode cX8_place_ 8 = .ok (.aload_n 0, 1) := by decide +kernel
theorem dX8_place__9 : decode cX8_place_ 9 = .ok (.invokevirtual 156, 3) := by decide +kernel
theorem dX8_place__12 : decode cX8_place_ 12 = .ok (.ifCond .ne 5, 3) := by decide +kernel
theorem dX8_place__15 : decode cX8_place_ 15 = .ok (.iconst (-1), 1) := by decide +kernel
theorem dX8_place__16 : decode cX8_place_ 16 = .ok (.ireturn, 1) := by decide +kernel
theorem dX8_place__17 : decode cX8_place_ 17 = .ok (.aload_n 0, 1) := by decide +kernel
theorem dX8_place__18 : decode cX8_place_ 18 = .ok (.invokevirtual 166, 3) := by decide +kernel
theorem dX8_place__21 : decode cX8_place_ 21 = .ok (.aload_n 0, 1) := by decide +kernel
theorem dX8_place__22 : decode cX8_place_ 22 = .ok (.getfield 69, 3) := by decide +kernel
theorem dX8_place__25 : decode cX8_place_ 25 = .ok (.iload_n 1, 1) := by decide +kernel
theorem dX8_place__26 : decode cX8_place_ 26 = .ok (.iaload, 1) := by decide +kernel
theorem dX8_place__27 : decode cX8_place_ 27 = .ok (.ireturn, 1) := by decide +kernel
theorem dX8_ranks_0 : decode cX8_ranks 0 = .ok (.aload_n 0, 1) := by decide +kernel
theorem dX8_ranks_1 : decode cX8_ranks 1 = .ok (.iload_n 1, 1) := by decide +kernel
theorem dX8_ranks_2 : decode cX8_ranks 2 = .ok (.invokevirtual 160, 3) := by decide +kernel
theorem dX8_ranks_5 : decode cX8_ranks 5 = .ok (.ifCond .eq 17, 3) := by decide +kernel
theorem dX8_ranks_8 : decode cX8_ranks 8 = .ok (.iload_n 2, 1) := by decide +kernel
theorem dX8_ranks_9 : decode cX8_ranks 9 = .ok (.ifCond .le 13, 3) := by decide +kernel
theorem dX8_ranks_12 : decode cX8_ranks 12 = .ok (.aload_n 0, 1) := by decide +kernel
theorem dX8_ranks_13 : decode cX8_ranks 13 = .ok (.iload_n 1, 1) := by decide +kernel
theorem dX8_ranks_14 : decode cX8_ranks 14 = .ok (.iload_n 2, 1) := by decide +kernel
theorem dX8_ranks_15 : decode cX8_ranks 15 = .ok (.iconst 0, 1) := by decide +kernel
theorem dX8_ranks_16 : decode cX8_ranks 16 = .ok (.invokevirtual 152, 3) := by decide +kernel
theorem dX8_ranks_19 : decode cX8_ranks 19 = .ok (.goto 4, 3) := by decide +kernel
theorem dX8_ranks_22 : decode cX8_ranks 22 = .ok (.iconst (-1), 1) := by decide +kernel
theorem dX8_ranks_23 : decode cX8_ranks 23 = .ok (.ireturn, 1) := by decide +kernel
theorem dX8_member_0 : decode cX8_member 0 = .ok (.iload_n 1, 1) := by decide +kernel
theorem dX8_member_1 : decode cX8_member 1 = .ok (.iconst 0, 1) := by decide +kernel
theorem dX8_member_2 : decode cX8_member 2 = .ok (.bipush 29, 2) := by decide +kernel
theorem dX8_member_4 : decode cX8_member 4 = .ok (.invokestatic 102, 3) := by decide +kernel
theorem dX8_member_7 : decode cX8_member 7 = .ok (.ifCond .eq 45, 3) := by decide +kernel
theorem dX8_member_10 : decode cX8_member 10 = .ok (.iload_n 2, 1) := by decide +kernel
theorem dX8_member_11 : decode cX8_member 11 = .ok (.iconst 0, 1) := by decide +kernel
theorem dX8_member_12 : decode cX8_member 12 = .ok (.bipush 9, 2) := by decide +kernel
theorem dX8_member_14 : decode cX8_member 14 = .ok (.invokestatic 102, 3) := by decide +kernel
theorem dX8_member_17 : decode cX8_member 17 = .ok (.ifCond .eq 35, 3) := by decide +kernel
theorem dX8_member_20 : decode cX8_member 20 = .ok (.iload_n 3, 1) := by decide +kernel
theorem dX8_member_21 : decode cX8_member 21 = .ok (.iconst 0, 1) := by decide +kernel
theorem dX8_member_22 : decode cX8_member 22 = .ok (.sipush 1000, 3) := by decide +kernel
theorem dX8_member_25 : decode cX8_member 25 = .ok (.invokestatic 102, 3) := by decide +kernel
theorem dX8_member_28 : decode cX8_member 28 = .ok (.ifCond .eq 24, 3) := by decide +kernel
theorem dX8_member_31 : decode cX8_member 31 = .ok (.iload 4, 2) := by decide +kernel
theorem dX8_member_33 : decode cX8_member 33 = .ok (.iload_n 3, 1) := by decide +kernel
theorem dX8_member_34 : decode cX8_member 34 = .ok (.sipush 1000, 3) := by decide +kernel
theorem dX8_member_37 : decode cX8_member 37 = .ok (.invokestatic 102, 3) := by decide +kernel
theorem dX8_member_40 : decode cX8_member 40 = .ok (.ifCond .eq 12, 3) := by decide +kernel
theorem dX8_member_43 : decode cX8_member 43 = .ok (.aload_n 0, 1) := by decide +kernel
theorem dX8_member_44 : decode cX8_member 44 = .ok (.getfield 169, 3) := by decide +kernel
theorem dX8_member_47 : decode cX8_member 47 = .ok (.bipush 60, 2) := by decide +kernel
theorem dX8_member_49 : decode cX8_member 49 = .ok (.if_icmp .ne 5, 3) := by decide +kernel
theorem dX8_member_52 : decode cX8_member 52 = .ok (.iconst (-1), 1) := by decide +kernel
theorem dX8_member_53 : decode cX8_member 53 = .ok (.ireturn, 1) := by decide +kernel
theorem dX8_member_54 : decode cX8_member 54 = .ok (.aload_n 0, 1) := by decide +kernel
theorem dX8_member_55 : decode cX8_member 55 = .ok (.getfield 72, 3) := by decide +kernel
theorem dX8_member_58 : decode cX8_member 58 = .ok (.aload_n 0, 1) := by decide +kernel
theorem dX8_member_59 : decode cX8_member 59 = .ok (.getfield 169, 3) := by decide +kernel
theorem dX8_member_62 : decode cX8_member 62 = .ok (.iload_n 1, 1) := by decide +kernel
theorem dX8_member_63 : decode cX8_member 63 = .ok (.iastore, 1) := by decide +kernel
theorem dX8_member_64 : decode cX8_member 64 = .ok (.aload_n 0, 1) := by decide +kernel
theorem dX8_member_65 : decode cX8_member 65 = .ok (.getfield 75, 3) := by decide +kernel
theorem dX8_member_68 : decode cX8_member 68 = .ok (.aload_n 0, 1) := by decide +kernel
theorem dX8_member_69 : decode cX8_member 69 = .ok (.getfield 169, 3) := by decide +kernel
theorem dX8_member_72 : decode cX8_member 72 = .ok (.iload_n 2, 1) := by decide +kernel
theorem dX8_member_73 : decode cX8_member 73 = .ok (.iastore, 1) := by decide +kernel
theorem dX8_member_74 : decode cX8_member 74 = .ok (.aload_n 0, 1) := by decide +kernel
theorem dX8_member_75 : decode cX8_member 75 = .ok (.getfield 78, 3) := by decide +kernel
theorem dX8_member_78 : decode cX8_member 78 = .ok (.aload_n 0, 1) := by decide +kernel
theorem dX8_member_79 : decode cX8_member 79 = .ok (.getfield 169, 3) := by decide +kernel
theorem dX8_member_82 : decode cX8_member 82 = .ok (.iload_n 3, 1) := by decide +kernel
theorem dX8_member_83 : decode cX8_member 83 = .ok (.iastore, 1) := by decide +kernel
theorem dX8_member_84 : decode cX8_member 84 = .ok (.aload_n 0, 1) := by decide +kernel
theorem dX8_member_85 : decode cX8_member 85 = .ok (.getfield 81, 3) := by decide +kernel
theorem dX8_member_88 : decode cX8_member 88 = .ok (.aload_n 0, 1) := by decide +kernel
theorem dX8_member_89 : decode cX8_member 89 = .ok (.getfield 169, 3) := by decide +kernel
theorem dX8_member_92 : decode cX8_member 92 = .ok (.iload 4, 2) := by decide +kernel
theorem dX8_member_94 : decode cX8_member 94 = .ok (.iastore, 1) := by decide +kernel
theorem dX8_member_95 : decode cX8_member 95 = .ok (.aload_n 0, 1) := by decide +kernel
theorem dX8_member_96 : decode cX8_member 96 = .ok (.dup, 1) := by decide +kernel
theorem dX8_member_97 : decode cX8_member 97 = .ok (.getfield 169, 3) := by decide +kernel
theorem dX8_member_100 : decode cX8_member 100 = .ok (.iconst 1, 1) := by decide +kernel
theorem dX8_member_101 : decode cX8_member 101 = .ok (.iadd, 1) := by decide +kernel
theorem dX8_member_102 : decode cX8_member 102 = .ok (.putfield 169, 3) := by decide +kernel
theorem dX8_member_105 : decode cX8_member 105 = .ok (.aload_n 0, 1) := by decide +kernel
theorem dX8_member_106 : decode cX8_member 106 = .ok (.getfield 169, 3) := by decide +kernel
theorem dX8_member_109 : decode cX8_member 109 = .ok (.ireturn, 1) := by decide +kernel
theorem dX8_singers_0 : decode cX8_singers 0 = .ok (.iload_n 1, 1) := by decide +kernel
theorem dX8_singers_1 : decode cX8_singers 1 = .ok (.iconst 0, 1) := by decide +kernel
theorem dX8_singers_2 : decode cX8_singers 2 = .ok (.bipush 9, 2) := by decide +kernel
theorem dX8_singers_4 : decode cX8_singers 4 = .ok (.invokestatic 102, 3) := by decide +kernel
theorem dX8_singers_7 : decode cX8_singers 7 = .ok (.ifCond .eq 14, 3) := by decide +kernel
theorem dX8_singers_10 : decode cX8_singers 10 = .ok (.iload_n 2, 1) := by decide +kernel
theorem dX8_singers_11 : decode cX8_singers 11 = .ok (.iconst 0, 1) := by decide +kernel
theorem dX8_singers_12 : decode cX8_singers 12 = .ok (.sipush 1000, 3) := by decide +kernel
theorem dX8_singers_15 : decode cX8_singers 15 = .ok (.invokestatic 102, 3) := by decide +kernel
theorem dX8_singers_18 : decode cX8_singers 18 = .ok (.ifCond .ne 5, 3) := by decide +kernel
theorem dX8_singers_21 : decode cX8_singers 21 = .ok (.iconst (-1), 1) := by decide +kernel
theorem dX8_singers_22 : decode cX8_singers 22 = .ok (.ireturn, 1) := by decide +kernel
theorem dX8_singers_23 : decode cX8_singers 23 = .ok (.iconst 0, 1) := by decide +kernel
theorem dX8_singers_24 : decode cX8_singers 24 = .ok (.istore_n 3, 1) := by decide +kernel
theorem dX8_singers_25 : decode cX8_singers 25 = .ok (.iconst 0, 1) := by decide +kernel
theorem dX8_singers_26 : decode cX8_singers 26 = .ok (.istore 4, 2) := by decide +kernel
theorem dX8_singers_28 : decode cX8_singers 28 = .ok (.iload 4, 2) := by decide +kernel
theorem dX8_singers_30 : decode cX8_singers 30 = .ok (.aload_n 0, 1) := by decide +kernel
theorem dX8_singers_31 : decode cX8_singers 31 = .ok (.getfield 169, 3) := by decide +kernel
theorem dX8_singers_34 : decode cX8_singers 34 = .ok (.if_icmp .ge 54, 3) := by decide +kernel
theorem dX8_singers_37 : decode cX8_singers 37 = .ok (.aload_n 0, 1) := by decide +kernel
theorem dX8_singers_38 : decode cX8_singers 38 = .ok (.getfield 75, 3) := by decide +kernel
theorem dX8_singers_41 : decode cX8_singers 41 = .ok (.iload 4, 2) := by decide +kernel
theorem dX8_singers_43 : decode cX8_singers 43 = .ok (.iaload, 1) := by decide +kernel
theorem dX8_singers_44 : decode cX8_singers 44 = .ok (.iload_n 1, 1) := by decide +kernel
theorem dX8_singers_45 : decode cX8_singers 45 = .ok (.if_icmp .ne 37, 3) := by decide +kernel
theorem dX8_singers_48 : decode cX8_singers 48 = .ok (.aload_n 0, 1) := by decide +kernel
theorem dX8_singers_49 : decode cX8_singers 49 = .ok (.getfield 78, 3) := by decide +kernel
theorem dX8_singers_52 : decode cX8_singers 52 = .ok (.iload 4, 2) := by decide +kernel
theorem dX8_singers_54 : decode cX8_singers 54 = .ok (.iaload, 1) := by decide +kernel
theorem dX8_singers_55 : decode cX8_singers 55 = .ok (.iload_n 2, 1) := by decide +kernel
theorem dX8_singers_56 : decode cX8_singers 56 = .ok (.if_icmp .gt 26, 3) := by decide +kernel
theorem dX8_singers_59 : decode cX8_singers 59 = .ok (.aload_n 0, 1) := by decide +kernel
theorem dX8_singers_60 : decode cX8_singers 60 = .ok (.getfield 81, 3) := by decide +kernel
theorem dX8_singers_63 : decode cX8_singers 63 = .ok (.iload 4, 2) := by decide +kernel
theorem dX8_singers_65 : decode cX8_singers 65 = .ok (.iaload, 1) := by decide +kernel
theorem dX8_singers_66 : decode cX8_singers 66 = .ok (.iload_n 2, 1) := by decide +kernel
theorem dX8_singers_67 : decode cX8_singers 67 = .ok (.if_icmp .lt 15, 3) := by decide +kernel
theorem dX8_singers_70 : decode cX8_singers 70 = .ok (.iload_n 3, 1) := by decide +kernel
theorem dX8_singers_71 : decode cX8_singers 71 = .ok (.iconst 1, 1) := by decide +kernel
theorem dX8_singers_72 : decode cX8_singers 72 = .ok (.aload_n 0, 1) := by decide +kernel
theorem dX8_singers_73 : decode cX8_singers 73 = .ok (.getfield 72, 3) := by decide +kernel
theorem dX8_singers_76 : decode cX8_singers 76 = .ok (.iload 4, 2) := by decide +kernel
theorem dX8_singers_78 : decode cX8_singers 78 = .ok (.iaload, 1) := by decide +kernel
theorem dX8_singers_79 : decode cX8_singers 79 = .ok (.ishl, 1) := by decide +kernel
theorem dX8_singers_80 : decode cX8_singers 80 = .ok (.ior, 1) := by decide +kernel
theorem dX8_singers_81 : decode cX8_singers 81 = .ok (.istore_n 3, 1) := by decide +kernel
theorem dX8_singers_82 : decode cX8_singers 82 = .ok (.iinc 4 1, 3) := by decide +kernel
theorem dX8_singers_85 : decode cX8_singers 85 = .ok (.goto (-57), 3) := by decide +kernel
theorem dX8_singers_88 : decode cX8_singers 88 = .ok (.iload_n 3, 1) := by decide +kernel
theorem dX8_singers_89 : decode cX8_singers 89 = .ok (.ireturn, 1) := by decide +kernel
theorem dX8_may_0 : decode cX8_may 0 = .ok (.iload_n 1, 1) := by decide +kernel
theorem dX8_may_1 : decode cX8_may 1 = .ok (.iconst 0, 1) := by decide +kernel
theorem dX8_may_2 : decode cX8_may 2 = .ok (.bipush 29, 2) := by decide +kernel
theorem dX8_may_4 : decode cX8_may 4 = .ok (.invokestatic 102, 3) := by decide +kernel
theorem dX8_may_7 : decode cX8_may 7 = .ok (.ifCond .eq 24, 3) := by decide +kernel
theorem dX8_may_10 : decode cX8_may 10 = .ok (.iload_n 2, 1) := by decide +kernel
theorem dX8_may_11 : decode cX8_may 11 = .ok (.iconst 0, 1) := by decide +kernel
theorem dX8_may_12 : decode cX8_may 12 = .ok (.bipush 9, 2) := by decide +kernel
theorem dX8_may_14 : decode cX8_may 14 = .ok (.invokestatic 102, 3) := by decide +kernel
theorem dX8_may_17 : decode cX8_may 17 = .ok (.ifCond .eq 14, 3) := by decide +kernel
theorem dX8_may_20 : decode cX8_may 20 = .ok (.iload_n 3, 1) := by decide +kernel
theorem dX8_may_21 : decode cX8_may 21 = .ok (.iconst 0, 1) := by decide +kernel
theorem dX8_may_22 : decode cX8_may 22 = .ok (.sipush 1000, 3) := by decide +kernel
theorem dX8_may_25 : decode cX8_may 25 = .ok (.invokestatic 102, 3) := by decide +kernel
theorem dX8_may_28 : decode cX8_may 28 = .ok (.ifCond .ne 5, 3) := by decide +kernel
theorem dX8_may_31 : decode cX8_may 31 = .ok (.iconst (-1), 1) := by decide +kernel
theorem dX8_may_32 : decode cX8_may 32 = .ok (.ireturn, 1) := by decide +kernel
theorem dX8_may_33 : decode cX8_may 33 = .ok (.aload_n 0, 1) := by decide +kernel
theorem dX8_may_34 : decode cX8_may 34 = .ok (.iload_n 2, 1) := by decide +kernel
theorem dX8_may_35 : decode cX8_may 35 = .ok (.iload_n 3, 1) := by decide +kernel
theorem dX8_may_36 : decode cX8_may 36 = .ok (.invokevirtual 172, 3) := by decide +kernel
theorem dX8_may_39 : decode cX8_may 39 = .ok (.iload_n 1, 1) := by decide +kernel
theorem dX8_may_40 : decode cX8_may 40 = .ok (.ishr, 1) := by decide +kernel
theorem dX8_may_41 : decode cX8_may 41 = .ok (.iconst 1, 1) := by decide +kernel
theorem dX8_may_42 : decode cX8_may 42 = .ok (.iand, 1) := by decide +kernel
theorem dX8_may_43 : decode cX8_may 43 = .ok (.ireturn, 1) := by decide +kernel
theorem dX8_perform_0 : decode cX8_perform 0 = .ok (.iload_n 1, 1) := by decide +kernel
theorem dX8_perform_1 : decode cX8_perform 1 = .ok (.iconst 0, 1) := by decide +kernel
theorem dX8_perform_2 : decode cX8_perform 2 = .ok (.bipush 9, 2) := by decide +kernel
theorem dX8_perform_4 : decode cX8_perform 4 = .ok (.invokestatic 102, 3) := by decide +kernel
theorem dX8_perform_7 : decode cX8_perform 7 = .ok (.ifCond .eq 12, 3) := by decide +kernel
theorem dX8_perform_10 : decode cX8_perform 10 = .ok (.aload_n 0, 1) := by decide +kernel
theorem dX8_perform_11 : decode cX8_perform 11 = .ok (.getfield 175, 3) := by decide +kernel
theorem dX8_perform_14 : decode cX8_perform 14 = .ok (.bipush 12, 2) := by decide +kernel
theorem dX8_perform_16 : decode cX8_perform 16 = .ok (.if_icmp .ne 5, 3) := by decide +kernel
theorem dX8_perform_19 : decode cX8_perform 19 = .ok (.iconst (-1), 1) := by decide +kernel
theorem dX8_perform_20 : decode cX8_perform 20 = .ok (.ireturn, 1) := by decide +kernel
theorem dX8_perform_21 : decode cX8_perform 21 = .ok (.aload_n 0, 1) := by decide +kernel
theorem dX8_perform_22 : decode cX8_perform 22 = .ok (.getfield 84, 3) := by decide +kernel
theorem dX8_perform_25 : decode cX8_perform 25 = .ok (.aload_n 0, 1) := by decide +kernel
theorem dX8_perform_26 : decode cX8_perform 26 = .ok (.getfield 175, 3) := by decide +kernel
theorem dX8_perform_29 : decode cX8_perform 29 = .ok (.iload_n 1, 1) := by decide +kernel
theorem dX8_perform_30 : decode cX8_perform 30 = .ok (.iastore, 1) := by decide +kernel
theorem dX8_perform_31 : decode cX8_perform 31 = .ok (.aload_n 0, 1) := by decide +kernel
theorem dX8_perform_32 : decode cX8_perform 32 = .ok (.dup, 1) := by decide +kernel
theorem dX8_perform_33 : decode cX8_perform 33 = .ok (.getfield 175, 3) := by decide +kernel
theorem dX8_perform_36 : decode cX8_perform 36 = .ok (.iconst 1, 1) := by decide +kernel
theorem dX8_perform_37 : decode cX8_perform 37 = .ok (.iadd, 1) := by decide +kernel
theorem dX8_perform_38 : decode cX8_perform 38 = .ok (.putfield 175, 3) := by decide +kernel
theorem dX8_perform_41 : decode cX8_perform 41 = .ok (.aload_n 0, 1) := by decide +kernel
theorem dX8_perform_42 : decode cX8_perform 42 = .ok (.getfield 175, 3) := by decide +kernel
theorem dX8_perform_45 : decode cX8_perform 45 = .ok (.iconst 1, 1) := by decide +kernel
theorem dX8_perform_46 : decode cX8_perform 46 = .ok (.isub, 1) := by decide +kernel
theorem dX8_perform_47 : decode cX8_perform 47 = .ok (.ireturn, 1) := by decide +kernel
theorem dX8_clear_0 : decode cX8_clear 0 = .ok (.aload_n 0, 1) := by decide +kernel
theorem dX8_clear_1 : decode cX8_clear 1 = .ok (.getfield 175, 3) := by decide +kernel
theorem dX8_clear_4 : decode cX8_clear 4 = .ok (.istore_n 1, 1) := by decide +kernel
theorem dX8_clear_5 : decode cX8_clear 5 = .ok (.aload_n 0, 1) := by decide +kernel
theorem dX8_clear_6 : decode cX8_clear 6 = .ok (.iconst 0, 1) := by decide +kernel
theorem dX8_clear_7 : decode cX8_clear 7 = .ok (.putfield 175, 3) := by decide +kernel
theorem dX8_clear_10 : decode cX8_clear 10 = .ok (.iload_n 1, 1) := by decide +kernel
theorem dX8_clear_11 : decode cX8_clear 11 = .ok (.ireturn, 1) := by decide +kernel
theorem dX8_halls_0 : decode cX8_halls 0 = .ok (.iload_n 1, 1) := by decide +kernel
theorem dX8_halls_1 : decode cX8_halls 1 = .ok (.iconst 1, 1) := by decide +kernel
theorem dX8_halls_2 : decode cX8_halls 2 = .ok (.iconst 4, 1) := by decide +kernel
theorem dX8_halls_3 : decode cX8_halls 3 = .ok (.invokestatic 102, 3) := by decide +kernel
theorem dX8_halls_6 : decode cX8_halls 6 = .ok (.ifCond .ne 5, 3) := by decide +kernel
theorem dX8_halls_9 : decode cX8_halls 9 = .ok (.iconst (-1), 1) := by decide +kernel
theorem dX8_halls_10 : decode cX8_halls 10 = .ok (.ireturn, 1) := by decide +kernel
theorem dX8_halls_11 : decode cX8_halls 11 = .ok (.aload_n 0, 1) := by decide +kernel
theorem dX8_halls_12 : decode cX8_halls 12 = .ok (.getfield 87, 3) := by decide +kernel
theorem dX8_halls_15 : decode cX8_halls 15 = .ok (.istore_n 2, 1) := by decide +kernel
theorem dX8_halls_16 : decode cX8_halls 16 = .ok (.aload_n 0, 1) := by decide +kernel
theorem dX8_halls_17 : decode cX8_halls 17 = .ok (.iload_n 1, 1) := by decide +kernel
theorem dX8_halls_18 : decode cX8_halls 18 = .ok (.putfield 87, 3) := by decide +kernel
theorem dX8_halls_21 : decode cX8_halls 21 = .ok (.iload_n 2, 1) := by decide +kernel
theorem dX8_halls_22 : decode cX8_halls 22 = .ok (.ireturn, 1) := by decide +kernel
theorem dX8_mayBe_0 : decode cX8_mayBe 0 = .ok (.iconst 0, 1) := by decide +kernel
theorem dX8_mayBe_1 : decode cX8_mayBe 1 = .ok (.istore_n 3, 1) := by decide +kernel
theorem dX8_mayBe_2 : decode cX8_mayBe 2 = .ok (.iconst 0, 1) := by decide +kernel
theorem dX8_mayBe_3 : decode cX8_mayBe 3 = .ok (.istore 4, 2) := by decide +kernel
theorem dX8_mayBe_5 : decode cX8_mayBe 5 = .ok (.iload 4, 2) := by decide +kernel
theorem dX8_mayBe_7 : decode cX8_mayBe 7 = .ok (.iload_n 1, 1) := by decide +kernel
theorem dX8_mayBe_8 : decode cX8_mayBe 8 = .ok (.if_icmp .ge 43, 3) := by decide +kernel
theorem dX8_mayBe_11 : decode cX8_mayBe 11 = .ok (.aload_n 0, 1) := by decide +kernel
theorem dX8_mayBe_12 : decode cX8_mayBe 12 = .ok (.getfield 93, 3) := by decide +kernel
theorem dX8_mayBe_15 : decode cX8_mayBe 15 = .ok (.iload 4, 2) := by decide +kernel
theorem dX8_mayBe_17 : decode cX8_mayBe 17 = .ok (.iaload, 1) := by decide +kernel
theorem dX8_mayBe_18 : decode cX8_mayBe 18 = .ok (.iload_n 2, 1) := by decide +kernel
theorem dX8_mayBe_19 : decode cX8_mayBe 19 = .ok (.if_icmp .eq 6, 3) := by decide +kernel
theorem dX8_mayBe_22 : decode cX8_mayBe 22 = .ok (.goto 23, 3) := by decide +kernel
theorem dX8_mayBe_25 : decode cX8_mayBe 25 = .ok (.iinc 3 1, 3) := by decide +kernel
theorem dX8_mayBe_28 : decode cX8_mayBe 28 = .ok (.aload_n 0, 1) := by decide +kernel
theorem dX8_mayBe_29 : decode cX8_mayBe 29 = .ok (.getfield 96, 3) := by decide +kernel
theorem dX8_mayBe_32 : decode cX8_mayBe 32 = .ok (.bipush 12, 2) := by decide +kernel
theorem dX8_mayBe_34 : decode cX8_mayBe 34 = .ok (.iload_n 1, 1) := by decide +kernel
theorem dX8_mayBe_35 : decode cX8_mayBe 35 = .ok (.imul, 1) := by decide +kernel
theorem dX8_mayBe_36 : decode cX8_mayBe 36 = .ok (.iload 4, 2) := by decide +kernel
theorem dX8_mayBe_38 : decode cX8_mayBe 38 = .ok (.iadd, 1) := by decide +kernel
theorem dX8_mayBe_39 : decode cX8_mayBe 39 = .ok (.baload, 1) := by decide +kernel
theorem dX8_mayBe_40 : decode cX8_mayBe 40 = .ok (.ifCond .eq 5, 3) := by decide +kernel
theorem dX8_mayBe_43 : decode cX8_mayBe 43 = .ok (.iconst 0, 1) := by decide +kernel
theorem dX8_mayBe_44 : decode cX8_mayBe 44 = .ok (.ireturn, 1) := by decide +kernel
theorem dX8_mayBe_45 : decode cX8_mayBe 45 = .ok (.iinc 4 1, 3) := by decide +kernel
theorem dX8_mayBe_48 : decode cX8_mayBe 48 = .ok (.goto (-43), 3) := by decide +kernel
theorem dX8_mayBe_51 : decode cX8_mayBe 51 = .ok (.iload_n 3, 1) := by decide +kernel
theorem dX8_mayBe_52 : decode cX8_mayBe 52 = .ok (.aload_n 0, 1) := by decide +kernel
theorem dX8_mayBe_53 : decode cX8_mayBe 53 = .ok (.getfield 87, 3) := by decide +kernel
theorem dX8_mayBe_56 : decode cX8_mayBe 56 = .ok (.if_icmp .ge 7, 3) := by decide +kernel
theorem dX8_mayBe_59 : decode cX8_mayBe 59 = .ok (.iconst 1, 1) := by decide +kernel
theorem dX8_mayBe_60 : decode cX8_mayBe 60 = .ok (.goto 4, 3) := by decide +kernel
theorem dX8_mayBe_63 : decode cX8_mayBe 63 = .ok (.iconst 0, 1) := by decide +kernel
theorem dX8_mayBe_64 : decode cX8_mayBe 64 = .ok (.ireturn, 1) := by decide +kernel
theorem dX8_stand_0 : decode cX8_stand 0 = .ok (.iconst 0, 1) := by decide +kernel
theorem dX8_stand_1 : decode cX8_stand 1 = .ok (.istore_n 2, 1) := by decide +kernel
theorem dX8_stand_2 : decode cX8_stand 2 = .ok (.aload_n 0, 1) := by decide +kernel
theorem dX8_stand_3 : decode cX8_stand 3 = .ok (.getfield 93, 3) := by decide +kernel
theorem dX8_stand_6 : decode cX8_stand 6 = .ok (.iconst 0, 1) := by decide +kernel
theorem dX8_stand_7 : decode cX8_stand 7 = .ok (.iconst (-1), 1) := by decide +kernel
theorem dX8_stand_8 : decode cX8_stand 8 = .ok (.iastore, 1) := by decide +kernel
theorem dX8_stand_9 : decode cX8_stand 9 = .ok (.iload_n 2, 1) := by decide +kernel
theorem dX8_stand_10 : decode cX8_stand 10 = .ok (.ifCond .lt 131, 3) := by decide +kernel
theorem dX8_stand_13 : decode cX8_stand 13 = .ok (.iload_n 2, 1) := by decide +kernel
theorem dX8_stand_14 : decode cX8_stand 14 = .ok (.aload_n 0, 1) := by decide +kernel
theorem dX8_stand_15 : decode cX8_stand 15 = .ok (.getfield 175, 3) := by decide +kernel
theorem dX8_stand_18 : decode cX8_stand 18 = .ok (.if_icmp .ge 123, 3) := by decide +kernel
theorem dX8_stand_21 : decode cX8_stand 21 = .ok (.iconst 0, 1) := by decide +kernel
theorem dX8_stand_22 : decode cX8_stand 22 = .ok (.istore_n 3, 1) := by decide +kernel
theorem dX8_stand_23 : decode cX8_stand 23 = .ok (.iconst 0, 1) := by decide +kernel
theorem dX8_stand_24 : decode cX8_stand 24 = .ok (.istore 4, 2) := by decide +kernel
theorem dX8_stand_26 : decode cX8_stand 26 = .ok (.iload 4, 2) := by decide +kernel
theorem dX8_stand_28 : decode cX8_stand 28 = .ok (.iload_n 2, 1) := by decide +kernel
theorem dX8_stand_29 : decode cX8_stand 29 = .ok (.if_icmp .ge 30, 3) := by decide +kernel
theorem dX8_stand_32 : decode cX8_stand 32 = .ok (.aload_n 0, 1) := by decide +kernel
theorem dX8_stand_33 : decode cX8_stand 33 = .ok (.getfield 93, 3) := by decide +kernel
theorem dX8_stand_36 : decode cX8_stand 36 = .ok (.iload 4, 2) := by decide +kernel
theorem dX8_stand_38 : decode cX8_stand 38 = .ok (.iaload, 1) := by decide +kernel
theorem dX8_stand_39 : decode cX8_stand 39 = .ok (.iload_n 3, 1) := by decide +kernel
theorem dX8_stand_40 : decode cX8_stand 40 = .ok (.if_icmp .lt 13, 3) := by decide +kernel
theorem dX8_stand_43 : decode cX8_stand 43 = .ok (.aload_n 0, 1) := by decide +kernel
theorem dX8_stand_44 : decode cX8_stand 44 = .ok (.getfield 93, 3) := by decide +kernel
theorem dX8_stand_47 : decode cX8_stand 47 = .ok (.iload 4, 2) := by decide +kernel
theorem dX8_stand_49 : decode cX8_stand 49 = .ok (.iaload, 1) := by decide +kernel
theorem dX8_stand_50 : decode cX8_stand 50 = .ok (.iconst 1, 1) := by decide +kernel
theorem dX8_stand_51 : decode cX8_stand 51 = .ok (.iadd, 1) := by decide +kernel
theorem dX8_stand_52 : decode cX8_stand 52 = .ok (.istore_n 3, 1) := by decide +kernel
theorem dX8_stand_53 : decode cX8_stand 53 = .ok (.iinc 4 1, 3) := by decide +kernel
theorem dX8_stand_56 : decode cX8_stand 56 = .ok (.goto (-30), 3) := by decide +kernel
theorem dX8_stand_59 : decode cX8_stand 59 = .ok (.iload_n 3, 1) := by decide +kernel
theorem dX8_stand_60 : decode cX8_stand 60 = .ok (.iload_n 1, 1) := by decide +kernel
theorem dX8_stand_61 : decode cX8_stand 61 = .ok (.iconst 1, 1) := by decide +kernel
theorem dX8_stand_62 : decode cX8_stand 62 = .ok (.isub, 1) := by decide +kernel
theorem dX8_stand_63 : decode cX8_stand 63 = .ok (.if_icmp .le 7, 3) := by decide +kernel
theorem dX8_stand_66 : decode cX8_stand 66 = .ok (.iload_n 1, 1) := by decide +kernel
theorem dX8_stand_67 : decode cX8_stand 67 = .ok (.iconst 1, 1) := by decide +kernel
theorem dX8_stand_68 : decode cX8_stand 68 = .ok (.isub, 1) := by decide +kernel
theorem dX8_stand_69 : decode cX8_stand 69 = .ok (.istore_n 3, 1) := by decide +kernel
theorem dX8_stand_70 : decode cX8_stand 70 = .ok (.aload_n 0, 1) := by decide +kernel
theorem dX8_stand_71 : decode cX8_stand 71 = .ok (.getfield 93, 3) := by decide +kernel
theorem dX8_stand_74 : decode cX8_stand 74 = .ok (.iload_n 2, 1) := by decide +kernel
theorem dX8_stand_75 : decode cX8_stand 75 = .ok (.dup2, 1) := by decide +kernel
theorem dX8_stand_76 : decode cX8_stand 76 = .ok (.iaload, 1) := by decide +kernel
theorem dX8_stand_77 : decode cX8_stand 77 = .ok (.iconst 1, 1) := by decide +kernel
theorem dX8_stand_78 : decode cX8_stand 78 = .ok (.iadd, 1) := by decide +kernel
theorem dX8_stand_79 : decode cX8_stand 79 = .ok (.iastore, 1) := by decide +kernel
theorem dX8_stand_80 : decode cX8_stand 80 = .ok (.aload_n 0, 1) := by decide +kernel
theorem dX8_stand_81 : decode cX8_stand 81 = .ok (.getfield 93, 3) := by decide +kernel
theorem dX8_stand_84 : decode cX8_stand 84 = .ok (.iload_n 2, 1) := by decide +kernel
theorem dX8_stand_85 : decode cX8_stand 85 = .ok (.iaload, 1) := by decide +kernel
theorem dX8_stand_86 : decode cX8_stand 86 = .ok (.iload_n 3, 1) := by decide +kernel
theorem dX8_stand_87 : decode cX8_stand 87 = .ok (.if_icmp .gt 17, 3) := by decide +kernel
theorem dX8_stand_90 : decode cX8_stand 90 = .ok (.aload_n 0, 1) := by decide +kernel
theorem dX8_stand_91 : decode cX8_stand 91 = .ok (.iload_n 2, 1) := by decide +kernel
theorem dX8_stand_92 : decode cX8_stand 92 = .ok (.aload_n 0, 1) := by decide +kernel
theorem dX8_stand_93 : decode cX8_stand 93 = .ok (.getfield 93, 3) := by decide +kernel
theorem dX8_stand_96 : decode cX8_stand 96 = .ok (.iload_n 2, 1) := by decide +kernel
theorem dX8_stand_97 : decode cX8_stand 97 = .ok (.iaload, 1) := by decide +kernel
theorem dX8_stand_98 : decode cX8_stand 98 = .ok (.invokevirtual 178, 3) := by decide +kernel
theorem dX8_stand_101 : decode cX8_stand 101 = .ok (.ifCond .eq (-31), 3) := by decide +kernel
theorem dX8_stand_104 : decode cX8_stand 104 = .ok (.aload_n 0, 1) := by decide +kernel
theorem dX8_stand_105 : decode cX8_stand 105 = .ok (.getfield 93, 3) := by decide +kernel
theorem dX8_stand_108 : decode cX8_stand 108 = .ok (.iload_n 2, 1) := by decide +kernel
theorem dX8_stand_109 : decode cX8_stand 109 = .ok (.iaload, 1) := by decide +kernel
theorem dX8_stand_110 : decode cX8_stand 110 = .ok (.iload_n 3, 1) := by decide +kernel
theorem dX8_stand_111 : decode cX8_stand 111 = .ok (.if_icmp .le 9, 3) := by decide +kernel
theorem dX8_stand_114 : decode cX8_stand 114 = .ok (.iinc 2 (-1), 3) := by decide +kernel
theorem dX8_stand_117 : decode cX8_stand 117 = .ok (.goto (-108), 3) := by decide +kernel
theorem dX8_stand_120 : decode cX8_stand 120 = .ok (.iinc 2 1, 3) := by decide +kernel
theorem dX8_stand_123 : decode cX8_stand 123 = .ok (.iload_n 2, 1) := by decide +kernel
theorem dX8_stand_124 : decode cX8_stand 124 = .ok (.aload_n 0, 1) := by decide +kernel
theorem dX8_stand_125 : decode cX8_stand 125 = .ok (.getfield 175, 3) := by decide +kernel
theorem dX8_stand_128 : decode cX8_stand 128 = .ok (.if_icmp .ge 10, 3) := by decide +kernel
theorem dX8_stand_131 : decode cX8_stand 131 = .ok (.aload_n 0, 1) := by decide +kernel
theorem dX8_stand_132 : decode cX8_stand 132 = .ok (.getfield 93, 3) := by decide +kernel
theorem dX8_stand_135 : decode cX8_stand 135 = .ok (.iload_n 2, 1) := by decide +kernel
theorem dX8_stand_136 : decode cX8_stand 136 = .ok (.iconst (-1), 1) := by decide +kernel
theorem dX8_stand_137 : decode cX8_stand 137 = .ok (.iastore, 1) := by decide +kernel
theorem dX8_stand_138 : decode cX8_stand 138 = .ok (.goto (-129), 3) := by decide +kernel
theorem dX8_stand_141 : decode cX8_stand 141 = .ok (.iload_n 2, 1) := by decide +kernel
theorem dX8_stand_142 : decode cX8_stand 142 = .ok (.aload_n 0, 1) := by decide +kernel
theorem dX8_stand_143 : decode cX8_stand 143 = .ok (.getfield 175, 3) := by decide +kernel
theorem dX8_stand_146 : decode cX8_stand 146 = .ok (.if_icmp .ne 7, 3) := by decide +kernel
theorem dX8_stand_149 : decode cX8_stand 149 = .ok (.iconst 1, 1) := by decide +kernel
theorem dX8_stand_150 : decode cX8_stand 150 = .ok (.goto 4, 3) := by decide +kernel
theorem dX8_stand_153 : decode cX8_stand 153 = .ok (.iconst 0, 1) := by decide +kernel
theorem dX8_stand_154 : decode cX8_stand 154 = .ok (.ireturn, 1) := by decide +kernel
theorem dX8_hours_0 : decode cX8_hours 0 = .ok (.iload_n 1, 1) := by decide +kernel
theorem dX8_hours_1 : decode cX8_hours 1 = .ok (.iconst 0, 1) := by decide +kernel
theorem dX8_hours_2 : decode cX8_hours 2 = .ok (.sipush 1000, 3) := by decide +kernel
theorem dX8_hours_5 : decode cX8_hours 5 = .ok (.invokestatic 102, 3) := by decide +kernel
theorem dX8_hours_8 : decode cX8_hours 8 = .ok (.ifCond .ne 5, 3) := by decide +kernel
theorem dX8_hours_11 : decode cX8_hours 11 = .ok (.iconst (-1), 1) := by decide +kernel
theorem dX8_hours_12 : decode cX8_hours 12 = .ok (.ireturn, 1) := by decide +kernel
theorem dX8_hours_13 : decode cX8_hours 13 = .ok (.iconst 0, 1) := by decide +kernel
theorem dX8_hours_14 : decode cX8_hours 14 = .ok (.istore_n 2, 1) := by decide +kernel
theorem dX8_hours_15 : decode cX8_hours 15 = .ok (.iload_n 2, 1) := by decide +kernel
theorem dX8_hours_16 : decode cX8_hours 16 = .ok (.aload_n 0, 1) := by decide +kernel
theorem dX8_hours_17 : decode cX8_hours 17 = .ok (.getfield 175, 3) := by decide +kernel
theorem dX8_hours_20 : decode cX8_hours 20 = .ok (.if_icmp .ge 82, 3) := by decide +kernel
theorem dX8_hours_23 : decode cX8_hours 23 = .ok (.iconst 0, 1) := by decide +kernel
theorem dX8_hours_24 : decode cX8_hours 24 = .ok (.istore_n 3, 1) := by decide +kernel
theorem dX8_hours_25 : decode cX8_hours 25 = .ok (.iload_n 3, 1) := by decide +kernel
theorem dX8_hours_26 : decode cX8_hours 26 = .ok (.aload_n 0, 1) := by decide +kernel
theorem dX8_hours_27 : decode cX8_hours 27 = .ok (.getfield 175, 3) := by decide +kernel
theorem dX8_hours_30 : decode cX8_hours 30 = .ok (.if_icmp .ge 66, 3) := by decide +kernel
theorem dX8_hours_33 : decode cX8_hours 33 = .ok (.aload_n 0, 1) := by decide +kernel
theorem dX8_hours_34 : decode cX8_hours 34 = .ok (.getfield 96, 3) := by decide +kernel
theorem dX8_hours_37 : decode cX8_hours 37 = .ok (.bipush 12, 2) := by decide +kernel
theorem dX8_hours_39 : decode cX8_hours 39 = .ok (.iload_n 2, 1) := by decide +kernel
theorem dX8_hours_40 : decode cX8_hours 40 = .ok (.imul, 1) := by decide +kernel
theorem dX8_hours_41 : decode cX8_hours 41 = .ok (.iload_n 3, 1) := by decide +kernel
theorem dX8_hours_42 : decode cX8_hours 42 = .ok (.iadd, 1) := by decide +kernel
theorem dX8_hours_43 : decode cX8_hours 43 = .ok (.aload_n 0, 1) := by decide +kernel
theorem dX8_hours_44 : decode cX8_hours 44 = .ok (.getfield 84, 3) := by decide +kernel
theorem dX8_hours_47 : decode cX8_hours 47 = .ok (.iload_n 2, 1) := by decide +kernel
theorem dX8_hours_48 : decode cX8_hours 48 = .ok (.iaload, 1) := by decide +kernel
theorem dX8_hours_49 : decode cX8_hours 49 = .ok (.aload_n 0, 1) := by decide +kernel
theorem dX8_hours_50 : decode cX8_hours 50 = .ok (.getfield 84, 3) := by decide +kernel
theorem dX8_hours_53 : decode cX8_hours 53 = .ok (.iload_n 3, 1) := by decide +kernel
theorem dX8_hours_54 : decode cX8_hours 54 = .ok (.iaload, 1) := by decide +kernel
theorem dX8_hours_55 : decode cX8_hours 55 = .ok (.if_icmp .eq 29, 3) := by decide +kernel
theorem dX8_hours_58 : decode cX8_hours 58 = .ok (.aload_n 0, 1) := by decide +kernel
theorem dX8_hours_59 : decode cX8_hours 59 = .ok (.aload_n 0, 1) := by decide +kernel
theorem dX8_hours_60 : decode cX8_hours 60 = .ok (.getfield 84, 3) := by decide +kernel
theorem dX8_hours_63 : decode cX8_hours 63 = .ok (.iload_n 2, 1) := by decide +kernel
theorem dX8_hours_64 : decode cX8_hours 64 = .ok (.iaload, 1) := by decide +kernel
theorem dX8_hours_65 : decode cX8_hours 65 = .ok (.iload_n 1, 1) := by decide +kernel
theorem dX8_hours_66 : decode cX8_hours 66 = .ok (.invokevirtual 172, 3) := by decide +kernel
theorem dX8_hours_69 : decode cX8_hours 69 = .ok (.aload_n 0, 1) := by decide +kernel
theorem dX8_hours_70 : decode cX8_hours 70 = .ok (.aload_n 0, 1) := by decide +kernel
theorem dX8_hours_71 : decode cX8_hours 71 = .ok (.getfield 84, 3) := by decide +kernel
theorem dX8_hours_74 : decode cX8_hours 74 = .ok (.iload_n 3, 1) := by decide +kernel
theorem dX8_hours_75 : decode cX8_hours 75 = .ok (.iaload, 1) := by decide +kernel
theorem dX8_hours_76 : decode cX8_hours 76 = .ok (.iload_n 1, 1) := by decide +kernel
theorem dX8_hours_77 : decode cX8_hours 77 = .ok (.invokevirtual 172, 3) := by decide +kernel
theorem dX8_hours_80 : decode cX8_hours 80 = .ok (.iand, 1) := by decide +kernel
theorem dX8_hours_81 : decode cX8_hours 81 = .ok (.ifCond .eq 7, 3) := by decide +kernel
theorem dX8_hours_84 : decode cX8_hours 84 = .ok (.iconst 1, 1) := by decide +kernel
theorem dX8_hours_85 : decode cX8_hours 85 = .ok (.goto 4, 3) := by decide +kernel
theorem dX8_hours_88 : decode cX8_hours 88 = .ok (.iconst 0, 1) := by decide +kernel
theorem dX8_hours_89 : decode cX8_hours 89 = .ok (.bastore, 1) := by decide +kernel
theorem dX8_hours_90 : decode cX8_hours 90 = .ok (.iinc 3 1, 3) := by decide +kernel
theorem dX8_hours_93 : decode cX8_hours 93 = .ok (.goto (-68), 3) := by decide +kernel
theorem dX8_hours_96 : decode cX8_hours 96 = .ok (.iinc 2 1, 3) := by decide +kernel
theorem dX8_hours_99 : decode cX8_hours 99 = .ok (.goto (-84), 3) := by decide +kernel
theorem dX8_hours_102 : decode cX8_hours 102 = .ok (.aload_n 0, 1) := by decide +kernel
theorem dX8_hours_103 : decode cX8_hours 103 = .ok (.aload_n 0, 1) := by decide +kernel
theorem dX8_hours_104 : decode cX8_hours 104 = .ok (.getfield 175, 3) := by decide +kernel
theorem dX8_hours_107 : decode cX8_hours 107 = .ok (.putfield 181, 3) := by decide +kernel
theorem dX8_hours_110 : decode cX8_hours 110 = .ok (.aload_n 0, 1) := by decide +kernel
theorem dX8_hours_111 : decode cX8_hours 111 = .ok (.getfield 175, 3) := by decide +kernel
theorem dX8_hours_114 : decode cX8_hours 114 = .ok (.ifCond .ne 5, 3) := by decide +kernel
theorem dX8_hours_117 : decode cX8_hours 117 = .ok (.iconst 0, 1) := by decide +kernel
theorem dX8_hours_118 : decode cX8_hours 118 = .ok (.ireturn, 1) := by decide +kernel
theorem dX8_hours_119 : decode cX8_hours 119 = .ok (.aload_n 0, 1) := by decide +kernel
theorem dX8_hours_120 : decode cX8_hours 120 = .ok (.getfield 175, 3) := by decide +kernel
theorem dX8_hours_123 : decode cX8_hours 123 = .ok (.aload_n 0, 1) := by decide +kernel
theorem dX8_hours_124 : decode cX8_hours 124 = .ok (.getfield 87, 3) := by decide +kernel
theorem dX8_hours_127 : decode cX8_hours 127 = .ok (.iadd, 1) := by decide +kernel
theorem dX8_hours_128 : decode cX8_hours 128 = .ok (.iconst 1, 1) := by decide +kernel
theorem dX8_hours_129 : decode cX8_hours 129 = .ok (.isub, 1) := by decide +kernel
theorem dX8_hours_130 : decode cX8_hours 130 = .ok (.aload_n 0, 1) := by decide +kernel
theorem dX8_hours_131 : decode cX8_hours 131 = .ok (.getfield 87, 3) := by decide +kernel
theorem dX8_hours_134 : decode cX8_hours 134 = .ok (.idiv, 1) := by decide +kernel
theorem dX8_hours_135 : decode cX8_hours 135 = .ok (.istore_n 2, 1) := by decide +kernel
theorem dX8_hours_136 : decode cX8_hours 136 = .ok (.aload_n 0, 1) := by decide +kernel
theorem dX8_hours_137 : decode cX8_hours 137 = .ok (.iload_n 2, 1) := by decide +kernel
theorem dX8_hours_138 : decode cX8_hours 138 = .ok (.invokevirtual 184, 3) := by decide +kernel
theorem dX8_hours_141 : decode cX8_hours 141 = .ok (.ifCond .ne 9, 3) := by decide +kernel
theorem dX8_hours_144 : decode cX8_hours 144 = .ok (.iinc 2 1, 3) := by decide +kernel
theorem dX8_hours_147 : decode cX8_hours 147 = .ok (.goto (-11), 3) := by decide +kernel
theorem dX8_hours_150 : decode cX8_hours 150 = .ok (.iconst 0, 1) := by decide +kernel
theorem dX8_hours_151 : decode cX8_hours 151 = .ok (.istore_n 3, 1) := by decide +kernel
theorem dX8_hours_152 : decode cX8_hours 152 = .ok (.iload_n 3, 1) := by decide +kernel
theorem dX8_hours_153 : decode cX8_hours 153 = .ok (.aload_n 0, 1) := by decide +kernel
theorem dX8_hours_154 : decode cX8_hours 154 = .ok (.getfield 175, 3) := by decide +kernel
theorem dX8_hours_157 : decode cX8_hours 157 = .ok (.if_icmp .ge 21, 3) := by decide +kernel
theorem dX8_hours_160 : decode cX8_hours 160 = .ok (.aload_n 0, 1) := by decide +kernel
theorem dX8_hours_161 : decode cX8_hours 161 = .ok (.getfield 90, 3) := by decide +kernel
theorem dX8_hours_164 : decode cX8_hours 164 = .ok (.iload_n 3, 1) := by decide +kernel
theorem dX8_hours_165 : decode cX8_hours 165 = .ok (.aload_n 0, 1) := by decide +kernel
theorem dX8_hours_166 : decode cX8_hours 166 = .ok (.getfield 93, 3) := by decide +kernel
theorem dX8_hours_169 : decode cX8_hours 169 = .ok (.iload_n 3, 1) := by decide +kernel
theorem dX8_hours_170 : decode cX8_hours 170 = .ok (.iaload, 1) := by decide +kernel
theorem dX8_hours_171 : decode cX8_hours 171 = .ok (.iastore, 1) := by decide +kernel
theorem dX8_hours_172 : decode cX8_hours 172 = .ok (.iinc 3 1, 3) := by decide +kernel
theorem dX8_hours_175 : decode cX8_hours 175 = .ok (.goto (-23), 3) := by decide +kernel
theorem dX8_hours_178 : decode cX8_hours 178 = .ok (.iload_n 2, 1) := by decide +kernel
theorem dX8_hours_179 : decode cX8_hours 179 = .ok (.ireturn, 1) := by decide +kernel
theorem dX8_hour_0 : decode cX8_hour 0 = .ok (.iload_n 1, 1) := by decide +kernel
theorem dX8_hour_1 : decode cX8_hour 1 = .ok (.ifCond .lt 20, 3) := by decide +kernel
theorem dX8_hour_4 : decode cX8_hour 4 = .ok (.iload_n 1, 1) := by decide +kernel
theorem dX8_hour_5 : decode cX8_hour 5 = .ok (.aload_n 0, 1) := by decide +kernel
theorem dX8_hour_6 : decode cX8_hour 6 = .ok (.getfield 181, 3) := by decide +kernel
theorem dX8_hour_9 : decode cX8_hour 9 = .ok (.if_icmp .ge 12, 3) := by decide +kernel
theorem dX8_hour_12 : decode cX8_hour 12 = .ok (.aload_n 0, 1) := by decide +kernel
theorem dX8_hour_13 : decode cX8_hour 13 = .ok (.getfield 90, 3) := by decide +kernel
theorem dX8_hour_16 : decode cX8_hour 16 = .ok (.iload_n 1, 1) := by decide +kernel
theorem dX8_hour_17 : decode cX8_hour 17 = .ok (.iaload, 1) := by decide +kernel
theorem dX8_hour_18 : decode cX8_hour 18 = .ok (.goto 4, 3) := by decide +kernel
theorem dX8_hour_21 : decode cX8_hour 21 = .ok (.iconst (-1), 1) := by decide +kernel
theorem dX8_hour_22 : decode cX8_hour 22 = .ok (.ireturn, 1) := by decide +kernel
theorem dX8_draw_0 : decode cX8_draw 0 = .ok (.iload_n 1, 1) := by decide +kernel
theorem dX8_draw_1 : decode cX8_draw 1 = .ok (.iconst 1, 1) := by decide +kernel
theorem dX8_draw_2 : decode cX8_draw 2 = .ok (.bipush 12, 2) := by decide +kernel
theorem dX8_draw_4 : decode cX8_draw 4 = .ok (.invokestatic 102, 3) := by decide +kernel
theorem dX8_draw_7 : decode cX8_draw 7 = .ok (.ifCond .eq 14, 3) := by decide +kernel
theorem dX8_draw_10 : decode cX8_draw 10 = .ok (.iload_n 3, 1) := by decide +kernel
theorem dX8_draw_11 : decode cX8_draw 11 = .ok (.iconst 0, 1) := by decide +kernel
theorem dX8_draw_12 : decode cX8_draw 12 = .ok (.iload_n 1, 1) := by decide +kernel
theorem dX8_draw_13 : decode cX8_draw 13 = .ok (.iconst 1, 1) := by decide +kernel
theorem dX8_draw_14 : decode cX8_draw 14 = .ok (.isub, 1) := by decide +kernel
theorem dX8_draw_15 : decode cX8_draw 15 = .ok (.invokestatic 102, 3) := by decide +kernel
theorem dX8_draw_18 : decode cX8_draw 18 = .ok (.ifCond .ne 5, 3) := by decide +kernel
theorem dX8_draw_21 : decode cX8_draw 21 = .ok (.iconst (-1), 1) := by decide +kernel
theorem dX8_draw_22 : decode cX8_draw 22 = .ok (.ireturn, 1) := by decide +kernel
theorem dX8_draw_23 : decode cX8_draw 23 = .ok (.iconst 0, 1) := by decide +kernel
theorem dX8_draw_24 : decode cX8_draw 24 = .ok (.istore 4, 2) := by decide +kernel
theorem dX8_draw_26 : decode cX8_draw 26 = .ok (.iload 4, 2) := by decide +kernel
theorem dX8_draw_28 : decode cX8_draw 28 = .ok (.iload_n 1, 1) := by decide +kernel
theorem dX8_draw_29 : decode cX8_draw 29 = .ok (.if_icmp .ge 18, 3) := by decide +kernel
theorem dX8_draw_32 : decode cX8_draw 32 = .ok (.aload_n 0, 1) := by decide +kernel
theorem dX8_draw_33 : decode cX8_draw 33 = .ok (.getfield 99, 3) := by decide +kernel
theorem dX8_draw_36 : decode cX8_draw 36 = .ok (.iload 4, 2) := by decide +kernel
theorem dX8_draw_38 : decode cX8_draw 38 = .ok (.iload 4, 2) := by decide +kernel
theorem dX8_draw_40 : decode cX8_draw 40 = .ok (.iastore, 1) := by decide +kernel
theorem dX8_draw_41 : decode cX8_draw 41 = .ok (.iinc 4 1, 3) := by decide +kernel
theorem dX8_draw_44 : decode cX8_draw 44 = .ok (.goto (-18), 3) := by decide +kernel
theorem dX8_draw_47 : decode cX8_draw 47 = .ok (.iload_n 2, 1) := by decide +kernel
theorem dX8_draw_48 : decode cX8_draw 48 = .ok (.istore 4, 2) := by decide +kernel
theorem dX8_draw_50 : decode cX8_draw 50 = .ok (.iload_n 1, 1) := by decide +kernel
theorem dX8_draw_51 : decode cX8_draw 51 = .ok (.iconst 1, 1) := by decide +kernel
theorem dX8_draw_52 : decode cX8_draw 52 = .ok (.isub, 1) := by decide +kernel
theorem dX8_draw_53 : decode cX8_draw 53 = .ok (.istore 5, 2) := by decide +kernel
theorem dX8_draw_55 : decode cX8_draw 55 = .ok (.iload 5, 2) := by decide +kernel
theorem dX8_draw_57 : decode cX8_draw 57 = .ok (.ifCond .le 64, 3) := by decide +kernel
theorem dX8_draw_60 : decode cX8_draw 60 = .ok (.ldc 187, 2) := by decide +kernel
theorem dX8_draw_62 : decode cX8_draw 62 = .ok (.iload 4, 2) := by decide +kernel
theorem dX8_draw_64 : decode cX8_draw 64 = .ok (.imul, 1) := by decide +kernel
theorem dX8_draw_65 : decode cX8_draw 65 = .ok (.sipush 12345, 3) := by decide +kernel
theorem dX8_draw_68 : decode cX8_draw 68 = .ok (.iadd, 1) := by decide +kernel
theorem dX8_draw_69 : decode cX8_draw 69 = .ok (.istore 4, 2) := by decide +kernel
theorem dX8_draw_71 : decode cX8_draw 71 = .ok (.iload 4, 2) := by decide +kernel
theorem dX8_draw_73 : decode cX8_draw 73 = .ok (.bipush 8, 2) := by decide +kernel
theorem dX8_draw_75 : decode cX8_draw 75 = .ok (.iushr, 1) := by decide +kernel
theorem dX8_draw_76 : decode cX8_draw 76 = .ok (.iload 5, 2) := by decide +kernel
theorem dX8_draw_78 : decode cX8_draw 78 = .ok (.iconst 1, 1) := by decide +kernel
theorem dX8_draw_79 : decode cX8_draw 79 = .ok (.iadd, 1) := by decide +kernel
theorem dX8_draw_80 : decode cX8_draw 80 = .ok (.irem, 1) := by decide +kernel
theorem dX8_draw_81 : decode cX8_draw 81 = .ok (.istore 6, 2) := by decide +kernel
theorem dX8_draw_83 : decode cX8_draw 83 = .ok (.aload_n 0, 1) := by decide +kernel
theorem dX8_draw_84 : decode cX8_draw 84 = .ok (.getfield 99, 3) := by decide +kernel
theorem dX8_draw_87 : decode cX8_draw 87 = .ok (.iload 5, 2) := by decide +kernel
theorem dX8_draw_89 : decode cX8_draw 89 = .ok (.iaload, 1) := by decide +kernel
theorem dX8_draw_90 : decode cX8_draw 90 = .ok (.istore 7, 2) := by decide +kernel
theorem dX8_draw_92 : decode cX8_draw 92 = .ok (.aload_n 0, 1) := by decide +kernel
theorem dX8_draw_93 : decode cX8_draw 93 = .ok (.getfield 99, 3) := by decide +kernel
theorem dX8_draw_96 : decode cX8_draw 96 = .ok (.iload 5, 2) := by decide +kernel
theorem dX8_draw_98 : decode cX8_draw 98 = .ok (.aload_n 0, 1) := by decide +kernel
theorem dX8_draw_99 : decode cX8_draw 99 = .ok (.getfield 99, 3) := by decide +kernel
theorem dX8_draw_102 : decode cX8_draw 102 = .ok (.iload 6, 2) := by decide +kernel
theorem dX8_draw_104 : decode cX8_draw 104 = .ok (.iaload, 1) := by decide +kernel
theorem dX8_draw_105 : decode cX8_draw 105 = .ok (.iastore, 1) := by decide +kernel
theorem dX8_draw_106 : decode cX8_draw 106 = .ok (.aload_n 0, 1) := by decide +kernel
theorem dX8_draw_107 : decode cX8_draw 107 = .ok (.getfield 99, 3) := by decide +kernel
theorem dX8_draw_110 : decode cX8_draw 110 = .ok (.iload 6, 2) := by decide +kernel
theorem dX8_draw_112 : decode cX8_draw 112 = .ok (.iload 7, 2) := by decide +kernel
theorem dX8_draw_114 : decode cX8_draw 114 = .ok (.iastore, 1) := by decide +kernel
theorem dX8_draw_115 : decode cX8_draw 115 = .ok (.iinc 5 (-1), 3) := by decide +kernel
theorem dX8_draw_118 : decode cX8_draw 118 = .ok (.goto (-63), 3) := by decide +kernel
theorem dX8_draw_121 : decode cX8_draw 121 = .ok (.aload_n 0, 1) := by decide +kernel
theorem dX8_draw_122 : decode cX8_draw 122 = .ok (.getfield 99, 3) := by decide +kernel
theorem dX8_draw_125 : decode cX8_draw 125 = .ok (.iload_n 3, 1) := by decide +kernel
theorem dX8_draw_126 : decode cX8_draw 126 = .ok (.iaload, 1) := by decide +kernel
theorem dX8_draw_127 : decode cX8_draw 127 = .ok (.ireturn, 1) := by decide +kernel
