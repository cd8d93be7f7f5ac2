theorem dX7_init_0 : decode cX7_init 0 = .ok (.aload_n 0, 1) := by decide +kernel
theorem dX7_init_1 : decode cX7_init 1 = .ok (.invokespecial 1, 3) := by decide +kernel
theorem dX7_init_4 : decode cX7_init 4 = .ok (.aload_n 0, 1) := by decide +kernel
theorem dX7_init_5 : decode cX7_init 5 = .ok (.bipush 6, 2) := by decide +kernel
theorem dX7_init_7 : decode cX7_init 7 = .ok (.anewarray 9, 3) := by decide +kernel
theorem dX7_init_10 : decode cX7_init 10 = .ok (.putfield 11, 3) := by decide +kernel
theorem dX7_init_13 : decode cX7_init 13 = .ok (.iconst 0, 1) := by decide +kernel
theorem dX7_init_14 : decode cX7_init 14 = .ok (.istore_n 1, 1) := by decide +kernel
theorem dX7_init_15 : decode cX7_init 15 = .ok (.iload_n 1, 1) := by decide +kernel
theorem dX7_init_16 : decode cX7_init 16 = .ok (.bipush 6, 2) := by decide +kernel
theorem dX7_init_18 : decode cX7_init 18 = .ok (.if_icmp .ge 22, 3) := by decide +kernel
theorem dX7_init_21 : decode cX7_init 21 = .ok (.aload_n 0, 1) := by decide +kernel
theorem dX7_init_22 : decode cX7_init 22 = .ok (.getfield 11, 3) := by decide +kernel
theorem dX7_init_25 : decode cX7_init 25 = .ok (.iload_n 1, 1) := by decide +kernel
theorem dX7_init_26 : decode cX7_init 26 = .ok (.new 9, 3) := by decide +kernel
theorem dX7_init_29 : decode cX7_init 29 = .ok (.dup, 1) := by decide +kernel
theorem dX7_init_30 : decode cX7_init 30 = .ok (.invokespecial 15, 3) := by decide +kernel
theorem dX7_init_33 : decode cX7_init 33 = .ok (.aastore, 1) := by decide +kernel
theorem dX7_init_34 : decode cX7_init 34 = .ok (.iinc 1 1, 3) := by decide +kernel
theorem dX7_init_37 : decode cX7_init 37 = .ok (.goto (-22), 3) := by decide +kernel
theorem dX7_init_40 : decode cX7_init 40 = .ok (.aload_n 0, 1) := by decide +kernel
theorem dX7_init_41 : decode cX7_init 41 = .ok (.bipush 10, 2) := by decide +kernel
theorem dX7_init_43 : decode cX7_init 43 = .ok (.anewarray 16, 3) := by decide +kernel
theorem dX7_init_46 : decode cX7_init 46 = .ok (.putfield 18, 3) := by decide +kernel
theorem dX7_init_49 : decode cX7_init 49 = .ok (.iconst 0, 1) := by decide +kernel
theorem dX7_init_50 : decode cX7_init 50 = .ok (.istore_n 1, 1) := by decide +kernel
theorem dX7_init_51 : decode cX7_init 51 = .ok (.iload_n 1, 1) := by decide +kernel
theorem dX7_init_52 : decode cX7_init 52 = .ok (.bipush 10, 2) := by decide +kernel
theorem dX7_init_54 : decode cX7_init 54 = .ok (.if_icmp .ge 22, 3) := by decide +kernel
theorem dX7_init_57 : decode cX7_init 57 = .ok (.aload_n 0, 1) := by decide +kernel
theorem dX7_init_58 : decode cX7_init 58 = .ok (.getfield 18, 3) := by decide +kernel
theorem dX7_init_61 : decode cX7_init 61 = .ok (.iload_n 1, 1) := by decide +kernel
theorem dX7_init_62 : decode cX7_init 62 = .ok (.new 16, 3) := by decide +kernel
theorem dX7_init_65 : decode cX7_init 65 = .ok (.dup, 1) := by decide +kernel
theorem dX7_init_66 : decode cX7_init 66 = .ok (.invokespecial 22, 3) := by decide +kernel
theorem dX7_init_69 : decode cX7_init 69 = .ok (.aastore, 1) := by decide +kernel
theorem dX7_init_70 : decode cX7_init 70 = .ok (.iinc 1 1, 3) := by decide +kernel
theorem dX7_init_73 : decode cX7_init 73 = .ok (.goto (-22), 3) := by decide +kernel
theorem dX7_init_76 : decode cX7_init 76 = .ok (.aload_n 0, 1) := by decide +kernel
theorem dX7_init_77 : decode cX7_init 77 = .ok (.new 23, 3) := by decide +kernel
theorem dX7_init_80 : decode cX7_init 80 = .ok (.dup, 1) := by decide +kernel
theorem dX7_init_81 : decode cX7_init 81 = .ok (.invokespecial 25, 3) := by decide +kernel
theorem dX7_init_84 : decode cX7_init 84 = .ok (.putfield 26, 3) := by decide +kernel
theorem dX7_init_87 : decode cX7_init 87 = .ok (.aload_n 0, 1) := by decide +kernel
theorem dX7_init_88 : decode cX7_init 88 = .ok (.new 30, 3) := by decide +kernel
theorem dX7_init_91 : decode cX7_init 91 = .ok (.dup, 1) := by decide +kernel
theorem dX7_init_92 : decode cX7_init 92 = .ok (.invokespecial 32, 3) := by decide +kernel
theorem dX7_init_95 : decode cX7_init 95 = .ok (.putfield 33, 3) := by decide +kernel
theorem dX7_init_98 : decode cX7_init 98 = .ok (.aload_n 0, 1) := by decide +kernel
theorem dX7_init_99 : decode cX7_init 99 = .ok (.new 37, 3) := by decide +kernel
theorem dX7_init_102 : decode cX7_init 102 = .ok (.dup, 1) := by decide +kernel
theorem dX7_init_103 : decode cX7_init 103 = .ok (.invokespecial 39, 3) := by decide +kernel
theorem dX7_init_106 : decode cX7_init 106 = .ok (.putfield 40, 3) := by decide +kernel
theorem dX7_init_109 : decode cX7_init 109 = .ok (.aload_n 0, 1) := by decide +kernel
theorem dX7_init_110 : decode cX7_init 110 = .ok (.new 44, 3) := by decide +kernel
theorem dX7_init_113 : decode cX7_init 113 = .ok (.dup, 1) := by decide +kernel
theorem dX7_init_114 : decode cX7_init 114 = .ok (.invokespecial 46, 3) := by decide +kernel
theorem dX7_init_117 : decode cX7_init 117 = .ok (.putfield 47, 3) := by decide +kernel
theorem dX7_init_120 : decode cX7_init 120 = .ok (.aload_n 0, 1) := by decide +kernel
theorem dX7_init_121 : decode cX7_init 121 = .ok (.new 51, 3) := by decide +kernel
theorem dX7_init_124 : decode cX7_init 124 = .ok (.dup, 1) := by decide +kernel
theorem dX7_init_125 : decode cX7_init 125 = .ok (.invokespecial 53, 3) := by decide +kernel
theorem dX7_init_128 : decode cX7_init 128 = .ok (.putfield 54, 3) := by decide +kernel
theorem dX7_init_131 : decode cX7_init 131 = .ok (.aload_n 0, 1) := by decide +kernel
theorem dX7_init_132 : decode cX7_init 132 = .ok (.bipush 12, 2) := by decide +kernel
theorem dX7_init_134 : decode cX7_init 134 = .ok (.newarray .int, 2) := by decide +kernel
theorem dX7_init_136 : decode cX7_init 136 = .ok (.putfield 58, 3) := by decide +kernel
theorem dX7_init_139 : decode cX7_init 139 = .ok (.return_, 1) := by decide +kernel
theorem dX7_note_0 : decode cX7_note 0 = .ok (.iload_n 1, 1) := by decide +kernel
theorem dX7_note_1 : decode cX7_note 1 = .ok (.iconst 0, 1) := by decide +kernel
theorem dX7_note_2 : decode cX7_note 2 = .ok (.iconst 5, 1) := by decide +kernel
theorem dX7_note_3 : decode cX7_note 3 = .ok (.invokestatic 62, 3) := by decide +kernel
theorem dX7_note_6 : decode cX7_note 6 = .ok (.ifCond .eq 14, 3) := by decide +kernel
theorem dX7_note_9 : decode cX7_note 9 = .ok (.iload_n 2, 1) := by decide +kernel
theorem dX7_note_10 : decode cX7_note 10 = .ok (.iconst 0, 1) := by decide +kernel
theorem dX7_note_11 : decode cX7_note 11 = .ok (.sipush 4800, 3) := by decide +kernel
theorem dX7_note_14 : decode cX7_note 14 = .ok (.invokestatic 62, 3) := by decide +kernel
theorem dX7_note_17 : decode cX7_note 17 = .ok (.ifCond .ne 5, 3) := by decide +kernel
theorem dX7_note_20 : decode cX7_note 20 = .ok (.iconst (-1), 1) := by decide +kernel
theorem dX7_note_21 : decode cX7_note 21 = .ok (.ireturn, 1) := by decide +kernel
theorem dX7_note_22 : decode cX7_note 22 = .ok (.iload_n 3, 1) := by decide +kernel
theorem dX7_note_23 : decode cX7_note 23 = .ok (.iconst 1, 1) := by decide +kernel
theorem dX7_note_24 : decode cX7_note 24 = .ok (.bipush 8, 2) := by decide +kernel
theorem dX7_note_26 : decode cX7_note 26 = .ok (.invokestatic 62, 3) := by decide +kernel
theorem dX7_note_29 : decode cX7_note 29 = .ok (.ifCond .eq 17, 3) := by decide +kernel
theorem dX7_note_32 : decode cX7_note 32 = .ok (.aload_n 0, 1) := by decide +kernel
theorem dX7_note_33 : decode cX7_note 33 = .ok (.getfield 11, 3) := by decide +kernel
theorem dX7_note_36 : decode cX7_note 36 = .ok (.iload_n 1, 1) := by decide +kernel
theorem dX7_note_37 : decode cX7_note 37 = .ok (.aaload, 1) := by decide +kernel
theorem dX7_note_38 : decode cX7_note 38 = .ok (.getfield 66, 3) := by decide +kernel
theorem dX7_note_41 : decode cX7_note 41 = .ok (.bipush 24, 2) := by decide +kernel
theorem dX7_note_43 : decode cX7_note 43 = .ok (.if_icmp .lt 5, 3) := by decide +kernel
theorem dX7_note_46 : decode cX7_note 46 = .ok (.iconst (-1), 1) := by decide +kernel
theorem dX7_note_47 : decode cX7_note 47 = .ok (.ireturn, 1) := by decide +kernel
theorem dX7_note_48 : decode cX7_note 48 = .ok (.aload_n 0, 1) := by decide +kernel
theorem dX7_note_49 : decode cX7_note 49 = .ok (.getfield 33, 3) := by decide +kernel
theorem dX7_note_52 : decode cX7_note 52 = .ok (.invokevirtual 70, 3) := by decide +kernel
theorem dX7_note_55 : decode cX7_note 55 = .ok (.aload_n 0, 1) := by decide +kernel
theorem dX7_note_56 : decode cX7_note 56 = .ok (.getfield 11, 3) := by decide +kernel
theorem dX7_note_59 : decode cX7_note 59 = .ok (.iload_n 1, 1) := by decide +kernel
theorem dX7_note_60 : decode cX7_note 60 = .ok (.aaload, 1) := by decide +kernel
theorem dX7_note_61 : decode cX7_note 61 = .ok (.iload_n 2, 1) := by decide +kernel
theorem dX7_note_62 : decode cX7_note 62 = .ok (.iload_n 3, 1) := by decide +kernel
theorem dX7_note_63 : decode cX7_note 63 = .ok (.invokevirtual 73, 3) := by decide +kernel
theorem dX7_note_66 : decode cX7_note 66 = .ok (.ireturn, 1) := by decide +kernel
theorem dX7_record_0 : decode cX7_record 0 = .ok (.iload_n 1, 1) := by decide +kernel
theorem dX7_record_1 : decode cX7_record 1 = .ok (.iconst 0, 1) := by decide +kernel
theorem dX7_record_2 : decode cX7_record 2 = .ok (.bipush 9, 2) := by decide +kernel
theorem dX7_record_4 : decode cX7_record 4 = .ok (.invokestatic 62, 3) := by decide +kernel
theorem dX7_record_7 : decode cX7_record 7 = .ok (.ifCond .eq 12, 3) := by decide +kernel
theorem dX7_record_10 : decode cX7_record 10 = .ok (.iload_n 2, 1) := by decide +kernel
theorem dX7_record_11 : decode cX7_record 11 = .ok (.iconst 0, 1) := by decide +kernel
theorem dX7_record_12 : decode cX7_record 12 = .ok (.iconst 5, 1) := by decide +kernel
theorem dX7_record_13 : decode cX7_record 13 = .ok (.invokestatic 62, 3) := by decide +kernel
theorem dX7_record_16 : decode cX7_record 16 = .ok (.ifCond .ne 5, 3) := by decide +kernel
theorem dX7_record_19 : decode cX7_record 19 = .ok (.iconst (-1), 1) := by decide +kernel
theorem dX7_record_20 : decode cX7_record 20 = .ok (.ireturn, 1) := by decide +kernel
theorem dX7_record_21 : decode cX7_record 21 = .ok (.aload_n 0, 1) := by decide +kernel
theorem dX7_record_22 : decode cX7_record 22 = .ok (.getfield 33, 3) := by decide +kernel
theorem dX7_record_25 : decode cX7_record 25 = .ok (.invokevirtual 70, 3) := by decide +kernel
theorem dX7_record_28 : decode cX7_record 28 = .ok (.aload_n 0, 1) := by decide +kernel
theorem dX7_record_29 : decode cX7_record 29 = .ok (.getfield 18, 3) := by decide +kernel
theorem dX7_record_32 : decode cX7_record 32 = .ok (.iload_n 1, 1) := by decide +kernel
theorem dX7_record_33 : decode cX7_record 33 = .ok (.aaload, 1) := by decide +kernel
theorem dX7_record_34 : decode cX7_record 34 = .ok (.iload_n 2, 1) := by decide +kernel
theorem dX7_record_35 : decode cX7_record 35 = .ok (.invokevirtual 77, 3) := by decide +kernel
theorem dX7_record_38 : decode cX7_record 38 = .ok (.ireturn, 1) := by decide +kernel
theorem dX7_read_0 : decode cX7_read 0 = .ok (.iload_n 1, 1) := by decide +kernel
theorem dX7_read_1 : decode cX7_read 1 = .ok (.iconst 0, 1) := by decide +kernel
theorem dX7_read_2 : decode cX7_read 2 = .ok (.bipush 9, 2) := by decide +kernel
theorem dX7_read_4 : decode cX7_read 4 = .ok (.invokestatic 62, 3) := by decide +kernel
theorem dX7_read_7 : decode cX7_read 7 = .ok (.ifCond .eq 13, 3) := by decide +kernel
theorem dX7_read_10 : decode cX7_read 10 = .ok (.iload_n 3, 1) := by decide +kernel
theorem dX7_read_11 : decode cX7_read 11 = .ok (.iconst 1, 1) := by decide +kernel
theorem dX7_read_12 : decode cX7_read 12 = .ok (.bipush 60, 2) := by decide +kernel
theorem dX7_read_14 : decode cX7_read 14 = .ok (.invokestatic 62, 3) := by decide +kernel
theorem dX7_read_17 : decode cX7_read 17 = .ok (.ifCond .ne 5, 3) := by decide +kernel
theorem dX7_read_20 : decode cX7_read 20 = .ok (.iconst (-1), 1) := by decide +kernel
theorem dX7_read_21 : decode cX7_read 21 = .ok (.ireturn, 1) := by decide +kernel
theorem dX7_read_22 : decode cX7_read 22 = .ok (.iload_n 2, 1) := by decide +kernel
theorem dX7_read_23 : decode cX7_read 23 = .ok (.iconst (-1), 1) := by decide +kernel
theorem dX7_read_24 : decode cX7_read 24 = .ok (.if_icmp .eq 16, 3) := by decide +kernel
theorem dX7_read_27 : decode cX7_read 27 = .ok (.iload_n 2, 1) := by decide +kernel
theorem dX7_read_28 : decode cX7_read 28 = .ok (.iconst 0, 1) := by decide +kernel
theorem dX7_read_29 : decode cX7_read 29 = .ok (.sipush 4800, 3) := by decide +kernel
theorem dX7_read_32 : decode cX7_read 32 = .ok (.invokestatic 62, 3) := by decide +kernel
theorem dX7_read_35 : decode cX7_read 35 = .ok (.ifCond .ne 5, 3) := by decide +kernel
theorem dX7_read_38 : decode cX7_read 38 = .ok (.iconst (-1), 1) := by decide +kernel
theorem dX7_read_39 : decode cX7_read 39 = .ok (.ireturn, 1) := by decide +kernel
theorem dX7_read_40 : decode cX7_read 40 = .ok (.aload_n 0, 1) := by decide +kernel
theorem dX7_read_41 : decode cX7_read 41 = .ok (.getfield 18, 3) := by decide +kernel
theorem dX7_read_44 : decode cX7_read 44 = .ok (.iload_n 1, 1) := by decide +kernel
theorem dX7_read_45 : decode cX7_read 45 = .ok (.aaload, 1) := by decide +kernel
theorem dX7_read_46 : decode cX7_read 46 = .ok (.getfield 81, 3) := by decide +kernel
theorem dX7_read_49 : decode cX7_read 49 = .ok (.iload_n 3, 1) := by decide +kernel
theorem dX7_read_50 : decode cX7_read 50 = .ok (.iadd, 1) := by decide +kernel
theorem dX7_read_51 : decode cX7_read 51 = .ok (.bipush 120, 2) := by decide +kernel
theorem dX7_read_53 : decode cX7_read 53 = .ok (.if_icmp .le 5, 3) := by decide +kernel
theorem dX7_read_56 : decode cX7_read 56 = .ok (.iconst (-1), 1) := by decide +kernel
theorem dX7_read_57 : decode cX7_read 57 = .ok (.ireturn, 1) := by decide +kernel
theorem dX7_read_58 : decode cX7_read 58 = .ok (.aload_n 0, 1) := by decide +kernel
theorem dX7_read_59 : decode cX7_read 59 = .ok (.getfield 33, 3) := by decide +kernel
theorem dX7_read_62 : decode cX7_read 62 = .ok (.invokevirtual 70, 3) := by decide +kernel
theorem dX7_read_65 : decode cX7_read 65 = .ok (.aload_n 0, 1) := by decide +kernel
theorem dX7_read_66 : decode cX7_read 66 = .ok (.getfield 18, 3) := by decide +kernel
theorem dX7_read_69 : decode cX7_read 69 = .ok (.iload_n 1, 1) := by decide +kernel
theorem dX7_read_70 : decode cX7_read 70 = .ok (.aaload, 1) := by decide +kernel
theorem dX7_read_71 : decode cX7_read 71 = .ok (.iload_n 2, 1) := by decide +kernel
theorem dX7_read_72 : decode cX7_read 72 = .ok (.iload_n 3, 1) := by decide +kernel
theorem dX7_read_73 : decode cX7_read 73 = .ok (.invokevirtual 82, 3) := by decide +kernel
theorem dX7_read_76 : decode cX7_read 76 = .ok (.ireturn, 1) := by decide +kernel
theorem dX7_rules_0 : decode cX7_rules 0 = .ok (.iload_n 1, 1) := by decide +kernel
theorem dX7_rules_1 : decode cX7_rules 1 = .ok (.iconst 1, 1) := by decide +kernel
theorem dX7_rules_2 : decode cX7_rules 2 = .ok (.bipush 8, 2) := by decide +kernel
theorem dX7_rules_4 : decode cX7_rules 4 = .ok (.invokestatic 62, 3) := by decide +kernel
theorem dX7_rules_7 : decode cX7_rules 7 = .ok (.ifCond .eq 25, 3) := by decide +kernel
theorem dX7_rules_10 : decode cX7_rules 10 = .ok (.iload_n 2, 1) := by decide +kernel
theorem dX7_rules_11 : decode cX7_rules 11 = .ok (.iconst 0, 1) := by decide +kernel
theorem dX7_rules_12 : decode cX7_rules 12 = .ok (.sipush 1000, 3) := by decide +kernel
theorem dX7_rules_15 : decode cX7_rules 15 = .ok (.invokestatic 62, 3) := by decide +kernel
theorem dX7_rules_18 : decode cX7_rules 18 = .ok (.ifCond .eq 14, 3) := by decide +kernel
theorem dX7_rules_21 : decode cX7_rules 21 = .ok (.iload_n 3, 1) := by decide +kernel
theorem dX7_rules_22 : decode cX7_rules 22 = .ok (.iconst 0, 1) := by decide +kernel
theorem dX7_rules_23 : decode cX7_rules 23 = .ok (.sipush 1000, 3) := by decide +kernel
theorem dX7_rules_26 : decode cX7_rules 26 = .ok (.invokestatic 62, 3) := by decide +kernel
theorem dX7_rules_29 : decode cX7_rules 29 = .ok (.ifCond .ne 5, 3) := by decide +kernel
theorem dX7_rules_32 : decode cX7_rules 32 = .ok (.iconst 0, 1) := by decide +kernel
theorem dX7_rules_33 : decode cX7_rules 33 = .ok (.ireturn, 1) := by decide +kernel
theorem dX7_rules_34 : decode cX7_rules 34 = .ok (.iload 4, 2) := by decide +kernel
theorem dX7_rules_36 : decode cX7_rules 36 = .ok (.iconst 0, 1) := by decide +kernel
theorem dX7_rules_37 : decode cX7_rules 37 = .ok (.sipush 10000, 3) := by decide +kernel
theorem dX7_rules_40 : decode cX7_rules 40 = .ok (.invokestatic 62, 3) := by decide +kernel
theorem dX7_rules_43 : decode cX7_rules 43 = .ok (.ifCond .eq 15, 3) := by decide +kernel
theorem dX7_rules_46 : decode cX7_rules 46 = .ok (.iload 5, 2) := by decide +kernel
theorem dX7_rules_48 : decode cX7_rules 48 = .ok (.iconst 0, 1) := by decide +kernel
theorem dX7_rules_49 : decode cX7_rules 49 = .ok (.sipush 1000, 3) := by decide +kernel
theorem dX7_rules_52 : decode cX7_rules 52 = .ok (.invokestatic 62, 3) := by decide +kernel
theorem dX7_rules_55 : decode cX7_rules 55 = .ok (.ifCond .ne 5, 3) := by decide +kernel
theorem dX7_rules_58 : decode cX7_rules 58 = .ok (.iconst 0, 1) := by decide +kernel
theorem dX7_rules_59 : decode cX7_rules 59 = .ok (.ireturn, 1) := by decide +kernel
theorem dX7_rules_60 : decode cX7_rules 60 = .ok (.aload_n 0, 1) := by decide +kernel
theorem dX7_rules_61 : decode cX7_rules 61 = .ok (.getfield 33, 3) := by decide +kernel
theorem dX7_rules_64 : decode cX7_rules 64 = .ok (.invokevirtual 70, 3) := by decide +kernel
theorem dX7_rules_67 : decode cX7_rules 67 = .ok (.aload_n 0, 1) := by decide +kernel
theorem dX7_rules_68 : decode cX7_rules 68 = .ok (.getfield 26, 3) := by decide +kernel
theorem dX7_rules_71 : decode cX7_rules 71 = .ok (.iload_n 1, 1) := by decide +kernel
theorem dX7_rules_72 : decode cX7_rules 72 = .ok (.iload_n 2, 1) := by decide +kernel
theorem dX7_rules_73 : decode cX7_rules 73 = .ok (.iload_n 3, 1) := by decide +kernel
theorem dX7_rules_74 : decode cX7_rules 74 = .ok (.iload 4, 2) := by decide +kernel
theorem dX7_rules_76 : decode cX7_rules 76 = .ok (.iload 5, 2) := by decide +kernel
theorem dX7_rules_78 : decode cX7_rules 78 = .ok (.invokevirtual 85, 3) := by decide +kernel
theorem dX7_rules_81 : decode cX7_rules 81 = .ok (.iconst 1, 1) := by decide +kernel
theorem dX7_rules_82 : decode cX7_rules 82 = .ok (.ireturn, 1) := by decide +kernel
theorem dX7_lay_0 : decode cX7_lay 0 = .ok (.aload_n 0, 1) := by decide +kernel
theorem dX7_lay_1 : decode cX7_lay 1 = .ok (.iload_n 1, 1) := by decide +kernel
theorem dX7_lay_2 : decode cX7_lay 2 = .ok (.invokevirtual 89, 3) := by decide +kernel
theorem dX7_lay_5 : decode cX7_lay 5 = .ok (.ifCond .eq 13, 3) := by decide +kernel
theorem dX7_lay_8 : decode cX7_lay 8 = .ok (.aload_n 0, 1) := by decide +kernel
theorem dX7_lay_9 : decode cX7_lay 9 = .ok (.getfield 33, 3) := by decide +kernel
theorem dX7_lay_12 : decode cX7_lay 12 = .ok (.getfield 93, 3) := by decide +kernel
theorem dX7_lay_15 : decode cX7_lay 15 = .ok (.goto 4, 3) := by decide +kernel
theorem dX7_lay_18 : decode cX7_lay 18 = .ok (.iconst (-1), 1) := by decide +kernel
theorem dX7_lay_19 : decode cX7_lay 19 = .ok (.ireturn, 1) := by decide +kernel
theorem dX7_laid_0 : decode cX7_laid 0 = .ok (.aload_n 0, 1) := by decide +kernel
theorem dX7_laid_1 : decode cX7_laid 1 = .ok (.iload_n 1, 1) := by decide +kernel
theorem dX7_laid_2 : decode cX7_laid 2 = .ok (.invokevirtual 89, 3) := by decide +kernel
theorem dX7_laid_5 : decode cX7_laid 5 = .ok (.ifCond .eq 20, 3) := by decide +kernel
theorem dX7_laid_8 : decode cX7_laid 8 = .ok (.iload_n 2, 1) := by decide +kernel
theorem dX7_laid_9 : decode cX7_laid 9 = .ok (.iconst 0, 1) := by decide +kernel
theorem dX7_laid_10 : decode cX7_laid 10 = .ok (.aload_n 0, 1) := by decide +kernel
theorem dX7_laid_11 : decode cX7_laid 11 = .ok (.getfield 33, 3) := by decide +kernel
theorem dX7_laid_14 : decode cX7_laid 14 = .ok (.getfield 96, 3) := by decide +kernel
theorem dX7_laid_17 : decode cX7_laid 17 = .ok (.iconst 1, 1) := by decide +kernel
theorem dX7_laid_18 : decode cX7_laid 18 = .ok (.isub, 1) := by decide +kernel
theorem dX7_laid_19 : decode cX7_laid 19 = .ok (.invokestatic 62, 3) := by decide +kernel
theorem dX7_laid_22 : decode cX7_laid 22 = .ok (.ifCond .ne 6, 3) := by decide +kernel
theorem dX7_laid_25 : decode cX7_laid 25 = .ok (.bipush (-2), 2) := by decide +kernel
theorem dX7_laid_27 : decode cX7_laid 27 = .ok (.ireturn, 1) := by decide +kernel
theorem dX7_laid_28 : decode cX7_laid 28 = .ok (.iload_n 3, 1) := by decide +kernel
theorem dX7_laid_29 : decode cX7_laid 29 = .ok (.tableswitch 57 0 2 #[27, 37, 47], 27) := by decide +kernel
theorem dX7_laid_56 : decode cX7_laid 56 = .ok (.aload_n 0, 1) := by decide +kernel
theorem dX7_laid_57 : decode cX7_laid 57 = .ok (.getfield 33, 3) := by decide +kernel
theorem dX7_laid_60 : decode cX7_laid 60 = .ok (.getfield 97, 3) := by decide +kernel
theorem dX7_laid_63 : decode cX7_laid 63 = .ok (.iload_n 2, 1) := by decide +kernel
theorem dX7_laid_64 : decode cX7_laid 64 = .ok (.iaload, 1) := by decide +kernel
theorem dX7_laid_65 : decode cX7_laid 65 = .ok (.ireturn, 1) := by decide +kernel
theorem dX7_laid_66 : decode cX7_laid 66 = .ok (.aload_n 0, 1) := by decide +kernel
theorem dX7_laid_67 : decode cX7_laid 67 = .ok (.getfield 33, 3) := by decide +kernel
theorem dX7_laid_70 : decode cX7_laid 70 = .ok (.getfield 100, 3) := by decide +kernel
theorem dX7_laid_73 : decode cX7_laid 73 = .ok (.iload_n 2, 1) := by decide +kernel
theorem dX7_laid_74 : decode cX7_laid 74 = .ok (.iaload, 1) := by decide +kernel
theorem dX7_laid_75 : decode cX7_laid 75 = .ok (.ireturn, 1) := by decide +kernel
theorem dX7_laid_76 : decode cX7_laid 76 = .ok (.aload_n 0, 1) := by decide +kernel
theorem dX7_laid_77 : decode cX7_laid 77 = .ok (.getfield 33, 3) := by decide +kernel
theorem dX7_laid_80 : decode cX7_laid 80 = .ok (.getfield 103, 3) := by decide +kernel
theorem dX7_laid_83 : decode cX7_laid 83 = .ok (.iload_n 2, 1) := by decide +kernel
theorem dX7_laid_84 : decode cX7_laid 84 = .ok (.iaload, 1) := by decide +kernel
theorem dX7_laid_85 : decode cX7_laid 85 = .ok (.ireturn, 1) := by decide +kernel
theorem dX7_laid_86 : decode cX7_laid 86 = .ok (.bipush (-2), 2) := by decide +kernel
theorem dX7_laid_88 : decode cX7_laid 88 = .ok (.ireturn, 1) := by decide +kernel
theorem dX7_off_0 : decode cX7_off 0 = .ok (.aload_n 0, 1) := by decide +kernel
theorem dX7_off_1 : decode cX7_off 1 = .ok (.iload_n 1, 1) := by decide +kernel
theorem dX7_off_2 : decode cX7_off 2 = .ok (.invokevirtual 89, 3) := by decide +kernel
theorem dX7_off_5 : decode cX7_off 5 = .ok (.ifCond .eq 20, 3) := by decide +kernel
theorem dX7_off_8 : decode cX7_off 8 = .ok (.iload_n 2, 1) := by decide +kernel
theorem dX7_off_9 : decode cX7_off 9 = .ok (.iconst 0, 1) := by decide +kernel
theorem dX7_off_10 : decode cX7_off 10 = .ok (.aload_n 0, 1) := by decide +kernel
theorem dX7_off_11 : decode cX7_off 11 = .ok (.getfield 33, 3) := by decide +kernel
theorem dX7_off_14 : decode cX7_off 14 = .ok (.getfield 96, 3) := by decide +kernel
theorem dX7_off_17 : decode cX7_off 17 = .ok (.iconst 1, 1) := by decide +kernel
theorem dX7_off_18 : decode cX7_off 18 = .ok (.isub, 1) := by decide +kernel
theorem dX7_off_19 : decode cX7_off 19 = .ok (.invokestatic 62, 3) := by decide +kernel
theorem dX7_off_22 : decode cX7_off 22 = .ok (.ifCond .ne 6, 3) := by decide +kernel
theorem dX7_off_25 : decode cX7_off 25 = .ok (.ldc 106, 2) := by decide +kernel
theorem dX7_off_27 : decode cX7_off 27 = .ok (.ireturn, 1) := by decide +kernel
theorem dX7_off_28 : decode cX7_off 28 = .ok (.aload_n 0, 1) := by decide +kernel
theorem dX7_off_29 : decode cX7_off 29 = .ok (.getfield 33, 3) := by decide +kernel
theorem dX7_off_32 : decode cX7_off 32 = .ok (.getfield 107, 3) := by decide +kernel
theorem dX7_off_35 : decode cX7_off 35 = .ok (.iload_n 2, 1) := by decide +kernel
theorem dX7_off_36 : decode cX7_off 36 = .ok (.iaload, 1) := by decide +kernel
theorem dX7_off_37 : decode cX7_off 37 = .ok (.ireturn, 1) := by decide +kernel
theorem dX7_told_0 : decode cX7_told 0 = .ok (.iload_n 2, 1) := by decide +kernel
theorem dX7_told_1 : decode cX7_told 1 = .ok (.iconst 0, 1) := by decide +kernel
theorem dX7_told_2 : decode cX7_told 2 = .ok (.iconst 1, 1) := by decide +kernel
theorem dX7_told_3 : decode cX7_told 3 = .ok (.invokestatic 62, 3) := by decide +kernel
theorem dX7_told_6 : decode cX7_told 6 = .ok (.ifCond .eq 11, 3) := by decide +kernel
theorem dX7_told_9 : decode cX7_told 9 = .ok (.aload_n 0, 1) := by decide +kernel
theorem dX7_told_10 : decode cX7_told 10 = .ok (.iload_n 1, 1) := by decide +kernel
theorem dX7_told_11 : decode cX7_told 11 = .ok (.invokevirtual 89, 3) := by decide +kernel
theorem dX7_told_14 : decode cX7_told 14 = .ok (.ifCond .ne 6, 3) := by decide +kernel
theorem dX7_told_17 : decode cX7_told 17 = .ok (.ldc 106, 2) := by decide +kernel
theorem dX7_told_19 : decode cX7_told 19 = .ok (.ireturn, 1) := by decide +kernel
theorem dX7_told_20 : decode cX7_told 20 = .ok (.iload_n 2, 1) := by decide +kernel
theorem dX7_told_21 : decode cX7_told 21 = .ok (.ifCond .ne 13, 3) := by decide +kernel
theorem dX7_told_24 : decode cX7_told 24 = .ok (.aload_n 0, 1) := by decide +kernel
theorem dX7_told_25 : decode cX7_told 25 = .ok (.getfield 33, 3) := by decide +kernel
theorem dX7_told_28 : decode cX7_told 28 = .ok (.getfield 110, 3) := by decide +kernel
theorem dX7_told_31 : decode cX7_told 31 = .ok (.goto 10, 3) := by decide +kernel
theorem dX7_told_34 : decode cX7_told 34 = .ok (.aload_n 0, 1) := by decide +kernel
theorem dX7_told_35 : decode cX7_told 35 = .ok (.getfield 33, 3) := by decide +kernel
theorem dX7_told_38 : decode cX7_told 38 = .ok (.getfield 113, 3) := by decide +kernel
theorem dX7_told_41 : decode cX7_told 41 = .ok (.ireturn, 1) := by decide +kernel
theorem dX7_sing_0 : decode cX7_sing 0 = .ok (.iload_n 1, 1) := by decide +kernel
theorem dX7_sing_1 : decode cX7_sing 1 = .ok (.iconst 1, 1) := by decide +kernel
theorem dX7_sing_2 : decode cX7_sing 2 = .ok (.sipush 1023, 3) := by decide +kernel
theorem dX7_sing_5 : decode cX7_sing 5 = .ok (.invokestatic 62, 3) := by decide +kernel
theorem dX7_sing_8 : decode cX7_sing 8 = .ok (.ifCond .ne 5, 3) := by decide +kernel
theorem dX7_sing_11 : decode cX7_sing 11 = .ok (.iconst (-1), 1) := by decide +kernel
theorem dX7_sing_12 : decode cX7_sing 12 = .ok (.ireturn, 1) := by decide +kernel
theorem dX7_sing_13 : decode cX7_sing 13 = .ok (.aload_n 0, 1) := by decide +kernel
theorem dX7_sing_14 : decode cX7_sing 14 = .ok (.getfield 40, 3) := by decide +kernel
theorem dX7_sing_17 : decode cX7_sing 17 = .ok (.iload_n 1, 1) := by decide +kernel
theorem dX7_sing_18 : decode cX7_sing 18 = .ok (.putfield 116, 3) := by decide +kernel
theorem dX7_sing_21 : decode cX7_sing 21 = .ok (.iload_n 1, 1) := by decide +kernel
theorem dX7_sing_22 : decode cX7_sing 22 = .ok (.invokestatic 119, 3) := by decide +kernel
theorem dX7_sing_25 : decode cX7_sing 25 = .ok (.ireturn, 1) := by decide +kernel
theorem dX7_judge_0 : decode cX7_judge 0 = .ok (.iload_n 1, 1) := by decide +kernel
theorem dX7_judge_1 : decode cX7_judge 1 = .ok (.iconst 0, 1) := by decide +kernel
theorem dX7_judge_2 : decode cX7_judge 2 = .ok (.bipush 8, 2) := by decide +kernel
theorem dX7_judge_4 : decode cX7_judge 4 = .ok (.invokestatic 62, 3) := by decide +kernel
theorem dX7_judge_7 : decode cX7_judge 7 = .ok (.ifCond .eq 13, 3) := by decide +kernel
theorem dX7_judge_10 : decode cX7_judge 10 = .ok (.iload_n 2, 1) := by decide +kernel
theorem dX7_judge_11 : decode cX7_judge 11 = .ok (.iconst 0, 1) := by decide +kernel
theorem dX7_judge_12 : decode cX7_judge 12 = .ok (.bipush 10, 2) := by decide +kernel
theorem dX7_judge_14 : decode cX7_judge 14 = .ok (.invokestatic 62, 3) := by decide +kernel
theorem dX7_judge_17 : decode cX7_judge 17 = .ok (.ifCond .ne 5, 3) := by decide +kernel
theorem dX7_judge_20 : decode cX7_judge 20 = .ok (.iconst 0, 1) := by decide +kernel
theorem dX7_judge_21 : decode cX7_judge 21 = .ok (.ireturn, 1) := by decide +kernel
theorem dX7_judge_22 : decode cX7_judge 22 = .ok (.aload_n 0, 1) := by decide +kernel
theorem dX7_judge_23 : decode cX7_judge 23 = .ok (.getfield 40, 3) := by decide +kernel
theorem dX7_judge_26 : decode cX7_judge 26 = .ok (.iload_n 1, 1) := by decide +kernel
theorem dX7_judge_27 : decode cX7_judge 27 = .ok (.iload_n 2, 1) := by decide +kernel
theorem dX7_judge_28 : decode cX7_judge 28 = .ok (.lload_n 3, 1) := by decide +kernel
theorem dX7_judge_29 : decode cX7_judge 29 = .ok (.invokevirtual 124, 3) := by decide +kernel
theorem dX7_judge_32 : decode cX7_judge 32 = .ok (.ireturn, 1) := by decide +kernel
theorem dX7_judges_0 : decode cX7_judges 0 = .ok (.aload_n 0, 1) := by decide +kernel
theorem dX7_judges_1 : decode cX7_judges 1 = .ok (.getfield 40, 3) := by decide +kernel
theorem dX7_judges_4 : decode cX7_judges 4 = .ok (.invokevirtual 128, 3) := by decide +kernel
theorem dX7_judges_7 : decode cX7_judges 7 = .ok (.ireturn, 1) := by decide +kernel
theorem dX7_place_0 : decode cX7_place 0 = .ok (.aload_n 0, 1) := by decide +kernel
theorem dX7_place_1 : decode cX7_place 1 = .ok (.getfield 40, 3) := by decide +kernel
theorem dX7_place_4 : decode cX7_place 4 = .ok (.iload_n 1, 1) := by decide +kernel
theorem dX7_place_5 : decode cX7_place 5 = .ok (.invokevirtual 132, 3) := by decide +kernel
theorem dX7_place_8 : decode cX7_place 8 = .ok (.ifCond .eq 13, 3) := by decide +kernel
theorem dX7_place_11 : decode cX7_place 11 = .ok (.aload_n 0, 1) := by decide +kernel
theorem dX7_place_12 : decode cX7_place 12 = .ok (.getfield 40, 3) := by decide +kernel
theorem dX7_place_15 : decode cX7_place 15 = .ok (.invokevirtual 128, 3) := by decide +kernel
theorem dX7_place_18 : decode cX7_place 18 = .ok (.ifCond .ne 5, 3) := by decide +kernel
theorem dX7_place_21 : decode cX7_place 21 = .ok (.iconst (-1), 1) := by decide +kernel
theorem dX7_place_22 : decode cX7_place 22 = .ok (.ireturn, 1) := by decide +kernel
theorem dX7_place_23 : decode cX7_place 23 = .ok (.aload_n 0, 1) := by decide +kernel
theorem dX7_place_24 : decode cX7_place 24 = .ok (.getfield 40, 3) := by decide +kernel
theorem dX7_place_27 : decode cX7_place 27 = .ok (.iload_n 1, 1) := by decide +kernel
theorem dX7_place_28 : decode cX7_place 28 = .ok (.invokevirtual 135, 3) := by decide +kernel
theorem dX7_place_31 : decode cX7_place 31 = .ok (.ireturn, 1) := by decide +kernel
theorem dX7_ranks_0 : decode cX7_ranks 0 = .ok (.aload_n 0, 1) := by decide +kernel
theorem dX7_ranks_1 : decode cX7_ranks 1 = .ok (.getfield 40, 3) := by decide +kernel
theorem dX7_ranks_4 : decode cX7_ranks 4 = .ok (.iload_n 1, 1) := by decide +kernel
theorem dX7_ranks_5 : decode cX7_ranks 5 = .ok (.invokevirtual 132, 3) := by decide +kernel
theorem dX7_ranks_8 : decode cX7_ranks 8 = .ok (.ifCond .eq 8, 3) := by decide +kernel
theorem dX7_ranks_11 : decode cX7_ranks 11 = .ok (.iload_n 2, 1) := by decide +kernel
theorem dX7_ranks_12 : decode cX7_ranks 12 = .ok (.iconst 1, 1) := by decide +kernel
theorem dX7_ranks_13 : decode cX7_ranks 13 = .ok (.if_icmp .ge 5, 3) := by decide +kernel
theorem dX7_ranks_16 : decode cX7_ranks 16 = .ok (.iconst (-1), 1) := by decide +kernel
theorem dX7_ranks_17 : decode cX7_ranks 17 = .ok (.ireturn, 1) := by decide +kernel
theorem dX7_ranks_18 : decode cX7_ranks 18 = .ok (.aload_n 0, 1) := by decide +kernel
theorem dX7_ranks_19 : decode cX7_ranks 19 = .ok (.getfield 40, 3) := by decide +kernel
theorem dX7_ranks_22 : decode cX7_ranks 22 = .ok (.iload_n 1, 1) := by decide +kernel
theorem dX7_ranks_23 : decode cX7_ranks 23 = .ok (.iload_n 2, 1) := by decide +kernel
theorem dX7_ranks_24 : decode cX7_ranks 24 = .ok (.invokevirtual 138, 3) := by decide +kernel
theorem dX7_ranks_27 : decode cX7_ranks 27 = .ok (.ireturn, 1) := by decide +kernel
theorem dX7_member_0 : decode cX7_member 0 = .ok (.iload_n 1, 1) := by decide +kernel
theorem dX7_member_1 : decode cX7_member 1 = .ok (.iconst 0, 1) := by decide +kernel
theorem dX7_member_2 : decode cX7_member 2 = .ok (.bipush 29, 2) := by decide +kernel
theorem dX7_member_4 : decode cX7_member 4 = .ok (.invokestatic 62, 3) := by decide +kernel
theorem dX7_member_7 : decode cX7_member 7 = .ok (.ifCond .eq 13, 3) := by decide +kernel
theorem dX7_member_10 : decode cX7_member 10 = .ok (.iload_n 2, 1) := by decide +kernel
theorem dX7_member_11 : decode cX7_member 11 = .ok (.iconst 0, 1) := by decide +kernel
theorem dX7_member_12 : decode cX7_member 12 = .ok (.bipush 9, 2) := by decide +kernel
theorem dX7_member_14 : decode cX7_member 14 = .ok (.invokestatic 62, 3) := by decide +kernel
theorem dX7_member_17 : decode cX7_member 17 = .ok (.ifCond .ne 5, 3) := by decide +kernel
theorem dX7_member_20 : decode cX7_member 20 = .ok (.iconst (-1), 1) := by decide +kernel
theorem dX7_member_21 : decode cX7_member 21 = .ok (.ireturn, 1) := by decide +kernel
theorem dX7_member_22 : decode cX7_member 22 = .ok (.iload_n 3, 1) := by decide +kernel
theorem dX7_member_23 : decode cX7_member 23 = .ok (.invokestatic 141, 3) := by decide +kernel
theorem dX7_member_26 : decode cX7_member 26 = .ok (.ifCond .eq 29, 3) := by decide +kernel
theorem dX7_member_29 : decode cX7_member 29 = .ok (.iload 4, 2) := by decide +kernel
theorem dX7_member_31 : decode cX7_member 31 = .ok (.invokestatic 141, 3) := by decide +kernel
theorem dX7_member_34 : decode cX7_member 34 = .ok (.ifCond .eq 21, 3) := by decide +kernel
theorem dX7_member_37 : decode cX7_member 37 = .ok (.iload_n 3, 1) := by decide +kernel
theorem dX7_member_38 : decode cX7_member 38 = .ok (.iload 4, 2) := by decide +kernel
theorem dX7_member_40 : decode cX7_member 40 = .ok (.if_icmp .gt 15, 3) := by decide +kernel
theorem dX7_member_43 : decode cX7_member 43 = .ok (.aload_n 0, 1) := by decide +kernel
theorem dX7_member_44 : decode cX7_member 44 = .ok (.getfield 47, 3) := by decide +kernel
theorem dX7_member_47 : decode cX7_member 47 = .ok (.getfield 144, 3) := by decide +kernel
theorem dX7_member_50 : decode cX7_member 50 = .ok (.bipush 60, 2) := by decide +kernel
theorem dX7_member_52 : decode cX7_member 52 = .ok (.if_icmp .lt 5, 3) := by decide +kernel
theorem dX7_member_55 : decode cX7_member 55 = .ok (.iconst (-1), 1) := by decide +kernel
theorem dX7_member_56 : decode cX7_member 56 = .ok (.ireturn, 1) := by decide +kernel
theorem dX7_member_57 : decode cX7_member 57 = .ok (.aload_n 0, 1) := by decide +kernel
theorem dX7_member_58 : decode cX7_member 58 = .ok (.getfield 47, 3) := by decide +kernel
theorem dX7_member_61 : decode cX7_member 61 = .ok (.iload_n 1, 1) := by decide +kernel
theorem dX7_member_62 : decode cX7_member 62 = .ok (.iload_n 2, 1) := by decide +kernel
theorem dX7_member_63 : decode cX7_member 63 = .ok (.iload_n 3, 1) := by decide +kernel
theorem dX7_member_64 : decode cX7_member 64 = .ok (.iload 4, 2) := by decide +kernel
theorem dX7_member_66 : decode cX7_member 66 = .ok (.invokevirtual 145, 3) := by decide +kernel
theorem dX7_member_69 : decode cX7_member 69 = .ok (.ireturn, 1) := by decide +kernel
theorem dX7_may_0 : decode cX7_may 0 = .ok (.iload_n 1, 1) := by decide +kernel
theorem dX7_may_1 : decode cX7_may 1 = .ok (.iconst 0, 1) := by decide +kernel
theorem dX7_may_2 : decode cX7_may 2 = .ok (.bipush 29, 2) := by decide +kernel
theorem dX7_may_4 : decode cX7_may 4 = .ok (.invokestatic 62, 3) := by decide +kernel
theorem dX7_may_7 : decode cX7_may 7 = .ok (.ifCond .eq 20, 3) := by decide +kernel
theorem dX7_may_10 : decode cX7_may 10 = .ok (.iload_n 2, 1) := by decide +kernel
theorem dX7_may_11 : decode cX7_may 11 = .ok (.iconst 0, 1) := by decide +kernel
theorem dX7_may_12 : decode cX7_may 12 = .ok (.bipush 9, 2) := by decide +kernel
theorem dX7_may_14 : decode cX7_may 14 = .ok (.invokestatic 62, 3) := by decide +kernel
theorem dX7_may_17 : decode cX7_may 17 = .ok (.ifCond .eq 10, 3) := by decide +kernel
theorem dX7_may_20 : decode cX7_may 20 = .ok (.iload_n 3, 1) := by decide +kernel
theorem dX7_may_21 : decode cX7_may 21 = .ok (.invokestatic 141, 3) := by decide +kernel
theorem dX7_may_24 : decode cX7_may 24 = .ok (.ifCond .ne 5, 3) := by decide +kernel
theorem dX7_may_27 : decode cX7_may 27 = .ok (.iconst (-1), 1) := by decide +kernel
theorem dX7_may_28 : decode cX7_may 28 = .ok (.ireturn, 1) := by decide +kernel
theorem dX7_may_29 : decode cX7_may 29 = .ok (.aload_n 0, 1) := by decide +kernel
theorem dX7_may_30 : decode cX7_may 30 = .ok (.getfield 47, 3) := by decide +kernel
theorem dX7_may_33 : decode cX7_may 33 = .ok (.iload_n 2, 1) := by decide +kernel
theorem dX7_may_34 : decode cX7_may 34 = .ok (.iload_n 3, 1) := by decide +kernel
theorem dX7_may_35 : decode cX7_may 35 = .ok (.invokevirtual 149, 3) := by decide +kernel
theorem dX7_may_38 : decode cX7_may 38 = .ok (.iload_n 1, 1) := by decide +kernel
theorem dX7_may_39 : decode cX7_may 39 = .ok (.ishr, 1) := by decide +kernel
theorem dX7_may_40 : decode cX7_may 40 = .ok (.iconst 1, 1) := by decide +kernel
theorem dX7_may_41 : decode cX7_may 41 = .ok (.iand, 1) := by decide +kernel
theorem dX7_may_42 : decode cX7_may 42 = .ok (.ireturn, 1) := by decide +kernel
theorem dX7_singers_0 : decode cX7_singers 0 = .ok (.iload_n 1, 1) := by decide +kernel
theorem dX7_singers_1 : decode cX7_singers 1 = .ok (.iconst 0, 1) := by decide +kernel
theorem dX7_singers_2 : decode cX7_singers 2 = .ok (.bipush 9, 2) := by decide +kernel
theorem dX7_singers_4 : decode cX7_singers 4 = .ok (.invokestatic 62, 3) := by decide +kernel
theorem dX7_singers_7 : decode cX7_singers 7 = .ok (.ifCond .eq 10, 3) := by decide +kernel
theorem dX7_singers_10 : decode cX7_singers 10 = .ok (.iload_n 2, 1) := by decide +kernel
theorem dX7_singers_11 : decode cX7_singers 11 = .ok (.invokestatic 141, 3) := by decide +kernel
theorem dX7_singers_14 : decode cX7_singers 14 = .ok (.ifCond .ne 5, 3) := by decide +kernel
theorem dX7_singers_17 : decode cX7_singers 17 = .ok (.iconst (-1), 1) := by decide +kernel
theorem dX7_singers_18 : decode cX7_singers 18 = .ok (.ireturn, 1) := by decide +kernel
theorem dX7_singers_19 : decode cX7_singers 19 = .ok (.aload_n 0, 1) := by decide +kernel
theorem dX7_singers_20 : decode cX7_singers 20 = .ok (.getfield 47, 3) := by decide +kernel
theorem dX7_singers_23 : decode cX7_singers 23 = .ok (.iload_n 1, 1) := by decide +kernel
theorem dX7_singers_24 : decode cX7_singers 24 = .ok (.iload_n 2, 1) := by decide +kernel
theorem dX7_singers_25 : decode cX7_singers 25 = .ok (.invokevirtual 149, 3) := by decide +kernel
theorem dX7_singers_28 : decode cX7_singers 28 = .ok (.ireturn, 1) := by decide +kernel
theorem dX7_perform_0 : decode cX7_perform 0 = .ok (.iload_n 1, 1) := by decide +kernel
theorem dX7_perform_1 : decode cX7_perform 1 = .ok (.iconst 0, 1) := by decide +kernel
theorem dX7_perform_2 : decode cX7_perform 2 = .ok (.bipush 9, 2) := by decide +kernel
theorem dX7_perform_4 : decode cX7_perform 4 = .ok (.invokestatic 62, 3) := by decide +kernel
theorem dX7_perform_7 : decode cX7_perform 7 = .ok (.ifCond .eq 15, 3) := by decide +kernel
theorem dX7_perform_10 : decode cX7_perform 10 = .ok (.aload_n 0, 1) := by decide +kernel
theorem dX7_perform_11 : decode cX7_perform 11 = .ok (.getfield 54, 3) := by decide +kernel
theorem dX7_perform_14 : decode cX7_perform 14 = .ok (.getfield 152, 3) := by decide +kernel
theorem dX7_perform_17 : decode cX7_perform 17 = .ok (.bipush 12, 2) := by decide +kernel
theorem dX7_perform_19 : decode cX7_perform 19 = .ok (.if_icmp .lt 5, 3) := by decide +kernel
theorem dX7_perform_22 : decode cX7_perform 22 = .ok (.iconst (-1), 1) := by decide +kernel
theorem dX7_perform_23 : decode cX7_perform 23 = .ok (.ireturn, 1) := by decide +kernel
theorem dX7_perform_24 : decode cX7_perform 24 = .ok (.aload_n 0, 1) := by decide +kernel
theorem dX7_perform_25 : decode cX7_perform 25 = .ok (.getfield 54, 3) := by decide +kernel
theorem dX7_perform_28 : decode cX7_perform 28 = .ok (.iload_n 1, 1) := by decide +kernel
theorem dX7_perform_29 : decode cX7_perform 29 = .ok (.invokevirtual 153, 3) := by decide +kernel
theorem dX7_perform_32 : decode cX7_perform 32 = .ok (.ireturn, 1) := by decide +kernel
theorem dX7_clear_0 : decode cX7_clear 0 = .ok (.aload_n 0, 1) := by decide +kernel
theorem dX7_clear_1 : decode cX7_clear 1 = .ok (.getfield 54, 3) := by decide +kernel
theorem dX7_clear_4 : decode cX7_clear 4 = .ok (.getfield 152, 3) := by decide +kernel
theorem dX7_clear_7 : decode cX7_clear 7 = .ok (.istore_n 1, 1) := by decide +kernel
theorem dX7_clear_8 : decode cX7_clear 8 = .ok (.aload_n 0, 1) := by decide +kernel
theorem dX7_clear_9 : decode cX7_clear 9 = .ok (.getfield 54, 3) := by decide +kernel
theorem dX7_clear_12 : decode cX7_clear 12 = .ok (.iconst 0, 1) := by decide +kernel
theorem dX7_clear_13 : decode cX7_clear 13 = .ok (.putfield 152, 3) := by decide +kernel
theorem dX7_clear_16 : decode cX7_clear 16 = .ok (.iload_n 1, 1) := by decide +kernel
theorem dX7_clear_17 : decode cX7_clear 17 = .ok (.ireturn, 1) := by decide +kernel
theorem dX7_halls_0 : decode cX7_halls 0 = .ok (.iload_n 1, 1) := by decide +kernel
theorem dX7_halls_1 : decode cX7_halls 1 = .ok (.iconst 1, 1) := by decide +kernel
theorem dX7_halls_2 : decode cX7_halls 2 = .ok (.iconst 4, 1) := by decide +kernel
theorem dX7_halls_3 : decode cX7_halls 3 = .ok (.invokestatic 62, 3) := by decide +kernel
theorem dX7_halls_6 : decode cX7_halls 6 = .ok (.ifCond .ne 5, 3) := by decide +kernel
theorem dX7_halls_9 : decode cX7_halls 9 = .ok (.iconst (-1), 1) := by decide +kernel
theorem dX7_halls_10 : decode cX7_halls 10 = .ok (.ireturn, 1) := by decide +kernel
theorem dX7_halls_11 : decode cX7_halls 11 = .ok (.aload_n 0, 1) := by decide +kernel
theorem dX7_halls_12 : decode cX7_halls 12 = .ok (.getfield 54, 3) := by decide +kernel
theorem dX7_halls_15 : decode cX7_halls 15 = .ok (.getfield 156, 3) := by decide +kernel
theorem dX7_halls_18 : decode cX7_halls 18 = .ok (.istore_n 2, 1) := by decide +kernel
theorem dX7_halls_19 : decode cX7_halls 19 = .ok (.aload_n 0, 1) := by decide +kernel
theorem dX7_halls_20 : decode cX7_halls 20 = .ok (.getfield 54, 3) := by decide +kernel
theorem dX7_halls_23 : decode cX7_halls 23 = .ok (.iload_n 1, 1) := by decide +kernel
theorem dX7_halls_24 : decode cX7_halls 24 = .ok (.putfield 156, 3) := by decide +kernel
theorem dX7_halls_27 : decode cX7_halls 27 = .ok (.iload_n 2, 1) := by decide +kernel
theorem dX7_halls_28 : decode cX7_halls 28 = .ok (.ireturn, 1) := by decide +kernel
theorem dX7_hours_0 : decode cX7_hours 0 = .ok (.iload_n 1, 1) := by decide +kernel
theorem dX7_hours_1 : decode cX7_hours 1 = .ok (.invokestatic 141, 3) := by decide +kernel
theorem dX7_hours_4 : decode cX7_hours 4 = .ok (.ifCond .ne 5, 3) := by decide +kernel
theorem dX7_hours_7 : decode cX7_hours 7 = .ok (.iconst (-1), 1) := by decide +kernel
theorem dX7_hours_8 : decode cX7_hours 8 = .ok (.ireturn, 1) := by decide +kernel
theorem dX7_hours_9 : decode cX7_hours 9 = .ok (.aload_n 0, 1) := by decide +kernel
theorem dX7_hours_10 : decode cX7_hours 10 = .ok (.getfield 54, 3) := by decide +kernel
theorem dX7_hours_13 : decode cX7_hours 13 = .ok (.aload_n 0, 1) := by decide +kernel
theorem dX7_hours_14 : decode cX7_hours 14 = .ok (.getfield 47, 3) := by decide +kernel
theorem dX7_hours_17 : decode cX7_hours 17 = .ok (.iload_n 1, 1) := by decide +kernel
theorem dX7_hours_18 : decode cX7_hours 18 = .ok (.invokevirtual 159, 3) := by decide +kernel
theorem dX7_hours_21 : decode cX7_hours 21 = .ok (.ireturn, 1) := by decide +kernel
theorem dX7_hour_0 : decode cX7_hour 0 = .ok (.iload_n 1, 1) := by decide +kernel
theorem dX7_hour_1 : decode cX7_hour 1 = .ok (.iconst 0, 1) := by decide +kernel
theorem dX7_hour_2 : decode cX7_hour 2 = .ok (.aload_n 0, 1) := by decide +kernel
theorem dX7_hour_3 : decode cX7_hour 3 = .ok (.getfield 54, 3) := by decide +kernel
theorem dX7_hour_6 : decode cX7_hour 6 = .ok (.getfield 163, 3) := by decide +kernel
theorem dX7_hour_9 : decode cX7_hour 9 = .ok (.iconst 1, 1) := by decide +kernel
theorem dX7_hour_10 : decode cX7_hour 10 = .ok (.isub, 1) := by decide +kernel
theorem dX7_hour_11 : decode cX7_hour 11 = .ok (.invokestatic 62, 3) := by decide +kernel
theorem dX7_hour_14 : decode cX7_hour 14 = .ok (.ifCond .ne 5, 3) := by decide +kernel
theorem dX7_hour_17 : decode cX7_hour 17 = .ok (.iconst (-1), 1) := by decide +kernel
theorem dX7_hour_18 : decode cX7_hour 18 = .ok (.ireturn, 1) := by decide +kernel
theorem dX7_hour_19 : decode cX7_hour 19 = .ok (.aload_n 0, 1) := by decide +kernel
theorem dX7_hour_20 : decode cX7_hour 20 = .ok (.getfield 54, 3) := by decide +kernel
theorem dX7_hour_23 : decode cX7_hour 23 = .ok (.getfield 166, 3) := by decide +kernel
theorem dX7_hour_26 : decode cX7_hour 26 = .ok (.iload_n 1, 1) := by decide +kernel
theorem dX7_hour_27 : decode cX7_hour 27 = .ok (.iaload, 1) := by decide +kernel
theorem dX7_hour_28 : decode cX7_hour 28 = .ok (.ireturn, 1) := by decide +kernel
theorem dX7_draw_0 : decode cX7_draw 0 = .ok (.iload_n 1, 1) := by decide +kernel
theorem dX7_draw_1 : decode cX7_draw 1 = .ok (.iconst 1, 1) := by decide +kernel
theorem dX7_draw_2 : decode cX7_draw 2 = .ok (.bipush 12, 2) := by decide +kernel
theorem dX7_draw_4 : decode cX7_draw 4 = .ok (.invokestatic 62, 3) := by decide +kernel
theorem dX7_draw_7 : decode cX7_draw 7 = .ok (.ifCond .eq 14, 3) := by decide +kernel
theorem dX7_draw_10 : decode cX7_draw 10 = .ok (.iload_n 3, 1) := by decide +kernel
theorem dX7_draw_11 : decode cX7_draw 11 = .ok (.iconst 0, 1) := by decide +kernel
theorem dX7_draw_12 : decode cX7_draw 12 = .ok (.iload_n 1, 1) := by decide +kernel
theorem dX7_draw_13 : decode cX7_draw 13 = .ok (.iconst 1, 1) := by decide +kernel
theorem dX7_draw_14 : decode cX7_draw 14 = .ok (.isub, 1) := by decide +kernel
theorem dX7_draw_15 : decode cX7_draw 15 = .ok (.invokestatic 62, 3) := by decide +kernel
theorem dX7_draw_18 : decode cX7_draw 18 = .ok (.ifCond .ne 5, 3) := by decide +kernel
theorem dX7_draw_21 : decode cX7_draw 21 = .ok (.iconst (-1), 1) := by decide +kernel
theorem dX7_draw_22 : decode cX7_draw 22 = .ok (.ireturn, 1) := by decide +kernel
theorem dX7_draw_23 : decode cX7_draw 23 = .ok (.aload_n 0, 1) := by decide +kernel
theorem dX7_draw_24 : decode cX7_draw 24 = .ok (.iload_n 1, 1) := by decide +kernel
theorem dX7_draw_25 : decode cX7_draw 25 = .ok (.iload_n 2, 1) := by decide +kernel
theorem dX7_draw_26 : decode cX7_draw 26 = .ok (.invokevirtual 169, 3) := by decide +kernel
theorem dX7_draw_29 : decode cX7_draw 29 = .ok (.aload_n 0, 1) := by decide +kernel
theorem dX7_draw_30 : decode cX7_draw 30 = .ok (.getfield 58, 3) := by decide +kernel
theorem dX7_draw_33 : decode cX7_draw 33 = .ok (.iload_n 3, 1) := by decide +kernel
theorem dX7_draw_34 : decode cX7_draw 34 = .ok (.iaload, 1) := by decide +kernel
theorem dX7_draw_35 : decode cX7_draw 35 = .ok (.ireturn, 1) := by decide +kernel
theorem dX7_isWithin_0 : decode cX7_isWithin 0 = .ok (.iload_n 0, 1) := by decide +kernel
theorem dX7_isWithin_1 : decode cX7_isWithin 1 = .ok (.iload_n 1, 1) := by decide +kernel
theorem dX7_isWithin_2 : decode cX7_isWithin 2 = .ok (.if_icmp .lt 12, 3) := by decide +kernel
theorem dX7_isWithin_5 : decode cX7_isWithin 5 = .ok (.iload_n 0, 1) := by decide +kernel
theorem dX7_isWithin_6 : decode cX7_isWithin 6 = .ok (.iload_n 2, 1) := by decide +kernel
theorem dX7_isWithin_7 : decode cX7_isWithin 7 = .ok (.if_icmp .gt 7, 3) := by decide +kernel
theorem dX7_isWithin_10 : decode cX7_isWithin 10 = .ok (.iconst 1, 1) := by decide +kernel
theorem dX7_isWithin_11 : decode cX7_isWithin 11 = .ok (.goto 4, 3) := by decide +kernel
theorem dX7_isWithin_14 : decode cX7_isWithin 14 = .ok (.iconst 0, 1) := by decide +kernel
theorem dX7_isWithin_15 : decode cX7_isWithin 15 = .ok (.ireturn, 1) := by decide +kernel
theorem dX7_isDay_0 : decode cX7_isDay 0 = .ok (.iload_n 0, 1) := by decide +kernel
theorem dX7_isDay_1 : decode cX7_isDay 1 = .ok (.iconst 0, 1) := by decide +kernel
theorem dX7_isDay_2 : decode cX7_isDay 2 = .ok (.sipush 1000, 3) := by decide +kernel
theorem dX7_isDay_5 : decode cX7_isDay 5 = .ok (.invokestatic 62, 3) := by decide +kernel
theorem dX7_isDay_8 : decode cX7_isDay 8 = .ok (.ireturn, 1) := by decide +kernel
theorem dX7_hasLaying_0 : decode cX7_hasLaying 0 = .ok (.iload_n 1, 1) := by decide +kernel
theorem dX7_hasLaying_1 : decode cX7_hasLaying 1 = .ok (.iconst 0, 1) := by decide +kernel
theorem dX7_hasLaying_2 : decode cX7_hasLaying 2 = .ok (.bipush 9, 2) := by decide +kernel
theorem dX7_hasLaying_4 : decode cX7_hasLaying 4 = .ok (.invokestatic 62, 3) := by decide +kernel
theorem dX7_hasLaying_7 : decode cX7_hasLaying 7 = .ok (.ifCond .ne 5, 3) := by decide +kernel
theorem dX7_hasLaying_10 : decode cX7_hasLaying 10 = .ok (.iconst 0, 1) := by decide +kernel
theorem dX7_hasLaying_11 : decode cX7_hasLaying 11 = .ok (.ireturn, 1) := by decide +kernel
theorem dX7_hasLaying_12 : decode cX7_hasLaying 12 = .ok (.aload_n 0, 1) := by decide +kernel
theorem dX7_hasLaying_13 : decode cX7_hasLaying 13 = .ok (.getfield 18, 3) := by decide +kernel
theorem dX7_hasLaying_16 : decode cX7_hasLaying 16 = .ok (.iload_n 1, 1) := by decide +kernel
theorem dX7_hasLaying_17 : decode cX7_hasLaying 17 = .ok (.aaload, 1) := by decide +kernel
theorem dX7_hasLaying_18 : decode cX7_hasLaying 18 = .ok (.astore_n 2, 1) := by decide +kernel
theorem dX7_hasLaying_19 : decode cX7_hasLaying 19 = .ok (.aload_n 0, 1) := by decide +kernel
theorem dX7_hasLaying_20 : decode cX7_hasLaying 20 = .ok (.getfield 11, 3) := by decide +kernel
theorem dX7_hasLaying_23 : decode cX7_hasLaying 23 = .ok (.aload_n 2, 1) := by decide +kernel
theorem dX7_hasLaying_24 : decode cX7_hasLaying 24 = .ok (.getfield 173, 3) := by decide +kernel
theorem dX7_hasLaying_27 : decode cX7_hasLaying 27 = .ok (.aaload, 1) := by decide +kernel
theorem dX7_hasLaying_28 : decode cX7_hasLaying 28 = .ok (.astore_n 3, 1) := by decide +kernel
theorem dX7_hasLaying_29 : decode cX7_hasLaying 29 = .ok (.aload_n 3, 1) := by decide +kernel
theorem dX7_hasLaying_30 : decode cX7_hasLaying 30 = .ok (.getfield 66, 3) := by decide +kernel
theorem dX7_hasLaying_33 : decode cX7_hasLaying 33 = .ok (.ifCond .ne 5, 3) := by decide +kernel
theorem dX7_hasLaying_36 : decode cX7_hasLaying 36 = .ok (.iconst 0, 1) := by decide +kernel
theorem dX7_hasLaying_37 : decode cX7_hasLaying 37 = .ok (.ireturn, 1) := by decide +kernel
theorem dX7_hasLaying_38 : decode cX7_hasLaying 38 = .ok (.aload_n 0, 1) := by decide +kernel
theorem dX7_hasLaying_39 : decode cX7_hasLaying 39 = .ok (.getfield 33, 3) := by decide +kernel
theorem dX7_hasLaying_42 : decode cX7_hasLaying 42 = .ok (.getfield 176, 3) := by decide +kernel
theorem dX7_hasLaying_45 : decode cX7_hasLaying 45 = .ok (.iload_n 1, 1) := by decide +kernel
theorem dX7_hasLaying_46 : decode cX7_hasLaying 46 = .ok (.if_icmp .eq 24, 3) := by decide +kernel
theorem dX7_hasLaying_49 : decode cX7_hasLaying 49 = .ok (.aload_n 0, 1) := by decide +kernel
theorem dX7_hasLaying_50 : decode cX7_hasLaying 50 = .ok (.getfield 33, 3) := by decide +kernel
theorem dX7_hasLaying_53 : decode cX7_hasLaying 53 = .ok (.aload_n 3, 1) := by decide +kernel
theorem dX7_hasLaying_54 : decode cX7_hasLaying 54 = .ok (.aload_n 2, 1) := by decide +kernel
theorem dX7_hasLaying_55 : decode cX7_hasLaying 55 = .ok (.aload_n 0, 1) := by decide +kernel
theorem dX7_hasLaying_56 : decode cX7_hasLaying 56 = .ok (.getfield 26, 3) := by decide +kernel
theorem dX7_hasLaying_59 : decode cX7_hasLaying 59 = .ok (.invokevirtual 179, 3) := by decide +kernel
theorem dX7_hasLaying_62 : decode cX7_hasLaying 62 = .ok (.aload_n 0, 1) := by decide +kernel
theorem dX7_hasLaying_63 : decode cX7_hasLaying 63 = .ok (.getfield 33, 3) := by decide +kernel
theorem dX7_hasLaying_66 : decode cX7_hasLaying 66 = .ok (.iload_n 1, 1) := by decide +kernel
theorem dX7_hasLaying_67 : decode cX7_hasLaying 67 = .ok (.putfield 176, 3) := by decide +kernel
theorem dX7_hasLaying_70 : decode cX7_hasLaying 70 = .ok (.iconst 1, 1) := by decide +kernel
theorem dX7_hasLaying_71 : decode cX7_hasLaying 71 = .ok (.ireturn, 1) := by decide +kernel
theorem dX7_drawOrder_0 : decode cX7_drawOrder 0 = .ok (.iconst 0, 1) := by decide +kernel
theorem dX7_drawOrder_1 : decode cX7_drawOrder 1 = .ok (.istore_n 3, 1) := by decide +kernel
theorem dX7_drawOrder_2 : decode cX7_drawOrder 2 = .ok (.iload_n 3, 1) := by decide +kernel
theorem dX7_drawOrder_3 : decode cX7_drawOrder 3 = .ok (.iload_n 1, 1) := by decide +kernel
theorem dX7_drawOrder_4 : decode cX7_drawOrder 4 = .ok (.if_icmp .ge 16, 3) := by decide +kernel
theorem dX7_drawOrder_7 : decode cX7_drawOrder 7 = .ok (.aload_n 0, 1) := by decide +kernel
theorem dX7_drawOrder_8 : decode cX7_drawOrder 8 = .ok (.getfield 58, 3) := by decide +kernel
theorem dX7_drawOrder_11 : decode cX7_drawOrder 11 = .ok (.iload_n 3, 1) := by decide +kernel
theorem dX7_drawOrder_12 : decode cX7_drawOrder 12 = .ok (.iload_n 3, 1) := by decide +kernel
theorem dX7_drawOrder_13 : decode cX7_drawOrder 13 = .ok (.iastore, 1) := by decide +kernel
theorem dX7_drawOrder_14 : decode cX7_drawOrder 14 = .ok (.iinc 3 1, 3) := by decide +kernel
theorem dX7_drawOrder_17 : decode cX7_drawOrder 17 = .ok (.goto (-15), 3) := by decide +kernel
theorem dX7_drawOrder_20 : decode cX7_drawOrder 20 = .ok (.iload_n 2, 1) := by decide +kernel
theorem dX7_drawOrder_21 : decode cX7_drawOrder 21 = .ok (.istore_n 3, 1) := by decide +kernel
theorem dX7_drawOrder_22 : decode cX7_drawOrder 22 = .ok (.iload_n 1, 1) := by decide +kernel
theorem dX7_drawOrder_23 : decode cX7_drawOrder 23 = .ok (.iconst 1, 1) := by decide +kernel
theorem dX7_drawOrder_24 : decode cX7_drawOrder 24 = .ok (.isub, 1) := by decide +kernel
theorem dX7_drawOrder_25 : decode cX7_drawOrder 25 = .ok (.istore 4, 2) := by decide +kernel
theorem dX7_drawOrder_27 : decode cX7_drawOrder 27 = .ok (.iload 4, 2) := by decide +kernel
theorem dX7_drawOrder_29 : decode cX7_drawOrder 29 = .ok (.iconst 1, 1) := by decide +kernel
theorem dX7_drawOrder_30 : decode cX7_drawOrder 30 = .ok (.if_icmp .lt 61, 3) := by decide +kernel
theorem dX7_drawOrder_33 : decode cX7_drawOrder 33 = .ok (.ldc 183, 2) := by decide +kernel
theorem dX7_drawOrder_35 : decode cX7_drawOrder 35 = .ok (.iload_n 3, 1) := by decide +kernel
theorem dX7_drawOrder_36 : decode cX7_drawOrder 36 = .ok (.imul, 1) := by decide +kernel
theorem dX7_drawOrder_37 : decode cX7_drawOrder 37 = .ok (.sipush 12345, 3) := by decide +kernel
theorem dX7_drawOrder_40 : decode cX7_drawOrder 40 = .ok (.iadd, 1) := by decide +kernel
theorem dX7_drawOrder_41 : decode cX7_drawOrder 41 = .ok (.istore_n 3, 1) := by decide +kernel
theorem dX7_drawOrder_42 : decode cX7_drawOrder 42 = .ok (.iload_n 3, 1) := by decide +kernel
theorem dX7_drawOrder_43 : decode cX7_drawOrder 43 = .ok (.bipush 8, 2) := by decide +kernel
theorem dX7_drawOrder_45 : decode cX7_drawOrder 45 = .ok (.iushr, 1) := by decide +kernel
theorem dX7_drawOrder_46 : decode cX7_drawOrder 46 = .ok (.iload 4, 2) := by decide +kernel
theorem dX7_drawOrder_48 : decode cX7_drawOrder 48 = .ok (.iconst 1, 1) := by decide +kernel
theorem dX7_drawOrder_49 : decode cX7_drawOrder 49 = .ok (.iadd, 1) := by decide +kernel
theorem dX7_drawOrder_50 : decode cX7_drawOrder 50 = .ok (.irem, 1) := by decide +kernel
theorem dX7_drawOrder_51 : decode cX7_drawOrder 51 = .ok (.istore 5, 2) := by decide +kernel
theorem dX7_drawOrder_53 : decode cX7_drawOrder 53 = .ok (.aload_n 0, 1) := by decide +kernel
theorem dX7_drawOrder_54 : decode cX7_drawOrder 54 = .ok (.getfield 58, 3) := by decide +kernel
theorem dX7_drawOrder_57 : decode cX7_drawOrder 57 = .ok (.iload 4, 2) := by decide +kernel
theorem dX7_drawOrder_59 : decode cX7_drawOrder 59 = .ok (.iaload, 1) := by decide +kernel
theorem dX7_drawOrder_60 : decode cX7_drawOrder 60 = .ok (.istore 6, 2) := by decide +kernel
theorem dX7_drawOrder_62 : decode cX7_drawOrder 62 = .ok (.aload_n 0, 1) := by decide +kernel
theorem dX7_drawOrder_63 : decode cX7_drawOrder 63 = .ok (.getfield 58, 3) := by decide +kernel
theorem dX7_drawOrder_66 : decode cX7_drawOrder 66 = .ok (.iload 4, 2) := by decide +kernel
theorem dX7_drawOrder_68 : decode cX7_drawOrder 68 = .ok (.aload_n 0, 1) := by decide +kernel
theorem dX7_drawOrder_69 : decode cX7_drawOrder 69 = .ok (.getfield 58, 3) := by decide +kernel
theorem dX7_drawOrder_72 : decode cX7_drawOrder 72 = .ok (.iload 5, 2) := by decide +kernel
theorem dX7_drawOrder_74 : decode cX7_drawOrder 74 = .ok (.iaload, 1) := by decide +kernel
theorem dX7_drawOrder_75 : decode cX7_drawOrder 75 = .ok (.iastore, 1) := by decide +kernel
theorem dX7_drawOrder_76 : decode cX7_drawOrder 76 = .ok (.aload_n 0, 1) := by decide +kernel
theorem dX7_drawOrder_77 : decode cX7_drawOrder 77 = .ok (.getfield 58, 3) := by decide +kernel
theorem dX7_drawOrder_80 : decode cX7_drawOrder 80 = .ok (.iload 5, 2) := by decide +kernel
theorem dX7_drawOrder_82 : decode cX7_drawOrder 82 = .ok (.iload 6, 2) := by decide +kernel
theorem dX7_drawOrder_84 : decode cX7_drawOrder 84 = .ok (.iastore, 1) := by decide +kernel
theorem dX7_drawOrder_85 : decode cX7_drawOrder 85 = .ok (.iinc 4 (-1), 3) := by decide +kernel
theorem dX7_drawOrder_88 : decode cX7_drawOrder 88 = .ok (.goto (-61), 3) := by decide +kernel
theorem dX7_drawOrder_91 : decode cX7_drawOrder 91 = .ok (.return_, 1) := by decide +kernel
