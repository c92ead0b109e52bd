theorem dX8_init_0 : decode cX8_init 0 = .ok (.aload_n 0, 1) := by decide +kernel
theorem dX8_init_1 : decode cX8_init 1 = .ok (.invokespecial 1, 3) := by decide +kernel
theorem dX8_init_4 : decode cX8_init 4 = .ok (.aload_n 0, 1) := by decide +kernel
theorem dX8_init_5 : decode cX8_init 5 = .ok (.new 7, 3) := by decide +kernel
theorem dX8_init_8 : decode cX8_init 8 = .ok (.dup, 1) := by decide +kernel
theorem dX8_init_9 : decode cX8_init 9 = .ok (.invokespecial 9, 3) := by decide +kernel
theorem dX8_init_12 : decode cX8_init 12 = .ok (.putfield 10, 3) := by decide +kernel
theorem dX8_init_15 : decode cX8_init 15 = .ok (.aload_n 0, 1) := by decide +kernel
theorem dX8_init_16 : decode cX8_init 16 = .ok (.new 16, 3) := by decide +kernel
theorem dX8_init_19 : decode cX8_init 19 = .ok (.dup, 1) := by decide +kernel
theorem dX8_init_20 : decode cX8_init 20 = .ok (.invokespecial 18, 3) := by decide +kernel
theorem dX8_init_23 : decode cX8_init 23 = .ok (.putfield 19, 3) := by decide +kernel
theorem dX8_init_26 : decode cX8_init 26 = .ok (.aload_n 0, 1) := by decide +kernel
theorem dX8_init_27 : decode cX8_init 27 = .ok (.new 23, 3) := by decide +kernel
theorem dX8_init_30 : decode cX8_init 30 = .ok (.dup, 1) := by decide +kernel
theorem dX8_init_31 : decode cX8_init 31 = .ok (.invokespecial 25, 3) := by decide +kernel
theorem dX8_init_34 : decode cX8_init 34 = .ok (.putfield 26, 3) := by decide +kernel
theorem dX8_init_37 : decode cX8_init 37 = .ok (.aload_n 0, 1) := by decide +kernel
theorem dX8_init_38 : decode cX8_init 38 = .ok (.new 30, 3) := by decide +kernel
theorem dX8_init_41 : decode cX8_init 41 = .ok (.dup, 1) := by decide +kernel
theorem dX8_init_42 : decode cX8_init 42 = .ok (.invokespecial 32, 3) := by decide +kernel
theorem dX8_init_45 : decode cX8_init 45 = .ok (.putfield 33, 3) := by decide +kernel
theorem dX8_init_48 : decode cX8_init 48 = .ok (.aload_n 0, 1) := by decide +kernel
theorem dX8_init_49 : decode cX8_init 49 = .ok (.bipush 20, 2) := by decide +kernel
theorem dX8_init_51 : decode cX8_init 51 = .ok (.anewarray 37, 3) := by decide +kernel
theorem dX8_init_54 : decode cX8_init 54 = .ok (.putfield 39, 3) := by decide +kernel
theorem dX8_init_57 : decode cX8_init 57 = .ok (.aload_n 0, 1) := by decide +kernel
theorem dX8_init_58 : decode cX8_init 58 = .ok (.bipush 6, 2) := by decide +kernel
theorem dX8_init_60 : decode cX8_init 60 = .ok (.anewarray 43, 3) := by decide +kernel
theorem dX8_init_63 : decode cX8_init 63 = .ok (.putfield 45, 3) := by decide +kernel
theorem dX8_init_66 : decode cX8_init 66 = .ok (.aload_n 0, 1) := by decide +kernel
theorem dX8_init_67 : decode cX8_init 67 = .ok (.new 49, 3) := by decide +kernel
theorem dX8_init_70 : decode cX8_init 70 = .ok (.dup, 1) := by decide +kernel
theorem dX8_init_71 : decode cX8_init 71 = .ok (.invokespecial 51, 3) := by decide +kernel
theorem dX8_init_74 : decode cX8_init 74 = .ok (.putfield 52, 3) := by decide +kernel
theorem dX8_init_77 : decode cX8_init 77 = .ok (.aload_n 0, 1) := by decide +kernel
theorem dX8_init_78 : decode cX8_init 78 = .ok (.new 56, 3) := by decide +kernel
theorem dX8_init_81 : decode cX8_init 81 = .ok (.dup, 1) := by decide +kernel
theorem dX8_init_82 : decode cX8_init 82 = .ok (.invokespecial 58, 3) := by decide +kernel
theorem dX8_init_85 : decode cX8_init 85 = .ok (.putfield 59, 3) := by decide +kernel
theorem dX8_init_88 : decode cX8_init 88 = .ok (.aload_n 0, 1) := by decide +kernel
theorem dX8_init_89 : decode cX8_init 89 = .ok (.bipush 20, 2) := by decide +kernel
theorem dX8_init_91 : decode cX8_init 91 = .ok (.newarray .int, 2) := by decide +kernel
theorem dX8_init_93 : decode cX8_init 93 = .ok (.putfield 63, 3) := by decide +kernel
theorem dX8_init_96 : decode cX8_init 96 = .ok (.iconst 0, 1) := by decide +kernel
theorem dX8_init_97 : decode cX8_init 97 = .ok (.istore_n 1, 1) := by decide +kernel
theorem dX8_init_98 : decode cX8_init 98 = .ok (.iload_n 1, 1) := by decide +kernel
theorem dX8_init_99 : decode cX8_init 99 = .ok (.bipush 20, 2) := by decide +kernel
theorem dX8_init_101 : decode cX8_init 101 = .ok (.if_icmp .ge 22, 3) := by decide +kernel
theorem dX8_init_104 : decode cX8_init 104 = .ok (.aload_n 0, 1) := by decide +kernel
theorem dX8_init_105 : decode cX8_init 105 = .ok (.getfield 39, 3) := by decide +kernel
theorem dX8_init_108 : decode cX8_init 108 = .ok (.iload_n 1, 1) := by decide +kernel
theorem dX8_init_109 : decode cX8_init 109 = .ok (.new 37, 3) := by decide +kernel
theorem dX8_init_112 : decode cX8_init 112 = .ok (.dup, 1) := by decide +kernel
theorem dX8_init_113 : decode cX8_init 113 = .ok (.invokespecial 67, 3) := by decide +kernel
theorem dX8_init_116 : decode cX8_init 116 = .ok (.aastore, 1) := by decide +kernel
theorem dX8_init_117 : decode cX8_init 117 = .ok (.iinc 1 1, 3) := by decide +kernel
theorem dX8_init_120 : decode cX8_init 120 = .ok (.goto (-22), 3) := by decide +kernel
theorem dX8_init_123 : decode cX8_init 123 = .ok (.iconst 0, 1) := by decide +kernel
theorem dX8_init_124 : decode cX8_init 124 = .ok (.istore_n 1, 1) := by decide +kernel
theorem dX8_init_125 : decode cX8_init 125 = .ok (.iload_n 1, 1) := by decide +kernel
theorem dX8_init_126 : decode cX8_init 126 = .ok (.bipush 6, 2) := by decide +kernel
theorem dX8_init_128 : decode cX8_init 128 = .ok (.if_icmp .ge 22, 3) := by decide +kernel
theorem dX8_init_131 : decode cX8_init 131 = .ok (.aload_n 0, 1) := by decide +kernel
theorem dX8_init_132 : decode cX8_init 132 = .ok (.getfield 45, 3) := by decide +kernel
theorem dX8_init_135 : decode cX8_init 135 = .ok (.iload_n 1, 1) := by decide +kernel
theorem dX8_init_136 : decode cX8_init 136 = .ok (.new 43, 3) := by decide +kernel
theorem dX8_init_139 : decode cX8_init 139 = .ok (.dup, 1) := by decide +kernel
theorem dX8_init_140 : decode cX8_init 140 = .ok (.invokespecial 68, 3) := by decide +kernel
theorem dX8_init_143 : decode cX8_init 143 = .ok (.aastore, 1) := by decide +kernel
theorem dX8_init_144 : decode cX8_init 144 = .ok (.iinc 1 1, 3) := by decide +kernel
theorem dX8_init_147 : decode cX8_init 147 = .ok (.goto (-22), 3) := by decide +kernel
theorem dX8_init_150 : decode cX8_init 150 = .ok (.return_, 1) := by decide +kernel
theorem dX8_spell_0 : decode cX8_spell 0 = .ok (.iload_n 1, 1) := by decide +kernel
theorem dX8_spell_1 : decode cX8_spell 1 = .ok (.bipush 9, 2) := by decide +kernel
theorem dX8_spell_3 : decode cX8_spell 3 = .ok (.invokestatic 69, 3) := by decide +kernel
theorem dX8_spell_6 : decode cX8_spell 6 = .ok (.aload_n 0, 1) := by decide +kernel
theorem dX8_spell_7 : decode cX8_spell 7 = .ok (.invokevirtual 73, 3) := by decide +kernel
theorem dX8_spell_10 : decode cX8_spell 10 = .ok (.aload_n 0, 1) := by decide +kernel
theorem dX8_spell_11 : decode cX8_spell 11 = .ok (.getfield 10, 3) := by decide +kernel
theorem dX8_spell_14 : decode cX8_spell 14 = .ok (.iload_n 1, 1) := by decide +kernel
theorem dX8_spell_15 : decode cX8_spell 15 = .ok (.invokevirtual 76, 3) := by decide +kernel
theorem dX8_spell_18 : decode cX8_spell 18 = .ok (.aload_n 0, 1) := by decide +kernel
theorem dX8_spell_19 : decode cX8_spell 19 = .ok (.getfield 10, 3) := by decide +kernel
theorem dX8_spell_22 : decode cX8_spell 22 = .ok (.invokevirtual 80, 3) := by decide +kernel
theorem dX8_spell_25 : decode cX8_spell 25 = .ok (.ireturn, 1) := by decide +kernel
theorem dX8_insert_0 : decode cX8_insert 0 = .ok (.iload_n 1, 1) := by decide +kernel
theorem dX8_insert_1 : decode cX8_insert 1 = .ok (.bipush 9, 2) := by decide +kernel
theorem dX8_insert_3 : decode cX8_insert 3 = .ok (.invokestatic 69, 3) := by decide +kernel
theorem dX8_insert_6 : decode cX8_insert 6 = .ok (.aload_n 0, 1) := by decide +kernel
theorem dX8_insert_7 : decode cX8_insert 7 = .ok (.invokevirtual 73, 3) := by decide +kernel
theorem dX8_insert_10 : decode cX8_insert 10 = .ok (.aload_n 0, 1) := by decide +kernel
theorem dX8_insert_11 : decode cX8_insert 11 = .ok (.getfield 10, 3) := by decide +kernel
theorem dX8_insert_14 : decode cX8_insert 14 = .ok (.iload_n 1, 1) := by decide +kernel
theorem dX8_insert_15 : decode cX8_insert 15 = .ok (.invokevirtual 84, 3) := by decide +kernel
theorem dX8_insert_18 : decode cX8_insert 18 = .ok (.aload_n 0, 1) := by decide +kernel
theorem dX8_insert_19 : decode cX8_insert 19 = .ok (.getfield 10, 3) := by decide +kernel
theorem dX8_insert_22 : decode cX8_insert 22 = .ok (.invokevirtual 80, 3) := by decide +kernel
theorem dX8_insert_25 : decode cX8_insert 25 = .ok (.ireturn, 1) := by decide +kernel
theorem dX8_turn_0 : decode cX8_turn 0 = .ok (.aload_n 0, 1) := by decide +kernel
theorem dX8_turn_1 : decode cX8_turn 1 = .ok (.getfield 10, 3) := by decide +kernel
theorem dX8_turn_4 : decode cX8_turn 4 = .ok (.invokevirtual 87, 3) := by decide +kernel
theorem dX8_turn_7 : decode cX8_turn 7 = .ok (.aload_n 0, 1) := by decide +kernel
theorem dX8_turn_8 : decode cX8_turn 8 = .ok (.getfield 10, 3) := by decide +kernel
theorem dX8_turn_11 : decode cX8_turn 11 = .ok (.invokevirtual 90, 3) := by decide +kernel
theorem dX8_turn_14 : decode cX8_turn 14 = .ok (.ireturn, 1) := by decide +kernel
theorem dX8_clearSpelled_0 : decode cX8_clearSpelled 0 = .ok (.aload_n 0, 1) := by decide +kernel
theorem dX8_clearSpelled_1 : decode cX8_clearSpelled 1 = .ok (.getfield 10, 3) := by decide +kernel
theorem dX8_clearSpelled_4 : decode cX8_clearSpelled 4 = .ok (.invokevirtual 90, 3) := by decide +kernel
theorem dX8_clearSpelled_7 : decode cX8_clearSpelled 7 = .ok (.istore_n 1, 1) := by decide +kernel
theorem dX8_clearSpelled_8 : decode cX8_clearSpelled 8 = .ok (.aload_n 0, 1) := by decide +kernel
theorem dX8_clearSpelled_9 : decode cX8_clearSpelled 9 = .ok (.getfield 10, 3) := by decide +kernel
theorem dX8_clearSpelled_12 : decode cX8_clearSpelled 12 = .ok (.invokevirtual 93, 3) := by decide +kernel
theorem dX8_clearSpelled_15 : decode cX8_clearSpelled 15 = .ok (.iload_n 1, 1) := by decide +kernel
theorem dX8_clearSpelled_16 : decode cX8_clearSpelled 16 = .ok (.ireturn, 1) := by decide +kernel
theorem dX8_charAt_0 : decode cX8_charAt 0 = .ok (.aload_n 0, 1) := by decide +kernel
theorem dX8_charAt_1 : decode cX8_charAt 1 = .ok (.getfield 10, 3) := by decide +kernel
theorem dX8_charAt_4 : decode cX8_charAt 4 = .ok (.iload_n 1, 1) := by decide +kernel
theorem dX8_charAt_5 : decode cX8_charAt 5 = .ok (.invokevirtual 96, 3) := by decide +kernel
theorem dX8_charAt_8 : decode cX8_charAt 8 = .ok (.istore_n 2, 1) := by decide +kernel
theorem dX8_charAt_9 : decode cX8_charAt 9 = .ok (.iload_n 2, 1) := by decide +kernel
theorem dX8_charAt_10 : decode cX8_charAt 10 = .ok (.iconst (-1), 1) := by decide +kernel
theorem dX8_charAt_11 : decode cX8_charAt 11 = .ok (.if_icmp .ne 13, 3) := by decide +kernel
theorem dX8_charAt_14 : decode cX8_charAt 14 = .ok (.new 100, 3) := by decide +kernel
theorem dX8_charAt_17 : decode cX8_charAt 17 = .ok (.dup, 1) := by decide +kernel
theorem dX8_charAt_18 : decode cX8_charAt 18 = .ok (.ldc 102, 2) := by decide +kernel
theorem dX8_charAt_20 : decode cX8_charAt 20 = .ok (.invokespecial 104, 3) := by decide +kernel
theorem dX8_charAt_23 : decode cX8_charAt 23 = .ok (.athrow, 1) := by decide +kernel
theorem dX8_charAt_24 : decode cX8_charAt 24 = .ok (.iload_n 2, 1) := by decide +kernel
theorem dX8_charAt_25 : decode cX8_charAt 25 = .ok (.i2c, 1) := by decide +kernel
theorem dX8_charAt_26 : decode cX8_charAt 26 = .ok (.ireturn, 1) := by decide +kernel
theorem dX8_addWord_0 : decode cX8_addWord 0 = .ok (.iload_n 1, 1) := by decide +kernel
theorem dX8_addWord_1 : decode cX8_addWord 1 = .ok (.iconst 0, 1) := by decide +kernel
theorem dX8_addWord_2 : decode cX8_addWord 2 = .ok (.bipush 99, 2) := by decide +kernel
theorem dX8_addWord_4 : decode cX8_addWord 4 = .ok (.invokestatic 107, 3) := by decide +kernel
theorem dX8_addWord_7 : decode cX8_addWord 7 = .ok (.aload_n 0, 1) := by decide +kernel
theorem dX8_addWord_8 : decode cX8_addWord 8 = .ok (.getfield 10, 3) := by decide +kernel
theorem dX8_addWord_11 : decode cX8_addWord 11 = .ok (.invokevirtual 111, 3) := by decide +kernel
theorem dX8_addWord_14 : decode cX8_addWord 14 = .ok (.ifCond .eq 32, 3) := by decide +kernel
theorem dX8_addWord_17 : decode cX8_addWord 17 = .ok (.aload_n 0, 1) := by decide +kernel
theorem dX8_addWord_18 : decode cX8_addWord 18 = .ok (.getfield 19, 3) := by decide +kernel
theorem dX8_addWord_21 : decode cX8_addWord 21 = .ok (.aload_n 0, 1) := by decide +kernel
theorem dX8_addWord_22 : decode cX8_addWord 22 = .ok (.getfield 10, 3) := by decide +kernel
theorem dX8_addWord_25 : decode cX8_addWord 25 = .ok (.invokevirtual 115, 3) := by decide +kernel
theorem dX8_addWord_28 : decode cX8_addWord 28 = .ok (.invokevirtual 118, 3) := by decide +kernel
theorem dX8_addWord_31 : decode cX8_addWord 31 = .ok (.ifCond .gt 15, 3) := by decide +kernel
theorem dX8_addWord_34 : decode cX8_addWord 34 = .ok (.aload_n 0, 1) := by decide +kernel
theorem dX8_addWord_35 : decode cX8_addWord 35 = .ok (.getfield 19, 3) := by decide +kernel
theorem dX8_addWord_38 : decode cX8_addWord 38 = .ok (.invokevirtual 121, 3) := by decide +kernel
theorem dX8_addWord_41 : decode cX8_addWord 41 = .ok (.bipush 30, 2) := by decide +kernel
theorem dX8_addWord_43 : decode cX8_addWord 43 = .ok (.if_icmp .lt 13, 3) := by decide +kernel
theorem dX8_addWord_46 : decode cX8_addWord 46 = .ok (.new 124, 3) := by decide +kernel
theorem dX8_addWord_49 : decode cX8_addWord 49 = .ok (.dup, 1) := by decide +kernel
theorem dX8_addWord_50 : decode cX8_addWord 50 = .ok (.ldc 126, 2) := by decide +kernel
theorem dX8_addWord_52 : decode cX8_addWord 52 = .ok (.invokespecial 128, 3) := by decide +kernel
theorem dX8_addWord_55 : decode cX8_addWord 55 = .ok (.athrow, 1) := by decide +kernel
theorem dX8_addWord_56 : decode cX8_addWord 56 = .ok (.aload_n 0, 1) := by decide +kernel
theorem dX8_addWord_57 : decode cX8_addWord 57 = .ok (.getfield 19, 3) := by decide +kernel
theorem dX8_addWord_60 : decode cX8_addWord 60 = .ok (.aload_n 0, 1) := by decide +kernel
theorem dX8_addWord_61 : decode cX8_addWord 61 = .ok (.getfield 10, 3) := by decide +kernel
theorem dX8_addWord_64 : decode cX8_addWord 64 = .ok (.invokevirtual 115, 3) := by decide +kernel
theorem dX8_addWord_67 : decode cX8_addWord 67 = .ok (.iload_n 1, 1) := by decide +kernel
theorem dX8_addWord_68 : decode cX8_addWord 68 = .ok (.invokevirtual 129, 3) := by decide +kernel
theorem dX8_addWord_71 : decode cX8_addWord 71 = .ok (.ireturn, 1) := by decide +kernel
theorem dX8_setWeight_0 : decode cX8_setWeight 0 = .ok (.iload_n 1, 1) := by decide +kernel
theorem dX8_setWeight_1 : decode cX8_setWeight 1 = .ok (.aload_n 0, 1) := by decide +kernel
theorem dX8_setWeight_2 : decode cX8_setWeight 2 = .ok (.getfield 19, 3) := by decide +kernel
theorem dX8_setWeight_5 : decode cX8_setWeight 5 = .ok (.invokevirtual 121, 3) := by decide +kernel
theorem dX8_setWeight_8 : decode cX8_setWeight 8 = .ok (.invokestatic 69, 3) := by decide +kernel
theorem dX8_setWeight_11 : decode cX8_setWeight 11 = .ok (.iload_n 2, 1) := by decide +kernel
theorem dX8_setWeight_12 : decode cX8_setWeight 12 = .ok (.iconst 0, 1) := by decide +kernel
theorem dX8_setWeight_13 : decode cX8_setWeight 13 = .ok (.bipush 99, 2) := by decide +kernel
theorem dX8_setWeight_15 : decode cX8_setWeight 15 = .ok (.invokestatic 107, 3) := by decide +kernel
theorem dX8_setWeight_18 : decode cX8_setWeight 18 = .ok (.aload_n 0, 1) := by decide +kernel
theorem dX8_setWeight_19 : decode cX8_setWeight 19 = .ok (.getfield 19, 3) := by decide +kernel
theorem dX8_setWeight_22 : decode cX8_setWeight 22 = .ok (.iload_n 1, 1) := by decide +kernel
theorem dX8_setWeight_23 : decode cX8_setWeight 23 = .ok (.invokevirtual 133, 3) := by decide +kernel
theorem dX8_setWeight_26 : decode cX8_setWeight 26 = .ok (.istore_n 3, 1) := by decide +kernel
theorem dX8_setWeight_27 : decode cX8_setWeight 27 = .ok (.aload_n 0, 1) := by decide +kernel
theorem dX8_setWeight_28 : decode cX8_setWeight 28 = .ok (.getfield 19, 3) := by decide +kernel
theorem dX8_setWeight_31 : decode cX8_setWeight 31 = .ok (.iload_n 1, 1) := by decide +kernel
theorem dX8_setWeight_32 : decode cX8_setWeight 32 = .ok (.iload_n 2, 1) := by decide +kernel
theorem dX8_setWeight_33 : decode cX8_setWeight 33 = .ok (.invokevirtual 136, 3) := by decide +kernel
theorem dX8_setWeight_36 : decode cX8_setWeight 36 = .ok (.iload_n 3, 1) := by decide +kernel
theorem dX8_setWeight_37 : decode cX8_setWeight 37 = .ok (.ireturn, 1) := by decide +kernel
theorem dX8_wordAt_0 : decode cX8_wordAt 0 = .ok (.iload_n 1, 1) := by decide +kernel
theorem dX8_wordAt_1 : decode cX8_wordAt 1 = .ok (.aload_n 0, 1) := by decide +kernel
theorem dX8_wordAt_2 : decode cX8_wordAt 2 = .ok (.getfield 19, 3) := by decide +kernel
theorem dX8_wordAt_5 : decode cX8_wordAt 5 = .ok (.invokevirtual 121, 3) := by decide +kernel
theorem dX8_wordAt_8 : decode cX8_wordAt 8 = .ok (.invokestatic 139, 3) := by decide +kernel
theorem dX8_wordAt_11 : decode cX8_wordAt 11 = .ok (.ifCond .eq 14, 3) := by decide +kernel
theorem dX8_wordAt_14 : decode cX8_wordAt 14 = .ok (.aload_n 0, 1) := by decide +kernel
theorem dX8_wordAt_15 : decode cX8_wordAt 15 = .ok (.getfield 19, 3) := by decide +kernel
theorem dX8_wordAt_18 : decode cX8_wordAt 18 = .ok (.iload_n 1, 1) := by decide +kernel
theorem dX8_wordAt_19 : decode cX8_wordAt 19 = .ok (.invokevirtual 143, 3) := by decide +kernel
theorem dX8_wordAt_22 : decode cX8_wordAt 22 = .ok (.goto 4, 3) := by decide +kernel
theorem dX8_wordAt_25 : decode cX8_wordAt 25 = .ok (.iconst (-1), 1) := by decide +kernel
theorem dX8_wordAt_26 : decode cX8_wordAt 26 = .ok (.ireturn, 1) := by decide +kernel
theorem dX8_beginning_0 : decode cX8_beginning 0 = .ok (.aload_n 0, 1) := by decide +kernel
theorem dX8_beginning_1 : decode cX8_beginning 1 = .ok (.getfield 19, 3) := by decide +kernel
theorem dX8_beginning_4 : decode cX8_beginning 4 = .ok (.aload_n 0, 1) := by decide +kernel
theorem dX8_beginning_5 : decode cX8_beginning 5 = .ok (.getfield 10, 3) := by decide +kernel
theorem dX8_beginning_8 : decode cX8_beginning 8 = .ok (.invokevirtual 115, 3) := by decide +kernel
theorem dX8_beginning_11 : decode cX8_beginning 11 = .ok (.invokevirtual 118, 3) := by decide +kernel
theorem dX8_beginning_14 : decode cX8_beginning 14 = .ok (.ireturn, 1) := by decide +kernel
theorem dX8_fix_0 : decode cX8_fix 0 = .ok (.iload_n 1, 1) := by decide +kernel
theorem dX8_fix_1 : decode cX8_fix 1 = .ok (.bipush 9, 2) := by decide +kernel
theorem dX8_fix_3 : decode cX8_fix 3 = .ok (.invokestatic 69, 3) := by decide +kernel
theorem dX8_fix_6 : decode cX8_fix 6 = .ok (.iload_n 2, 1) := by decide +kernel
theorem dX8_fix_7 : decode cX8_fix 7 = .ok (.iconst (-1), 1) := by decide +kernel
theorem dX8_fix_8 : decode cX8_fix 8 = .ok (.if_icmp .eq 9, 3) := by decide +kernel
theorem dX8_fix_11 : decode cX8_fix 11 = .ok (.iload_n 2, 1) := by decide +kernel
theorem dX8_fix_12 : decode cX8_fix 12 = .ok (.bipush 9, 2) := by decide +kernel
theorem dX8_fix_14 : decode cX8_fix 14 = .ok (.invokestatic 69, 3) := by decide +kernel
theorem dX8_fix_17 : decode cX8_fix 17 = .ok (.aload_n 0, 1) := by decide +kernel
theorem dX8_fix_18 : decode cX8_fix 18 = .ok (.getfield 26, 3) := by decide +kernel
theorem dX8_fix_21 : decode cX8_fix 21 = .ok (.iload_n 1, 1) := by decide +kernel
theorem dX8_fix_22 : decode cX8_fix 22 = .ok (.invokevirtual 146, 3) := by decide +kernel
theorem dX8_fix_25 : decode cX8_fix 25 = .ok (.istore_n 3, 1) := by decide +kernel
theorem dX8_fix_26 : decode cX8_fix 26 = .ok (.aload_n 0, 1) := by decide +kernel
theorem dX8_fix_27 : decode cX8_fix 27 = .ok (.getfield 26, 3) := by decide +kernel
theorem dX8_fix_30 : decode cX8_fix 30 = .ok (.iload_n 1, 1) := by decide +kernel
theorem dX8_fix_31 : decode cX8_fix 31 = .ok (.iload_n 2, 1) := by decide +kernel
theorem dX8_fix_32 : decode cX8_fix 32 = .ok (.invokevirtual 149, 3) := by decide +kernel
theorem dX8_fix_35 : decode cX8_fix 35 = .ok (.iload_n 3, 1) := by decide +kernel
theorem dX8_fix_36 : decode cX8_fix 36 = .ok (.ireturn, 1) := by decide +kernel
theorem dX8_fillWeight_0 : decode cX8_fillWeight 0 = .ok (.aload_n 0, 1) := by decide +kernel
theorem dX8_fillWeight_1 : decode cX8_fillWeight 1 = .ok (.getfield 26, 3) := by decide +kernel
theorem dX8_fillWeight_4 : decode cX8_fillWeight 4 = .ok (.aload_n 0, 1) := by decide +kernel
theorem dX8_fillWeight_5 : decode cX8_fillWeight 5 = .ok (.getfield 19, 3) := by decide +kernel
theorem dX8_fillWeight_8 : decode cX8_fillWeight 8 = .ok (.invokevirtual 152, 3) := by decide +kernel
theorem dX8_fillWeight_11 : decode cX8_fillWeight 11 = .ok (.aload_n 0, 1) := by decide +kernel
theorem dX8_fillWeight_12 : decode cX8_fillWeight 12 = .ok (.getfield 26, 3) := by decide +kernel
theorem dX8_fillWeight_15 : decode cX8_fillWeight 15 = .ok (.invokevirtual 156, 3) := by decide +kernel
theorem dX8_fillWeight_18 : decode cX8_fillWeight 18 = .ok (.ireturn, 1) := by decide +kernel
theorem dX8_fillWeightByAll_0 : decode cX8_fillWeightByAll 0 = .ok (.aload_n 0, 1) := by decide +kernel
theorem dX8_fillWeightByAll_1 : decode cX8_fillWeightByAll 1 = .ok (.getfield 26, 3) := by decide +kernel
theorem dX8_fillWeightByAll_4 : decode cX8_fillWeightByAll 4 = .ok (.aload_n 0, 1) := by decide +kernel
theorem dX8_fillWeightByAll_5 : decode cX8_fillWeightByAll 5 = .ok (.getfield 19, 3) := by decide +kernel
theorem dX8_fillWeightByAll_8 : decode cX8_fillWeightByAll 8 = .ok (.invokevirtual 159, 3) := by decide +kernel
theorem dX8_fillWeightByAll_11 : decode cX8_fillWeightByAll 11 = .ok (.ireturn, 1) := by decide +kernel
theorem dX8_fills_0 : decode cX8_fills 0 = .ok (.aload_n 0, 1) := by decide +kernel
theorem dX8_fills_1 : decode cX8_fills 1 = .ok (.getfield 26, 3) := by decide +kernel
theorem dX8_fills_4 : decode cX8_fills 4 = .ok (.aload_n 0, 1) := by decide +kernel
theorem dX8_fills_5 : decode cX8_fills 5 = .ok (.getfield 19, 3) := by decide +kernel
theorem dX8_fills_8 : decode cX8_fills 8 = .ok (.invokevirtual 152, 3) := by decide +kernel
theorem dX8_fills_11 : decode cX8_fills 11 = .ok (.aload_n 0, 1) := by decide +kernel
theorem dX8_fills_12 : decode cX8_fills 12 = .ok (.getfield 26, 3) := by decide +kernel
theorem dX8_fills_15 : decode cX8_fills 15 = .ok (.invokevirtual 163, 3) := by decide +kernel
theorem dX8_fills_18 : decode cX8_fills 18 = .ok (.ireturn, 1) := by decide +kernel
theorem dX8_fillAt_0 : decode cX8_fillAt 0 = .ok (.iload_n 1, 1) := by decide +kernel
theorem dX8_fillAt_1 : decode cX8_fillAt 1 = .ok (.bipush 9, 2) := by decide +kernel
theorem dX8_fillAt_3 : decode cX8_fillAt 3 = .ok (.invokestatic 69, 3) := by decide +kernel
theorem dX8_fillAt_6 : decode cX8_fillAt 6 = .ok (.aload_n 0, 1) := by decide +kernel
theorem dX8_fillAt_7 : decode cX8_fillAt 7 = .ok (.getfield 26, 3) := by decide +kernel
theorem dX8_fillAt_10 : decode cX8_fillAt 10 = .ok (.aload_n 0, 1) := by decide +kernel
theorem dX8_fillAt_11 : decode cX8_fillAt 11 = .ok (.getfield 19, 3) := by decide +kernel
theorem dX8_fillAt_14 : decode cX8_fillAt 14 = .ok (.invokevirtual 152, 3) := by decide +kernel
theorem dX8_fillAt_17 : decode cX8_fillAt 17 = .ok (.aload_n 0, 1) := by decide +kernel
theorem dX8_fillAt_18 : decode cX8_fillAt 18 = .ok (.getfield 26, 3) := by decide +kernel
theorem dX8_fillAt_21 : decode cX8_fillAt 21 = .ok (.invokevirtual 156, 3) := by decide +kernel
theorem dX8_fillAt_24 : decode cX8_fillAt 24 = .ok (.iconst (-1), 1) := by decide +kernel
theorem dX8_fillAt_25 : decode cX8_fillAt 25 = .ok (.if_icmp .ne 13, 3) := by decide +kernel
theorem dX8_fillAt_28 : decode cX8_fillAt 28 = .ok (.new 100, 3) := by decide +kernel
theorem dX8_fillAt_31 : decode cX8_fillAt 31 = .ok (.dup, 1) := by decide +kernel
theorem dX8_fillAt_32 : decode cX8_fillAt 32 = .ok (.ldc 166, 2) := by decide +kernel
theorem dX8_fillAt_34 : decode cX8_fillAt 34 = .ok (.invokespecial 104, 3) := by decide +kernel
theorem dX8_fillAt_37 : decode cX8_fillAt 37 = .ok (.athrow, 1) := by decide +kernel
theorem dX8_fillAt_38 : decode cX8_fillAt 38 = .ok (.aload_n 0, 1) := by decide +kernel
theorem dX8_fillAt_39 : decode cX8_fillAt 39 = .ok (.getfield 26, 3) := by decide +kernel
theorem dX8_fillAt_42 : decode cX8_fillAt 42 = .ok (.aload_n 0, 1) := by decide +kernel
theorem dX8_fillAt_43 : decode cX8_fillAt 43 = .ok (.getfield 19, 3) := by decide +kernel
theorem dX8_fillAt_46 : decode cX8_fillAt 46 = .ok (.iload_n 1, 1) := by decide +kernel
theorem dX8_fillAt_47 : decode cX8_fillAt 47 = .ok (.invokevirtual 168, 3) := by decide +kernel
theorem dX8_fillAt_50 : decode cX8_fillAt 50 = .ok (.ireturn, 1) := by decide +kernel
theorem dX8_clue_0 : decode cX8_clue 0 = .ok (.iload_n 1, 1) := by decide +kernel
theorem dX8_clue_1 : decode cX8_clue 1 = .ok (.aload_n 0, 1) := by decide +kernel
theorem dX8_clue_2 : decode cX8_clue 2 = .ok (.getfield 19, 3) := by decide +kernel
theorem dX8_clue_5 : decode cX8_clue 5 = .ok (.invokevirtual 121, 3) := by decide +kernel
theorem dX8_clue_8 : decode cX8_clue 8 = .ok (.invokestatic 69, 3) := by decide +kernel
theorem dX8_clue_11 : decode cX8_clue 11 = .ok (.aload_n 0, 1) := by decide +kernel
theorem dX8_clue_12 : decode cX8_clue 12 = .ok (.getfield 33, 3) := by decide +kernel
theorem dX8_clue_15 : decode cX8_clue 15 = .ok (.invokevirtual 172, 3) := by decide +kernel
theorem dX8_clue_18 : decode cX8_clue 18 = .ok (.bipush 60, 2) := by decide +kernel
theorem dX8_clue_20 : decode cX8_clue 20 = .ok (.if_icmp .lt 13, 3) := by decide +kernel
theorem dX8_clue_23 : decode cX8_clue 23 = .ok (.new 124, 3) := by decide +kernel
theorem dX8_clue_26 : decode cX8_clue 26 = .ok (.dup, 1) := by decide +kernel
theorem dX8_clue_27 : decode cX8_clue 27 = .ok (.ldc 173, 2) := by decide +kernel
theorem dX8_clue_29 : decode cX8_clue 29 = .ok (.invokespecial 128, 3) := by decide +kernel
theorem dX8_clue_32 : decode cX8_clue 32 = .ok (.athrow, 1) := by decide +kernel
theorem dX8_clue_33 : decode cX8_clue 33 = .ok (.aload_n 0, 1) := by decide +kernel
theorem dX8_clue_34 : decode cX8_clue 34 = .ok (.getfield 33, 3) := by decide +kernel
theorem dX8_clue_37 : decode cX8_clue 37 = .ok (.iload_n 1, 1) := by decide +kernel
theorem dX8_clue_38 : decode cX8_clue 38 = .ok (.invokevirtual 175, 3) := by decide +kernel
theorem dX8_clue_41 : decode cX8_clue 41 = .ok (.ireturn, 1) := by decide +kernel
theorem dX8_edit_0 : decode cX8_edit 0 = .ok (.iload_n 1, 1) := by decide +kernel
theorem dX8_edit_1 : decode cX8_edit 1 = .ok (.aload_n 0, 1) := by decide +kernel
theorem dX8_edit_2 : decode cX8_edit 2 = .ok (.getfield 33, 3) := by decide +kernel
theorem dX8_edit_5 : decode cX8_edit 5 = .ok (.invokevirtual 172, 3) := by decide +kernel
theorem dX8_edit_8 : decode cX8_edit 8 = .ok (.invokestatic 69, 3) := by decide +kernel
theorem dX8_edit_11 : decode cX8_edit 11 = .ok (.aload_n 0, 1) := by decide +kernel
theorem dX8_edit_12 : decode cX8_edit 12 = .ok (.getfield 33, 3) := by decide +kernel
theorem dX8_edit_15 : decode cX8_edit 15 = .ok (.iload_n 1, 1) := by decide +kernel
theorem dX8_edit_16 : decode cX8_edit 16 = .ok (.invokevirtual 177, 3) := by decide +kernel
theorem dX8_edit_19 : decode cX8_edit 19 = .ok (.ifCond .eq 13, 3) := by decide +kernel
theorem dX8_edit_22 : decode cX8_edit 22 = .ok (.new 124, 3) := by decide +kernel
theorem dX8_edit_25 : decode cX8_edit 25 = .ok (.dup, 1) := by decide +kernel
theorem dX8_edit_26 : decode cX8_edit 26 = .ok (.ldc 181, 2) := by decide +kernel
theorem dX8_edit_28 : decode cX8_edit 28 = .ok (.invokespecial 128, 3) := by decide +kernel
theorem dX8_edit_31 : decode cX8_edit 31 = .ok (.athrow, 1) := by decide +kernel
theorem dX8_edit_32 : decode cX8_edit 32 = .ok (.aload_n 0, 1) := by decide +kernel
theorem dX8_edit_33 : decode cX8_edit 33 = .ok (.getfield 33, 3) := by decide +kernel
theorem dX8_edit_36 : decode cX8_edit 36 = .ok (.iload_n 1, 1) := by decide +kernel
theorem dX8_edit_37 : decode cX8_edit 37 = .ok (.iload_n 2, 1) := by decide +kernel
theorem dX8_edit_38 : decode cX8_edit 38 = .ok (.invokevirtual 183, 3) := by decide +kernel
theorem dX8_edit_41 : decode cX8_edit 41 = .ok (.ireturn, 1) := by decide +kernel
theorem dX8_lastUsed_0 : decode cX8_lastUsed 0 = .ok (.iload_n 1, 1) := by decide +kernel
theorem dX8_lastUsed_1 : decode cX8_lastUsed 1 = .ok (.aload_n 0, 1) := by decide +kernel
theorem dX8_lastUsed_2 : decode cX8_lastUsed 2 = .ok (.getfield 33, 3) := by decide +kernel
theorem dX8_lastUsed_5 : decode cX8_lastUsed 5 = .ok (.invokevirtual 172, 3) := by decide +kernel
theorem dX8_lastUsed_8 : decode cX8_lastUsed 8 = .ok (.invokestatic 69, 3) := by decide +kernel
theorem dX8_lastUsed_11 : decode cX8_lastUsed 11 = .ok (.aload_n 0, 1) := by decide +kernel
theorem dX8_lastUsed_12 : decode cX8_lastUsed 12 = .ok (.getfield 33, 3) := by decide +kernel
theorem dX8_lastUsed_15 : decode cX8_lastUsed 15 = .ok (.iload_n 1, 1) := by decide +kernel
theorem dX8_lastUsed_16 : decode cX8_lastUsed 16 = .ok (.invokevirtual 187, 3) := by decide +kernel
theorem dX8_lastUsed_19 : decode cX8_lastUsed 19 = .ok (.ireturn, 1) := by decide +kernel
theorem dX8_pass_0 : decode cX8_pass 0 = .ok (.iload_n 1, 1) := by decide +kernel
theorem dX8_pass_1 : decode cX8_pass 1 = .ok (.iconst 1, 1) := by decide +kernel
theorem dX8_pass_2 : decode cX8_pass 2 = .ok (.sipush 2000, 3) := by decide +kernel
theorem dX8_pass_5 : decode cX8_pass 5 = .ok (.invokestatic 107, 3) := by decide +kernel
theorem dX8_pass_8 : decode cX8_pass 8 = .ok (.aload_n 0, 1) := by decide +kernel
theorem dX8_pass_9 : decode cX8_pass 9 = .ok (.getfield 190, 3) := by decide +kernel
theorem dX8_pass_12 : decode cX8_pass 12 = .ok (.iload_n 1, 1) := by decide +kernel
theorem dX8_pass_13 : decode cX8_pass 13 = .ok (.iadd, 1) := by decide +kernel
theorem dX8_pass_14 : decode cX8_pass 14 = .ok (.sipush 30000, 3) := by decide +kernel
theorem dX8_pass_17 : decode cX8_pass 17 = .ok (.if_icmp .le 13, 3) := by decide +kernel
theorem dX8_pass_20 : decode cX8_pass 20 = .ok (.new 124, 3) := by decide +kernel
theorem dX8_pass_23 : decode cX8_pass 23 = .ok (.dup, 1) := by decide +kernel
theorem dX8_pass_24 : decode cX8_pass 24 = .ok (.ldc 194, 2) := by decide +kernel
theorem dX8_pass_26 : decode cX8_pass 26 = .ok (.invokespecial 128, 3) := by decide +kernel
theorem dX8_pass_29 : decode cX8_pass 29 = .ok (.athrow, 1) := by decide +kernel
theorem dX8_pass_30 : decode cX8_pass 30 = .ok (.aload_n 0, 1) := by decide +kernel
theorem dX8_pass_31 : decode cX8_pass 31 = .ok (.dup, 1) := by decide +kernel
theorem dX8_pass_32 : decode cX8_pass 32 = .ok (.getfield 190, 3) := by decide +kernel
theorem dX8_pass_35 : decode cX8_pass 35 = .ok (.iload_n 1, 1) := by decide +kernel
theorem dX8_pass_36 : decode cX8_pass 36 = .ok (.iadd, 1) := by decide +kernel
theorem dX8_pass_37 : decode cX8_pass 37 = .ok (.putfield 190, 3) := by decide +kernel
theorem dX8_pass_40 : decode cX8_pass 40 = .ok (.aload_n 0, 1) := by decide +kernel
theorem dX8_pass_41 : decode cX8_pass 41 = .ok (.getfield 190, 3) := by decide +kernel
theorem dX8_pass_44 : decode cX8_pass 44 = .ok (.ireturn, 1) := by decide +kernel
theorem dX8_now_0 : decode cX8_now 0 = .ok (.aload_n 0, 1) := by decide +kernel
theorem dX8_now_1 : decode cX8_now 1 = .ok (.getfield 190, 3) := by decide +kernel
theorem dX8_now_4 : decode cX8_now 4 = .ok (.ireturn, 1) := by decide +kernel
theorem dX8_publish_0 : decode cX8_publish 0 = .ok (.aload_n 0, 1) := by decide +kernel
theorem dX8_publish_1 : decode cX8_publish 1 = .ok (.invokevirtual 196, 3) := by decide +kernel
theorem dX8_publish_4 : decode cX8_publish 4 = .ok (.ifCond .eq 10, 3) := by decide +kernel
theorem dX8_publish_7 : decode cX8_publish 7 = .ok (.aload_n 0, 1) := by decide +kernel
theorem dX8_publish_8 : decode cX8_publish 8 = .ok (.invokevirtual 199, 3) := by decide +kernel
theorem dX8_publish_11 : decode cX8_publish 11 = .ok (.ifCond .ne 13, 3) := by decide +kernel
theorem dX8_publish_14 : decode cX8_publish 14 = .ok (.new 124, 3) := by decide +kernel
theorem dX8_publish_17 : decode cX8_publish 17 = .ok (.dup, 1) := by decide +kernel
theorem dX8_publish_18 : decode cX8_publish 18 = .ok (.ldc 202, 2) := by decide +kernel
theorem dX8_publish_20 : decode cX8_publish 20 = .ok (.invokespecial 128, 3) := by decide +kernel
theorem dX8_publish_23 : decode cX8_publish 23 = .ok (.athrow, 1) := by decide +kernel
theorem dX8_publish_24 : decode cX8_publish 24 = .ok (.aload_n 0, 1) := by decide +kernel
theorem dX8_publish_25 : decode cX8_publish 25 = .ok (.getfield 39, 3) := by decide +kernel
theorem dX8_publish_28 : decode cX8_publish 28 = .ok (.aload_n 0, 1) := by decide +kernel
theorem dX8_publish_29 : decode cX8_publish 29 = .ok (.getfield 204, 3) := by decide +kernel
theorem dX8_publish_32 : decode cX8_publish 32 = .ok (.aaload, 1) := by decide +kernel
theorem dX8_publish_33 : decode cX8_publish 33 = .ok (.astore_n 1, 1) := by decide +kernel
theorem dX8_publish_34 : decode cX8_publish 34 = .ok (.aload_n 1, 1) := by decide +kernel
theorem dX8_publish_35 : decode cX8_publish 35 = .ok (.aload_n 0, 1) := by decide +kernel
theorem dX8_publish_36 : decode cX8_publish 36 = .ok (.getfield 190, 3) := by decide +kernel
theorem dX8_publish_39 : decode cX8_publish 39 = .ok (.invokevirtual 207, 3) := by decide +kernel
theorem dX8_publish_42 : decode cX8_publish 42 = .ok (.iconst 0, 1) := by decide +kernel
theorem dX8_publish_43 : decode cX8_publish 43 = .ok (.istore_n 2, 1) := by decide +kernel
theorem dX8_publish_44 : decode cX8_publish 44 = .ok (.iload_n 2, 1) := by decide +kernel
theorem dX8_publish_45 : decode cX8_publish 45 = .ok (.bipush 9, 2) := by decide +kernel
theorem dX8_publish_47 : decode cX8_publish 47 = .ok (.if_icmp .ge 26, 3) := by decide +kernel
theorem dX8_publish_50 : decode cX8_publish 50 = .ok (.aload_n 1, 1) := by decide +kernel
theorem dX8_publish_51 : decode cX8_publish 51 = .ok (.iload_n 2, 1) := by decide +kernel
theorem dX8_publish_52 : decode cX8_publish 52 = .ok (.aload_n 0, 1) := by decide +kernel
theorem dX8_publish_53 : decode cX8_publish 53 = .ok (.getfield 26, 3) := by decide +kernel
theorem dX8_publish_56 : decode cX8_publish 56 = .ok (.aload_n 0, 1) := by decide +kernel
theorem dX8_publish_57 : decode cX8_publish 57 = .ok (.getfield 19, 3) := by decide +kernel
theorem dX8_publish_60 : decode cX8_publish 60 = .ok (.iload_n 2, 1) := by decide +kernel
theorem dX8_publish_61 : decode cX8_publish 61 = .ok (.invokevirtual 168, 3) := by decide +kernel
theorem dX8_publish_64 : decode cX8_publish 64 = .ok (.invokevirtual 210, 3) := by decide +kernel
theorem dX8_publish_67 : decode cX8_publish 67 = .ok (.iinc 2 1, 3) := by decide +kernel
theorem dX8_publish_70 : decode cX8_publish 70 = .ok (.goto (-26), 3) := by decide +kernel
theorem dX8_publish_73 : decode cX8_publish 73 = .ok (.iconst 0, 1) := by decide +kernel
theorem dX8_publish_74 : decode cX8_publish 74 = .ok (.istore_n 2, 1) := by decide +kernel
theorem dX8_publish_75 : decode cX8_publish 75 = .ok (.iload_n 2, 1) := by decide +kernel
theorem dX8_publish_76 : decode cX8_publish 76 = .ok (.bipush 6, 2) := by decide +kernel
theorem dX8_publish_78 : decode cX8_publish 78 = .ok (.if_icmp .ge 22, 3) := by decide +kernel
theorem dX8_publish_81 : decode cX8_publish 81 = .ok (.aload_n 1, 1) := by decide +kernel
theorem dX8_publish_82 : decode cX8_publish 82 = .ok (.iload_n 2, 1) := by decide +kernel
theorem dX8_publish_83 : decode cX8_publish 83 = .ok (.aload_n 0, 1) := by decide +kernel
theorem dX8_publish_84 : decode cX8_publish 84 = .ok (.getfield 33, 3) := by decide +kernel
theorem dX8_publish_87 : decode cX8_publish 87 = .ok (.iload_n 2, 1) := by decide +kernel
theorem dX8_publish_88 : decode cX8_publish 88 = .ok (.invokevirtual 213, 3) := by decide +kernel
theorem dX8_publish_91 : decode cX8_publish 91 = .ok (.invokevirtual 216, 3) := by decide +kernel
theorem dX8_publish_94 : decode cX8_publish 94 = .ok (.iinc 2 1, 3) := by decide +kernel
theorem dX8_publish_97 : decode cX8_publish 97 = .ok (.goto (-22), 3) := by decide +kernel
theorem dX8_publish_100 : decode cX8_publish 100 = .ok (.aload_n 0, 1) := by decide +kernel
theorem dX8_publish_101 : decode cX8_publish 101 = .ok (.getfield 33, 3) := by decide +kernel
theorem dX8_publish_104 : decode cX8_publish 104 = .ok (.aload_n 0, 1) := by decide +kernel
theorem dX8_publish_105 : decode cX8_publish 105 = .ok (.invokevirtual 219, 3) := by decide +kernel
theorem dX8_publish_108 : decode cX8_publish 108 = .ok (.invokevirtual 222, 3) := by decide +kernel
theorem dX8_publish_111 : decode cX8_publish 111 = .ok (.aload_n 0, 1) := by decide +kernel
theorem dX8_publish_112 : decode cX8_publish 112 = .ok (.dup, 1) := by decide +kernel
theorem dX8_publish_113 : decode cX8_publish 113 = .ok (.getfield 204, 3) := by decide +kernel
theorem dX8_publish_116 : decode cX8_publish 116 = .ok (.iconst 1, 1) := by decide +kernel
theorem dX8_publish_117 : decode cX8_publish 117 = .ok (.iadd, 1) := by decide +kernel
theorem dX8_publish_118 : decode cX8_publish 118 = .ok (.putfield 204, 3) := by decide +kernel
theorem dX8_publish_121 : decode cX8_publish 121 = .ok (.aload_n 0, 1) := by decide +kernel
theorem dX8_publish_122 : decode cX8_publish 122 = .ok (.getfield 204, 3) := by decide +kernel
theorem dX8_publish_125 : decode cX8_publish 125 = .ok (.iconst 1, 1) := by decide +kernel
theorem dX8_publish_126 : decode cX8_publish 126 = .ok (.isub, 1) := by decide +kernel
theorem dX8_publish_127 : decode cX8_publish 127 = .ok (.ireturn, 1) := by decide +kernel
theorem dX8_clueOf_0 : decode cX8_clueOf 0 = .ok (.iload_n 1, 1) := by decide +kernel
theorem dX8_clueOf_1 : decode cX8_clueOf 1 = .ok (.aload_n 0, 1) := by decide +kernel
theorem dX8_clueOf_2 : decode cX8_clueOf 2 = .ok (.getfield 204, 3) := by decide +kernel
theorem dX8_clueOf_5 : decode cX8_clueOf 5 = .ok (.invokestatic 69, 3) := by decide +kernel
theorem dX8_clueOf_8 : decode cX8_clueOf 8 = .ok (.iload_n 2, 1) := by decide +kernel
theorem dX8_clueOf_9 : decode cX8_clueOf 9 = .ok (.bipush 6, 2) := by decide +kernel
theorem dX8_clueOf_11 : decode cX8_clueOf 11 = .ok (.invokestatic 69, 3) := by decide +kernel
theorem dX8_clueOf_14 : decode cX8_clueOf 14 = .ok (.aload_n 0, 1) := by decide +kernel
theorem dX8_clueOf_15 : decode cX8_clueOf 15 = .ok (.getfield 39, 3) := by decide +kernel
theorem dX8_clueOf_18 : decode cX8_clueOf 18 = .ok (.iload_n 1, 1) := by decide +kernel
theorem dX8_clueOf_19 : decode cX8_clueOf 19 = .ok (.aaload, 1) := by decide +kernel
theorem dX8_clueOf_20 : decode cX8_clueOf 20 = .ok (.iload_n 2, 1) := by decide +kernel
theorem dX8_clueOf_21 : decode cX8_clueOf 21 = .ok (.invokevirtual 225, 3) := by decide +kernel
theorem dX8_clueOf_24 : decode cX8_clueOf 24 = .ok (.ireturn, 1) := by decide +kernel
theorem dX8_addSolver_0 : decode cX8_addSolver 0 = .ok (.iload_n 1, 1) := by decide +kernel
theorem dX8_addSolver_1 : decode cX8_addSolver 1 = .ok (.bipush (-12), 2) := by decide +kernel
theorem dX8_addSolver_3 : decode cX8_addSolver 3 = .ok (.bipush 14, 2) := by decide +kernel
theorem dX8_addSolver_5 : decode cX8_addSolver 5 = .ok (.invokestatic 107, 3) := by decide +kernel
theorem dX8_addSolver_8 : decode cX8_addSolver 8 = .ok (.iload_n 2, 1) := by decide +kernel
theorem dX8_addSolver_9 : decode cX8_addSolver 9 = .ok (.iconst 0, 1) := by decide +kernel
theorem dX8_addSolver_10 : decode cX8_addSolver 10 = .ok (.sipush 1000, 3) := by decide +kernel
theorem dX8_addSolver_13 : decode cX8_addSolver 13 = .ok (.invokestatic 107, 3) := by decide +kernel
theorem dX8_addSolver_16 : decode cX8_addSolver 16 = .ok (.aload_n 0, 1) := by decide +kernel
theorem dX8_addSolver_17 : decode cX8_addSolver 17 = .ok (.getfield 228, 3) := by decide +kernel
theorem dX8_addSolver_20 : decode cX8_addSolver 20 = .ok (.bipush 6, 2) := by decide +kernel
theorem dX8_addSolver_22 : decode cX8_addSolver 22 = .ok (.if_icmp .lt 13, 3) := by decide +kernel
theorem dX8_addSolver_25 : decode cX8_addSolver 25 = .ok (.new 124, 3) := by decide +kernel
theorem dX8_addSolver_28 : decode cX8_addSolver 28 = .ok (.dup, 1) := by decide +kernel
theorem dX8_addSolver_29 : decode cX8_addSolver 29 = .ok (.ldc 231, 2) := by decide +kernel
theorem dX8_addSolver_31 : decode cX8_addSolver 31 = .ok (.invokespecial 128, 3) := by decide +kernel
theorem dX8_addSolver_34 : decode cX8_addSolver 34 = .ok (.athrow, 1) := by decide +kernel
theorem dX8_addSolver_35 : decode cX8_addSolver 35 = .ok (.aload_n 0, 1) := by decide +kernel
theorem dX8_addSolver_36 : decode cX8_addSolver 36 = .ok (.getfield 45, 3) := by decide +kernel
theorem dX8_addSolver_39 : decode cX8_addSolver 39 = .ok (.aload_n 0, 1) := by decide +kernel
theorem dX8_addSolver_40 : decode cX8_addSolver 40 = .ok (.getfield 228, 3) := by decide +kernel
theorem dX8_addSolver_43 : decode cX8_addSolver 43 = .ok (.aaload, 1) := by decide +kernel
theorem dX8_addSolver_44 : decode cX8_addSolver 44 = .ok (.iload_n 1, 1) := by decide +kernel
theorem dX8_addSolver_45 : decode cX8_addSolver 45 = .ok (.iload_n 2, 1) := by decide +kernel
theorem dX8_addSolver_46 : decode cX8_addSolver 46 = .ok (.invokevirtual 233, 3) := by decide +kernel
theorem dX8_addSolver_49 : decode cX8_addSolver 49 = .ok (.aload_n 0, 1) := by decide +kernel
theorem dX8_addSolver_50 : decode cX8_addSolver 50 = .ok (.dup, 1) := by decide +kernel
theorem dX8_addSolver_51 : decode cX8_addSolver 51 = .ok (.getfield 228, 3) := by decide +kernel
theorem dX8_addSolver_54 : decode cX8_addSolver 54 = .ok (.iconst 1, 1) := by decide +kernel
theorem dX8_addSolver_55 : decode cX8_addSolver 55 = .ok (.iadd, 1) := by decide +kernel
theorem dX8_addSolver_56 : decode cX8_addSolver 56 = .ok (.putfield 228, 3) := by decide +kernel
theorem dX8_addSolver_59 : decode cX8_addSolver 59 = .ok (.aload_n 0, 1) := by decide +kernel
theorem dX8_addSolver_60 : decode cX8_addSolver 60 = .ok (.getfield 228, 3) := by decide +kernel
theorem dX8_addSolver_63 : decode cX8_addSolver 63 = .ok (.iconst 1, 1) := by decide +kernel
theorem dX8_addSolver_64 : decode cX8_addSolver 64 = .ok (.isub, 1) := by decide +kernel
theorem dX8_addSolver_65 : decode cX8_addSolver 65 = .ok (.ireturn, 1) := by decide +kernel
theorem dX8_enter_0 : decode cX8_enter 0 = .ok (.aload_n 0, 1) := by decide +kernel
theorem dX8_enter_1 : decode cX8_enter 1 = .ok (.iload_n 1, 1) := by decide +kernel
theorem dX8_enter_2 : decode cX8_enter 2 = .ok (.iload_n 2, 1) := by decide +kernel
theorem dX8_enter_3 : decode cX8_enter 3 = .ok (.iload_n 3, 1) := by decide +kernel
theorem dX8_enter_4 : decode cX8_enter 4 = .ok (.invokevirtual 236, 3) := by decide +kernel
theorem dX8_enter_7 : decode cX8_enter 7 = .ok (.iload 4, 2) := by decide +kernel
theorem dX8_enter_9 : decode cX8_enter 9 = .ok (.bipush 9, 2) := by decide +kernel
theorem dX8_enter_11 : decode cX8_enter 11 = .ok (.invokestatic 69, 3) := by decide +kernel
theorem dX8_enter_14 : decode cX8_enter 14 = .ok (.aload_n 0, 1) := by decide +kernel
theorem dX8_enter_15 : decode cX8_enter 15 = .ok (.iload_n 1, 1) := by decide +kernel
theorem dX8_enter_16 : decode cX8_enter 16 = .ok (.iload_n 2, 1) := by decide +kernel
theorem dX8_enter_17 : decode cX8_enter 17 = .ok (.iload_n 3, 1) := by decide +kernel
theorem dX8_enter_18 : decode cX8_enter 18 = .ok (.invokevirtual 239, 3) := by decide +kernel
theorem dX8_enter_21 : decode cX8_enter 21 = .ok (.aload_n 0, 1) := by decide +kernel
theorem dX8_enter_22 : decode cX8_enter 22 = .ok (.getfield 39, 3) := by decide +kernel
theorem dX8_enter_25 : decode cX8_enter 25 = .ok (.iload_n 2, 1) := by decide +kernel
theorem dX8_enter_26 : decode cX8_enter 26 = .ok (.aaload, 1) := by decide +kernel
theorem dX8_enter_27 : decode cX8_enter 27 = .ok (.iload_n 3, 1) := by decide +kernel
theorem dX8_enter_28 : decode cX8_enter 28 = .ok (.invokevirtual 242, 3) := by decide +kernel
theorem dX8_enter_31 : decode cX8_enter 31 = .ok (.iload 4, 2) := by decide +kernel
theorem dX8_enter_33 : decode cX8_enter 33 = .ok (.if_icmp .ne 7, 3) := by decide +kernel
theorem dX8_enter_36 : decode cX8_enter 36 = .ok (.iconst 1, 1) := by decide +kernel
theorem dX8_enter_37 : decode cX8_enter 37 = .ok (.goto 4, 3) := by decide +kernel
theorem dX8_enter_40 : decode cX8_enter 40 = .ok (.iconst 0, 1) := by decide +kernel
theorem dX8_enter_41 : decode cX8_enter 41 = .ok (.istore 5, 2) := by decide +kernel
theorem dX8_enter_43 : decode cX8_enter 43 = .ok (.iload 5, 2) := by decide +kernel
theorem dX8_enter_45 : decode cX8_enter 45 = .ok (.ifCond .eq 10, 3) := by decide +kernel
theorem dX8_enter_48 : decode cX8_enter 48 = .ok (.aload_n 0, 1) := by decide +kernel
theorem dX8_enter_49 : decode cX8_enter 49 = .ok (.iload_n 1, 1) := by decide +kernel
theorem dX8_enter_50 : decode cX8_enter 50 = .ok (.iload_n 2, 1) := by decide +kernel
theorem dX8_enter_51 : decode cX8_enter 51 = .ok (.iload_n 3, 1) := by decide +kernel
theorem dX8_enter_52 : decode cX8_enter 52 = .ok (.invokevirtual 245, 3) := by decide +kernel
theorem dX8_enter_55 : decode cX8_enter 55 = .ok (.iload 5, 2) := by decide +kernel
theorem dX8_enter_57 : decode cX8_enter 57 = .ok (.ireturn, 1) := by decide +kernel
theorem dX8_help_0 : decode cX8_help 0 = .ok (.aload_n 0, 1) := by decide +kernel
theorem dX8_help_1 : decode cX8_help 1 = .ok (.iload_n 1, 1) := by decide +kernel
theorem dX8_help_2 : decode cX8_help 2 = .ok (.iload_n 2, 1) := by decide +kernel
theorem dX8_help_3 : decode cX8_help 3 = .ok (.iload_n 3, 1) := by decide +kernel
theorem dX8_help_4 : decode cX8_help 4 = .ok (.invokevirtual 236, 3) := by decide +kernel
theorem dX8_help_7 : decode cX8_help 7 = .ok (.aload_n 0, 1) := by decide +kernel
theorem dX8_help_8 : decode cX8_help 8 = .ok (.iload_n 1, 1) := by decide +kernel
theorem dX8_help_9 : decode cX8_help 9 = .ok (.iload_n 2, 1) := by decide +kernel
theorem dX8_help_10 : decode cX8_help 10 = .ok (.iload_n 3, 1) := by decide +kernel
theorem dX8_help_11 : decode cX8_help 11 = .ok (.invokevirtual 239, 3) := by decide +kernel
theorem dX8_help_14 : decode cX8_help 14 = .ok (.aload_n 0, 1) := by decide +kernel
theorem dX8_help_15 : decode cX8_help 15 = .ok (.getfield 45, 3) := by decide +kernel
theorem dX8_help_18 : decode cX8_help 18 = .ok (.iload_n 1, 1) := by decide +kernel
theorem dX8_help_19 : decode cX8_help 19 = .ok (.aaload, 1) := by decide +kernel
theorem dX8_help_20 : decode cX8_help 20 = .ok (.iload_n 2, 1) := by decide +kernel
theorem dX8_help_21 : decode cX8_help 21 = .ok (.invokevirtual 248, 3) := by decide +kernel
theorem dX8_help_24 : decode cX8_help 24 = .ok (.ifCond .ne 13, 3) := by decide +kernel
theorem dX8_help_27 : decode cX8_help 27 = .ok (.new 124, 3) := by decide +kernel
theorem dX8_help_30 : decode cX8_help 30 = .ok (.dup, 1) := by decide +kernel
theorem dX8_help_31 : decode cX8_help 31 = .ok (.ldc 251, 2) := by decide +kernel
theorem dX8_help_33 : decode cX8_help 33 = .ok (.invokespecial 128, 3) := by decide +kernel
theorem dX8_help_36 : decode cX8_help 36 = .ok (.athrow, 1) := by decide +kernel
theorem dX8_help_37 : decode cX8_help 37 = .ok (.aload_n 0, 1) := by decide +kernel
theorem dX8_help_38 : decode cX8_help 38 = .ok (.getfield 45, 3) := by decide +kernel
theorem dX8_help_41 : decode cX8_help 41 = .ok (.iload_n 1, 1) := by decide +kernel
theorem dX8_help_42 : decode cX8_help 42 = .ok (.aaload, 1) := by decide +kernel
theorem dX8_help_43 : decode cX8_help 43 = .ok (.iload_n 2, 1) := by decide +kernel
theorem dX8_help_44 : decode cX8_help 44 = .ok (.iload_n 3, 1) := by decide +kernel
theorem dX8_help_45 : decode cX8_help 45 = .ok (.invokevirtual 253, 3) := by decide +kernel
theorem dX8_help_48 : decode cX8_help 48 = .ok (.aload_n 0, 1) := by decide +kernel
theorem dX8_help_49 : decode cX8_help 49 = .ok (.iload_n 1, 1) := by decide +kernel
theorem dX8_help_50 : decode cX8_help 50 = .ok (.iload_n 2, 1) := by decide +kernel
theorem dX8_help_51 : decode cX8_help 51 = .ok (.iload_n 3, 1) := by decide +kernel
theorem dX8_help_52 : decode cX8_help 52 = .ok (.invokevirtual 245, 3) := by decide +kernel
theorem dX8_help_55 : decode cX8_help 55 = .ok (.aload_n 0, 1) := by decide +kernel
theorem dX8_help_56 : decode cX8_help 56 = .ok (.getfield 39, 3) := by decide +kernel
theorem dX8_help_59 : decode cX8_help 59 = .ok (.iload_n 2, 1) := by decide +kernel
theorem dX8_help_60 : decode cX8_help 60 = .ok (.aaload, 1) := by decide +kernel
theorem dX8_help_61 : decode cX8_help 61 = .ok (.iload_n 3, 1) := by decide +kernel
theorem dX8_help_62 : decode cX8_help 62 = .ok (.invokevirtual 242, 3) := by decide +kernel
theorem dX8_help_65 : decode cX8_help 65 = .ok (.ireturn, 1) := by decide +kernel
theorem dX8_judge_0 : decode cX8_judge 0 = .ok (.iload_n 1, 1) := by decide +kernel
theorem dX8_judge_1 : decode cX8_judge 1 = .ok (.aload_n 0, 1) := by decide +kernel
theorem dX8_judge_2 : decode cX8_judge 2 = .ok (.getfield 204, 3) := by decide +kernel
theorem dX8_judge_5 : decode cX8_judge 5 = .ok (.invokestatic 69, 3) := by decide +kernel
theorem dX8_judge_8 : decode cX8_judge 8 = .ok (.iload_n 2, 1) := by decide +kernel
theorem dX8_judge_9 : decode cX8_judge 9 = .ok (.bipush 6, 2) := by decide +kernel
theorem dX8_judge_11 : decode cX8_judge 11 = .ok (.invokestatic 69, 3) := by decide +kernel
theorem dX8_judge_14 : decode cX8_judge 14 = .ok (.aload_n 0, 1) := by decide +kernel
theorem dX8_judge_15 : decode cX8_judge 15 = .ok (.getfield 39, 3) := by decide +kernel
theorem dX8_judge_18 : decode cX8_judge 18 = .ok (.iload_n 1, 1) := by decide +kernel
theorem dX8_judge_19 : decode cX8_judge 19 = .ok (.aaload, 1) := by decide +kernel
theorem dX8_judge_20 : decode cX8_judge 20 = .ok (.iload_n 2, 1) := by decide +kernel
theorem dX8_judge_21 : decode cX8_judge 21 = .ok (.invokevirtual 256, 3) := by decide +kernel
theorem dX8_judge_24 : decode cX8_judge 24 = .ok (.ifCond .eq 14, 3) := by decide +kernel
theorem dX8_judge_27 : decode cX8_judge 27 = .ok (.new 124, 3) := by decide +kernel
theorem dX8_judge_30 : decode cX8_judge 30 = .ok (.dup, 1) := by decide +kernel
theorem dX8_judge_31 : decode cX8_judge 31 = .ok (.ldc_w 259, 3) := by decide +kernel
theorem dX8_judge_34 : decode cX8_judge 34 = .ok (.invokespecial 128, 3) := by decide +kernel
theorem dX8_judge_37 : decode cX8_judge 37 = .ok (.athrow, 1) := by decide +kernel
theorem dX8_judge_38 : decode cX8_judge 38 = .ok (.iload_n 2, 1) := by decide +kernel
theorem dX8_judge_39 : decode cX8_judge 39 = .ok (.invokestatic 261, 3) := by decide +kernel
theorem dX8_judge_42 : decode cX8_judge 42 = .ok (.aload_n 0, 1) := by decide +kernel
theorem dX8_judge_43 : decode cX8_judge 43 = .ok (.getfield 39, 3) := by decide +kernel
theorem dX8_judge_46 : decode cX8_judge 46 = .ok (.iload_n 1, 1) := by decide +kernel
theorem dX8_judge_47 : decode cX8_judge 47 = .ok (.aaload, 1) := by decide +kernel
theorem dX8_judge_48 : decode cX8_judge 48 = .ok (.invokevirtual 264, 3) := by decide +kernel
theorem dX8_judge_51 : decode cX8_judge 51 = .ok (.iconst (-1), 1) := by decide +kernel
theorem dX8_judge_52 : decode cX8_judge 52 = .ok (.ixor, 1) := by decide +kernel
theorem dX8_judge_53 : decode cX8_judge 53 = .ok (.iand, 1) := by decide +kernel
theorem dX8_judge_54 : decode cX8_judge 54 = .ok (.istore_n 3, 1) := by decide +kernel
theorem dX8_judge_55 : decode cX8_judge 55 = .ok (.aload_n 0, 1) := by decide +kernel
theorem dX8_judge_56 : decode cX8_judge 56 = .ok (.getfield 39, 3) := by decide +kernel
theorem dX8_judge_59 : decode cX8_judge 59 = .ok (.iload_n 1, 1) := by decide +kernel
theorem dX8_judge_60 : decode cX8_judge 60 = .ok (.aaload, 1) := by decide +kernel
theorem dX8_judge_61 : decode cX8_judge 61 = .ok (.iload_n 2, 1) := by decide +kernel
theorem dX8_judge_62 : decode cX8_judge 62 = .ok (.invokevirtual 267, 3) := by decide +kernel
theorem dX8_judge_65 : decode cX8_judge 65 = .ok (.aload_n 0, 1) := by decide +kernel
theorem dX8_judge_66 : decode cX8_judge 66 = .ok (.getfield 52, 3) := by decide +kernel
theorem dX8_judge_69 : decode cX8_judge 69 = .ok (.iconst (-1), 1) := by decide +kernel
theorem dX8_judge_70 : decode cX8_judge 70 = .ok (.iload_n 1, 1) := by decide +kernel
theorem dX8_judge_71 : decode cX8_judge 71 = .ok (.iload_n 2, 1) := by decide +kernel
theorem dX8_judge_72 : decode cX8_judge 72 = .ok (.aload_n 0, 1) := by decide +kernel
theorem dX8_judge_73 : decode cX8_judge 73 = .ok (.getfield 190, 3) := by decide +kernel
theorem dX8_judge_76 : decode cX8_judge 76 = .ok (.invokevirtual 270, 3) := by decide +kernel
theorem dX8_judge_79 : decode cX8_judge 79 = .ok (.iconst 0, 1) := by decide +kernel
theorem dX8_judge_80 : decode cX8_judge 80 = .ok (.istore 4, 2) := by decide +kernel
theorem dX8_judge_82 : decode cX8_judge 82 = .ok (.iconst 0, 1) := by decide +kernel
theorem dX8_judge_83 : decode cX8_judge 83 = .ok (.istore 5, 2) := by decide +kernel
theorem dX8_judge_85 : decode cX8_judge 85 = .ok (.iload 5, 2) := by decide +kernel
theorem dX8_judge_87 : decode cX8_judge 87 = .ok (.aload_n 0, 1) := by decide +kernel
theorem dX8_judge_88 : decode cX8_judge 88 = .ok (.getfield 228, 3) := by decide +kernel
theorem dX8_judge_91 : decode cX8_judge 91 = .ok (.if_icmp .ge 50, 3) := by decide +kernel
theorem dX8_judge_94 : decode cX8_judge 94 = .ok (.aload_n 0, 1) := by decide +kernel
theorem dX8_judge_95 : decode cX8_judge 95 = .ok (.iload 5, 2) := by decide +kernel
theorem dX8_judge_97 : decode cX8_judge 97 = .ok (.invokevirtual 273, 3) := by decide +kernel
theorem dX8_judge_100 : decode cX8_judge 100 = .ok (.istore 6, 2) := by decide +kernel
theorem dX8_judge_102 : decode cX8_judge 102 = .ok (.aload_n 0, 1) := by decide +kernel
theorem dX8_judge_103 : decode cX8_judge 103 = .ok (.getfield 45, 3) := by decide +kernel
theorem dX8_judge_106 : decode cX8_judge 106 = .ok (.iload 5, 2) := by decide +kernel
theorem dX8_judge_108 : decode cX8_judge 108 = .ok (.aaload, 1) := by decide +kernel
theorem dX8_judge_109 : decode cX8_judge 109 = .ok (.iload_n 1, 1) := by decide +kernel
theorem dX8_judge_110 : decode cX8_judge 110 = .ok (.iload_n 3, 1) := by decide +kernel
theorem dX8_judge_111 : decode cX8_judge 111 = .ok (.invokevirtual 276, 3) := by decide +kernel
theorem dX8_judge_114 : decode cX8_judge 114 = .ok (.aload_n 0, 1) := by decide +kernel
theorem dX8_judge_115 : decode cX8_judge 115 = .ok (.iload 5, 2) := by decide +kernel
theorem dX8_judge_117 : decode cX8_judge 117 = .ok (.iload_n 1, 1) := by decide +kernel
theorem dX8_judge_118 : decode cX8_judge 118 = .ok (.invokevirtual 279, 3) := by decide +kernel
theorem dX8_judge_121 : decode cX8_judge 121 = .ok (.aload_n 0, 1) := by decide +kernel
theorem dX8_judge_122 : decode cX8_judge 122 = .ok (.iload 5, 2) := by decide +kernel
theorem dX8_judge_124 : decode cX8_judge 124 = .ok (.invokevirtual 273, 3) := by decide +kernel
theorem dX8_judge_127 : decode cX8_judge 127 = .ok (.iload 6, 2) := by decide +kernel
theorem dX8_judge_129 : decode cX8_judge 129 = .ok (.if_icmp .le 6, 3) := by decide +kernel
theorem dX8_judge_132 : decode cX8_judge 132 = .ok (.iinc 4 1, 3) := by decide +kernel
theorem dX8_judge_135 : decode cX8_judge 135 = .ok (.iinc 5 1, 3) := by decide +kernel
theorem dX8_judge_138 : decode cX8_judge 138 = .ok (.goto (-53), 3) := by decide +kernel
theorem dX8_judge_141 : decode cX8_judge 141 = .ok (.iload 4, 2) := by decide +kernel
theorem dX8_judge_143 : decode cX8_judge 143 = .ok (.ireturn, 1) := by decide +kernel
theorem dX8_solvedAt_0 : decode cX8_solvedAt 0 = .ok (.iload_n 1, 1) := by decide +kernel
theorem dX8_solvedAt_1 : decode cX8_solvedAt 1 = .ok (.aload_n 0, 1) := by decide +kernel
theorem dX8_solvedAt_2 : decode cX8_solvedAt 2 = .ok (.getfield 228, 3) := by decide +kernel
theorem dX8_solvedAt_5 : decode cX8_solvedAt 5 = .ok (.invokestatic 69, 3) := by decide +kernel
theorem dX8_solvedAt_8 : decode cX8_solvedAt 8 = .ok (.iload_n 2, 1) := by decide +kernel
theorem dX8_solvedAt_9 : decode cX8_solvedAt 9 = .ok (.aload_n 0, 1) := by decide +kernel
theorem dX8_solvedAt_10 : decode cX8_solvedAt 10 = .ok (.getfield 204, 3) := by decide +kernel
theorem dX8_solvedAt_13 : decode cX8_solvedAt 13 = .ok (.invokestatic 69, 3) := by decide +kernel
theorem dX8_solvedAt_16 : decode cX8_solvedAt 16 = .ok (.aload_n 0, 1) := by decide +kernel
theorem dX8_solvedAt_17 : decode cX8_solvedAt 17 = .ok (.getfield 39, 3) := by decide +kernel
theorem dX8_solvedAt_20 : decode cX8_solvedAt 20 = .ok (.iload_n 2, 1) := by decide +kernel
theorem dX8_solvedAt_21 : decode cX8_solvedAt 21 = .ok (.aaload, 1) := by decide +kernel
theorem dX8_solvedAt_22 : decode cX8_solvedAt 22 = .ok (.astore_n 3, 1) := by decide +kernel
theorem dX8_solvedAt_23 : decode cX8_solvedAt 23 = .ok (.aload_n 0, 1) := by decide +kernel
theorem dX8_solvedAt_24 : decode cX8_solvedAt 24 = .ok (.getfield 45, 3) := by decide +kernel
theorem dX8_solvedAt_27 : decode cX8_solvedAt 27 = .ok (.iload_n 1, 1) := by decide +kernel
theorem dX8_solvedAt_28 : decode cX8_solvedAt 28 = .ok (.aaload, 1) := by decide +kernel
theorem dX8_solvedAt_29 : decode cX8_solvedAt 29 = .ok (.invokevirtual 282, 3) := by decide +kernel
theorem dX8_solvedAt_32 : decode cX8_solvedAt 32 = .ok (.iload_n 2, 1) := by decide +kernel
theorem dX8_solvedAt_33 : decode cX8_solvedAt 33 = .ok (.aload_n 3, 1) := by decide +kernel
theorem dX8_solvedAt_34 : decode cX8_solvedAt 34 = .ok (.invokevirtual 264, 3) := by decide +kernel
theorem dX8_solvedAt_37 : decode cX8_solvedAt 37 = .ok (.aload_n 3, 1) := by decide +kernel
theorem dX8_solvedAt_38 : decode cX8_solvedAt 38 = .ok (.invokevirtual 286, 3) := by decide +kernel
theorem dX8_solvedAt_41 : decode cX8_solvedAt 41 = .ok (.invokevirtual 289, 3) := by decide +kernel
theorem dX8_solvedAt_44 : decode cX8_solvedAt 44 = .ok (.ireturn, 1) := by decide +kernel
theorem dX8_open_0 : decode cX8_open 0 = .ok (.iload_n 1, 1) := by decide +kernel
theorem dX8_open_1 : decode cX8_open 1 = .ok (.aload_n 0, 1) := by decide +kernel
theorem dX8_open_2 : decode cX8_open 2 = .ok (.getfield 204, 3) := by decide +kernel
theorem dX8_open_5 : decode cX8_open 5 = .ok (.invokestatic 69, 3) := by decide +kernel
theorem dX8_open_8 : decode cX8_open 8 = .ok (.aload_n 0, 1) := by decide +kernel
theorem dX8_open_9 : decode cX8_open 9 = .ok (.getfield 39, 3) := by decide +kernel
theorem dX8_open_12 : decode cX8_open 12 = .ok (.iload_n 1, 1) := by decide +kernel
theorem dX8_open_13 : decode cX8_open 13 = .ok (.aaload, 1) := by decide +kernel
theorem dX8_open_14 : decode cX8_open 14 = .ok (.invokevirtual 264, 3) := by decide +kernel
theorem dX8_open_17 : decode cX8_open 17 = .ok (.ireturn, 1) := by decide +kernel
theorem dX8_coins_0 : decode cX8_coins 0 = .ok (.iload_n 1, 1) := by decide +kernel
theorem dX8_coins_1 : decode cX8_coins 1 = .ok (.aload_n 0, 1) := by decide +kernel
theorem dX8_coins_2 : decode cX8_coins 2 = .ok (.getfield 228, 3) := by decide +kernel
theorem dX8_coins_5 : decode cX8_coins 5 = .ok (.invokestatic 69, 3) := by decide +kernel
theorem dX8_coins_8 : decode cX8_coins 8 = .ok (.aload_n 0, 1) := by decide +kernel
theorem dX8_coins_9 : decode cX8_coins 9 = .ok (.getfield 45, 3) := by decide +kernel
theorem dX8_coins_12 : decode cX8_coins 12 = .ok (.iload_n 1, 1) := by decide +kernel
theorem dX8_coins_13 : decode cX8_coins 13 = .ok (.aaload, 1) := by decide +kernel
theorem dX8_coins_14 : decode cX8_coins 14 = .ok (.invokevirtual 293, 3) := by decide +kernel
theorem dX8_coins_17 : decode cX8_coins 17 = .ok (.ireturn, 1) := by decide +kernel
theorem dX8_streak_0 : decode cX8_streak 0 = .ok (.iload_n 1, 1) := by decide +kernel
theorem dX8_streak_1 : decode cX8_streak 1 = .ok (.aload_n 0, 1) := by decide +kernel
theorem dX8_streak_2 : decode cX8_streak 2 = .ok (.getfield 228, 3) := by decide +kernel
theorem dX8_streak_5 : decode cX8_streak 5 = .ok (.invokestatic 69, 3) := by decide +kernel
theorem dX8_streak_8 : decode cX8_streak 8 = .ok (.aload_n 0, 1) := by decide +kernel
theorem dX8_streak_9 : decode cX8_streak 9 = .ok (.iload_n 1, 1) := by decide +kernel
theorem dX8_streak_10 : decode cX8_streak 10 = .ok (.invokevirtual 273, 3) := by decide +kernel
theorem dX8_streak_13 : decode cX8_streak 13 = .ok (.ireturn, 1) := by decide +kernel
theorem dX8_streakAnew_0 : decode cX8_streakAnew 0 = .ok (.iload_n 1, 1) := by decide +kernel
theorem dX8_streakAnew_1 : decode cX8_streakAnew 1 = .ok (.aload_n 0, 1) := by decide +kernel
theorem dX8_streakAnew_2 : decode cX8_streakAnew 2 = .ok (.getfield 228, 3) := by decide +kernel
theorem dX8_streakAnew_5 : decode cX8_streakAnew 5 = .ok (.invokestatic 69, 3) := by decide +kernel
theorem dX8_streakAnew_8 : decode cX8_streakAnew 8 = .ok (.aload_n 0, 1) := by decide +kernel
theorem dX8_streakAnew_9 : decode cX8_streakAnew 9 = .ok (.getfield 59, 3) := by decide +kernel
theorem dX8_streakAnew_12 : decode cX8_streakAnew 12 = .ok (.aload_n 0, 1) := by decide +kernel
theorem dX8_streakAnew_13 : decode cX8_streakAnew 13 = .ok (.getfield 45, 3) := by decide +kernel
theorem dX8_streakAnew_16 : decode cX8_streakAnew 16 = .ok (.iload_n 1, 1) := by decide +kernel
theorem dX8_streakAnew_17 : decode cX8_streakAnew 17 = .ok (.aaload, 1) := by decide +kernel
theorem dX8_streakAnew_18 : decode cX8_streakAnew 18 = .ok (.invokevirtual 282, 3) := by decide +kernel
theorem dX8_streakAnew_21 : decode cX8_streakAnew 21 = .ok (.invokevirtual 296, 3) := by decide +kernel
theorem dX8_streakAnew_24 : decode cX8_streakAnew 24 = .ok (.invokevirtual 299, 3) := by decide +kernel
theorem dX8_streakAnew_27 : decode cX8_streakAnew 27 = .ok (.aload_n 0, 1) := by decide +kernel
theorem dX8_streakAnew_28 : decode cX8_streakAnew 28 = .ok (.getfield 63, 3) := by decide +kernel
theorem dX8_streakAnew_31 : decode cX8_streakAnew 31 = .ok (.iconst 0, 1) := by decide +kernel
theorem dX8_streakAnew_32 : decode cX8_streakAnew 32 = .ok (.invokestatic 302, 3) := by decide +kernel
theorem dX8_streakAnew_35 : decode cX8_streakAnew 35 = .ok (.iconst 0, 1) := by decide +kernel
theorem dX8_streakAnew_36 : decode cX8_streakAnew 36 = .ok (.istore_n 2, 1) := by decide +kernel
theorem dX8_streakAnew_37 : decode cX8_streakAnew 37 = .ok (.iload_n 2, 1) := by decide +kernel
theorem dX8_streakAnew_38 : decode cX8_streakAnew 38 = .ok (.aload_n 0, 1) := by decide +kernel
theorem dX8_streakAnew_39 : decode cX8_streakAnew 39 = .ok (.getfield 52, 3) := by decide +kernel
theorem dX8_streakAnew_42 : decode cX8_streakAnew 42 = .ok (.invokevirtual 308, 3) := by decide +kernel
theorem dX8_streakAnew_45 : decode cX8_streakAnew 45 = .ok (.if_icmp .ge 15, 3) := by decide +kernel
theorem dX8_streakAnew_48 : decode cX8_streakAnew 48 = .ok (.aload_n 0, 1) := by decide +kernel
theorem dX8_streakAnew_49 : decode cX8_streakAnew 49 = .ok (.iload_n 2, 1) := by decide +kernel
theorem dX8_streakAnew_50 : decode cX8_streakAnew 50 = .ok (.iload_n 1, 1) := by decide +kernel
theorem dX8_streakAnew_51 : decode cX8_streakAnew 51 = .ok (.invokevirtual 309, 3) := by decide +kernel
theorem dX8_streakAnew_54 : decode cX8_streakAnew 54 = .ok (.iinc 2 1, 3) := by decide +kernel
theorem dX8_streakAnew_57 : decode cX8_streakAnew 57 = .ok (.goto (-20), 3) := by decide +kernel
theorem dX8_streakAnew_60 : decode cX8_streakAnew 60 = .ok (.aload_n 0, 1) := by decide +kernel
theorem dX8_streakAnew_61 : decode cX8_streakAnew 61 = .ok (.getfield 59, 3) := by decide +kernel
theorem dX8_streakAnew_64 : decode cX8_streakAnew 64 = .ok (.aload_n 0, 1) := by decide +kernel
theorem dX8_streakAnew_65 : decode cX8_streakAnew 65 = .ok (.getfield 190, 3) := by decide +kernel
theorem dX8_streakAnew_68 : decode cX8_streakAnew 68 = .ok (.invokevirtual 312, 3) := by decide +kernel
theorem dX8_streakAnew_71 : decode cX8_streakAnew 71 = .ok (.ireturn, 1) := by decide +kernel
theorem dX8_solverAt_0 : decode cX8_solverAt 0 = .ok (.iconst 0, 1) := by decide +kernel
theorem dX8_solverAt_1 : decode cX8_solverAt 1 = .ok (.istore_n 2, 1) := by decide +kernel
theorem dX8_solverAt_2 : decode cX8_solverAt 2 = .ok (.iload_n 2, 1) := by decide +kernel
theorem dX8_solverAt_3 : decode cX8_solverAt 3 = .ok (.aload_n 0, 1) := by decide +kernel
theorem dX8_solverAt_4 : decode cX8_solverAt 4 = .ok (.getfield 228, 3) := by decide +kernel
theorem dX8_solverAt_7 : decode cX8_solverAt 7 = .ok (.if_icmp .ge 20, 3) := by decide +kernel
theorem dX8_solverAt_10 : decode cX8_solverAt 10 = .ok (.aload_n 0, 1) := by decide +kernel
theorem dX8_solverAt_11 : decode cX8_solverAt 11 = .ok (.iload_n 2, 1) := by decide +kernel
theorem dX8_solverAt_12 : decode cX8_solverAt 12 = .ok (.invokevirtual 315, 3) := by decide +kernel
theorem dX8_solverAt_15 : decode cX8_solverAt 15 = .ok (.iload_n 1, 1) := by decide +kernel
theorem dX8_solverAt_16 : decode cX8_solverAt 16 = .ok (.if_icmp .ne 5, 3) := by decide +kernel
theorem dX8_solverAt_19 : decode cX8_solverAt 19 = .ok (.iload_n 2, 1) := by decide +kernel
theorem dX8_solverAt_20 : decode cX8_solverAt 20 = .ok (.ireturn, 1) := by decide +kernel
theorem dX8_solverAt_21 : decode cX8_solverAt 21 = .ok (.iinc 2 1, 3) := by decide +kernel
theorem dX8_solverAt_24 : decode cX8_solverAt 24 = .ok (.goto (-22), 3) := by decide +kernel
theorem dX8_solverAt_27 : decode cX8_solverAt 27 = .ok (.iconst (-1), 1) := by decide +kernel
theorem dX8_solverAt_28 : decode cX8_solverAt 28 = .ok (.ireturn, 1) := by decide +kernel
theorem dX8_isIndex_0 : decode cX8_isIndex 0 = .ok (.iload_n 0, 1) := by decide +kernel
theorem dX8_isIndex_1 : decode cX8_isIndex 1 = .ok (.ifCond .lt 12, 3) := by decide +kernel
theorem dX8_isIndex_4 : decode cX8_isIndex 4 = .ok (.iload_n 0, 1) := by decide +kernel
theorem dX8_isIndex_5 : decode cX8_isIndex 5 = .ok (.iload_n 1, 1) := by decide +kernel
theorem dX8_isIndex_6 : decode cX8_isIndex 6 = .ok (.if_icmp .ge 7, 3) := by decide +kernel
theorem dX8_isIndex_9 : decode cX8_isIndex 9 = .ok (.iconst 1, 1) := by decide +kernel
theorem dX8_isIndex_10 : decode cX8_isIndex 10 = .ok (.goto 4, 3) := by decide +kernel
theorem dX8_isIndex_13 : decode cX8_isIndex 13 = .ok (.iconst 0, 1) := by decide +kernel
theorem dX8_isIndex_14 : decode cX8_isIndex 14 = .ok (.ireturn, 1) := by decide +kernel
theorem dX8_needIndex_0 : decode cX8_needIndex 0 = .ok (.iload_n 0, 1) := by decide +kernel
theorem dX8_needIndex_1 : decode cX8_needIndex 1 = .ok (.iload_n 1, 1) := by decide +kernel
theorem dX8_needIndex_2 : decode cX8_needIndex 2 = .ok (.invokestatic 139, 3) := by decide +kernel
theorem dX8_needIndex_5 : decode cX8_needIndex 5 = .ok (.ifCond .ne 14, 3) := by decide +kernel
theorem dX8_needIndex_8 : decode cX8_needIndex 8 = .ok (.new 318, 3) := by decide +kernel
theorem dX8_needIndex_11 : decode cX8_needIndex 11 = .ok (.dup, 1) := by decide +kernel
theorem dX8_needIndex_12 : decode cX8_needIndex 12 = .ok (.ldc_w 320, 3) := by decide +kernel
theorem dX8_needIndex_15 : decode cX8_needIndex 15 = .ok (.invokespecial 322, 3) := by decide +kernel
theorem dX8_needIndex_18 : decode cX8_needIndex 18 = .ok (.athrow, 1) := by decide +kernel
theorem dX8_needIndex_19 : decode cX8_needIndex 19 = .ok (.return_, 1) := by decide +kernel
theorem dX8_needRange_0 : decode cX8_needRange 0 = .ok (.iload_n 0, 1) := by decide +kernel
theorem dX8_needRange_1 : decode cX8_needRange 1 = .ok (.iload_n 1, 1) := by decide +kernel
theorem dX8_needRange_2 : decode cX8_needRange 2 = .ok (.if_icmp .lt 8, 3) := by decide +kernel
theorem dX8_needRange_5 : decode cX8_needRange 5 = .ok (.iload_n 0, 1) := by decide +kernel
theorem dX8_needRange_6 : decode cX8_needRange 6 = .ok (.iload_n 2, 1) := by decide +kernel
theorem dX8_needRange_7 : decode cX8_needRange 7 = .ok (.if_icmp .le 14, 3) := by decide +kernel
theorem dX8_needRange_10 : decode cX8_needRange 10 = .ok (.new 323, 3) := by decide +kernel
theorem dX8_needRange_13 : decode cX8_needRange 13 = .ok (.dup, 1) := by decide +kernel
theorem dX8_needRange_14 : decode cX8_needRange 14 = .ok (.ldc_w 325, 3) := by decide +kernel
theorem dX8_needRange_17 : decode cX8_needRange 17 = .ok (.invokespecial 327, 3) := by decide +kernel
theorem dX8_needRange_20 : decode cX8_needRange 20 = .ok (.athrow, 1) := by decide +kernel
theorem dX8_needRange_21 : decode cX8_needRange 21 = .ok (.return_, 1) := by decide +kernel
theorem dX8_needRoomForLetter_0 : decode cX8_needRoomForLetter 0 = .ok (.aload_n 0, 1) := by decide +kernel
theorem dX8_needRoomForLetter_1 : decode cX8_needRoomForLetter 1 = .ok (.getfield 10, 3) := by decide +kernel
theorem dX8_needRoomForLetter_4 : decode cX8_needRoomForLetter 4 = .ok (.invokevirtual 111, 3) := by decide +kernel
theorem dX8_needRoomForLetter_7 : decode cX8_needRoomForLetter 7 = .ok (.ifCond .eq 14, 3) := by decide +kernel
theorem dX8_needRoomForLetter_10 : decode cX8_needRoomForLetter 10 = .ok (.new 124, 3) := by decide +kernel
theorem dX8_needRoomForLetter_13 : decode cX8_needRoomForLetter 13 = .ok (.dup, 1) := by decide +kernel
theorem dX8_needRoomForLetter_14 : decode cX8_needRoomForLetter 14 = .ok (.ldc_w 328, 3) := by decide +kernel
theorem dX8_needRoomForLetter_17 : decode cX8_needRoomForLetter 17 = .ok (.invokespecial 128, 3) := by decide +kernel
theorem dX8_needRoomForLetter_20 : decode cX8_needRoomForLetter 20 = .ok (.athrow, 1) := by decide +kernel
theorem dX8_needRoomForLetter_21 : decode cX8_needRoomForLetter 21 = .ok (.return_, 1) := by decide +kernel
theorem dX8_needCellOf_0 : decode cX8_needCellOf 0 = .ok (.iload_n 1, 1) := by decide +kernel
theorem dX8_needCellOf_1 : decode cX8_needCellOf 1 = .ok (.aload_n 0, 1) := by decide +kernel
theorem dX8_needCellOf_2 : decode cX8_needCellOf 2 = .ok (.getfield 228, 3) := by decide +kernel
theorem dX8_needCellOf_5 : decode cX8_needCellOf 5 = .ok (.invokestatic 69, 3) := by decide +kernel
theorem dX8_needCellOf_8 : decode cX8_needCellOf 8 = .ok (.iload_n 2, 1) := by decide +kernel
theorem dX8_needCellOf_9 : decode cX8_needCellOf 9 = .ok (.aload_n 0, 1) := by decide +kernel
theorem dX8_needCellOf_10 : decode cX8_needCellOf 10 = .ok (.getfield 204, 3) := by decide +kernel
theorem dX8_needCellOf_13 : decode cX8_needCellOf 13 = .ok (.invokestatic 69, 3) := by decide +kernel
theorem dX8_needCellOf_16 : decode cX8_needCellOf 16 = .ok (.iload_n 3, 1) := by decide +kernel
theorem dX8_needCellOf_17 : decode cX8_needCellOf 17 = .ok (.bipush 9, 2) := by decide +kernel
theorem dX8_needCellOf_19 : decode cX8_needCellOf 19 = .ok (.invokestatic 69, 3) := by decide +kernel
theorem dX8_needCellOf_22 : decode cX8_needCellOf 22 = .ok (.return_, 1) := by decide +kernel
theorem dX8_needUnfinished_0 : decode cX8_needUnfinished 0 = .ok (.aload_n 0, 1) := by decide +kernel
theorem dX8_needUnfinished_1 : decode cX8_needUnfinished 1 = .ok (.getfield 45, 3) := by decide +kernel
theorem dX8_needUnfinished_4 : decode cX8_needUnfinished 4 = .ok (.iload_n 1, 1) := by decide +kernel
theorem dX8_needUnfinished_5 : decode cX8_needUnfinished 5 = .ok (.aaload, 1) := by decide +kernel
theorem dX8_needUnfinished_6 : decode cX8_needUnfinished 6 = .ok (.invokevirtual 282, 3) := by decide +kernel
theorem dX8_needUnfinished_9 : decode cX8_needUnfinished 9 = .ok (.iload_n 2, 1) := by decide +kernel
theorem dX8_needUnfinished_10 : decode cX8_needUnfinished 10 = .ok (.iload_n 3, 1) := by decide +kernel
theorem dX8_needUnfinished_11 : decode cX8_needUnfinished 11 = .ok (.invokevirtual 330, 3) := by decide +kernel
theorem dX8_needUnfinished_14 : decode cX8_needUnfinished 14 = .ok (.ifCond .ne 16, 3) := by decide +kernel
theorem dX8_needUnfinished_17 : decode cX8_needUnfinished 17 = .ok (.aload_n 0, 1) := by decide +kernel
theorem dX8_needUnfinished_18 : decode cX8_needUnfinished 18 = .ok (.getfield 39, 3) := by decide +kernel
theorem dX8_needUnfinished_21 : decode cX8_needUnfinished 21 = .ok (.iload_n 2, 1) := by decide +kernel
theorem dX8_needUnfinished_22 : decode cX8_needUnfinished 22 = .ok (.aaload, 1) := by decide +kernel
theorem dX8_needUnfinished_23 : decode cX8_needUnfinished 23 = .ok (.iload_n 3, 1) := by decide +kernel
theorem dX8_needUnfinished_24 : decode cX8_needUnfinished 24 = .ok (.invokevirtual 333, 3) := by decide +kernel
theorem dX8_needUnfinished_27 : decode cX8_needUnfinished 27 = .ok (.ifCond .eq 14, 3) := by decide +kernel
theorem dX8_needUnfinished_30 : decode cX8_needUnfinished 30 = .ok (.new 124, 3) := by decide +kernel
theorem dX8_needUnfinished_33 : decode cX8_needUnfinished 33 = .ok (.dup, 1) := by decide +kernel
theorem dX8_needUnfinished_34 : decode cX8_needUnfinished 34 = .ok (.ldc_w 336, 3) := by decide +kernel
theorem dX8_needUnfinished_37 : decode cX8_needUnfinished 37 = .ok (.invokespecial 128, 3) := by decide +kernel
theorem dX8_needUnfinished_40 : decode cX8_needUnfinished 40 = .ok (.athrow, 1) := by decide +kernel
theorem dX8_needUnfinished_41 : decode cX8_needUnfinished 41 = .ok (.return_, 1) := by decide +kernel
theorem dX8_today_0 : decode cX8_today 0 = .ok (.aload_n 0, 1) := by decide +kernel
theorem dX8_today_1 : decode cX8_today 1 = .ok (.getfield 190, 3) := by decide +kernel
theorem dX8_today_4 : decode cX8_today 4 = .ok (.bipush 24, 2) := by decide +kernel
theorem dX8_today_6 : decode cX8_today 6 = .ok (.idiv, 1) := by decide +kernel
theorem dX8_today_7 : decode cX8_today 7 = .ok (.ireturn, 1) := by decide +kernel
theorem dX8_mayPublishToday_0 : decode cX8_mayPublishToday 0 = .ok (.aload_n 0, 1) := by decide +kernel
theorem dX8_mayPublishToday_1 : decode cX8_mayPublishToday 1 = .ok (.getfield 204, 3) := by decide +kernel
theorem dX8_mayPublishToday_4 : decode cX8_mayPublishToday 4 = .ok (.bipush 20, 2) := by decide +kernel
theorem dX8_mayPublishToday_6 : decode cX8_mayPublishToday 6 = .ok (.if_icmp .lt 5, 3) := by decide +kernel
theorem dX8_mayPublishToday_9 : decode cX8_mayPublishToday 9 = .ok (.iconst 0, 1) := by decide +kernel
theorem dX8_mayPublishToday_10 : decode cX8_mayPublishToday 10 = .ok (.ireturn, 1) := by decide +kernel
theorem dX8_mayPublishToday_11 : decode cX8_mayPublishToday 11 = .ok (.aload_n 0, 1) := by decide +kernel
theorem dX8_mayPublishToday_12 : decode cX8_mayPublishToday 12 = .ok (.getfield 204, 3) := by decide +kernel
theorem dX8_mayPublishToday_15 : decode cX8_mayPublishToday 15 = .ok (.ifCond .eq 27, 3) := by decide +kernel
theorem dX8_mayPublishToday_18 : decode cX8_mayPublishToday 18 = .ok (.aload_n 0, 1) := by decide +kernel
theorem dX8_mayPublishToday_19 : decode cX8_mayPublishToday 19 = .ok (.getfield 39, 3) := by decide +kernel
theorem dX8_mayPublishToday_22 : decode cX8_mayPublishToday 22 = .ok (.aload_n 0, 1) := by decide +kernel
theorem dX8_mayPublishToday_23 : decode cX8_mayPublishToday 23 = .ok (.getfield 204, 3) := by decide +kernel
theorem dX8_mayPublishToday_26 : decode cX8_mayPublishToday 26 = .ok (.iconst 1, 1) := by decide +kernel
theorem dX8_mayPublishToday_27 : decode cX8_mayPublishToday 27 = .ok (.isub, 1) := by decide +kernel
theorem dX8_mayPublishToday_28 : decode cX8_mayPublishToday 28 = .ok (.aaload, 1) := by decide +kernel
theorem dX8_mayPublishToday_29 : decode cX8_mayPublishToday 29 = .ok (.invokevirtual 286, 3) := by decide +kernel
theorem dX8_mayPublishToday_32 : decode cX8_mayPublishToday 32 = .ok (.bipush 24, 2) := by decide +kernel
theorem dX8_mayPublishToday_34 : decode cX8_mayPublishToday 34 = .ok (.idiv, 1) := by decide +kernel
theorem dX8_mayPublishToday_35 : decode cX8_mayPublishToday 35 = .ok (.aload_n 0, 1) := by decide +kernel
theorem dX8_mayPublishToday_36 : decode cX8_mayPublishToday 36 = .ok (.invokevirtual 219, 3) := by decide +kernel
theorem dX8_mayPublishToday_39 : decode cX8_mayPublishToday 39 = .ok (.if_icmp .ge 7, 3) := by decide +kernel
theorem dX8_mayPublishToday_42 : decode cX8_mayPublishToday 42 = .ok (.iconst 1, 1) := by decide +kernel
theorem dX8_mayPublishToday_43 : decode cX8_mayPublishToday 43 = .ok (.goto 4, 3) := by decide +kernel
theorem dX8_mayPublishToday_46 : decode cX8_mayPublishToday 46 = .ok (.iconst 0, 1) := by decide +kernel
theorem dX8_mayPublishToday_47 : decode cX8_mayPublishToday 47 = .ok (.ireturn, 1) := by decide +kernel
theorem dX8_findClues_0 : decode cX8_findClues 0 = .ok (.aload_n 0, 1) := by decide +kernel
theorem dX8_findClues_1 : decode cX8_findClues 1 = .ok (.getfield 26, 3) := by decide +kernel
theorem dX8_findClues_4 : decode cX8_findClues 4 = .ok (.aload_n 0, 1) := by decide +kernel
theorem dX8_findClues_5 : decode cX8_findClues 5 = .ok (.getfield 19, 3) := by decide +kernel
theorem dX8_findClues_8 : decode cX8_findClues 8 = .ok (.invokevirtual 152, 3) := by decide +kernel
theorem dX8_findClues_11 : decode cX8_findClues 11 = .ok (.aload_n 0, 1) := by decide +kernel
theorem dX8_findClues_12 : decode cX8_findClues 12 = .ok (.getfield 26, 3) := by decide +kernel
theorem dX8_findClues_15 : decode cX8_findClues 15 = .ok (.invokevirtual 156, 3) := by decide +kernel
theorem dX8_findClues_18 : decode cX8_findClues 18 = .ok (.iconst (-1), 1) := by decide +kernel
theorem dX8_findClues_19 : decode cX8_findClues 19 = .ok (.if_icmp .ne 5, 3) := by decide +kernel
theorem dX8_findClues_22 : decode cX8_findClues 22 = .ok (.iconst 0, 1) := by decide +kernel
theorem dX8_findClues_23 : decode cX8_findClues 23 = .ok (.ireturn, 1) := by decide +kernel
theorem dX8_findClues_24 : decode cX8_findClues 24 = .ok (.iconst 0, 1) := by decide +kernel
theorem dX8_findClues_25 : decode cX8_findClues 25 = .ok (.istore_n 1, 1) := by decide +kernel
theorem dX8_findClues_26 : decode cX8_findClues 26 = .ok (.iload_n 1, 1) := by decide +kernel
theorem dX8_findClues_27 : decode cX8_findClues 27 = .ok (.bipush 6, 2) := by decide +kernel
theorem dX8_findClues_29 : decode cX8_findClues 29 = .ok (.if_icmp .ge 38, 3) := by decide +kernel
theorem dX8_findClues_32 : decode cX8_findClues 32 = .ok (.aload_n 0, 1) := by decide +kernel
theorem dX8_findClues_33 : decode cX8_findClues 33 = .ok (.getfield 33, 3) := by decide +kernel
theorem dX8_findClues_36 : decode cX8_findClues 36 = .ok (.iload_n 1, 1) := by decide +kernel
theorem dX8_findClues_37 : decode cX8_findClues 37 = .ok (.aload_n 0, 1) := by decide +kernel
theorem dX8_findClues_38 : decode cX8_findClues 38 = .ok (.getfield 26, 3) := by decide +kernel
theorem dX8_findClues_41 : decode cX8_findClues 41 = .ok (.aload_n 0, 1) := by decide +kernel
theorem dX8_findClues_42 : decode cX8_findClues 42 = .ok (.getfield 19, 3) := by decide +kernel
theorem dX8_findClues_45 : decode cX8_findClues 45 = .ok (.iload_n 1, 1) := by decide +kernel
theorem dX8_findClues_46 : decode cX8_findClues 46 = .ok (.invokevirtual 338, 3) := by decide +kernel
theorem dX8_findClues_49 : decode cX8_findClues 49 = .ok (.aload_n 0, 1) := by decide +kernel
theorem dX8_findClues_50 : decode cX8_findClues 50 = .ok (.invokevirtual 219, 3) := by decide +kernel
theorem dX8_findClues_53 : decode cX8_findClues 53 = .ok (.invokevirtual 341, 3) := by decide +kernel
theorem dX8_findClues_56 : decode cX8_findClues 56 = .ok (.ifCond .ne 5, 3) := by decide +kernel
theorem dX8_findClues_59 : decode cX8_findClues 59 = .ok (.iconst 0, 1) := by decide +kernel
theorem dX8_findClues_60 : decode cX8_findClues 60 = .ok (.ireturn, 1) := by decide +kernel
theorem dX8_findClues_61 : decode cX8_findClues 61 = .ok (.iinc 1 1, 3) := by decide +kernel
theorem dX8_findClues_64 : decode cX8_findClues 64 = .ok (.goto (-38), 3) := by decide +kernel
theorem dX8_findClues_67 : decode cX8_findClues 67 = .ok (.iconst 1, 1) := by decide +kernel
theorem dX8_findClues_68 : decode cX8_findClues 68 = .ok (.ireturn, 1) := by decide +kernel
theorem dX8_cellOf_0 : decode cX8_cellOf 0 = .ok (.iload_n 0, 1) := by decide +kernel
theorem dX8_cellOf_1 : decode cX8_cellOf 1 = .ok (.iconst 3, 1) := by decide +kernel
theorem dX8_cellOf_2 : decode cX8_cellOf 2 = .ok (.if_icmp .ge 11, 3) := by decide +kernel
theorem dX8_cellOf_5 : decode cX8_cellOf 5 = .ok (.iload_n 0, 1) := by decide +kernel
theorem dX8_cellOf_6 : decode cX8_cellOf 6 = .ok (.iconst 3, 1) := by decide +kernel
theorem dX8_cellOf_7 : decode cX8_cellOf 7 = .ok (.imul, 1) := by decide +kernel
theorem dX8_cellOf_8 : decode cX8_cellOf 8 = .ok (.iload_n 1, 1) := by decide +kernel
theorem dX8_cellOf_9 : decode cX8_cellOf 9 = .ok (.iadd, 1) := by decide +kernel
theorem dX8_cellOf_10 : decode cX8_cellOf 10 = .ok (.goto 10, 3) := by decide +kernel
theorem dX8_cellOf_13 : decode cX8_cellOf 13 = .ok (.iload_n 1, 1) := by decide +kernel
theorem dX8_cellOf_14 : decode cX8_cellOf 14 = .ok (.iconst 3, 1) := by decide +kernel
theorem dX8_cellOf_15 : decode cX8_cellOf 15 = .ok (.imul, 1) := by decide +kernel
theorem dX8_cellOf_16 : decode cX8_cellOf 16 = .ok (.iload_n 0, 1) := by decide +kernel
theorem dX8_cellOf_17 : decode cX8_cellOf 17 = .ok (.iadd, 1) := by decide +kernel
theorem dX8_cellOf_18 : decode cX8_cellOf 18 = .ok (.iconst 3, 1) := by decide +kernel
theorem dX8_cellOf_19 : decode cX8_cellOf 19 = .ok (.isub, 1) := by decide +kernel
theorem dX8_cellOf_20 : decode cX8_cellOf 20 = .ok (.ireturn, 1) := by decide +kernel
theorem dX8_cellsOf_0 : decode cX8_cellsOf 0 = .ok (.iconst 0, 1) := by decide +kernel
theorem dX8_cellsOf_1 : decode cX8_cellsOf 1 = .ok (.istore_n 1, 1) := by decide +kernel
theorem dX8_cellsOf_2 : decode cX8_cellsOf 2 = .ok (.iconst 0, 1) := by decide +kernel
theorem dX8_cellsOf_3 : decode cX8_cellsOf 3 = .ok (.istore_n 2, 1) := by decide +kernel
theorem dX8_cellsOf_4 : decode cX8_cellsOf 4 = .ok (.iload_n 2, 1) := by decide +kernel
theorem dX8_cellsOf_5 : decode cX8_cellsOf 5 = .ok (.iconst 3, 1) := by decide +kernel
theorem dX8_cellsOf_6 : decode cX8_cellsOf 6 = .ok (.if_icmp .ge 19, 3) := by decide +kernel
theorem dX8_cellsOf_9 : decode cX8_cellsOf 9 = .ok (.iload_n 1, 1) := by decide +kernel
theorem dX8_cellsOf_10 : decode cX8_cellsOf 10 = .ok (.iconst 1, 1) := by decide +kernel
theorem dX8_cellsOf_11 : decode cX8_cellsOf 11 = .ok (.iload_n 0, 1) := by decide +kernel
theorem dX8_cellsOf_12 : decode cX8_cellsOf 12 = .ok (.iload_n 2, 1) := by decide +kernel
theorem dX8_cellsOf_13 : decode cX8_cellsOf 13 = .ok (.invokestatic 345, 3) := by decide +kernel
theorem dX8_cellsOf_16 : decode cX8_cellsOf 16 = .ok (.ishl, 1) := by decide +kernel
theorem dX8_cellsOf_17 : decode cX8_cellsOf 17 = .ok (.ior, 1) := by decide +kernel
theorem dX8_cellsOf_18 : decode cX8_cellsOf 18 = .ok (.istore_n 1, 1) := by decide +kernel
theorem dX8_cellsOf_19 : decode cX8_cellsOf 19 = .ok (.iinc 2 1, 3) := by decide +kernel
theorem dX8_cellsOf_22 : decode cX8_cellsOf 22 = .ok (.goto (-18), 3) := by decide +kernel
theorem dX8_cellsOf_25 : decode cX8_cellsOf 25 = .ok (.iload_n 1, 1) := by decide +kernel
theorem dX8_cellsOf_26 : decode cX8_cellsOf 26 = .ok (.ireturn, 1) := by decide +kernel
theorem dX8_becomeRight_0 : decode cX8_becomeRight 0 = .ok (.aload_n 0, 1) := by decide +kernel
theorem dX8_becomeRight_1 : decode cX8_becomeRight 1 = .ok (.getfield 52, 3) := by decide +kernel
theorem dX8_becomeRight_4 : decode cX8_becomeRight 4 = .ok (.iload_n 1, 1) := by decide +kernel
theorem dX8_becomeRight_5 : decode cX8_becomeRight 5 = .ok (.iload_n 2, 1) := by decide +kernel
theorem dX8_becomeRight_6 : decode cX8_becomeRight 6 = .ok (.iload_n 3, 1) := by decide +kernel
theorem dX8_becomeRight_7 : decode cX8_becomeRight 7 = .ok (.aload_n 0, 1) := by decide +kernel
theorem dX8_becomeRight_8 : decode cX8_becomeRight 8 = .ok (.getfield 190, 3) := by decide +kernel
theorem dX8_becomeRight_11 : decode cX8_becomeRight 11 = .ok (.invokevirtual 270, 3) := by decide +kernel
theorem dX8_becomeRight_14 : decode cX8_becomeRight 14 = .ok (.aload_n 0, 1) := by decide +kernel
theorem dX8_becomeRight_15 : decode cX8_becomeRight 15 = .ok (.getfield 45, 3) := by decide +kernel
theorem dX8_becomeRight_18 : decode cX8_becomeRight 18 = .ok (.iload_n 1, 1) := by decide +kernel
theorem dX8_becomeRight_19 : decode cX8_becomeRight 19 = .ok (.aaload, 1) := by decide +kernel
theorem dX8_becomeRight_20 : decode cX8_becomeRight 20 = .ok (.invokevirtual 282, 3) := by decide +kernel
theorem dX8_becomeRight_23 : decode cX8_becomeRight 23 = .ok (.iload_n 2, 1) := by decide +kernel
theorem dX8_becomeRight_24 : decode cX8_becomeRight 24 = .ok (.iload_n 3, 1) := by decide +kernel
theorem dX8_becomeRight_25 : decode cX8_becomeRight 25 = .ok (.aload_n 0, 1) := by decide +kernel
theorem dX8_becomeRight_26 : decode cX8_becomeRight 26 = .ok (.getfield 190, 3) := by decide +kernel
theorem dX8_becomeRight_29 : decode cX8_becomeRight 29 = .ok (.invokevirtual 348, 3) := by decide +kernel
theorem dX8_becomeRight_32 : decode cX8_becomeRight 32 = .ok (.aload_n 0, 1) := by decide +kernel
theorem dX8_becomeRight_33 : decode cX8_becomeRight 33 = .ok (.iload_n 1, 1) := by decide +kernel
theorem dX8_becomeRight_34 : decode cX8_becomeRight 34 = .ok (.iload_n 2, 1) := by decide +kernel
theorem dX8_becomeRight_35 : decode cX8_becomeRight 35 = .ok (.invokevirtual 279, 3) := by decide +kernel
theorem dX8_becomeRight_38 : decode cX8_becomeRight 38 = .ok (.return_, 1) := by decide +kernel
theorem dX8_countIfSolved_0 : decode cX8_countIfSolved 0 = .ok (.aload_n 0, 1) := by decide +kernel
theorem dX8_countIfSolved_1 : decode cX8_countIfSolved 1 = .ok (.getfield 39, 3) := by decide +kernel
theorem dX8_countIfSolved_4 : decode cX8_countIfSolved 4 = .ok (.iload_n 2, 1) := by decide +kernel
theorem dX8_countIfSolved_5 : decode cX8_countIfSolved 5 = .ok (.aaload, 1) := by decide +kernel
theorem dX8_countIfSolved_6 : decode cX8_countIfSolved 6 = .ok (.astore_n 3, 1) := by decide +kernel
theorem dX8_countIfSolved_7 : decode cX8_countIfSolved 7 = .ok (.aload_n 0, 1) := by decide +kernel
theorem dX8_countIfSolved_8 : decode cX8_countIfSolved 8 = .ok (.getfield 45, 3) := by decide +kernel
theorem dX8_countIfSolved_11 : decode cX8_countIfSolved 11 = .ok (.iload_n 1, 1) := by decide +kernel
theorem dX8_countIfSolved_12 : decode cX8_countIfSolved 12 = .ok (.aaload, 1) := by decide +kernel
theorem dX8_countIfSolved_13 : decode cX8_countIfSolved 13 = .ok (.invokevirtual 282, 3) := by decide +kernel
theorem dX8_countIfSolved_16 : decode cX8_countIfSolved 16 = .ok (.iload_n 2, 1) := by decide +kernel
theorem dX8_countIfSolved_17 : decode cX8_countIfSolved 17 = .ok (.aload_n 3, 1) := by decide +kernel
theorem dX8_countIfSolved_18 : decode cX8_countIfSolved 18 = .ok (.invokevirtual 264, 3) := by decide +kernel
theorem dX8_countIfSolved_21 : decode cX8_countIfSolved 21 = .ok (.aload_n 3, 1) := by decide +kernel
theorem dX8_countIfSolved_22 : decode cX8_countIfSolved 22 = .ok (.invokevirtual 286, 3) := by decide +kernel
theorem dX8_countIfSolved_25 : decode cX8_countIfSolved 25 = .ok (.invokevirtual 351, 3) := by decide +kernel
theorem dX8_countIfSolved_28 : decode cX8_countIfSolved 28 = .ok (.return_, 1) := by decide +kernel
theorem dX8_keptStreak_0 : decode cX8_keptStreak 0 = .ok (.aload_n 0, 1) := by decide +kernel
theorem dX8_keptStreak_1 : decode cX8_keptStreak 1 = .ok (.getfield 45, 3) := by decide +kernel
theorem dX8_keptStreak_4 : decode cX8_keptStreak 4 = .ok (.iload_n 1, 1) := by decide +kernel
theorem dX8_keptStreak_5 : decode cX8_keptStreak 5 = .ok (.aaload, 1) := by decide +kernel
theorem dX8_keptStreak_6 : decode cX8_keptStreak 6 = .ok (.invokevirtual 282, 3) := by decide +kernel
theorem dX8_keptStreak_9 : decode cX8_keptStreak 9 = .ok (.aload_n 0, 1) := by decide +kernel
theorem dX8_keptStreak_10 : decode cX8_keptStreak 10 = .ok (.getfield 190, 3) := by decide +kernel
theorem dX8_keptStreak_13 : decode cX8_keptStreak 13 = .ok (.invokevirtual 312, 3) := by decide +kernel
theorem dX8_keptStreak_16 : decode cX8_keptStreak 16 = .ok (.ireturn, 1) := by decide +kernel
theorem dX8_replay_0 : decode cX8_replay 0 = .ok (.aload_n 0, 1) := by decide +kernel
theorem dX8_replay_1 : decode cX8_replay 1 = .ok (.getfield 52, 3) := by decide +kernel
theorem dX8_replay_4 : decode cX8_replay 4 = .ok (.iload_n 1, 1) := by decide +kernel
theorem dX8_replay_5 : decode cX8_replay 5 = .ok (.invokevirtual 353, 3) := by decide +kernel
theorem dX8_replay_8 : decode cX8_replay 8 = .ok (.istore_n 3, 1) := by decide +kernel
theorem dX8_replay_9 : decode cX8_replay 9 = .ok (.aload_n 0, 1) := by decide +kernel
theorem dX8_replay_10 : decode cX8_replay 10 = .ok (.getfield 52, 3) := by decide +kernel
theorem dX8_replay_13 : decode cX8_replay 13 = .ok (.iload_n 1, 1) := by decide +kernel
theorem dX8_replay_14 : decode cX8_replay 14 = .ok (.invokevirtual 356, 3) := by decide +kernel
theorem dX8_replay_17 : decode cX8_replay 17 = .ok (.iconst (-1), 1) := by decide +kernel
theorem dX8_replay_18 : decode cX8_replay 18 = .ok (.if_icmp .ne 26, 3) := by decide +kernel
theorem dX8_replay_21 : decode cX8_replay 21 = .ok (.aload_n 0, 1) := by decide +kernel
theorem dX8_replay_22 : decode cX8_replay 22 = .ok (.getfield 63, 3) := by decide +kernel
theorem dX8_replay_25 : decode cX8_replay 25 = .ok (.iload_n 3, 1) := by decide +kernel
theorem dX8_replay_26 : decode cX8_replay 26 = .ok (.dup2, 1) := by decide +kernel
theorem dX8_replay_27 : decode cX8_replay 27 = .ok (.iaload, 1) := by decide +kernel
theorem dX8_replay_28 : decode cX8_replay 28 = .ok (.aload_n 0, 1) := by decide +kernel
theorem dX8_replay_29 : decode cX8_replay 29 = .ok (.getfield 52, 3) := by decide +kernel
theorem dX8_replay_32 : decode cX8_replay 32 = .ok (.iload_n 1, 1) := by decide +kernel
theorem dX8_replay_33 : decode cX8_replay 33 = .ok (.invokevirtual 359, 3) := by decide +kernel
theorem dX8_replay_36 : decode cX8_replay 36 = .ok (.invokestatic 261, 3) := by decide +kernel
theorem dX8_replay_39 : decode cX8_replay 39 = .ok (.ior, 1) := by decide +kernel
theorem dX8_replay_40 : decode cX8_replay 40 = .ok (.iastore, 1) := by decide +kernel
theorem dX8_replay_41 : decode cX8_replay 41 = .ok (.goto 43, 3) := by decide +kernel
theorem dX8_replay_44 : decode cX8_replay 44 = .ok (.aload_n 0, 1) := by decide +kernel
theorem dX8_replay_45 : decode cX8_replay 45 = .ok (.getfield 52, 3) := by decide +kernel
theorem dX8_replay_48 : decode cX8_replay 48 = .ok (.iload_n 1, 1) := by decide +kernel
theorem dX8_replay_49 : decode cX8_replay 49 = .ok (.invokevirtual 356, 3) := by decide +kernel
theorem dX8_replay_52 : decode cX8_replay 52 = .ok (.iload_n 2, 1) := by decide +kernel
theorem dX8_replay_53 : decode cX8_replay 53 = .ok (.if_icmp .ne 30, 3) := by decide +kernel
theorem dX8_replay_56 : decode cX8_replay 56 = .ok (.aload_n 0, 1) := by decide +kernel
theorem dX8_replay_57 : decode cX8_replay 57 = .ok (.getfield 59, 3) := by decide +kernel
theorem dX8_replay_60 : decode cX8_replay 60 = .ok (.iload_n 3, 1) := by decide +kernel
theorem dX8_replay_61 : decode cX8_replay 61 = .ok (.aload_n 0, 1) := by decide +kernel
theorem dX8_replay_62 : decode cX8_replay 62 = .ok (.getfield 52, 3) := by decide +kernel
theorem dX8_replay_65 : decode cX8_replay 65 = .ok (.iload_n 1, 1) := by decide +kernel
theorem dX8_replay_66 : decode cX8_replay 66 = .ok (.invokevirtual 359, 3) := by decide +kernel
theorem dX8_replay_69 : decode cX8_replay 69 = .ok (.aload_n 0, 1) := by decide +kernel
theorem dX8_replay_70 : decode cX8_replay 70 = .ok (.getfield 52, 3) := by decide +kernel
theorem dX8_replay_73 : decode cX8_replay 73 = .ok (.iload_n 1, 1) := by decide +kernel
theorem dX8_replay_74 : decode cX8_replay 74 = .ok (.invokevirtual 362, 3) := by decide +kernel
theorem dX8_replay_77 : decode cX8_replay 77 = .ok (.invokevirtual 348, 3) := by decide +kernel
theorem dX8_replay_80 : decode cX8_replay 80 = .ok (.goto 4, 3) := by decide +kernel
theorem dX8_replay_83 : decode cX8_replay 83 = .ok (.return_, 1) := by decide +kernel
theorem dX8_replay_84 : decode cX8_replay 84 = .ok (.aload_n 0, 1) := by decide +kernel
theorem dX8_replay_85 : decode cX8_replay 85 = .ok (.getfield 59, 3) := by decide +kernel
theorem dX8_replay_88 : decode cX8_replay 88 = .ok (.iload_n 3, 1) := by decide +kernel
theorem dX8_replay_89 : decode cX8_replay 89 = .ok (.aload_n 0, 1) := by decide +kernel
theorem dX8_replay_90 : decode cX8_replay 90 = .ok (.getfield 63, 3) := by decide +kernel
theorem dX8_replay_93 : decode cX8_replay 93 = .ok (.iload_n 3, 1) := by decide +kernel
theorem dX8_replay_94 : decode cX8_replay 94 = .ok (.iaload, 1) := by decide +kernel
theorem dX8_replay_95 : decode cX8_replay 95 = .ok (.aload_n 0, 1) := by decide +kernel
theorem dX8_replay_96 : decode cX8_replay 96 = .ok (.getfield 39, 3) := by decide +kernel
theorem dX8_replay_99 : decode cX8_replay 99 = .ok (.iload_n 3, 1) := by decide +kernel
theorem dX8_replay_100 : decode cX8_replay 100 = .ok (.aaload, 1) := by decide +kernel
theorem dX8_replay_101 : decode cX8_replay 101 = .ok (.invokevirtual 286, 3) := by decide +kernel
theorem dX8_replay_104 : decode cX8_replay 104 = .ok (.invokevirtual 351, 3) := by decide +kernel
theorem dX8_replay_107 : decode cX8_replay 107 = .ok (.return_, 1) := by decide +kernel
theorem dX8_rank_0 : decode cX8_rank 0 = .ok (.iconst 0, 1) := by decide +kernel
theorem dX8_rank_1 : decode cX8_rank 1 = .ok (.istore_n 2, 1) := by decide +kernel
theorem dX8_rank_2 : decode cX8_rank 2 = .ok (.iconst 0, 1) := by decide +kernel
theorem dX8_rank_3 : decode cX8_rank 3 = .ok (.istore_n 3, 1) := by decide +kernel
theorem dX8_rank_4 : decode cX8_rank 4 = .ok (.iload_n 3, 1) := by decide +kernel
theorem dX8_rank_5 : decode cX8_rank 5 = .ok (.aload_n 0, 1) := by decide +kernel
theorem dX8_rank_6 : decode cX8_rank 6 = .ok (.getfield 228, 3) := by decide +kernel
theorem dX8_rank_9 : decode cX8_rank 9 = .ok (.if_icmp .ge 26, 3) := by decide +kernel
theorem dX8_rank_12 : decode cX8_rank 12 = .ok (.iload_n 3, 1) := by decide +kernel
theorem dX8_rank_13 : decode cX8_rank 13 = .ok (.iload_n 1, 1) := by decide +kernel
theorem dX8_rank_14 : decode cX8_rank 14 = .ok (.if_icmp .eq 15, 3) := by decide +kernel
theorem dX8_rank_17 : decode cX8_rank 17 = .ok (.aload_n 0, 1) := by decide +kernel
theorem dX8_rank_18 : decode cX8_rank 18 = .ok (.iload_n 3, 1) := by decide +kernel
theorem dX8_rank_19 : decode cX8_rank 19 = .ok (.iload_n 1, 1) := by decide +kernel
theorem dX8_rank_20 : decode cX8_rank 20 = .ok (.invokevirtual 365, 3) := by decide +kernel
theorem dX8_rank_23 : decode cX8_rank 23 = .ok (.ifCond .eq 6, 3) := by decide +kernel
theorem dX8_rank_26 : decode cX8_rank 26 = .ok (.iinc 2 1, 3) := by decide +kernel
theorem dX8_rank_29 : decode cX8_rank 29 = .ok (.iinc 3 1, 3) := by decide +kernel
theorem dX8_rank_32 : decode cX8_rank 32 = .ok (.goto (-28), 3) := by decide +kernel
theorem dX8_rank_35 : decode cX8_rank 35 = .ok (.iload_n 2, 1) := by decide +kernel
theorem dX8_rank_36 : decode cX8_rank 36 = .ok (.ireturn, 1) := by decide +kernel
theorem dX8_isAhead_0 : decode cX8_isAhead 0 = .ok (.aload_n 0, 1) := by decide +kernel
theorem dX8_isAhead_1 : decode cX8_isAhead 1 = .ok (.iload_n 1, 1) := by decide +kernel
theorem dX8_isAhead_2 : decode cX8_isAhead 2 = .ok (.invokevirtual 273, 3) := by decide +kernel
theorem dX8_isAhead_5 : decode cX8_isAhead 5 = .ok (.istore_n 3, 1) := by decide +kernel
theorem dX8_isAhead_6 : decode cX8_isAhead 6 = .ok (.aload_n 0, 1) := by decide +kernel
theorem dX8_isAhead_7 : decode cX8_isAhead 7 = .ok (.iload_n 2, 1) := by decide +kernel
theorem dX8_isAhead_8 : decode cX8_isAhead 8 = .ok (.invokevirtual 273, 3) := by decide +kernel
theorem dX8_isAhead_11 : decode cX8_isAhead 11 = .ok (.istore 4, 2) := by decide +kernel
theorem dX8_isAhead_13 : decode cX8_isAhead 13 = .ok (.iload_n 3, 1) := by decide +kernel
theorem dX8_isAhead_14 : decode cX8_isAhead 14 = .ok (.iload 4, 2) := by decide +kernel
theorem dX8_isAhead_16 : decode cX8_isAhead 16 = .ok (.if_icmp .eq 15, 3) := by decide +kernel
theorem dX8_isAhead_19 : decode cX8_isAhead 19 = .ok (.iload_n 3, 1) := by decide +kernel
theorem dX8_isAhead_20 : decode cX8_isAhead 20 = .ok (.iload 4, 2) := by decide +kernel
theorem dX8_isAhead_22 : decode cX8_isAhead 22 = .ok (.if_icmp .le 7, 3) := by decide +kernel
theorem dX8_isAhead_25 : decode cX8_isAhead 25 = .ok (.iconst 1, 1) := by decide +kernel
theorem dX8_isAhead_26 : decode cX8_isAhead 26 = .ok (.goto 4, 3) := by decide +kernel
theorem dX8_isAhead_29 : decode cX8_isAhead 29 = .ok (.iconst 0, 1) := by decide +kernel
theorem dX8_isAhead_30 : decode cX8_isAhead 30 = .ok (.ireturn, 1) := by decide +kernel
theorem dX8_isAhead_31 : decode cX8_isAhead 31 = .ok (.aload_n 0, 1) := by decide +kernel
theorem dX8_isAhead_32 : decode cX8_isAhead 32 = .ok (.getfield 45, 3) := by decide +kernel
theorem dX8_isAhead_35 : decode cX8_isAhead 35 = .ok (.iload_n 1, 1) := by decide +kernel
theorem dX8_isAhead_36 : decode cX8_isAhead 36 = .ok (.aaload, 1) := by decide +kernel
theorem dX8_isAhead_37 : decode cX8_isAhead 37 = .ok (.invokevirtual 293, 3) := by decide +kernel
theorem dX8_isAhead_40 : decode cX8_isAhead 40 = .ok (.istore 5, 2) := by decide +kernel
theorem dX8_isAhead_42 : decode cX8_isAhead 42 = .ok (.aload_n 0, 1) := by decide +kernel
theorem dX8_isAhead_43 : decode cX8_isAhead 43 = .ok (.getfield 45, 3) := by decide +kernel
theorem dX8_isAhead_46 : decode cX8_isAhead 46 = .ok (.iload_n 2, 1) := by decide +kernel
theorem dX8_isAhead_47 : decode cX8_isAhead 47 = .ok (.aaload, 1) := by decide +kernel
theorem dX8_isAhead_48 : decode cX8_isAhead 48 = .ok (.invokevirtual 293, 3) := by decide +kernel
theorem dX8_isAhead_51 : decode cX8_isAhead 51 = .ok (.istore 6, 2) := by decide +kernel
theorem dX8_isAhead_53 : decode cX8_isAhead 53 = .ok (.iload 5, 2) := by decide +kernel
theorem dX8_isAhead_55 : decode cX8_isAhead 55 = .ok (.iload 6, 2) := by decide +kernel
theorem dX8_isAhead_57 : decode cX8_isAhead 57 = .ok (.if_icmp .eq 18, 3) := by decide +kernel
theorem dX8_isAhead_60 : decode cX8_isAhead 60 = .ok (.iload 5, 2) := by decide +kernel
theorem dX8_isAhead_62 : decode cX8_isAhead 62 = .ok (.iload 6, 2) := by decide +kernel
theorem dX8_isAhead_64 : decode cX8_isAhead 64 = .ok (.if_icmp .le 7, 3) := by decide +kernel
theorem dX8_isAhead_67 : decode cX8_isAhead 67 = .ok (.iconst 1, 1) := by decide +kernel
theorem dX8_isAhead_68 : decode cX8_isAhead 68 = .ok (.goto 17, 3) := by decide +kernel
theorem dX8_isAhead_71 : decode cX8_isAhead 71 = .ok (.iconst 0, 1) := by decide +kernel
theorem dX8_isAhead_72 : decode cX8_isAhead 72 = .ok (.goto 13, 3) := by decide +kernel
theorem dX8_isAhead_75 : decode cX8_isAhead 75 = .ok (.iload_n 1, 1) := by decide +kernel
theorem dX8_isAhead_76 : decode cX8_isAhead 76 = .ok (.iload_n 2, 1) := by decide +kernel
theorem dX8_isAhead_77 : decode cX8_isAhead 77 = .ok (.if_icmp .ge 7, 3) := by decide +kernel
theorem dX8_isAhead_80 : decode cX8_isAhead 80 = .ok (.iconst 1, 1) := by decide +kernel
theorem dX8_isAhead_81 : decode cX8_isAhead 81 = .ok (.goto 4, 3) := by decide +kernel
theorem dX8_isAhead_84 : decode cX8_isAhead 84 = .ok (.iconst 0, 1) := by decide +kernel
theorem dX8_isAhead_85 : decode cX8_isAhead 85 = .ok (.ireturn, 1) := by decide +kernel
