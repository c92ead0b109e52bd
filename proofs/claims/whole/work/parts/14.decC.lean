theorem dX9_init_0 : decode cX9_init 0 = .ok (.aload_n 0, 1) := by decide +kernel
theorem dX9_init_1 : decode cX9_init 1 = .ok (.invokespecial 1, 3) := by decide +kernel
theorem dX9_init_4 : decode cX9_init 4 = .ok (.aload_n 0, 1) := by decide +kernel
theorem dX9_init_5 : decode cX9_init 5 = .ok (.iconst 3, 1) := by decide +kernel
theorem dX9_init_6 : decode cX9_init 6 = .ok (.newarray .int, 2) := by decide +kernel
theorem dX9_init_8 : decode cX9_init 8 = .ok (.putfield 7, 3) := by decide +kernel
theorem dX9_init_11 : decode cX9_init 11 = .ok (.aload_n 0, 1) := by decide +kernel
theorem dX9_init_12 : decode cX9_init 12 = .ok (.sipush 729, 3) := by decide +kernel
theorem dX9_init_15 : decode cX9_init 15 = .ok (.newarray .int, 2) := by decide +kernel
theorem dX9_init_17 : decode cX9_init 17 = .ok (.putfield 13, 3) := by decide +kernel
theorem dX9_init_20 : decode cX9_init 20 = .ok (.aload_n 0, 1) := by decide +kernel
theorem dX9_init_21 : decode cX9_init 21 = .ok (.bipush 30, 2) := by decide +kernel
theorem dX9_init_23 : decode cX9_init 23 = .ok (.newarray .int, 2) := by decide +kernel
theorem dX9_init_25 : decode cX9_init 25 = .ok (.putfield 16, 3) := by decide +kernel
theorem dX9_init_28 : decode cX9_init 28 = .ok (.aload_n 0, 1) := by decide +kernel
theorem dX9_init_29 : decode cX9_init 29 = .ok (.bipush 30, 2) := by decide +kernel
theorem dX9_init_31 : decode cX9_init 31 = .ok (.newarray .int, 2) := by decide +kernel
theorem dX9_init_33 : decode cX9_init 33 = .ok (.putfield 19, 3) := by decide +kernel
theorem dX9_init_36 : decode cX9_init 36 = .ok (.aload_n 0, 1) := by decide +kernel
theorem dX9_init_37 : decode cX9_init 37 = .ok (.bipush 30, 2) := by decide +kernel
theorem dX9_init_39 : decode cX9_init 39 = .ok (.newarray .int, 2) := by decide +kernel
theorem dX9_init_41 : decode cX9_init 41 = .ok (.putfield 22, 3) := by decide +kernel
theorem dX9_init_44 : decode cX9_init 44 = .ok (.aload_n 0, 1) := by decide +kernel
theorem dX9_init_45 : decode cX9_init 45 = .ok (.bipush 9, 2) := by decide +kernel
theorem dX9_init_47 : decode cX9_init 47 = .ok (.newarray .int, 2) := by decide +kernel
theorem dX9_init_49 : decode cX9_init 49 = .ok (.putfield 25, 3) := by decide +kernel
theorem dX9_init_52 : decode cX9_init 52 = .ok (.aload_n 0, 1) := by decide +kernel
theorem dX9_init_53 : decode cX9_init 53 = .ok (.iconst 3, 1) := by decide +kernel
theorem dX9_init_54 : decode cX9_init 54 = .ok (.newarray .int, 2) := by decide +kernel
theorem dX9_init_56 : decode cX9_init 56 = .ok (.putfield 28, 3) := by decide +kernel
theorem dX9_init_59 : decode cX9_init 59 = .ok (.aload_n 0, 1) := by decide +kernel
theorem dX9_init_60 : decode cX9_init 60 = .ok (.bipush 60, 2) := by decide +kernel
theorem dX9_init_62 : decode cX9_init 62 = .ok (.newarray .int, 2) := by decide +kernel
theorem dX9_init_64 : decode cX9_init 64 = .ok (.putfield 31, 3) := by decide +kernel
theorem dX9_init_67 : decode cX9_init 67 = .ok (.aload_n 0, 1) := by decide +kernel
theorem dX9_init_68 : decode cX9_init 68 = .ok (.bipush 60, 2) := by decide +kernel
theorem dX9_init_70 : decode cX9_init 70 = .ok (.newarray .int, 2) := by decide +kernel
theorem dX9_init_72 : decode cX9_init 72 = .ok (.putfield 34, 3) := by decide +kernel
theorem dX9_init_75 : decode cX9_init 75 = .ok (.aload_n 0, 1) := by decide +kernel
theorem dX9_init_76 : decode cX9_init 76 = .ok (.bipush 60, 2) := by decide +kernel
theorem dX9_init_78 : decode cX9_init 78 = .ok (.newarray .int, 2) := by decide +kernel
theorem dX9_init_80 : decode cX9_init 80 = .ok (.putfield 37, 3) := by decide +kernel
theorem dX9_init_83 : decode cX9_init 83 = .ok (.aload_n 0, 1) := by decide +kernel
theorem dX9_init_84 : decode cX9_init 84 = .ok (.bipush 20, 2) := by decide +kernel
theorem dX9_init_86 : decode cX9_init 86 = .ok (.newarray .int, 2) := by decide +kernel
theorem dX9_init_88 : decode cX9_init 88 = .ok (.putfield 40, 3) := by decide +kernel
theorem dX9_init_91 : decode cX9_init 91 = .ok (.aload_n 0, 1) := by decide +kernel
theorem dX9_init_92 : decode cX9_init 92 = .ok (.sipush 180, 3) := by decide +kernel
theorem dX9_init_95 : decode cX9_init 95 = .ok (.newarray .int, 2) := by decide +kernel
theorem dX9_init_97 : decode cX9_init 97 = .ok (.putfield 43, 3) := by decide +kernel
theorem dX9_init_100 : decode cX9_init 100 = .ok (.aload_n 0, 1) := by decide +kernel
theorem dX9_init_101 : decode cX9_init 101 = .ok (.bipush 120, 2) := by decide +kernel
theorem dX9_init_103 : decode cX9_init 103 = .ok (.newarray .int, 2) := by decide +kernel
theorem dX9_init_105 : decode cX9_init 105 = .ok (.putfield 46, 3) := by decide +kernel
theorem dX9_init_108 : decode cX9_init 108 = .ok (.aload_n 0, 1) := by decide +kernel
theorem dX9_init_109 : decode cX9_init 109 = .ok (.bipush 20, 2) := by decide +kernel
theorem dX9_init_111 : decode cX9_init 111 = .ok (.newarray .int, 2) := by decide +kernel
theorem dX9_init_113 : decode cX9_init 113 = .ok (.putfield 49, 3) := by decide +kernel
theorem dX9_init_116 : decode cX9_init 116 = .ok (.aload_n 0, 1) := by decide +kernel
theorem dX9_init_117 : decode cX9_init 117 = .ok (.bipush 6, 2) := by decide +kernel
theorem dX9_init_119 : decode cX9_init 119 = .ok (.newarray .int, 2) := by decide +kernel
theorem dX9_init_121 : decode cX9_init 121 = .ok (.putfield 52, 3) := by decide +kernel
theorem dX9_init_124 : decode cX9_init 124 = .ok (.aload_n 0, 1) := by decide +kernel
theorem dX9_init_125 : decode cX9_init 125 = .ok (.bipush 6, 2) := by decide +kernel
theorem dX9_init_127 : decode cX9_init 127 = .ok (.newarray .int, 2) := by decide +kernel
theorem dX9_init_129 : decode cX9_init 129 = .ok (.putfield 55, 3) := by decide +kernel
theorem dX9_init_132 : decode cX9_init 132 = .ok (.aload_n 0, 1) := by decide +kernel
theorem dX9_init_133 : decode cX9_init 133 = .ok (.bipush 6, 2) := by decide +kernel
theorem dX9_init_135 : decode cX9_init 135 = .ok (.newarray .int, 2) := by decide +kernel
theorem dX9_init_137 : decode cX9_init 137 = .ok (.putfield 58, 3) := by decide +kernel
theorem dX9_init_140 : decode cX9_init 140 = .ok (.aload_n 0, 1) := by decide +kernel
theorem dX9_init_141 : decode cX9_init 141 = .ok (.sipush 1080, 3) := by decide +kernel
theorem dX9_init_144 : decode cX9_init 144 = .ok (.newarray .int, 2) := by decide +kernel
theorem dX9_init_146 : decode cX9_init 146 = .ok (.putfield 61, 3) := by decide +kernel
theorem dX9_init_149 : decode cX9_init 149 = .ok (.aload_n 0, 1) := by decide +kernel
theorem dX9_init_150 : decode cX9_init 150 = .ok (.sipush 1080, 3) := by decide +kernel
theorem dX9_init_153 : decode cX9_init 153 = .ok (.newarray .int, 2) := by decide +kernel
theorem dX9_init_155 : decode cX9_init 155 = .ok (.putfield 64, 3) := by decide +kernel
theorem dX9_init_158 : decode cX9_init 158 = .ok (.aload_n 0, 1) := by decide +kernel
theorem dX9_init_159 : decode cX9_init 159 = .ok (.bipush 120, 2) := by decide +kernel
theorem dX9_init_161 : decode cX9_init 161 = .ok (.newarray .int, 2) := by decide +kernel
theorem dX9_init_163 : decode cX9_init 163 = .ok (.putfield 67, 3) := by decide +kernel
theorem dX9_init_166 : decode cX9_init 166 = .ok (.aload_n 0, 1) := by decide +kernel
theorem dX9_init_167 : decode cX9_init 167 = .ok (.sipush 7560, 3) := by decide +kernel
theorem dX9_init_170 : decode cX9_init 170 = .ok (.newarray .int, 2) := by decide +kernel
theorem dX9_init_172 : decode cX9_init 172 = .ok (.putfield 70, 3) := by decide +kernel
theorem dX9_init_175 : decode cX9_init 175 = .ok (.return_, 1) := by decide +kernel
theorem dX9_thrown_0 : decode cX9_thrown 0 = .ok (.aload_n 0, 1) := by decide +kernel
theorem dX9_thrown_1 : decode cX9_thrown 1 = .ok (.getfield 73, 3) := by decide +kernel
theorem dX9_thrown_4 : decode cX9_thrown 4 = .ok (.ireturn, 1) := by decide +kernel
theorem dX9_fails_0 : decode cX9_fails 0 = .ok (.aload_n 0, 1) := by decide +kernel
theorem dX9_fails_1 : decode cX9_fails 1 = .ok (.iload_n 1, 1) := by decide +kernel
theorem dX9_fails_2 : decode cX9_fails 2 = .ok (.putfield 73, 3) := by decide +kernel
theorem dX9_fails_5 : decode cX9_fails 5 = .ok (.iconst 0, 1) := by decide +kernel
theorem dX9_fails_6 : decode cX9_fails 6 = .ok (.ireturn, 1) := by decide +kernel
theorem dX9_in_0 : decode cX9_in 0 = .ok (.iload_n 0, 1) := by decide +kernel
theorem dX9_in_1 : decode cX9_in 1 = .ok (.iload_n 1, 1) := by decide +kernel
theorem dX9_in_2 : decode cX9_in 2 = .ok (.if_icmp .lt 12, 3) := by decide +kernel
theorem dX9_in_5 : decode cX9_in 5 = .ok (.iload_n 0, 1) := by decide +kernel
theorem dX9_in_6 : decode cX9_in 6 = .ok (.iload_n 2, 1) := by decide +kernel
theorem dX9_in_7 : decode cX9_in 7 = .ok (.if_icmp .gt 7, 3) := by decide +kernel
theorem dX9_in_10 : decode cX9_in 10 = .ok (.iconst 1, 1) := by decide +kernel
theorem dX9_in_11 : decode cX9_in 11 = .ok (.goto 4, 3) := by decide +kernel
theorem dX9_in_14 : decode cX9_in 14 = .ok (.iconst 0, 1) := by decide +kernel
theorem dX9_in_15 : decode cX9_in 15 = .ok (.ireturn, 1) := by decide +kernel
theorem dX9_chars_0 : decode cX9_chars 0 = .ok (.aload_n 0, 1) := by decide +kernel
theorem dX9_chars_1 : decode cX9_chars 1 = .ok (.getfield 77, 3) := by decide +kernel
theorem dX9_chars_4 : decode cX9_chars 4 = .ok (.istore_n 1, 1) := by decide +kernel
theorem dX9_chars_5 : decode cX9_chars 5 = .ok (.iconst 0, 1) := by decide +kernel
theorem dX9_chars_6 : decode cX9_chars 6 = .ok (.istore_n 2, 1) := by decide +kernel
theorem dX9_chars_7 : decode cX9_chars 7 = .ok (.iload_n 2, 1) := by decide +kernel
theorem dX9_chars_8 : decode cX9_chars 8 = .ok (.aload_n 0, 1) := by decide +kernel
theorem dX9_chars_9 : decode cX9_chars 9 = .ok (.getfield 77, 3) := by decide +kernel
theorem dX9_chars_12 : decode cX9_chars 12 = .ok (.if_icmp .ge 28, 3) := by decide +kernel
theorem dX9_chars_15 : decode cX9_chars 15 = .ok (.iload_n 1, 1) := by decide +kernel
theorem dX9_chars_16 : decode cX9_chars 16 = .ok (.aload_n 0, 1) := by decide +kernel
theorem dX9_chars_17 : decode cX9_chars 17 = .ok (.getfield 7, 3) := by decide +kernel
theorem dX9_chars_20 : decode cX9_chars 20 = .ok (.iload_n 2, 1) := by decide +kernel
theorem dX9_chars_21 : decode cX9_chars 21 = .ok (.iaload, 1) := by decide +kernel
theorem dX9_chars_22 : decode cX9_chars 22 = .ok (.bipush 8, 2) := by decide +kernel
theorem dX9_chars_24 : decode cX9_chars 24 = .ok (.if_icmp .ne 7, 3) := by decide +kernel
theorem dX9_chars_27 : decode cX9_chars 27 = .ok (.iconst 1, 1) := by decide +kernel
theorem dX9_chars_28 : decode cX9_chars 28 = .ok (.goto 4, 3) := by decide +kernel
theorem dX9_chars_31 : decode cX9_chars 31 = .ok (.iconst 0, 1) := by decide +kernel
theorem dX9_chars_32 : decode cX9_chars 32 = .ok (.iadd, 1) := by decide +kernel
theorem dX9_chars_33 : decode cX9_chars 33 = .ok (.istore_n 1, 1) := by decide +kernel
theorem dX9_chars_34 : decode cX9_chars 34 = .ok (.iinc 2 1, 3) := by decide +kernel
theorem dX9_chars_37 : decode cX9_chars 37 = .ok (.goto (-30), 3) := by decide +kernel
theorem dX9_chars_40 : decode cX9_chars 40 = .ok (.iload_n 1, 1) := by decide +kernel
theorem dX9_chars_41 : decode cX9_chars 41 = .ok (.ireturn, 1) := by decide +kernel
theorem dX9_canSpell_0 : decode cX9_canSpell 0 = .ok (.aload_n 0, 1) := by decide +kernel
theorem dX9_canSpell_1 : decode cX9_canSpell 1 = .ok (.iload_n 1, 1) := by decide +kernel
theorem dX9_canSpell_2 : decode cX9_canSpell 2 = .ok (.iconst 0, 1) := by decide +kernel
theorem dX9_canSpell_3 : decode cX9_canSpell 3 = .ok (.bipush 8, 2) := by decide +kernel
theorem dX9_canSpell_5 : decode cX9_canSpell 5 = .ok (.invokestatic 80, 3) := by decide +kernel
theorem dX9_canSpell_8 : decode cX9_canSpell 8 = .ok (.ifCond .ne 7, 3) := by decide +kernel
theorem dX9_canSpell_11 : decode cX9_canSpell 11 = .ok (.iconst 1, 1) := by decide +kernel
theorem dX9_canSpell_12 : decode cX9_canSpell 12 = .ok (.goto 16, 3) := by decide +kernel
theorem dX9_canSpell_15 : decode cX9_canSpell 15 = .ok (.aload_n 0, 1) := by decide +kernel
theorem dX9_canSpell_16 : decode cX9_canSpell 16 = .ok (.getfield 77, 3) := by decide +kernel
theorem dX9_canSpell_19 : decode cX9_canSpell 19 = .ok (.iconst 3, 1) := by decide +kernel
theorem dX9_canSpell_20 : decode cX9_canSpell 20 = .ok (.if_icmp .ne 7, 3) := by decide +kernel
theorem dX9_canSpell_23 : decode cX9_canSpell 23 = .ok (.iconst 2, 1) := by decide +kernel
theorem dX9_canSpell_24 : decode cX9_canSpell 24 = .ok (.goto 4, 3) := by decide +kernel
theorem dX9_canSpell_27 : decode cX9_canSpell 27 = .ok (.iconst 0, 1) := by decide +kernel
theorem dX9_canSpell_28 : decode cX9_canSpell 28 = .ok (.putfield 73, 3) := by decide +kernel
theorem dX9_canSpell_31 : decode cX9_canSpell 31 = .ok (.aload_n 0, 1) := by decide +kernel
theorem dX9_canSpell_32 : decode cX9_canSpell 32 = .ok (.getfield 73, 3) := by decide +kernel
theorem dX9_canSpell_35 : decode cX9_canSpell 35 = .ok (.ifCond .ne 7, 3) := by decide +kernel
theorem dX9_canSpell_38 : decode cX9_canSpell 38 = .ok (.iconst 1, 1) := by decide +kernel
theorem dX9_canSpell_39 : decode cX9_canSpell 39 = .ok (.goto 4, 3) := by decide +kernel
theorem dX9_canSpell_42 : decode cX9_canSpell 42 = .ok (.iconst 0, 1) := by decide +kernel
theorem dX9_canSpell_43 : decode cX9_canSpell 43 = .ok (.ireturn, 1) := by decide +kernel
theorem dX9_spell_0 : decode cX9_spell 0 = .ok (.aload_n 0, 1) := by decide +kernel
theorem dX9_spell_1 : decode cX9_spell 1 = .ok (.iload_n 1, 1) := by decide +kernel
theorem dX9_spell_2 : decode cX9_spell 2 = .ok (.invokevirtual 84, 3) := by decide +kernel
theorem dX9_spell_5 : decode cX9_spell 5 = .ok (.ifCond .ne 5, 3) := by decide +kernel
theorem dX9_spell_8 : decode cX9_spell 8 = .ok (.iconst 0, 1) := by decide +kernel
theorem dX9_spell_9 : decode cX9_spell 9 = .ok (.ireturn, 1) := by decide +kernel
theorem dX9_spell_10 : decode cX9_spell 10 = .ok (.aload_n 0, 1) := by decide +kernel
theorem dX9_spell_11 : decode cX9_spell 11 = .ok (.getfield 7, 3) := by decide +kernel
theorem dX9_spell_14 : decode cX9_spell 14 = .ok (.aload_n 0, 1) := by decide +kernel
theorem dX9_spell_15 : decode cX9_spell 15 = .ok (.getfield 77, 3) := by decide +kernel
theorem dX9_spell_18 : decode cX9_spell 18 = .ok (.iload_n 1, 1) := by decide +kernel
theorem dX9_spell_19 : decode cX9_spell 19 = .ok (.iastore, 1) := by decide +kernel
theorem dX9_spell_20 : decode cX9_spell 20 = .ok (.aload_n 0, 1) := by decide +kernel
theorem dX9_spell_21 : decode cX9_spell 21 = .ok (.dup, 1) := by decide +kernel
theorem dX9_spell_22 : decode cX9_spell 22 = .ok (.getfield 77, 3) := by decide +kernel
theorem dX9_spell_25 : decode cX9_spell 25 = .ok (.iconst 1, 1) := by decide +kernel
theorem dX9_spell_26 : decode cX9_spell 26 = .ok (.iadd, 1) := by decide +kernel
theorem dX9_spell_27 : decode cX9_spell 27 = .ok (.putfield 77, 3) := by decide +kernel
theorem dX9_spell_30 : decode cX9_spell 30 = .ok (.aload_n 0, 1) := by decide +kernel
theorem dX9_spell_31 : decode cX9_spell 31 = .ok (.invokevirtual 88, 3) := by decide +kernel
theorem dX9_spell_34 : decode cX9_spell 34 = .ok (.ireturn, 1) := by decide +kernel
theorem dX9_insert_0 : decode cX9_insert 0 = .ok (.aload_n 0, 1) := by decide +kernel
theorem dX9_insert_1 : decode cX9_insert 1 = .ok (.iload_n 1, 1) := by decide +kernel
theorem dX9_insert_2 : decode cX9_insert 2 = .ok (.invokevirtual 84, 3) := by decide +kernel
theorem dX9_insert_5 : decode cX9_insert 5 = .ok (.ifCond .ne 5, 3) := by decide +kernel
theorem dX9_insert_8 : decode cX9_insert 8 = .ok (.iconst 0, 1) := by decide +kernel
theorem dX9_insert_9 : decode cX9_insert 9 = .ok (.ireturn, 1) := by decide +kernel
theorem dX9_insert_10 : decode cX9_insert 10 = .ok (.aload_n 0, 1) := by decide +kernel
theorem dX9_insert_11 : decode cX9_insert 11 = .ok (.getfield 77, 3) := by decide +kernel
theorem dX9_insert_14 : decode cX9_insert 14 = .ok (.istore_n 2, 1) := by decide +kernel
theorem dX9_insert_15 : decode cX9_insert 15 = .ok (.iload_n 2, 1) := by decide +kernel
theorem dX9_insert_16 : decode cX9_insert 16 = .ok (.ifCond .le 23, 3) := by decide +kernel
theorem dX9_insert_19 : decode cX9_insert 19 = .ok (.aload_n 0, 1) := by decide +kernel
theorem dX9_insert_20 : decode cX9_insert 20 = .ok (.getfield 7, 3) := by decide +kernel
theorem dX9_insert_23 : decode cX9_insert 23 = .ok (.iload_n 2, 1) := by decide +kernel
theorem dX9_insert_24 : decode cX9_insert 24 = .ok (.aload_n 0, 1) := by decide +kernel
theorem dX9_insert_25 : decode cX9_insert 25 = .ok (.getfield 7, 3) := by decide +kernel
theorem dX9_insert_28 : decode cX9_insert 28 = .ok (.iload_n 2, 1) := by decide +kernel
theorem dX9_insert_29 : decode cX9_insert 29 = .ok (.iconst 1, 1) := by decide +kernel
theorem dX9_insert_30 : decode cX9_insert 30 = .ok (.isub, 1) := by decide +kernel
theorem dX9_insert_31 : decode cX9_insert 31 = .ok (.iaload, 1) := by decide +kernel
theorem dX9_insert_32 : decode cX9_insert 32 = .ok (.iastore, 1) := by decide +kernel
theorem dX9_insert_33 : decode cX9_insert 33 = .ok (.iinc 2 (-1), 3) := by decide +kernel
theorem dX9_insert_36 : decode cX9_insert 36 = .ok (.goto (-21), 3) := by decide +kernel
theorem dX9_insert_39 : decode cX9_insert 39 = .ok (.aload_n 0, 1) := by decide +kernel
theorem dX9_insert_40 : decode cX9_insert 40 = .ok (.getfield 7, 3) := by decide +kernel
theorem dX9_insert_43 : decode cX9_insert 43 = .ok (.iconst 0, 1) := by decide +kernel
theorem dX9_insert_44 : decode cX9_insert 44 = .ok (.iload_n 1, 1) := by decide +kernel
theorem dX9_insert_45 : decode cX9_insert 45 = .ok (.iastore, 1) := by decide +kernel
theorem dX9_insert_46 : decode cX9_insert 46 = .ok (.aload_n 0, 1) := by decide +kernel
theorem dX9_insert_47 : decode cX9_insert 47 = .ok (.dup, 1) := by decide +kernel
theorem dX9_insert_48 : decode cX9_insert 48 = .ok (.getfield 77, 3) := by decide +kernel
theorem dX9_insert_51 : decode cX9_insert 51 = .ok (.iconst 1, 1) := by decide +kernel
theorem dX9_insert_52 : decode cX9_insert 52 = .ok (.iadd, 1) := by decide +kernel
theorem dX9_insert_53 : decode cX9_insert 53 = .ok (.putfield 77, 3) := by decide +kernel
theorem dX9_insert_56 : decode cX9_insert 56 = .ok (.aload_n 0, 1) := by decide +kernel
theorem dX9_insert_57 : decode cX9_insert 57 = .ok (.invokevirtual 88, 3) := by decide +kernel
theorem dX9_insert_60 : decode cX9_insert 60 = .ok (.ireturn, 1) := by decide +kernel
theorem dX9_turn_0 : decode cX9_turn 0 = .ok (.aload_n 0, 1) := by decide +kernel
theorem dX9_turn_1 : decode cX9_turn 1 = .ok (.iconst 0, 1) := by decide +kernel
theorem dX9_turn_2 : decode cX9_turn 2 = .ok (.putfield 73, 3) := by decide +kernel
theorem dX9_turn_5 : decode cX9_turn 5 = .ok (.iconst 0, 1) := by decide +kernel
theorem dX9_turn_6 : decode cX9_turn 6 = .ok (.istore_n 1, 1) := by decide +kernel
theorem dX9_turn_7 : decode cX9_turn 7 = .ok (.iload_n 1, 1) := by decide +kernel
theorem dX9_turn_8 : decode cX9_turn 8 = .ok (.aload_n 0, 1) := by decide +kernel
theorem dX9_turn_9 : decode cX9_turn 9 = .ok (.getfield 77, 3) := by decide +kernel
theorem dX9_turn_12 : decode cX9_turn 12 = .ok (.iconst 2, 1) := by decide +kernel
theorem dX9_turn_13 : decode cX9_turn 13 = .ok (.idiv, 1) := by decide +kernel
theorem dX9_turn_14 : decode cX9_turn 14 = .ok (.if_icmp .ge 49, 3) := by decide +kernel
theorem dX9_turn_17 : decode cX9_turn 17 = .ok (.aload_n 0, 1) := by decide +kernel
theorem dX9_turn_18 : decode cX9_turn 18 = .ok (.getfield 7, 3) := by decide +kernel
theorem dX9_turn_21 : decode cX9_turn 21 = .ok (.iload_n 1, 1) := by decide +kernel
theorem dX9_turn_22 : decode cX9_turn 22 = .ok (.iaload, 1) := by decide +kernel
theorem dX9_turn_23 : decode cX9_turn 23 = .ok (.istore_n 2, 1) := by decide +kernel
theorem dX9_turn_24 : decode cX9_turn 24 = .ok (.aload_n 0, 1) := by decide +kernel
theorem dX9_turn_25 : decode cX9_turn 25 = .ok (.getfield 7, 3) := by decide +kernel
theorem dX9_turn_28 : decode cX9_turn 28 = .ok (.iload_n 1, 1) := by decide +kernel
theorem dX9_turn_29 : decode cX9_turn 29 = .ok (.aload_n 0, 1) := by decide +kernel
theorem dX9_turn_30 : decode cX9_turn 30 = .ok (.getfield 7, 3) := by decide +kernel
theorem dX9_turn_33 : decode cX9_turn 33 = .ok (.aload_n 0, 1) := by decide +kernel
theorem dX9_turn_34 : decode cX9_turn 34 = .ok (.getfield 77, 3) := by decide +kernel
theorem dX9_turn_37 : decode cX9_turn 37 = .ok (.iconst 1, 1) := by decide +kernel
theorem dX9_turn_38 : decode cX9_turn 38 = .ok (.isub, 1) := by decide +kernel
theorem dX9_turn_39 : decode cX9_turn 39 = .ok (.iload_n 1, 1) := by decide +kernel
theorem dX9_turn_40 : decode cX9_turn 40 = .ok (.isub, 1) := by decide +kernel
theorem dX9_turn_41 : decode cX9_turn 41 = .ok (.iaload, 1) := by decide +kernel
theorem dX9_turn_42 : decode cX9_turn 42 = .ok (.iastore, 1) := by decide +kernel
theorem dX9_turn_43 : decode cX9_turn 43 = .ok (.aload_n 0, 1) := by decide +kernel
theorem dX9_turn_44 : decode cX9_turn 44 = .ok (.getfield 7, 3) := by decide +kernel
theorem dX9_turn_47 : decode cX9_turn 47 = .ok (.aload_n 0, 1) := by decide +kernel
theorem dX9_turn_48 : decode cX9_turn 48 = .ok (.getfield 77, 3) := by decide +kernel
theorem dX9_turn_51 : decode cX9_turn 51 = .ok (.iconst 1, 1) := by decide +kernel
theorem dX9_turn_52 : decode cX9_turn 52 = .ok (.isub, 1) := by decide +kernel
theorem dX9_turn_53 : decode cX9_turn 53 = .ok (.iload_n 1, 1) := by decide +kernel
theorem dX9_turn_54 : decode cX9_turn 54 = .ok (.isub, 1) := by decide +kernel
theorem dX9_turn_55 : decode cX9_turn 55 = .ok (.iload_n 2, 1) := by decide +kernel
theorem dX9_turn_56 : decode cX9_turn 56 = .ok (.iastore, 1) := by decide +kernel
theorem dX9_turn_57 : decode cX9_turn 57 = .ok (.iinc 1 1, 3) := by decide +kernel
theorem dX9_turn_60 : decode cX9_turn 60 = .ok (.goto (-53), 3) := by decide +kernel
theorem dX9_turn_63 : decode cX9_turn 63 = .ok (.aload_n 0, 1) := by decide +kernel
theorem dX9_turn_64 : decode cX9_turn 64 = .ok (.getfield 77, 3) := by decide +kernel
theorem dX9_turn_67 : decode cX9_turn 67 = .ok (.ireturn, 1) := by decide +kernel
theorem dX9_clearSpelled_0 : decode cX9_clearSpelled 0 = .ok (.aload_n 0, 1) := by decide +kernel
theorem dX9_clearSpelled_1 : decode cX9_clearSpelled 1 = .ok (.iconst 0, 1) := by decide +kernel
theorem dX9_clearSpelled_2 : decode cX9_clearSpelled 2 = .ok (.putfield 73, 3) := by decide +kernel
theorem dX9_clearSpelled_5 : decode cX9_clearSpelled 5 = .ok (.aload_n 0, 1) := by decide +kernel
theorem dX9_clearSpelled_6 : decode cX9_clearSpelled 6 = .ok (.getfield 77, 3) := by decide +kernel
theorem dX9_clearSpelled_9 : decode cX9_clearSpelled 9 = .ok (.istore_n 1, 1) := by decide +kernel
theorem dX9_clearSpelled_10 : decode cX9_clearSpelled 10 = .ok (.aload_n 0, 1) := by decide +kernel
theorem dX9_clearSpelled_11 : decode cX9_clearSpelled 11 = .ok (.iconst 0, 1) := by decide +kernel
theorem dX9_clearSpelled_12 : decode cX9_clearSpelled 12 = .ok (.putfield 77, 3) := by decide +kernel
theorem dX9_clearSpelled_15 : decode cX9_clearSpelled 15 = .ok (.iload_n 1, 1) := by decide +kernel
theorem dX9_clearSpelled_16 : decode cX9_clearSpelled 16 = .ok (.ireturn, 1) := by decide +kernel
theorem dX9_charAt_0 : decode cX9_charAt 0 = .ok (.aload_n 0, 1) := by decide +kernel
theorem dX9_charAt_1 : decode cX9_charAt 1 = .ok (.iload_n 1, 1) := by decide +kernel
theorem dX9_charAt_2 : decode cX9_charAt 2 = .ok (.iconst 0, 1) := by decide +kernel
theorem dX9_charAt_3 : decode cX9_charAt 3 = .ok (.aload_n 0, 1) := by decide +kernel
theorem dX9_charAt_4 : decode cX9_charAt 4 = .ok (.invokevirtual 88, 3) := by decide +kernel
theorem dX9_charAt_7 : decode cX9_charAt 7 = .ok (.iconst 1, 1) := by decide +kernel
theorem dX9_charAt_8 : decode cX9_charAt 8 = .ok (.isub, 1) := by decide +kernel
theorem dX9_charAt_9 : decode cX9_charAt 9 = .ok (.invokestatic 80, 3) := by decide +kernel
theorem dX9_charAt_12 : decode cX9_charAt 12 = .ok (.ifCond .eq 7, 3) := by decide +kernel
theorem dX9_charAt_15 : decode cX9_charAt 15 = .ok (.iconst 0, 1) := by decide +kernel
theorem dX9_charAt_16 : decode cX9_charAt 16 = .ok (.goto 4, 3) := by decide +kernel
theorem dX9_charAt_19 : decode cX9_charAt 19 = .ok (.iconst 1, 1) := by decide +kernel
theorem dX9_charAt_20 : decode cX9_charAt 20 = .ok (.putfield 73, 3) := by decide +kernel
theorem dX9_charAt_23 : decode cX9_charAt 23 = .ok (.iconst 0, 1) := by decide +kernel
theorem dX9_charAt_24 : decode cX9_charAt 24 = .ok (.istore_n 2, 1) := by decide +kernel
theorem dX9_charAt_25 : decode cX9_charAt 25 = .ok (.iconst 0, 1) := by decide +kernel
theorem dX9_charAt_26 : decode cX9_charAt 26 = .ok (.istore_n 3, 1) := by decide +kernel
theorem dX9_charAt_27 : decode cX9_charAt 27 = .ok (.iload_n 3, 1) := by decide +kernel
theorem dX9_charAt_28 : decode cX9_charAt 28 = .ok (.aload_n 0, 1) := by decide +kernel
theorem dX9_charAt_29 : decode cX9_charAt 29 = .ok (.getfield 77, 3) := by decide +kernel
theorem dX9_charAt_32 : decode cX9_charAt 32 = .ok (.if_icmp .ge 73, 3) := by decide +kernel
theorem dX9_charAt_35 : decode cX9_charAt 35 = .ok (.aload_n 0, 1) := by decide +kernel
theorem dX9_charAt_36 : decode cX9_charAt 36 = .ok (.getfield 73, 3) := by decide +kernel
theorem dX9_charAt_39 : decode cX9_charAt 39 = .ok (.ifCond .ne 66, 3) := by decide +kernel
theorem dX9_charAt_42 : decode cX9_charAt 42 = .ok (.iload_n 2, 1) := by decide +kernel
theorem dX9_charAt_43 : decode cX9_charAt 43 = .ok (.iload_n 1, 1) := by decide +kernel
theorem dX9_charAt_44 : decode cX9_charAt 44 = .ok (.if_icmp .ne 30, 3) := by decide +kernel
theorem dX9_charAt_47 : decode cX9_charAt 47 = .ok (.aload_n 0, 1) := by decide +kernel
theorem dX9_charAt_48 : decode cX9_charAt 48 = .ok (.getfield 7, 3) := by decide +kernel
theorem dX9_charAt_51 : decode cX9_charAt 51 = .ok (.iload_n 3, 1) := by decide +kernel
theorem dX9_charAt_52 : decode cX9_charAt 52 = .ok (.iaload, 1) := by decide +kernel
theorem dX9_charAt_53 : decode cX9_charAt 53 = .ok (.bipush 8, 2) := by decide +kernel
theorem dX9_charAt_55 : decode cX9_charAt 55 = .ok (.if_icmp .ne 8, 3) := by decide +kernel
theorem dX9_charAt_58 : decode cX9_charAt 58 = .ok (.ldc 92, 2) := by decide +kernel
theorem dX9_charAt_60 : decode cX9_charAt 60 = .ok (.goto 13, 3) := by decide +kernel
theorem dX9_charAt_63 : decode cX9_charAt 63 = .ok (.bipush 97, 2) := by decide +kernel
theorem dX9_charAt_65 : decode cX9_charAt 65 = .ok (.aload_n 0, 1) := by decide +kernel
theorem dX9_charAt_66 : decode cX9_charAt 66 = .ok (.getfield 7, 3) := by decide +kernel
theorem dX9_charAt_69 : decode cX9_charAt 69 = .ok (.iload_n 3, 1) := by decide +kernel
theorem dX9_charAt_70 : decode cX9_charAt 70 = .ok (.iaload, 1) := by decide +kernel
theorem dX9_charAt_71 : decode cX9_charAt 71 = .ok (.iadd, 1) := by decide +kernel
theorem dX9_charAt_72 : decode cX9_charAt 72 = .ok (.i2c, 1) := by decide +kernel
theorem dX9_charAt_73 : decode cX9_charAt 73 = .ok (.ireturn, 1) := by decide +kernel
theorem dX9_charAt_74 : decode cX9_charAt 74 = .ok (.iinc 2 1, 3) := by decide +kernel
theorem dX9_charAt_77 : decode cX9_charAt 77 = .ok (.aload_n 0, 1) := by decide +kernel
theorem dX9_charAt_78 : decode cX9_charAt 78 = .ok (.getfield 7, 3) := by decide +kernel
theorem dX9_charAt_81 : decode cX9_charAt 81 = .ok (.iload_n 3, 1) := by decide +kernel
theorem dX9_charAt_82 : decode cX9_charAt 82 = .ok (.iaload, 1) := by decide +kernel
theorem dX9_charAt_83 : decode cX9_charAt 83 = .ok (.bipush 8, 2) := by decide +kernel
theorem dX9_charAt_85 : decode cX9_charAt 85 = .ok (.if_icmp .ne 14, 3) := by decide +kernel
theorem dX9_charAt_88 : decode cX9_charAt 88 = .ok (.iload_n 2, 1) := by decide +kernel
theorem dX9_charAt_89 : decode cX9_charAt 89 = .ok (.iload_n 1, 1) := by decide +kernel
theorem dX9_charAt_90 : decode cX9_charAt 90 = .ok (.if_icmp .ne 6, 3) := by decide +kernel
theorem dX9_charAt_93 : decode cX9_charAt 93 = .ok (.ldc 93, 2) := by decide +kernel
theorem dX9_charAt_95 : decode cX9_charAt 95 = .ok (.ireturn, 1) := by decide +kernel
theorem dX9_charAt_96 : decode cX9_charAt 96 = .ok (.iinc 2 1, 3) := by decide +kernel
theorem dX9_charAt_99 : decode cX9_charAt 99 = .ok (.iinc 3 1, 3) := by decide +kernel
theorem dX9_charAt_102 : decode cX9_charAt 102 = .ok (.goto (-75), 3) := by decide +kernel
theorem dX9_charAt_105 : decode cX9_charAt 105 = .ok (.iconst 0, 1) := by decide +kernel
theorem dX9_charAt_106 : decode cX9_charAt 106 = .ok (.ireturn, 1) := by decide +kernel
theorem dX9_isWord_0 : decode cX9_isWord 0 = .ok (.iload_n 1, 1) := by decide +kernel
theorem dX9_isWord_1 : decode cX9_isWord 1 = .ok (.iconst 0, 1) := by decide +kernel
theorem dX9_isWord_2 : decode cX9_isWord 2 = .ok (.aload_n 0, 1) := by decide +kernel
theorem dX9_isWord_3 : decode cX9_isWord 3 = .ok (.getfield 94, 3) := by decide +kernel
theorem dX9_isWord_6 : decode cX9_isWord 6 = .ok (.iconst 1, 1) := by decide +kernel
theorem dX9_isWord_7 : decode cX9_isWord 7 = .ok (.isub, 1) := by decide +kernel
theorem dX9_isWord_8 : decode cX9_isWord 8 = .ok (.invokestatic 80, 3) := by decide +kernel
theorem dX9_isWord_11 : decode cX9_isWord 11 = .ok (.ireturn, 1) := by decide +kernel
theorem dX9_addWord_0 : decode cX9_addWord 0 = .ok (.aload_n 0, 1) := by decide +kernel
theorem dX9_addWord_1 : decode cX9_addWord 1 = .ok (.iload_n 1, 1) := by decide +kernel
theorem dX9_addWord_2 : decode cX9_addWord 2 = .ok (.iconst 0, 1) := by decide +kernel
theorem dX9_addWord_3 : decode cX9_addWord 3 = .ok (.bipush 99, 2) := by decide +kernel
theorem dX9_addWord_5 : decode cX9_addWord 5 = .ok (.invokestatic 80, 3) := by decide +kernel
theorem dX9_addWord_8 : decode cX9_addWord 8 = .ok (.ifCond .eq 7, 3) := by decide +kernel
theorem dX9_addWord_11 : decode cX9_addWord 11 = .ok (.iconst 0, 1) := by decide +kernel
theorem dX9_addWord_12 : decode cX9_addWord 12 = .ok (.goto 4, 3) := by decide +kernel
theorem dX9_addWord_15 : decode cX9_addWord 15 = .ok (.iconst 1, 1) := by decide +kernel
theorem dX9_addWord_16 : decode cX9_addWord 16 = .ok (.putfield 73, 3) := by decide +kernel
theorem dX9_addWord_19 : decode cX9_addWord 19 = .ok (.aload_n 0, 1) := by decide +kernel
theorem dX9_addWord_20 : decode cX9_addWord 20 = .ok (.getfield 73, 3) := by decide +kernel
theorem dX9_addWord_23 : decode cX9_addWord 23 = .ok (.ifCond .le 5, 3) := by decide +kernel
theorem dX9_addWord_26 : decode cX9_addWord 26 = .ok (.iconst 0, 1) := by decide +kernel
theorem dX9_addWord_27 : decode cX9_addWord 27 = .ok (.ireturn, 1) := by decide +kernel
theorem dX9_addWord_28 : decode cX9_addWord 28 = .ok (.bipush 81, 2) := by decide +kernel
theorem dX9_addWord_30 : decode cX9_addWord 30 = .ok (.aload_n 0, 1) := by decide +kernel
theorem dX9_addWord_31 : decode cX9_addWord 31 = .ok (.getfield 7, 3) := by decide +kernel
theorem dX9_addWord_34 : decode cX9_addWord 34 = .ok (.iconst 0, 1) := by decide +kernel
theorem dX9_addWord_35 : decode cX9_addWord 35 = .ok (.iaload, 1) := by decide +kernel
theorem dX9_addWord_36 : decode cX9_addWord 36 = .ok (.imul, 1) := by decide +kernel
theorem dX9_addWord_37 : decode cX9_addWord 37 = .ok (.bipush 9, 2) := by decide +kernel
theorem dX9_addWord_39 : decode cX9_addWord 39 = .ok (.aload_n 0, 1) := by decide +kernel
theorem dX9_addWord_40 : decode cX9_addWord 40 = .ok (.getfield 7, 3) := by decide +kernel
theorem dX9_addWord_43 : decode cX9_addWord 43 = .ok (.iconst 1, 1) := by decide +kernel
theorem dX9_addWord_44 : decode cX9_addWord 44 = .ok (.iaload, 1) := by decide +kernel
theorem dX9_addWord_45 : decode cX9_addWord 45 = .ok (.imul, 1) := by decide +kernel
theorem dX9_addWord_46 : decode cX9_addWord 46 = .ok (.iadd, 1) := by decide +kernel
theorem dX9_addWord_47 : decode cX9_addWord 47 = .ok (.aload_n 0, 1) := by decide +kernel
theorem dX9_addWord_48 : decode cX9_addWord 48 = .ok (.getfield 7, 3) := by decide +kernel
theorem dX9_addWord_51 : decode cX9_addWord 51 = .ok (.iconst 2, 1) := by decide +kernel
theorem dX9_addWord_52 : decode cX9_addWord 52 = .ok (.iaload, 1) := by decide +kernel
theorem dX9_addWord_53 : decode cX9_addWord 53 = .ok (.iadd, 1) := by decide +kernel
theorem dX9_addWord_54 : decode cX9_addWord 54 = .ok (.istore_n 2, 1) := by decide +kernel
theorem dX9_addWord_55 : decode cX9_addWord 55 = .ok (.aload_n 0, 1) := by decide +kernel
theorem dX9_addWord_56 : decode cX9_addWord 56 = .ok (.getfield 77, 3) := by decide +kernel
theorem dX9_addWord_59 : decode cX9_addWord 59 = .ok (.iconst 3, 1) := by decide +kernel
theorem dX9_addWord_60 : decode cX9_addWord 60 = .ok (.if_icmp .ne 21, 3) := by decide +kernel
theorem dX9_addWord_63 : decode cX9_addWord 63 = .ok (.aload_n 0, 1) := by decide +kernel
theorem dX9_addWord_64 : decode cX9_addWord 64 = .ok (.getfield 13, 3) := by decide +kernel
theorem dX9_addWord_67 : decode cX9_addWord 67 = .ok (.iload_n 2, 1) := by decide +kernel
theorem dX9_addWord_68 : decode cX9_addWord 68 = .ok (.iaload, 1) := by decide +kernel
theorem dX9_addWord_69 : decode cX9_addWord 69 = .ok (.ifCond .gt 12, 3) := by decide +kernel
theorem dX9_addWord_72 : decode cX9_addWord 72 = .ok (.aload_n 0, 1) := by decide +kernel
theorem dX9_addWord_73 : decode cX9_addWord 73 = .ok (.getfield 94, 3) := by decide +kernel
theorem dX9_addWord_76 : decode cX9_addWord 76 = .ok (.bipush 30, 2) := by decide +kernel
theorem dX9_addWord_78 : decode cX9_addWord 78 = .ok (.if_icmp .ne 9, 3) := by decide +kernel
theorem dX9_addWord_81 : decode cX9_addWord 81 = .ok (.aload_n 0, 1) := by decide +kernel
theorem dX9_addWord_82 : decode cX9_addWord 82 = .ok (.iconst 2, 1) := by decide +kernel
theorem dX9_addWord_83 : decode cX9_addWord 83 = .ok (.invokevirtual 97, 3) := by decide +kernel
theorem dX9_addWord_86 : decode cX9_addWord 86 = .ok (.ireturn, 1) := by decide +kernel
theorem dX9_addWord_87 : decode cX9_addWord 87 = .ok (.aload_n 0, 1) := by decide +kernel
theorem dX9_addWord_88 : decode cX9_addWord 88 = .ok (.getfield 16, 3) := by decide +kernel
theorem dX9_addWord_91 : decode cX9_addWord 91 = .ok (.aload_n 0, 1) := by decide +kernel
theorem dX9_addWord_92 : decode cX9_addWord 92 = .ok (.getfield 94, 3) := by decide +kernel
theorem dX9_addWord_95 : decode cX9_addWord 95 = .ok (.iload_n 2, 1) := by decide +kernel
theorem dX9_addWord_96 : decode cX9_addWord 96 = .ok (.iastore, 1) := by decide +kernel
theorem dX9_addWord_97 : decode cX9_addWord 97 = .ok (.aload_n 0, 1) := by decide +kernel
theorem dX9_addWord_98 : decode cX9_addWord 98 = .ok (.getfield 19, 3) := by decide +kernel
theorem dX9_addWord_101 : decode cX9_addWord 101 = .ok (.aload_n 0, 1) := by decide +kernel
theorem dX9_addWord_102 : decode cX9_addWord 102 = .ok (.getfield 94, 3) := by decide +kernel
theorem dX9_addWord_105 : decode cX9_addWord 105 = .ok (.iload_n 1, 1) := by decide +kernel
theorem dX9_addWord_106 : decode cX9_addWord 106 = .ok (.iastore, 1) := by decide +kernel
theorem dX9_addWord_107 : decode cX9_addWord 107 = .ok (.aload_n 0, 1) := by decide +kernel
theorem dX9_addWord_108 : decode cX9_addWord 108 = .ok (.dup, 1) := by decide +kernel
theorem dX9_addWord_109 : decode cX9_addWord 109 = .ok (.getfield 94, 3) := by decide +kernel
theorem dX9_addWord_112 : decode cX9_addWord 112 = .ok (.iconst 1, 1) := by decide +kernel
theorem dX9_addWord_113 : decode cX9_addWord 113 = .ok (.iadd, 1) := by decide +kernel
theorem dX9_addWord_114 : decode cX9_addWord 114 = .ok (.putfield 94, 3) := by decide +kernel
theorem dX9_addWord_117 : decode cX9_addWord 117 = .ok (.aload_n 0, 1) := by decide +kernel
theorem dX9_addWord_118 : decode cX9_addWord 118 = .ok (.getfield 13, 3) := by decide +kernel
theorem dX9_addWord_121 : decode cX9_addWord 121 = .ok (.iload_n 2, 1) := by decide +kernel
theorem dX9_addWord_122 : decode cX9_addWord 122 = .ok (.aload_n 0, 1) := by decide +kernel
theorem dX9_addWord_123 : decode cX9_addWord 123 = .ok (.getfield 94, 3) := by decide +kernel
theorem dX9_addWord_126 : decode cX9_addWord 126 = .ok (.iastore, 1) := by decide +kernel
theorem dX9_addWord_127 : decode cX9_addWord 127 = .ok (.aload_n 0, 1) := by decide +kernel
theorem dX9_addWord_128 : decode cX9_addWord 128 = .ok (.getfield 94, 3) := by decide +kernel
theorem dX9_addWord_131 : decode cX9_addWord 131 = .ok (.iconst 1, 1) := by decide +kernel
theorem dX9_addWord_132 : decode cX9_addWord 132 = .ok (.isub, 1) := by decide +kernel
theorem dX9_addWord_133 : decode cX9_addWord 133 = .ok (.ireturn, 1) := by decide +kernel
theorem dX9_setWeight_0 : decode cX9_setWeight 0 = .ok (.aload_n 0, 1) := by decide +kernel
theorem dX9_setWeight_1 : decode cX9_setWeight 1 = .ok (.aload_n 0, 1) := by decide +kernel
theorem dX9_setWeight_2 : decode cX9_setWeight 2 = .ok (.iload_n 1, 1) := by decide +kernel
theorem dX9_setWeight_3 : decode cX9_setWeight 3 = .ok (.invokevirtual 101, 3) := by decide +kernel
theorem dX9_setWeight_6 : decode cX9_setWeight 6 = .ok (.ifCond .ne 7, 3) := by decide +kernel
theorem dX9_setWeight_9 : decode cX9_setWeight 9 = .ok (.iconst 1, 1) := by decide +kernel
theorem dX9_setWeight_10 : decode cX9_setWeight 10 = .ok (.goto 18, 3) := by decide +kernel
theorem dX9_setWeight_13 : decode cX9_setWeight 13 = .ok (.iload_n 2, 1) := by decide +kernel
theorem dX9_setWeight_14 : decode cX9_setWeight 14 = .ok (.iconst 0, 1) := by decide +kernel
theorem dX9_setWeight_15 : decode cX9_setWeight 15 = .ok (.bipush 99, 2) := by decide +kernel
theorem dX9_setWeight_17 : decode cX9_setWeight 17 = .ok (.invokestatic 80, 3) := by decide +kernel
theorem dX9_setWeight_20 : decode cX9_setWeight 20 = .ok (.ifCond .ne 7, 3) := by decide +kernel
theorem dX9_setWeight_23 : decode cX9_setWeight 23 = .ok (.iconst 2, 1) := by decide +kernel
theorem dX9_setWeight_24 : decode cX9_setWeight 24 = .ok (.goto 4, 3) := by decide +kernel
theorem dX9_setWeight_27 : decode cX9_setWeight 27 = .ok (.iconst 0, 1) := by decide +kernel
theorem dX9_setWeight_28 : decode cX9_setWeight 28 = .ok (.putfield 73, 3) := by decide +kernel
theorem dX9_setWeight_31 : decode cX9_setWeight 31 = .ok (.aload_n 0, 1) := by decide +kernel
theorem dX9_setWeight_32 : decode cX9_setWeight 32 = .ok (.getfield 73, 3) := by decide +kernel
theorem dX9_setWeight_35 : decode cX9_setWeight 35 = .ok (.ifCond .le 5, 3) := by decide +kernel
theorem dX9_setWeight_38 : decode cX9_setWeight 38 = .ok (.iconst 0, 1) := by decide +kernel
theorem dX9_setWeight_39 : decode cX9_setWeight 39 = .ok (.ireturn, 1) := by decide +kernel
theorem dX9_setWeight_40 : decode cX9_setWeight 40 = .ok (.aload_n 0, 1) := by decide +kernel
theorem dX9_setWeight_41 : decode cX9_setWeight 41 = .ok (.getfield 19, 3) := by decide +kernel
theorem dX9_setWeight_44 : decode cX9_setWeight 44 = .ok (.iload_n 1, 1) := by decide +kernel
theorem dX9_setWeight_45 : decode cX9_setWeight 45 = .ok (.iaload, 1) := by decide +kernel
theorem dX9_setWeight_46 : decode cX9_setWeight 46 = .ok (.istore_n 3, 1) := by decide +kernel
theorem dX9_setWeight_47 : decode cX9_setWeight 47 = .ok (.aload_n 0, 1) := by decide +kernel
theorem dX9_setWeight_48 : decode cX9_setWeight 48 = .ok (.getfield 19, 3) := by decide +kernel
theorem dX9_setWeight_51 : decode cX9_setWeight 51 = .ok (.iload_n 1, 1) := by decide +kernel
theorem dX9_setWeight_52 : decode cX9_setWeight 52 = .ok (.iload_n 2, 1) := by decide +kernel
theorem dX9_setWeight_53 : decode cX9_setWeight 53 = .ok (.iastore, 1) := by decide +kernel
theorem dX9_setWeight_54 : decode cX9_setWeight 54 = .ok (.iload_n 3, 1) := by decide +kernel
theorem dX9_setWeight_55 : decode cX9_setWeight 55 = .ok (.ireturn, 1) := by decide +kernel
theorem dX9_orders_0 : decode cX9_orders 0 = .ok (.iconst 0, 1) := by decide +kernel
theorem dX9_orders_1 : decode cX9_orders 1 = .ok (.istore_n 1, 1) := by decide +kernel
theorem dX9_orders_2 : decode cX9_orders 2 = .ok (.iconst 0, 1) := by decide +kernel
theorem dX9_orders_3 : decode cX9_orders 3 = .ok (.istore_n 2, 1) := by decide +kernel
theorem dX9_orders_4 : decode cX9_orders 4 = .ok (.iload_n 2, 1) := by decide +kernel
theorem dX9_orders_5 : decode cX9_orders 5 = .ok (.sipush 729, 3) := by decide +kernel
theorem dX9_orders_8 : decode cX9_orders 8 = .ok (.if_icmp .ge 35, 3) := by decide +kernel
theorem dX9_orders_11 : decode cX9_orders 11 = .ok (.aload_n 0, 1) := by decide +kernel
theorem dX9_orders_12 : decode cX9_orders 12 = .ok (.getfield 13, 3) := by decide +kernel
theorem dX9_orders_15 : decode cX9_orders 15 = .ok (.iload_n 2, 1) := by decide +kernel
theorem dX9_orders_16 : decode cX9_orders 16 = .ok (.iaload, 1) := by decide +kernel
theorem dX9_orders_17 : decode cX9_orders 17 = .ok (.ifCond .le 20, 3) := by decide +kernel
theorem dX9_orders_20 : decode cX9_orders 20 = .ok (.aload_n 0, 1) := by decide +kernel
theorem dX9_orders_21 : decode cX9_orders 21 = .ok (.getfield 22, 3) := by decide +kernel
theorem dX9_orders_24 : decode cX9_orders 24 = .ok (.iload_n 1, 1) := by decide +kernel
theorem dX9_orders_25 : decode cX9_orders 25 = .ok (.aload_n 0, 1) := by decide +kernel
theorem dX9_orders_26 : decode cX9_orders 26 = .ok (.getfield 13, 3) := by decide +kernel
theorem dX9_orders_29 : decode cX9_orders 29 = .ok (.iload_n 2, 1) := by decide +kernel
theorem dX9_orders_30 : decode cX9_orders 30 = .ok (.iaload, 1) := by decide +kernel
theorem dX9_orders_31 : decode cX9_orders 31 = .ok (.iconst 1, 1) := by decide +kernel
theorem dX9_orders_32 : decode cX9_orders 32 = .ok (.isub, 1) := by decide +kernel
theorem dX9_orders_33 : decode cX9_orders 33 = .ok (.iastore, 1) := by decide +kernel
theorem dX9_orders_34 : decode cX9_orders 34 = .ok (.iinc 1 1, 3) := by decide +kernel
theorem dX9_orders_37 : decode cX9_orders 37 = .ok (.iinc 2 1, 3) := by decide +kernel
theorem dX9_orders_40 : decode cX9_orders 40 = .ok (.goto (-36), 3) := by decide +kernel
theorem dX9_orders_43 : decode cX9_orders 43 = .ok (.return_, 1) := by decide +kernel
theorem dX9_wordAt_0 : decode cX9_wordAt 0 = .ok (.aload_n 0, 1) := by decide +kernel
theorem dX9_wordAt_1 : decode cX9_wordAt 1 = .ok (.iconst 0, 1) := by decide +kernel
theorem dX9_wordAt_2 : decode cX9_wordAt 2 = .ok (.putfield 73, 3) := by decide +kernel
theorem dX9_wordAt_5 : decode cX9_wordAt 5 = .ok (.aload_n 0, 1) := by decide +kernel
theorem dX9_wordAt_6 : decode cX9_wordAt 6 = .ok (.invokevirtual 104, 3) := by decide +kernel
theorem dX9_wordAt_9 : decode cX9_wordAt 9 = .ok (.iload_n 1, 1) := by decide +kernel
theorem dX9_wordAt_10 : decode cX9_wordAt 10 = .ok (.iconst 0, 1) := by decide +kernel
theorem dX9_wordAt_11 : decode cX9_wordAt 11 = .ok (.aload_n 0, 1) := by decide +kernel
theorem dX9_wordAt_12 : decode cX9_wordAt 12 = .ok (.getfield 94, 3) := by decide +kernel
theorem dX9_wordAt_15 : decode cX9_wordAt 15 = .ok (.iconst 1, 1) := by decide +kernel
theorem dX9_wordAt_16 : decode cX9_wordAt 16 = .ok (.isub, 1) := by decide +kernel
theorem dX9_wordAt_17 : decode cX9_wordAt 17 = .ok (.invokestatic 80, 3) := by decide +kernel
theorem dX9_wordAt_20 : decode cX9_wordAt 20 = .ok (.ifCond .eq 12, 3) := by decide +kernel
theorem dX9_wordAt_23 : decode cX9_wordAt 23 = .ok (.aload_n 0, 1) := by decide +kernel
theorem dX9_wordAt_24 : decode cX9_wordAt 24 = .ok (.getfield 22, 3) := by decide +kernel
theorem dX9_wordAt_27 : decode cX9_wordAt 27 = .ok (.iload_n 1, 1) := by decide +kernel
theorem dX9_wordAt_28 : decode cX9_wordAt 28 = .ok (.iaload, 1) := by decide +kernel
theorem dX9_wordAt_29 : decode cX9_wordAt 29 = .ok (.goto 4, 3) := by decide +kernel
theorem dX9_wordAt_32 : decode cX9_wordAt 32 = .ok (.iconst (-1), 1) := by decide +kernel
theorem dX9_wordAt_33 : decode cX9_wordAt 33 = .ok (.ireturn, 1) := by decide +kernel
theorem dX9_letterOf_0 : decode cX9_letterOf 0 = .ok (.iload_n 1, 1) := by decide +kernel
theorem dX9_letterOf_1 : decode cX9_letterOf 1 = .ok (.ifCond .ne 10, 3) := by decide +kernel
theorem dX9_letterOf_4 : decode cX9_letterOf 4 = .ok (.iload_n 0, 1) := by decide +kernel
theorem dX9_letterOf_5 : decode cX9_letterOf 5 = .ok (.bipush 81, 2) := by decide +kernel
theorem dX9_letterOf_7 : decode cX9_letterOf 7 = .ok (.idiv, 1) := by decide +kernel
theorem dX9_letterOf_8 : decode cX9_letterOf 8 = .ok (.goto 22, 3) := by decide +kernel
theorem dX9_letterOf_11 : decode cX9_letterOf 11 = .ok (.iload_n 1, 1) := by decide +kernel
theorem dX9_letterOf_12 : decode cX9_letterOf 12 = .ok (.iconst 1, 1) := by decide +kernel
theorem dX9_letterOf_13 : decode cX9_letterOf 13 = .ok (.if_icmp .ne 13, 3) := by decide +kernel
theorem dX9_letterOf_16 : decode cX9_letterOf 16 = .ok (.iload_n 0, 1) := by decide +kernel
theorem dX9_letterOf_17 : decode cX9_letterOf 17 = .ok (.bipush 9, 2) := by decide +kernel
theorem dX9_letterOf_19 : decode cX9_letterOf 19 = .ok (.idiv, 1) := by decide +kernel
theorem dX9_letterOf_20 : decode cX9_letterOf 20 = .ok (.bipush 9, 2) := by decide +kernel
theorem dX9_letterOf_22 : decode cX9_letterOf 22 = .ok (.irem, 1) := by decide +kernel
theorem dX9_letterOf_23 : decode cX9_letterOf 23 = .ok (.goto 7, 3) := by decide +kernel
theorem dX9_letterOf_26 : decode cX9_letterOf 26 = .ok (.iload_n 0, 1) := by decide +kernel
theorem dX9_letterOf_27 : decode cX9_letterOf 27 = .ok (.bipush 9, 2) := by decide +kernel
theorem dX9_letterOf_29 : decode cX9_letterOf 29 = .ok (.irem, 1) := by decide +kernel
theorem dX9_letterOf_30 : decode cX9_letterOf 30 = .ok (.ireturn, 1) := by decide +kernel
theorem dX9_beginning_0 : decode cX9_beginning 0 = .ok (.aload_n 0, 1) := by decide +kernel
theorem dX9_beginning_1 : decode cX9_beginning 1 = .ok (.iconst 0, 1) := by decide +kernel
theorem dX9_beginning_2 : decode cX9_beginning 2 = .ok (.putfield 73, 3) := by decide +kernel
theorem dX9_beginning_5 : decode cX9_beginning 5 = .ok (.iconst 0, 1) := by decide +kernel
theorem dX9_beginning_6 : decode cX9_beginning 6 = .ok (.istore_n 1, 1) := by decide +kernel
theorem dX9_beginning_7 : decode cX9_beginning 7 = .ok (.iconst 0, 1) := by decide +kernel
theorem dX9_beginning_8 : decode cX9_beginning 8 = .ok (.istore_n 2, 1) := by decide +kernel
theorem dX9_beginning_9 : decode cX9_beginning 9 = .ok (.iload_n 2, 1) := by decide +kernel
theorem dX9_beginning_10 : decode cX9_beginning 10 = .ok (.aload_n 0, 1) := by decide +kernel
theorem dX9_beginning_11 : decode cX9_beginning 11 = .ok (.getfield 94, 3) := by decide +kernel
theorem dX9_beginning_14 : decode cX9_beginning 14 = .ok (.if_icmp .ge 72, 3) := by decide +kernel
theorem dX9_beginning_17 : decode cX9_beginning 17 = .ok (.iconst 1, 1) := by decide +kernel
theorem dX9_beginning_18 : decode cX9_beginning 18 = .ok (.istore_n 3, 1) := by decide +kernel
theorem dX9_beginning_19 : decode cX9_beginning 19 = .ok (.iconst 0, 1) := by decide +kernel
theorem dX9_beginning_20 : decode cX9_beginning 20 = .ok (.istore 4, 2) := by decide +kernel
theorem dX9_beginning_22 : decode cX9_beginning 22 = .ok (.iload 4, 2) := by decide +kernel
theorem dX9_beginning_24 : decode cX9_beginning 24 = .ok (.aload_n 0, 1) := by decide +kernel
theorem dX9_beginning_25 : decode cX9_beginning 25 = .ok (.getfield 77, 3) := by decide +kernel
theorem dX9_beginning_28 : decode cX9_beginning 28 = .ok (.if_icmp .ge 40, 3) := by decide +kernel
theorem dX9_beginning_31 : decode cX9_beginning 31 = .ok (.iload_n 3, 1) := by decide +kernel
theorem dX9_beginning_32 : decode cX9_beginning 32 = .ok (.ifCond .eq 28, 3) := by decide +kernel
theorem dX9_beginning_35 : decode cX9_beginning 35 = .ok (.aload_n 0, 1) := by decide +kernel
theorem dX9_beginning_36 : decode cX9_beginning 36 = .ok (.getfield 16, 3) := by decide +kernel
theorem dX9_beginning_39 : decode cX9_beginning 39 = .ok (.iload_n 2, 1) := by decide +kernel
theorem dX9_beginning_40 : decode cX9_beginning 40 = .ok (.iaload, 1) := by decide +kernel
theorem dX9_beginning_41 : decode cX9_beginning 41 = .ok (.iload 4, 2) := by decide +kernel
theorem dX9_beginning_43 : decode cX9_beginning 43 = .ok (.invokestatic 107, 3) := by decide +kernel
theorem dX9_beginning_46 : decode cX9_beginning 46 = .ok (.aload_n 0, 1) := by decide +kernel
theorem dX9_beginning_47 : decode cX9_beginning 47 = .ok (.getfield 7, 3) := by decide +kernel
theorem dX9_beginning_50 : decode cX9_beginning 50 = .ok (.iload 4, 2) := by decide +kernel
theorem dX9_beginning_52 : decode cX9_beginning 52 = .ok (.iaload, 1) := by decide +kernel
theorem dX9_beginning_53 : decode cX9_beginning 53 = .ok (.if_icmp .ne 7, 3) := by decide +kernel
theorem dX9_beginning_56 : decode cX9_beginning 56 = .ok (.iconst 1, 1) := by decide +kernel
theorem dX9_beginning_57 : decode cX9_beginning 57 = .ok (.goto 4, 3) := by decide +kernel
theorem dX9_beginning_60 : decode cX9_beginning 60 = .ok (.iconst 0, 1) := by decide +kernel
theorem dX9_beginning_61 : decode cX9_beginning 61 = .ok (.istore_n 3, 1) := by decide +kernel
theorem dX9_beginning_62 : decode cX9_beginning 62 = .ok (.iinc 4 1, 3) := by decide +kernel
theorem dX9_beginning_65 : decode cX9_beginning 65 = .ok (.goto (-43), 3) := by decide +kernel
theorem dX9_beginning_68 : decode cX9_beginning 68 = .ok (.iload_n 1, 1) := by decide +kernel
theorem dX9_beginning_69 : decode cX9_beginning 69 = .ok (.iload_n 3, 1) := by decide +kernel
theorem dX9_beginning_70 : decode cX9_beginning 70 = .ok (.ifCond .eq 7, 3) := by decide +kernel
theorem dX9_beginning_73 : decode cX9_beginning 73 = .ok (.iconst 1, 1) := by decide +kernel
theorem dX9_beginning_74 : decode cX9_beginning 74 = .ok (.goto 4, 3) := by decide +kernel
theorem dX9_beginning_77 : decode cX9_beginning 77 = .ok (.iconst 0, 1) := by decide +kernel
theorem dX9_beginning_78 : decode cX9_beginning 78 = .ok (.iadd, 1) := by decide +kernel
theorem dX9_beginning_79 : decode cX9_beginning 79 = .ok (.istore_n 1, 1) := by decide +kernel
theorem dX9_beginning_80 : decode cX9_beginning 80 = .ok (.iinc 2 1, 3) := by decide +kernel
theorem dX9_beginning_83 : decode cX9_beginning 83 = .ok (.goto (-74), 3) := by decide +kernel
theorem dX9_beginning_86 : decode cX9_beginning 86 = .ok (.iload_n 1, 1) := by decide +kernel
theorem dX9_beginning_87 : decode cX9_beginning 87 = .ok (.ireturn, 1) := by decide +kernel
theorem dX9_fix_0 : decode cX9_fix 0 = .ok (.aload_n 0, 1) := by decide +kernel
theorem dX9_fix_1 : decode cX9_fix 1 = .ok (.iload_n 1, 1) := by decide +kernel
theorem dX9_fix_2 : decode cX9_fix 2 = .ok (.iconst 0, 1) := by decide +kernel
theorem dX9_fix_3 : decode cX9_fix 3 = .ok (.bipush 8, 2) := by decide +kernel
theorem dX9_fix_5 : decode cX9_fix 5 = .ok (.invokestatic 80, 3) := by decide +kernel
theorem dX9_fix_8 : decode cX9_fix 8 = .ok (.ifCond .eq 17, 3) := by decide +kernel
theorem dX9_fix_11 : decode cX9_fix 11 = .ok (.iload_n 2, 1) := by decide +kernel
theorem dX9_fix_12 : decode cX9_fix 12 = .ok (.iconst (-1), 1) := by decide +kernel
theorem dX9_fix_13 : decode cX9_fix 13 = .ok (.bipush 8, 2) := by decide +kernel
theorem dX9_fix_15 : decode cX9_fix 15 = .ok (.invokestatic 80, 3) := by decide +kernel
theorem dX9_fix_18 : decode cX9_fix 18 = .ok (.ifCond .eq 7, 3) := by decide +kernel
theorem dX9_fix_21 : decode cX9_fix 21 = .ok (.iconst 0, 1) := by decide +kernel
theorem dX9_fix_22 : decode cX9_fix 22 = .ok (.goto 4, 3) := by decide +kernel
theorem dX9_fix_25 : decode cX9_fix 25 = .ok (.iconst 1, 1) := by decide +kernel
theorem dX9_fix_26 : decode cX9_fix 26 = .ok (.putfield 73, 3) := by decide +kernel
theorem dX9_fix_29 : decode cX9_fix 29 = .ok (.aload_n 0, 1) := by decide +kernel
theorem dX9_fix_30 : decode cX9_fix 30 = .ok (.getfield 73, 3) := by decide +kernel
theorem dX9_fix_33 : decode cX9_fix 33 = .ok (.ifCond .le 5, 3) := by decide +kernel
theorem dX9_fix_36 : decode cX9_fix 36 = .ok (.iconst 0, 1) := by decide +kernel
theorem dX9_fix_37 : decode cX9_fix 37 = .ok (.ireturn, 1) := by decide +kernel
theorem dX9_fix_38 : decode cX9_fix 38 = .ok (.aload_n 0, 1) := by decide +kernel
theorem dX9_fix_39 : decode cX9_fix 39 = .ok (.getfield 25, 3) := by decide +kernel
theorem dX9_fix_42 : decode cX9_fix 42 = .ok (.iload_n 1, 1) := by decide +kernel
theorem dX9_fix_43 : decode cX9_fix 43 = .ok (.iaload, 1) := by decide +kernel
theorem dX9_fix_44 : decode cX9_fix 44 = .ok (.iconst 1, 1) := by decide +kernel
theorem dX9_fix_45 : decode cX9_fix 45 = .ok (.isub, 1) := by decide +kernel
theorem dX9_fix_46 : decode cX9_fix 46 = .ok (.istore_n 3, 1) := by decide +kernel
theorem dX9_fix_47 : decode cX9_fix 47 = .ok (.aload_n 0, 1) := by decide +kernel
theorem dX9_fix_48 : decode cX9_fix 48 = .ok (.getfield 25, 3) := by decide +kernel
theorem dX9_fix_51 : decode cX9_fix 51 = .ok (.iload_n 1, 1) := by decide +kernel
theorem dX9_fix_52 : decode cX9_fix 52 = .ok (.iload_n 2, 1) := by decide +kernel
theorem dX9_fix_53 : decode cX9_fix 53 = .ok (.iconst 1, 1) := by decide +kernel
theorem dX9_fix_54 : decode cX9_fix 54 = .ok (.iadd, 1) := by decide +kernel
theorem dX9_fix_55 : decode cX9_fix 55 = .ok (.iastore, 1) := by decide +kernel
theorem dX9_fix_56 : decode cX9_fix 56 = .ok (.iload_n 3, 1) := by decide +kernel
theorem dX9_fix_57 : decode cX9_fix 57 = .ok (.ireturn, 1) := by decide +kernel
theorem dX9_fitsRow_0 : decode cX9_fitsRow 0 = .ok (.iconst 1, 1) := by decide +kernel
theorem dX9_fitsRow_1 : decode cX9_fitsRow 1 = .ok (.istore_n 3, 1) := by decide +kernel
theorem dX9_fitsRow_2 : decode cX9_fitsRow 2 = .ok (.iconst 0, 1) := by decide +kernel
theorem dX9_fitsRow_3 : decode cX9_fitsRow 3 = .ok (.istore 4, 2) := by decide +kernel
theorem dX9_fitsRow_5 : decode cX9_fitsRow 5 = .ok (.iload 4, 2) := by decide +kernel
theorem dX9_fitsRow_7 : decode cX9_fitsRow 7 = .ok (.iconst 3, 1) := by decide +kernel
theorem dX9_fitsRow_8 : decode cX9_fitsRow 8 = .ok (.if_icmp .ge 55, 3) := by decide +kernel
theorem dX9_fitsRow_11 : decode cX9_fitsRow 11 = .ok (.aload_n 0, 1) := by decide +kernel
theorem dX9_fitsRow_12 : decode cX9_fitsRow 12 = .ok (.getfield 25, 3) := by decide +kernel
theorem dX9_fitsRow_15 : decode cX9_fitsRow 15 = .ok (.iconst 3, 1) := by decide +kernel
theorem dX9_fitsRow_16 : decode cX9_fitsRow 16 = .ok (.iload_n 2, 1) := by decide +kernel
theorem dX9_fitsRow_17 : decode cX9_fitsRow 17 = .ok (.imul, 1) := by decide +kernel
theorem dX9_fitsRow_18 : decode cX9_fitsRow 18 = .ok (.iload 4, 2) := by decide +kernel
theorem dX9_fitsRow_20 : decode cX9_fitsRow 20 = .ok (.iadd, 1) := by decide +kernel
theorem dX9_fitsRow_21 : decode cX9_fitsRow 21 = .ok (.iaload, 1) := by decide +kernel
theorem dX9_fitsRow_22 : decode cX9_fitsRow 22 = .ok (.istore 5, 2) := by decide +kernel
theorem dX9_fitsRow_24 : decode cX9_fitsRow 24 = .ok (.iload_n 3, 1) := by decide +kernel
theorem dX9_fitsRow_25 : decode cX9_fitsRow 25 = .ok (.ifCond .eq 30, 3) := by decide +kernel
theorem dX9_fitsRow_28 : decode cX9_fitsRow 28 = .ok (.iload 5, 2) := by decide +kernel
theorem dX9_fitsRow_30 : decode cX9_fitsRow 30 = .ok (.ifCond .eq 21, 3) := by decide +kernel
theorem dX9_fitsRow_33 : decode cX9_fitsRow 33 = .ok (.iload 5, 2) := by decide +kernel
theorem dX9_fitsRow_35 : decode cX9_fitsRow 35 = .ok (.aload_n 0, 1) := by decide +kernel
theorem dX9_fitsRow_36 : decode cX9_fitsRow 36 = .ok (.getfield 16, 3) := by decide +kernel
theorem dX9_fitsRow_39 : decode cX9_fitsRow 39 = .ok (.iload_n 1, 1) := by decide +kernel
theorem dX9_fitsRow_40 : decode cX9_fitsRow 40 = .ok (.iaload, 1) := by decide +kernel
theorem dX9_fitsRow_41 : decode cX9_fitsRow 41 = .ok (.iload 4, 2) := by decide +kernel
theorem dX9_fitsRow_43 : decode cX9_fitsRow 43 = .ok (.invokestatic 107, 3) := by decide +kernel
theorem dX9_fitsRow_46 : decode cX9_fitsRow 46 = .ok (.iconst 1, 1) := by decide +kernel
theorem dX9_fitsRow_47 : decode cX9_fitsRow 47 = .ok (.iadd, 1) := by decide +kernel
theorem dX9_fitsRow_48 : decode cX9_fitsRow 48 = .ok (.if_icmp .ne 7, 3) := by decide +kernel
theorem dX9_fitsRow_51 : decode cX9_fitsRow 51 = .ok (.iconst 1, 1) := by decide +kernel
theorem dX9_fitsRow_52 : decode cX9_fitsRow 52 = .ok (.goto 4, 3) := by decide +kernel
theorem dX9_fitsRow_55 : decode cX9_fitsRow 55 = .ok (.iconst 0, 1) := by decide +kernel
theorem dX9_fitsRow_56 : decode cX9_fitsRow 56 = .ok (.istore_n 3, 1) := by decide +kernel
theorem dX9_fitsRow_57 : decode cX9_fitsRow 57 = .ok (.iinc 4 1, 3) := by decide +kernel
theorem dX9_fitsRow_60 : decode cX9_fitsRow 60 = .ok (.goto (-55), 3) := by decide +kernel
theorem dX9_fitsRow_63 : decode cX9_fitsRow 63 = .ok (.iload_n 3, 1) := by decide +kernel
theorem dX9_fitsRow_64 : decode cX9_fitsRow 64 = .ok (.ireturn, 1) := by decide +kernel
theorem dX9_columnOf_0 : decode cX9_columnOf 0 = .ok (.aload_n 0, 1) := by decide +kernel
theorem dX9_columnOf_1 : decode cX9_columnOf 1 = .ok (.getfield 13, 3) := by decide +kernel
theorem dX9_columnOf_4 : decode cX9_columnOf 4 = .ok (.bipush 81, 2) := by decide +kernel
theorem dX9_columnOf_6 : decode cX9_columnOf 6 = .ok (.aload_n 0, 1) := by decide +kernel
theorem dX9_columnOf_7 : decode cX9_columnOf 7 = .ok (.getfield 16, 3) := by decide +kernel
theorem dX9_columnOf_10 : decode cX9_columnOf 10 = .ok (.iload_n 1, 1) := by decide +kernel
theorem dX9_columnOf_11 : decode cX9_columnOf 11 = .ok (.iaload, 1) := by decide +kernel
theorem dX9_columnOf_12 : decode cX9_columnOf 12 = .ok (.iload 4, 2) := by decide +kernel
theorem dX9_columnOf_14 : decode cX9_columnOf 14 = .ok (.invokestatic 107, 3) := by decide +kernel
theorem dX9_columnOf_17 : decode cX9_columnOf 17 = .ok (.imul, 1) := by decide +kernel
theorem dX9_columnOf_18 : decode cX9_columnOf 18 = .ok (.bipush 9, 2) := by decide +kernel
theorem dX9_columnOf_20 : decode cX9_columnOf 20 = .ok (.aload_n 0, 1) := by decide +kernel
theorem dX9_columnOf_21 : decode cX9_columnOf 21 = .ok (.getfield 16, 3) := by decide +kernel
theorem dX9_columnOf_24 : decode cX9_columnOf 24 = .ok (.iload_n 2, 1) := by decide +kernel
theorem dX9_columnOf_25 : decode cX9_columnOf 25 = .ok (.iaload, 1) := by decide +kernel
theorem dX9_columnOf_26 : decode cX9_columnOf 26 = .ok (.iload 4, 2) := by decide +kernel
theorem dX9_columnOf_28 : decode cX9_columnOf 28 = .ok (.invokestatic 107, 3) := by decide +kernel
theorem dX9_columnOf_31 : decode cX9_columnOf 31 = .ok (.imul, 1) := by decide +kernel
theorem dX9_columnOf_32 : decode cX9_columnOf 32 = .ok (.iadd, 1) := by decide +kernel
theorem dX9_columnOf_33 : decode cX9_columnOf 33 = .ok (.aload_n 0, 1) := by decide +kernel
theorem dX9_columnOf_34 : decode cX9_columnOf 34 = .ok (.getfield 16, 3) := by decide +kernel
theorem dX9_columnOf_37 : decode cX9_columnOf 37 = .ok (.iload_n 3, 1) := by decide +kernel
theorem dX9_columnOf_38 : decode cX9_columnOf 38 = .ok (.iaload, 1) := by decide +kernel
theorem dX9_columnOf_39 : decode cX9_columnOf 39 = .ok (.iload 4, 2) := by decide +kernel
theorem dX9_columnOf_41 : decode cX9_columnOf 41 = .ok (.invokestatic 107, 3) := by decide +kernel
theorem dX9_columnOf_44 : decode cX9_columnOf 44 = .ok (.iadd, 1) := by decide +kernel
theorem dX9_columnOf_45 : decode cX9_columnOf 45 = .ok (.iaload, 1) := by decide +kernel
theorem dX9_columnOf_46 : decode cX9_columnOf 46 = .ok (.iconst 1, 1) := by decide +kernel
theorem dX9_columnOf_47 : decode cX9_columnOf 47 = .ok (.isub, 1) := by decide +kernel
theorem dX9_columnOf_48 : decode cX9_columnOf 48 = .ok (.ireturn, 1) := by decide +kernel
theorem dX9_tries_0 : decode cX9_tries 0 = .ok (.aload_n 0, 1) := by decide +kernel
theorem dX9_tries_1 : decode cX9_tries 1 = .ok (.getfield 19, 3) := by decide +kernel
theorem dX9_tries_4 : decode cX9_tries 4 = .ok (.iload_n 1, 1) := by decide +kernel
theorem dX9_tries_5 : decode cX9_tries 5 = .ok (.iaload, 1) := by decide +kernel
theorem dX9_tries_6 : decode cX9_tries 6 = .ok (.aload_n 0, 1) := by decide +kernel
theorem dX9_tries_7 : decode cX9_tries 7 = .ok (.getfield 19, 3) := by decide +kernel
theorem dX9_tries_10 : decode cX9_tries 10 = .ok (.iload_n 2, 1) := by decide +kernel
theorem dX9_tries_11 : decode cX9_tries 11 = .ok (.iaload, 1) := by decide +kernel
theorem dX9_tries_12 : decode cX9_tries 12 = .ok (.iadd, 1) := by decide +kernel
theorem dX9_tries_13 : decode cX9_tries 13 = .ok (.aload_n 0, 1) := by decide +kernel
theorem dX9_tries_14 : decode cX9_tries 14 = .ok (.getfield 19, 3) := by decide +kernel
theorem dX9_tries_17 : decode cX9_tries 17 = .ok (.iload_n 3, 1) := by decide +kernel
theorem dX9_tries_18 : decode cX9_tries 18 = .ok (.iaload, 1) := by decide +kernel
theorem dX9_tries_19 : decode cX9_tries 19 = .ok (.iadd, 1) := by decide +kernel
theorem dX9_tries_20 : decode cX9_tries 20 = .ok (.istore 4, 2) := by decide +kernel
theorem dX9_tries_22 : decode cX9_tries 22 = .ok (.iconst 0, 1) := by decide +kernel
theorem dX9_tries_23 : decode cX9_tries 23 = .ok (.istore 5, 2) := by decide +kernel
theorem dX9_tries_25 : decode cX9_tries 25 = .ok (.iload 5, 2) := by decide +kernel
theorem dX9_tries_27 : decode cX9_tries 27 = .ok (.iconst 3, 1) := by decide +kernel
theorem dX9_tries_28 : decode cX9_tries 28 = .ok (.if_icmp .ge 39, 3) := by decide +kernel
theorem dX9_tries_31 : decode cX9_tries 31 = .ok (.aload_n 0, 1) := by decide +kernel
theorem dX9_tries_32 : decode cX9_tries 32 = .ok (.iload_n 1, 1) := by decide +kernel
theorem dX9_tries_33 : decode cX9_tries 33 = .ok (.iload_n 2, 1) := by decide +kernel
theorem dX9_tries_34 : decode cX9_tries 34 = .ok (.iload_n 3, 1) := by decide +kernel
theorem dX9_tries_35 : decode cX9_tries 35 = .ok (.iload 5, 2) := by decide +kernel
theorem dX9_tries_37 : decode cX9_tries 37 = .ok (.invokevirtual 111, 3) := by decide +kernel
theorem dX9_tries_40 : decode cX9_tries 40 = .ok (.istore 6, 2) := by decide +kernel
theorem dX9_tries_42 : decode cX9_tries 42 = .ok (.iload 6, 2) := by decide +kernel
theorem dX9_tries_44 : decode cX9_tries 44 = .ok (.iconst (-1), 1) := by decide +kernel
theorem dX9_tries_45 : decode cX9_tries 45 = .ok (.if_icmp .ne 4, 3) := by decide +kernel
theorem dX9_tries_48 : decode cX9_tries 48 = .ok (.return_, 1) := by decide +kernel
theorem dX9_tries_49 : decode cX9_tries 49 = .ok (.iload 4, 2) := by decide +kernel
theorem dX9_tries_51 : decode cX9_tries 51 = .ok (.aload_n 0, 1) := by decide +kernel
theorem dX9_tries_52 : decode cX9_tries 52 = .ok (.getfield 19, 3) := by decide +kernel
theorem dX9_tries_55 : decode cX9_tries 55 = .ok (.iload 6, 2) := by decide +kernel
theorem dX9_tries_57 : decode cX9_tries 57 = .ok (.iaload, 1) := by decide +kernel
theorem dX9_tries_58 : decode cX9_tries 58 = .ok (.iadd, 1) := by decide +kernel
theorem dX9_tries_59 : decode cX9_tries 59 = .ok (.istore 4, 2) := by decide +kernel
theorem dX9_tries_61 : decode cX9_tries 61 = .ok (.iinc 5 1, 3) := by decide +kernel
theorem dX9_tries_64 : decode cX9_tries 64 = .ok (.goto (-39), 3) := by decide +kernel
theorem dX9_tries_67 : decode cX9_tries 67 = .ok (.aload_n 0, 1) := by decide +kernel
theorem dX9_tries_68 : decode cX9_tries 68 = .ok (.dup, 1) := by decide +kernel
theorem dX9_tries_69 : decode cX9_tries 69 = .ok (.getfield 115, 3) := by decide +kernel
theorem dX9_tries_72 : decode cX9_tries 72 = .ok (.iconst 1, 1) := by decide +kernel
theorem dX9_tries_73 : decode cX9_tries 73 = .ok (.iadd, 1) := by decide +kernel
theorem dX9_tries_74 : decode cX9_tries 74 = .ok (.putfield 115, 3) := by decide +kernel
theorem dX9_tries_77 : decode cX9_tries 77 = .ok (.iload 4, 2) := by decide +kernel
theorem dX9_tries_79 : decode cX9_tries 79 = .ok (.aload_n 0, 1) := by decide +kernel
theorem dX9_tries_80 : decode cX9_tries 80 = .ok (.getfield 118, 3) := by decide +kernel
theorem dX9_tries_83 : decode cX9_tries 83 = .ok (.if_icmp .le 30, 3) := by decide +kernel
theorem dX9_tries_86 : decode cX9_tries 86 = .ok (.aload_n 0, 1) := by decide +kernel
theorem dX9_tries_87 : decode cX9_tries 87 = .ok (.iload 4, 2) := by decide +kernel
theorem dX9_tries_89 : decode cX9_tries 89 = .ok (.putfield 118, 3) := by decide +kernel
theorem dX9_tries_92 : decode cX9_tries 92 = .ok (.aload_n 0, 1) := by decide +kernel
theorem dX9_tries_93 : decode cX9_tries 93 = .ok (.getfield 28, 3) := by decide +kernel
theorem dX9_tries_96 : decode cX9_tries 96 = .ok (.iconst 0, 1) := by decide +kernel
theorem dX9_tries_97 : decode cX9_tries 97 = .ok (.iload_n 1, 1) := by decide +kernel
theorem dX9_tries_98 : decode cX9_tries 98 = .ok (.iastore, 1) := by decide +kernel
theorem dX9_tries_99 : decode cX9_tries 99 = .ok (.aload_n 0, 1) := by decide +kernel
theorem dX9_tries_100 : decode cX9_tries 100 = .ok (.getfield 28, 3) := by decide +kernel
theorem dX9_tries_103 : decode cX9_tries 103 = .ok (.iconst 1, 1) := by decide +kernel
theorem dX9_tries_104 : decode cX9_tries 104 = .ok (.iload_n 2, 1) := by decide +kernel
theorem dX9_tries_105 : decode cX9_tries 105 = .ok (.iastore, 1) := by decide +kernel
theorem dX9_tries_106 : decode cX9_tries 106 = .ok (.aload_n 0, 1) := by decide +kernel
theorem dX9_tries_107 : decode cX9_tries 107 = .ok (.getfield 28, 3) := by decide +kernel
theorem dX9_tries_110 : decode cX9_tries 110 = .ok (.iconst 2, 1) := by decide +kernel
theorem dX9_tries_111 : decode cX9_tries 111 = .ok (.iload_n 3, 1) := by decide +kernel
theorem dX9_tries_112 : decode cX9_tries 112 = .ok (.iastore, 1) := by decide +kernel
theorem dX9_tries_113 : decode cX9_tries 113 = .ok (.return_, 1) := by decide +kernel
theorem dX9_findsFills_0 : decode cX9_findsFills 0 = .ok (.aload_n 0, 1) := by decide +kernel
theorem dX9_findsFills_1 : decode cX9_findsFills 1 = .ok (.invokevirtual 104, 3) := by decide +kernel
theorem dX9_findsFills_4 : decode cX9_findsFills 4 = .ok (.aload_n 0, 1) := by decide +kernel
theorem dX9_findsFills_5 : decode cX9_findsFills 5 = .ok (.iconst 0, 1) := by decide +kernel
theorem dX9_findsFills_6 : decode cX9_findsFills 6 = .ok (.putfield 115, 3) := by decide +kernel
theorem dX9_findsFills_9 : decode cX9_findsFills 9 = .ok (.aload_n 0, 1) := by decide +kernel
theorem dX9_findsFills_10 : decode cX9_findsFills 10 = .ok (.iconst (-1), 1) := by decide +kernel
theorem dX9_findsFills_11 : decode cX9_findsFills 11 = .ok (.putfield 118, 3) := by decide +kernel
theorem dX9_findsFills_14 : decode cX9_findsFills 14 = .ok (.iconst 0, 1) := by decide +kernel
theorem dX9_findsFills_15 : decode cX9_findsFills 15 = .ok (.istore_n 1, 1) := by decide +kernel
theorem dX9_findsFills_16 : decode cX9_findsFills 16 = .ok (.iload_n 1, 1) := by decide +kernel
theorem dX9_findsFills_17 : decode cX9_findsFills 17 = .ok (.aload_n 0, 1) := by decide +kernel
theorem dX9_findsFills_18 : decode cX9_findsFills 18 = .ok (.getfield 94, 3) := by decide +kernel
theorem dX9_findsFills_21 : decode cX9_findsFills 21 = .ok (.if_icmp .ge 105, 3) := by decide +kernel
theorem dX9_findsFills_24 : decode cX9_findsFills 24 = .ok (.iconst 0, 1) := by decide +kernel
theorem dX9_findsFills_25 : decode cX9_findsFills 25 = .ok (.istore_n 2, 1) := by decide +kernel
theorem dX9_findsFills_26 : decode cX9_findsFills 26 = .ok (.iload_n 2, 1) := by decide +kernel
theorem dX9_findsFills_27 : decode cX9_findsFills 27 = .ok (.aload_n 0, 1) := by decide +kernel
theorem dX9_findsFills_28 : decode cX9_findsFills 28 = .ok (.getfield 94, 3) := by decide +kernel
theorem dX9_findsFills_31 : decode cX9_findsFills 31 = .ok (.if_icmp .ge 89, 3) := by decide +kernel
theorem dX9_findsFills_34 : decode cX9_findsFills 34 = .ok (.aload_n 0, 1) := by decide +kernel
theorem dX9_findsFills_35 : decode cX9_findsFills 35 = .ok (.aload_n 0, 1) := by decide +kernel
theorem dX9_findsFills_36 : decode cX9_findsFills 36 = .ok (.getfield 22, 3) := by decide +kernel
theorem dX9_findsFills_39 : decode cX9_findsFills 39 = .ok (.iload_n 1, 1) := by decide +kernel
theorem dX9_findsFills_40 : decode cX9_findsFills 40 = .ok (.iaload, 1) := by decide +kernel
theorem dX9_findsFills_41 : decode cX9_findsFills 41 = .ok (.iconst 0, 1) := by decide +kernel
theorem dX9_findsFills_42 : decode cX9_findsFills 42 = .ok (.invokevirtual 121, 3) := by decide +kernel
theorem dX9_findsFills_45 : decode cX9_findsFills 45 = .ok (.ifCond .eq 75, 3) := by decide +kernel
theorem dX9_findsFills_48 : decode cX9_findsFills 48 = .ok (.iconst 0, 1) := by decide +kernel
theorem dX9_findsFills_49 : decode cX9_findsFills 49 = .ok (.istore_n 3, 1) := by decide +kernel
theorem dX9_findsFills_50 : decode cX9_findsFills 50 = .ok (.iload_n 3, 1) := by decide +kernel
theorem dX9_findsFills_51 : decode cX9_findsFills 51 = .ok (.aload_n 0, 1) := by decide +kernel
theorem dX9_findsFills_52 : decode cX9_findsFills 52 = .ok (.getfield 94, 3) := by decide +kernel
theorem dX9_findsFills_55 : decode cX9_findsFills 55 = .ok (.if_icmp .ge 59, 3) := by decide +kernel
theorem dX9_findsFills_58 : decode cX9_findsFills 58 = .ok (.aload_n 0, 1) := by decide +kernel
theorem dX9_findsFills_59 : decode cX9_findsFills 59 = .ok (.aload_n 0, 1) := by decide +kernel
theorem dX9_findsFills_60 : decode cX9_findsFills 60 = .ok (.getfield 22, 3) := by decide +kernel
theorem dX9_findsFills_63 : decode cX9_findsFills 63 = .ok (.iload_n 2, 1) := by decide +kernel
theorem dX9_findsFills_64 : decode cX9_findsFills 64 = .ok (.iaload, 1) := by decide +kernel
theorem dX9_findsFills_65 : decode cX9_findsFills 65 = .ok (.iconst 1, 1) := by decide +kernel
theorem dX9_findsFills_66 : decode cX9_findsFills 66 = .ok (.invokevirtual 121, 3) := by decide +kernel
theorem dX9_findsFills_69 : decode cX9_findsFills 69 = .ok (.ifCond .eq 45, 3) := by decide +kernel
theorem dX9_findsFills_72 : decode cX9_findsFills 72 = .ok (.aload_n 0, 1) := by decide +kernel
theorem dX9_findsFills_73 : decode cX9_findsFills 73 = .ok (.aload_n 0, 1) := by decide +kernel
theorem dX9_findsFills_74 : decode cX9_findsFills 74 = .ok (.getfield 22, 3) := by decide +kernel
theorem dX9_findsFills_77 : decode cX9_findsFills 77 = .ok (.iload_n 3, 1) := by decide +kernel
theorem dX9_findsFills_78 : decode cX9_findsFills 78 = .ok (.iaload, 1) := by decide +kernel
theorem dX9_findsFills_79 : decode cX9_findsFills 79 = .ok (.iconst 2, 1) := by decide +kernel
theorem dX9_findsFills_80 : decode cX9_findsFills 80 = .ok (.invokevirtual 121, 3) := by decide +kernel
theorem dX9_findsFills_83 : decode cX9_findsFills 83 = .ok (.ifCond .eq 25, 3) := by decide +kernel
theorem dX9_findsFills_86 : decode cX9_findsFills 86 = .ok (.aload_n 0, 1) := by decide +kernel
theorem dX9_findsFills_87 : decode cX9_findsFills 87 = .ok (.aload_n 0, 1) := by decide +kernel
theorem dX9_findsFills_88 : decode cX9_findsFills 88 = .ok (.getfield 22, 3) := by decide +kernel
theorem dX9_findsFills_91 : decode cX9_findsFills 91 = .ok (.iload_n 1, 1) := by decide +kernel
theorem dX9_findsFills_92 : decode cX9_findsFills 92 = .ok (.iaload, 1) := by decide +kernel
theorem dX9_findsFills_93 : decode cX9_findsFills 93 = .ok (.aload_n 0, 1) := by decide +kernel
theorem dX9_findsFills_94 : decode cX9_findsFills 94 = .ok (.getfield 22, 3) := by decide +kernel
theorem dX9_findsFills_97 : decode cX9_findsFills 97 = .ok (.iload_n 2, 1) := by decide +kernel
theorem dX9_findsFills_98 : decode cX9_findsFills 98 = .ok (.iaload, 1) := by decide +kernel
theorem dX9_findsFills_99 : decode cX9_findsFills 99 = .ok (.aload_n 0, 1) := by decide +kernel
theorem dX9_findsFills_100 : decode cX9_findsFills 100 = .ok (.getfield 22, 3) := by decide +kernel
theorem dX9_findsFills_103 : decode cX9_findsFills 103 = .ok (.iload_n 3, 1) := by decide +kernel
theorem dX9_findsFills_104 : decode cX9_findsFills 104 = .ok (.iaload, 1) := by decide +kernel
theorem dX9_findsFills_105 : decode cX9_findsFills 105 = .ok (.invokevirtual 125, 3) := by decide +kernel
theorem dX9_findsFills_108 : decode cX9_findsFills 108 = .ok (.iinc 3 1, 3) := by decide +kernel
theorem dX9_findsFills_111 : decode cX9_findsFills 111 = .ok (.goto (-61), 3) := by decide +kernel
theorem dX9_findsFills_114 : decode cX9_findsFills 114 = .ok (.iinc 2 1, 3) := by decide +kernel
theorem dX9_findsFills_117 : decode cX9_findsFills 117 = .ok (.goto (-91), 3) := by decide +kernel
theorem dX9_findsFills_120 : decode cX9_findsFills 120 = .ok (.iinc 1 1, 3) := by decide +kernel
theorem dX9_findsFills_123 : decode cX9_findsFills 123 = .ok (.goto (-107), 3) := by decide +kernel
theorem dX9_findsFills_126 : decode cX9_findsFills 126 = .ok (.return_, 1) := by decide +kernel
theorem dX9_fillWeight_0 : decode cX9_fillWeight 0 = .ok (.aload_n 0, 1) := by decide +kernel
theorem dX9_fillWeight_1 : decode cX9_fillWeight 1 = .ok (.iconst 0, 1) := by decide +kernel
theorem dX9_fillWeight_2 : decode cX9_fillWeight 2 = .ok (.putfield 73, 3) := by decide +kernel
theorem dX9_fillWeight_5 : decode cX9_fillWeight 5 = .ok (.aload_n 0, 1) := by decide +kernel
theorem dX9_fillWeight_6 : decode cX9_fillWeight 6 = .ok (.invokevirtual 129, 3) := by decide +kernel
theorem dX9_fillWeight_9 : decode cX9_fillWeight 9 = .ok (.aload_n 0, 1) := by decide +kernel
theorem dX9_fillWeight_10 : decode cX9_fillWeight 10 = .ok (.getfield 118, 3) := by decide +kernel
theorem dX9_fillWeight_13 : decode cX9_fillWeight 13 = .ok (.ireturn, 1) := by decide +kernel
theorem dX9_fillWeightByAll_0 : decode cX9_fillWeightByAll 0 = .ok (.aload_n 0, 1) := by decide +kernel
theorem dX9_fillWeightByAll_1 : decode cX9_fillWeightByAll 1 = .ok (.invokevirtual 132, 3) := by decide +kernel
theorem dX9_fillWeightByAll_4 : decode cX9_fillWeightByAll 4 = .ok (.ireturn, 1) := by decide +kernel
theorem dX9_fills_0 : decode cX9_fills 0 = .ok (.aload_n 0, 1) := by decide +kernel
theorem dX9_fills_1 : decode cX9_fills 1 = .ok (.iconst 0, 1) := by decide +kernel
theorem dX9_fills_2 : decode cX9_fills 2 = .ok (.putfield 73, 3) := by decide +kernel
theorem dX9_fills_5 : decode cX9_fills 5 = .ok (.aload_n 0, 1) := by decide +kernel
theorem dX9_fills_6 : decode cX9_fills 6 = .ok (.invokevirtual 129, 3) := by decide +kernel
theorem dX9_fills_9 : decode cX9_fills 9 = .ok (.aload_n 0, 1) := by decide +kernel
theorem dX9_fills_10 : decode cX9_fills 10 = .ok (.getfield 115, 3) := by decide +kernel
theorem dX9_fills_13 : decode cX9_fills 13 = .ok (.ireturn, 1) := by decide +kernel
theorem dX9_fillAt_0 : decode cX9_fillAt 0 = .ok (.aload_n 0, 1) := by decide +kernel
theorem dX9_fillAt_1 : decode cX9_fillAt 1 = .ok (.iload_n 1, 1) := by decide +kernel
theorem dX9_fillAt_2 : decode cX9_fillAt 2 = .ok (.iconst 0, 1) := by decide +kernel
theorem dX9_fillAt_3 : decode cX9_fillAt 3 = .ok (.bipush 8, 2) := by decide +kernel
theorem dX9_fillAt_5 : decode cX9_fillAt 5 = .ok (.invokestatic 80, 3) := by decide +kernel
theorem dX9_fillAt_8 : decode cX9_fillAt 8 = .ok (.ifCond .eq 7, 3) := by decide +kernel
theorem dX9_fillAt_11 : decode cX9_fillAt 11 = .ok (.iconst 0, 1) := by decide +kernel
theorem dX9_fillAt_12 : decode cX9_fillAt 12 = .ok (.goto 4, 3) := by decide +kernel
theorem dX9_fillAt_15 : decode cX9_fillAt 15 = .ok (.iconst 1, 1) := by decide +kernel
theorem dX9_fillAt_16 : decode cX9_fillAt 16 = .ok (.putfield 73, 3) := by decide +kernel
theorem dX9_fillAt_19 : decode cX9_fillAt 19 = .ok (.aload_n 0, 1) := by decide +kernel
theorem dX9_fillAt_20 : decode cX9_fillAt 20 = .ok (.getfield 73, 3) := by decide +kernel
theorem dX9_fillAt_23 : decode cX9_fillAt 23 = .ok (.ifCond .le 5, 3) := by decide +kernel
theorem dX9_fillAt_26 : decode cX9_fillAt 26 = .ok (.iconst 0, 1) := by decide +kernel
theorem dX9_fillAt_27 : decode cX9_fillAt 27 = .ok (.ireturn, 1) := by decide +kernel
theorem dX9_fillAt_28 : decode cX9_fillAt 28 = .ok (.aload_n 0, 1) := by decide +kernel
theorem dX9_fillAt_29 : decode cX9_fillAt 29 = .ok (.invokevirtual 129, 3) := by decide +kernel
theorem dX9_fillAt_32 : decode cX9_fillAt 32 = .ok (.aload_n 0, 1) := by decide +kernel
theorem dX9_fillAt_33 : decode cX9_fillAt 33 = .ok (.getfield 118, 3) := by decide +kernel
theorem dX9_fillAt_36 : decode cX9_fillAt 36 = .ok (.iconst (-1), 1) := by decide +kernel
theorem dX9_fillAt_37 : decode cX9_fillAt 37 = .ok (.if_icmp .ne 11, 3) := by decide +kernel
theorem dX9_fillAt_40 : decode cX9_fillAt 40 = .ok (.aload_n 0, 1) := by decide +kernel
theorem dX9_fillAt_41 : decode cX9_fillAt 41 = .ok (.iconst 2, 1) := by decide +kernel
theorem dX9_fillAt_42 : decode cX9_fillAt 42 = .ok (.invokevirtual 97, 3) := by decide +kernel
theorem dX9_fillAt_45 : decode cX9_fillAt 45 = .ok (.goto 22, 3) := by decide +kernel
theorem dX9_fillAt_48 : decode cX9_fillAt 48 = .ok (.aload_n 0, 1) := by decide +kernel
theorem dX9_fillAt_49 : decode cX9_fillAt 49 = .ok (.getfield 16, 3) := by decide +kernel
theorem dX9_fillAt_52 : decode cX9_fillAt 52 = .ok (.aload_n 0, 1) := by decide +kernel
theorem dX9_fillAt_53 : decode cX9_fillAt 53 = .ok (.getfield 28, 3) := by decide +kernel
theorem dX9_fillAt_56 : decode cX9_fillAt 56 = .ok (.iload_n 1, 1) := by decide +kernel
theorem dX9_fillAt_57 : decode cX9_fillAt 57 = .ok (.iconst 3, 1) := by decide +kernel
theorem dX9_fillAt_58 : decode cX9_fillAt 58 = .ok (.idiv, 1) := by decide +kernel
theorem dX9_fillAt_59 : decode cX9_fillAt 59 = .ok (.iaload, 1) := by decide +kernel
theorem dX9_fillAt_60 : decode cX9_fillAt 60 = .ok (.iaload, 1) := by decide +kernel
theorem dX9_fillAt_61 : decode cX9_fillAt 61 = .ok (.iload_n 1, 1) := by decide +kernel
theorem dX9_fillAt_62 : decode cX9_fillAt 62 = .ok (.iconst 3, 1) := by decide +kernel
theorem dX9_fillAt_63 : decode cX9_fillAt 63 = .ok (.irem, 1) := by decide +kernel
theorem dX9_fillAt_64 : decode cX9_fillAt 64 = .ok (.invokestatic 107, 3) := by decide +kernel
theorem dX9_fillAt_67 : decode cX9_fillAt 67 = .ok (.ireturn, 1) := by decide +kernel
theorem dX9_isClue_0 : decode cX9_isClue 0 = .ok (.iload_n 1, 1) := by decide +kernel
theorem dX9_isClue_1 : decode cX9_isClue 1 = .ok (.iconst 0, 1) := by decide +kernel
theorem dX9_isClue_2 : decode cX9_isClue 2 = .ok (.aload_n 0, 1) := by decide +kernel
theorem dX9_isClue_3 : decode cX9_isClue 3 = .ok (.getfield 135, 3) := by decide +kernel
theorem dX9_isClue_6 : decode cX9_isClue 6 = .ok (.iconst 1, 1) := by decide +kernel
theorem dX9_isClue_7 : decode cX9_isClue 7 = .ok (.isub, 1) := by decide +kernel
theorem dX9_isClue_8 : decode cX9_isClue 8 = .ok (.invokestatic 80, 3) := by decide +kernel
theorem dX9_isClue_11 : decode cX9_isClue 11 = .ok (.ireturn, 1) := by decide +kernel
theorem dX9_clue_0 : decode cX9_clue 0 = .ok (.aload_n 0, 1) := by decide +kernel
theorem dX9_clue_1 : decode cX9_clue 1 = .ok (.aload_n 0, 1) := by decide +kernel
theorem dX9_clue_2 : decode cX9_clue 2 = .ok (.iload_n 1, 1) := by decide +kernel
theorem dX9_clue_3 : decode cX9_clue 3 = .ok (.invokevirtual 101, 3) := by decide +kernel
theorem dX9_clue_6 : decode cX9_clue 6 = .ok (.ifCond .ne 7, 3) := by decide +kernel
theorem dX9_clue_9 : decode cX9_clue 9 = .ok (.iconst 1, 1) := by decide +kernel
theorem dX9_clue_10 : decode cX9_clue 10 = .ok (.goto 17, 3) := by decide +kernel
theorem dX9_clue_13 : decode cX9_clue 13 = .ok (.aload_n 0, 1) := by decide +kernel
theorem dX9_clue_14 : decode cX9_clue 14 = .ok (.getfield 135, 3) := by decide +kernel
theorem dX9_clue_17 : decode cX9_clue 17 = .ok (.bipush 60, 2) := by decide +kernel
theorem dX9_clue_19 : decode cX9_clue 19 = .ok (.if_icmp .ne 7, 3) := by decide +kernel
theorem dX9_clue_22 : decode cX9_clue 22 = .ok (.iconst 2, 1) := by decide +kernel
theorem dX9_clue_23 : decode cX9_clue 23 = .ok (.goto 4, 3) := by decide +kernel
theorem dX9_clue_26 : decode cX9_clue 26 = .ok (.iconst 0, 1) := by decide +kernel
theorem dX9_clue_27 : decode cX9_clue 27 = .ok (.putfield 73, 3) := by decide +kernel
theorem dX9_clue_30 : decode cX9_clue 30 = .ok (.aload_n 0, 1) := by decide +kernel
theorem dX9_clue_31 : decode cX9_clue 31 = .ok (.getfield 73, 3) := by decide +kernel
theorem dX9_clue_34 : decode cX9_clue 34 = .ok (.ifCond .le 5, 3) := by decide +kernel
theorem dX9_clue_37 : decode cX9_clue 37 = .ok (.iconst 0, 1) := by decide +kernel
theorem dX9_clue_38 : decode cX9_clue 38 = .ok (.ireturn, 1) := by decide +kernel
theorem dX9_clue_39 : decode cX9_clue 39 = .ok (.aload_n 0, 1) := by decide +kernel
theorem dX9_clue_40 : decode cX9_clue 40 = .ok (.getfield 31, 3) := by decide +kernel
theorem dX9_clue_43 : decode cX9_clue 43 = .ok (.aload_n 0, 1) := by decide +kernel
theorem dX9_clue_44 : decode cX9_clue 44 = .ok (.getfield 135, 3) := by decide +kernel
theorem dX9_clue_47 : decode cX9_clue 47 = .ok (.iload_n 1, 1) := by decide +kernel
theorem dX9_clue_48 : decode cX9_clue 48 = .ok (.iastore, 1) := by decide +kernel
theorem dX9_clue_49 : decode cX9_clue 49 = .ok (.aload_n 0, 1) := by decide +kernel
theorem dX9_clue_50 : decode cX9_clue 50 = .ok (.dup, 1) := by decide +kernel
theorem dX9_clue_51 : decode cX9_clue 51 = .ok (.getfield 135, 3) := by decide +kernel
theorem dX9_clue_54 : decode cX9_clue 54 = .ok (.iconst 1, 1) := by decide +kernel
theorem dX9_clue_55 : decode cX9_clue 55 = .ok (.iadd, 1) := by decide +kernel
theorem dX9_clue_56 : decode cX9_clue 56 = .ok (.putfield 135, 3) := by decide +kernel
theorem dX9_clue_59 : decode cX9_clue 59 = .ok (.aload_n 0, 1) := by decide +kernel
theorem dX9_clue_60 : decode cX9_clue 60 = .ok (.getfield 135, 3) := by decide +kernel
theorem dX9_clue_63 : decode cX9_clue 63 = .ok (.iconst 1, 1) := by decide +kernel
theorem dX9_clue_64 : decode cX9_clue 64 = .ok (.isub, 1) := by decide +kernel
theorem dX9_clue_65 : decode cX9_clue 65 = .ok (.ireturn, 1) := by decide +kernel
theorem dX9_edit_0 : decode cX9_edit 0 = .ok (.aload_n 0, 1) := by decide +kernel
theorem dX9_edit_1 : decode cX9_edit 1 = .ok (.aload_n 0, 1) := by decide +kernel
theorem dX9_edit_2 : decode cX9_edit 2 = .ok (.iload_n 1, 1) := by decide +kernel
theorem dX9_edit_3 : decode cX9_edit 3 = .ok (.invokevirtual 138, 3) := by decide +kernel
theorem dX9_edit_6 : decode cX9_edit 6 = .ok (.ifCond .ne 7, 3) := by decide +kernel
theorem dX9_edit_9 : decode cX9_edit 9 = .ok (.iconst 1, 1) := by decide +kernel
theorem dX9_edit_10 : decode cX9_edit 10 = .ok (.goto 18, 3) := by decide +kernel
theorem dX9_edit_13 : decode cX9_edit 13 = .ok (.aload_n 0, 1) := by decide +kernel
theorem dX9_edit_14 : decode cX9_edit 14 = .ok (.getfield 34, 3) := by decide +kernel
theorem dX9_edit_17 : decode cX9_edit 17 = .ok (.iload_n 1, 1) := by decide +kernel
theorem dX9_edit_18 : decode cX9_edit 18 = .ok (.iaload, 1) := by decide +kernel
theorem dX9_edit_19 : decode cX9_edit 19 = .ok (.iconst 2, 1) := by decide +kernel
theorem dX9_edit_20 : decode cX9_edit 20 = .ok (.if_icmp .ne 7, 3) := by decide +kernel
theorem dX9_edit_23 : decode cX9_edit 23 = .ok (.iconst 2, 1) := by decide +kernel
theorem dX9_edit_24 : decode cX9_edit 24 = .ok (.goto 4, 3) := by decide +kernel
theorem dX9_edit_27 : decode cX9_edit 27 = .ok (.iconst 0, 1) := by decide +kernel
theorem dX9_edit_28 : decode cX9_edit 28 = .ok (.putfield 73, 3) := by decide +kernel
theorem dX9_edit_31 : decode cX9_edit 31 = .ok (.aload_n 0, 1) := by decide +kernel
theorem dX9_edit_32 : decode cX9_edit 32 = .ok (.getfield 73, 3) := by decide +kernel
theorem dX9_edit_35 : decode cX9_edit 35 = .ok (.ifCond .le 5, 3) := by decide +kernel
theorem dX9_edit_38 : decode cX9_edit 38 = .ok (.iconst 0, 1) := by decide +kernel
theorem dX9_edit_39 : decode cX9_edit 39 = .ok (.ireturn, 1) := by decide +kernel
theorem dX9_edit_40 : decode cX9_edit 40 = .ok (.aload_n 0, 1) := by decide +kernel
theorem dX9_edit_41 : decode cX9_edit 41 = .ok (.getfield 34, 3) := by decide +kernel
theorem dX9_edit_44 : decode cX9_edit 44 = .ok (.iload_n 1, 1) := by decide +kernel
theorem dX9_edit_45 : decode cX9_edit 45 = .ok (.iload_n 2, 1) := by decide +kernel
theorem dX9_edit_46 : decode cX9_edit 46 = .ok (.ifCond .eq 14, 3) := by decide +kernel
theorem dX9_edit_49 : decode cX9_edit 49 = .ok (.aload_n 0, 1) := by decide +kernel
theorem dX9_edit_50 : decode cX9_edit 50 = .ok (.getfield 34, 3) := by decide +kernel
theorem dX9_edit_53 : decode cX9_edit 53 = .ok (.iload_n 1, 1) := by decide +kernel
theorem dX9_edit_54 : decode cX9_edit 54 = .ok (.iaload, 1) := by decide +kernel
theorem dX9_edit_55 : decode cX9_edit 55 = .ok (.iconst 1, 1) := by decide +kernel
theorem dX9_edit_56 : decode cX9_edit 56 = .ok (.iadd, 1) := by decide +kernel
theorem dX9_edit_57 : decode cX9_edit 57 = .ok (.goto 4, 3) := by decide +kernel
theorem dX9_edit_60 : decode cX9_edit 60 = .ok (.iconst 0, 1) := by decide +kernel
theorem dX9_edit_61 : decode cX9_edit 61 = .ok (.iastore, 1) := by decide +kernel
theorem dX9_edit_62 : decode cX9_edit 62 = .ok (.aload_n 0, 1) := by decide +kernel
theorem dX9_edit_63 : decode cX9_edit 63 = .ok (.getfield 34, 3) := by decide +kernel
theorem dX9_edit_66 : decode cX9_edit 66 = .ok (.iload_n 1, 1) := by decide +kernel
theorem dX9_edit_67 : decode cX9_edit 67 = .ok (.iaload, 1) := by decide +kernel
theorem dX9_edit_68 : decode cX9_edit 68 = .ok (.ireturn, 1) := by decide +kernel
theorem dX9_lastUsed_0 : decode cX9_lastUsed 0 = .ok (.aload_n 0, 1) := by decide +kernel
theorem dX9_lastUsed_1 : decode cX9_lastUsed 1 = .ok (.aload_n 0, 1) := by decide +kernel
theorem dX9_lastUsed_2 : decode cX9_lastUsed 2 = .ok (.iload_n 1, 1) := by decide +kernel
theorem dX9_lastUsed_3 : decode cX9_lastUsed 3 = .ok (.invokevirtual 138, 3) := by decide +kernel
theorem dX9_lastUsed_6 : decode cX9_lastUsed 6 = .ok (.ifCond .eq 7, 3) := by decide +kernel
theorem dX9_lastUsed_9 : decode cX9_lastUsed 9 = .ok (.iconst 0, 1) := by decide +kernel
theorem dX9_lastUsed_10 : decode cX9_lastUsed 10 = .ok (.goto 4, 3) := by decide +kernel
theorem dX9_lastUsed_13 : decode cX9_lastUsed 13 = .ok (.iconst 1, 1) := by decide +kernel
theorem dX9_lastUsed_14 : decode cX9_lastUsed 14 = .ok (.putfield 73, 3) := by decide +kernel
theorem dX9_lastUsed_17 : decode cX9_lastUsed 17 = .ok (.aload_n 0, 1) := by decide +kernel
theorem dX9_lastUsed_18 : decode cX9_lastUsed 18 = .ok (.getfield 73, 3) := by decide +kernel
theorem dX9_lastUsed_21 : decode cX9_lastUsed 21 = .ok (.ifCond .ne 14, 3) := by decide +kernel
theorem dX9_lastUsed_24 : decode cX9_lastUsed 24 = .ok (.aload_n 0, 1) := by decide +kernel
theorem dX9_lastUsed_25 : decode cX9_lastUsed 25 = .ok (.getfield 37, 3) := by decide +kernel
theorem dX9_lastUsed_28 : decode cX9_lastUsed 28 = .ok (.iload_n 1, 1) := by decide +kernel
theorem dX9_lastUsed_29 : decode cX9_lastUsed 29 = .ok (.iaload, 1) := by decide +kernel
theorem dX9_lastUsed_30 : decode cX9_lastUsed 30 = .ok (.iconst 1, 1) := by decide +kernel
theorem dX9_lastUsed_31 : decode cX9_lastUsed 31 = .ok (.isub, 1) := by decide +kernel
theorem dX9_lastUsed_32 : decode cX9_lastUsed 32 = .ok (.goto 4, 3) := by decide +kernel
theorem dX9_lastUsed_35 : decode cX9_lastUsed 35 = .ok (.iconst 0, 1) := by decide +kernel
theorem dX9_lastUsed_36 : decode cX9_lastUsed 36 = .ok (.ireturn, 1) := by decide +kernel
theorem dX9_pass_0 : decode cX9_pass 0 = .ok (.aload_n 0, 1) := by decide +kernel
theorem dX9_pass_1 : decode cX9_pass 1 = .ok (.iload_n 1, 1) := by decide +kernel
theorem dX9_pass_2 : decode cX9_pass 2 = .ok (.iconst 1, 1) := by decide +kernel
theorem dX9_pass_3 : decode cX9_pass 3 = .ok (.sipush 2000, 3) := by decide +kernel
theorem dX9_pass_6 : decode cX9_pass 6 = .ok (.invokestatic 80, 3) := by decide +kernel
theorem dX9_pass_9 : decode cX9_pass 9 = .ok (.ifCond .ne 7, 3) := by decide +kernel
theorem dX9_pass_12 : decode cX9_pass 12 = .ok (.iconst 1, 1) := by decide +kernel
theorem dX9_pass_13 : decode cX9_pass 13 = .ok (.goto 20, 3) := by decide +kernel
theorem dX9_pass_16 : decode cX9_pass 16 = .ok (.aload_n 0, 1) := by decide +kernel
theorem dX9_pass_17 : decode cX9_pass 17 = .ok (.getfield 141, 3) := by decide +kernel
theorem dX9_pass_20 : decode cX9_pass 20 = .ok (.iload_n 1, 1) := by decide +kernel
theorem dX9_pass_21 : decode cX9_pass 21 = .ok (.iadd, 1) := by decide +kernel
theorem dX9_pass_22 : decode cX9_pass 22 = .ok (.sipush 30000, 3) := by decide +kernel
theorem dX9_pass_25 : decode cX9_pass 25 = .ok (.if_icmp .le 7, 3) := by decide +kernel
theorem dX9_pass_28 : decode cX9_pass 28 = .ok (.iconst 2, 1) := by decide +kernel
theorem dX9_pass_29 : decode cX9_pass 29 = .ok (.goto 4, 3) := by decide +kernel
theorem dX9_pass_32 : decode cX9_pass 32 = .ok (.iconst 0, 1) := by decide +kernel
theorem dX9_pass_33 : decode cX9_pass 33 = .ok (.putfield 73, 3) := by decide +kernel
theorem dX9_pass_36 : decode cX9_pass 36 = .ok (.aload_n 0, 1) := by decide +kernel
theorem dX9_pass_37 : decode cX9_pass 37 = .ok (.dup, 1) := by decide +kernel
theorem dX9_pass_38 : decode cX9_pass 38 = .ok (.getfield 141, 3) := by decide +kernel
theorem dX9_pass_41 : decode cX9_pass 41 = .ok (.aload_n 0, 1) := by decide +kernel
theorem dX9_pass_42 : decode cX9_pass 42 = .ok (.getfield 73, 3) := by decide +kernel
theorem dX9_pass_45 : decode cX9_pass 45 = .ok (.ifCond .ne 7, 3) := by decide +kernel
theorem dX9_pass_48 : decode cX9_pass 48 = .ok (.iload_n 1, 1) := by decide +kernel
theorem dX9_pass_49 : decode cX9_pass 49 = .ok (.goto 4, 3) := by decide +kernel
theorem dX9_pass_52 : decode cX9_pass 52 = .ok (.iconst 0, 1) := by decide +kernel
theorem dX9_pass_53 : decode cX9_pass 53 = .ok (.iadd, 1) := by decide +kernel
theorem dX9_pass_54 : decode cX9_pass 54 = .ok (.putfield 141, 3) := by decide +kernel
theorem dX9_pass_57 : decode cX9_pass 57 = .ok (.aload_n 0, 1) := by decide +kernel
theorem dX9_pass_58 : decode cX9_pass 58 = .ok (.getfield 73, 3) := by decide +kernel
theorem dX9_pass_61 : decode cX9_pass 61 = .ok (.ifCond .ne 10, 3) := by decide +kernel
theorem dX9_pass_64 : decode cX9_pass 64 = .ok (.aload_n 0, 1) := by decide +kernel
theorem dX9_pass_65 : decode cX9_pass 65 = .ok (.getfield 141, 3) := by decide +kernel
theorem dX9_pass_68 : decode cX9_pass 68 = .ok (.goto 4, 3) := by decide +kernel
theorem dX9_pass_71 : decode cX9_pass 71 = .ok (.iconst 0, 1) := by decide +kernel
theorem dX9_pass_72 : decode cX9_pass 72 = .ok (.ireturn, 1) := by decide +kernel
theorem dX9_now_0 : decode cX9_now 0 = .ok (.aload_n 0, 1) := by decide +kernel
theorem dX9_now_1 : decode cX9_now 1 = .ok (.iconst 0, 1) := by decide +kernel
theorem dX9_now_2 : decode cX9_now 2 = .ok (.putfield 73, 3) := by decide +kernel
theorem dX9_now_5 : decode cX9_now 5 = .ok (.aload_n 0, 1) := by decide +kernel
theorem dX9_now_6 : decode cX9_now 6 = .ok (.getfield 141, 3) := by decide +kernel
theorem dX9_now_9 : decode cX9_now 9 = .ok (.ireturn, 1) := by decide +kernel
theorem dX9_clueFor_0 : decode cX9_clueFor 0 = .ok (.iconst (-1), 1) := by decide +kernel
theorem dX9_clueFor_1 : decode cX9_clueFor 1 = .ok (.istore_n 3, 1) := by decide +kernel
theorem dX9_clueFor_2 : decode cX9_clueFor 2 = .ok (.iconst 0, 1) := by decide +kernel
theorem dX9_clueFor_3 : decode cX9_clueFor 3 = .ok (.istore 4, 2) := by decide +kernel
theorem dX9_clueFor_5 : decode cX9_clueFor 5 = .ok (.iload 4, 2) := by decide +kernel
theorem dX9_clueFor_7 : decode cX9_clueFor 7 = .ok (.aload_n 0, 1) := by decide +kernel
theorem dX9_clueFor_8 : decode cX9_clueFor 8 = .ok (.getfield 135, 3) := by decide +kernel
theorem dX9_clueFor_11 : decode cX9_clueFor 11 = .ok (.if_icmp .ge 143, 3) := by decide +kernel
theorem dX9_clueFor_14 : decode cX9_clueFor 14 = .ok (.aload_n 0, 1) := by decide +kernel
theorem dX9_clueFor_15 : decode cX9_clueFor 15 = .ok (.getfield 31, 3) := by decide +kernel
theorem dX9_clueFor_18 : decode cX9_clueFor 18 = .ok (.iload 4, 2) := by decide +kernel
theorem dX9_clueFor_20 : decode cX9_clueFor 20 = .ok (.iaload, 1) := by decide +kernel
theorem dX9_clueFor_21 : decode cX9_clueFor 21 = .ok (.iload_n 2, 1) := by decide +kernel
theorem dX9_clueFor_22 : decode cX9_clueFor 22 = .ok (.if_icmp .ne 51, 3) := by decide +kernel
theorem dX9_clueFor_25 : decode cX9_clueFor 25 = .ok (.aload_n 0, 1) := by decide +kernel
theorem dX9_clueFor_26 : decode cX9_clueFor 26 = .ok (.getfield 34, 3) := by decide +kernel
theorem dX9_clueFor_29 : decode cX9_clueFor 29 = .ok (.iload 4, 2) := by decide +kernel
theorem dX9_clueFor_31 : decode cX9_clueFor 31 = .ok (.iaload, 1) := by decide +kernel
theorem dX9_clueFor_32 : decode cX9_clueFor 32 = .ok (.iconst 2, 1) := by decide +kernel
theorem dX9_clueFor_33 : decode cX9_clueFor 33 = .ok (.if_icmp .ne 40, 3) := by decide +kernel
theorem dX9_clueFor_36 : decode cX9_clueFor 36 = .ok (.aload_n 0, 1) := by decide +kernel
theorem dX9_clueFor_37 : decode cX9_clueFor 37 = .ok (.getfield 37, 3) := by decide +kernel
theorem dX9_clueFor_40 : decode cX9_clueFor 40 = .ok (.iload 4, 2) := by decide +kernel
theorem dX9_clueFor_42 : decode cX9_clueFor 42 = .ok (.iaload, 1) := by decide +kernel
theorem dX9_clueFor_43 : decode cX9_clueFor 43 = .ok (.ifCond .eq 26, 3) := by decide +kernel
theorem dX9_clueFor_46 : decode cX9_clueFor 46 = .ok (.aload_n 0, 1) := by decide +kernel
theorem dX9_clueFor_47 : decode cX9_clueFor 47 = .ok (.getfield 141, 3) := by decide +kernel
theorem dX9_clueFor_50 : decode cX9_clueFor 50 = .ok (.bipush 24, 2) := by decide +kernel
theorem dX9_clueFor_52 : decode cX9_clueFor 52 = .ok (.idiv, 1) := by decide +kernel
theorem dX9_clueFor_53 : decode cX9_clueFor 53 = .ok (.aload_n 0, 1) := by decide +kernel
theorem dX9_clueFor_54 : decode cX9_clueFor 54 = .ok (.getfield 37, 3) := by decide +kernel
theorem dX9_clueFor_57 : decode cX9_clueFor 57 = .ok (.iload 4, 2) := by decide +kernel
theorem dX9_clueFor_59 : decode cX9_clueFor 59 = .ok (.iaload, 1) := by decide +kernel
theorem dX9_clueFor_60 : decode cX9_clueFor 60 = .ok (.isub, 1) := by decide +kernel
theorem dX9_clueFor_61 : decode cX9_clueFor 61 = .ok (.iconst 1, 1) := by decide +kernel
theorem dX9_clueFor_62 : decode cX9_clueFor 62 = .ok (.iadd, 1) := by decide +kernel
theorem dX9_clueFor_63 : decode cX9_clueFor 63 = .ok (.sipush 365, 3) := by decide +kernel
theorem dX9_clueFor_66 : decode cX9_clueFor 66 = .ok (.if_icmp .lt 7, 3) := by decide +kernel
theorem dX9_clueFor_69 : decode cX9_clueFor 69 = .ok (.iconst 1, 1) := by decide +kernel
theorem dX9_clueFor_70 : decode cX9_clueFor 70 = .ok (.goto 4, 3) := by decide +kernel
theorem dX9_clueFor_73 : decode cX9_clueFor 73 = .ok (.iconst 0, 1) := by decide +kernel
theorem dX9_clueFor_74 : decode cX9_clueFor 74 = .ok (.istore 5, 2) := by decide +kernel
theorem dX9_clueFor_76 : decode cX9_clueFor 76 = .ok (.iconst 0, 1) := by decide +kernel
theorem dX9_clueFor_77 : decode cX9_clueFor 77 = .ok (.istore 6, 2) := by decide +kernel
theorem dX9_clueFor_79 : decode cX9_clueFor 79 = .ok (.iload 6, 2) := by decide +kernel
theorem dX9_clueFor_81 : decode cX9_clueFor 81 = .ok (.iload_n 1, 1) := by decide +kernel
theorem dX9_clueFor_82 : decode cX9_clueFor 82 = .ok (.if_icmp .ge 33, 3) := by decide +kernel
theorem dX9_clueFor_85 : decode cX9_clueFor 85 = .ok (.iload 5, 2) := by decide +kernel
theorem dX9_clueFor_87 : decode cX9_clueFor 87 = .ok (.ifCond .eq 19, 3) := by decide +kernel
theorem dX9_clueFor_90 : decode cX9_clueFor 90 = .ok (.aload_n 0, 1) := by decide +kernel
theorem dX9_clueFor_91 : decode cX9_clueFor 91 = .ok (.getfield 52, 3) := by decide +kernel
theorem dX9_clueFor_94 : decode cX9_clueFor 94 = .ok (.iload 6, 2) := by decide +kernel
theorem dX9_clueFor_96 : decode cX9_clueFor 96 = .ok (.iaload, 1) := by decide +kernel
theorem dX9_clueFor_97 : decode cX9_clueFor 97 = .ok (.iload 4, 2) := by decide +kernel
theorem dX9_clueFor_99 : decode cX9_clueFor 99 = .ok (.if_icmp .eq 7, 3) := by decide +kernel
theorem dX9_clueFor_102 : decode cX9_clueFor 102 = .ok (.iconst 1, 1) := by decide +kernel
theorem dX9_clueFor_103 : decode cX9_clueFor 103 = .ok (.goto 4, 3) := by decide +kernel
theorem dX9_clueFor_106 : decode cX9_clueFor 106 = .ok (.iconst 0, 1) := by decide +kernel
theorem dX9_clueFor_107 : decode cX9_clueFor 107 = .ok (.istore 5, 2) := by decide +kernel
theorem dX9_clueFor_109 : decode cX9_clueFor 109 = .ok (.iinc 6 1, 3) := by decide +kernel
theorem dX9_clueFor_112 : decode cX9_clueFor 112 = .ok (.goto (-33), 3) := by decide +kernel
theorem dX9_clueFor_115 : decode cX9_clueFor 115 = .ok (.iload 5, 2) := by decide +kernel
theorem dX9_clueFor_117 : decode cX9_clueFor 117 = .ok (.ifCond .eq 29, 3) := by decide +kernel
theorem dX9_clueFor_120 : decode cX9_clueFor 120 = .ok (.iload_n 3, 1) := by decide +kernel
theorem dX9_clueFor_121 : decode cX9_clueFor 121 = .ok (.iconst (-1), 1) := by decide +kernel
theorem dX9_clueFor_122 : decode cX9_clueFor 122 = .ok (.if_icmp .eq 19, 3) := by decide +kernel
theorem dX9_clueFor_125 : decode cX9_clueFor 125 = .ok (.aload_n 0, 1) := by decide +kernel
theorem dX9_clueFor_126 : decode cX9_clueFor 126 = .ok (.getfield 37, 3) := by decide +kernel
theorem dX9_clueFor_129 : decode cX9_clueFor 129 = .ok (.iload 4, 2) := by decide +kernel
theorem dX9_clueFor_131 : decode cX9_clueFor 131 = .ok (.iaload, 1) := by decide +kernel
theorem dX9_clueFor_132 : decode cX9_clueFor 132 = .ok (.aload_n 0, 1) := by decide +kernel
theorem dX9_clueFor_133 : decode cX9_clueFor 133 = .ok (.getfield 37, 3) := by decide +kernel
theorem dX9_clueFor_136 : decode cX9_clueFor 136 = .ok (.iload_n 3, 1) := by decide +kernel
theorem dX9_clueFor_137 : decode cX9_clueFor 137 = .ok (.iaload, 1) := by decide +kernel
theorem dX9_clueFor_138 : decode cX9_clueFor 138 = .ok (.if_icmp .ge 8, 3) := by decide +kernel
theorem dX9_clueFor_141 : decode cX9_clueFor 141 = .ok (.iload 4, 2) := by decide +kernel
theorem dX9_clueFor_143 : decode cX9_clueFor 143 = .ok (.goto 4, 3) := by decide +kernel
theorem dX9_clueFor_146 : decode cX9_clueFor 146 = .ok (.iload_n 3, 1) := by decide +kernel
theorem dX9_clueFor_147 : decode cX9_clueFor 147 = .ok (.istore_n 3, 1) := by decide +kernel
theorem dX9_clueFor_148 : decode cX9_clueFor 148 = .ok (.iinc 4 1, 3) := by decide +kernel
theorem dX9_clueFor_151 : decode cX9_clueFor 151 = .ok (.goto (-146), 3) := by decide +kernel
theorem dX9_clueFor_154 : decode cX9_clueFor 154 = .ok (.iload_n 3, 1) := by decide +kernel
theorem dX9_clueFor_155 : decode cX9_clueFor 155 = .ok (.ireturn, 1) := by decide +kernel
theorem dX9_publish_0 : decode cX9_publish 0 = .ok (.aload_n 0, 1) := by decide +kernel
theorem dX9_publish_1 : decode cX9_publish 1 = .ok (.iconst 0, 1) := by decide +kernel
theorem dX9_publish_2 : decode cX9_publish 2 = .ok (.putfield 73, 3) := by decide +kernel
theorem dX9_publish_5 : decode cX9_publish 5 = .ok (.aload_n 0, 1) := by decide +kernel
theorem dX9_publish_6 : decode cX9_publish 6 = .ok (.getfield 144, 3) := by decide +kernel
theorem dX9_publish_9 : decode cX9_publish 9 = .ok (.bipush 20, 2) := by decide +kernel
theorem dX9_publish_11 : decode cX9_publish 11 = .ok (.if_icmp .ge 38, 3) := by decide +kernel
theorem dX9_publish_14 : decode cX9_publish 14 = .ok (.aload_n 0, 1) := by decide +kernel
theorem dX9_publish_15 : decode cX9_publish 15 = .ok (.getfield 144, 3) := by decide +kernel
theorem dX9_publish_18 : decode cX9_publish 18 = .ok (.ifCond .eq 27, 3) := by decide +kernel
theorem dX9_publish_21 : decode cX9_publish 21 = .ok (.aload_n 0, 1) := by decide +kernel
theorem dX9_publish_22 : decode cX9_publish 22 = .ok (.getfield 40, 3) := by decide +kernel
theorem dX9_publish_25 : decode cX9_publish 25 = .ok (.aload_n 0, 1) := by decide +kernel
theorem dX9_publish_26 : decode cX9_publish 26 = .ok (.getfield 144, 3) := by decide +kernel
theorem dX9_publish_29 : decode cX9_publish 29 = .ok (.iconst 1, 1) := by decide +kernel
theorem dX9_publish_30 : decode cX9_publish 30 = .ok (.isub, 1) := by decide +kernel
theorem dX9_publish_31 : decode cX9_publish 31 = .ok (.iaload, 1) := by decide +kernel
theorem dX9_publish_32 : decode cX9_publish 32 = .ok (.bipush 24, 2) := by decide +kernel
theorem dX9_publish_34 : decode cX9_publish 34 = .ok (.idiv, 1) := by decide +kernel
theorem dX9_publish_35 : decode cX9_publish 35 = .ok (.aload_n 0, 1) := by decide +kernel
theorem dX9_publish_36 : decode cX9_publish 36 = .ok (.getfield 141, 3) := by decide +kernel
theorem dX9_publish_39 : decode cX9_publish 39 = .ok (.bipush 24, 2) := by decide +kernel
theorem dX9_publish_41 : decode cX9_publish 41 = .ok (.idiv, 1) := by decide +kernel
theorem dX9_publish_42 : decode cX9_publish 42 = .ok (.if_icmp .eq 7, 3) := by decide +kernel
theorem dX9_publish_45 : decode cX9_publish 45 = .ok (.iconst 1, 1) := by decide +kernel
theorem dX9_publish_46 : decode cX9_publish 46 = .ok (.goto 4, 3) := by decide +kernel
theorem dX9_publish_49 : decode cX9_publish 49 = .ok (.iconst 0, 1) := by decide +kernel
theorem dX9_publish_50 : decode cX9_publish 50 = .ok (.istore_n 1, 1) := by decide +kernel
theorem dX9_publish_51 : decode cX9_publish 51 = .ok (.iload_n 1, 1) := by decide +kernel
theorem dX9_publish_52 : decode cX9_publish 52 = .ok (.ifCond .eq 7, 3) := by decide +kernel
theorem dX9_publish_55 : decode cX9_publish 55 = .ok (.aload_n 0, 1) := by decide +kernel
theorem dX9_publish_56 : decode cX9_publish 56 = .ok (.invokevirtual 129, 3) := by decide +kernel
theorem dX9_publish_59 : decode cX9_publish 59 = .ok (.iload_n 1, 1) := by decide +kernel
theorem dX9_publish_60 : decode cX9_publish 60 = .ok (.ifCond .eq 15, 3) := by decide +kernel
theorem dX9_publish_63 : decode cX9_publish 63 = .ok (.aload_n 0, 1) := by decide +kernel
theorem dX9_publish_64 : decode cX9_publish 64 = .ok (.getfield 118, 3) := by decide +kernel
theorem dX9_publish_67 : decode cX9_publish 67 = .ok (.iconst (-1), 1) := by decide +kernel
theorem dX9_publish_68 : decode cX9_publish 68 = .ok (.if_icmp .eq 7, 3) := by decide +kernel
theorem dX9_publish_71 : decode cX9_publish 71 = .ok (.iconst 1, 1) := by decide +kernel
theorem dX9_publish_72 : decode cX9_publish 72 = .ok (.goto 4, 3) := by decide +kernel
theorem dX9_publish_75 : decode cX9_publish 75 = .ok (.iconst 0, 1) := by decide +kernel
theorem dX9_publish_76 : decode cX9_publish 76 = .ok (.istore_n 1, 1) := by decide +kernel
theorem dX9_publish_77 : decode cX9_publish 77 = .ok (.iconst 0, 1) := by decide +kernel
theorem dX9_publish_78 : decode cX9_publish 78 = .ok (.istore_n 2, 1) := by decide +kernel
theorem dX9_publish_79 : decode cX9_publish 79 = .ok (.iload_n 2, 1) := by decide +kernel
theorem dX9_publish_80 : decode cX9_publish 80 = .ok (.bipush 6, 2) := by decide +kernel
theorem dX9_publish_82 : decode cX9_publish 82 = .ok (.if_icmp .ge 81, 3) := by decide +kernel
theorem dX9_publish_85 : decode cX9_publish 85 = .ok (.iload_n 1, 1) := by decide +kernel
theorem dX9_publish_86 : decode cX9_publish 86 = .ok (.ifCond .eq 77, 3) := by decide +kernel
theorem dX9_publish_89 : decode cX9_publish 89 = .ok (.iload_n 2, 1) := by decide +kernel
theorem dX9_publish_90 : decode cX9_publish 90 = .ok (.iconst 3, 1) := by decide +kernel
theorem dX9_publish_91 : decode cX9_publish 91 = .ok (.if_icmp .ge 12, 3) := by decide +kernel
theorem dX9_publish_94 : decode cX9_publish 94 = .ok (.aload_n 0, 1) := by decide +kernel
theorem dX9_publish_95 : decode cX9_publish 95 = .ok (.getfield 28, 3) := by decide +kernel
theorem dX9_publish_98 : decode cX9_publish 98 = .ok (.iload_n 2, 1) := by decide +kernel
theorem dX9_publish_99 : decode cX9_publish 99 = .ok (.iaload, 1) := by decide +kernel
theorem dX9_publish_100 : decode cX9_publish 100 = .ok (.goto 28, 3) := by decide +kernel
theorem dX9_publish_103 : decode cX9_publish 103 = .ok (.aload_n 0, 1) := by decide +kernel
theorem dX9_publish_104 : decode cX9_publish 104 = .ok (.aload_n 0, 1) := by decide +kernel
theorem dX9_publish_105 : decode cX9_publish 105 = .ok (.getfield 28, 3) := by decide +kernel
theorem dX9_publish_108 : decode cX9_publish 108 = .ok (.iconst 0, 1) := by decide +kernel
theorem dX9_publish_109 : decode cX9_publish 109 = .ok (.iaload, 1) := by decide +kernel
theorem dX9_publish_110 : decode cX9_publish 110 = .ok (.aload_n 0, 1) := by decide +kernel
theorem dX9_publish_111 : decode cX9_publish 111 = .ok (.getfield 28, 3) := by decide +kernel
theorem dX9_publish_114 : decode cX9_publish 114 = .ok (.iconst 1, 1) := by decide +kernel
theorem dX9_publish_115 : decode cX9_publish 115 = .ok (.iaload, 1) := by decide +kernel
theorem dX9_publish_116 : decode cX9_publish 116 = .ok (.aload_n 0, 1) := by decide +kernel
theorem dX9_publish_117 : decode cX9_publish 117 = .ok (.getfield 28, 3) := by decide +kernel
theorem dX9_publish_120 : decode cX9_publish 120 = .ok (.iconst 2, 1) := by decide +kernel
theorem dX9_publish_121 : decode cX9_publish 121 = .ok (.iaload, 1) := by decide +kernel
theorem dX9_publish_122 : decode cX9_publish 122 = .ok (.iload_n 2, 1) := by decide +kernel
theorem dX9_publish_123 : decode cX9_publish 123 = .ok (.iconst 3, 1) := by decide +kernel
theorem dX9_publish_124 : decode cX9_publish 124 = .ok (.isub, 1) := by decide +kernel
theorem dX9_publish_125 : decode cX9_publish 125 = .ok (.invokevirtual 111, 3) := by decide +kernel
theorem dX9_publish_128 : decode cX9_publish 128 = .ok (.istore_n 3, 1) := by decide +kernel
theorem dX9_publish_129 : decode cX9_publish 129 = .ok (.aload_n 0, 1) := by decide +kernel
theorem dX9_publish_130 : decode cX9_publish 130 = .ok (.getfield 52, 3) := by decide +kernel
theorem dX9_publish_133 : decode cX9_publish 133 = .ok (.iload_n 2, 1) := by decide +kernel
theorem dX9_publish_134 : decode cX9_publish 134 = .ok (.aload_n 0, 1) := by decide +kernel
theorem dX9_publish_135 : decode cX9_publish 135 = .ok (.iload_n 2, 1) := by decide +kernel
theorem dX9_publish_136 : decode cX9_publish 136 = .ok (.iload_n 3, 1) := by decide +kernel
theorem dX9_publish_137 : decode cX9_publish 137 = .ok (.invokevirtual 147, 3) := by decide +kernel
theorem dX9_publish_140 : decode cX9_publish 140 = .ok (.iastore, 1) := by decide +kernel
theorem dX9_publish_141 : decode cX9_publish 141 = .ok (.aload_n 0, 1) := by decide +kernel
theorem dX9_publish_142 : decode cX9_publish 142 = .ok (.getfield 52, 3) := by decide +kernel
theorem dX9_publish_145 : decode cX9_publish 145 = .ok (.iload_n 2, 1) := by decide +kernel
theorem dX9_publish_146 : decode cX9_publish 146 = .ok (.iaload, 1) := by decide +kernel
theorem dX9_publish_147 : decode cX9_publish 147 = .ok (.iconst (-1), 1) := by decide +kernel
theorem dX9_publish_148 : decode cX9_publish 148 = .ok (.if_icmp .eq 7, 3) := by decide +kernel
theorem dX9_publish_151 : decode cX9_publish 151 = .ok (.iconst 1, 1) := by decide +kernel
theorem dX9_publish_152 : decode cX9_publish 152 = .ok (.goto 4, 3) := by decide +kernel
theorem dX9_publish_155 : decode cX9_publish 155 = .ok (.iconst 0, 1) := by decide +kernel
theorem dX9_publish_156 : decode cX9_publish 156 = .ok (.istore_n 1, 1) := by decide +kernel
theorem dX9_publish_157 : decode cX9_publish 157 = .ok (.iinc 2 1, 3) := by decide +kernel
theorem dX9_publish_160 : decode cX9_publish 160 = .ok (.goto (-81), 3) := by decide +kernel
theorem dX9_publish_163 : decode cX9_publish 163 = .ok (.iload_n 1, 1) := by decide +kernel
theorem dX9_publish_164 : decode cX9_publish 164 = .ok (.ifCond .ne 9, 3) := by decide +kernel
theorem dX9_publish_167 : decode cX9_publish 167 = .ok (.aload_n 0, 1) := by decide +kernel
theorem dX9_publish_168 : decode cX9_publish 168 = .ok (.iconst 1, 1) := by decide +kernel
theorem dX9_publish_169 : decode cX9_publish 169 = .ok (.invokevirtual 97, 3) := by decide +kernel
theorem dX9_publish_172 : decode cX9_publish 172 = .ok (.ireturn, 1) := by decide +kernel
theorem dX9_publish_173 : decode cX9_publish 173 = .ok (.iconst 0, 1) := by decide +kernel
theorem dX9_publish_174 : decode cX9_publish 174 = .ok (.istore_n 2, 1) := by decide +kernel
theorem dX9_publish_175 : decode cX9_publish 175 = .ok (.iload_n 2, 1) := by decide +kernel
theorem dX9_publish_176 : decode cX9_publish 176 = .ok (.bipush 6, 2) := by decide +kernel
theorem dX9_publish_178 : decode cX9_publish 178 = .ok (.if_icmp .ge 49, 3) := by decide +kernel
theorem dX9_publish_181 : decode cX9_publish 181 = .ok (.aload_n 0, 1) := by decide +kernel
theorem dX9_publish_182 : decode cX9_publish 182 = .ok (.getfield 46, 3) := by decide +kernel
theorem dX9_publish_185 : decode cX9_publish 185 = .ok (.bipush 6, 2) := by decide +kernel
theorem dX9_publish_187 : decode cX9_publish 187 = .ok (.aload_n 0, 1) := by decide +kernel
theorem dX9_publish_188 : decode cX9_publish 188 = .ok (.getfield 144, 3) := by decide +kernel
theorem dX9_publish_191 : decode cX9_publish 191 = .ok (.imul, 1) := by decide +kernel
theorem dX9_publish_192 : decode cX9_publish 192 = .ok (.iload_n 2, 1) := by decide +kernel
theorem dX9_publish_193 : decode cX9_publish 193 = .ok (.iadd, 1) := by decide +kernel
theorem dX9_publish_194 : decode cX9_publish 194 = .ok (.aload_n 0, 1) := by decide +kernel
theorem dX9_publish_195 : decode cX9_publish 195 = .ok (.getfield 52, 3) := by decide +kernel
theorem dX9_publish_198 : decode cX9_publish 198 = .ok (.iload_n 2, 1) := by decide +kernel
theorem dX9_publish_199 : decode cX9_publish 199 = .ok (.iaload, 1) := by decide +kernel
theorem dX9_publish_200 : decode cX9_publish 200 = .ok (.iastore, 1) := by decide +kernel
theorem dX9_publish_201 : decode cX9_publish 201 = .ok (.aload_n 0, 1) := by decide +kernel
theorem dX9_publish_202 : decode cX9_publish 202 = .ok (.getfield 37, 3) := by decide +kernel
theorem dX9_publish_205 : decode cX9_publish 205 = .ok (.aload_n 0, 1) := by decide +kernel
theorem dX9_publish_206 : decode cX9_publish 206 = .ok (.getfield 52, 3) := by decide +kernel
theorem dX9_publish_209 : decode cX9_publish 209 = .ok (.iload_n 2, 1) := by decide +kernel
theorem dX9_publish_210 : decode cX9_publish 210 = .ok (.iaload, 1) := by decide +kernel
theorem dX9_publish_211 : decode cX9_publish 211 = .ok (.aload_n 0, 1) := by decide +kernel
theorem dX9_publish_212 : decode cX9_publish 212 = .ok (.getfield 141, 3) := by decide +kernel
theorem dX9_publish_215 : decode cX9_publish 215 = .ok (.bipush 24, 2) := by decide +kernel
theorem dX9_publish_217 : decode cX9_publish 217 = .ok (.idiv, 1) := by decide +kernel
theorem dX9_publish_218 : decode cX9_publish 218 = .ok (.iconst 1, 1) := by decide +kernel
theorem dX9_publish_219 : decode cX9_publish 219 = .ok (.iadd, 1) := by decide +kernel
theorem dX9_publish_220 : decode cX9_publish 220 = .ok (.iastore, 1) := by decide +kernel
theorem dX9_publish_221 : decode cX9_publish 221 = .ok (.iinc 2 1, 3) := by decide +kernel
theorem dX9_publish_224 : decode cX9_publish 224 = .ok (.goto (-49), 3) := by decide +kernel
theorem dX9_publish_227 : decode cX9_publish 227 = .ok (.iconst 0, 1) := by decide +kernel
theorem dX9_publish_228 : decode cX9_publish 228 = .ok (.istore_n 2, 1) := by decide +kernel
theorem dX9_publish_229 : decode cX9_publish 229 = .ok (.iload_n 2, 1) := by decide +kernel
theorem dX9_publish_230 : decode cX9_publish 230 = .ok (.bipush 9, 2) := by decide +kernel
theorem dX9_publish_232 : decode cX9_publish 232 = .ok (.if_icmp .ge 42, 3) := by decide +kernel
theorem dX9_publish_235 : decode cX9_publish 235 = .ok (.aload_n 0, 1) := by decide +kernel
theorem dX9_publish_236 : decode cX9_publish 236 = .ok (.getfield 43, 3) := by decide +kernel
theorem dX9_publish_239 : decode cX9_publish 239 = .ok (.bipush 9, 2) := by decide +kernel
theorem dX9_publish_241 : decode cX9_publish 241 = .ok (.aload_n 0, 1) := by decide +kernel
theorem dX9_publish_242 : decode cX9_publish 242 = .ok (.getfield 144, 3) := by decide +kernel
theorem dX9_publish_245 : decode cX9_publish 245 = .ok (.imul, 1) := by decide +kernel
theorem dX9_publish_246 : decode cX9_publish 246 = .ok (.iload_n 2, 1) := by decide +kernel
theorem dX9_publish_247 : decode cX9_publish 247 = .ok (.iadd, 1) := by decide +kernel
theorem dX9_publish_248 : decode cX9_publish 248 = .ok (.aload_n 0, 1) := by decide +kernel
theorem dX9_publish_249 : decode cX9_publish 249 = .ok (.getfield 16, 3) := by decide +kernel
theorem dX9_publish_252 : decode cX9_publish 252 = .ok (.aload_n 0, 1) := by decide +kernel
theorem dX9_publish_253 : decode cX9_publish 253 = .ok (.getfield 28, 3) := by decide +kernel
theorem dX9_publish_256 : decode cX9_publish 256 = .ok (.iload_n 2, 1) := by decide +kernel
theorem dX9_publish_257 : decode cX9_publish 257 = .ok (.iconst 3, 1) := by decide +kernel
theorem dX9_publish_258 : decode cX9_publish 258 = .ok (.idiv, 1) := by decide +kernel
theorem dX9_publish_259 : decode cX9_publish 259 = .ok (.iaload, 1) := by decide +kernel
theorem dX9_publish_260 : decode cX9_publish 260 = .ok (.iaload, 1) := by decide +kernel
theorem dX9_publish_261 : decode cX9_publish 261 = .ok (.iload_n 2, 1) := by decide +kernel
theorem dX9_publish_262 : decode cX9_publish 262 = .ok (.iconst 3, 1) := by decide +kernel
theorem dX9_publish_263 : decode cX9_publish 263 = .ok (.irem, 1) := by decide +kernel
theorem dX9_publish_264 : decode cX9_publish 264 = .ok (.invokestatic 107, 3) := by decide +kernel
theorem dX9_publish_267 : decode cX9_publish 267 = .ok (.iastore, 1) := by decide +kernel
theorem dX9_publish_268 : decode cX9_publish 268 = .ok (.iinc 2 1, 3) := by decide +kernel
theorem dX9_publish_271 : decode cX9_publish 271 = .ok (.goto (-42), 3) := by decide +kernel
theorem dX9_publish_274 : decode cX9_publish 274 = .ok (.aload_n 0, 1) := by decide +kernel
theorem dX9_publish_275 : decode cX9_publish 275 = .ok (.getfield 40, 3) := by decide +kernel
theorem dX9_publish_278 : decode cX9_publish 278 = .ok (.aload_n 0, 1) := by decide +kernel
theorem dX9_publish_279 : decode cX9_publish 279 = .ok (.getfield 144, 3) := by decide +kernel
theorem dX9_publish_282 : decode cX9_publish 282 = .ok (.aload_n 0, 1) := by decide +kernel
theorem dX9_publish_283 : decode cX9_publish 283 = .ok (.getfield 141, 3) := by decide +kernel
theorem dX9_publish_286 : decode cX9_publish 286 = .ok (.iastore, 1) := by decide +kernel
theorem dX9_publish_287 : decode cX9_publish 287 = .ok (.aload_n 0, 1) := by decide +kernel
theorem dX9_publish_288 : decode cX9_publish 288 = .ok (.dup, 1) := by decide +kernel
theorem dX9_publish_289 : decode cX9_publish 289 = .ok (.getfield 144, 3) := by decide +kernel
theorem dX9_publish_292 : decode cX9_publish 292 = .ok (.iconst 1, 1) := by decide +kernel
theorem dX9_publish_293 : decode cX9_publish 293 = .ok (.iadd, 1) := by decide +kernel
theorem dX9_publish_294 : decode cX9_publish 294 = .ok (.putfield 144, 3) := by decide +kernel
theorem dX9_publish_297 : decode cX9_publish 297 = .ok (.aload_n 0, 1) := by decide +kernel
theorem dX9_publish_298 : decode cX9_publish 298 = .ok (.getfield 144, 3) := by decide +kernel
theorem dX9_publish_301 : decode cX9_publish 301 = .ok (.iconst 1, 1) := by decide +kernel
theorem dX9_publish_302 : decode cX9_publish 302 = .ok (.isub, 1) := by decide +kernel
theorem dX9_publish_303 : decode cX9_publish 303 = .ok (.ireturn, 1) := by decide +kernel
theorem dX9_isPuzzle_0 : decode cX9_isPuzzle 0 = .ok (.iload_n 1, 1) := by decide +kernel
theorem dX9_isPuzzle_1 : decode cX9_isPuzzle 1 = .ok (.iconst 0, 1) := by decide +kernel
theorem dX9_isPuzzle_2 : decode cX9_isPuzzle 2 = .ok (.aload_n 0, 1) := by decide +kernel
theorem dX9_isPuzzle_3 : decode cX9_isPuzzle 3 = .ok (.getfield 144, 3) := by decide +kernel
theorem dX9_isPuzzle_6 : decode cX9_isPuzzle 6 = .ok (.iconst 1, 1) := by decide +kernel
theorem dX9_isPuzzle_7 : decode cX9_isPuzzle 7 = .ok (.isub, 1) := by decide +kernel
theorem dX9_isPuzzle_8 : decode cX9_isPuzzle 8 = .ok (.invokestatic 80, 3) := by decide +kernel
theorem dX9_isPuzzle_11 : decode cX9_isPuzzle 11 = .ok (.ireturn, 1) := by decide +kernel
theorem dX9_clueOf_0 : decode cX9_clueOf 0 = .ok (.aload_n 0, 1) := by decide +kernel
theorem dX9_clueOf_1 : decode cX9_clueOf 1 = .ok (.aload_n 0, 1) := by decide +kernel
theorem dX9_clueOf_2 : decode cX9_clueOf 2 = .ok (.iload_n 1, 1) := by decide +kernel
theorem dX9_clueOf_3 : decode cX9_clueOf 3 = .ok (.invokevirtual 150, 3) := by decide +kernel
theorem dX9_clueOf_6 : decode cX9_clueOf 6 = .ok (.ifCond .eq 16, 3) := by decide +kernel
theorem dX9_clueOf_9 : decode cX9_clueOf 9 = .ok (.iload_n 2, 1) := by decide +kernel
theorem dX9_clueOf_10 : decode cX9_clueOf 10 = .ok (.iconst 0, 1) := by decide +kernel
theorem dX9_clueOf_11 : decode cX9_clueOf 11 = .ok (.iconst 5, 1) := by decide +kernel
theorem dX9_clueOf_12 : decode cX9_clueOf 12 = .ok (.invokestatic 80, 3) := by decide +kernel
theorem dX9_clueOf_15 : decode cX9_clueOf 15 = .ok (.ifCond .eq 7, 3) := by decide +kernel
theorem dX9_clueOf_18 : decode cX9_clueOf 18 = .ok (.iconst 0, 1) := by decide +kernel
theorem dX9_clueOf_19 : decode cX9_clueOf 19 = .ok (.goto 4, 3) := by decide +kernel
theorem dX9_clueOf_22 : decode cX9_clueOf 22 = .ok (.iconst 1, 1) := by decide +kernel
theorem dX9_clueOf_23 : decode cX9_clueOf 23 = .ok (.putfield 73, 3) := by decide +kernel
theorem dX9_clueOf_26 : decode cX9_clueOf 26 = .ok (.aload_n 0, 1) := by decide +kernel
theorem dX9_clueOf_27 : decode cX9_clueOf 27 = .ok (.getfield 73, 3) := by decide +kernel
theorem dX9_clueOf_30 : decode cX9_clueOf 30 = .ok (.ifCond .ne 17, 3) := by decide +kernel
theorem dX9_clueOf_33 : decode cX9_clueOf 33 = .ok (.aload_n 0, 1) := by decide +kernel
theorem dX9_clueOf_34 : decode cX9_clueOf 34 = .ok (.getfield 46, 3) := by decide +kernel
theorem dX9_clueOf_37 : decode cX9_clueOf 37 = .ok (.bipush 6, 2) := by decide +kernel
theorem dX9_clueOf_39 : decode cX9_clueOf 39 = .ok (.iload_n 1, 1) := by decide +kernel
theorem dX9_clueOf_40 : decode cX9_clueOf 40 = .ok (.imul, 1) := by decide +kernel
theorem dX9_clueOf_41 : decode cX9_clueOf 41 = .ok (.iload_n 2, 1) := by decide +kernel
theorem dX9_clueOf_42 : decode cX9_clueOf 42 = .ok (.iadd, 1) := by decide +kernel
theorem dX9_clueOf_43 : decode cX9_clueOf 43 = .ok (.iaload, 1) := by decide +kernel
theorem dX9_clueOf_44 : decode cX9_clueOf 44 = .ok (.goto 4, 3) := by decide +kernel
theorem dX9_clueOf_47 : decode cX9_clueOf 47 = .ok (.iconst 0, 1) := by decide +kernel
theorem dX9_clueOf_48 : decode cX9_clueOf 48 = .ok (.ireturn, 1) := by decide +kernel
theorem dX9_addSolver_0 : decode cX9_addSolver 0 = .ok (.aload_n 0, 1) := by decide +kernel
theorem dX9_addSolver_1 : decode cX9_addSolver 1 = .ok (.iload_n 1, 1) := by decide +kernel
theorem dX9_addSolver_2 : decode cX9_addSolver 2 = .ok (.bipush (-12), 2) := by decide +kernel
theorem dX9_addSolver_4 : decode cX9_addSolver 4 = .ok (.bipush 14, 2) := by decide +kernel
theorem dX9_addSolver_6 : decode cX9_addSolver 6 = .ok (.invokestatic 80, 3) := by decide +kernel
theorem dX9_addSolver_9 : decode cX9_addSolver 9 = .ok (.ifCond .eq 14, 3) := by decide +kernel
theorem dX9_addSolver_12 : decode cX9_addSolver 12 = .ok (.iload_n 2, 1) := by decide +kernel
theorem dX9_addSolver_13 : decode cX9_addSolver 13 = .ok (.iconst 0, 1) := by decide +kernel
theorem dX9_addSolver_14 : decode cX9_addSolver 14 = .ok (.sipush 1000, 3) := by decide +kernel
theorem dX9_addSolver_17 : decode cX9_addSolver 17 = .ok (.invokestatic 80, 3) := by decide +kernel
theorem dX9_addSolver_20 : decode cX9_addSolver 20 = .ok (.ifCond .ne 7, 3) := by decide +kernel
theorem dX9_addSolver_23 : decode cX9_addSolver 23 = .ok (.iconst 1, 1) := by decide +kernel
theorem dX9_addSolver_24 : decode cX9_addSolver 24 = .ok (.goto 17, 3) := by decide +kernel
theorem dX9_addSolver_27 : decode cX9_addSolver 27 = .ok (.aload_n 0, 1) := by decide +kernel
theorem dX9_addSolver_28 : decode cX9_addSolver 28 = .ok (.getfield 153, 3) := by decide +kernel
theorem dX9_addSolver_31 : decode cX9_addSolver 31 = .ok (.bipush 6, 2) := by decide +kernel
theorem dX9_addSolver_33 : decode cX9_addSolver 33 = .ok (.if_icmp .ne 7, 3) := by decide +kernel
theorem dX9_addSolver_36 : decode cX9_addSolver 36 = .ok (.iconst 2, 1) := by decide +kernel
theorem dX9_addSolver_37 : decode cX9_addSolver 37 = .ok (.goto 4, 3) := by decide +kernel
theorem dX9_addSolver_40 : decode cX9_addSolver 40 = .ok (.iconst 0, 1) := by decide +kernel
theorem dX9_addSolver_41 : decode cX9_addSolver 41 = .ok (.putfield 73, 3) := by decide +kernel
theorem dX9_addSolver_44 : decode cX9_addSolver 44 = .ok (.aload_n 0, 1) := by decide +kernel
theorem dX9_addSolver_45 : decode cX9_addSolver 45 = .ok (.getfield 73, 3) := by decide +kernel
theorem dX9_addSolver_48 : decode cX9_addSolver 48 = .ok (.ifCond .le 5, 3) := by decide +kernel
theorem dX9_addSolver_51 : decode cX9_addSolver 51 = .ok (.iconst 0, 1) := by decide +kernel
theorem dX9_addSolver_52 : decode cX9_addSolver 52 = .ok (.ireturn, 1) := by decide +kernel
theorem dX9_addSolver_53 : decode cX9_addSolver 53 = .ok (.aload_n 0, 1) := by decide +kernel
theorem dX9_addSolver_54 : decode cX9_addSolver 54 = .ok (.getfield 55, 3) := by decide +kernel
theorem dX9_addSolver_57 : decode cX9_addSolver 57 = .ok (.aload_n 0, 1) := by decide +kernel
theorem dX9_addSolver_58 : decode cX9_addSolver 58 = .ok (.getfield 153, 3) := by decide +kernel
theorem dX9_addSolver_61 : decode cX9_addSolver 61 = .ok (.iload_n 1, 1) := by decide +kernel
theorem dX9_addSolver_62 : decode cX9_addSolver 62 = .ok (.iastore, 1) := by decide +kernel
theorem dX9_addSolver_63 : decode cX9_addSolver 63 = .ok (.aload_n 0, 1) := by decide +kernel
theorem dX9_addSolver_64 : decode cX9_addSolver 64 = .ok (.getfield 58, 3) := by decide +kernel
theorem dX9_addSolver_67 : decode cX9_addSolver 67 = .ok (.aload_n 0, 1) := by decide +kernel
theorem dX9_addSolver_68 : decode cX9_addSolver 68 = .ok (.getfield 153, 3) := by decide +kernel
theorem dX9_addSolver_71 : decode cX9_addSolver 71 = .ok (.iload_n 2, 1) := by decide +kernel
theorem dX9_addSolver_72 : decode cX9_addSolver 72 = .ok (.iastore, 1) := by decide +kernel
theorem dX9_addSolver_73 : decode cX9_addSolver 73 = .ok (.aload_n 0, 1) := by decide +kernel
theorem dX9_addSolver_74 : decode cX9_addSolver 74 = .ok (.dup, 1) := by decide +kernel
theorem dX9_addSolver_75 : decode cX9_addSolver 75 = .ok (.getfield 153, 3) := by decide +kernel
theorem dX9_addSolver_78 : decode cX9_addSolver 78 = .ok (.iconst 1, 1) := by decide +kernel
theorem dX9_addSolver_79 : decode cX9_addSolver 79 = .ok (.iadd, 1) := by decide +kernel
theorem dX9_addSolver_80 : decode cX9_addSolver 80 = .ok (.putfield 153, 3) := by decide +kernel
theorem dX9_addSolver_83 : decode cX9_addSolver 83 = .ok (.aload_n 0, 1) := by decide +kernel
theorem dX9_addSolver_84 : decode cX9_addSolver 84 = .ok (.getfield 153, 3) := by decide +kernel
theorem dX9_addSolver_87 : decode cX9_addSolver 87 = .ok (.iconst 1, 1) := by decide +kernel
theorem dX9_addSolver_88 : decode cX9_addSolver 88 = .ok (.isub, 1) := by decide +kernel
theorem dX9_addSolver_89 : decode cX9_addSolver 89 = .ok (.ireturn, 1) := by decide +kernel
theorem dX9_isSolver_0 : decode cX9_isSolver 0 = .ok (.iload_n 1, 1) := by decide +kernel
theorem dX9_isSolver_1 : decode cX9_isSolver 1 = .ok (.iconst 0, 1) := by decide +kernel
theorem dX9_isSolver_2 : decode cX9_isSolver 2 = .ok (.aload_n 0, 1) := by decide +kernel
theorem dX9_isSolver_3 : decode cX9_isSolver 3 = .ok (.getfield 153, 3) := by decide +kernel
theorem dX9_isSolver_6 : decode cX9_isSolver 6 = .ok (.iconst 1, 1) := by decide +kernel
theorem dX9_isSolver_7 : decode cX9_isSolver 7 = .ok (.isub, 1) := by decide +kernel
theorem dX9_isSolver_8 : decode cX9_isSolver 8 = .ok (.invokestatic 80, 3) := by decide +kernel
theorem dX9_isSolver_11 : decode cX9_isSolver 11 = .ok (.ireturn, 1) := by decide +kernel
theorem dX9_dayOf_0 : decode cX9_dayOf 0 = .ok (.iload_n 2, 1) := by decide +kernel
theorem dX9_dayOf_1 : decode cX9_dayOf 1 = .ok (.aload_n 0, 1) := by decide +kernel
theorem dX9_dayOf_2 : decode cX9_dayOf 2 = .ok (.getfield 55, 3) := by decide +kernel
theorem dX9_dayOf_5 : decode cX9_dayOf 5 = .ok (.iload_n 1, 1) := by decide +kernel
theorem dX9_dayOf_6 : decode cX9_dayOf 6 = .ok (.iaload, 1) := by decide +kernel
theorem dX9_dayOf_7 : decode cX9_dayOf 7 = .ok (.iadd, 1) := by decide +kernel
theorem dX9_dayOf_8 : decode cX9_dayOf 8 = .ok (.bipush 24, 2) := by decide +kernel
theorem dX9_dayOf_10 : decode cX9_dayOf 10 = .ok (.iadd, 1) := by decide +kernel
theorem dX9_dayOf_11 : decode cX9_dayOf 11 = .ok (.bipush 24, 2) := by decide +kernel
theorem dX9_dayOf_13 : decode cX9_dayOf 13 = .ok (.idiv, 1) := by decide +kernel
theorem dX9_dayOf_14 : decode cX9_dayOf 14 = .ok (.ireturn, 1) := by decide +kernel
theorem dX9_openOf_0 : decode cX9_openOf 0 = .ok (.iconst 0, 1) := by decide +kernel
theorem dX9_openOf_1 : decode cX9_openOf 1 = .ok (.istore_n 2, 1) := by decide +kernel
theorem dX9_openOf_2 : decode cX9_openOf 2 = .ok (.iconst 0, 1) := by decide +kernel
theorem dX9_openOf_3 : decode cX9_openOf 3 = .ok (.istore_n 3, 1) := by decide +kernel
theorem dX9_openOf_4 : decode cX9_openOf 4 = .ok (.iload_n 3, 1) := by decide +kernel
theorem dX9_openOf_5 : decode cX9_openOf 5 = .ok (.bipush 6, 2) := by decide +kernel
theorem dX9_openOf_7 : decode cX9_openOf 7 = .ok (.if_icmp .ge 62, 3) := by decide +kernel
theorem dX9_openOf_10 : decode cX9_openOf 10 = .ok (.aload_n 0, 1) := by decide +kernel
theorem dX9_openOf_11 : decode cX9_openOf 11 = .ok (.getfield 49, 3) := by decide +kernel
theorem dX9_openOf_14 : decode cX9_openOf 14 = .ok (.iload_n 1, 1) := by decide +kernel
theorem dX9_openOf_15 : decode cX9_openOf 15 = .ok (.iaload, 1) := by decide +kernel
theorem dX9_openOf_16 : decode cX9_openOf 16 = .ok (.iload_n 3, 1) := by decide +kernel
theorem dX9_openOf_17 : decode cX9_openOf 17 = .ok (.ishr, 1) := by decide +kernel
theorem dX9_openOf_18 : decode cX9_openOf 18 = .ok (.iconst 1, 1) := by decide +kernel
theorem dX9_openOf_19 : decode cX9_openOf 19 = .ok (.iand, 1) := by decide +kernel
theorem dX9_openOf_20 : decode cX9_openOf 20 = .ok (.iconst 1, 1) := by decide +kernel
theorem dX9_openOf_21 : decode cX9_openOf 21 = .ok (.if_icmp .ne 7, 3) := by decide +kernel
theorem dX9_openOf_24 : decode cX9_openOf 24 = .ok (.iconst 1, 1) := by decide +kernel
theorem dX9_openOf_25 : decode cX9_openOf 25 = .ok (.goto 4, 3) := by decide +kernel
theorem dX9_openOf_28 : decode cX9_openOf 28 = .ok (.iconst 0, 1) := by decide +kernel
theorem dX9_openOf_29 : decode cX9_openOf 29 = .ok (.istore 4, 2) := by decide +kernel
theorem dX9_openOf_31 : decode cX9_openOf 31 = .ok (.iload_n 2, 1) := by decide +kernel
theorem dX9_openOf_32 : decode cX9_openOf 32 = .ok (.iload 4, 2) := by decide +kernel
theorem dX9_openOf_34 : decode cX9_openOf 34 = .ok (.ifCond .ne 7, 3) := by decide +kernel
theorem dX9_openOf_37 : decode cX9_openOf 37 = .ok (.iconst 0, 1) := by decide +kernel
theorem dX9_openOf_38 : decode cX9_openOf 38 = .ok (.goto 23, 3) := by decide +kernel
theorem dX9_openOf_41 : decode cX9_openOf 41 = .ok (.iload_n 3, 1) := by decide +kernel
theorem dX9_openOf_42 : decode cX9_openOf 42 = .ok (.iconst 3, 1) := by decide +kernel
theorem dX9_openOf_43 : decode cX9_openOf 43 = .ok (.if_icmp .ge 12, 3) := by decide +kernel
theorem dX9_openOf_46 : decode cX9_openOf 46 = .ok (.bipush 7, 2) := by decide +kernel
theorem dX9_openOf_48 : decode cX9_openOf 48 = .ok (.iconst 3, 1) := by decide +kernel
theorem dX9_openOf_49 : decode cX9_openOf 49 = .ok (.iload_n 3, 1) := by decide +kernel
theorem dX9_openOf_50 : decode cX9_openOf 50 = .ok (.imul, 1) := by decide +kernel
theorem dX9_openOf_51 : decode cX9_openOf 51 = .ok (.ishl, 1) := by decide +kernel
theorem dX9_openOf_52 : decode cX9_openOf 52 = .ok (.goto 9, 3) := by decide +kernel
theorem dX9_openOf_55 : decode cX9_openOf 55 = .ok (.bipush 73, 2) := by decide +kernel
theorem dX9_openOf_57 : decode cX9_openOf 57 = .ok (.iload_n 3, 1) := by decide +kernel
theorem dX9_openOf_58 : decode cX9_openOf 58 = .ok (.iconst 3, 1) := by decide +kernel
theorem dX9_openOf_59 : decode cX9_openOf 59 = .ok (.isub, 1) := by decide +kernel
theorem dX9_openOf_60 : decode cX9_openOf 60 = .ok (.ishl, 1) := by decide +kernel
theorem dX9_openOf_61 : decode cX9_openOf 61 = .ok (.ior, 1) := by decide +kernel
theorem dX9_openOf_62 : decode cX9_openOf 62 = .ok (.istore_n 2, 1) := by decide +kernel
theorem dX9_openOf_63 : decode cX9_openOf 63 = .ok (.iinc 3 1, 3) := by decide +kernel
theorem dX9_openOf_66 : decode cX9_openOf 66 = .ok (.goto (-62), 3) := by decide +kernel
theorem dX9_openOf_69 : decode cX9_openOf 69 = .ok (.iload_n 2, 1) := by decide +kernel
theorem dX9_openOf_70 : decode cX9_openOf 70 = .ok (.ireturn, 1) := by decide +kernel
theorem dX9_solved_0 : decode cX9_solved 0 = .ok (.aload_n 0, 1) := by decide +kernel
theorem dX9_solved_1 : decode cX9_solved 1 = .ok (.iload_n 2, 1) := by decide +kernel
theorem dX9_solved_2 : decode cX9_solved 2 = .ok (.invokevirtual 156, 3) := by decide +kernel
theorem dX9_solved_5 : decode cX9_solved 5 = .ok (.istore_n 3, 1) := by decide +kernel
theorem dX9_solved_6 : decode cX9_solved 6 = .ok (.aload_n 0, 1) := by decide +kernel
theorem dX9_solved_7 : decode cX9_solved 7 = .ok (.getfield 40, 3) := by decide +kernel
theorem dX9_solved_10 : decode cX9_solved 10 = .ok (.iload_n 2, 1) := by decide +kernel
theorem dX9_solved_11 : decode cX9_solved 11 = .ok (.iaload, 1) := by decide +kernel
theorem dX9_solved_12 : decode cX9_solved 12 = .ok (.istore 4, 2) := by decide +kernel
theorem dX9_solved_14 : decode cX9_solved 14 = .ok (.iconst 1, 1) := by decide +kernel
theorem dX9_solved_15 : decode cX9_solved 15 = .ok (.istore 5, 2) := by decide +kernel
theorem dX9_solved_17 : decode cX9_solved 17 = .ok (.iconst 0, 1) := by decide +kernel
theorem dX9_solved_18 : decode cX9_solved 18 = .ok (.istore 6, 2) := by decide +kernel
theorem dX9_solved_20 : decode cX9_solved 20 = .ok (.iconst 0, 1) := by decide +kernel
theorem dX9_solved_21 : decode cX9_solved 21 = .ok (.istore 7, 2) := by decide +kernel
theorem dX9_solved_23 : decode cX9_solved 23 = .ok (.iload 7, 2) := by decide +kernel
theorem dX9_solved_25 : decode cX9_solved 25 = .ok (.bipush 9, 2) := by decide +kernel
theorem dX9_solved_27 : decode cX9_solved 27 = .ok (.if_icmp .ge 90, 3) := by decide +kernel
theorem dX9_solved_30 : decode cX9_solved 30 = .ok (.aload_n 0, 1) := by decide +kernel
theorem dX9_solved_31 : decode cX9_solved 31 = .ok (.getfield 61, 3) := by decide +kernel
theorem dX9_solved_34 : decode cX9_solved 34 = .ok (.sipush 180, 3) := by decide +kernel
theorem dX9_solved_37 : decode cX9_solved 37 = .ok (.iload_n 1, 1) := by decide +kernel
theorem dX9_solved_38 : decode cX9_solved 38 = .ok (.imul, 1) := by decide +kernel
theorem dX9_solved_39 : decode cX9_solved 39 = .ok (.bipush 9, 2) := by decide +kernel
theorem dX9_solved_41 : decode cX9_solved 41 = .ok (.iload_n 2, 1) := by decide +kernel
theorem dX9_solved_42 : decode cX9_solved 42 = .ok (.imul, 1) := by decide +kernel
theorem dX9_solved_43 : decode cX9_solved 43 = .ok (.iadd, 1) := by decide +kernel
theorem dX9_solved_44 : decode cX9_solved 44 = .ok (.iload 7, 2) := by decide +kernel
theorem dX9_solved_46 : decode cX9_solved 46 = .ok (.iadd, 1) := by decide +kernel
theorem dX9_solved_47 : decode cX9_solved 47 = .ok (.iaload, 1) := by decide +kernel
theorem dX9_solved_48 : decode cX9_solved 48 = .ok (.istore 8, 2) := by decide +kernel
theorem dX9_solved_50 : decode cX9_solved 50 = .ok (.iload 6, 2) := by decide +kernel
theorem dX9_solved_52 : decode cX9_solved 52 = .ok (.ifCond .ne 8, 3) := by decide +kernel
theorem dX9_solved_55 : decode cX9_solved 55 = .ok (.iload 8, 2) := by decide +kernel
theorem dX9_solved_57 : decode cX9_solved 57 = .ok (.ifCond .le 7, 3) := by decide +kernel
theorem dX9_solved_60 : decode cX9_solved 60 = .ok (.iconst 1, 1) := by decide +kernel
theorem dX9_solved_61 : decode cX9_solved 61 = .ok (.goto 4, 3) := by decide +kernel
theorem dX9_solved_64 : decode cX9_solved 64 = .ok (.iconst 0, 1) := by decide +kernel
theorem dX9_solved_65 : decode cX9_solved 65 = .ok (.istore 6, 2) := by decide +kernel
theorem dX9_solved_67 : decode cX9_solved 67 = .ok (.iload_n 3, 1) := by decide +kernel
theorem dX9_solved_68 : decode cX9_solved 68 = .ok (.iload 7, 2) := by decide +kernel
theorem dX9_solved_70 : decode cX9_solved 70 = .ok (.ishr, 1) := by decide +kernel
theorem dX9_solved_71 : decode cX9_solved 71 = .ok (.iconst 1, 1) := by decide +kernel
theorem dX9_solved_72 : decode cX9_solved 72 = .ok (.iand, 1) := by decide +kernel
theorem dX9_solved_73 : decode cX9_solved 73 = .ok (.ifCond .ne 38, 3) := by decide +kernel
theorem dX9_solved_76 : decode cX9_solved 76 = .ok (.iload 8, 2) := by decide +kernel
theorem dX9_solved_78 : decode cX9_solved 78 = .ok (.ifCond .ne 5, 3) := by decide +kernel
theorem dX9_solved_81 : decode cX9_solved 81 = .ok (.iconst (-1), 1) := by decide +kernel
theorem dX9_solved_82 : decode cX9_solved 82 = .ok (.ireturn, 1) := by decide +kernel
theorem dX9_solved_83 : decode cX9_solved 83 = .ok (.iload 5, 2) := by decide +kernel
theorem dX9_solved_85 : decode cX9_solved 85 = .ok (.ifCond .ne 12, 3) := by decide +kernel
theorem dX9_solved_88 : decode cX9_solved 88 = .ok (.iload 8, 2) := by decide +kernel
theorem dX9_solved_90 : decode cX9_solved 90 = .ok (.iconst 1, 1) := by decide +kernel
theorem dX9_solved_91 : decode cX9_solved 91 = .ok (.isub, 1) := by decide +kernel
theorem dX9_solved_92 : decode cX9_solved 92 = .ok (.iload 4, 2) := by decide +kernel
theorem dX9_solved_94 : decode cX9_solved 94 = .ok (.if_icmp .le 10, 3) := by decide +kernel
theorem dX9_solved_97 : decode cX9_solved 97 = .ok (.iload 8, 2) := by decide +kernel
theorem dX9_solved_99 : decode cX9_solved 99 = .ok (.iconst 1, 1) := by decide +kernel
theorem dX9_solved_100 : decode cX9_solved 100 = .ok (.isub, 1) := by decide +kernel
theorem dX9_solved_101 : decode cX9_solved 101 = .ok (.goto 5, 3) := by decide +kernel
theorem dX9_solved_104 : decode cX9_solved 104 = .ok (.iload 4, 2) := by decide +kernel
theorem dX9_solved_106 : decode cX9_solved 106 = .ok (.istore 4, 2) := by decide +kernel
theorem dX9_solved_108 : decode cX9_solved 108 = .ok (.iconst 0, 1) := by decide +kernel
theorem dX9_solved_109 : decode cX9_solved 109 = .ok (.istore 5, 2) := by decide +kernel
theorem dX9_solved_111 : decode cX9_solved 111 = .ok (.iinc 7 1, 3) := by decide +kernel
theorem dX9_solved_114 : decode cX9_solved 114 = .ok (.goto (-91), 3) := by decide +kernel
theorem dX9_solved_117 : decode cX9_solved 117 = .ok (.iload 6, 2) := by decide +kernel
theorem dX9_solved_119 : decode cX9_solved 119 = .ok (.ifCond .eq 8, 3) := by decide +kernel
theorem dX9_solved_122 : decode cX9_solved 122 = .ok (.iload 4, 2) := by decide +kernel
theorem dX9_solved_124 : decode cX9_solved 124 = .ok (.goto 4, 3) := by decide +kernel
theorem dX9_solved_127 : decode cX9_solved 127 = .ok (.iconst (-1), 1) := by decide +kernel
theorem dX9_solved_128 : decode cX9_solved 128 = .ok (.ireturn, 1) := by decide +kernel
theorem dX9_counts_0 : decode cX9_counts 0 = .ok (.aload_n 0, 1) := by decide +kernel
theorem dX9_counts_1 : decode cX9_counts 1 = .ok (.iload_n 1, 1) := by decide +kernel
theorem dX9_counts_2 : decode cX9_counts 2 = .ok (.iload_n 2, 1) := by decide +kernel
theorem dX9_counts_3 : decode cX9_counts 3 = .ok (.invokevirtual 159, 3) := by decide +kernel
theorem dX9_counts_6 : decode cX9_counts 6 = .ok (.istore_n 3, 1) := by decide +kernel
theorem dX9_counts_7 : decode cX9_counts 7 = .ok (.iload_n 3, 1) := by decide +kernel
theorem dX9_counts_8 : decode cX9_counts 8 = .ok (.iconst (-1), 1) := by decide +kernel
theorem dX9_counts_9 : decode cX9_counts 9 = .ok (.if_icmp .eq 21, 3) := by decide +kernel
theorem dX9_counts_12 : decode cX9_counts 12 = .ok (.aload_n 0, 1) := by decide +kernel
theorem dX9_counts_13 : decode cX9_counts 13 = .ok (.getfield 70, 3) := by decide +kernel
theorem dX9_counts_16 : decode cX9_counts 16 = .ok (.sipush 1260, 3) := by decide +kernel
theorem dX9_counts_19 : decode cX9_counts 19 = .ok (.iload_n 1, 1) := by decide +kernel
theorem dX9_counts_20 : decode cX9_counts 20 = .ok (.imul, 1) := by decide +kernel
theorem dX9_counts_21 : decode cX9_counts 21 = .ok (.aload_n 0, 1) := by decide +kernel
theorem dX9_counts_22 : decode cX9_counts 22 = .ok (.iload_n 1, 1) := by decide +kernel
theorem dX9_counts_23 : decode cX9_counts 23 = .ok (.iload_n 3, 1) := by decide +kernel
theorem dX9_counts_24 : decode cX9_counts 24 = .ok (.invokevirtual 162, 3) := by decide +kernel
theorem dX9_counts_27 : decode cX9_counts 27 = .ok (.iadd, 1) := by decide +kernel
theorem dX9_counts_28 : decode cX9_counts 28 = .ok (.iconst 1, 1) := by decide +kernel
theorem dX9_counts_29 : decode cX9_counts 29 = .ok (.iastore, 1) := by decide +kernel
theorem dX9_counts_30 : decode cX9_counts 30 = .ok (.return_, 1) := by decide +kernel
theorem dX9_isCell_0 : decode cX9_isCell 0 = .ok (.aload_n 0, 1) := by decide +kernel
theorem dX9_isCell_1 : decode cX9_isCell 1 = .ok (.iload_n 1, 1) := by decide +kernel
theorem dX9_isCell_2 : decode cX9_isCell 2 = .ok (.invokevirtual 165, 3) := by decide +kernel
theorem dX9_isCell_5 : decode cX9_isCell 5 = .ok (.ifCond .eq 25, 3) := by decide +kernel
theorem dX9_isCell_8 : decode cX9_isCell 8 = .ok (.aload_n 0, 1) := by decide +kernel
theorem dX9_isCell_9 : decode cX9_isCell 9 = .ok (.iload_n 2, 1) := by decide +kernel
theorem dX9_isCell_10 : decode cX9_isCell 10 = .ok (.invokevirtual 150, 3) := by decide +kernel
theorem dX9_isCell_13 : decode cX9_isCell 13 = .ok (.ifCond .eq 17, 3) := by decide +kernel
theorem dX9_isCell_16 : decode cX9_isCell 16 = .ok (.iload_n 3, 1) := by decide +kernel
theorem dX9_isCell_17 : decode cX9_isCell 17 = .ok (.iconst 0, 1) := by decide +kernel
theorem dX9_isCell_18 : decode cX9_isCell 18 = .ok (.bipush 8, 2) := by decide +kernel
theorem dX9_isCell_20 : decode cX9_isCell 20 = .ok (.invokestatic 80, 3) := by decide +kernel
theorem dX9_isCell_23 : decode cX9_isCell 23 = .ok (.ifCond .eq 7, 3) := by decide +kernel
theorem dX9_isCell_26 : decode cX9_isCell 26 = .ok (.iconst 1, 1) := by decide +kernel
theorem dX9_isCell_27 : decode cX9_isCell 27 = .ok (.goto 4, 3) := by decide +kernel
theorem dX9_isCell_30 : decode cX9_isCell 30 = .ok (.iconst 0, 1) := by decide +kernel
theorem dX9_isCell_31 : decode cX9_isCell 31 = .ok (.ireturn, 1) := by decide +kernel
theorem dX9_isOver_0 : decode cX9_isOver 0 = .ok (.aload_n 0, 1) := by decide +kernel
theorem dX9_isOver_1 : decode cX9_isOver 1 = .ok (.getfield 61, 3) := by decide +kernel
theorem dX9_isOver_4 : decode cX9_isOver 4 = .ok (.sipush 180, 3) := by decide +kernel
theorem dX9_isOver_7 : decode cX9_isOver 7 = .ok (.iload_n 1, 1) := by decide +kernel
theorem dX9_isOver_8 : decode cX9_isOver 8 = .ok (.imul, 1) := by decide +kernel
theorem dX9_isOver_9 : decode cX9_isOver 9 = .ok (.bipush 9, 2) := by decide +kernel
theorem dX9_isOver_11 : decode cX9_isOver 11 = .ok (.iload_n 2, 1) := by decide +kernel
theorem dX9_isOver_12 : decode cX9_isOver 12 = .ok (.imul, 1) := by decide +kernel
theorem dX9_isOver_13 : decode cX9_isOver 13 = .ok (.iadd, 1) := by decide +kernel
theorem dX9_isOver_14 : decode cX9_isOver 14 = .ok (.iload_n 3, 1) := by decide +kernel
theorem dX9_isOver_15 : decode cX9_isOver 15 = .ok (.iadd, 1) := by decide +kernel
theorem dX9_isOver_16 : decode cX9_isOver 16 = .ok (.iaload, 1) := by decide +kernel
theorem dX9_isOver_17 : decode cX9_isOver 17 = .ok (.ifCond .gt 16, 3) := by decide +kernel
theorem dX9_isOver_20 : decode cX9_isOver 20 = .ok (.aload_n 0, 1) := by decide +kernel
theorem dX9_isOver_21 : decode cX9_isOver 21 = .ok (.iload_n 2, 1) := by decide +kernel
theorem dX9_isOver_22 : decode cX9_isOver 22 = .ok (.invokevirtual 156, 3) := by decide +kernel
theorem dX9_isOver_25 : decode cX9_isOver 25 = .ok (.iload_n 3, 1) := by decide +kernel
theorem dX9_isOver_26 : decode cX9_isOver 26 = .ok (.ishr, 1) := by decide +kernel
theorem dX9_isOver_27 : decode cX9_isOver 27 = .ok (.iconst 1, 1) := by decide +kernel
theorem dX9_isOver_28 : decode cX9_isOver 28 = .ok (.iand, 1) := by decide +kernel
theorem dX9_isOver_29 : decode cX9_isOver 29 = .ok (.iconst 1, 1) := by decide +kernel
theorem dX9_isOver_30 : decode cX9_isOver 30 = .ok (.if_icmp .ne 7, 3) := by decide +kernel
theorem dX9_isOver_33 : decode cX9_isOver 33 = .ok (.iconst 1, 1) := by decide +kernel
theorem dX9_isOver_34 : decode cX9_isOver 34 = .ok (.goto 4, 3) := by decide +kernel
theorem dX9_isOver_37 : decode cX9_isOver 37 = .ok (.iconst 0, 1) := by decide +kernel
theorem dX9_isOver_38 : decode cX9_isOver 38 = .ok (.ireturn, 1) := by decide +kernel
theorem dX9_enter_0 : decode cX9_enter 0 = .ok (.aload_n 0, 1) := by decide +kernel
theorem dX9_enter_1 : decode cX9_enter 1 = .ok (.aload_n 0, 1) := by decide +kernel
theorem dX9_enter_2 : decode cX9_enter 2 = .ok (.iload_n 1, 1) := by decide +kernel
theorem dX9_enter_3 : decode cX9_enter 3 = .ok (.iload_n 2, 1) := by decide +kernel
theorem dX9_enter_4 : decode cX9_enter 4 = .ok (.iload_n 3, 1) := by decide +kernel
theorem dX9_enter_5 : decode cX9_enter 5 = .ok (.invokevirtual 168, 3) := by decide +kernel
theorem dX9_enter_8 : decode cX9_enter 8 = .ok (.ifCond .eq 14, 3) := by decide +kernel
theorem dX9_enter_11 : decode cX9_enter 11 = .ok (.iload 4, 2) := by decide +kernel
theorem dX9_enter_13 : decode cX9_enter 13 = .ok (.iconst 0, 1) := by decide +kernel
theorem dX9_enter_14 : decode cX9_enter 14 = .ok (.bipush 8, 2) := by decide +kernel
theorem dX9_enter_16 : decode cX9_enter 16 = .ok (.invokestatic 80, 3) := by decide +kernel
theorem dX9_enter_19 : decode cX9_enter 19 = .ok (.ifCond .ne 7, 3) := by decide +kernel
theorem dX9_enter_22 : decode cX9_enter 22 = .ok (.iconst 1, 1) := by decide +kernel
theorem dX9_enter_23 : decode cX9_enter 23 = .ok (.goto 18, 3) := by decide +kernel
theorem dX9_enter_26 : decode cX9_enter 26 = .ok (.aload_n 0, 1) := by decide +kernel
theorem dX9_enter_27 : decode cX9_enter 27 = .ok (.iload_n 1, 1) := by decide +kernel
theorem dX9_enter_28 : decode cX9_enter 28 = .ok (.iload_n 2, 1) := by decide +kernel
theorem dX9_enter_29 : decode cX9_enter 29 = .ok (.iload_n 3, 1) := by decide +kernel
theorem dX9_enter_30 : decode cX9_enter 30 = .ok (.invokevirtual 171, 3) := by decide +kernel
theorem dX9_enter_33 : decode cX9_enter 33 = .ok (.ifCond .eq 7, 3) := by decide +kernel
theorem dX9_enter_36 : decode cX9_enter 36 = .ok (.iconst 2, 1) := by decide +kernel
theorem dX9_enter_37 : decode cX9_enter 37 = .ok (.goto 4, 3) := by decide +kernel
theorem dX9_enter_40 : decode cX9_enter 40 = .ok (.iconst 0, 1) := by decide +kernel
theorem dX9_enter_41 : decode cX9_enter 41 = .ok (.putfield 73, 3) := by decide +kernel
theorem dX9_enter_44 : decode cX9_enter 44 = .ok (.aload_n 0, 1) := by decide +kernel
theorem dX9_enter_45 : decode cX9_enter 45 = .ok (.getfield 73, 3) := by decide +kernel
theorem dX9_enter_48 : decode cX9_enter 48 = .ok (.ifCond .gt 19, 3) := by decide +kernel
theorem dX9_enter_51 : decode cX9_enter 51 = .ok (.aload_n 0, 1) := by decide +kernel
theorem dX9_enter_52 : decode cX9_enter 52 = .ok (.getfield 43, 3) := by decide +kernel
theorem dX9_enter_55 : decode cX9_enter 55 = .ok (.bipush 9, 2) := by decide +kernel
theorem dX9_enter_57 : decode cX9_enter 57 = .ok (.iload_n 2, 1) := by decide +kernel
theorem dX9_enter_58 : decode cX9_enter 58 = .ok (.imul, 1) := by decide +kernel
theorem dX9_enter_59 : decode cX9_enter 59 = .ok (.iload_n 3, 1) := by decide +kernel
theorem dX9_enter_60 : decode cX9_enter 60 = .ok (.iadd, 1) := by decide +kernel
theorem dX9_enter_61 : decode cX9_enter 61 = .ok (.iaload, 1) := by decide +kernel
theorem dX9_enter_62 : decode cX9_enter 62 = .ok (.iload 4, 2) := by decide +kernel
theorem dX9_enter_64 : decode cX9_enter 64 = .ok (.if_icmp .eq 5, 3) := by decide +kernel
theorem dX9_enter_67 : decode cX9_enter 67 = .ok (.iconst 0, 1) := by decide +kernel
theorem dX9_enter_68 : decode cX9_enter 68 = .ok (.ireturn, 1) := by decide +kernel
theorem dX9_enter_69 : decode cX9_enter 69 = .ok (.aload_n 0, 1) := by decide +kernel
theorem dX9_enter_70 : decode cX9_enter 70 = .ok (.getfield 61, 3) := by decide +kernel
theorem dX9_enter_73 : decode cX9_enter 73 = .ok (.sipush 180, 3) := by decide +kernel
theorem dX9_enter_76 : decode cX9_enter 76 = .ok (.iload_n 1, 1) := by decide +kernel
theorem dX9_enter_77 : decode cX9_enter 77 = .ok (.imul, 1) := by decide +kernel
theorem dX9_enter_78 : decode cX9_enter 78 = .ok (.bipush 9, 2) := by decide +kernel
theorem dX9_enter_80 : decode cX9_enter 80 = .ok (.iload_n 2, 1) := by decide +kernel
theorem dX9_enter_81 : decode cX9_enter 81 = .ok (.imul, 1) := by decide +kernel
theorem dX9_enter_82 : decode cX9_enter 82 = .ok (.iadd, 1) := by decide +kernel
theorem dX9_enter_83 : decode cX9_enter 83 = .ok (.iload_n 3, 1) := by decide +kernel
theorem dX9_enter_84 : decode cX9_enter 84 = .ok (.iadd, 1) := by decide +kernel
theorem dX9_enter_85 : decode cX9_enter 85 = .ok (.aload_n 0, 1) := by decide +kernel
theorem dX9_enter_86 : decode cX9_enter 86 = .ok (.getfield 141, 3) := by decide +kernel
theorem dX9_enter_89 : decode cX9_enter 89 = .ok (.iconst 1, 1) := by decide +kernel
theorem dX9_enter_90 : decode cX9_enter 90 = .ok (.iadd, 1) := by decide +kernel
theorem dX9_enter_91 : decode cX9_enter 91 = .ok (.iastore, 1) := by decide +kernel
theorem dX9_enter_92 : decode cX9_enter 92 = .ok (.aload_n 0, 1) := by decide +kernel
theorem dX9_enter_93 : decode cX9_enter 93 = .ok (.iload_n 1, 1) := by decide +kernel
theorem dX9_enter_94 : decode cX9_enter 94 = .ok (.iload_n 2, 1) := by decide +kernel
theorem dX9_enter_95 : decode cX9_enter 95 = .ok (.invokevirtual 174, 3) := by decide +kernel
theorem dX9_enter_98 : decode cX9_enter 98 = .ok (.iconst 1, 1) := by decide +kernel
theorem dX9_enter_99 : decode cX9_enter 99 = .ok (.ireturn, 1) := by decide +kernel
theorem dX9_help_0 : decode cX9_help 0 = .ok (.aload_n 0, 1) := by decide +kernel
theorem dX9_help_1 : decode cX9_help 1 = .ok (.aload_n 0, 1) := by decide +kernel
theorem dX9_help_2 : decode cX9_help 2 = .ok (.iload_n 1, 1) := by decide +kernel
theorem dX9_help_3 : decode cX9_help 3 = .ok (.iload_n 2, 1) := by decide +kernel
theorem dX9_help_4 : decode cX9_help 4 = .ok (.iload_n 3, 1) := by decide +kernel
theorem dX9_help_5 : decode cX9_help 5 = .ok (.invokevirtual 168, 3) := by decide +kernel
theorem dX9_help_8 : decode cX9_help 8 = .ok (.ifCond .ne 7, 3) := by decide +kernel
theorem dX9_help_11 : decode cX9_help 11 = .ok (.iconst 1, 1) := by decide +kernel
theorem dX9_help_12 : decode cX9_help 12 = .ok (.goto 18, 3) := by decide +kernel
theorem dX9_help_15 : decode cX9_help 15 = .ok (.aload_n 0, 1) := by decide +kernel
theorem dX9_help_16 : decode cX9_help 16 = .ok (.iload_n 1, 1) := by decide +kernel
theorem dX9_help_17 : decode cX9_help 17 = .ok (.iload_n 2, 1) := by decide +kernel
theorem dX9_help_18 : decode cX9_help 18 = .ok (.iload_n 3, 1) := by decide +kernel
theorem dX9_help_19 : decode cX9_help 19 = .ok (.invokevirtual 171, 3) := by decide +kernel
theorem dX9_help_22 : decode cX9_help 22 = .ok (.ifCond .eq 7, 3) := by decide +kernel
theorem dX9_help_25 : decode cX9_help 25 = .ok (.iconst 2, 1) := by decide +kernel
theorem dX9_help_26 : decode cX9_help 26 = .ok (.goto 4, 3) := by decide +kernel
theorem dX9_help_29 : decode cX9_help 29 = .ok (.iconst 0, 1) := by decide +kernel
theorem dX9_help_30 : decode cX9_help 30 = .ok (.putfield 73, 3) := by decide +kernel
theorem dX9_help_33 : decode cX9_help 33 = .ok (.aload_n 0, 1) := by decide +kernel
theorem dX9_help_34 : decode cX9_help 34 = .ok (.getfield 73, 3) := by decide +kernel
theorem dX9_help_37 : decode cX9_help 37 = .ok (.ifCond .le 5, 3) := by decide +kernel
theorem dX9_help_40 : decode cX9_help 40 = .ok (.iconst 0, 1) := by decide +kernel
theorem dX9_help_41 : decode cX9_help 41 = .ok (.ireturn, 1) := by decide +kernel
theorem dX9_help_42 : decode cX9_help 42 = .ok (.aload_n 0, 1) := by decide +kernel
theorem dX9_help_43 : decode cX9_help 43 = .ok (.getfield 67, 3) := by decide +kernel
theorem dX9_help_46 : decode cX9_help 46 = .ok (.bipush 20, 2) := by decide +kernel
theorem dX9_help_48 : decode cX9_help 48 = .ok (.iload_n 1, 1) := by decide +kernel
theorem dX9_help_49 : decode cX9_help 49 = .ok (.imul, 1) := by decide +kernel
theorem dX9_help_50 : decode cX9_help 50 = .ok (.iload_n 2, 1) := by decide +kernel
theorem dX9_help_51 : decode cX9_help 51 = .ok (.iadd, 1) := by decide +kernel
theorem dX9_help_52 : decode cX9_help 52 = .ok (.iaload, 1) := by decide +kernel
theorem dX9_help_53 : decode cX9_help 53 = .ok (.istore 4, 2) := by decide +kernel
theorem dX9_help_55 : decode cX9_help 55 = .ok (.iload 4, 2) := by decide +kernel
theorem dX9_help_57 : decode cX9_help 57 = .ok (.iconst 2, 1) := by decide +kernel
theorem dX9_help_58 : decode cX9_help 58 = .ok (.if_icmp .le 8, 3) := by decide +kernel
theorem dX9_help_61 : decode cX9_help 61 = .ok (.bipush 40, 2) := by decide +kernel
theorem dX9_help_63 : decode cX9_help 63 = .ok (.goto 7, 3) := by decide +kernel
theorem dX9_help_66 : decode cX9_help 66 = .ok (.iconst 5, 1) := by decide +kernel
theorem dX9_help_67 : decode cX9_help 67 = .ok (.iload 4, 2) := by decide +kernel
theorem dX9_help_69 : decode cX9_help 69 = .ok (.ishl, 1) := by decide +kernel
theorem dX9_help_70 : decode cX9_help 70 = .ok (.istore 5, 2) := by decide +kernel
theorem dX9_help_72 : decode cX9_help 72 = .ok (.aload_n 0, 1) := by decide +kernel
theorem dX9_help_73 : decode cX9_help 73 = .ok (.getfield 58, 3) := by decide +kernel
theorem dX9_help_76 : decode cX9_help 76 = .ok (.iload_n 1, 1) := by decide +kernel
theorem dX9_help_77 : decode cX9_help 77 = .ok (.iaload, 1) := by decide +kernel
theorem dX9_help_78 : decode cX9_help 78 = .ok (.iload 5, 2) := by decide +kernel
theorem dX9_help_80 : decode cX9_help 80 = .ok (.if_icmp .ge 9, 3) := by decide +kernel
theorem dX9_help_83 : decode cX9_help 83 = .ok (.aload_n 0, 1) := by decide +kernel
theorem dX9_help_84 : decode cX9_help 84 = .ok (.iconst 2, 1) := by decide +kernel
theorem dX9_help_85 : decode cX9_help 85 = .ok (.invokevirtual 97, 3) := by decide +kernel
theorem dX9_help_88 : decode cX9_help 88 = .ok (.ireturn, 1) := by decide +kernel
theorem dX9_help_89 : decode cX9_help 89 = .ok (.aload_n 0, 1) := by decide +kernel
theorem dX9_help_90 : decode cX9_help 90 = .ok (.getfield 58, 3) := by decide +kernel
theorem dX9_help_93 : decode cX9_help 93 = .ok (.iload_n 1, 1) := by decide +kernel
theorem dX9_help_94 : decode cX9_help 94 = .ok (.dup2, 1) := by decide +kernel
theorem dX9_help_95 : decode cX9_help 95 = .ok (.iaload, 1) := by decide +kernel
theorem dX9_help_96 : decode cX9_help 96 = .ok (.iload 5, 2) := by decide +kernel
theorem dX9_help_98 : decode cX9_help 98 = .ok (.isub, 1) := by decide +kernel
theorem dX9_help_99 : decode cX9_help 99 = .ok (.iastore, 1) := by decide +kernel
theorem dX9_help_100 : decode cX9_help 100 = .ok (.aload_n 0, 1) := by decide +kernel
theorem dX9_help_101 : decode cX9_help 101 = .ok (.getfield 67, 3) := by decide +kernel
theorem dX9_help_104 : decode cX9_help 104 = .ok (.bipush 20, 2) := by decide +kernel
theorem dX9_help_106 : decode cX9_help 106 = .ok (.iload_n 1, 1) := by decide +kernel
theorem dX9_help_107 : decode cX9_help 107 = .ok (.imul, 1) := by decide +kernel
theorem dX9_help_108 : decode cX9_help 108 = .ok (.iload_n 2, 1) := by decide +kernel
theorem dX9_help_109 : decode cX9_help 109 = .ok (.iadd, 1) := by decide +kernel
theorem dX9_help_110 : decode cX9_help 110 = .ok (.dup2, 1) := by decide +kernel
theorem dX9_help_111 : decode cX9_help 111 = .ok (.iaload, 1) := by decide +kernel
theorem dX9_help_112 : decode cX9_help 112 = .ok (.iconst 1, 1) := by decide +kernel
theorem dX9_help_113 : decode cX9_help 113 = .ok (.iadd, 1) := by decide +kernel
theorem dX9_help_114 : decode cX9_help 114 = .ok (.iastore, 1) := by decide +kernel
theorem dX9_help_115 : decode cX9_help 115 = .ok (.aload_n 0, 1) := by decide +kernel
theorem dX9_help_116 : decode cX9_help 116 = .ok (.getfield 64, 3) := by decide +kernel
theorem dX9_help_119 : decode cX9_help 119 = .ok (.sipush 180, 3) := by decide +kernel
theorem dX9_help_122 : decode cX9_help 122 = .ok (.iload_n 1, 1) := by decide +kernel
theorem dX9_help_123 : decode cX9_help 123 = .ok (.imul, 1) := by decide +kernel
theorem dX9_help_124 : decode cX9_help 124 = .ok (.bipush 9, 2) := by decide +kernel
theorem dX9_help_126 : decode cX9_help 126 = .ok (.iload_n 2, 1) := by decide +kernel
theorem dX9_help_127 : decode cX9_help 127 = .ok (.imul, 1) := by decide +kernel
theorem dX9_help_128 : decode cX9_help 128 = .ok (.iadd, 1) := by decide +kernel
theorem dX9_help_129 : decode cX9_help 129 = .ok (.iload_n 3, 1) := by decide +kernel
theorem dX9_help_130 : decode cX9_help 130 = .ok (.iadd, 1) := by decide +kernel
theorem dX9_help_131 : decode cX9_help 131 = .ok (.iload 5, 2) := by decide +kernel
theorem dX9_help_133 : decode cX9_help 133 = .ok (.iastore, 1) := by decide +kernel
theorem dX9_help_134 : decode cX9_help 134 = .ok (.aload_n 0, 1) := by decide +kernel
theorem dX9_help_135 : decode cX9_help 135 = .ok (.getfield 61, 3) := by decide +kernel
theorem dX9_help_138 : decode cX9_help 138 = .ok (.sipush 180, 3) := by decide +kernel
theorem dX9_help_141 : decode cX9_help 141 = .ok (.iload_n 1, 1) := by decide +kernel
theorem dX9_help_142 : decode cX9_help 142 = .ok (.imul, 1) := by decide +kernel
theorem dX9_help_143 : decode cX9_help 143 = .ok (.bipush 9, 2) := by decide +kernel
theorem dX9_help_145 : decode cX9_help 145 = .ok (.iload_n 2, 1) := by decide +kernel
theorem dX9_help_146 : decode cX9_help 146 = .ok (.imul, 1) := by decide +kernel
theorem dX9_help_147 : decode cX9_help 147 = .ok (.iadd, 1) := by decide +kernel
theorem dX9_help_148 : decode cX9_help 148 = .ok (.iload_n 3, 1) := by decide +kernel
theorem dX9_help_149 : decode cX9_help 149 = .ok (.iadd, 1) := by decide +kernel
theorem dX9_help_150 : decode cX9_help 150 = .ok (.aload_n 0, 1) := by decide +kernel
theorem dX9_help_151 : decode cX9_help 151 = .ok (.getfield 141, 3) := by decide +kernel
theorem dX9_help_154 : decode cX9_help 154 = .ok (.iconst 1, 1) := by decide +kernel
theorem dX9_help_155 : decode cX9_help 155 = .ok (.iadd, 1) := by decide +kernel
theorem dX9_help_156 : decode cX9_help 156 = .ok (.iastore, 1) := by decide +kernel
theorem dX9_help_157 : decode cX9_help 157 = .ok (.aload_n 0, 1) := by decide +kernel
theorem dX9_help_158 : decode cX9_help 158 = .ok (.iload_n 1, 1) := by decide +kernel
theorem dX9_help_159 : decode cX9_help 159 = .ok (.iload_n 2, 1) := by decide +kernel
theorem dX9_help_160 : decode cX9_help 160 = .ok (.invokevirtual 174, 3) := by decide +kernel
theorem dX9_help_163 : decode cX9_help 163 = .ok (.aload_n 0, 1) := by decide +kernel
theorem dX9_help_164 : decode cX9_help 164 = .ok (.getfield 43, 3) := by decide +kernel
theorem dX9_help_167 : decode cX9_help 167 = .ok (.bipush 9, 2) := by decide +kernel
theorem dX9_help_169 : decode cX9_help 169 = .ok (.iload_n 2, 1) := by decide +kernel
theorem dX9_help_170 : decode cX9_help 170 = .ok (.imul, 1) := by decide +kernel
theorem dX9_help_171 : decode cX9_help 171 = .ok (.iload_n 3, 1) := by decide +kernel
theorem dX9_help_172 : decode cX9_help 172 = .ok (.iadd, 1) := by decide +kernel
theorem dX9_help_173 : decode cX9_help 173 = .ok (.iaload, 1) := by decide +kernel
theorem dX9_help_174 : decode cX9_help 174 = .ok (.ireturn, 1) := by decide +kernel
theorem dX9_streakOf_0 : decode cX9_streakOf 0 = .ok (.aload_n 0, 1) := by decide +kernel
theorem dX9_streakOf_1 : decode cX9_streakOf 1 = .ok (.iload_n 1, 1) := by decide +kernel
theorem dX9_streakOf_2 : decode cX9_streakOf 2 = .ok (.aload_n 0, 1) := by decide +kernel
theorem dX9_streakOf_3 : decode cX9_streakOf 3 = .ok (.getfield 141, 3) := by decide +kernel
theorem dX9_streakOf_6 : decode cX9_streakOf 6 = .ok (.invokevirtual 162, 3) := by decide +kernel
theorem dX9_streakOf_9 : decode cX9_streakOf 9 = .ok (.istore_n 2, 1) := by decide +kernel
theorem dX9_streakOf_10 : decode cX9_streakOf 10 = .ok (.iload_n 2, 1) := by decide +kernel
theorem dX9_streakOf_11 : decode cX9_streakOf 11 = .ok (.aload_n 0, 1) := by decide +kernel
theorem dX9_streakOf_12 : decode cX9_streakOf 12 = .ok (.getfield 70, 3) := by decide +kernel
theorem dX9_streakOf_15 : decode cX9_streakOf 15 = .ok (.sipush 1260, 3) := by decide +kernel
theorem dX9_streakOf_18 : decode cX9_streakOf 18 = .ok (.iload_n 1, 1) := by decide +kernel
theorem dX9_streakOf_19 : decode cX9_streakOf 19 = .ok (.imul, 1) := by decide +kernel
theorem dX9_streakOf_20 : decode cX9_streakOf 20 = .ok (.iload_n 2, 1) := by decide +kernel
theorem dX9_streakOf_21 : decode cX9_streakOf 21 = .ok (.iadd, 1) := by decide +kernel
theorem dX9_streakOf_22 : decode cX9_streakOf 22 = .ok (.iaload, 1) := by decide +kernel
theorem dX9_streakOf_23 : decode cX9_streakOf 23 = .ok (.iconst 1, 1) := by decide +kernel
theorem dX9_streakOf_24 : decode cX9_streakOf 24 = .ok (.if_icmp .ne 7, 3) := by decide +kernel
theorem dX9_streakOf_27 : decode cX9_streakOf 27 = .ok (.iconst 0, 1) := by decide +kernel
theorem dX9_streakOf_28 : decode cX9_streakOf 28 = .ok (.goto 4, 3) := by decide +kernel
theorem dX9_streakOf_31 : decode cX9_streakOf 31 = .ok (.iconst 1, 1) := by decide +kernel
theorem dX9_streakOf_32 : decode cX9_streakOf 32 = .ok (.isub, 1) := by decide +kernel
theorem dX9_streakOf_33 : decode cX9_streakOf 33 = .ok (.istore_n 2, 1) := by decide +kernel
theorem dX9_streakOf_34 : decode cX9_streakOf 34 = .ok (.iconst 0, 1) := by decide +kernel
theorem dX9_streakOf_35 : decode cX9_streakOf 35 = .ok (.istore_n 3, 1) := by decide +kernel
theorem dX9_streakOf_36 : decode cX9_streakOf 36 = .ok (.iload_n 2, 1) := by decide +kernel
theorem dX9_streakOf_37 : decode cX9_streakOf 37 = .ok (.ifCond .lt 28, 3) := by decide +kernel
theorem dX9_streakOf_40 : decode cX9_streakOf 40 = .ok (.aload_n 0, 1) := by decide +kernel
theorem dX9_streakOf_41 : decode cX9_streakOf 41 = .ok (.getfield 70, 3) := by decide +kernel
theorem dX9_streakOf_44 : decode cX9_streakOf 44 = .ok (.sipush 1260, 3) := by decide +kernel
theorem dX9_streakOf_47 : decode cX9_streakOf 47 = .ok (.iload_n 1, 1) := by decide +kernel
theorem dX9_streakOf_48 : decode cX9_streakOf 48 = .ok (.imul, 1) := by decide +kernel
theorem dX9_streakOf_49 : decode cX9_streakOf 49 = .ok (.iload_n 2, 1) := by decide +kernel
theorem dX9_streakOf_50 : decode cX9_streakOf 50 = .ok (.iadd, 1) := by decide +kernel
theorem dX9_streakOf_51 : decode cX9_streakOf 51 = .ok (.iaload, 1) := by decide +kernel
theorem dX9_streakOf_52 : decode cX9_streakOf 52 = .ok (.iconst 1, 1) := by decide +kernel
theorem dX9_streakOf_53 : decode cX9_streakOf 53 = .ok (.if_icmp .ne 12, 3) := by decide +kernel
theorem dX9_streakOf_56 : decode cX9_streakOf 56 = .ok (.iinc 3 1, 3) := by decide +kernel
theorem dX9_streakOf_59 : decode cX9_streakOf 59 = .ok (.iinc 2 (-1), 3) := by decide +kernel
theorem dX9_streakOf_62 : decode cX9_streakOf 62 = .ok (.goto (-26), 3) := by decide +kernel
theorem dX9_streakOf_65 : decode cX9_streakOf 65 = .ok (.iload_n 3, 1) := by decide +kernel
theorem dX9_streakOf_66 : decode cX9_streakOf 66 = .ok (.ireturn, 1) := by decide +kernel
theorem dX9_judge_0 : decode cX9_judge 0 = .ok (.aload_n 0, 1) := by decide +kernel
theorem dX9_judge_1 : decode cX9_judge 1 = .ok (.aload_n 0, 1) := by decide +kernel
theorem dX9_judge_2 : decode cX9_judge 2 = .ok (.iload_n 1, 1) := by decide +kernel
theorem dX9_judge_3 : decode cX9_judge 3 = .ok (.invokevirtual 150, 3) := by decide +kernel
theorem dX9_judge_6 : decode cX9_judge 6 = .ok (.ifCond .eq 12, 3) := by decide +kernel
theorem dX9_judge_9 : decode cX9_judge 9 = .ok (.iload_n 2, 1) := by decide +kernel
theorem dX9_judge_10 : decode cX9_judge 10 = .ok (.iconst 0, 1) := by decide +kernel
theorem dX9_judge_11 : decode cX9_judge 11 = .ok (.iconst 5, 1) := by decide +kernel
theorem dX9_judge_12 : decode cX9_judge 12 = .ok (.invokestatic 80, 3) := by decide +kernel
theorem dX9_judge_15 : decode cX9_judge 15 = .ok (.ifCond .ne 7, 3) := by decide +kernel
theorem dX9_judge_18 : decode cX9_judge 18 = .ok (.iconst 1, 1) := by decide +kernel
theorem dX9_judge_19 : decode cX9_judge 19 = .ok (.goto 22, 3) := by decide +kernel
theorem dX9_judge_22 : decode cX9_judge 22 = .ok (.aload_n 0, 1) := by decide +kernel
theorem dX9_judge_23 : decode cX9_judge 23 = .ok (.getfield 49, 3) := by decide +kernel
theorem dX9_judge_26 : decode cX9_judge 26 = .ok (.iload_n 1, 1) := by decide +kernel
theorem dX9_judge_27 : decode cX9_judge 27 = .ok (.iaload, 1) := by decide +kernel
theorem dX9_judge_28 : decode cX9_judge 28 = .ok (.iload_n 2, 1) := by decide +kernel
theorem dX9_judge_29 : decode cX9_judge 29 = .ok (.ishr, 1) := by decide +kernel
theorem dX9_judge_30 : decode cX9_judge 30 = .ok (.iconst 1, 1) := by decide +kernel
theorem dX9_judge_31 : decode cX9_judge 31 = .ok (.iand, 1) := by decide +kernel
theorem dX9_judge_32 : decode cX9_judge 32 = .ok (.iconst 1, 1) := by decide +kernel
theorem dX9_judge_33 : decode cX9_judge 33 = .ok (.if_icmp .ne 7, 3) := by decide +kernel
theorem dX9_judge_36 : decode cX9_judge 36 = .ok (.iconst 2, 1) := by decide +kernel
theorem dX9_judge_37 : decode cX9_judge 37 = .ok (.goto 4, 3) := by decide +kernel
theorem dX9_judge_40 : decode cX9_judge 40 = .ok (.iconst 0, 1) := by decide +kernel
theorem dX9_judge_41 : decode cX9_judge 41 = .ok (.putfield 73, 3) := by decide +kernel
theorem dX9_judge_44 : decode cX9_judge 44 = .ok (.aload_n 0, 1) := by decide +kernel
theorem dX9_judge_45 : decode cX9_judge 45 = .ok (.getfield 73, 3) := by decide +kernel
theorem dX9_judge_48 : decode cX9_judge 48 = .ok (.ifCond .le 5, 3) := by decide +kernel
theorem dX9_judge_51 : decode cX9_judge 51 = .ok (.iconst 0, 1) := by decide +kernel
theorem dX9_judge_52 : decode cX9_judge 52 = .ok (.ireturn, 1) := by decide +kernel
theorem dX9_judge_53 : decode cX9_judge 53 = .ok (.aload_n 0, 1) := by decide +kernel
theorem dX9_judge_54 : decode cX9_judge 54 = .ok (.getfield 49, 3) := by decide +kernel
theorem dX9_judge_57 : decode cX9_judge 57 = .ok (.iload_n 1, 1) := by decide +kernel
theorem dX9_judge_58 : decode cX9_judge 58 = .ok (.dup2, 1) := by decide +kernel
theorem dX9_judge_59 : decode cX9_judge 59 = .ok (.iaload, 1) := by decide +kernel
theorem dX9_judge_60 : decode cX9_judge 60 = .ok (.iconst 1, 1) := by decide +kernel
theorem dX9_judge_61 : decode cX9_judge 61 = .ok (.iload_n 2, 1) := by decide +kernel
theorem dX9_judge_62 : decode cX9_judge 62 = .ok (.ishl, 1) := by decide +kernel
theorem dX9_judge_63 : decode cX9_judge 63 = .ok (.ior, 1) := by decide +kernel
theorem dX9_judge_64 : decode cX9_judge 64 = .ok (.iastore, 1) := by decide +kernel
theorem dX9_judge_65 : decode cX9_judge 65 = .ok (.aload_n 0, 1) := by decide +kernel
theorem dX9_judge_66 : decode cX9_judge 66 = .ok (.iload_n 1, 1) := by decide +kernel
theorem dX9_judge_67 : decode cX9_judge 67 = .ok (.invokevirtual 156, 3) := by decide +kernel
theorem dX9_judge_70 : decode cX9_judge 70 = .ok (.istore_n 3, 1) := by decide +kernel
theorem dX9_judge_71 : decode cX9_judge 71 = .ok (.iconst 0, 1) := by decide +kernel
theorem dX9_judge_72 : decode cX9_judge 72 = .ok (.istore 4, 2) := by decide +kernel
theorem dX9_judge_74 : decode cX9_judge 74 = .ok (.iconst 0, 1) := by decide +kernel
theorem dX9_judge_75 : decode cX9_judge 75 = .ok (.istore 5, 2) := by decide +kernel
theorem dX9_judge_77 : decode cX9_judge 77 = .ok (.iload 5, 2) := by decide +kernel
theorem dX9_judge_79 : decode cX9_judge 79 = .ok (.aload_n 0, 1) := by decide +kernel
theorem dX9_judge_80 : decode cX9_judge 80 = .ok (.getfield 153, 3) := by decide +kernel
theorem dX9_judge_83 : decode cX9_judge 83 = .ok (.if_icmp .ge 112, 3) := by decide +kernel
theorem dX9_judge_86 : decode cX9_judge 86 = .ok (.aload_n 0, 1) := by decide +kernel
theorem dX9_judge_87 : decode cX9_judge 87 = .ok (.iload 5, 2) := by decide +kernel
theorem dX9_judge_89 : decode cX9_judge 89 = .ok (.invokevirtual 178, 3) := by decide +kernel
theorem dX9_judge_92 : decode cX9_judge 92 = .ok (.istore 6, 2) := by decide +kernel
theorem dX9_judge_94 : decode cX9_judge 94 = .ok (.iconst 0, 1) := by decide +kernel
theorem dX9_judge_95 : decode cX9_judge 95 = .ok (.istore 7, 2) := by decide +kernel
theorem dX9_judge_97 : decode cX9_judge 97 = .ok (.iload 7, 2) := by decide +kernel
theorem dX9_judge_99 : decode cX9_judge 99 = .ok (.bipush 9, 2) := by decide +kernel
theorem dX9_judge_101 : decode cX9_judge 101 = .ok (.if_icmp .ge 60, 3) := by decide +kernel
theorem dX9_judge_104 : decode cX9_judge 104 = .ok (.sipush 180, 3) := by decide +kernel
theorem dX9_judge_107 : decode cX9_judge 107 = .ok (.iload 5, 2) := by decide +kernel
theorem dX9_judge_109 : decode cX9_judge 109 = .ok (.imul, 1) := by decide +kernel
theorem dX9_judge_110 : decode cX9_judge 110 = .ok (.bipush 9, 2) := by decide +kernel
theorem dX9_judge_112 : decode cX9_judge 112 = .ok (.iload_n 1, 1) := by decide +kernel
theorem dX9_judge_113 : decode cX9_judge 113 = .ok (.imul, 1) := by decide +kernel
theorem dX9_judge_114 : decode cX9_judge 114 = .ok (.iadd, 1) := by decide +kernel
theorem dX9_judge_115 : decode cX9_judge 115 = .ok (.iload 7, 2) := by decide +kernel
theorem dX9_judge_117 : decode cX9_judge 117 = .ok (.iadd, 1) := by decide +kernel
theorem dX9_judge_118 : decode cX9_judge 118 = .ok (.istore 8, 2) := by decide +kernel
theorem dX9_judge_120 : decode cX9_judge 120 = .ok (.iload_n 3, 1) := by decide +kernel
theorem dX9_judge_121 : decode cX9_judge 121 = .ok (.iload 7, 2) := by decide +kernel
theorem dX9_judge_123 : decode cX9_judge 123 = .ok (.ishr, 1) := by decide +kernel
theorem dX9_judge_124 : decode cX9_judge 124 = .ok (.iconst 1, 1) := by decide +kernel
theorem dX9_judge_125 : decode cX9_judge 125 = .ok (.iand, 1) := by decide +kernel
theorem dX9_judge_126 : decode cX9_judge 126 = .ok (.iconst 1, 1) := by decide +kernel
theorem dX9_judge_127 : decode cX9_judge 127 = .ok (.if_icmp .ne 28, 3) := by decide +kernel
theorem dX9_judge_130 : decode cX9_judge 130 = .ok (.aload_n 0, 1) := by decide +kernel
theorem dX9_judge_131 : decode cX9_judge 131 = .ok (.getfield 58, 3) := by decide +kernel
theorem dX9_judge_134 : decode cX9_judge 134 = .ok (.iload 5, 2) := by decide +kernel
theorem dX9_judge_136 : decode cX9_judge 136 = .ok (.dup2, 1) := by decide +kernel
theorem dX9_judge_137 : decode cX9_judge 137 = .ok (.iaload, 1) := by decide +kernel
theorem dX9_judge_138 : decode cX9_judge 138 = .ok (.aload_n 0, 1) := by decide +kernel
theorem dX9_judge_139 : decode cX9_judge 139 = .ok (.getfield 64, 3) := by decide +kernel
theorem dX9_judge_142 : decode cX9_judge 142 = .ok (.iload 8, 2) := by decide +kernel
theorem dX9_judge_144 : decode cX9_judge 144 = .ok (.iaload, 1) := by decide +kernel
theorem dX9_judge_145 : decode cX9_judge 145 = .ok (.iadd, 1) := by decide +kernel
theorem dX9_judge_146 : decode cX9_judge 146 = .ok (.iastore, 1) := by decide +kernel
theorem dX9_judge_147 : decode cX9_judge 147 = .ok (.aload_n 0, 1) := by decide +kernel
theorem dX9_judge_148 : decode cX9_judge 148 = .ok (.getfield 64, 3) := by decide +kernel
theorem dX9_judge_151 : decode cX9_judge 151 = .ok (.iload 8, 2) := by decide +kernel
theorem dX9_judge_153 : decode cX9_judge 153 = .ok (.iconst 0, 1) := by decide +kernel
theorem dX9_judge_154 : decode cX9_judge 154 = .ok (.iastore, 1) := by decide +kernel
theorem dX9_judge_155 : decode cX9_judge 155 = .ok (.iinc 7 1, 3) := by decide +kernel
theorem dX9_judge_158 : decode cX9_judge 158 = .ok (.goto (-61), 3) := by decide +kernel
theorem dX9_judge_161 : decode cX9_judge 161 = .ok (.aload_n 0, 1) := by decide +kernel
theorem dX9_judge_162 : decode cX9_judge 162 = .ok (.iload 5, 2) := by decide +kernel
theorem dX9_judge_164 : decode cX9_judge 164 = .ok (.iload_n 1, 1) := by decide +kernel
theorem dX9_judge_165 : decode cX9_judge 165 = .ok (.invokevirtual 174, 3) := by decide +kernel
theorem dX9_judge_168 : decode cX9_judge 168 = .ok (.iload 4, 2) := by decide +kernel
theorem dX9_judge_170 : decode cX9_judge 170 = .ok (.aload_n 0, 1) := by decide +kernel
theorem dX9_judge_171 : decode cX9_judge 171 = .ok (.iload 5, 2) := by decide +kernel
theorem dX9_judge_173 : decode cX9_judge 173 = .ok (.invokevirtual 178, 3) := by decide +kernel
theorem dX9_judge_176 : decode cX9_judge 176 = .ok (.iload 6, 2) := by decide +kernel
theorem dX9_judge_178 : decode cX9_judge 178 = .ok (.if_icmp .le 7, 3) := by decide +kernel
theorem dX9_judge_181 : decode cX9_judge 181 = .ok (.iconst 1, 1) := by decide +kernel
theorem dX9_judge_182 : decode cX9_judge 182 = .ok (.goto 4, 3) := by decide +kernel
theorem dX9_judge_185 : decode cX9_judge 185 = .ok (.iconst 0, 1) := by decide +kernel
theorem dX9_judge_186 : decode cX9_judge 186 = .ok (.iadd, 1) := by decide +kernel
theorem dX9_judge_187 : decode cX9_judge 187 = .ok (.istore 4, 2) := by decide +kernel
theorem dX9_judge_189 : decode cX9_judge 189 = .ok (.iinc 5 1, 3) := by decide +kernel
theorem dX9_judge_192 : decode cX9_judge 192 = .ok (.goto (-115), 3) := by decide +kernel
theorem dX9_judge_195 : decode cX9_judge 195 = .ok (.iload 4, 2) := by decide +kernel
theorem dX9_judge_197 : decode cX9_judge 197 = .ok (.ireturn, 1) := by decide +kernel
theorem dX9_solvedAt_0 : decode cX9_solvedAt 0 = .ok (.aload_n 0, 1) := by decide +kernel
theorem dX9_solvedAt_1 : decode cX9_solvedAt 1 = .ok (.aload_n 0, 1) := by decide +kernel
theorem dX9_solvedAt_2 : decode cX9_solvedAt 2 = .ok (.iload_n 1, 1) := by decide +kernel
theorem dX9_solvedAt_3 : decode cX9_solvedAt 3 = .ok (.invokevirtual 165, 3) := by decide +kernel
theorem dX9_solvedAt_6 : decode cX9_solvedAt 6 = .ok (.ifCond .eq 15, 3) := by decide +kernel
theorem dX9_solvedAt_9 : decode cX9_solvedAt 9 = .ok (.aload_n 0, 1) := by decide +kernel
theorem dX9_solvedAt_10 : decode cX9_solvedAt 10 = .ok (.iload_n 2, 1) := by decide +kernel
theorem dX9_solvedAt_11 : decode cX9_solvedAt 11 = .ok (.invokevirtual 150, 3) := by decide +kernel
theorem dX9_solvedAt_14 : decode cX9_solvedAt 14 = .ok (.ifCond .eq 7, 3) := by decide +kernel
theorem dX9_solvedAt_17 : decode cX9_solvedAt 17 = .ok (.iconst 0, 1) := by decide +kernel
theorem dX9_solvedAt_18 : decode cX9_solvedAt 18 = .ok (.goto 4, 3) := by decide +kernel
theorem dX9_solvedAt_21 : decode cX9_solvedAt 21 = .ok (.iconst 1, 1) := by decide +kernel
theorem dX9_solvedAt_22 : decode cX9_solvedAt 22 = .ok (.putfield 73, 3) := by decide +kernel
theorem dX9_solvedAt_25 : decode cX9_solvedAt 25 = .ok (.aload_n 0, 1) := by decide +kernel
theorem dX9_solvedAt_26 : decode cX9_solvedAt 26 = .ok (.getfield 73, 3) := by decide +kernel
theorem dX9_solvedAt_29 : decode cX9_solvedAt 29 = .ok (.ifCond .ne 12, 3) := by decide +kernel
theorem dX9_solvedAt_32 : decode cX9_solvedAt 32 = .ok (.aload_n 0, 1) := by decide +kernel
theorem dX9_solvedAt_33 : decode cX9_solvedAt 33 = .ok (.iload_n 1, 1) := by decide +kernel
theorem dX9_solvedAt_34 : decode cX9_solvedAt 34 = .ok (.iload_n 2, 1) := by decide +kernel
theorem dX9_solvedAt_35 : decode cX9_solvedAt 35 = .ok (.invokevirtual 159, 3) := by decide +kernel
theorem dX9_solvedAt_38 : decode cX9_solvedAt 38 = .ok (.goto 4, 3) := by decide +kernel
theorem dX9_solvedAt_41 : decode cX9_solvedAt 41 = .ok (.iconst 0, 1) := by decide +kernel
theorem dX9_solvedAt_42 : decode cX9_solvedAt 42 = .ok (.ireturn, 1) := by decide +kernel
theorem dX9_open_0 : decode cX9_open 0 = .ok (.aload_n 0, 1) := by decide +kernel
theorem dX9_open_1 : decode cX9_open 1 = .ok (.aload_n 0, 1) := by decide +kernel
theorem dX9_open_2 : decode cX9_open 2 = .ok (.iload_n 1, 1) := by decide +kernel
theorem dX9_open_3 : decode cX9_open 3 = .ok (.invokevirtual 150, 3) := by decide +kernel
theorem dX9_open_6 : decode cX9_open 6 = .ok (.ifCond .eq 7, 3) := by decide +kernel
theorem dX9_open_9 : decode cX9_open 9 = .ok (.iconst 0, 1) := by decide +kernel
theorem dX9_open_10 : decode cX9_open 10 = .ok (.goto 4, 3) := by decide +kernel
theorem dX9_open_13 : decode cX9_open 13 = .ok (.iconst 1, 1) := by decide +kernel
theorem dX9_open_14 : decode cX9_open 14 = .ok (.putfield 73, 3) := by decide +kernel
theorem dX9_open_17 : decode cX9_open 17 = .ok (.aload_n 0, 1) := by decide +kernel
theorem dX9_open_18 : decode cX9_open 18 = .ok (.getfield 73, 3) := by decide +kernel
theorem dX9_open_21 : decode cX9_open 21 = .ok (.ifCond .ne 11, 3) := by decide +kernel
theorem dX9_open_24 : decode cX9_open 24 = .ok (.aload_n 0, 1) := by decide +kernel
theorem dX9_open_25 : decode cX9_open 25 = .ok (.iload_n 1, 1) := by decide +kernel
theorem dX9_open_26 : decode cX9_open 26 = .ok (.invokevirtual 156, 3) := by decide +kernel
theorem dX9_open_29 : decode cX9_open 29 = .ok (.goto 4, 3) := by decide +kernel
theorem dX9_open_32 : decode cX9_open 32 = .ok (.iconst 0, 1) := by decide +kernel
theorem dX9_open_33 : decode cX9_open 33 = .ok (.ireturn, 1) := by decide +kernel
theorem dX9_coins_0 : decode cX9_coins 0 = .ok (.aload_n 0, 1) := by decide +kernel
theorem dX9_coins_1 : decode cX9_coins 1 = .ok (.aload_n 0, 1) := by decide +kernel
theorem dX9_coins_2 : decode cX9_coins 2 = .ok (.iload_n 1, 1) := by decide +kernel
theorem dX9_coins_3 : decode cX9_coins 3 = .ok (.invokevirtual 165, 3) := by decide +kernel
theorem dX9_coins_6 : decode cX9_coins 6 = .ok (.ifCond .eq 7, 3) := by decide +kernel
theorem dX9_coins_9 : decode cX9_coins 9 = .ok (.iconst 0, 1) := by decide +kernel
theorem dX9_coins_10 : decode cX9_coins 10 = .ok (.goto 4, 3) := by decide +kernel
theorem dX9_coins_13 : decode cX9_coins 13 = .ok (.iconst 1, 1) := by decide +kernel
theorem dX9_coins_14 : decode cX9_coins 14 = .ok (.putfield 73, 3) := by decide +kernel
theorem dX9_coins_17 : decode cX9_coins 17 = .ok (.aload_n 0, 1) := by decide +kernel
theorem dX9_coins_18 : decode cX9_coins 18 = .ok (.getfield 73, 3) := by decide +kernel
theorem dX9_coins_21 : decode cX9_coins 21 = .ok (.ifCond .ne 12, 3) := by decide +kernel
theorem dX9_coins_24 : decode cX9_coins 24 = .ok (.aload_n 0, 1) := by decide +kernel
theorem dX9_coins_25 : decode cX9_coins 25 = .ok (.getfield 58, 3) := by decide +kernel
theorem dX9_coins_28 : decode cX9_coins 28 = .ok (.iload_n 1, 1) := by decide +kernel
theorem dX9_coins_29 : decode cX9_coins 29 = .ok (.iaload, 1) := by decide +kernel
theorem dX9_coins_30 : decode cX9_coins 30 = .ok (.goto 4, 3) := by decide +kernel
theorem dX9_coins_33 : decode cX9_coins 33 = .ok (.iconst 0, 1) := by decide +kernel
theorem dX9_coins_34 : decode cX9_coins 34 = .ok (.ireturn, 1) := by decide +kernel
theorem dX9_streak_0 : decode cX9_streak 0 = .ok (.aload_n 0, 1) := by decide +kernel
theorem dX9_streak_1 : decode cX9_streak 1 = .ok (.aload_n 0, 1) := by decide +kernel
theorem dX9_streak_2 : decode cX9_streak 2 = .ok (.iload_n 1, 1) := by decide +kernel
theorem dX9_streak_3 : decode cX9_streak 3 = .ok (.invokevirtual 165, 3) := by decide +kernel
theorem dX9_streak_6 : decode cX9_streak 6 = .ok (.ifCond .eq 7, 3) := by decide +kernel
theorem dX9_streak_9 : decode cX9_streak 9 = .ok (.iconst 0, 1) := by decide +kernel
theorem dX9_streak_10 : decode cX9_streak 10 = .ok (.goto 4, 3) := by decide +kernel
theorem dX9_streak_13 : decode cX9_streak 13 = .ok (.iconst 1, 1) := by decide +kernel
theorem dX9_streak_14 : decode cX9_streak 14 = .ok (.putfield 73, 3) := by decide +kernel
theorem dX9_streak_17 : decode cX9_streak 17 = .ok (.aload_n 0, 1) := by decide +kernel
theorem dX9_streak_18 : decode cX9_streak 18 = .ok (.getfield 73, 3) := by decide +kernel
theorem dX9_streak_21 : decode cX9_streak 21 = .ok (.ifCond .ne 11, 3) := by decide +kernel
theorem dX9_streak_24 : decode cX9_streak 24 = .ok (.aload_n 0, 1) := by decide +kernel
theorem dX9_streak_25 : decode cX9_streak 25 = .ok (.iload_n 1, 1) := by decide +kernel
theorem dX9_streak_26 : decode cX9_streak 26 = .ok (.invokevirtual 178, 3) := by decide +kernel
theorem dX9_streak_29 : decode cX9_streak 29 = .ok (.goto 4, 3) := by decide +kernel
theorem dX9_streak_32 : decode cX9_streak 32 = .ok (.iconst 0, 1) := by decide +kernel
theorem dX9_streak_33 : decode cX9_streak 33 = .ok (.ireturn, 1) := by decide +kernel
theorem dX9_streakAnew_0 : decode cX9_streakAnew 0 = .ok (.aload_n 0, 1) := by decide +kernel
theorem dX9_streakAnew_1 : decode cX9_streakAnew 1 = .ok (.iload_n 1, 1) := by decide +kernel
theorem dX9_streakAnew_2 : decode cX9_streakAnew 2 = .ok (.invokevirtual 181, 3) := by decide +kernel
theorem dX9_streakAnew_5 : decode cX9_streakAnew 5 = .ok (.ireturn, 1) := by decide +kernel
theorem dX9_solverAt_0 : decode cX9_solverAt 0 = .ok (.aload_n 0, 1) := by decide +kernel
theorem dX9_solverAt_1 : decode cX9_solverAt 1 = .ok (.iconst 0, 1) := by decide +kernel
theorem dX9_solverAt_2 : decode cX9_solverAt 2 = .ok (.putfield 73, 3) := by decide +kernel
theorem dX9_solverAt_5 : decode cX9_solverAt 5 = .ok (.iconst 0, 1) := by decide +kernel
theorem dX9_solverAt_6 : decode cX9_solverAt 6 = .ok (.istore_n 2, 1) := by decide +kernel
theorem dX9_solverAt_7 : decode cX9_solverAt 7 = .ok (.iload_n 2, 1) := by decide +kernel
theorem dX9_solverAt_8 : decode cX9_solverAt 8 = .ok (.aload_n 0, 1) := by decide +kernel
theorem dX9_solverAt_9 : decode cX9_solverAt 9 = .ok (.getfield 153, 3) := by decide +kernel
theorem dX9_solverAt_12 : decode cX9_solverAt 12 = .ok (.if_icmp .ge 100, 3) := by decide +kernel
theorem dX9_solverAt_15 : decode cX9_solverAt 15 = .ok (.iconst 0, 1) := by decide +kernel
theorem dX9_solverAt_16 : decode cX9_solverAt 16 = .ok (.istore_n 3, 1) := by decide +kernel
theorem dX9_solverAt_17 : decode cX9_solverAt 17 = .ok (.iconst 0, 1) := by decide +kernel
theorem dX9_solverAt_18 : decode cX9_solverAt 18 = .ok (.istore 4, 2) := by decide +kernel
theorem dX9_solverAt_20 : decode cX9_solverAt 20 = .ok (.iload 4, 2) := by decide +kernel
theorem dX9_solverAt_22 : decode cX9_solverAt 22 = .ok (.aload_n 0, 1) := by decide +kernel
theorem dX9_solverAt_23 : decode cX9_solverAt 23 = .ok (.getfield 153, 3) := by decide +kernel
theorem dX9_solverAt_26 : decode cX9_solverAt 26 = .ok (.if_icmp .ge 73, 3) := by decide +kernel
theorem dX9_solverAt_29 : decode cX9_solverAt 29 = .ok (.aload_n 0, 1) := by decide +kernel
theorem dX9_solverAt_30 : decode cX9_solverAt 30 = .ok (.iload 4, 2) := by decide +kernel
theorem dX9_solverAt_32 : decode cX9_solverAt 32 = .ok (.invokevirtual 178, 3) := by decide +kernel
theorem dX9_solverAt_35 : decode cX9_solverAt 35 = .ok (.aload_n 0, 1) := by decide +kernel
theorem dX9_solverAt_36 : decode cX9_solverAt 36 = .ok (.iload_n 2, 1) := by decide +kernel
theorem dX9_solverAt_37 : decode cX9_solverAt 37 = .ok (.invokevirtual 178, 3) := by decide +kernel
theorem dX9_solverAt_40 : decode cX9_solverAt 40 = .ok (.isub, 1) := by decide +kernel
theorem dX9_solverAt_41 : decode cX9_solverAt 41 = .ok (.istore 5, 2) := by decide +kernel
theorem dX9_solverAt_43 : decode cX9_solverAt 43 = .ok (.iload 5, 2) := by decide +kernel
theorem dX9_solverAt_45 : decode cX9_solverAt 45 = .ok (.ifCond .ne 20, 3) := by decide +kernel
theorem dX9_solverAt_48 : decode cX9_solverAt 48 = .ok (.aload_n 0, 1) := by decide +kernel
theorem dX9_solverAt_49 : decode cX9_solverAt 49 = .ok (.getfield 58, 3) := by decide +kernel
theorem dX9_solverAt_52 : decode cX9_solverAt 52 = .ok (.iload 4, 2) := by decide +kernel
theorem dX9_solverAt_54 : decode cX9_solverAt 54 = .ok (.iaload, 1) := by decide +kernel
theorem dX9_solverAt_55 : decode cX9_solverAt 55 = .ok (.aload_n 0, 1) := by decide +kernel
theorem dX9_solverAt_56 : decode cX9_solverAt 56 = .ok (.getfield 58, 3) := by decide +kernel
theorem dX9_solverAt_59 : decode cX9_solverAt 59 = .ok (.iload_n 2, 1) := by decide +kernel
theorem dX9_solverAt_60 : decode cX9_solverAt 60 = .ok (.iaload, 1) := by decide +kernel
theorem dX9_solverAt_61 : decode cX9_solverAt 61 = .ok (.isub, 1) := by decide +kernel
theorem dX9_solverAt_62 : decode cX9_solverAt 62 = .ok (.goto 5, 3) := by decide +kernel
theorem dX9_solverAt_65 : decode cX9_solverAt 65 = .ok (.iload 5, 2) := by decide +kernel
theorem dX9_solverAt_67 : decode cX9_solverAt 67 = .ok (.istore 5, 2) := by decide +kernel
theorem dX9_solverAt_69 : decode cX9_solverAt 69 = .ok (.iload_n 3, 1) := by decide +kernel
theorem dX9_solverAt_70 : decode cX9_solverAt 70 = .ok (.iload 5, 2) := by decide +kernel
theorem dX9_solverAt_72 : decode cX9_solverAt 72 = .ok (.ifCond .gt 14, 3) := by decide +kernel
theorem dX9_solverAt_75 : decode cX9_solverAt 75 = .ok (.iload 5, 2) := by decide +kernel
theorem dX9_solverAt_77 : decode cX9_solverAt 77 = .ok (.ifCond .ne 13, 3) := by decide +kernel
theorem dX9_solverAt_80 : decode cX9_solverAt 80 = .ok (.iload 4, 2) := by decide +kernel
theorem dX9_solverAt_82 : decode cX9_solverAt 82 = .ok (.iload_n 2, 1) := by decide +kernel
theorem dX9_solverAt_83 : decode cX9_solverAt 83 = .ok (.if_icmp .ge 7, 3) := by decide +kernel
theorem dX9_solverAt_86 : decode cX9_solverAt 86 = .ok (.iconst 1, 1) := by decide +kernel
theorem dX9_solverAt_87 : decode cX9_solverAt 87 = .ok (.goto 4, 3) := by decide +kernel
theorem dX9_solverAt_90 : decode cX9_solverAt 90 = .ok (.iconst 0, 1) := by decide +kernel
theorem dX9_solverAt_91 : decode cX9_solverAt 91 = .ok (.iadd, 1) := by decide +kernel
theorem dX9_solverAt_92 : decode cX9_solverAt 92 = .ok (.istore_n 3, 1) := by decide +kernel
theorem dX9_solverAt_93 : decode cX9_solverAt 93 = .ok (.iinc 4 1, 3) := by decide +kernel
theorem dX9_solverAt_96 : decode cX9_solverAt 96 = .ok (.goto (-76), 3) := by decide +kernel
theorem dX9_solverAt_99 : decode cX9_solverAt 99 = .ok (.iload_n 3, 1) := by decide +kernel
theorem dX9_solverAt_100 : decode cX9_solverAt 100 = .ok (.iload_n 1, 1) := by decide +kernel
theorem dX9_solverAt_101 : decode cX9_solverAt 101 = .ok (.if_icmp .ne 5, 3) := by decide +kernel
theorem dX9_solverAt_104 : decode cX9_solverAt 104 = .ok (.iload_n 2, 1) := by decide +kernel
theorem dX9_solverAt_105 : decode cX9_solverAt 105 = .ok (.ireturn, 1) := by decide +kernel
theorem dX9_solverAt_106 : decode cX9_solverAt 106 = .ok (.iinc 2 1, 3) := by decide +kernel
theorem dX9_solverAt_109 : decode cX9_solverAt 109 = .ok (.goto (-102), 3) := by decide +kernel
theorem dX9_solverAt_112 : decode cX9_solverAt 112 = .ok (.iconst (-1), 1) := by decide +kernel
theorem dX9_solverAt_113 : decode cX9_solverAt 113 = .ok (.ireturn, 1) := by decide +kernel
