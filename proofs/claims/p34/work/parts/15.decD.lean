theorem dL_low_0 : decode cL_low 0 = .ok (.iload_n 0, 1) := by decide +kernel
theorem dL_low_1 : decode cL_low 1 = .ok (.ldc 7, 2) := by decide +kernel
theorem dL_low_3 : decode cL_low 3 = .ok (.iand, 1) := by decide +kernel
theorem dL_low_4 : decode cL_low 4 = .ok (.iload_n 1, 1) := by decide +kernel
theorem dL_low_5 : decode cL_low 5 = .ok (.irem, 1) := by decide +kernel
theorem dL_low_6 : decode cL_low 6 = .ok (.ireturn, 1) := by decide +kernel
theorem dL_cell_0 : decode cL_cell 0 = .ok (.iload_n 1, 1) := by decide +kernel
theorem dL_cell_1 : decode cL_cell 1 = .ok (.aload_n 0, 1) := by decide +kernel
theorem dL_cell_2 : decode cL_cell 2 = .ok (.arraylength, 1) := by decide +kernel
theorem dL_cell_3 : decode cL_cell 3 = .ok (.if_icmp .ge 9, 3) := by decide +kernel
theorem dL_cell_6 : decode cL_cell 6 = .ok (.aload_n 0, 1) := by decide +kernel
theorem dL_cell_7 : decode cL_cell 7 = .ok (.iload_n 1, 1) := by decide +kernel
theorem dL_cell_8 : decode cL_cell 8 = .ok (.iaload, 1) := by decide +kernel
theorem dL_cell_9 : decode cL_cell 9 = .ok (.goto 11, 3) := by decide +kernel
theorem dL_cell_12 : decode cL_cell 12 = .ok (.ldc 8, 2) := by decide +kernel
theorem dL_cell_14 : decode cL_cell 14 = .ok (.iload_n 1, 1) := by decide +kernel
theorem dL_cell_15 : decode cL_cell 15 = .ok (.imul, 1) := by decide +kernel
theorem dL_cell_16 : decode cL_cell 16 = .ok (.sipush 977, 3) := by decide +kernel
theorem dL_cell_19 : decode cL_cell 19 = .ok (.iadd, 1) := by decide +kernel
theorem dL_cell_20 : decode cL_cell 20 = .ok (.ireturn, 1) := by decide +kernel
theorem dL_addWord_0 : decode cL_addWord 0 = .ok (.aload_n 0, 1) := by decide +kernel
theorem dL_addWord_1 : decode cL_addWord 1 = .ok (.iload_n 1, 1) := by decide +kernel
theorem dL_addWord_2 : decode cL_addWord 2 = .ok (.invokevirtual 9, 3) := by decide +kernel
theorem dL_addWord_5 : decode cL_addWord 5 = .ok (.ireturn, 1) := by decide +kernel
theorem dL_addWord_6 : decode cL_addWord 6 = .ok (.astore_n 2, 1) := by decide +kernel
theorem dL_addWord_7 : decode cL_addWord 7 = .ok (.bipush (-3), 2) := by decide +kernel
theorem dL_addWord_9 : decode cL_addWord 9 = .ok (.ireturn, 1) := by decide +kernel
theorem dL_publish_0 : decode cL_publish 0 = .ok (.aload_n 0, 1) := by decide +kernel
theorem dL_publish_1 : decode cL_publish 1 = .ok (.invokevirtual 17, 3) := by decide +kernel
theorem dL_publish_4 : decode cL_publish 4 = .ok (.ireturn, 1) := by decide +kernel
theorem dL_publish_5 : decode cL_publish 5 = .ok (.astore_n 1, 1) := by decide +kernel
theorem dL_publish_6 : decode cL_publish 6 = .ok (.bipush (-3), 2) := by decide +kernel
theorem dL_publish_8 : decode cL_publish 8 = .ok (.ireturn, 1) := by decide +kernel
theorem dL_clue_0 : decode cL_clue 0 = .ok (.aload_n 0, 1) := by decide +kernel
theorem dL_clue_1 : decode cL_clue 1 = .ok (.iload_n 1, 1) := by decide +kernel
theorem dL_clue_2 : decode cL_clue 2 = .ok (.invokevirtual 21, 3) := by decide +kernel
theorem dL_clue_5 : decode cL_clue 5 = .ok (.ireturn, 1) := by decide +kernel
theorem dL_clue_6 : decode cL_clue 6 = .ok (.astore_n 2, 1) := by decide +kernel
theorem dL_clue_7 : decode cL_clue 7 = .ok (.bipush (-3), 2) := by decide +kernel
theorem dL_clue_9 : decode cL_clue 9 = .ok (.ireturn, 1) := by decide +kernel
theorem dL_edit_0 : decode cL_edit 0 = .ok (.aload_n 0, 1) := by decide +kernel
theorem dL_edit_1 : decode cL_edit 1 = .ok (.iload_n 1, 1) := by decide +kernel
theorem dL_edit_2 : decode cL_edit 2 = .ok (.iload_n 2, 1) := by decide +kernel
theorem dL_edit_3 : decode cL_edit 3 = .ok (.invokevirtual 24, 3) := by decide +kernel
theorem dL_edit_6 : decode cL_edit 6 = .ok (.ireturn, 1) := by decide +kernel
theorem dL_edit_7 : decode cL_edit 7 = .ok (.astore_n 3, 1) := by decide +kernel
theorem dL_edit_8 : decode cL_edit 8 = .ok (.bipush (-3), 2) := by decide +kernel
theorem dL_edit_10 : decode cL_edit 10 = .ok (.ireturn, 1) := by decide +kernel
theorem dL_enter_0 : decode cL_enter 0 = .ok (.aload_n 0, 1) := by decide +kernel
theorem dL_enter_1 : decode cL_enter 1 = .ok (.iload_n 1, 1) := by decide +kernel
theorem dL_enter_2 : decode cL_enter 2 = .ok (.iload_n 2, 1) := by decide +kernel
theorem dL_enter_3 : decode cL_enter 3 = .ok (.iload_n 3, 1) := by decide +kernel
theorem dL_enter_4 : decode cL_enter 4 = .ok (.iload 4, 2) := by decide +kernel
theorem dL_enter_6 : decode cL_enter 6 = .ok (.invokevirtual 28, 3) := by decide +kernel
theorem dL_enter_9 : decode cL_enter 9 = .ok (.ifCond .eq 7, 3) := by decide +kernel
theorem dL_enter_12 : decode cL_enter 12 = .ok (.iconst 1, 1) := by decide +kernel
theorem dL_enter_13 : decode cL_enter 13 = .ok (.goto 4, 3) := by decide +kernel
theorem dL_enter_16 : decode cL_enter 16 = .ok (.iconst 0, 1) := by decide +kernel
theorem dL_enter_17 : decode cL_enter 17 = .ok (.ireturn, 1) := by decide +kernel
theorem dL_enter_18 : decode cL_enter 18 = .ok (.astore 5, 2) := by decide +kernel
theorem dL_enter_20 : decode cL_enter 20 = .ok (.bipush (-3), 2) := by decide +kernel
theorem dL_enter_22 : decode cL_enter 22 = .ok (.ireturn, 1) := by decide +kernel
theorem dL_help_0 : decode cL_help 0 = .ok (.aload_n 0, 1) := by decide +kernel
theorem dL_help_1 : decode cL_help 1 = .ok (.iload_n 1, 1) := by decide +kernel
theorem dL_help_2 : decode cL_help 2 = .ok (.iload_n 2, 1) := by decide +kernel
theorem dL_help_3 : decode cL_help 3 = .ok (.iload_n 3, 1) := by decide +kernel
theorem dL_help_4 : decode cL_help 4 = .ok (.invokevirtual 32, 3) := by decide +kernel
theorem dL_help_7 : decode cL_help 7 = .ok (.ireturn, 1) := by decide +kernel
theorem dL_help_8 : decode cL_help 8 = .ok (.astore 4, 2) := by decide +kernel
theorem dL_help_10 : decode cL_help 10 = .ok (.bipush (-3), 2) := by decide +kernel
theorem dL_help_12 : decode cL_help 12 = .ok (.ireturn, 1) := by decide +kernel
theorem dL_judge_0 : decode cL_judge 0 = .ok (.aload_n 0, 1) := by decide +kernel
theorem dL_judge_1 : decode cL_judge 1 = .ok (.iload_n 1, 1) := by decide +kernel
theorem dL_judge_2 : decode cL_judge 2 = .ok (.iload_n 2, 1) := by decide +kernel
theorem dL_judge_3 : decode cL_judge 3 = .ok (.invokevirtual 36, 3) := by decide +kernel
theorem dL_judge_6 : decode cL_judge 6 = .ok (.ireturn, 1) := by decide +kernel
theorem dL_judge_7 : decode cL_judge 7 = .ok (.astore_n 3, 1) := by decide +kernel
theorem dL_judge_8 : decode cL_judge 8 = .ok (.bipush (-3), 2) := by decide +kernel
theorem dL_judge_10 : decode cL_judge 10 = .ok (.ireturn, 1) := by decide +kernel
theorem dL_spells_0 : decode cL_spells 0 = .ok (.aload_n 0, 1) := by decide +kernel
theorem dL_spells_1 : decode cL_spells 1 = .ok (.invokevirtual 40, 3) := by decide +kernel
theorem dL_spells_4 : decode cL_spells 4 = .ok (.pop, 1) := by decide +kernel
theorem dL_spells_5 : decode cL_spells 5 = .ok (.iload 4, 2) := by decide +kernel
theorem dL_spells_7 : decode cL_spells 7 = .ok (.ifCond .ne 24, 3) := by decide +kernel
theorem dL_spells_10 : decode cL_spells 10 = .ok (.aload_n 0, 1) := by decide +kernel
theorem dL_spells_11 : decode cL_spells 11 = .ok (.iload_n 1, 1) := by decide +kernel
theorem dL_spells_12 : decode cL_spells 12 = .ok (.invokevirtual 43, 3) := by decide +kernel
theorem dL_spells_15 : decode cL_spells 15 = .ok (.pop, 1) := by decide +kernel
theorem dL_spells_16 : decode cL_spells 16 = .ok (.aload_n 0, 1) := by decide +kernel
theorem dL_spells_17 : decode cL_spells 17 = .ok (.iload_n 2, 1) := by decide +kernel
theorem dL_spells_18 : decode cL_spells 18 = .ok (.invokevirtual 43, 3) := by decide +kernel
theorem dL_spells_21 : decode cL_spells 21 = .ok (.pop, 1) := by decide +kernel
theorem dL_spells_22 : decode cL_spells 22 = .ok (.aload_n 0, 1) := by decide +kernel
theorem dL_spells_23 : decode cL_spells 23 = .ok (.iload_n 3, 1) := by decide +kernel
theorem dL_spells_24 : decode cL_spells 24 = .ok (.invokevirtual 43, 3) := by decide +kernel
theorem dL_spells_27 : decode cL_spells 27 = .ok (.pop, 1) := by decide +kernel
theorem dL_spells_28 : decode cL_spells 28 = .ok (.goto 53, 3) := by decide +kernel
theorem dL_spells_31 : decode cL_spells 31 = .ok (.iload 4, 2) := by decide +kernel
theorem dL_spells_33 : decode cL_spells 33 = .ok (.iconst 1, 1) := by decide +kernel
theorem dL_spells_34 : decode cL_spells 34 = .ok (.if_icmp .ne 24, 3) := by decide +kernel
theorem dL_spells_37 : decode cL_spells 37 = .ok (.aload_n 0, 1) := by decide +kernel
theorem dL_spells_38 : decode cL_spells 38 = .ok (.iload_n 3, 1) := by decide +kernel
theorem dL_spells_39 : decode cL_spells 39 = .ok (.invokevirtual 46, 3) := by decide +kernel
theorem dL_spells_42 : decode cL_spells 42 = .ok (.pop, 1) := by decide +kernel
theorem dL_spells_43 : decode cL_spells 43 = .ok (.aload_n 0, 1) := by decide +kernel
theorem dL_spells_44 : decode cL_spells 44 = .ok (.iload_n 2, 1) := by decide +kernel
theorem dL_spells_45 : decode cL_spells 45 = .ok (.invokevirtual 46, 3) := by decide +kernel
theorem dL_spells_48 : decode cL_spells 48 = .ok (.pop, 1) := by decide +kernel
theorem dL_spells_49 : decode cL_spells 49 = .ok (.aload_n 0, 1) := by decide +kernel
theorem dL_spells_50 : decode cL_spells 50 = .ok (.iload_n 1, 1) := by decide +kernel
theorem dL_spells_51 : decode cL_spells 51 = .ok (.invokevirtual 46, 3) := by decide +kernel
theorem dL_spells_54 : decode cL_spells 54 = .ok (.pop, 1) := by decide +kernel
theorem dL_spells_55 : decode cL_spells 55 = .ok (.goto 26, 3) := by decide +kernel
theorem dL_spells_58 : decode cL_spells 58 = .ok (.aload_n 0, 1) := by decide +kernel
theorem dL_spells_59 : decode cL_spells 59 = .ok (.iload_n 3, 1) := by decide +kernel
theorem dL_spells_60 : decode cL_spells 60 = .ok (.invokevirtual 43, 3) := by decide +kernel
theorem dL_spells_63 : decode cL_spells 63 = .ok (.pop, 1) := by decide +kernel
theorem dL_spells_64 : decode cL_spells 64 = .ok (.aload_n 0, 1) := by decide +kernel
theorem dL_spells_65 : decode cL_spells 65 = .ok (.iload_n 2, 1) := by decide +kernel
theorem dL_spells_66 : decode cL_spells 66 = .ok (.invokevirtual 43, 3) := by decide +kernel
theorem dL_spells_69 : decode cL_spells 69 = .ok (.pop, 1) := by decide +kernel
theorem dL_spells_70 : decode cL_spells 70 = .ok (.aload_n 0, 1) := by decide +kernel
theorem dL_spells_71 : decode cL_spells 71 = .ok (.iload_n 1, 1) := by decide +kernel
theorem dL_spells_72 : decode cL_spells 72 = .ok (.invokevirtual 43, 3) := by decide +kernel
theorem dL_spells_75 : decode cL_spells 75 = .ok (.pop, 1) := by decide +kernel
theorem dL_spells_76 : decode cL_spells 76 = .ok (.aload_n 0, 1) := by decide +kernel
theorem dL_spells_77 : decode cL_spells 77 = .ok (.invokevirtual 49, 3) := by decide +kernel
theorem dL_spells_80 : decode cL_spells 80 = .ok (.pop, 1) := by decide +kernel
theorem dL_spells_81 : decode cL_spells 81 = .ok (.return_, 1) := by decide +kernel
theorem dL_letter_0 : decode cL_letter 0 = .ok (.iload_n 0, 1) := by decide +kernel
theorem dL_letter_1 : decode cL_letter 1 = .ok (.iconst 3, 1) := by decide +kernel
theorem dL_letter_2 : decode cL_letter 2 = .ok (.invokestatic 52, 3) := by decide +kernel
theorem dL_letter_5 : decode cL_letter 5 = .ok (.iconst 2, 1) := by decide +kernel
theorem dL_letter_6 : decode cL_letter 6 = .ok (.if_icmp .ne 8, 3) := by decide +kernel
theorem dL_letter_9 : decode cL_letter 9 = .ok (.bipush 8, 2) := by decide +kernel
theorem dL_letter_11 : decode cL_letter 11 = .ok (.goto 8, 3) := by decide +kernel
theorem dL_letter_14 : decode cL_letter 14 = .ok (.iload_n 0, 1) := by decide +kernel
theorem dL_letter_15 : decode cL_letter 15 = .ok (.iconst 3, 1) := by decide +kernel
theorem dL_letter_16 : decode cL_letter 16 = .ok (.invokestatic 52, 3) := by decide +kernel
theorem dL_letter_19 : decode cL_letter 19 = .ok (.ireturn, 1) := by decide +kernel
theorem dL_solvers_0 : decode cL_solvers 0 = .ok (.aload_n 0, 1) := by decide +kernel
theorem dL_solvers_1 : decode cL_solvers 1 = .ok (.iload_n 1, 1) := by decide +kernel
theorem dL_solvers_2 : decode cL_solvers 2 = .ok (.invokevirtual 57, 3) := by decide +kernel
theorem dL_solvers_5 : decode cL_solvers 5 = .ok (.iconst (-1), 1) := by decide +kernel
theorem dL_solvers_6 : decode cL_solvers 6 = .ok (.if_icmp .ne 16, 3) := by decide +kernel
theorem dL_solvers_9 : decode cL_solvers 9 = .ok (.aload_n 0, 1) := by decide +kernel
theorem dL_solvers_10 : decode cL_solvers 10 = .ok (.iconst (-1), 1) := by decide +kernel
theorem dL_solvers_11 : decode cL_solvers 11 = .ok (.invokevirtual 57, 3) := by decide +kernel
theorem dL_solvers_14 : decode cL_solvers 14 = .ok (.iconst (-1), 1) := by decide +kernel
theorem dL_solvers_15 : decode cL_solvers 15 = .ok (.if_icmp .ne 7, 3) := by decide +kernel
theorem dL_solvers_18 : decode cL_solvers 18 = .ok (.iconst 1, 1) := by decide +kernel
theorem dL_solvers_19 : decode cL_solvers 19 = .ok (.goto 4, 3) := by decide +kernel
theorem dL_solvers_22 : decode cL_solvers 22 = .ok (.iconst 0, 1) := by decide +kernel
theorem dL_solvers_23 : decode cL_solvers 23 = .ok (.istore_n 2, 1) := by decide +kernel
theorem dL_solvers_24 : decode cL_solvers 24 = .ok (.iconst 0, 1) := by decide +kernel
theorem dL_solvers_25 : decode cL_solvers 25 = .ok (.istore_n 3, 1) := by decide +kernel
theorem dL_solvers_26 : decode cL_solvers 26 = .ok (.iload_n 3, 1) := by decide +kernel
theorem dL_solvers_27 : decode cL_solvers 27 = .ok (.iload_n 1, 1) := by decide +kernel
theorem dL_solvers_28 : decode cL_solvers 28 = .ok (.if_icmp .ge 103, 3) := by decide +kernel
theorem dL_solvers_31 : decode cL_solvers 31 = .ok (.iload_n 2, 1) := by decide +kernel
theorem dL_solvers_32 : decode cL_solvers 32 = .ok (.ifCond .eq 99, 3) := by decide +kernel
theorem dL_solvers_35 : decode cL_solvers 35 = .ok (.aload_n 0, 1) := by decide +kernel
theorem dL_solvers_36 : decode cL_solvers 36 = .ok (.iload_n 3, 1) := by decide +kernel
theorem dL_solvers_37 : decode cL_solvers 37 = .ok (.invokevirtual 57, 3) := by decide +kernel
theorem dL_solvers_40 : decode cL_solvers 40 = .ok (.istore 4, 2) := by decide +kernel
theorem dL_solvers_42 : decode cL_solvers 42 = .ok (.iload_n 3, 1) := by decide +kernel
theorem dL_solvers_43 : decode cL_solvers 43 = .ok (.iconst 1, 1) := by decide +kernel
theorem dL_solvers_44 : decode cL_solvers 44 = .ok (.iadd, 1) := by decide +kernel
theorem dL_solvers_45 : decode cL_solvers 45 = .ok (.iload_n 1, 1) := by decide +kernel
theorem dL_solvers_46 : decode cL_solvers 46 = .ok (.if_icmp .ge 13, 3) := by decide +kernel
theorem dL_solvers_49 : decode cL_solvers 49 = .ok (.aload_n 0, 1) := by decide +kernel
theorem dL_solvers_50 : decode cL_solvers 50 = .ok (.iload_n 3, 1) := by decide +kernel
theorem dL_solvers_51 : decode cL_solvers 51 = .ok (.iconst 1, 1) := by decide +kernel
theorem dL_solvers_52 : decode cL_solvers 52 = .ok (.iadd, 1) := by decide +kernel
theorem dL_solvers_53 : decode cL_solvers 53 = .ok (.invokevirtual 57, 3) := by decide +kernel
theorem dL_solvers_56 : decode cL_solvers 56 = .ok (.goto 5, 3) := by decide +kernel
theorem dL_solvers_59 : decode cL_solvers 59 = .ok (.iload 4, 2) := by decide +kernel
theorem dL_solvers_61 : decode cL_solvers 61 = .ok (.istore 5, 2) := by decide +kernel
theorem dL_solvers_63 : decode cL_solvers 63 = .ok (.iload 4, 2) := by decide +kernel
theorem dL_solvers_65 : decode cL_solvers 65 = .ok (.ifCond .lt 58, 3) := by decide +kernel
theorem dL_solvers_68 : decode cL_solvers 68 = .ok (.iload 4, 2) := by decide +kernel
theorem dL_solvers_70 : decode cL_solvers 70 = .ok (.iload_n 1, 1) := by decide +kernel
theorem dL_solvers_71 : decode cL_solvers 71 = .ok (.if_icmp .ge 52, 3) := by decide +kernel
theorem dL_solvers_74 : decode cL_solvers 74 = .ok (.aload_n 0, 1) := by decide +kernel
theorem dL_solvers_75 : decode cL_solvers 75 = .ok (.iload 4, 2) := by decide +kernel
theorem dL_solvers_77 : decode cL_solvers 77 = .ok (.invokevirtual 60, 3) := by decide +kernel
theorem dL_solvers_80 : decode cL_solvers 80 = .ok (.aload_n 0, 1) := by decide +kernel
theorem dL_solvers_81 : decode cL_solvers 81 = .ok (.iload 5, 2) := by decide +kernel
theorem dL_solvers_83 : decode cL_solvers 83 = .ok (.invokevirtual 60, 3) := by decide +kernel
theorem dL_solvers_86 : decode cL_solvers 86 = .ok (.if_icmp .lt 37, 3) := by decide +kernel
theorem dL_solvers_89 : decode cL_solvers 89 = .ok (.aload_n 0, 1) := by decide +kernel
theorem dL_solvers_90 : decode cL_solvers 90 = .ok (.iload 4, 2) := by decide +kernel
theorem dL_solvers_92 : decode cL_solvers 92 = .ok (.invokevirtual 60, 3) := by decide +kernel
theorem dL_solvers_95 : decode cL_solvers 95 = .ok (.aload_n 0, 1) := by decide +kernel
theorem dL_solvers_96 : decode cL_solvers 96 = .ok (.iload 5, 2) := by decide +kernel
theorem dL_solvers_98 : decode cL_solvers 98 = .ok (.invokevirtual 60, 3) := by decide +kernel
theorem dL_solvers_101 : decode cL_solvers 101 = .ok (.if_icmp .gt 18, 3) := by decide +kernel
theorem dL_solvers_104 : decode cL_solvers 104 = .ok (.aload_n 0, 1) := by decide +kernel
theorem dL_solvers_105 : decode cL_solvers 105 = .ok (.iload 4, 2) := by decide +kernel
theorem dL_solvers_107 : decode cL_solvers 107 = .ok (.invokevirtual 63, 3) := by decide +kernel
theorem dL_solvers_110 : decode cL_solvers 110 = .ok (.aload_n 0, 1) := by decide +kernel
theorem dL_solvers_111 : decode cL_solvers 111 = .ok (.iload 5, 2) := by decide +kernel
theorem dL_solvers_113 : decode cL_solvers 113 = .ok (.invokevirtual 63, 3) := by decide +kernel
theorem dL_solvers_116 : decode cL_solvers 116 = .ok (.if_icmp .lt 7, 3) := by decide +kernel
theorem dL_solvers_119 : decode cL_solvers 119 = .ok (.iconst 1, 1) := by decide +kernel
theorem dL_solvers_120 : decode cL_solvers 120 = .ok (.goto 4, 3) := by decide +kernel
theorem dL_solvers_123 : decode cL_solvers 123 = .ok (.iconst 0, 1) := by decide +kernel
theorem dL_solvers_124 : decode cL_solvers 124 = .ok (.istore_n 2, 1) := by decide +kernel
theorem dL_solvers_125 : decode cL_solvers 125 = .ok (.iinc 3 1, 3) := by decide +kernel
theorem dL_solvers_128 : decode cL_solvers 128 = .ok (.goto (-102), 3) := by decide +kernel
theorem dL_solvers_131 : decode cL_solvers 131 = .ok (.iload_n 2, 1) := by decide +kernel
theorem dL_solvers_132 : decode cL_solvers 132 = .ok (.ireturn, 1) := by decide +kernel
theorem dL_fill_0 : decode cL_fill 0 = .ok (.aload_n 0, 1) := by decide +kernel
theorem dL_fill_1 : decode cL_fill 1 = .ok (.invokevirtual 66, 3) := by decide +kernel
theorem dL_fill_4 : decode cL_fill 4 = .ok (.istore_n 1, 1) := by decide +kernel
theorem dL_fill_5 : decode cL_fill 5 = .ok (.iload_n 1, 1) := by decide +kernel
theorem dL_fill_6 : decode cL_fill 6 = .ok (.iconst (-1), 1) := by decide +kernel
theorem dL_fill_7 : decode cL_fill 7 = .ok (.if_icmp .ne 16, 3) := by decide +kernel
theorem dL_fill_10 : decode cL_fill 10 = .ok (.aload_n 0, 1) := by decide +kernel
theorem dL_fill_11 : decode cL_fill 11 = .ok (.invokevirtual 69, 3) := by decide +kernel
theorem dL_fill_14 : decode cL_fill 14 = .ok (.ifCond .ne 7, 3) := by decide +kernel
theorem dL_fill_17 : decode cL_fill 17 = .ok (.iconst 1, 1) := by decide +kernel
theorem dL_fill_18 : decode cL_fill 18 = .ok (.goto 4, 3) := by decide +kernel
theorem dL_fill_21 : decode cL_fill 21 = .ok (.iconst 0, 1) := by decide +kernel
theorem dL_fill_22 : decode cL_fill 22 = .ok (.ireturn, 1) := by decide +kernel
theorem dL_fill_23 : decode cL_fill 23 = .ok (.aload_n 0, 1) := by decide +kernel
theorem dL_fill_24 : decode cL_fill 24 = .ok (.invokevirtual 69, 3) := by decide +kernel
theorem dL_fill_27 : decode cL_fill 27 = .ok (.ifCond .le 14, 3) := by decide +kernel
theorem dL_fill_30 : decode cL_fill 30 = .ok (.iload_n 1, 1) := by decide +kernel
theorem dL_fill_31 : decode cL_fill 31 = .ok (.sipush 594, 3) := by decide +kernel
theorem dL_fill_34 : decode cL_fill 34 = .ok (.if_icmp .gt 7, 3) := by decide +kernel
theorem dL_fill_37 : decode cL_fill 37 = .ok (.iconst 1, 1) := by decide +kernel
theorem dL_fill_38 : decode cL_fill 38 = .ok (.goto 4, 3) := by decide +kernel
theorem dL_fill_41 : decode cL_fill 41 = .ok (.iconst 0, 1) := by decide +kernel
theorem dL_fill_42 : decode cL_fill 42 = .ok (.istore_n 2, 1) := by decide +kernel
theorem dL_fill_43 : decode cL_fill 43 = .ok (.iconst 0, 1) := by decide +kernel
theorem dL_fill_44 : decode cL_fill 44 = .ok (.istore_n 3, 1) := by decide +kernel
theorem dL_fill_45 : decode cL_fill 45 = .ok (.iload_n 3, 1) := by decide +kernel
theorem dL_fill_46 : decode cL_fill 46 = .ok (.iconst 3, 1) := by decide +kernel
theorem dL_fill_47 : decode cL_fill 47 = .ok (.if_icmp .ge 100, 3) := by decide +kernel
theorem dL_fill_50 : decode cL_fill 50 = .ok (.iload_n 2, 1) := by decide +kernel
theorem dL_fill_51 : decode cL_fill 51 = .ok (.ifCond .eq 96, 3) := by decide +kernel
theorem dL_fill_54 : decode cL_fill 54 = .ok (.aload_n 0, 1) := by decide +kernel
theorem dL_fill_55 : decode cL_fill 55 = .ok (.aload_n 0, 1) := by decide +kernel
theorem dL_fill_56 : decode cL_fill 56 = .ok (.iconst 3, 1) := by decide +kernel
theorem dL_fill_57 : decode cL_fill 57 = .ok (.iload_n 3, 1) := by decide +kernel
theorem dL_fill_58 : decode cL_fill 58 = .ok (.imul, 1) := by decide +kernel
theorem dL_fill_59 : decode cL_fill 59 = .ok (.invokevirtual 72, 3) := by decide +kernel
theorem dL_fill_62 : decode cL_fill 62 = .ok (.aload_n 0, 1) := by decide +kernel
theorem dL_fill_63 : decode cL_fill 63 = .ok (.iconst 3, 1) := by decide +kernel
theorem dL_fill_64 : decode cL_fill 64 = .ok (.iload_n 3, 1) := by decide +kernel
theorem dL_fill_65 : decode cL_fill 65 = .ok (.imul, 1) := by decide +kernel
theorem dL_fill_66 : decode cL_fill 66 = .ok (.iconst 1, 1) := by decide +kernel
theorem dL_fill_67 : decode cL_fill 67 = .ok (.iadd, 1) := by decide +kernel
theorem dL_fill_68 : decode cL_fill 68 = .ok (.invokevirtual 72, 3) := by decide +kernel
theorem dL_fill_71 : decode cL_fill 71 = .ok (.aload_n 0, 1) := by decide +kernel
theorem dL_fill_72 : decode cL_fill 72 = .ok (.iconst 3, 1) := by decide +kernel
theorem dL_fill_73 : decode cL_fill 73 = .ok (.iload_n 3, 1) := by decide +kernel
theorem dL_fill_74 : decode cL_fill 74 = .ok (.imul, 1) := by decide +kernel
theorem dL_fill_75 : decode cL_fill 75 = .ok (.iconst 2, 1) := by decide +kernel
theorem dL_fill_76 : decode cL_fill 76 = .ok (.iadd, 1) := by decide +kernel
theorem dL_fill_77 : decode cL_fill 77 = .ok (.invokevirtual 72, 3) := by decide +kernel
theorem dL_fill_80 : decode cL_fill 80 = .ok (.iconst 0, 1) := by decide +kernel
theorem dL_fill_81 : decode cL_fill 81 = .ok (.invokestatic 75, 3) := by decide +kernel
theorem dL_fill_84 : decode cL_fill 84 = .ok (.aload_n 0, 1) := by decide +kernel
theorem dL_fill_85 : decode cL_fill 85 = .ok (.invokevirtual 79, 3) := by decide +kernel
theorem dL_fill_88 : decode cL_fill 88 = .ok (.iconst 1, 1) := by decide +kernel
theorem dL_fill_89 : decode cL_fill 89 = .ok (.if_icmp .ne 7, 3) := by decide +kernel
theorem dL_fill_92 : decode cL_fill 92 = .ok (.iconst 1, 1) := by decide +kernel
theorem dL_fill_93 : decode cL_fill 93 = .ok (.goto 4, 3) := by decide +kernel
theorem dL_fill_96 : decode cL_fill 96 = .ok (.iconst 0, 1) := by decide +kernel
theorem dL_fill_97 : decode cL_fill 97 = .ok (.istore_n 2, 1) := by decide +kernel
theorem dL_fill_98 : decode cL_fill 98 = .ok (.aload_n 0, 1) := by decide +kernel
theorem dL_fill_99 : decode cL_fill 99 = .ok (.aload_n 0, 1) := by decide +kernel
theorem dL_fill_100 : decode cL_fill 100 = .ok (.iload_n 3, 1) := by decide +kernel
theorem dL_fill_101 : decode cL_fill 101 = .ok (.invokevirtual 72, 3) := by decide +kernel
theorem dL_fill_104 : decode cL_fill 104 = .ok (.aload_n 0, 1) := by decide +kernel
theorem dL_fill_105 : decode cL_fill 105 = .ok (.iload_n 3, 1) := by decide +kernel
theorem dL_fill_106 : decode cL_fill 106 = .ok (.iconst 3, 1) := by decide +kernel
theorem dL_fill_107 : decode cL_fill 107 = .ok (.iadd, 1) := by decide +kernel
theorem dL_fill_108 : decode cL_fill 108 = .ok (.invokevirtual 72, 3) := by decide +kernel
theorem dL_fill_111 : decode cL_fill 111 = .ok (.aload_n 0, 1) := by decide +kernel
theorem dL_fill_112 : decode cL_fill 112 = .ok (.iload_n 3, 1) := by decide +kernel
theorem dL_fill_113 : decode cL_fill 113 = .ok (.bipush 6, 2) := by decide +kernel
theorem dL_fill_115 : decode cL_fill 115 = .ok (.iadd, 1) := by decide +kernel
theorem dL_fill_116 : decode cL_fill 116 = .ok (.invokevirtual 72, 3) := by decide +kernel
theorem dL_fill_119 : decode cL_fill 119 = .ok (.iconst 2, 1) := by decide +kernel
theorem dL_fill_120 : decode cL_fill 120 = .ok (.invokestatic 75, 3) := by decide +kernel
theorem dL_fill_123 : decode cL_fill 123 = .ok (.iload_n 2, 1) := by decide +kernel
theorem dL_fill_124 : decode cL_fill 124 = .ok (.ifCond .eq 15, 3) := by decide +kernel
theorem dL_fill_127 : decode cL_fill 127 = .ok (.aload_n 0, 1) := by decide +kernel
theorem dL_fill_128 : decode cL_fill 128 = .ok (.invokevirtual 79, 3) := by decide +kernel
theorem dL_fill_131 : decode cL_fill 131 = .ok (.iconst 1, 1) := by decide +kernel
theorem dL_fill_132 : decode cL_fill 132 = .ok (.if_icmp .ne 7, 3) := by decide +kernel
theorem dL_fill_135 : decode cL_fill 135 = .ok (.iconst 1, 1) := by decide +kernel
theorem dL_fill_136 : decode cL_fill 136 = .ok (.goto 4, 3) := by decide +kernel
theorem dL_fill_139 : decode cL_fill 139 = .ok (.iconst 0, 1) := by decide +kernel
theorem dL_fill_140 : decode cL_fill 140 = .ok (.istore_n 2, 1) := by decide +kernel
theorem dL_fill_141 : decode cL_fill 141 = .ok (.iinc 3 1, 3) := by decide +kernel
theorem dL_fill_144 : decode cL_fill 144 = .ok (.goto (-99), 3) := by decide +kernel
theorem dL_fill_147 : decode cL_fill 147 = .ok (.iload_n 2, 1) := by decide +kernel
theorem dL_fill_148 : decode cL_fill 148 = .ok (.ireturn, 1) := by decide +kernel
