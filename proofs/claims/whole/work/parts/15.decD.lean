theorem dL_spell_0 : decode cL_spell 0 = .ok (.aload_n 2, 1) := by decide +kernel
theorem dL_spell_1 : decode cL_spell 1 = .ok (.iconst 0, 1) := by decide +kernel
theorem dL_spell_2 : decode cL_spell 2 = .ok (.aload_n 0, 1) := by decide +kernel
theorem dL_spell_3 : decode cL_spell 3 = .ok (.iload_n 1, 1) := by decide +kernel
theorem dL_spell_4 : decode cL_spell 4 = .ok (.invokevirtual 7, 3) := by decide +kernel
theorem dL_spell_7 : decode cL_spell 7 = .ok (.i2l, 1) := by decide +kernel
theorem dL_spell_8 : decode cL_spell 8 = .ok (.lastore, 1) := by decide +kernel
theorem dL_spell_9 : decode cL_spell 9 = .ok (.goto 9, 3) := by decide +kernel
theorem dL_spell_12 : decode cL_spell 12 = .ok (.astore_n 3, 1) := by decide +kernel
theorem dL_spell_13 : decode cL_spell 13 = .ok (.iconst 1, 1) := by decide +kernel
theorem dL_spell_14 : decode cL_spell 14 = .ok (.ireturn, 1) := by decide +kernel
theorem dL_spell_15 : decode cL_spell 15 = .ok (.astore_n 3, 1) := by decide +kernel
theorem dL_spell_16 : decode cL_spell 16 = .ok (.iconst 2, 1) := by decide +kernel
theorem dL_spell_17 : decode cL_spell 17 = .ok (.ireturn, 1) := by decide +kernel
theorem dL_spell_18 : decode cL_spell 18 = .ok (.iconst 0, 1) := by decide +kernel
theorem dL_spell_19 : decode cL_spell 19 = .ok (.ireturn, 1) := by decide +kernel
theorem dL_insert_0 : decode cL_insert 0 = .ok (.aload_n 2, 1) := by decide +kernel
theorem dL_insert_1 : decode cL_insert 1 = .ok (.iconst 0, 1) := by decide +kernel
theorem dL_insert_2 : decode cL_insert 2 = .ok (.aload_n 0, 1) := by decide +kernel
theorem dL_insert_3 : decode cL_insert 3 = .ok (.iload_n 1, 1) := by decide +kernel
theorem dL_insert_4 : decode cL_insert 4 = .ok (.invokevirtual 17, 3) := by decide +kernel
theorem dL_insert_7 : decode cL_insert 7 = .ok (.i2l, 1) := by decide +kernel
theorem dL_insert_8 : decode cL_insert 8 = .ok (.lastore, 1) := by decide +kernel
theorem dL_insert_9 : decode cL_insert 9 = .ok (.goto 9, 3) := by decide +kernel
theorem dL_insert_12 : decode cL_insert 12 = .ok (.astore_n 3, 1) := by decide +kernel
theorem dL_insert_13 : decode cL_insert 13 = .ok (.iconst 1, 1) := by decide +kernel
theorem dL_insert_14 : decode cL_insert 14 = .ok (.ireturn, 1) := by decide +kernel
theorem dL_insert_15 : decode cL_insert 15 = .ok (.astore_n 3, 1) := by decide +kernel
theorem dL_insert_16 : decode cL_insert 16 = .ok (.iconst 2, 1) := by decide +kernel
theorem dL_insert_17 : decode cL_insert 17 = .ok (.ireturn, 1) := by decide +kernel
theorem dL_insert_18 : decode cL_insert 18 = .ok (.iconst 0, 1) := by decide +kernel
theorem dL_insert_19 : decode cL_insert 19 = .ok (.ireturn, 1) := by decide +kernel
theorem dL_charAt_0 : decode cL_charAt 0 = .ok (.aload_n 2, 1) := by decide +kernel
theorem dL_charAt_1 : decode cL_charAt 1 = .ok (.iconst 0, 1) := by decide +kernel
theorem dL_charAt_2 : decode cL_charAt 2 = .ok (.aload_n 0, 1) := by decide +kernel
theorem dL_charAt_3 : decode cL_charAt 3 = .ok (.iload_n 1, 1) := by decide +kernel
theorem dL_charAt_4 : decode cL_charAt 4 = .ok (.invokevirtual 20, 3) := by decide +kernel
theorem dL_charAt_7 : decode cL_charAt 7 = .ok (.i2l, 1) := by decide +kernel
theorem dL_charAt_8 : decode cL_charAt 8 = .ok (.lastore, 1) := by decide +kernel
theorem dL_charAt_9 : decode cL_charAt 9 = .ok (.goto 6, 3) := by decide +kernel
theorem dL_charAt_12 : decode cL_charAt 12 = .ok (.astore_n 3, 1) := by decide +kernel
theorem dL_charAt_13 : decode cL_charAt 13 = .ok (.iconst 1, 1) := by decide +kernel
theorem dL_charAt_14 : decode cL_charAt 14 = .ok (.ireturn, 1) := by decide +kernel
theorem dL_charAt_15 : decode cL_charAt 15 = .ok (.iconst 0, 1) := by decide +kernel
theorem dL_charAt_16 : decode cL_charAt 16 = .ok (.ireturn, 1) := by decide +kernel
theorem dL_addWord_0 : decode cL_addWord 0 = .ok (.aload_n 2, 1) := by decide +kernel
theorem dL_addWord_1 : decode cL_addWord 1 = .ok (.iconst 0, 1) := by decide +kernel
theorem dL_addWord_2 : decode cL_addWord 2 = .ok (.aload_n 0, 1) := by decide +kernel
theorem dL_addWord_3 : decode cL_addWord 3 = .ok (.iload_n 1, 1) := by decide +kernel
theorem dL_addWord_4 : decode cL_addWord 4 = .ok (.invokevirtual 26, 3) := by decide +kernel
theorem dL_addWord_7 : decode cL_addWord 7 = .ok (.i2l, 1) := by decide +kernel
theorem dL_addWord_8 : decode cL_addWord 8 = .ok (.lastore, 1) := by decide +kernel
theorem dL_addWord_9 : decode cL_addWord 9 = .ok (.goto 9, 3) := by decide +kernel
theorem dL_addWord_12 : decode cL_addWord 12 = .ok (.astore_n 3, 1) := by decide +kernel
theorem dL_addWord_13 : decode cL_addWord 13 = .ok (.iconst 1, 1) := by decide +kernel
theorem dL_addWord_14 : decode cL_addWord 14 = .ok (.ireturn, 1) := by decide +kernel
theorem dL_addWord_15 : decode cL_addWord 15 = .ok (.astore_n 3, 1) := by decide +kernel
theorem dL_addWord_16 : decode cL_addWord 16 = .ok (.iconst 2, 1) := by decide +kernel
theorem dL_addWord_17 : decode cL_addWord 17 = .ok (.ireturn, 1) := by decide +kernel
theorem dL_addWord_18 : decode cL_addWord 18 = .ok (.iconst 0, 1) := by decide +kernel
theorem dL_addWord_19 : decode cL_addWord 19 = .ok (.ireturn, 1) := by decide +kernel
theorem dL_setWeight_0 : decode cL_setWeight 0 = .ok (.aload_n 3, 1) := by decide +kernel
theorem dL_setWeight_1 : decode cL_setWeight 1 = .ok (.iconst 0, 1) := by decide +kernel
theorem dL_setWeight_2 : decode cL_setWeight 2 = .ok (.aload_n 0, 1) := by decide +kernel
theorem dL_setWeight_3 : decode cL_setWeight 3 = .ok (.iload_n 1, 1) := by decide +kernel
theorem dL_setWeight_4 : decode cL_setWeight 4 = .ok (.iload_n 2, 1) := by decide +kernel
theorem dL_setWeight_5 : decode cL_setWeight 5 = .ok (.invokevirtual 31, 3) := by decide +kernel
theorem dL_setWeight_8 : decode cL_setWeight 8 = .ok (.i2l, 1) := by decide +kernel
theorem dL_setWeight_9 : decode cL_setWeight 9 = .ok (.lastore, 1) := by decide +kernel
theorem dL_setWeight_10 : decode cL_setWeight 10 = .ok (.goto 11, 3) := by decide +kernel
theorem dL_setWeight_13 : decode cL_setWeight 13 = .ok (.astore 4, 2) := by decide +kernel
theorem dL_setWeight_15 : decode cL_setWeight 15 = .ok (.iconst 1, 1) := by decide +kernel
theorem dL_setWeight_16 : decode cL_setWeight 16 = .ok (.ireturn, 1) := by decide +kernel
theorem dL_setWeight_17 : decode cL_setWeight 17 = .ok (.astore 4, 2) := by decide +kernel
theorem dL_setWeight_19 : decode cL_setWeight 19 = .ok (.iconst 2, 1) := by decide +kernel
theorem dL_setWeight_20 : decode cL_setWeight 20 = .ok (.ireturn, 1) := by decide +kernel
theorem dL_setWeight_21 : decode cL_setWeight 21 = .ok (.iconst 0, 1) := by decide +kernel
theorem dL_setWeight_22 : decode cL_setWeight 22 = .ok (.ireturn, 1) := by decide +kernel
theorem dL_fix_0 : decode cL_fix 0 = .ok (.aload_n 3, 1) := by decide +kernel
theorem dL_fix_1 : decode cL_fix 1 = .ok (.iconst 0, 1) := by decide +kernel
theorem dL_fix_2 : decode cL_fix 2 = .ok (.aload_n 0, 1) := by decide +kernel
theorem dL_fix_3 : decode cL_fix 3 = .ok (.iload_n 1, 1) := by decide +kernel
theorem dL_fix_4 : decode cL_fix 4 = .ok (.iload_n 2, 1) := by decide +kernel
theorem dL_fix_5 : decode cL_fix 5 = .ok (.invokevirtual 35, 3) := by decide +kernel
theorem dL_fix_8 : decode cL_fix 8 = .ok (.i2l, 1) := by decide +kernel
theorem dL_fix_9 : decode cL_fix 9 = .ok (.lastore, 1) := by decide +kernel
theorem dL_fix_10 : decode cL_fix 10 = .ok (.goto 7, 3) := by decide +kernel
theorem dL_fix_13 : decode cL_fix 13 = .ok (.astore 4, 2) := by decide +kernel
theorem dL_fix_15 : decode cL_fix 15 = .ok (.iconst 1, 1) := by decide +kernel
theorem dL_fix_16 : decode cL_fix 16 = .ok (.ireturn, 1) := by decide +kernel
theorem dL_fix_17 : decode cL_fix 17 = .ok (.iconst 0, 1) := by decide +kernel
theorem dL_fix_18 : decode cL_fix 18 = .ok (.ireturn, 1) := by decide +kernel
theorem dL_fillAt_0 : decode cL_fillAt 0 = .ok (.aload_n 2, 1) := by decide +kernel
theorem dL_fillAt_1 : decode cL_fillAt 1 = .ok (.iconst 0, 1) := by decide +kernel
theorem dL_fillAt_2 : decode cL_fillAt 2 = .ok (.aload_n 0, 1) := by decide +kernel
theorem dL_fillAt_3 : decode cL_fillAt 3 = .ok (.iload_n 1, 1) := by decide +kernel
theorem dL_fillAt_4 : decode cL_fillAt 4 = .ok (.invokevirtual 38, 3) := by decide +kernel
theorem dL_fillAt_7 : decode cL_fillAt 7 = .ok (.i2l, 1) := by decide +kernel
theorem dL_fillAt_8 : decode cL_fillAt 8 = .ok (.lastore, 1) := by decide +kernel
theorem dL_fillAt_9 : decode cL_fillAt 9 = .ok (.goto 9, 3) := by decide +kernel
theorem dL_fillAt_12 : decode cL_fillAt 12 = .ok (.astore_n 3, 1) := by decide +kernel
theorem dL_fillAt_13 : decode cL_fillAt 13 = .ok (.iconst 1, 1) := by decide +kernel
theorem dL_fillAt_14 : decode cL_fillAt 14 = .ok (.ireturn, 1) := by decide +kernel
theorem dL_fillAt_15 : decode cL_fillAt 15 = .ok (.astore_n 3, 1) := by decide +kernel
theorem dL_fillAt_16 : decode cL_fillAt 16 = .ok (.iconst 2, 1) := by decide +kernel
theorem dL_fillAt_17 : decode cL_fillAt 17 = .ok (.ireturn, 1) := by decide +kernel
theorem dL_fillAt_18 : decode cL_fillAt 18 = .ok (.iconst 0, 1) := by decide +kernel
theorem dL_fillAt_19 : decode cL_fillAt 19 = .ok (.ireturn, 1) := by decide +kernel
theorem dL_clue_0 : decode cL_clue 0 = .ok (.aload_n 2, 1) := by decide +kernel
theorem dL_clue_1 : decode cL_clue 1 = .ok (.iconst 0, 1) := by decide +kernel
theorem dL_clue_2 : decode cL_clue 2 = .ok (.aload_n 0, 1) := by decide +kernel
theorem dL_clue_3 : decode cL_clue 3 = .ok (.iload_n 1, 1) := by decide +kernel
theorem dL_clue_4 : decode cL_clue 4 = .ok (.invokevirtual 41, 3) := by decide +kernel
theorem dL_clue_7 : decode cL_clue 7 = .ok (.i2l, 1) := by decide +kernel
theorem dL_clue_8 : decode cL_clue 8 = .ok (.lastore, 1) := by decide +kernel
theorem dL_clue_9 : decode cL_clue 9 = .ok (.goto 9, 3) := by decide +kernel
theorem dL_clue_12 : decode cL_clue 12 = .ok (.astore_n 3, 1) := by decide +kernel
theorem dL_clue_13 : decode cL_clue 13 = .ok (.iconst 1, 1) := by decide +kernel
theorem dL_clue_14 : decode cL_clue 14 = .ok (.ireturn, 1) := by decide +kernel
theorem dL_clue_15 : decode cL_clue 15 = .ok (.astore_n 3, 1) := by decide +kernel
theorem dL_clue_16 : decode cL_clue 16 = .ok (.iconst 2, 1) := by decide +kernel
theorem dL_clue_17 : decode cL_clue 17 = .ok (.ireturn, 1) := by decide +kernel
theorem dL_clue_18 : decode cL_clue 18 = .ok (.iconst 0, 1) := by decide +kernel
theorem dL_clue_19 : decode cL_clue 19 = .ok (.ireturn, 1) := by decide +kernel
theorem dL_edit_0 : decode cL_edit 0 = .ok (.aload_n 3, 1) := by decide +kernel
theorem dL_edit_1 : decode cL_edit 1 = .ok (.iconst 0, 1) := by decide +kernel
theorem dL_edit_2 : decode cL_edit 2 = .ok (.aload_n 0, 1) := by decide +kernel
theorem dL_edit_3 : decode cL_edit 3 = .ok (.iload_n 1, 1) := by decide +kernel
theorem dL_edit_4 : decode cL_edit 4 = .ok (.iload_n 2, 1) := by decide +kernel
theorem dL_edit_5 : decode cL_edit 5 = .ok (.invokevirtual 44, 3) := by decide +kernel
theorem dL_edit_8 : decode cL_edit 8 = .ok (.i2l, 1) := by decide +kernel
theorem dL_edit_9 : decode cL_edit 9 = .ok (.lastore, 1) := by decide +kernel
theorem dL_edit_10 : decode cL_edit 10 = .ok (.goto 11, 3) := by decide +kernel
theorem dL_edit_13 : decode cL_edit 13 = .ok (.astore 4, 2) := by decide +kernel
theorem dL_edit_15 : decode cL_edit 15 = .ok (.iconst 1, 1) := by decide +kernel
theorem dL_edit_16 : decode cL_edit 16 = .ok (.ireturn, 1) := by decide +kernel
theorem dL_edit_17 : decode cL_edit 17 = .ok (.astore 4, 2) := by decide +kernel
theorem dL_edit_19 : decode cL_edit 19 = .ok (.iconst 2, 1) := by decide +kernel
theorem dL_edit_20 : decode cL_edit 20 = .ok (.ireturn, 1) := by decide +kernel
theorem dL_edit_21 : decode cL_edit 21 = .ok (.iconst 0, 1) := by decide +kernel
theorem dL_edit_22 : decode cL_edit 22 = .ok (.ireturn, 1) := by decide +kernel
theorem dL_lastUsed_0 : decode cL_lastUsed 0 = .ok (.aload_n 2, 1) := by decide +kernel
theorem dL_lastUsed_1 : decode cL_lastUsed 1 = .ok (.iconst 0, 1) := by decide +kernel
theorem dL_lastUsed_2 : decode cL_lastUsed 2 = .ok (.aload_n 0, 1) := by decide +kernel
theorem dL_lastUsed_3 : decode cL_lastUsed 3 = .ok (.iload_n 1, 1) := by decide +kernel
theorem dL_lastUsed_4 : decode cL_lastUsed 4 = .ok (.invokevirtual 48, 3) := by decide +kernel
theorem dL_lastUsed_7 : decode cL_lastUsed 7 = .ok (.i2l, 1) := by decide +kernel
theorem dL_lastUsed_8 : decode cL_lastUsed 8 = .ok (.lastore, 1) := by decide +kernel
theorem dL_lastUsed_9 : decode cL_lastUsed 9 = .ok (.goto 6, 3) := by decide +kernel
theorem dL_lastUsed_12 : decode cL_lastUsed 12 = .ok (.astore_n 3, 1) := by decide +kernel
theorem dL_lastUsed_13 : decode cL_lastUsed 13 = .ok (.iconst 1, 1) := by decide +kernel
theorem dL_lastUsed_14 : decode cL_lastUsed 14 = .ok (.ireturn, 1) := by decide +kernel
theorem dL_lastUsed_15 : decode cL_lastUsed 15 = .ok (.iconst 0, 1) := by decide +kernel
theorem dL_lastUsed_16 : decode cL_lastUsed 16 = .ok (.ireturn, 1) := by decide +kernel
theorem dL_pass_0 : decode cL_pass 0 = .ok (.aload_n 2, 1) := by decide +kernel
theorem dL_pass_1 : decode cL_pass 1 = .ok (.iconst 0, 1) := by decide +kernel
theorem dL_pass_2 : decode cL_pass 2 = .ok (.aload_n 0, 1) := by decide +kernel
theorem dL_pass_3 : decode cL_pass 3 = .ok (.iload_n 1, 1) := by decide +kernel
theorem dL_pass_4 : decode cL_pass 4 = .ok (.invokevirtual 51, 3) := by decide +kernel
theorem dL_pass_7 : decode cL_pass 7 = .ok (.i2l, 1) := by decide +kernel
theorem dL_pass_8 : decode cL_pass 8 = .ok (.lastore, 1) := by decide +kernel
theorem dL_pass_9 : decode cL_pass 9 = .ok (.goto 9, 3) := by decide +kernel
theorem dL_pass_12 : decode cL_pass 12 = .ok (.astore_n 3, 1) := by decide +kernel
theorem dL_pass_13 : decode cL_pass 13 = .ok (.iconst 1, 1) := by decide +kernel
theorem dL_pass_14 : decode cL_pass 14 = .ok (.ireturn, 1) := by decide +kernel
theorem dL_pass_15 : decode cL_pass 15 = .ok (.astore_n 3, 1) := by decide +kernel
theorem dL_pass_16 : decode cL_pass 16 = .ok (.iconst 2, 1) := by decide +kernel
theorem dL_pass_17 : decode cL_pass 17 = .ok (.ireturn, 1) := by decide +kernel
theorem dL_pass_18 : decode cL_pass 18 = .ok (.iconst 0, 1) := by decide +kernel
theorem dL_pass_19 : decode cL_pass 19 = .ok (.ireturn, 1) := by decide +kernel
theorem dL_publish_0 : decode cL_publish 0 = .ok (.aload_n 1, 1) := by decide +kernel
theorem dL_publish_1 : decode cL_publish 1 = .ok (.iconst 0, 1) := by decide +kernel
theorem dL_publish_2 : decode cL_publish 2 = .ok (.aload_n 0, 1) := by decide +kernel
theorem dL_publish_3 : decode cL_publish 3 = .ok (.invokevirtual 54, 3) := by decide +kernel
theorem dL_publish_6 : decode cL_publish 6 = .ok (.i2l, 1) := by decide +kernel
theorem dL_publish_7 : decode cL_publish 7 = .ok (.lastore, 1) := by decide +kernel
theorem dL_publish_8 : decode cL_publish 8 = .ok (.goto 6, 3) := by decide +kernel
theorem dL_publish_11 : decode cL_publish 11 = .ok (.astore_n 2, 1) := by decide +kernel
theorem dL_publish_12 : decode cL_publish 12 = .ok (.iconst 1, 1) := by decide +kernel
theorem dL_publish_13 : decode cL_publish 13 = .ok (.ireturn, 1) := by decide +kernel
theorem dL_publish_14 : decode cL_publish 14 = .ok (.iconst 0, 1) := by decide +kernel
theorem dL_publish_15 : decode cL_publish 15 = .ok (.ireturn, 1) := by decide +kernel
theorem dL_clueOf_0 : decode cL_clueOf 0 = .ok (.aload_n 3, 1) := by decide +kernel
theorem dL_clueOf_1 : decode cL_clueOf 1 = .ok (.iconst 0, 1) := by decide +kernel
theorem dL_clueOf_2 : decode cL_clueOf 2 = .ok (.aload_n 0, 1) := by decide +kernel
theorem dL_clueOf_3 : decode cL_clueOf 3 = .ok (.iload_n 1, 1) := by decide +kernel
theorem dL_clueOf_4 : decode cL_clueOf 4 = .ok (.iload_n 2, 1) := by decide +kernel
theorem dL_clueOf_5 : decode cL_clueOf 5 = .ok (.invokevirtual 58, 3) := by decide +kernel
theorem dL_clueOf_8 : decode cL_clueOf 8 = .ok (.i2l, 1) := by decide +kernel
theorem dL_clueOf_9 : decode cL_clueOf 9 = .ok (.lastore, 1) := by decide +kernel
theorem dL_clueOf_10 : decode cL_clueOf 10 = .ok (.goto 7, 3) := by decide +kernel
theorem dL_clueOf_13 : decode cL_clueOf 13 = .ok (.astore 4, 2) := by decide +kernel
theorem dL_clueOf_15 : decode cL_clueOf 15 = .ok (.iconst 1, 1) := by decide +kernel
theorem dL_clueOf_16 : decode cL_clueOf 16 = .ok (.ireturn, 1) := by decide +kernel
theorem dL_clueOf_17 : decode cL_clueOf 17 = .ok (.iconst 0, 1) := by decide +kernel
theorem dL_clueOf_18 : decode cL_clueOf 18 = .ok (.ireturn, 1) := by decide +kernel
theorem dL_addSolver_0 : decode cL_addSolver 0 = .ok (.aload_n 3, 1) := by decide +kernel
theorem dL_addSolver_1 : decode cL_addSolver 1 = .ok (.iconst 0, 1) := by decide +kernel
theorem dL_addSolver_2 : decode cL_addSolver 2 = .ok (.aload_n 0, 1) := by decide +kernel
theorem dL_addSolver_3 : decode cL_addSolver 3 = .ok (.iload_n 1, 1) := by decide +kernel
theorem dL_addSolver_4 : decode cL_addSolver 4 = .ok (.iload_n 2, 1) := by decide +kernel
theorem dL_addSolver_5 : decode cL_addSolver 5 = .ok (.invokevirtual 61, 3) := by decide +kernel
theorem dL_addSolver_8 : decode cL_addSolver 8 = .ok (.i2l, 1) := by decide +kernel
theorem dL_addSolver_9 : decode cL_addSolver 9 = .ok (.lastore, 1) := by decide +kernel
theorem dL_addSolver_10 : decode cL_addSolver 10 = .ok (.goto 11, 3) := by decide +kernel
theorem dL_addSolver_13 : decode cL_addSolver 13 = .ok (.astore 4, 2) := by decide +kernel
theorem dL_addSolver_15 : decode cL_addSolver 15 = .ok (.iconst 1, 1) := by decide +kernel
theorem dL_addSolver_16 : decode cL_addSolver 16 = .ok (.ireturn, 1) := by decide +kernel
theorem dL_addSolver_17 : decode cL_addSolver 17 = .ok (.astore 4, 2) := by decide +kernel
theorem dL_addSolver_19 : decode cL_addSolver 19 = .ok (.iconst 2, 1) := by decide +kernel
theorem dL_addSolver_20 : decode cL_addSolver 20 = .ok (.ireturn, 1) := by decide +kernel
theorem dL_addSolver_21 : decode cL_addSolver 21 = .ok (.iconst 0, 1) := by decide +kernel
theorem dL_addSolver_22 : decode cL_addSolver 22 = .ok (.ireturn, 1) := by decide +kernel
theorem dL_enter_0 : decode cL_enter 0 = .ok (.aload 5, 2) := by decide +kernel
theorem dL_enter_2 : decode cL_enter 2 = .ok (.iconst 0, 1) := by decide +kernel
theorem dL_enter_3 : decode cL_enter 3 = .ok (.aload_n 0, 1) := by decide +kernel
theorem dL_enter_4 : decode cL_enter 4 = .ok (.iload_n 1, 1) := by decide +kernel
theorem dL_enter_5 : decode cL_enter 5 = .ok (.iload_n 2, 1) := by decide +kernel
theorem dL_enter_6 : decode cL_enter 6 = .ok (.iload_n 3, 1) := by decide +kernel
theorem dL_enter_7 : decode cL_enter 7 = .ok (.iload 4, 2) := by decide +kernel
theorem dL_enter_9 : decode cL_enter 9 = .ok (.invokevirtual 64, 3) := by decide +kernel
theorem dL_enter_12 : decode cL_enter 12 = .ok (.ifCond .eq 7, 3) := by decide +kernel
theorem dL_enter_15 : decode cL_enter 15 = .ok (.lconst 1, 1) := by decide +kernel
theorem dL_enter_16 : decode cL_enter 16 = .ok (.goto 4, 3) := by decide +kernel
theorem dL_enter_19 : decode cL_enter 19 = .ok (.lconst 0, 1) := by decide +kernel
theorem dL_enter_20 : decode cL_enter 20 = .ok (.lastore, 1) := by decide +kernel
theorem dL_enter_21 : decode cL_enter 21 = .ok (.goto 11, 3) := by decide +kernel
theorem dL_enter_24 : decode cL_enter 24 = .ok (.astore 6, 2) := by decide +kernel
theorem dL_enter_26 : decode cL_enter 26 = .ok (.iconst 1, 1) := by decide +kernel
theorem dL_enter_27 : decode cL_enter 27 = .ok (.ireturn, 1) := by decide +kernel
theorem dL_enter_28 : decode cL_enter 28 = .ok (.astore 6, 2) := by decide +kernel
theorem dL_enter_30 : decode cL_enter 30 = .ok (.iconst 2, 1) := by decide +kernel
theorem dL_enter_31 : decode cL_enter 31 = .ok (.ireturn, 1) := by decide +kernel
theorem dL_enter_32 : decode cL_enter 32 = .ok (.iconst 0, 1) := by decide +kernel
theorem dL_enter_33 : decode cL_enter 33 = .ok (.ireturn, 1) := by decide +kernel
theorem dL_help_0 : decode cL_help 0 = .ok (.aload 4, 2) := by decide +kernel
theorem dL_help_2 : decode cL_help 2 = .ok (.iconst 0, 1) := by decide +kernel
theorem dL_help_3 : decode cL_help 3 = .ok (.aload_n 0, 1) := by decide +kernel
theorem dL_help_4 : decode cL_help 4 = .ok (.iload_n 1, 1) := by decide +kernel
theorem dL_help_5 : decode cL_help 5 = .ok (.iload_n 2, 1) := by decide +kernel
theorem dL_help_6 : decode cL_help 6 = .ok (.iload_n 3, 1) := by decide +kernel
theorem dL_help_7 : decode cL_help 7 = .ok (.invokevirtual 68, 3) := by decide +kernel
theorem dL_help_10 : decode cL_help 10 = .ok (.i2l, 1) := by decide +kernel
theorem dL_help_11 : decode cL_help 11 = .ok (.lastore, 1) := by decide +kernel
theorem dL_help_12 : decode cL_help 12 = .ok (.goto 11, 3) := by decide +kernel
theorem dL_help_15 : decode cL_help 15 = .ok (.astore 5, 2) := by decide +kernel
theorem dL_help_17 : decode cL_help 17 = .ok (.iconst 1, 1) := by decide +kernel
theorem dL_help_18 : decode cL_help 18 = .ok (.ireturn, 1) := by decide +kernel
theorem dL_help_19 : decode cL_help 19 = .ok (.astore 5, 2) := by decide +kernel
theorem dL_help_21 : decode cL_help 21 = .ok (.iconst 2, 1) := by decide +kernel
theorem dL_help_22 : decode cL_help 22 = .ok (.ireturn, 1) := by decide +kernel
theorem dL_help_23 : decode cL_help 23 = .ok (.iconst 0, 1) := by decide +kernel
theorem dL_help_24 : decode cL_help 24 = .ok (.ireturn, 1) := by decide +kernel
theorem dL_judge_0 : decode cL_judge 0 = .ok (.aload_n 3, 1) := by decide +kernel
theorem dL_judge_1 : decode cL_judge 1 = .ok (.iconst 0, 1) := by decide +kernel
theorem dL_judge_2 : decode cL_judge 2 = .ok (.aload_n 0, 1) := by decide +kernel
theorem dL_judge_3 : decode cL_judge 3 = .ok (.iload_n 1, 1) := by decide +kernel
theorem dL_judge_4 : decode cL_judge 4 = .ok (.iload_n 2, 1) := by decide +kernel
theorem dL_judge_5 : decode cL_judge 5 = .ok (.invokevirtual 72, 3) := by decide +kernel
theorem dL_judge_8 : decode cL_judge 8 = .ok (.i2l, 1) := by decide +kernel
theorem dL_judge_9 : decode cL_judge 9 = .ok (.lastore, 1) := by decide +kernel
theorem dL_judge_10 : decode cL_judge 10 = .ok (.goto 11, 3) := by decide +kernel
theorem dL_judge_13 : decode cL_judge 13 = .ok (.astore 4, 2) := by decide +kernel
theorem dL_judge_15 : decode cL_judge 15 = .ok (.iconst 1, 1) := by decide +kernel
theorem dL_judge_16 : decode cL_judge 16 = .ok (.ireturn, 1) := by decide +kernel
theorem dL_judge_17 : decode cL_judge 17 = .ok (.astore 4, 2) := by decide +kernel
theorem dL_judge_19 : decode cL_judge 19 = .ok (.iconst 2, 1) := by decide +kernel
theorem dL_judge_20 : decode cL_judge 20 = .ok (.ireturn, 1) := by decide +kernel
theorem dL_judge_21 : decode cL_judge 21 = .ok (.iconst 0, 1) := by decide +kernel
theorem dL_judge_22 : decode cL_judge 22 = .ok (.ireturn, 1) := by decide +kernel
theorem dL_solvedAt_0 : decode cL_solvedAt 0 = .ok (.aload_n 3, 1) := by decide +kernel
theorem dL_solvedAt_1 : decode cL_solvedAt 1 = .ok (.iconst 0, 1) := by decide +kernel
theorem dL_solvedAt_2 : decode cL_solvedAt 2 = .ok (.aload_n 0, 1) := by decide +kernel
theorem dL_solvedAt_3 : decode cL_solvedAt 3 = .ok (.iload_n 1, 1) := by decide +kernel
theorem dL_solvedAt_4 : decode cL_solvedAt 4 = .ok (.iload_n 2, 1) := by decide +kernel
theorem dL_solvedAt_5 : decode cL_solvedAt 5 = .ok (.invokevirtual 75, 3) := by decide +kernel
theorem dL_solvedAt_8 : decode cL_solvedAt 8 = .ok (.i2l, 1) := by decide +kernel
theorem dL_solvedAt_9 : decode cL_solvedAt 9 = .ok (.lastore, 1) := by decide +kernel
theorem dL_solvedAt_10 : decode cL_solvedAt 10 = .ok (.goto 7, 3) := by decide +kernel
theorem dL_solvedAt_13 : decode cL_solvedAt 13 = .ok (.astore 4, 2) := by decide +kernel
theorem dL_solvedAt_15 : decode cL_solvedAt 15 = .ok (.iconst 1, 1) := by decide +kernel
theorem dL_solvedAt_16 : decode cL_solvedAt 16 = .ok (.ireturn, 1) := by decide +kernel
theorem dL_solvedAt_17 : decode cL_solvedAt 17 = .ok (.iconst 0, 1) := by decide +kernel
theorem dL_solvedAt_18 : decode cL_solvedAt 18 = .ok (.ireturn, 1) := by decide +kernel
theorem dL_open_0 : decode cL_open 0 = .ok (.aload_n 2, 1) := by decide +kernel
theorem dL_open_1 : decode cL_open 1 = .ok (.iconst 0, 1) := by decide +kernel
theorem dL_open_2 : decode cL_open 2 = .ok (.aload_n 0, 1) := by decide +kernel
theorem dL_open_3 : decode cL_open 3 = .ok (.iload_n 1, 1) := by decide +kernel
theorem dL_open_4 : decode cL_open 4 = .ok (.invokevirtual 78, 3) := by decide +kernel
theorem dL_open_7 : decode cL_open 7 = .ok (.i2l, 1) := by decide +kernel
theorem dL_open_8 : decode cL_open 8 = .ok (.lastore, 1) := by decide +kernel
theorem dL_open_9 : decode cL_open 9 = .ok (.goto 6, 3) := by decide +kernel
theorem dL_open_12 : decode cL_open 12 = .ok (.astore_n 3, 1) := by decide +kernel
theorem dL_open_13 : decode cL_open 13 = .ok (.iconst 1, 1) := by decide +kernel
theorem dL_open_14 : decode cL_open 14 = .ok (.ireturn, 1) := by decide +kernel
theorem dL_open_15 : decode cL_open 15 = .ok (.iconst 0, 1) := by decide +kernel
theorem dL_open_16 : decode cL_open 16 = .ok (.ireturn, 1) := by decide +kernel
theorem dL_coins_0 : decode cL_coins 0 = .ok (.aload_n 2, 1) := by decide +kernel
theorem dL_coins_1 : decode cL_coins 1 = .ok (.iconst 0, 1) := by decide +kernel
theorem dL_coins_2 : decode cL_coins 2 = .ok (.aload_n 0, 1) := by decide +kernel
theorem dL_coins_3 : decode cL_coins 3 = .ok (.iload_n 1, 1) := by decide +kernel
theorem dL_coins_4 : decode cL_coins 4 = .ok (.invokevirtual 81, 3) := by decide +kernel
theorem dL_coins_7 : decode cL_coins 7 = .ok (.i2l, 1) := by decide +kernel
theorem dL_coins_8 : decode cL_coins 8 = .ok (.lastore, 1) := by decide +kernel
theorem dL_coins_9 : decode cL_coins 9 = .ok (.goto 6, 3) := by decide +kernel
theorem dL_coins_12 : decode cL_coins 12 = .ok (.astore_n 3, 1) := by decide +kernel
theorem dL_coins_13 : decode cL_coins 13 = .ok (.iconst 1, 1) := by decide +kernel
theorem dL_coins_14 : decode cL_coins 14 = .ok (.ireturn, 1) := by decide +kernel
theorem dL_coins_15 : decode cL_coins 15 = .ok (.iconst 0, 1) := by decide +kernel
theorem dL_coins_16 : decode cL_coins 16 = .ok (.ireturn, 1) := by decide +kernel
theorem dL_streak_0 : decode cL_streak 0 = .ok (.aload_n 2, 1) := by decide +kernel
theorem dL_streak_1 : decode cL_streak 1 = .ok (.iconst 0, 1) := by decide +kernel
theorem dL_streak_2 : decode cL_streak 2 = .ok (.aload_n 0, 1) := by decide +kernel
theorem dL_streak_3 : decode cL_streak 3 = .ok (.iload_n 1, 1) := by decide +kernel
theorem dL_streak_4 : decode cL_streak 4 = .ok (.invokevirtual 84, 3) := by decide +kernel
theorem dL_streak_7 : decode cL_streak 7 = .ok (.i2l, 1) := by decide +kernel
theorem dL_streak_8 : decode cL_streak 8 = .ok (.lastore, 1) := by decide +kernel
theorem dL_streak_9 : decode cL_streak 9 = .ok (.goto 6, 3) := by decide +kernel
theorem dL_streak_12 : decode cL_streak 12 = .ok (.astore_n 3, 1) := by decide +kernel
theorem dL_streak_13 : decode cL_streak 13 = .ok (.iconst 1, 1) := by decide +kernel
theorem dL_streak_14 : decode cL_streak 14 = .ok (.ireturn, 1) := by decide +kernel
theorem dL_streak_15 : decode cL_streak 15 = .ok (.iconst 0, 1) := by decide +kernel
theorem dL_streak_16 : decode cL_streak 16 = .ok (.ireturn, 1) := by decide +kernel
theorem dL_streakAnew_0 : decode cL_streakAnew 0 = .ok (.aload_n 2, 1) := by decide +kernel
theorem dL_streakAnew_1 : decode cL_streakAnew 1 = .ok (.iconst 0, 1) := by decide +kernel
theorem dL_streakAnew_2 : decode cL_streakAnew 2 = .ok (.aload_n 0, 1) := by decide +kernel
theorem dL_streakAnew_3 : decode cL_streakAnew 3 = .ok (.iload_n 1, 1) := by decide +kernel
theorem dL_streakAnew_4 : decode cL_streakAnew 4 = .ok (.invokevirtual 87, 3) := by decide +kernel
theorem dL_streakAnew_7 : decode cL_streakAnew 7 = .ok (.i2l, 1) := by decide +kernel
theorem dL_streakAnew_8 : decode cL_streakAnew 8 = .ok (.lastore, 1) := by decide +kernel
theorem dL_streakAnew_9 : decode cL_streakAnew 9 = .ok (.goto 6, 3) := by decide +kernel
theorem dL_streakAnew_12 : decode cL_streakAnew 12 = .ok (.astore_n 3, 1) := by decide +kernel
theorem dL_streakAnew_13 : decode cL_streakAnew 13 = .ok (.iconst 1, 1) := by decide +kernel
theorem dL_streakAnew_14 : decode cL_streakAnew 14 = .ok (.ireturn, 1) := by decide +kernel
theorem dL_streakAnew_15 : decode cL_streakAnew 15 = .ok (.iconst 0, 1) := by decide +kernel
theorem dL_streakAnew_16 : decode cL_streakAnew 16 = .ok (.ireturn, 1) := by decide +kernel
