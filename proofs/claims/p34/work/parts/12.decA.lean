theorem dX0_init_0 : decode cX0_init 0 = .ok (.aload_n 0, 1) := by decide +kernel
theorem dX0_init_1 : decode cX0_init 1 = .ok (.invokespecial 3, 3) := by decide +kernel
theorem dX0_init_4 : decode cX0_init 4 = .ok (.aload_n 0, 1) := by decide +kernel
theorem dX0_init_5 : decode cX0_init 5 = .ok (.bipush 60, 2) := by decide +kernel
theorem dX0_init_7 : decode cX0_init 7 = .ok (.newarray .int, 2) := by decide +kernel
theorem dX0_init_9 : decode cX0_init 9 = .ok (.putfield 9, 3) := by decide +kernel
theorem dX0_init_12 : decode cX0_init 12 = .ok (.aload_n 0, 1) := by decide +kernel
theorem dX0_init_13 : decode cX0_init 13 = .ok (.bipush 60, 2) := by decide +kernel
theorem dX0_init_15 : decode cX0_init 15 = .ok (.newarray .int, 2) := by decide +kernel
theorem dX0_init_17 : decode cX0_init 17 = .ok (.putfield 15, 3) := by decide +kernel
theorem dX0_init_20 : decode cX0_init 20 = .ok (.aload_n 0, 1) := by decide +kernel
theorem dX0_init_21 : decode cX0_init 21 = .ok (.bipush 60, 2) := by decide +kernel
theorem dX0_init_23 : decode cX0_init 23 = .ok (.newarray .int, 2) := by decide +kernel
theorem dX0_init_25 : decode cX0_init 25 = .ok (.putfield 18, 3) := by decide +kernel
theorem dX0_init_28 : decode cX0_init 28 = .ok (.aload_n 0, 1) := by decide +kernel
theorem dX0_init_29 : decode cX0_init 29 = .ok (.bipush 6, 2) := by decide +kernel
theorem dX0_init_31 : decode cX0_init 31 = .ok (.newarray .int, 2) := by decide +kernel
theorem dX0_init_33 : decode cX0_init 33 = .ok (.putfield 21, 3) := by decide +kernel
theorem dX0_init_36 : decode cX0_init 36 = .ok (.return_, 1) := by decide +kernel
theorem dX0_count_0 : decode cX0_count 0 = .ok (.aload_n 0, 1) := by decide +kernel
theorem dX0_count_1 : decode cX0_count 1 = .ok (.getfield 24, 3) := by decide +kernel
theorem dX0_count_4 : decode cX0_count 4 = .ok (.ireturn, 1) := by decide +kernel
theorem dX0_add_0 : decode cX0_add 0 = .ok (.aload_n 0, 1) := by decide +kernel
theorem dX0_add_1 : decode cX0_add 1 = .ok (.getfield 9, 3) := by decide +kernel
theorem dX0_add_4 : decode cX0_add 4 = .ok (.aload_n 0, 1) := by decide +kernel
theorem dX0_add_5 : decode cX0_add 5 = .ok (.getfield 24, 3) := by decide +kernel
theorem dX0_add_8 : decode cX0_add 8 = .ok (.iload_n 1, 1) := by decide +kernel
theorem dX0_add_9 : decode cX0_add 9 = .ok (.iastore, 1) := by decide +kernel
theorem dX0_add_10 : decode cX0_add 10 = .ok (.aload_n 0, 1) := by decide +kernel
theorem dX0_add_11 : decode cX0_add 11 = .ok (.getfield 18, 3) := by decide +kernel
theorem dX0_add_14 : decode cX0_add 14 = .ok (.aload_n 0, 1) := by decide +kernel
theorem dX0_add_15 : decode cX0_add 15 = .ok (.getfield 24, 3) := by decide +kernel
theorem dX0_add_18 : decode cX0_add 18 = .ok (.iconst (-1), 1) := by decide +kernel
theorem dX0_add_19 : decode cX0_add 19 = .ok (.iastore, 1) := by decide +kernel
theorem dX0_add_20 : decode cX0_add 20 = .ok (.aload_n 0, 1) := by decide +kernel
theorem dX0_add_21 : decode cX0_add 21 = .ok (.dup, 1) := by decide +kernel
theorem dX0_add_22 : decode cX0_add 22 = .ok (.getfield 24, 3) := by decide +kernel
theorem dX0_add_25 : decode cX0_add 25 = .ok (.iconst 1, 1) := by decide +kernel
theorem dX0_add_26 : decode cX0_add 26 = .ok (.iadd, 1) := by decide +kernel
theorem dX0_add_27 : decode cX0_add 27 = .ok (.putfield 24, 3) := by decide +kernel
theorem dX0_add_30 : decode cX0_add 30 = .ok (.aload_n 0, 1) := by decide +kernel
theorem dX0_add_31 : decode cX0_add 31 = .ok (.getfield 24, 3) := by decide +kernel
theorem dX0_add_34 : decode cX0_add 34 = .ok (.iconst 1, 1) := by decide +kernel
theorem dX0_add_35 : decode cX0_add 35 = .ok (.isub, 1) := by decide +kernel
theorem dX0_add_36 : decode cX0_add 36 = .ok (.ireturn, 1) := by decide +kernel
theorem dX0_isReady_0 : decode cX0_isReady 0 = .ok (.aload_n 0, 1) := by decide +kernel
theorem dX0_isReady_1 : decode cX0_isReady 1 = .ok (.getfield 15, 3) := by decide +kernel
theorem dX0_isReady_4 : decode cX0_isReady 4 = .ok (.iload_n 1, 1) := by decide +kernel
theorem dX0_isReady_5 : decode cX0_isReady 5 = .ok (.iaload, 1) := by decide +kernel
theorem dX0_isReady_6 : decode cX0_isReady 6 = .ok (.iconst 2, 1) := by decide +kernel
theorem dX0_isReady_7 : decode cX0_isReady 7 = .ok (.if_icmp .lt 7, 3) := by decide +kernel
theorem dX0_isReady_10 : decode cX0_isReady 10 = .ok (.iconst 1, 1) := by decide +kernel
theorem dX0_isReady_11 : decode cX0_isReady 11 = .ok (.goto 4, 3) := by decide +kernel
theorem dX0_isReady_14 : decode cX0_isReady 14 = .ok (.iconst 0, 1) := by decide +kernel
theorem dX0_isReady_15 : decode cX0_isReady 15 = .ok (.ireturn, 1) := by decide +kernel
theorem dX0_look_0 : decode cX0_look 0 = .ok (.aload_n 0, 1) := by decide +kernel
theorem dX0_look_1 : decode cX0_look 1 = .ok (.getfield 15, 3) := by decide +kernel
theorem dX0_look_4 : decode cX0_look 4 = .ok (.iload_n 1, 1) := by decide +kernel
theorem dX0_look_5 : decode cX0_look 5 = .ok (.iload_n 2, 1) := by decide +kernel
theorem dX0_look_6 : decode cX0_look 6 = .ok (.ifCond .eq 14, 3) := by decide +kernel
theorem dX0_look_9 : decode cX0_look 9 = .ok (.aload_n 0, 1) := by decide +kernel
theorem dX0_look_10 : decode cX0_look 10 = .ok (.getfield 15, 3) := by decide +kernel
theorem dX0_look_13 : decode cX0_look 13 = .ok (.iload_n 1, 1) := by decide +kernel
theorem dX0_look_14 : decode cX0_look 14 = .ok (.iaload, 1) := by decide +kernel
theorem dX0_look_15 : decode cX0_look 15 = .ok (.iconst 1, 1) := by decide +kernel
theorem dX0_look_16 : decode cX0_look 16 = .ok (.iadd, 1) := by decide +kernel
theorem dX0_look_17 : decode cX0_look 17 = .ok (.goto 4, 3) := by decide +kernel
theorem dX0_look_20 : decode cX0_look 20 = .ok (.iconst 0, 1) := by decide +kernel
theorem dX0_look_21 : decode cX0_look 21 = .ok (.iastore, 1) := by decide +kernel
theorem dX0_look_22 : decode cX0_look 22 = .ok (.aload_n 0, 1) := by decide +kernel
theorem dX0_look_23 : decode cX0_look 23 = .ok (.getfield 15, 3) := by decide +kernel
theorem dX0_look_26 : decode cX0_look 26 = .ok (.iload_n 1, 1) := by decide +kernel
theorem dX0_look_27 : decode cX0_look 27 = .ok (.iaload, 1) := by decide +kernel
theorem dX0_look_28 : decode cX0_look 28 = .ok (.ireturn, 1) := by decide +kernel
theorem dX0_lastDay_0 : decode cX0_lastDay 0 = .ok (.aload_n 0, 1) := by decide +kernel
theorem dX0_lastDay_1 : decode cX0_lastDay 1 = .ok (.getfield 18, 3) := by decide +kernel
theorem dX0_lastDay_4 : decode cX0_lastDay 4 = .ok (.iload_n 1, 1) := by decide +kernel
theorem dX0_lastDay_5 : decode cX0_lastDay 5 = .ok (.iaload, 1) := by decide +kernel
theorem dX0_lastDay_6 : decode cX0_lastDay 6 = .ok (.ireturn, 1) := by decide +kernel
theorem dX0_chosen_0 : decode cX0_chosen 0 = .ok (.aload_n 0, 1) := by decide +kernel
theorem dX0_chosen_1 : decode cX0_chosen 1 = .ok (.getfield 21, 3) := by decide +kernel
theorem dX0_chosen_4 : decode cX0_chosen 4 = .ok (.iload_n 1, 1) := by decide +kernel
theorem dX0_chosen_5 : decode cX0_chosen 5 = .ok (.iaload, 1) := by decide +kernel
theorem dX0_chosen_6 : decode cX0_chosen 6 = .ok (.ireturn, 1) := by decide +kernel
theorem dX0_choose_0 : decode cX0_choose 0 = .ok (.iconst (-1), 1) := by decide +kernel
theorem dX0_choose_1 : decode cX0_choose 1 = .ok (.istore 4, 2) := by decide +kernel
theorem dX0_choose_3 : decode cX0_choose 3 = .ok (.iconst 0, 1) := by decide +kernel
theorem dX0_choose_4 : decode cX0_choose 4 = .ok (.istore 5, 2) := by decide +kernel
theorem dX0_choose_6 : decode cX0_choose 6 = .ok (.iload 5, 2) := by decide +kernel
theorem dX0_choose_8 : decode cX0_choose 8 = .ok (.aload_n 0, 1) := by decide +kernel
theorem dX0_choose_9 : decode cX0_choose 9 = .ok (.getfield 24, 3) := by decide +kernel
theorem dX0_choose_12 : decode cX0_choose 12 = .ok (.if_icmp .ge 79, 3) := by decide +kernel
theorem dX0_choose_15 : decode cX0_choose 15 = .ok (.aload_n 0, 1) := by decide +kernel
theorem dX0_choose_16 : decode cX0_choose 16 = .ok (.getfield 9, 3) := by decide +kernel
theorem dX0_choose_19 : decode cX0_choose 19 = .ok (.iload 5, 2) := by decide +kernel
theorem dX0_choose_21 : decode cX0_choose 21 = .ok (.iaload, 1) := by decide +kernel
theorem dX0_choose_22 : decode cX0_choose 22 = .ok (.iload_n 2, 1) := by decide +kernel
theorem dX0_choose_23 : decode cX0_choose 23 = .ok (.if_icmp .ne 27, 3) := by decide +kernel
theorem dX0_choose_26 : decode cX0_choose 26 = .ok (.aload_n 0, 1) := by decide +kernel
theorem dX0_choose_27 : decode cX0_choose 27 = .ok (.iload 5, 2) := by decide +kernel
theorem dX0_choose_29 : decode cX0_choose 29 = .ok (.iload_n 3, 1) := by decide +kernel
theorem dX0_choose_30 : decode cX0_choose 30 = .ok (.invokevirtual 28, 3) := by decide +kernel
theorem dX0_choose_33 : decode cX0_choose 33 = .ok (.ifCond .eq 17, 3) := by decide +kernel
theorem dX0_choose_36 : decode cX0_choose 36 = .ok (.aload_n 0, 1) := by decide +kernel
theorem dX0_choose_37 : decode cX0_choose 37 = .ok (.iload 5, 2) := by decide +kernel
theorem dX0_choose_39 : decode cX0_choose 39 = .ok (.iload_n 1, 1) := by decide +kernel
theorem dX0_choose_40 : decode cX0_choose 40 = .ok (.invokevirtual 32, 3) := by decide +kernel
theorem dX0_choose_43 : decode cX0_choose 43 = .ok (.ifCond .ne 7, 3) := by decide +kernel
theorem dX0_choose_46 : decode cX0_choose 46 = .ok (.iconst 1, 1) := by decide +kernel
theorem dX0_choose_47 : decode cX0_choose 47 = .ok (.goto 4, 3) := by decide +kernel
theorem dX0_choose_50 : decode cX0_choose 50 = .ok (.iconst 0, 1) := by decide +kernel
theorem dX0_choose_51 : decode cX0_choose 51 = .ok (.istore 6, 2) := by decide +kernel
theorem dX0_choose_53 : decode cX0_choose 53 = .ok (.iload 6, 2) := by decide +kernel
theorem dX0_choose_55 : decode cX0_choose 55 = .ok (.ifCond .eq 30, 3) := by decide +kernel
theorem dX0_choose_58 : decode cX0_choose 58 = .ok (.iload 4, 2) := by decide +kernel
theorem dX0_choose_60 : decode cX0_choose 60 = .ok (.iconst (-1), 1) := by decide +kernel
theorem dX0_choose_61 : decode cX0_choose 61 = .ok (.if_icmp .eq 20, 3) := by decide +kernel
theorem dX0_choose_64 : decode cX0_choose 64 = .ok (.aload_n 0, 1) := by decide +kernel
theorem dX0_choose_65 : decode cX0_choose 65 = .ok (.getfield 18, 3) := by decide +kernel
theorem dX0_choose_68 : decode cX0_choose 68 = .ok (.iload 5, 2) := by decide +kernel
theorem dX0_choose_70 : decode cX0_choose 70 = .ok (.iaload, 1) := by decide +kernel
theorem dX0_choose_71 : decode cX0_choose 71 = .ok (.aload_n 0, 1) := by decide +kernel
theorem dX0_choose_72 : decode cX0_choose 72 = .ok (.getfield 18, 3) := by decide +kernel
theorem dX0_choose_75 : decode cX0_choose 75 = .ok (.iload 4, 2) := by decide +kernel
theorem dX0_choose_77 : decode cX0_choose 77 = .ok (.iaload, 1) := by decide +kernel
theorem dX0_choose_78 : decode cX0_choose 78 = .ok (.if_icmp .ge 7, 3) := by decide +kernel
theorem dX0_choose_81 : decode cX0_choose 81 = .ok (.iload 5, 2) := by decide +kernel
theorem dX0_choose_83 : decode cX0_choose 83 = .ok (.istore 4, 2) := by decide +kernel
theorem dX0_choose_85 : decode cX0_choose 85 = .ok (.iinc 5 1, 3) := by decide +kernel
theorem dX0_choose_88 : decode cX0_choose 88 = .ok (.goto (-82), 3) := by decide +kernel
theorem dX0_choose_91 : decode cX0_choose 91 = .ok (.aload_n 0, 1) := by decide +kernel
theorem dX0_choose_92 : decode cX0_choose 92 = .ok (.getfield 21, 3) := by decide +kernel
theorem dX0_choose_95 : decode cX0_choose 95 = .ok (.iload_n 1, 1) := by decide +kernel
theorem dX0_choose_96 : decode cX0_choose 96 = .ok (.iload 4, 2) := by decide +kernel
theorem dX0_choose_98 : decode cX0_choose 98 = .ok (.iastore, 1) := by decide +kernel
theorem dX0_choose_99 : decode cX0_choose 99 = .ok (.iload 4, 2) := by decide +kernel
theorem dX0_choose_101 : decode cX0_choose 101 = .ok (.iconst (-1), 1) := by decide +kernel
theorem dX0_choose_102 : decode cX0_choose 102 = .ok (.if_icmp .eq 7, 3) := by decide +kernel
theorem dX0_choose_105 : decode cX0_choose 105 = .ok (.iconst 1, 1) := by decide +kernel
theorem dX0_choose_106 : decode cX0_choose 106 = .ok (.goto 4, 3) := by decide +kernel
theorem dX0_choose_109 : decode cX0_choose 109 = .ok (.iconst 0, 1) := by decide +kernel
theorem dX0_choose_110 : decode cX0_choose 110 = .ok (.ireturn, 1) := by decide +kernel
theorem dX0_canBeUsed_0 : decode cX0_canBeUsed 0 = .ok (.aload_n 0, 1) := by decide +kernel
theorem dX0_canBeUsed_1 : decode cX0_canBeUsed 1 = .ok (.iload_n 1, 1) := by decide +kernel
theorem dX0_canBeUsed_2 : decode cX0_canBeUsed 2 = .ok (.invokevirtual 35, 3) := by decide +kernel
theorem dX0_canBeUsed_5 : decode cX0_canBeUsed 5 = .ok (.ifCond .ne 5, 3) := by decide +kernel
theorem dX0_canBeUsed_8 : decode cX0_canBeUsed 8 = .ok (.iconst 0, 1) := by decide +kernel
theorem dX0_canBeUsed_9 : decode cX0_canBeUsed 9 = .ok (.ireturn, 1) := by decide +kernel
theorem dX0_canBeUsed_10 : decode cX0_canBeUsed 10 = .ok (.aload_n 0, 1) := by decide +kernel
theorem dX0_canBeUsed_11 : decode cX0_canBeUsed 11 = .ok (.getfield 18, 3) := by decide +kernel
theorem dX0_canBeUsed_14 : decode cX0_canBeUsed 14 = .ok (.iload_n 1, 1) := by decide +kernel
theorem dX0_canBeUsed_15 : decode cX0_canBeUsed 15 = .ok (.iaload, 1) := by decide +kernel
theorem dX0_canBeUsed_16 : decode cX0_canBeUsed 16 = .ok (.iconst (-1), 1) := by decide +kernel
theorem dX0_canBeUsed_17 : decode cX0_canBeUsed 17 = .ok (.if_icmp .eq 17, 3) := by decide +kernel
theorem dX0_canBeUsed_20 : decode cX0_canBeUsed 20 = .ok (.iload_n 2, 1) := by decide +kernel
theorem dX0_canBeUsed_21 : decode cX0_canBeUsed 21 = .ok (.aload_n 0, 1) := by decide +kernel
theorem dX0_canBeUsed_22 : decode cX0_canBeUsed 22 = .ok (.getfield 18, 3) := by decide +kernel
theorem dX0_canBeUsed_25 : decode cX0_canBeUsed 25 = .ok (.iload_n 1, 1) := by decide +kernel
theorem dX0_canBeUsed_26 : decode cX0_canBeUsed 26 = .ok (.iaload, 1) := by decide +kernel
theorem dX0_canBeUsed_27 : decode cX0_canBeUsed 27 = .ok (.isub, 1) := by decide +kernel
theorem dX0_canBeUsed_28 : decode cX0_canBeUsed 28 = .ok (.sipush 364, 3) := by decide +kernel
theorem dX0_canBeUsed_31 : decode cX0_canBeUsed 31 = .ok (.if_icmp .le 7, 3) := by decide +kernel
theorem dX0_canBeUsed_34 : decode cX0_canBeUsed 34 = .ok (.iconst 1, 1) := by decide +kernel
theorem dX0_canBeUsed_35 : decode cX0_canBeUsed 35 = .ok (.goto 4, 3) := by decide +kernel
theorem dX0_canBeUsed_38 : decode cX0_canBeUsed 38 = .ok (.iconst 0, 1) := by decide +kernel
theorem dX0_canBeUsed_39 : decode cX0_canBeUsed 39 = .ok (.ireturn, 1) := by decide +kernel
theorem dX0_isChosenAhead_0 : decode cX0_isChosenAhead 0 = .ok (.iconst 0, 1) := by decide +kernel
theorem dX0_isChosenAhead_1 : decode cX0_isChosenAhead 1 = .ok (.istore_n 3, 1) := by decide +kernel
theorem dX0_isChosenAhead_2 : decode cX0_isChosenAhead 2 = .ok (.iload_n 3, 1) := by decide +kernel
theorem dX0_isChosenAhead_3 : decode cX0_isChosenAhead 3 = .ok (.iload_n 2, 1) := by decide +kernel
theorem dX0_isChosenAhead_4 : decode cX0_isChosenAhead 4 = .ok (.if_icmp .ge 21, 3) := by decide +kernel
theorem dX0_isChosenAhead_7 : decode cX0_isChosenAhead 7 = .ok (.aload_n 0, 1) := by decide +kernel
theorem dX0_isChosenAhead_8 : decode cX0_isChosenAhead 8 = .ok (.getfield 21, 3) := by decide +kernel
theorem dX0_isChosenAhead_11 : decode cX0_isChosenAhead 11 = .ok (.iload_n 3, 1) := by decide +kernel
theorem dX0_isChosenAhead_12 : decode cX0_isChosenAhead 12 = .ok (.iaload, 1) := by decide +kernel
theorem dX0_isChosenAhead_13 : decode cX0_isChosenAhead 13 = .ok (.iload_n 1, 1) := by decide +kernel
theorem dX0_isChosenAhead_14 : decode cX0_isChosenAhead 14 = .ok (.if_icmp .ne 5, 3) := by decide +kernel
theorem dX0_isChosenAhead_17 : decode cX0_isChosenAhead 17 = .ok (.iconst 1, 1) := by decide +kernel
theorem dX0_isChosenAhead_18 : decode cX0_isChosenAhead 18 = .ok (.ireturn, 1) := by decide +kernel
theorem dX0_isChosenAhead_19 : decode cX0_isChosenAhead 19 = .ok (.iinc 3 1, 3) := by decide +kernel
theorem dX0_isChosenAhead_22 : decode cX0_isChosenAhead 22 = .ok (.goto (-20), 3) := by decide +kernel
theorem dX0_isChosenAhead_25 : decode cX0_isChosenAhead 25 = .ok (.iconst 0, 1) := by decide +kernel
theorem dX0_isChosenAhead_26 : decode cX0_isChosenAhead 26 = .ok (.ireturn, 1) := by decide +kernel
theorem dX0_useChosen_0 : decode cX0_useChosen 0 = .ok (.iconst 0, 1) := by decide +kernel
theorem dX0_useChosen_1 : decode cX0_useChosen 1 = .ok (.istore_n 2, 1) := by decide +kernel
theorem dX0_useChosen_2 : decode cX0_useChosen 2 = .ok (.iload_n 2, 1) := by decide +kernel
theorem dX0_useChosen_3 : decode cX0_useChosen 3 = .ok (.bipush 6, 2) := by decide +kernel
theorem dX0_useChosen_5 : decode cX0_useChosen 5 = .ok (.if_icmp .ge 21, 3) := by decide +kernel
theorem dX0_useChosen_8 : decode cX0_useChosen 8 = .ok (.aload_n 0, 1) := by decide +kernel
theorem dX0_useChosen_9 : decode cX0_useChosen 9 = .ok (.getfield 18, 3) := by decide +kernel
theorem dX0_useChosen_12 : decode cX0_useChosen 12 = .ok (.aload_n 0, 1) := by decide +kernel
theorem dX0_useChosen_13 : decode cX0_useChosen 13 = .ok (.getfield 21, 3) := by decide +kernel
theorem dX0_useChosen_16 : decode cX0_useChosen 16 = .ok (.iload_n 2, 1) := by decide +kernel
theorem dX0_useChosen_17 : decode cX0_useChosen 17 = .ok (.iaload, 1) := by decide +kernel
theorem dX0_useChosen_18 : decode cX0_useChosen 18 = .ok (.iload_n 1, 1) := by decide +kernel
theorem dX0_useChosen_19 : decode cX0_useChosen 19 = .ok (.iastore, 1) := by decide +kernel
theorem dX0_useChosen_20 : decode cX0_useChosen 20 = .ok (.iinc 2 1, 3) := by decide +kernel
theorem dX0_useChosen_23 : decode cX0_useChosen 23 = .ok (.goto (-21), 3) := by decide +kernel
theorem dX0_useChosen_26 : decode cX0_useChosen 26 = .ok (.return_, 1) := by decide +kernel
theorem dX1_init_0 : decode cX1_init 0 = .ok (.aload_n 0, 1) := by decide +kernel
theorem dX1_init_1 : decode cX1_init 1 = .ok (.invokespecial 3, 3) := by decide +kernel
theorem dX1_init_4 : decode cX1_init 4 = .ok (.aload_n 0, 1) := by decide +kernel
theorem dX1_init_5 : decode cX1_init 5 = .ok (.sipush 1200, 3) := by decide +kernel
theorem dX1_init_8 : decode cX1_init 8 = .ok (.newarray .int, 2) := by decide +kernel
theorem dX1_init_10 : decode cX1_init 10 = .ok (.putfield 9, 3) := by decide +kernel
theorem dX1_init_13 : decode cX1_init 13 = .ok (.aload_n 0, 1) := by decide +kernel
theorem dX1_init_14 : decode cX1_init 14 = .ok (.sipush 1200, 3) := by decide +kernel
theorem dX1_init_17 : decode cX1_init 17 = .ok (.newarray .int, 2) := by decide +kernel
theorem dX1_init_19 : decode cX1_init 19 = .ok (.putfield 15, 3) := by decide +kernel
theorem dX1_init_22 : decode cX1_init 22 = .ok (.aload_n 0, 1) := by decide +kernel
theorem dX1_init_23 : decode cX1_init 23 = .ok (.sipush 1200, 3) := by decide +kernel
theorem dX1_init_26 : decode cX1_init 26 = .ok (.newarray .int, 2) := by decide +kernel
theorem dX1_init_28 : decode cX1_init 28 = .ok (.putfield 18, 3) := by decide +kernel
theorem dX1_init_31 : decode cX1_init 31 = .ok (.aload_n 0, 1) := by decide +kernel
theorem dX1_init_32 : decode cX1_init 32 = .ok (.sipush 1200, 3) := by decide +kernel
theorem dX1_init_35 : decode cX1_init 35 = .ok (.newarray .int, 2) := by decide +kernel
theorem dX1_init_37 : decode cX1_init 37 = .ok (.putfield 21, 3) := by decide +kernel
theorem dX1_init_40 : decode cX1_init 40 = .ok (.return_, 1) := by decide +kernel
theorem dX1_count_0 : decode cX1_count 0 = .ok (.aload_n 0, 1) := by decide +kernel
theorem dX1_count_1 : decode cX1_count 1 = .ok (.getfield 24, 3) := by decide +kernel
theorem dX1_count_4 : decode cX1_count 4 = .ok (.ireturn, 1) := by decide +kernel
theorem dX1_add_0 : decode cX1_add 0 = .ok (.aload_n 0, 1) := by decide +kernel
theorem dX1_add_1 : decode cX1_add 1 = .ok (.getfield 24, 3) := by decide +kernel
theorem dX1_add_4 : decode cX1_add 4 = .ok (.sipush 1200, 3) := by decide +kernel
theorem dX1_add_7 : decode cX1_add 7 = .ok (.if_icmp .ge 54, 3) := by decide +kernel
theorem dX1_add_10 : decode cX1_add 10 = .ok (.aload_n 0, 1) := by decide +kernel
theorem dX1_add_11 : decode cX1_add 11 = .ok (.getfield 9, 3) := by decide +kernel
theorem dX1_add_14 : decode cX1_add 14 = .ok (.aload_n 0, 1) := by decide +kernel
theorem dX1_add_15 : decode cX1_add 15 = .ok (.getfield 24, 3) := by decide +kernel
theorem dX1_add_18 : decode cX1_add 18 = .ok (.iload_n 1, 1) := by decide +kernel
theorem dX1_add_19 : decode cX1_add 19 = .ok (.iastore, 1) := by decide +kernel
theorem dX1_add_20 : decode cX1_add 20 = .ok (.aload_n 0, 1) := by decide +kernel
theorem dX1_add_21 : decode cX1_add 21 = .ok (.getfield 15, 3) := by decide +kernel
theorem dX1_add_24 : decode cX1_add 24 = .ok (.aload_n 0, 1) := by decide +kernel
theorem dX1_add_25 : decode cX1_add 25 = .ok (.getfield 24, 3) := by decide +kernel
theorem dX1_add_28 : decode cX1_add 28 = .ok (.iload_n 2, 1) := by decide +kernel
theorem dX1_add_29 : decode cX1_add 29 = .ok (.iastore, 1) := by decide +kernel
theorem dX1_add_30 : decode cX1_add 30 = .ok (.aload_n 0, 1) := by decide +kernel
theorem dX1_add_31 : decode cX1_add 31 = .ok (.getfield 18, 3) := by decide +kernel
theorem dX1_add_34 : decode cX1_add 34 = .ok (.aload_n 0, 1) := by decide +kernel
theorem dX1_add_35 : decode cX1_add 35 = .ok (.getfield 24, 3) := by decide +kernel
theorem dX1_add_38 : decode cX1_add 38 = .ok (.iload_n 3, 1) := by decide +kernel
theorem dX1_add_39 : decode cX1_add 39 = .ok (.iastore, 1) := by decide +kernel
theorem dX1_add_40 : decode cX1_add 40 = .ok (.aload_n 0, 1) := by decide +kernel
theorem dX1_add_41 : decode cX1_add 41 = .ok (.getfield 21, 3) := by decide +kernel
theorem dX1_add_44 : decode cX1_add 44 = .ok (.aload_n 0, 1) := by decide +kernel
theorem dX1_add_45 : decode cX1_add 45 = .ok (.getfield 24, 3) := by decide +kernel
theorem dX1_add_48 : decode cX1_add 48 = .ok (.iload 4, 2) := by decide +kernel
theorem dX1_add_50 : decode cX1_add 50 = .ok (.iastore, 1) := by decide +kernel
theorem dX1_add_51 : decode cX1_add 51 = .ok (.aload_n 0, 1) := by decide +kernel
theorem dX1_add_52 : decode cX1_add 52 = .ok (.dup, 1) := by decide +kernel
theorem dX1_add_53 : decode cX1_add 53 = .ok (.getfield 24, 3) := by decide +kernel
theorem dX1_add_56 : decode cX1_add 56 = .ok (.iconst 1, 1) := by decide +kernel
theorem dX1_add_57 : decode cX1_add 57 = .ok (.iadd, 1) := by decide +kernel
theorem dX1_add_58 : decode cX1_add 58 = .ok (.putfield 24, 3) := by decide +kernel
theorem dX1_add_61 : decode cX1_add 61 = .ok (.return_, 1) := by decide +kernel
theorem dX1_solver_0 : decode cX1_solver 0 = .ok (.aload_n 0, 1) := by decide +kernel
theorem dX1_solver_1 : decode cX1_solver 1 = .ok (.getfield 9, 3) := by decide +kernel
theorem dX1_solver_4 : decode cX1_solver 4 = .ok (.iload_n 1, 1) := by decide +kernel
theorem dX1_solver_5 : decode cX1_solver 5 = .ok (.iaload, 1) := by decide +kernel
theorem dX1_solver_6 : decode cX1_solver 6 = .ok (.ireturn, 1) := by decide +kernel
theorem dX1_puzzle_0 : decode cX1_puzzle 0 = .ok (.aload_n 0, 1) := by decide +kernel
theorem dX1_puzzle_1 : decode cX1_puzzle 1 = .ok (.getfield 15, 3) := by decide +kernel
theorem dX1_puzzle_4 : decode cX1_puzzle 4 = .ok (.iload_n 1, 1) := by decide +kernel
theorem dX1_puzzle_5 : decode cX1_puzzle 5 = .ok (.iaload, 1) := by decide +kernel
theorem dX1_puzzle_6 : decode cX1_puzzle 6 = .ok (.ireturn, 1) := by decide +kernel
theorem dX1_part_0 : decode cX1_part 0 = .ok (.aload_n 0, 1) := by decide +kernel
theorem dX1_part_1 : decode cX1_part 1 = .ok (.getfield 18, 3) := by decide +kernel
theorem dX1_part_4 : decode cX1_part 4 = .ok (.iload_n 1, 1) := by decide +kernel
theorem dX1_part_5 : decode cX1_part 5 = .ok (.iaload, 1) := by decide +kernel
theorem dX1_part_6 : decode cX1_part 6 = .ok (.ireturn, 1) := by decide +kernel
theorem dX1_hourOf_0 : decode cX1_hourOf 0 = .ok (.aload_n 0, 1) := by decide +kernel
theorem dX1_hourOf_1 : decode cX1_hourOf 1 = .ok (.getfield 21, 3) := by decide +kernel
theorem dX1_hourOf_4 : decode cX1_hourOf 4 = .ok (.iload_n 1, 1) := by decide +kernel
theorem dX1_hourOf_5 : decode cX1_hourOf 5 = .ok (.iaload, 1) := by decide +kernel
theorem dX1_hourOf_6 : decode cX1_hourOf 6 = .ok (.ireturn, 1) := by decide +kernel
theorem dX2_init_0 : decode cX2_init 0 = .ok (.aload_n 0, 1) := by decide +kernel
theorem dX2_init_1 : decode cX2_init 1 = .ok (.invokespecial 3, 3) := by decide +kernel
theorem dX2_init_4 : decode cX2_init 4 = .ok (.aload_n 0, 1) := by decide +kernel
theorem dX2_init_5 : decode cX2_init 5 = .ok (.sipush 180, 3) := by decide +kernel
theorem dX2_init_8 : decode cX2_init 8 = .ok (.newarray .int, 2) := by decide +kernel
theorem dX2_init_10 : decode cX2_init 10 = .ok (.putfield 9, 3) := by decide +kernel
theorem dX2_init_13 : decode cX2_init 13 = .ok (.aload_n 0, 1) := by decide +kernel
theorem dX2_init_14 : decode cX2_init 14 = .ok (.sipush 1252, 3) := by decide +kernel
theorem dX2_init_17 : decode cX2_init 17 = .ok (.newarray .boolean, 2) := by decide +kernel
theorem dX2_init_19 : decode cX2_init 19 = .ok (.putfield 15, 3) := by decide +kernel
theorem dX2_init_22 : decode cX2_init 22 = .ok (.return_, 1) := by decide +kernel
theorem dX2_begin_0 : decode cX2_begin 0 = .ok (.aload_n 0, 1) := by decide +kernel
theorem dX2_begin_1 : decode cX2_begin 1 = .ok (.iload_n 1, 1) := by decide +kernel
theorem dX2_begin_2 : decode cX2_begin 2 = .ok (.putfield 19, 3) := by decide +kernel
theorem dX2_begin_5 : decode cX2_begin 5 = .ok (.aload_n 0, 1) := by decide +kernel
theorem dX2_begin_6 : decode cX2_begin 6 = .ok (.getfield 9, 3) := by decide +kernel
theorem dX2_begin_9 : decode cX2_begin 9 = .ok (.iconst (-1), 1) := by decide +kernel
theorem dX2_begin_10 : decode cX2_begin 10 = .ok (.invokestatic 23, 3) := by decide +kernel
theorem dX2_begin_13 : decode cX2_begin 13 = .ok (.iconst 0, 1) := by decide +kernel
theorem dX2_begin_14 : decode cX2_begin 14 = .ok (.istore_n 2, 1) := by decide +kernel
theorem dX2_begin_15 : decode cX2_begin 15 = .ok (.iload_n 2, 1) := by decide +kernel
theorem dX2_begin_16 : decode cX2_begin 16 = .ok (.sipush 1252, 3) := by decide +kernel
theorem dX2_begin_19 : decode cX2_begin 19 = .ok (.if_icmp .ge 16, 3) := by decide +kernel
theorem dX2_begin_22 : decode cX2_begin 22 = .ok (.aload_n 0, 1) := by decide +kernel
theorem dX2_begin_23 : decode cX2_begin 23 = .ok (.getfield 15, 3) := by decide +kernel
theorem dX2_begin_26 : decode cX2_begin 26 = .ok (.iload_n 2, 1) := by decide +kernel
theorem dX2_begin_27 : decode cX2_begin 27 = .ok (.iconst 0, 1) := by decide +kernel
theorem dX2_begin_28 : decode cX2_begin 28 = .ok (.bastore, 1) := by decide +kernel
theorem dX2_begin_29 : decode cX2_begin 29 = .ok (.iinc 2 1, 3) := by decide +kernel
theorem dX2_begin_32 : decode cX2_begin 32 = .ok (.goto (-17), 3) := by decide +kernel
theorem dX2_begin_35 : decode cX2_begin 35 = .ok (.return_, 1) := by decide +kernel
theorem dX2_hoursAhead_0 : decode cX2_hoursAhead 0 = .ok (.aload_n 0, 1) := by decide +kernel
theorem dX2_hoursAhead_1 : decode cX2_hoursAhead 1 = .ok (.getfield 19, 3) := by decide +kernel
theorem dX2_hoursAhead_4 : decode cX2_hoursAhead 4 = .ok (.ireturn, 1) := by decide +kernel
theorem dX2_isRight_0 : decode cX2_isRight 0 = .ok (.aload_n 0, 1) := by decide +kernel
theorem dX2_isRight_1 : decode cX2_isRight 1 = .ok (.getfield 9, 3) := by decide +kernel
theorem dX2_isRight_4 : decode cX2_isRight 4 = .ok (.iload_n 1, 1) := by decide +kernel
theorem dX2_isRight_5 : decode cX2_isRight 5 = .ok (.bipush 9, 2) := by decide +kernel
theorem dX2_isRight_7 : decode cX2_isRight 7 = .ok (.imul, 1) := by decide +kernel
theorem dX2_isRight_8 : decode cX2_isRight 8 = .ok (.iload_n 2, 1) := by decide +kernel
theorem dX2_isRight_9 : decode cX2_isRight 9 = .ok (.iadd, 1) := by decide +kernel
theorem dX2_isRight_10 : decode cX2_isRight 10 = .ok (.iaload, 1) := by decide +kernel
theorem dX2_isRight_11 : decode cX2_isRight 11 = .ok (.iconst (-1), 1) := by decide +kernel
theorem dX2_isRight_12 : decode cX2_isRight 12 = .ok (.if_icmp .eq 7, 3) := by decide +kernel
theorem dX2_isRight_15 : decode cX2_isRight 15 = .ok (.iconst 1, 1) := by decide +kernel
theorem dX2_isRight_16 : decode cX2_isRight 16 = .ok (.goto 4, 3) := by decide +kernel
theorem dX2_isRight_19 : decode cX2_isRight 19 = .ok (.iconst 0, 1) := by decide +kernel
theorem dX2_isRight_20 : decode cX2_isRight 20 = .ok (.ireturn, 1) := by decide +kernel
theorem dX2_setRight_0 : decode cX2_setRight 0 = .ok (.aload_n 0, 1) := by decide +kernel
theorem dX2_setRight_1 : decode cX2_setRight 1 = .ok (.getfield 9, 3) := by decide +kernel
theorem dX2_setRight_4 : decode cX2_setRight 4 = .ok (.iload_n 1, 1) := by decide +kernel
theorem dX2_setRight_5 : decode cX2_setRight 5 = .ok (.bipush 9, 2) := by decide +kernel
theorem dX2_setRight_7 : decode cX2_setRight 7 = .ok (.imul, 1) := by decide +kernel
theorem dX2_setRight_8 : decode cX2_setRight 8 = .ok (.iload_n 2, 1) := by decide +kernel
theorem dX2_setRight_9 : decode cX2_setRight 9 = .ok (.iadd, 1) := by decide +kernel
theorem dX2_setRight_10 : decode cX2_setRight 10 = .ok (.iload_n 3, 1) := by decide +kernel
theorem dX2_setRight_11 : decode cX2_setRight 11 = .ok (.iastore, 1) := by decide +kernel
theorem dX2_setRight_12 : decode cX2_setRight 12 = .ok (.return_, 1) := by decide +kernel
theorem dX2_solvedHour_0 : decode cX2_solvedHour 0 = .ok (.iconst 0, 1) := by decide +kernel
theorem dX2_solvedHour_1 : decode cX2_solvedHour 1 = .ok (.istore 4, 2) := by decide +kernel
theorem dX2_solvedHour_3 : decode cX2_solvedHour 3 = .ok (.iconst (-1), 1) := by decide +kernel
theorem dX2_solvedHour_4 : decode cX2_solvedHour 4 = .ok (.istore 5, 2) := by decide +kernel
theorem dX2_solvedHour_6 : decode cX2_solvedHour 6 = .ok (.iconst 0, 1) := by decide +kernel
theorem dX2_solvedHour_7 : decode cX2_solvedHour 7 = .ok (.istore 6, 2) := by decide +kernel
theorem dX2_solvedHour_9 : decode cX2_solvedHour 9 = .ok (.iload 6, 2) := by decide +kernel
theorem dX2_solvedHour_11 : decode cX2_solvedHour 11 = .ok (.bipush 9, 2) := by decide +kernel
theorem dX2_solvedHour_13 : decode cX2_solvedHour 13 = .ok (.if_icmp .ge 78, 3) := by decide +kernel
theorem dX2_solvedHour_16 : decode cX2_solvedHour 16 = .ok (.iload_n 2, 1) := by decide +kernel
theorem dX2_solvedHour_17 : decode cX2_solvedHour 17 = .ok (.iload 6, 2) := by decide +kernel
theorem dX2_solvedHour_19 : decode cX2_solvedHour 19 = .ok (.ishr, 1) := by decide +kernel
theorem dX2_solvedHour_20 : decode cX2_solvedHour 20 = .ok (.iconst 1, 1) := by decide +kernel
theorem dX2_solvedHour_21 : decode cX2_solvedHour 21 = .ok (.iand, 1) := by decide +kernel
theorem dX2_solvedHour_22 : decode cX2_solvedHour 22 = .ok (.ifCond .eq 7, 3) := by decide +kernel
theorem dX2_solvedHour_25 : decode cX2_solvedHour 25 = .ok (.iconst 1, 1) := by decide +kernel
theorem dX2_solvedHour_26 : decode cX2_solvedHour 26 = .ok (.goto 4, 3) := by decide +kernel
theorem dX2_solvedHour_29 : decode cX2_solvedHour 29 = .ok (.iconst 0, 1) := by decide +kernel
theorem dX2_solvedHour_30 : decode cX2_solvedHour 30 = .ok (.istore 7, 2) := by decide +kernel
theorem dX2_solvedHour_32 : decode cX2_solvedHour 32 = .ok (.aload_n 0, 1) := by decide +kernel
theorem dX2_solvedHour_33 : decode cX2_solvedHour 33 = .ok (.iload_n 1, 1) := by decide +kernel
theorem dX2_solvedHour_34 : decode cX2_solvedHour 34 = .ok (.iload 6, 2) := by decide +kernel
theorem dX2_solvedHour_36 : decode cX2_solvedHour 36 = .ok (.invokevirtual 29, 3) := by decide +kernel
theorem dX2_solvedHour_39 : decode cX2_solvedHour 39 = .ok (.istore 8, 2) := by decide +kernel
theorem dX2_solvedHour_41 : decode cX2_solvedHour 41 = .ok (.iload 8, 2) := by decide +kernel
theorem dX2_solvedHour_43 : decode cX2_solvedHour 43 = .ok (.ifCond .ne 10, 3) := by decide +kernel
theorem dX2_solvedHour_46 : decode cX2_solvedHour 46 = .ok (.iload 7, 2) := by decide +kernel
theorem dX2_solvedHour_48 : decode cX2_solvedHour 48 = .ok (.ifCond .ne 5, 3) := by decide +kernel
theorem dX2_solvedHour_51 : decode cX2_solvedHour 51 = .ok (.iconst (-1), 1) := by decide +kernel
theorem dX2_solvedHour_52 : decode cX2_solvedHour 52 = .ok (.ireturn, 1) := by decide +kernel
theorem dX2_solvedHour_53 : decode cX2_solvedHour 53 = .ok (.iload 8, 2) := by decide +kernel
theorem dX2_solvedHour_55 : decode cX2_solvedHour 55 = .ok (.ifCond .eq 6, 3) := by decide +kernel
theorem dX2_solvedHour_58 : decode cX2_solvedHour 58 = .ok (.iconst 1, 1) := by decide +kernel
theorem dX2_solvedHour_59 : decode cX2_solvedHour 59 = .ok (.istore 4, 2) := by decide +kernel
theorem dX2_solvedHour_61 : decode cX2_solvedHour 61 = .ok (.iload 7, 2) := by decide +kernel
theorem dX2_solvedHour_63 : decode cX2_solvedHour 63 = .ok (.ifCond .ne 22, 3) := by decide +kernel
theorem dX2_solvedHour_66 : decode cX2_solvedHour 66 = .ok (.iload 5, 2) := by decide +kernel
theorem dX2_solvedHour_68 : decode cX2_solvedHour 68 = .ok (.aload_n 0, 1) := by decide +kernel
theorem dX2_solvedHour_69 : decode cX2_solvedHour 69 = .ok (.getfield 9, 3) := by decide +kernel
theorem dX2_solvedHour_72 : decode cX2_solvedHour 72 = .ok (.iload_n 1, 1) := by decide +kernel
theorem dX2_solvedHour_73 : decode cX2_solvedHour 73 = .ok (.bipush 9, 2) := by decide +kernel
theorem dX2_solvedHour_75 : decode cX2_solvedHour 75 = .ok (.imul, 1) := by decide +kernel
theorem dX2_solvedHour_76 : decode cX2_solvedHour 76 = .ok (.iload 6, 2) := by decide +kernel
theorem dX2_solvedHour_78 : decode cX2_solvedHour 78 = .ok (.iadd, 1) := by decide +kernel
theorem dX2_solvedHour_79 : decode cX2_solvedHour 79 = .ok (.iaload, 1) := by decide +kernel
theorem dX2_solvedHour_80 : decode cX2_solvedHour 80 = .ok (.invokestatic 33, 3) := by decide +kernel
theorem dX2_solvedHour_83 : decode cX2_solvedHour 83 = .ok (.istore 5, 2) := by decide +kernel
theorem dX2_solvedHour_85 : decode cX2_solvedHour 85 = .ok (.iinc 6 1, 3) := by decide +kernel
theorem dX2_solvedHour_88 : decode cX2_solvedHour 88 = .ok (.goto (-79), 3) := by decide +kernel
theorem dX2_solvedHour_91 : decode cX2_solvedHour 91 = .ok (.iload 4, 2) := by decide +kernel
theorem dX2_solvedHour_93 : decode cX2_solvedHour 93 = .ok (.ifCond .ne 5, 3) := by decide +kernel
theorem dX2_solvedHour_96 : decode cX2_solvedHour 96 = .ok (.iconst (-1), 1) := by decide +kernel
theorem dX2_solvedHour_97 : decode cX2_solvedHour 97 = .ok (.ireturn, 1) := by decide +kernel
theorem dX2_solvedHour_98 : decode cX2_solvedHour 98 = .ok (.iload_n 2, 1) := by decide +kernel
theorem dX2_solvedHour_99 : decode cX2_solvedHour 99 = .ok (.sipush 511, 3) := by decide +kernel
theorem dX2_solvedHour_102 : decode cX2_solvedHour 102 = .ok (.if_icmp .ne 7, 3) := by decide +kernel
theorem dX2_solvedHour_105 : decode cX2_solvedHour 105 = .ok (.iload_n 3, 1) := by decide +kernel
theorem dX2_solvedHour_106 : decode cX2_solvedHour 106 = .ok (.goto 5, 3) := by decide +kernel
theorem dX2_solvedHour_109 : decode cX2_solvedHour 109 = .ok (.iload 5, 2) := by decide +kernel
theorem dX2_solvedHour_111 : decode cX2_solvedHour 111 = .ok (.ireturn, 1) := by decide +kernel
theorem dX2_countIfSolved_0 : decode cX2_countIfSolved 0 = .ok (.aload_n 0, 1) := by decide +kernel
theorem dX2_countIfSolved_1 : decode cX2_countIfSolved 1 = .ok (.iload_n 1, 1) := by decide +kernel
theorem dX2_countIfSolved_2 : decode cX2_countIfSolved 2 = .ok (.iload_n 2, 1) := by decide +kernel
theorem dX2_countIfSolved_3 : decode cX2_countIfSolved 3 = .ok (.iload_n 3, 1) := by decide +kernel
theorem dX2_countIfSolved_4 : decode cX2_countIfSolved 4 = .ok (.invokevirtual 39, 3) := by decide +kernel
theorem dX2_countIfSolved_7 : decode cX2_countIfSolved 7 = .ok (.istore 4, 2) := by decide +kernel
theorem dX2_countIfSolved_9 : decode cX2_countIfSolved 9 = .ok (.iload 4, 2) := by decide +kernel
theorem dX2_countIfSolved_11 : decode cX2_countIfSolved 11 = .ok (.iconst (-1), 1) := by decide +kernel
theorem dX2_countIfSolved_12 : decode cX2_countIfSolved 12 = .ok (.if_icmp .eq 15, 3) := by decide +kernel
theorem dX2_countIfSolved_15 : decode cX2_countIfSolved 15 = .ok (.aload_n 0, 1) := by decide +kernel
theorem dX2_countIfSolved_16 : decode cX2_countIfSolved 16 = .ok (.getfield 15, 3) := by decide +kernel
theorem dX2_countIfSolved_19 : decode cX2_countIfSolved 19 = .ok (.aload_n 0, 1) := by decide +kernel
theorem dX2_countIfSolved_20 : decode cX2_countIfSolved 20 = .ok (.iload 4, 2) := by decide +kernel
theorem dX2_countIfSolved_22 : decode cX2_countIfSolved 22 = .ok (.invokevirtual 43, 3) := by decide +kernel
theorem dX2_countIfSolved_25 : decode cX2_countIfSolved 25 = .ok (.iconst 1, 1) := by decide +kernel
theorem dX2_countIfSolved_26 : decode cX2_countIfSolved 26 = .ok (.bastore, 1) := by decide +kernel
theorem dX2_countIfSolved_27 : decode cX2_countIfSolved 27 = .ok (.return_, 1) := by decide +kernel
theorem dX2_daysInARow_0 : decode cX2_daysInARow 0 = .ok (.aload_n 0, 1) := by decide +kernel
theorem dX2_daysInARow_1 : decode cX2_daysInARow 1 = .ok (.iload_n 1, 1) := by decide +kernel
theorem dX2_daysInARow_2 : decode cX2_daysInARow 2 = .ok (.invokevirtual 43, 3) := by decide +kernel
theorem dX2_daysInARow_5 : decode cX2_daysInARow 5 = .ok (.istore_n 2, 1) := by decide +kernel
theorem dX2_daysInARow_6 : decode cX2_daysInARow 6 = .ok (.iconst 0, 1) := by decide +kernel
theorem dX2_daysInARow_7 : decode cX2_daysInARow 7 = .ok (.istore_n 3, 1) := by decide +kernel
theorem dX2_daysInARow_8 : decode cX2_daysInARow 8 = .ok (.aload_n 0, 1) := by decide +kernel
theorem dX2_daysInARow_9 : decode cX2_daysInARow 9 = .ok (.getfield 15, 3) := by decide +kernel
theorem dX2_daysInARow_12 : decode cX2_daysInARow 12 = .ok (.iload_n 2, 1) := by decide +kernel
theorem dX2_daysInARow_13 : decode cX2_daysInARow 13 = .ok (.baload, 1) := by decide +kernel
theorem dX2_daysInARow_14 : decode cX2_daysInARow 14 = .ok (.ifCond .eq 7, 3) := by decide +kernel
theorem dX2_daysInARow_17 : decode cX2_daysInARow 17 = .ok (.iload_n 2, 1) := by decide +kernel
theorem dX2_daysInARow_18 : decode cX2_daysInARow 18 = .ok (.goto 6, 3) := by decide +kernel
theorem dX2_daysInARow_21 : decode cX2_daysInARow 21 = .ok (.iload_n 2, 1) := by decide +kernel
theorem dX2_daysInARow_22 : decode cX2_daysInARow 22 = .ok (.iconst 1, 1) := by decide +kernel
theorem dX2_daysInARow_23 : decode cX2_daysInARow 23 = .ok (.isub, 1) := by decide +kernel
theorem dX2_daysInARow_24 : decode cX2_daysInARow 24 = .ok (.istore 4, 2) := by decide +kernel
theorem dX2_daysInARow_26 : decode cX2_daysInARow 26 = .ok (.iload 4, 2) := by decide +kernel
theorem dX2_daysInARow_28 : decode cX2_daysInARow 28 = .ok (.ifCond .lt 22, 3) := by decide +kernel
theorem dX2_daysInARow_31 : decode cX2_daysInARow 31 = .ok (.aload_n 0, 1) := by decide +kernel
theorem dX2_daysInARow_32 : decode cX2_daysInARow 32 = .ok (.getfield 15, 3) := by decide +kernel
theorem dX2_daysInARow_35 : decode cX2_daysInARow 35 = .ok (.iload 4, 2) := by decide +kernel
theorem dX2_daysInARow_37 : decode cX2_daysInARow 37 = .ok (.baload, 1) := by decide +kernel
theorem dX2_daysInARow_38 : decode cX2_daysInARow 38 = .ok (.ifCond .eq 12, 3) := by decide +kernel
theorem dX2_daysInARow_41 : decode cX2_daysInARow 41 = .ok (.iinc 3 1, 3) := by decide +kernel
theorem dX2_daysInARow_44 : decode cX2_daysInARow 44 = .ok (.iinc 4 (-1), 3) := by decide +kernel
theorem dX2_daysInARow_47 : decode cX2_daysInARow 47 = .ok (.goto (-21), 3) := by decide +kernel
theorem dX2_daysInARow_50 : decode cX2_daysInARow 50 = .ok (.iload_n 3, 1) := by decide +kernel
theorem dX2_daysInARow_51 : decode cX2_daysInARow 51 = .ok (.ireturn, 1) := by decide +kernel
theorem dX2_dayIndex_0 : decode cX2_dayIndex 0 = .ok (.iload_n 1, 1) := by decide +kernel
theorem dX2_dayIndex_1 : decode cX2_dayIndex 1 = .ok (.aload_n 0, 1) := by decide +kernel
theorem dX2_dayIndex_2 : decode cX2_dayIndex 2 = .ok (.getfield 19, 3) := by decide +kernel
theorem dX2_dayIndex_5 : decode cX2_dayIndex 5 = .ok (.iadd, 1) := by decide +kernel
theorem dX2_dayIndex_6 : decode cX2_dayIndex 6 = .ok (.bipush 24, 2) := by decide +kernel
theorem dX2_dayIndex_8 : decode cX2_dayIndex 8 = .ok (.invokestatic 47, 3) := by decide +kernel
theorem dX2_dayIndex_11 : decode cX2_dayIndex 11 = .ok (.iconst (-1), 1) := by decide +kernel
theorem dX2_dayIndex_12 : decode cX2_dayIndex 12 = .ok (.isub, 1) := by decide +kernel
theorem dX2_dayIndex_13 : decode cX2_dayIndex 13 = .ok (.ireturn, 1) := by decide +kernel
theorem dX3_init_0 : decode cX3_init 0 = .ok (.aload_n 0, 1) := by decide +kernel
theorem dX3_init_1 : decode cX3_init 1 = .ok (.invokespecial 3, 3) := by decide +kernel
theorem dX3_init_4 : decode cX3_init 4 = .ok (.aload_n 0, 1) := by decide +kernel
theorem dX3_init_5 : decode cX3_init 5 = .ok (.bipush 9, 2) := by decide +kernel
theorem dX3_init_7 : decode cX3_init 7 = .ok (.newarray .int, 2) := by decide +kernel
theorem dX3_init_9 : decode cX3_init 9 = .ok (.putfield 9, 3) := by decide +kernel
theorem dX3_init_12 : decode cX3_init 12 = .ok (.aload_n 0, 1) := by decide +kernel
theorem dX3_init_13 : decode cX3_init 13 = .ok (.bipush 6, 2) := by decide +kernel
theorem dX3_init_15 : decode cX3_init 15 = .ok (.newarray .int, 2) := by decide +kernel
theorem dX3_init_17 : decode cX3_init 17 = .ok (.putfield 15, 3) := by decide +kernel
theorem dX3_init_20 : decode cX3_init 20 = .ok (.return_, 1) := by decide +kernel
theorem dX3_appear_0 : decode cX3_appear 0 = .ok (.aload_n 0, 1) := by decide +kernel
theorem dX3_appear_1 : decode cX3_appear 1 = .ok (.iload_n 1, 1) := by decide +kernel
theorem dX3_appear_2 : decode cX3_appear 2 = .ok (.putfield 18, 3) := by decide +kernel
theorem dX3_appear_5 : decode cX3_appear 5 = .ok (.return_, 1) := by decide +kernel
theorem dX3_hourOfAppearing_0 : decode cX3_hourOfAppearing 0 = .ok (.aload_n 0, 1) := by decide +kernel
theorem dX3_hourOfAppearing_1 : decode cX3_hourOfAppearing 1 = .ok (.getfield 18, 3) := by decide +kernel
theorem dX3_hourOfAppearing_4 : decode cX3_hourOfAppearing 4 = .ok (.ireturn, 1) := by decide +kernel
theorem dX3_letter_0 : decode cX3_letter 0 = .ok (.aload_n 0, 1) := by decide +kernel
theorem dX3_letter_1 : decode cX3_letter 1 = .ok (.getfield 9, 3) := by decide +kernel
theorem dX3_letter_4 : decode cX3_letter 4 = .ok (.iload_n 1, 1) := by decide +kernel
theorem dX3_letter_5 : decode cX3_letter 5 = .ok (.iaload, 1) := by decide +kernel
theorem dX3_letter_6 : decode cX3_letter 6 = .ok (.ireturn, 1) := by decide +kernel
theorem dX3_setLetter_0 : decode cX3_setLetter 0 = .ok (.aload_n 0, 1) := by decide +kernel
theorem dX3_setLetter_1 : decode cX3_setLetter 1 = .ok (.getfield 9, 3) := by decide +kernel
theorem dX3_setLetter_4 : decode cX3_setLetter 4 = .ok (.iload_n 1, 1) := by decide +kernel
theorem dX3_setLetter_5 : decode cX3_setLetter 5 = .ok (.iload_n 2, 1) := by decide +kernel
theorem dX3_setLetter_6 : decode cX3_setLetter 6 = .ok (.iastore, 1) := by decide +kernel
theorem dX3_setLetter_7 : decode cX3_setLetter 7 = .ok (.return_, 1) := by decide +kernel
theorem dX3_clueNumber_0 : decode cX3_clueNumber 0 = .ok (.aload_n 0, 1) := by decide +kernel
theorem dX3_clueNumber_1 : decode cX3_clueNumber 1 = .ok (.getfield 15, 3) := by decide +kernel
theorem dX3_clueNumber_4 : decode cX3_clueNumber 4 = .ok (.iload_n 1, 1) := by decide +kernel
theorem dX3_clueNumber_5 : decode cX3_clueNumber 5 = .ok (.iaload, 1) := by decide +kernel
theorem dX3_clueNumber_6 : decode cX3_clueNumber 6 = .ok (.ireturn, 1) := by decide +kernel
theorem dX3_setClue_0 : decode cX3_setClue 0 = .ok (.aload_n 0, 1) := by decide +kernel
theorem dX3_setClue_1 : decode cX3_setClue 1 = .ok (.getfield 15, 3) := by decide +kernel
theorem dX3_setClue_4 : decode cX3_setClue 4 = .ok (.iload_n 1, 1) := by decide +kernel
theorem dX3_setClue_5 : decode cX3_setClue 5 = .ok (.iload_n 2, 1) := by decide +kernel
theorem dX3_setClue_6 : decode cX3_setClue 6 = .ok (.iastore, 1) := by decide +kernel
theorem dX3_setClue_7 : decode cX3_setClue 7 = .ok (.return_, 1) := by decide +kernel
theorem dX3_isWrong_0 : decode cX3_isWrong 0 = .ok (.aload_n 0, 1) := by decide +kernel
theorem dX3_isWrong_1 : decode cX3_isWrong 1 = .ok (.getfield 22, 3) := by decide +kernel
theorem dX3_isWrong_4 : decode cX3_isWrong 4 = .ok (.iload_n 1, 1) := by decide +kernel
theorem dX3_isWrong_5 : decode cX3_isWrong 5 = .ok (.ishr, 1) := by decide +kernel
theorem dX3_isWrong_6 : decode cX3_isWrong 6 = .ok (.iconst 1, 1) := by decide +kernel
theorem dX3_isWrong_7 : decode cX3_isWrong 7 = .ok (.iand, 1) := by decide +kernel
theorem dX3_isWrong_8 : decode cX3_isWrong 8 = .ok (.ifCond .eq 7, 3) := by decide +kernel
theorem dX3_isWrong_11 : decode cX3_isWrong 11 = .ok (.iconst 1, 1) := by decide +kernel
theorem dX3_isWrong_12 : decode cX3_isWrong 12 = .ok (.goto 4, 3) := by decide +kernel
theorem dX3_isWrong_15 : decode cX3_isWrong 15 = .ok (.iconst 0, 1) := by decide +kernel
theorem dX3_isWrong_16 : decode cX3_isWrong 16 = .ok (.ireturn, 1) := by decide +kernel
theorem dX3_setWrong_0 : decode cX3_setWrong 0 = .ok (.aload_n 0, 1) := by decide +kernel
theorem dX3_setWrong_1 : decode cX3_setWrong 1 = .ok (.dup, 1) := by decide +kernel
theorem dX3_setWrong_2 : decode cX3_setWrong 2 = .ok (.getfield 22, 3) := by decide +kernel
theorem dX3_setWrong_5 : decode cX3_setWrong 5 = .ok (.iconst 1, 1) := by decide +kernel
theorem dX3_setWrong_6 : decode cX3_setWrong 6 = .ok (.iload_n 1, 1) := by decide +kernel
theorem dX3_setWrong_7 : decode cX3_setWrong 7 = .ok (.ishl, 1) := by decide +kernel
theorem dX3_setWrong_8 : decode cX3_setWrong 8 = .ok (.ior, 1) := by decide +kernel
theorem dX3_setWrong_9 : decode cX3_setWrong 9 = .ok (.putfield 22, 3) := by decide +kernel
theorem dX3_setWrong_12 : decode cX3_setWrong 12 = .ok (.aload_n 0, 1) := by decide +kernel
theorem dX3_setWrong_13 : decode cX3_setWrong 13 = .ok (.dup, 1) := by decide +kernel
theorem dX3_setWrong_14 : decode cX3_setWrong 14 = .ok (.getfield 25, 3) := by decide +kernel
theorem dX3_setWrong_17 : decode cX3_setWrong 17 = .ok (.iload_n 1, 1) := by decide +kernel
theorem dX3_setWrong_18 : decode cX3_setWrong 18 = .ok (.invokestatic 28, 3) := by decide +kernel
theorem dX3_setWrong_21 : decode cX3_setWrong 21 = .ok (.ior, 1) := by decide +kernel
theorem dX3_setWrong_22 : decode cX3_setWrong 22 = .ok (.putfield 25, 3) := by decide +kernel
theorem dX3_setWrong_25 : decode cX3_setWrong 25 = .ok (.return_, 1) := by decide +kernel
theorem dX3_openCells_0 : decode cX3_openCells 0 = .ok (.aload_n 0, 1) := by decide +kernel
theorem dX3_openCells_1 : decode cX3_openCells 1 = .ok (.getfield 25, 3) := by decide +kernel
theorem dX3_openCells_4 : decode cX3_openCells 4 = .ok (.ireturn, 1) := by decide +kernel
theorem dX3_isOpen_0 : decode cX3_isOpen 0 = .ok (.aload_n 0, 1) := by decide +kernel
theorem dX3_isOpen_1 : decode cX3_isOpen 1 = .ok (.getfield 25, 3) := by decide +kernel
theorem dX3_isOpen_4 : decode cX3_isOpen 4 = .ok (.iload_n 1, 1) := by decide +kernel
theorem dX3_isOpen_5 : decode cX3_isOpen 5 = .ok (.ishr, 1) := by decide +kernel
theorem dX3_isOpen_6 : decode cX3_isOpen 6 = .ok (.iconst 1, 1) := by decide +kernel
theorem dX3_isOpen_7 : decode cX3_isOpen 7 = .ok (.iand, 1) := by decide +kernel
theorem dX3_isOpen_8 : decode cX3_isOpen 8 = .ok (.ifCond .eq 7, 3) := by decide +kernel
theorem dX3_isOpen_11 : decode cX3_isOpen 11 = .ok (.iconst 1, 1) := by decide +kernel
theorem dX3_isOpen_12 : decode cX3_isOpen 12 = .ok (.goto 4, 3) := by decide +kernel
theorem dX3_isOpen_15 : decode cX3_isOpen 15 = .ok (.iconst 0, 1) := by decide +kernel
theorem dX3_isOpen_16 : decode cX3_isOpen 16 = .ok (.ireturn, 1) := by decide +kernel
theorem dX4_init_0 : decode cX4_init 0 = .ok (.aload_n 0, 1) := by decide +kernel
theorem dX4_init_1 : decode cX4_init 1 = .ok (.invokespecial 3, 3) := by decide +kernel
theorem dX4_init_4 : decode cX4_init 4 = .ok (.aload_n 0, 1) := by decide +kernel
theorem dX4_init_5 : decode cX4_init 5 = .ok (.new 9, 3) := by decide +kernel
theorem dX4_init_8 : decode cX4_init 8 = .ok (.dup, 1) := by decide +kernel
theorem dX4_init_9 : decode cX4_init 9 = .ok (.invokespecial 11, 3) := by decide +kernel
theorem dX4_init_12 : decode cX4_init 12 = .ok (.putfield 12, 3) := by decide +kernel
theorem dX4_init_15 : decode cX4_init 15 = .ok (.aload_n 0, 1) := by decide +kernel
theorem dX4_init_16 : decode cX4_init 16 = .ok (.sipush 180, 3) := by decide +kernel
theorem dX4_init_19 : decode cX4_init 19 = .ok (.newarray .int, 2) := by decide +kernel
theorem dX4_init_21 : decode cX4_init 21 = .ok (.putfield 18, 3) := by decide +kernel
theorem dX4_init_24 : decode cX4_init 24 = .ok (.aload_n 0, 1) := by decide +kernel
theorem dX4_init_25 : decode cX4_init 25 = .ok (.bipush 20, 2) := by decide +kernel
theorem dX4_init_27 : decode cX4_init 27 = .ok (.newarray .int, 2) := by decide +kernel
theorem dX4_init_29 : decode cX4_init 29 = .ok (.putfield 22, 3) := by decide +kernel
theorem dX4_init_32 : decode cX4_init 32 = .ok (.return_, 1) := by decide +kernel
theorem dX4_join_0 : decode cX4_join 0 = .ok (.aload_n 0, 1) := by decide +kernel
theorem dX4_join_1 : decode cX4_join 1 = .ok (.getfield 12, 3) := by decide +kernel
theorem dX4_join_4 : decode cX4_join 4 = .ok (.iload_n 1, 1) := by decide +kernel
theorem dX4_join_5 : decode cX4_join 5 = .ok (.invokevirtual 25, 3) := by decide +kernel
theorem dX4_join_8 : decode cX4_join 8 = .ok (.aload_n 0, 1) := by decide +kernel
theorem dX4_join_9 : decode cX4_join 9 = .ok (.iload_n 2, 1) := by decide +kernel
theorem dX4_join_10 : decode cX4_join 10 = .ok (.putfield 29, 3) := by decide +kernel
theorem dX4_join_13 : decode cX4_join 13 = .ok (.return_, 1) := by decide +kernel
theorem dX4_progress_0 : decode cX4_progress 0 = .ok (.aload_n 0, 1) := by decide +kernel
theorem dX4_progress_1 : decode cX4_progress 1 = .ok (.getfield 12, 3) := by decide +kernel
theorem dX4_progress_4 : decode cX4_progress 4 = .ok (.areturn, 1) := by decide +kernel
theorem dX4_purse_0 : decode cX4_purse 0 = .ok (.aload_n 0, 1) := by decide +kernel
theorem dX4_purse_1 : decode cX4_purse 1 = .ok (.getfield 29, 3) := by decide +kernel
theorem dX4_purse_4 : decode cX4_purse 4 = .ok (.ireturn, 1) := by decide +kernel
theorem dX4_canPayHelp_0 : decode cX4_canPayHelp 0 = .ok (.aload_n 0, 1) := by decide +kernel
theorem dX4_canPayHelp_1 : decode cX4_canPayHelp 1 = .ok (.getfield 29, 3) := by decide +kernel
theorem dX4_canPayHelp_4 : decode cX4_canPayHelp 4 = .ok (.aload_n 0, 1) := by decide +kernel
theorem dX4_canPayHelp_5 : decode cX4_canPayHelp 5 = .ok (.iload_n 1, 1) := by decide +kernel
theorem dX4_canPayHelp_6 : decode cX4_canPayHelp 6 = .ok (.invokevirtual 33, 3) := by decide +kernel
theorem dX4_canPayHelp_9 : decode cX4_canPayHelp 9 = .ok (.if_icmp .lt 7, 3) := by decide +kernel
theorem dX4_canPayHelp_12 : decode cX4_canPayHelp 12 = .ok (.iconst 1, 1) := by decide +kernel
theorem dX4_canPayHelp_13 : decode cX4_canPayHelp 13 = .ok (.goto 4, 3) := by decide +kernel
theorem dX4_canPayHelp_16 : decode cX4_canPayHelp 16 = .ok (.iconst 0, 1) := by decide +kernel
theorem dX4_canPayHelp_17 : decode cX4_canPayHelp 17 = .ok (.ireturn, 1) := by decide +kernel
theorem dX4_payHelp_0 : decode cX4_payHelp 0 = .ok (.aload_n 0, 1) := by decide +kernel
theorem dX4_payHelp_1 : decode cX4_payHelp 1 = .ok (.iload_n 1, 1) := by decide +kernel
theorem dX4_payHelp_2 : decode cX4_payHelp 2 = .ok (.invokevirtual 33, 3) := by decide +kernel
theorem dX4_payHelp_5 : decode cX4_payHelp 5 = .ok (.istore_n 3, 1) := by decide +kernel
theorem dX4_payHelp_6 : decode cX4_payHelp 6 = .ok (.aload_n 0, 1) := by decide +kernel
theorem dX4_payHelp_7 : decode cX4_payHelp 7 = .ok (.dup, 1) := by decide +kernel
theorem dX4_payHelp_8 : decode cX4_payHelp 8 = .ok (.getfield 29, 3) := by decide +kernel
theorem dX4_payHelp_11 : decode cX4_payHelp 11 = .ok (.iload_n 3, 1) := by decide +kernel
theorem dX4_payHelp_12 : decode cX4_payHelp 12 = .ok (.isub, 1) := by decide +kernel
theorem dX4_payHelp_13 : decode cX4_payHelp 13 = .ok (.putfield 29, 3) := by decide +kernel
theorem dX4_payHelp_16 : decode cX4_payHelp 16 = .ok (.aload_n 0, 1) := by decide +kernel
theorem dX4_payHelp_17 : decode cX4_payHelp 17 = .ok (.getfield 18, 3) := by decide +kernel
theorem dX4_payHelp_20 : decode cX4_payHelp 20 = .ok (.iload_n 1, 1) := by decide +kernel
theorem dX4_payHelp_21 : decode cX4_payHelp 21 = .ok (.bipush 9, 2) := by decide +kernel
theorem dX4_payHelp_23 : decode cX4_payHelp 23 = .ok (.imul, 1) := by decide +kernel
theorem dX4_payHelp_24 : decode cX4_payHelp 24 = .ok (.iload_n 2, 1) := by decide +kernel
theorem dX4_payHelp_25 : decode cX4_payHelp 25 = .ok (.iadd, 1) := by decide +kernel
theorem dX4_payHelp_26 : decode cX4_payHelp 26 = .ok (.iload_n 3, 1) := by decide +kernel
theorem dX4_payHelp_27 : decode cX4_payHelp 27 = .ok (.iastore, 1) := by decide +kernel
theorem dX4_payHelp_28 : decode cX4_payHelp 28 = .ok (.aload_n 0, 1) := by decide +kernel
theorem dX4_payHelp_29 : decode cX4_payHelp 29 = .ok (.getfield 22, 3) := by decide +kernel
theorem dX4_payHelp_32 : decode cX4_payHelp 32 = .ok (.iload_n 1, 1) := by decide +kernel
theorem dX4_payHelp_33 : decode cX4_payHelp 33 = .ok (.dup2, 1) := by decide +kernel
theorem dX4_payHelp_34 : decode cX4_payHelp 34 = .ok (.iaload, 1) := by decide +kernel
theorem dX4_payHelp_35 : decode cX4_payHelp 35 = .ok (.iconst 1, 1) := by decide +kernel
theorem dX4_payHelp_36 : decode cX4_payHelp 36 = .ok (.iadd, 1) := by decide +kernel
theorem dX4_payHelp_37 : decode cX4_payHelp 37 = .ok (.iastore, 1) := by decide +kernel
theorem dX4_payHelp_38 : decode cX4_payHelp 38 = .ok (.return_, 1) := by decide +kernel
theorem dX4_payBack_0 : decode cX4_payBack 0 = .ok (.iconst 0, 1) := by decide +kernel
theorem dX4_payBack_1 : decode cX4_payBack 1 = .ok (.istore_n 3, 1) := by decide +kernel
theorem dX4_payBack_2 : decode cX4_payBack 2 = .ok (.iload_n 3, 1) := by decide +kernel
theorem dX4_payBack_3 : decode cX4_payBack 3 = .ok (.bipush 9, 2) := by decide +kernel
theorem dX4_payBack_5 : decode cX4_payBack 5 = .ok (.if_icmp .ge 37, 3) := by decide +kernel
theorem dX4_payBack_8 : decode cX4_payBack 8 = .ok (.iload_n 2, 1) := by decide +kernel
theorem dX4_payBack_9 : decode cX4_payBack 9 = .ok (.iload_n 3, 1) := by decide +kernel
theorem dX4_payBack_10 : decode cX4_payBack 10 = .ok (.ishr, 1) := by decide +kernel
theorem dX4_payBack_11 : decode cX4_payBack 11 = .ok (.iconst 1, 1) := by decide +kernel
theorem dX4_payBack_12 : decode cX4_payBack 12 = .ok (.iand, 1) := by decide +kernel
theorem dX4_payBack_13 : decode cX4_payBack 13 = .ok (.ifCond .eq 23, 3) := by decide +kernel
theorem dX4_payBack_16 : decode cX4_payBack 16 = .ok (.aload_n 0, 1) := by decide +kernel
theorem dX4_payBack_17 : decode cX4_payBack 17 = .ok (.dup, 1) := by decide +kernel
theorem dX4_payBack_18 : decode cX4_payBack 18 = .ok (.getfield 29, 3) := by decide +kernel
theorem dX4_payBack_21 : decode cX4_payBack 21 = .ok (.aload_n 0, 1) := by decide +kernel
theorem dX4_payBack_22 : decode cX4_payBack 22 = .ok (.getfield 18, 3) := by decide +kernel
theorem dX4_payBack_25 : decode cX4_payBack 25 = .ok (.iload_n 1, 1) := by decide +kernel
theorem dX4_payBack_26 : decode cX4_payBack 26 = .ok (.bipush 9, 2) := by decide +kernel
theorem dX4_payBack_28 : decode cX4_payBack 28 = .ok (.imul, 1) := by decide +kernel
theorem dX4_payBack_29 : decode cX4_payBack 29 = .ok (.iload_n 3, 1) := by decide +kernel
theorem dX4_payBack_30 : decode cX4_payBack 30 = .ok (.iadd, 1) := by decide +kernel
theorem dX4_payBack_31 : decode cX4_payBack 31 = .ok (.iaload, 1) := by decide +kernel
theorem dX4_payBack_32 : decode cX4_payBack 32 = .ok (.iadd, 1) := by decide +kernel
theorem dX4_payBack_33 : decode cX4_payBack 33 = .ok (.putfield 29, 3) := by decide +kernel
theorem dX4_payBack_36 : decode cX4_payBack 36 = .ok (.iinc 3 1, 3) := by decide +kernel
theorem dX4_payBack_39 : decode cX4_payBack 39 = .ok (.goto (-37), 3) := by decide +kernel
theorem dX4_payBack_42 : decode cX4_payBack 42 = .ok (.return_, 1) := by decide +kernel
theorem dX4_cost_0 : decode cX4_cost 0 = .ok (.iconst 5, 1) := by decide +kernel
theorem dX4_cost_1 : decode cX4_cost 1 = .ok (.istore_n 2, 1) := by decide +kernel
theorem dX4_cost_2 : decode cX4_cost 2 = .ok (.iconst 0, 1) := by decide +kernel
theorem dX4_cost_3 : decode cX4_cost 3 = .ok (.istore_n 3, 1) := by decide +kernel
theorem dX4_cost_4 : decode cX4_cost 4 = .ok (.iload_n 3, 1) := by decide +kernel
theorem dX4_cost_5 : decode cX4_cost 5 = .ok (.aload_n 0, 1) := by decide +kernel
theorem dX4_cost_6 : decode cX4_cost 6 = .ok (.getfield 22, 3) := by decide +kernel
theorem dX4_cost_9 : decode cX4_cost 9 = .ok (.iload_n 1, 1) := by decide +kernel
theorem dX4_cost_10 : decode cX4_cost 10 = .ok (.iaload, 1) := by decide +kernel
theorem dX4_cost_11 : decode cX4_cost 11 = .ok (.if_icmp .ge 18, 3) := by decide +kernel
theorem dX4_cost_14 : decode cX4_cost 14 = .ok (.iconst 2, 1) := by decide +kernel
theorem dX4_cost_15 : decode cX4_cost 15 = .ok (.iload_n 2, 1) := by decide +kernel
theorem dX4_cost_16 : decode cX4_cost 16 = .ok (.imul, 1) := by decide +kernel
theorem dX4_cost_17 : decode cX4_cost 17 = .ok (.bipush 40, 2) := by decide +kernel
theorem dX4_cost_19 : decode cX4_cost 19 = .ok (.invokestatic 37, 3) := by decide +kernel
theorem dX4_cost_22 : decode cX4_cost 22 = .ok (.istore_n 2, 1) := by decide +kernel
theorem dX4_cost_23 : decode cX4_cost 23 = .ok (.iinc 3 1, 3) := by decide +kernel
theorem dX4_cost_26 : decode cX4_cost 26 = .ok (.goto (-22), 3) := by decide +kernel
theorem dX4_cost_29 : decode cX4_cost 29 = .ok (.iload_n 2, 1) := by decide +kernel
theorem dX4_cost_30 : decode cX4_cost 30 = .ok (.ireturn, 1) := by decide +kernel
theorem dX5_init_0 : decode cX5_init 0 = .ok (.aload_n 0, 1) := by decide +kernel
theorem dX5_init_1 : decode cX5_init 1 = .ok (.invokespecial 3, 3) := by decide +kernel
theorem dX5_init_4 : decode cX5_init 4 = .ok (.aload_n 0, 1) := by decide +kernel
theorem dX5_init_5 : decode cX5_init 5 = .ok (.iconst 3, 1) := by decide +kernel
theorem dX5_init_6 : decode cX5_init 6 = .ok (.newarray .int, 2) := by decide +kernel
theorem dX5_init_8 : decode cX5_init 8 = .ok (.putfield 9, 3) := by decide +kernel
theorem dX5_init_11 : decode cX5_init 11 = .ok (.return_, 1) := by decide +kernel
theorem dX5_isFull_0 : decode cX5_isFull 0 = .ok (.aload_n 0, 1) := by decide +kernel
theorem dX5_isFull_1 : decode cX5_isFull 1 = .ok (.getfield 15, 3) := by decide +kernel
theorem dX5_isFull_4 : decode cX5_isFull 4 = .ok (.iconst 3, 1) := by decide +kernel
theorem dX5_isFull_5 : decode cX5_isFull 5 = .ok (.if_icmp .lt 7, 3) := by decide +kernel
theorem dX5_isFull_8 : decode cX5_isFull 8 = .ok (.iconst 1, 1) := by decide +kernel
theorem dX5_isFull_9 : decode cX5_isFull 9 = .ok (.goto 4, 3) := by decide +kernel
theorem dX5_isFull_12 : decode cX5_isFull 12 = .ok (.iconst 0, 1) := by decide +kernel
theorem dX5_isFull_13 : decode cX5_isFull 13 = .ok (.ireturn, 1) := by decide +kernel
theorem dX5_letterCount_0 : decode cX5_letterCount 0 = .ok (.aload_n 0, 1) := by decide +kernel
theorem dX5_letterCount_1 : decode cX5_letterCount 1 = .ok (.getfield 15, 3) := by decide +kernel
theorem dX5_letterCount_4 : decode cX5_letterCount 4 = .ok (.ireturn, 1) := by decide +kernel
theorem dX5_putAtEnd_0 : decode cX5_putAtEnd 0 = .ok (.aload_n 0, 1) := by decide +kernel
theorem dX5_putAtEnd_1 : decode cX5_putAtEnd 1 = .ok (.getfield 9, 3) := by decide +kernel
theorem dX5_putAtEnd_4 : decode cX5_putAtEnd 4 = .ok (.aload_n 0, 1) := by decide +kernel
theorem dX5_putAtEnd_5 : decode cX5_putAtEnd 5 = .ok (.getfield 15, 3) := by decide +kernel
theorem dX5_putAtEnd_8 : decode cX5_putAtEnd 8 = .ok (.iload_n 1, 1) := by decide +kernel
theorem dX5_putAtEnd_9 : decode cX5_putAtEnd 9 = .ok (.iastore, 1) := by decide +kernel
theorem dX5_putAtEnd_10 : decode cX5_putAtEnd 10 = .ok (.aload_n 0, 1) := by decide +kernel
theorem dX5_putAtEnd_11 : decode cX5_putAtEnd 11 = .ok (.dup, 1) := by decide +kernel
theorem dX5_putAtEnd_12 : decode cX5_putAtEnd 12 = .ok (.getfield 15, 3) := by decide +kernel
theorem dX5_putAtEnd_15 : decode cX5_putAtEnd 15 = .ok (.iconst 1, 1) := by decide +kernel
theorem dX5_putAtEnd_16 : decode cX5_putAtEnd 16 = .ok (.iadd, 1) := by decide +kernel
theorem dX5_putAtEnd_17 : decode cX5_putAtEnd 17 = .ok (.putfield 15, 3) := by decide +kernel
theorem dX5_putAtEnd_20 : decode cX5_putAtEnd 20 = .ok (.return_, 1) := by decide +kernel
theorem dX5_putAtBeginning_0 : decode cX5_putAtBeginning 0 = .ok (.aload_n 0, 1) := by decide +kernel
theorem dX5_putAtBeginning_1 : decode cX5_putAtBeginning 1 = .ok (.getfield 15, 3) := by decide +kernel
theorem dX5_putAtBeginning_4 : decode cX5_putAtBeginning 4 = .ok (.istore_n 2, 1) := by decide +kernel
theorem dX5_putAtBeginning_5 : decode cX5_putAtBeginning 5 = .ok (.iload_n 2, 1) := by decide +kernel
theorem dX5_putAtBeginning_6 : decode cX5_putAtBeginning 6 = .ok (.ifCond .le 23, 3) := by decide +kernel
theorem dX5_putAtBeginning_9 : decode cX5_putAtBeginning 9 = .ok (.aload_n 0, 1) := by decide +kernel
theorem dX5_putAtBeginning_10 : decode cX5_putAtBeginning 10 = .ok (.getfield 9, 3) := by decide +kernel
theorem dX5_putAtBeginning_13 : decode cX5_putAtBeginning 13 = .ok (.iload_n 2, 1) := by decide +kernel
theorem dX5_putAtBeginning_14 : decode cX5_putAtBeginning 14 = .ok (.aload_n 0, 1) := by decide +kernel
theorem dX5_putAtBeginning_15 : decode cX5_putAtBeginning 15 = .ok (.getfield 9, 3) := by decide +kernel
theorem dX5_putAtBeginning_18 : decode cX5_putAtBeginning 18 = .ok (.iload_n 2, 1) := by decide +kernel
theorem dX5_putAtBeginning_19 : decode cX5_putAtBeginning 19 = .ok (.iconst 1, 1) := by decide +kernel
theorem dX5_putAtBeginning_20 : decode cX5_putAtBeginning 20 = .ok (.isub, 1) := by decide +kernel
theorem dX5_putAtBeginning_21 : decode cX5_putAtBeginning 21 = .ok (.iaload, 1) := by decide +kernel
theorem dX5_putAtBeginning_22 : decode cX5_putAtBeginning 22 = .ok (.iastore, 1) := by decide +kernel
theorem dX5_putAtBeginning_23 : decode cX5_putAtBeginning 23 = .ok (.iinc 2 (-1), 3) := by decide +kernel
theorem dX5_putAtBeginning_26 : decode cX5_putAtBeginning 26 = .ok (.goto (-21), 3) := by decide +kernel
theorem dX5_putAtBeginning_29 : decode cX5_putAtBeginning 29 = .ok (.aload_n 0, 1) := by decide +kernel
theorem dX5_putAtBeginning_30 : decode cX5_putAtBeginning 30 = .ok (.getfield 9, 3) := by decide +kernel
theorem dX5_putAtBeginning_33 : decode cX5_putAtBeginning 33 = .ok (.iconst 0, 1) := by decide +kernel
theorem dX5_putAtBeginning_34 : decode cX5_putAtBeginning 34 = .ok (.iload_n 1, 1) := by decide +kernel
theorem dX5_putAtBeginning_35 : decode cX5_putAtBeginning 35 = .ok (.iastore, 1) := by decide +kernel
theorem dX5_putAtBeginning_36 : decode cX5_putAtBeginning 36 = .ok (.aload_n 0, 1) := by decide +kernel
theorem dX5_putAtBeginning_37 : decode cX5_putAtBeginning 37 = .ok (.dup, 1) := by decide +kernel
theorem dX5_putAtBeginning_38 : decode cX5_putAtBeginning 38 = .ok (.getfield 15, 3) := by decide +kernel
theorem dX5_putAtBeginning_41 : decode cX5_putAtBeginning 41 = .ok (.iconst 1, 1) := by decide +kernel
theorem dX5_putAtBeginning_42 : decode cX5_putAtBeginning 42 = .ok (.iadd, 1) := by decide +kernel
theorem dX5_putAtBeginning_43 : decode cX5_putAtBeginning 43 = .ok (.putfield 15, 3) := by decide +kernel
theorem dX5_putAtBeginning_46 : decode cX5_putAtBeginning 46 = .ok (.return_, 1) := by decide +kernel
theorem dX5_reverse_0 : decode cX5_reverse 0 = .ok (.aload_n 0, 1) := by decide +kernel
theorem dX5_reverse_1 : decode cX5_reverse 1 = .ok (.getfield 15, 3) := by decide +kernel
theorem dX5_reverse_4 : decode cX5_reverse 4 = .ok (.iconst 1, 1) := by decide +kernel
theorem dX5_reverse_5 : decode cX5_reverse 5 = .ok (.if_icmp .le 39, 3) := by decide +kernel
theorem dX5_reverse_8 : decode cX5_reverse 8 = .ok (.aload_n 0, 1) := by decide +kernel
theorem dX5_reverse_9 : decode cX5_reverse 9 = .ok (.getfield 9, 3) := by decide +kernel
theorem dX5_reverse_12 : decode cX5_reverse 12 = .ok (.iconst 0, 1) := by decide +kernel
theorem dX5_reverse_13 : decode cX5_reverse 13 = .ok (.iaload, 1) := by decide +kernel
theorem dX5_reverse_14 : decode cX5_reverse 14 = .ok (.istore_n 1, 1) := by decide +kernel
theorem dX5_reverse_15 : decode cX5_reverse 15 = .ok (.aload_n 0, 1) := by decide +kernel
theorem dX5_reverse_16 : decode cX5_reverse 16 = .ok (.getfield 9, 3) := by decide +kernel
theorem dX5_reverse_19 : decode cX5_reverse 19 = .ok (.iconst 0, 1) := by decide +kernel
theorem dX5_reverse_20 : decode cX5_reverse 20 = .ok (.aload_n 0, 1) := by decide +kernel
theorem dX5_reverse_21 : decode cX5_reverse 21 = .ok (.getfield 9, 3) := by decide +kernel
theorem dX5_reverse_24 : decode cX5_reverse 24 = .ok (.aload_n 0, 1) := by decide +kernel
theorem dX5_reverse_25 : decode cX5_reverse 25 = .ok (.getfield 15, 3) := by decide +kernel
theorem dX5_reverse_28 : decode cX5_reverse 28 = .ok (.iconst 1, 1) := by decide +kernel
theorem dX5_reverse_29 : decode cX5_reverse 29 = .ok (.isub, 1) := by decide +kernel
theorem dX5_reverse_30 : decode cX5_reverse 30 = .ok (.iaload, 1) := by decide +kernel
theorem dX5_reverse_31 : decode cX5_reverse 31 = .ok (.iastore, 1) := by decide +kernel
theorem dX5_reverse_32 : decode cX5_reverse 32 = .ok (.aload_n 0, 1) := by decide +kernel
theorem dX5_reverse_33 : decode cX5_reverse 33 = .ok (.getfield 9, 3) := by decide +kernel
theorem dX5_reverse_36 : decode cX5_reverse 36 = .ok (.aload_n 0, 1) := by decide +kernel
theorem dX5_reverse_37 : decode cX5_reverse 37 = .ok (.getfield 15, 3) := by decide +kernel
theorem dX5_reverse_40 : decode cX5_reverse 40 = .ok (.iconst 1, 1) := by decide +kernel
theorem dX5_reverse_41 : decode cX5_reverse 41 = .ok (.isub, 1) := by decide +kernel
theorem dX5_reverse_42 : decode cX5_reverse 42 = .ok (.iload_n 1, 1) := by decide +kernel
theorem dX5_reverse_43 : decode cX5_reverse 43 = .ok (.iastore, 1) := by decide +kernel
theorem dX5_reverse_44 : decode cX5_reverse 44 = .ok (.return_, 1) := by decide +kernel
theorem dX5_empty_0 : decode cX5_empty 0 = .ok (.aload_n 0, 1) := by decide +kernel
theorem dX5_empty_1 : decode cX5_empty 1 = .ok (.iconst 0, 1) := by decide +kernel
theorem dX5_empty_2 : decode cX5_empty 2 = .ok (.putfield 15, 3) := by decide +kernel
theorem dX5_empty_5 : decode cX5_empty 5 = .ok (.return_, 1) := by decide +kernel
theorem dX5_charCount_0 : decode cX5_charCount 0 = .ok (.iconst 0, 1) := by decide +kernel
theorem dX5_charCount_1 : decode cX5_charCount 1 = .ok (.istore_n 1, 1) := by decide +kernel
theorem dX5_charCount_2 : decode cX5_charCount 2 = .ok (.iconst 0, 1) := by decide +kernel
theorem dX5_charCount_3 : decode cX5_charCount 3 = .ok (.istore_n 2, 1) := by decide +kernel
theorem dX5_charCount_4 : decode cX5_charCount 4 = .ok (.iload_n 2, 1) := by decide +kernel
theorem dX5_charCount_5 : decode cX5_charCount 5 = .ok (.aload_n 0, 1) := by decide +kernel
theorem dX5_charCount_6 : decode cX5_charCount 6 = .ok (.getfield 15, 3) := by decide +kernel
theorem dX5_charCount_9 : decode cX5_charCount 9 = .ok (.if_icmp .ge 21, 3) := by decide +kernel
theorem dX5_charCount_12 : decode cX5_charCount 12 = .ok (.iload_n 1, 1) := by decide +kernel
theorem dX5_charCount_13 : decode cX5_charCount 13 = .ok (.aload_n 0, 1) := by decide +kernel
theorem dX5_charCount_14 : decode cX5_charCount 14 = .ok (.getfield 9, 3) := by decide +kernel
theorem dX5_charCount_17 : decode cX5_charCount 17 = .ok (.iload_n 2, 1) := by decide +kernel
theorem dX5_charCount_18 : decode cX5_charCount 18 = .ok (.iaload, 1) := by decide +kernel
theorem dX5_charCount_19 : decode cX5_charCount 19 = .ok (.invokestatic 19, 3) := by decide +kernel
theorem dX5_charCount_22 : decode cX5_charCount 22 = .ok (.iadd, 1) := by decide +kernel
theorem dX5_charCount_23 : decode cX5_charCount 23 = .ok (.istore_n 1, 1) := by decide +kernel
theorem dX5_charCount_24 : decode cX5_charCount 24 = .ok (.iinc 2 1, 3) := by decide +kernel
theorem dX5_charCount_27 : decode cX5_charCount 27 = .ok (.goto (-23), 3) := by decide +kernel
theorem dX5_charCount_30 : decode cX5_charCount 30 = .ok (.iload_n 1, 1) := by decide +kernel
theorem dX5_charCount_31 : decode cX5_charCount 31 = .ok (.ireturn, 1) := by decide +kernel
theorem dX5_charOrNone_0 : decode cX5_charOrNone 0 = .ok (.iload_n 1, 1) := by decide +kernel
theorem dX5_charOrNone_1 : decode cX5_charOrNone 1 = .ok (.ifCond .ge 5, 3) := by decide +kernel
theorem dX5_charOrNone_4 : decode cX5_charOrNone 4 = .ok (.iconst (-1), 1) := by decide +kernel
theorem dX5_charOrNone_5 : decode cX5_charOrNone 5 = .ok (.ireturn, 1) := by decide +kernel
theorem dX5_charOrNone_6 : decode cX5_charOrNone 6 = .ok (.iconst 0, 1) := by decide +kernel
theorem dX5_charOrNone_7 : decode cX5_charOrNone 7 = .ok (.istore_n 2, 1) := by decide +kernel
theorem dX5_charOrNone_8 : decode cX5_charOrNone 8 = .ok (.iconst 0, 1) := by decide +kernel
theorem dX5_charOrNone_9 : decode cX5_charOrNone 9 = .ok (.istore_n 3, 1) := by decide +kernel
theorem dX5_charOrNone_10 : decode cX5_charOrNone 10 = .ok (.iload_n 3, 1) := by decide +kernel
theorem dX5_charOrNone_11 : decode cX5_charOrNone 11 = .ok (.aload_n 0, 1) := by decide +kernel
theorem dX5_charOrNone_12 : decode cX5_charOrNone 12 = .ok (.getfield 15, 3) := by decide +kernel
theorem dX5_charOrNone_15 : decode cX5_charOrNone 15 = .ok (.if_icmp .ge 44, 3) := by decide +kernel
theorem dX5_charOrNone_18 : decode cX5_charOrNone 18 = .ok (.iload_n 2, 1) := by decide +kernel
theorem dX5_charOrNone_19 : decode cX5_charOrNone 19 = .ok (.aload_n 0, 1) := by decide +kernel
theorem dX5_charOrNone_20 : decode cX5_charOrNone 20 = .ok (.getfield 9, 3) := by decide +kernel
theorem dX5_charOrNone_23 : decode cX5_charOrNone 23 = .ok (.iload_n 3, 1) := by decide +kernel
theorem dX5_charOrNone_24 : decode cX5_charOrNone 24 = .ok (.iaload, 1) := by decide +kernel
theorem dX5_charOrNone_25 : decode cX5_charOrNone 25 = .ok (.invokestatic 19, 3) := by decide +kernel
theorem dX5_charOrNone_28 : decode cX5_charOrNone 28 = .ok (.iadd, 1) := by decide +kernel
theorem dX5_charOrNone_29 : decode cX5_charOrNone 29 = .ok (.istore 4, 2) := by decide +kernel
theorem dX5_charOrNone_31 : decode cX5_charOrNone 31 = .ok (.iload_n 1, 1) := by decide +kernel
theorem dX5_charOrNone_32 : decode cX5_charOrNone 32 = .ok (.iload 4, 2) := by decide +kernel
theorem dX5_charOrNone_34 : decode cX5_charOrNone 34 = .ok (.if_icmp .ge 16, 3) := by decide +kernel
theorem dX5_charOrNone_37 : decode cX5_charOrNone 37 = .ok (.aload_n 0, 1) := by decide +kernel
theorem dX5_charOrNone_38 : decode cX5_charOrNone 38 = .ok (.getfield 9, 3) := by decide +kernel
theorem dX5_charOrNone_41 : decode cX5_charOrNone 41 = .ok (.iload_n 3, 1) := by decide +kernel
theorem dX5_charOrNone_42 : decode cX5_charOrNone 42 = .ok (.iaload, 1) := by decide +kernel
theorem dX5_charOrNone_43 : decode cX5_charOrNone 43 = .ok (.iload_n 1, 1) := by decide +kernel
theorem dX5_charOrNone_44 : decode cX5_charOrNone 44 = .ok (.iload_n 2, 1) := by decide +kernel
theorem dX5_charOrNone_45 : decode cX5_charOrNone 45 = .ok (.isub, 1) := by decide +kernel
theorem dX5_charOrNone_46 : decode cX5_charOrNone 46 = .ok (.invokestatic 23, 3) := by decide +kernel
theorem dX5_charOrNone_49 : decode cX5_charOrNone 49 = .ok (.ireturn, 1) := by decide +kernel
theorem dX5_charOrNone_50 : decode cX5_charOrNone 50 = .ok (.iload 4, 2) := by decide +kernel
theorem dX5_charOrNone_52 : decode cX5_charOrNone 52 = .ok (.istore_n 2, 1) := by decide +kernel
theorem dX5_charOrNone_53 : decode cX5_charOrNone 53 = .ok (.iinc 3 1, 3) := by decide +kernel
theorem dX5_charOrNone_56 : decode cX5_charOrNone 56 = .ok (.goto (-46), 3) := by decide +kernel
theorem dX5_charOrNone_59 : decode cX5_charOrNone 59 = .ok (.iconst (-1), 1) := by decide +kernel
theorem dX5_charOrNone_60 : decode cX5_charOrNone 60 = .ok (.ireturn, 1) := by decide +kernel
theorem dX5_code_0 : decode cX5_code 0 = .ok (.iconst 1, 1) := by decide +kernel
theorem dX5_code_1 : decode cX5_code 1 = .ok (.istore_n 1, 1) := by decide +kernel
theorem dX5_code_2 : decode cX5_code 2 = .ok (.iconst 0, 1) := by decide +kernel
theorem dX5_code_3 : decode cX5_code 3 = .ok (.istore_n 2, 1) := by decide +kernel
theorem dX5_code_4 : decode cX5_code 4 = .ok (.iload_n 2, 1) := by decide +kernel
theorem dX5_code_5 : decode cX5_code 5 = .ok (.aload_n 0, 1) := by decide +kernel
theorem dX5_code_6 : decode cX5_code 6 = .ok (.getfield 15, 3) := by decide +kernel
theorem dX5_code_9 : decode cX5_code 9 = .ok (.if_icmp .ge 21, 3) := by decide +kernel
theorem dX5_code_12 : decode cX5_code 12 = .ok (.iload_n 1, 1) := by decide +kernel
theorem dX5_code_13 : decode cX5_code 13 = .ok (.bipush 9, 2) := by decide +kernel
theorem dX5_code_15 : decode cX5_code 15 = .ok (.imul, 1) := by decide +kernel
theorem dX5_code_16 : decode cX5_code 16 = .ok (.aload_n 0, 1) := by decide +kernel
theorem dX5_code_17 : decode cX5_code 17 = .ok (.getfield 9, 3) := by decide +kernel
theorem dX5_code_20 : decode cX5_code 20 = .ok (.iload_n 2, 1) := by decide +kernel
theorem dX5_code_21 : decode cX5_code 21 = .ok (.iaload, 1) := by decide +kernel
theorem dX5_code_22 : decode cX5_code 22 = .ok (.iadd, 1) := by decide +kernel
theorem dX5_code_23 : decode cX5_code 23 = .ok (.istore_n 1, 1) := by decide +kernel
theorem dX5_code_24 : decode cX5_code 24 = .ok (.iinc 2 1, 3) := by decide +kernel
theorem dX5_code_27 : decode cX5_code 27 = .ok (.goto (-23), 3) := by decide +kernel
theorem dX5_code_30 : decode cX5_code 30 = .ok (.iload_n 1, 1) := by decide +kernel
theorem dX5_code_31 : decode cX5_code 31 = .ok (.ireturn, 1) := by decide +kernel
theorem dX5_width_0 : decode cX5_width 0 = .ok (.iload_n 0, 1) := by decide +kernel
theorem dX5_width_1 : decode cX5_width 1 = .ok (.bipush 8, 2) := by decide +kernel
theorem dX5_width_3 : decode cX5_width 3 = .ok (.if_icmp .ne 7, 3) := by decide +kernel
theorem dX5_width_6 : decode cX5_width 6 = .ok (.iconst 2, 1) := by decide +kernel
theorem dX5_width_7 : decode cX5_width 7 = .ok (.goto 4, 3) := by decide +kernel
theorem dX5_width_10 : decode cX5_width 10 = .ok (.iconst 1, 1) := by decide +kernel
theorem dX5_width_11 : decode cX5_width 11 = .ok (.ireturn, 1) := by decide +kernel
theorem dX5_charOf_0 : decode cX5_charOf 0 = .ok (.iload_n 0, 1) := by decide +kernel
theorem dX5_charOf_1 : decode cX5_charOf 1 = .ok (.bipush 8, 2) := by decide +kernel
theorem dX5_charOf_3 : decode cX5_charOf 3 = .ok (.if_icmp .eq 8, 3) := by decide +kernel
theorem dX5_charOf_6 : decode cX5_charOf 6 = .ok (.bipush 97, 2) := by decide +kernel
theorem dX5_charOf_8 : decode cX5_charOf 8 = .ok (.iload_n 0, 1) := by decide +kernel
theorem dX5_charOf_9 : decode cX5_charOf 9 = .ok (.iadd, 1) := by decide +kernel
theorem dX5_charOf_10 : decode cX5_charOf 10 = .ok (.ireturn, 1) := by decide +kernel
theorem dX5_charOf_11 : decode cX5_charOf 11 = .ok (.iload_n 1, 1) := by decide +kernel
theorem dX5_charOf_12 : decode cX5_charOf 12 = .ok (.ifCond .ne 8, 3) := by decide +kernel
theorem dX5_charOf_15 : decode cX5_charOf 15 = .ok (.ldc 27, 2) := by decide +kernel
theorem dX5_charOf_17 : decode cX5_charOf 17 = .ok (.goto 5, 3) := by decide +kernel
theorem dX5_charOf_20 : decode cX5_charOf 20 = .ok (.ldc 28, 2) := by decide +kernel
theorem dX5_charOf_22 : decode cX5_charOf 22 = .ok (.ireturn, 1) := by decide +kernel
theorem dX6_init_0 : decode cX6_init 0 = .ok (.aload_n 0, 1) := by decide +kernel
theorem dX6_init_1 : decode cX6_init 1 = .ok (.invokespecial 3, 3) := by decide +kernel
theorem dX6_init_4 : decode cX6_init 4 = .ok (.aload_n 0, 1) := by decide +kernel
theorem dX6_init_5 : decode cX6_init 5 = .ok (.bipush 9, 2) := by decide +kernel
theorem dX6_init_7 : decode cX6_init 7 = .ok (.newarray .int, 2) := by decide +kernel
theorem dX6_init_9 : decode cX6_init 9 = .ok (.putfield 9, 3) := by decide +kernel
theorem dX6_init_12 : decode cX6_init 12 = .ok (.aload_n 0, 1) := by decide +kernel
theorem dX6_init_13 : decode cX6_init 13 = .ok (.iconst 3, 1) := by decide +kernel
theorem dX6_init_14 : decode cX6_init 14 = .ok (.newarray .int, 2) := by decide +kernel
theorem dX6_init_16 : decode cX6_init 16 = .ok (.putfield 15, 3) := by decide +kernel
theorem dX6_init_19 : decode cX6_init 19 = .ok (.aload_n 0, 1) := by decide +kernel
theorem dX6_init_20 : decode cX6_init 20 = .ok (.iconst 3, 1) := by decide +kernel
theorem dX6_init_21 : decode cX6_init 21 = .ok (.newarray .int, 2) := by decide +kernel
theorem dX6_init_23 : decode cX6_init 23 = .ok (.putfield 18, 3) := by decide +kernel
theorem dX6_init_26 : decode cX6_init 26 = .ok (.aload_n 0, 1) := by decide +kernel
theorem dX6_init_27 : decode cX6_init 27 = .ok (.getfield 9, 3) := by decide +kernel
theorem dX6_init_30 : decode cX6_init 30 = .ok (.iconst (-1), 1) := by decide +kernel
theorem dX6_init_31 : decode cX6_init 31 = .ok (.invokestatic 21, 3) := by decide +kernel
theorem dX6_init_34 : decode cX6_init 34 = .ok (.return_, 1) := by decide +kernel
theorem dX6_fixedLetter_0 : decode cX6_fixedLetter 0 = .ok (.aload_n 0, 1) := by decide +kernel
theorem dX6_fixedLetter_1 : decode cX6_fixedLetter 1 = .ok (.getfield 9, 3) := by decide +kernel
theorem dX6_fixedLetter_4 : decode cX6_fixedLetter 4 = .ok (.iload_n 1, 1) := by decide +kernel
theorem dX6_fixedLetter_5 : decode cX6_fixedLetter 5 = .ok (.iaload, 1) := by decide +kernel
theorem dX6_fixedLetter_6 : decode cX6_fixedLetter 6 = .ok (.ireturn, 1) := by decide +kernel
theorem dX6_setFixed_0 : decode cX6_setFixed 0 = .ok (.aload_n 0, 1) := by decide +kernel
theorem dX6_setFixed_1 : decode cX6_setFixed 1 = .ok (.getfield 9, 3) := by decide +kernel
theorem dX6_setFixed_4 : decode cX6_setFixed 4 = .ok (.iload_n 1, 1) := by decide +kernel
theorem dX6_setFixed_5 : decode cX6_setFixed 5 = .ok (.iload_n 2, 1) := by decide +kernel
theorem dX6_setFixed_6 : decode cX6_setFixed 6 = .ok (.iastore, 1) := by decide +kernel
theorem dX6_setFixed_7 : decode cX6_setFixed 7 = .ok (.return_, 1) := by decide +kernel
theorem dX6_bestWeight_0 : decode cX6_bestWeight 0 = .ok (.aload_n 0, 1) := by decide +kernel
theorem dX6_bestWeight_1 : decode cX6_bestWeight 1 = .ok (.getfield 27, 3) := by decide +kernel
theorem dX6_bestWeight_4 : decode cX6_bestWeight 4 = .ok (.ireturn, 1) := by decide +kernel
theorem dX6_foundCount_0 : decode cX6_foundCount 0 = .ok (.aload_n 0, 1) := by decide +kernel
theorem dX6_foundCount_1 : decode cX6_foundCount 1 = .ok (.getfield 31, 3) := by decide +kernel
theorem dX6_foundCount_4 : decode cX6_foundCount 4 = .ok (.ireturn, 1) := by decide +kernel
theorem dX6_search_0 : decode cX6_search 0 = .ok (.aload_n 0, 1) := by decide +kernel
theorem dX6_search_1 : decode cX6_search 1 = .ok (.iconst (-1), 1) := by decide +kernel
theorem dX6_search_2 : decode cX6_search 2 = .ok (.putfield 27, 3) := by decide +kernel
theorem dX6_search_5 : decode cX6_search 5 = .ok (.aload_n 0, 1) := by decide +kernel
theorem dX6_search_6 : decode cX6_search 6 = .ok (.iconst 0, 1) := by decide +kernel
theorem dX6_search_7 : decode cX6_search 7 = .ok (.putfield 31, 3) := by decide +kernel
theorem dX6_search_10 : decode cX6_search 10 = .ok (.iconst 0, 1) := by decide +kernel
theorem dX6_search_11 : decode cX6_search 11 = .ok (.istore_n 2, 1) := by decide +kernel
theorem dX6_search_12 : decode cX6_search 12 = .ok (.iload_n 2, 1) := by decide +kernel
theorem dX6_search_13 : decode cX6_search 13 = .ok (.aload_n 1, 1) := by decide +kernel
theorem dX6_search_14 : decode cX6_search 14 = .ok (.invokevirtual 34, 3) := by decide +kernel
theorem dX6_search_17 : decode cX6_search 17 = .ok (.if_icmp .ge 101, 3) := by decide +kernel
theorem dX6_search_20 : decode cX6_search 20 = .ok (.aload_n 0, 1) := by decide +kernel
theorem dX6_search_21 : decode cX6_search 21 = .ok (.aload_n 1, 1) := by decide +kernel
theorem dX6_search_22 : decode cX6_search 22 = .ok (.iconst 0, 1) := by decide +kernel
theorem dX6_search_23 : decode cX6_search 23 = .ok (.aload_n 1, 1) := by decide +kernel
theorem dX6_search_24 : decode cX6_search 24 = .ok (.iload_n 2, 1) := by decide +kernel
theorem dX6_search_25 : decode cX6_search 25 = .ok (.invokevirtual 40, 3) := by decide +kernel
theorem dX6_search_28 : decode cX6_search 28 = .ok (.invokevirtual 44, 3) := by decide +kernel
theorem dX6_search_31 : decode cX6_search 31 = .ok (.ifCond .ne 6, 3) := by decide +kernel
theorem dX6_search_34 : decode cX6_search 34 = .ok (.goto 78, 3) := by decide +kernel
theorem dX6_search_37 : decode cX6_search 37 = .ok (.iconst 0, 1) := by decide +kernel
theorem dX6_search_38 : decode cX6_search 38 = .ok (.istore_n 3, 1) := by decide +kernel
theorem dX6_search_39 : decode cX6_search 39 = .ok (.iload_n 3, 1) := by decide +kernel
theorem dX6_search_40 : decode cX6_search 40 = .ok (.aload_n 1, 1) := by decide +kernel
theorem dX6_search_41 : decode cX6_search 41 = .ok (.invokevirtual 34, 3) := by decide +kernel
theorem dX6_search_44 : decode cX6_search 44 = .ok (.if_icmp .ge 68, 3) := by decide +kernel
theorem dX6_search_47 : decode cX6_search 47 = .ok (.aload_n 0, 1) := by decide +kernel
theorem dX6_search_48 : decode cX6_search 48 = .ok (.aload_n 1, 1) := by decide +kernel
theorem dX6_search_49 : decode cX6_search 49 = .ok (.iconst 1, 1) := by decide +kernel
theorem dX6_search_50 : decode cX6_search 50 = .ok (.aload_n 1, 1) := by decide +kernel
theorem dX6_search_51 : decode cX6_search 51 = .ok (.iload_n 3, 1) := by decide +kernel
theorem dX6_search_52 : decode cX6_search 52 = .ok (.invokevirtual 40, 3) := by decide +kernel
theorem dX6_search_55 : decode cX6_search 55 = .ok (.invokevirtual 44, 3) := by decide +kernel
theorem dX6_search_58 : decode cX6_search 58 = .ok (.ifCond .ne 6, 3) := by decide +kernel
theorem dX6_search_61 : decode cX6_search 61 = .ok (.goto 45, 3) := by decide +kernel
theorem dX6_search_64 : decode cX6_search 64 = .ok (.iconst 0, 1) := by decide +kernel
theorem dX6_search_65 : decode cX6_search 65 = .ok (.istore 4, 2) := by decide +kernel
theorem dX6_search_67 : decode cX6_search 67 = .ok (.iload 4, 2) := by decide +kernel
theorem dX6_search_69 : decode cX6_search 69 = .ok (.aload_n 1, 1) := by decide +kernel
theorem dX6_search_70 : decode cX6_search 70 = .ok (.invokevirtual 34, 3) := by decide +kernel
theorem dX6_search_73 : decode cX6_search 73 = .ok (.if_icmp .ge 33, 3) := by decide +kernel
theorem dX6_search_76 : decode cX6_search 76 = .ok (.aload_n 0, 1) := by decide +kernel
theorem dX6_search_77 : decode cX6_search 77 = .ok (.aload_n 1, 1) := by decide +kernel
theorem dX6_search_78 : decode cX6_search 78 = .ok (.iconst 2, 1) := by decide +kernel
theorem dX6_search_79 : decode cX6_search 79 = .ok (.aload_n 1, 1) := by decide +kernel
theorem dX6_search_80 : decode cX6_search 80 = .ok (.iload 4, 2) := by decide +kernel
theorem dX6_search_82 : decode cX6_search 82 = .ok (.invokevirtual 40, 3) := by decide +kernel
theorem dX6_search_85 : decode cX6_search 85 = .ok (.invokevirtual 44, 3) := by decide +kernel
theorem dX6_search_88 : decode cX6_search 88 = .ok (.ifCond .eq 12, 3) := by decide +kernel
theorem dX6_search_91 : decode cX6_search 91 = .ok (.aload_n 0, 1) := by decide +kernel
theorem dX6_search_92 : decode cX6_search 92 = .ok (.aload_n 0, 1) := by decide +kernel
theorem dX6_search_93 : decode cX6_search 93 = .ok (.aload_n 1, 1) := by decide +kernel
theorem dX6_search_94 : decode cX6_search 94 = .ok (.invokevirtual 48, 3) := by decide +kernel
theorem dX6_search_97 : decode cX6_search 97 = .ok (.invokevirtual 52, 3) := by decide +kernel
theorem dX6_search_100 : decode cX6_search 100 = .ok (.iinc 4 1, 3) := by decide +kernel
theorem dX6_search_103 : decode cX6_search 103 = .ok (.goto (-36), 3) := by decide +kernel
theorem dX6_search_106 : decode cX6_search 106 = .ok (.iinc 3 1, 3) := by decide +kernel
theorem dX6_search_109 : decode cX6_search 109 = .ok (.goto (-70), 3) := by decide +kernel
theorem dX6_search_112 : decode cX6_search 112 = .ok (.iinc 2 1, 3) := by decide +kernel
theorem dX6_search_115 : decode cX6_search 115 = .ok (.goto (-103), 3) := by decide +kernel
theorem dX6_search_118 : decode cX6_search 118 = .ok (.return_, 1) := by decide +kernel
theorem dX6_canStand_0 : decode cX6_canStand 0 = .ok (.aload_n 0, 1) := by decide +kernel
theorem dX6_canStand_1 : decode cX6_canStand 1 = .ok (.getfield 15, 3) := by decide +kernel
theorem dX6_canStand_4 : decode cX6_canStand 4 = .ok (.iload_n 2, 1) := by decide +kernel
theorem dX6_canStand_5 : decode cX6_canStand 5 = .ok (.iload_n 3, 1) := by decide +kernel
theorem dX6_canStand_6 : decode cX6_canStand 6 = .ok (.iastore, 1) := by decide +kernel
theorem dX6_canStand_7 : decode cX6_canStand 7 = .ok (.aload_n 0, 1) := by decide +kernel
theorem dX6_canStand_8 : decode cX6_canStand 8 = .ok (.aload_n 1, 1) := by decide +kernel
theorem dX6_canStand_9 : decode cX6_canStand 9 = .ok (.iload_n 2, 1) := by decide +kernel
theorem dX6_canStand_10 : decode cX6_canStand 10 = .ok (.invokevirtual 56, 3) := by decide +kernel
theorem dX6_canStand_13 : decode cX6_canStand 13 = .ok (.ifCond .ne 5, 3) := by decide +kernel
theorem dX6_canStand_16 : decode cX6_canStand 16 = .ok (.iconst 0, 1) := by decide +kernel
theorem dX6_canStand_17 : decode cX6_canStand 17 = .ok (.ireturn, 1) := by decide +kernel
theorem dX6_canStand_18 : decode cX6_canStand 18 = .ok (.iconst 0, 1) := by decide +kernel
theorem dX6_canStand_19 : decode cX6_canStand 19 = .ok (.istore 4, 2) := by decide +kernel
theorem dX6_canStand_21 : decode cX6_canStand 21 = .ok (.iload 4, 2) := by decide +kernel
theorem dX6_canStand_23 : decode cX6_canStand 23 = .ok (.iconst 3, 1) := by decide +kernel
theorem dX6_canStand_24 : decode cX6_canStand 24 = .ok (.if_icmp .ge 31, 3) := by decide +kernel
theorem dX6_canStand_27 : decode cX6_canStand 27 = .ok (.aload_n 1, 1) := by decide +kernel
theorem dX6_canStand_28 : decode cX6_canStand 28 = .ok (.aload_n 1, 1) := by decide +kernel
theorem dX6_canStand_29 : decode cX6_canStand 29 = .ok (.aload_n 0, 1) := by decide +kernel
theorem dX6_canStand_30 : decode cX6_canStand 30 = .ok (.getfield 15, 3) := by decide +kernel
theorem dX6_canStand_33 : decode cX6_canStand 33 = .ok (.iload 4, 2) := by decide +kernel
theorem dX6_canStand_35 : decode cX6_canStand 35 = .ok (.iload_n 2, 1) := by decide +kernel
theorem dX6_canStand_36 : decode cX6_canStand 36 = .ok (.iconst 1, 1) := by decide +kernel
theorem dX6_canStand_37 : decode cX6_canStand 37 = .ok (.iadd, 1) := by decide +kernel
theorem dX6_canStand_38 : decode cX6_canStand 38 = .ok (.invokestatic 60, 3) := by decide +kernel
theorem dX6_canStand_41 : decode cX6_canStand 41 = .ok (.invokevirtual 64, 3) := by decide +kernel
theorem dX6_canStand_44 : decode cX6_canStand 44 = .ok (.ifCond .ne 5, 3) := by decide +kernel
theorem dX6_canStand_47 : decode cX6_canStand 47 = .ok (.iconst 0, 1) := by decide +kernel
theorem dX6_canStand_48 : decode cX6_canStand 48 = .ok (.ireturn, 1) := by decide +kernel
theorem dX6_canStand_49 : decode cX6_canStand 49 = .ok (.iinc 4 1, 3) := by decide +kernel
theorem dX6_canStand_52 : decode cX6_canStand 52 = .ok (.goto (-31), 3) := by decide +kernel
theorem dX6_canStand_55 : decode cX6_canStand 55 = .ok (.iconst 1, 1) := by decide +kernel
theorem dX6_canStand_56 : decode cX6_canStand 56 = .ok (.ireturn, 1) := by decide +kernel
theorem dX6_keep_0 : decode cX6_keep 0 = .ok (.aload_n 0, 1) := by decide +kernel
theorem dX6_keep_1 : decode cX6_keep 1 = .ok (.dup, 1) := by decide +kernel
theorem dX6_keep_2 : decode cX6_keep 2 = .ok (.getfield 31, 3) := by decide +kernel
theorem dX6_keep_5 : decode cX6_keep 5 = .ok (.iconst 1, 1) := by decide +kernel
theorem dX6_keep_6 : decode cX6_keep 6 = .ok (.iadd, 1) := by decide +kernel
theorem dX6_keep_7 : decode cX6_keep 7 = .ok (.putfield 31, 3) := by decide +kernel
theorem dX6_keep_10 : decode cX6_keep 10 = .ok (.iload_n 1, 1) := by decide +kernel
theorem dX6_keep_11 : decode cX6_keep 11 = .ok (.aload_n 0, 1) := by decide +kernel
theorem dX6_keep_12 : decode cX6_keep 12 = .ok (.getfield 27, 3) := by decide +kernel
theorem dX6_keep_15 : decode cX6_keep 15 = .ok (.if_icmp .le 33, 3) := by decide +kernel
theorem dX6_keep_18 : decode cX6_keep 18 = .ok (.aload_n 0, 1) := by decide +kernel
theorem dX6_keep_19 : decode cX6_keep 19 = .ok (.iload_n 1, 1) := by decide +kernel
theorem dX6_keep_20 : decode cX6_keep 20 = .ok (.putfield 27, 3) := by decide +kernel
theorem dX6_keep_23 : decode cX6_keep 23 = .ok (.iconst 0, 1) := by decide +kernel
theorem dX6_keep_24 : decode cX6_keep 24 = .ok (.istore_n 2, 1) := by decide +kernel
theorem dX6_keep_25 : decode cX6_keep 25 = .ok (.iload_n 2, 1) := by decide +kernel
theorem dX6_keep_26 : decode cX6_keep 26 = .ok (.iconst 3, 1) := by decide +kernel
theorem dX6_keep_27 : decode cX6_keep 27 = .ok (.if_icmp .ge 21, 3) := by decide +kernel
theorem dX6_keep_30 : decode cX6_keep 30 = .ok (.aload_n 0, 1) := by decide +kernel
theorem dX6_keep_31 : decode cX6_keep 31 = .ok (.getfield 18, 3) := by decide +kernel
theorem dX6_keep_34 : decode cX6_keep 34 = .ok (.iload_n 2, 1) := by decide +kernel
theorem dX6_keep_35 : decode cX6_keep 35 = .ok (.aload_n 0, 1) := by decide +kernel
theorem dX6_keep_36 : decode cX6_keep 36 = .ok (.getfield 15, 3) := by decide +kernel
theorem dX6_keep_39 : decode cX6_keep 39 = .ok (.iload_n 2, 1) := by decide +kernel
theorem dX6_keep_40 : decode cX6_keep 40 = .ok (.iaload, 1) := by decide +kernel
theorem dX6_keep_41 : decode cX6_keep 41 = .ok (.iastore, 1) := by decide +kernel
theorem dX6_keep_42 : decode cX6_keep 42 = .ok (.iinc 2 1, 3) := by decide +kernel
theorem dX6_keep_45 : decode cX6_keep 45 = .ok (.goto (-20), 3) := by decide +kernel
theorem dX6_keep_48 : decode cX6_keep 48 = .ok (.return_, 1) := by decide +kernel
theorem dX6_greatestWeightOfAll_0 : decode cX6_greatestWeightOfAll 0 = .ok (.iconst (-1), 1) := by decide +kernel
theorem dX6_greatestWeightOfAll_1 : decode cX6_greatestWeightOfAll 1 = .ok (.istore_n 2, 1) := by decide +kernel
theorem dX6_greatestWeightOfAll_2 : decode cX6_greatestWeightOfAll 2 = .ok (.iconst 0, 1) := by decide +kernel
theorem dX6_greatestWeightOfAll_3 : decode cX6_greatestWeightOfAll 3 = .ok (.istore_n 3, 1) := by decide +kernel
theorem dX6_greatestWeightOfAll_4 : decode cX6_greatestWeightOfAll 4 = .ok (.iload_n 3, 1) := by decide +kernel
theorem dX6_greatestWeightOfAll_5 : decode cX6_greatestWeightOfAll 5 = .ok (.aload_n 1, 1) := by decide +kernel
theorem dX6_greatestWeightOfAll_6 : decode cX6_greatestWeightOfAll 6 = .ok (.invokevirtual 34, 3) := by decide +kernel
theorem dX6_greatestWeightOfAll_9 : decode cX6_greatestWeightOfAll 9 = .ok (.if_icmp .ge 78, 3) := by decide +kernel
theorem dX6_greatestWeightOfAll_12 : decode cX6_greatestWeightOfAll 12 = .ok (.iconst 0, 1) := by decide +kernel
theorem dX6_greatestWeightOfAll_13 : decode cX6_greatestWeightOfAll 13 = .ok (.istore 4, 2) := by decide +kernel
theorem dX6_greatestWeightOfAll_15 : decode cX6_greatestWeightOfAll 15 = .ok (.iload 4, 2) := by decide +kernel
theorem dX6_greatestWeightOfAll_17 : decode cX6_greatestWeightOfAll 17 = .ok (.aload_n 1, 1) := by decide +kernel
theorem dX6_greatestWeightOfAll_18 : decode cX6_greatestWeightOfAll 18 = .ok (.invokevirtual 34, 3) := by decide +kernel
theorem dX6_greatestWeightOfAll_21 : decode cX6_greatestWeightOfAll 21 = .ok (.if_icmp .ge 60, 3) := by decide +kernel
theorem dX6_greatestWeightOfAll_24 : decode cX6_greatestWeightOfAll 24 = .ok (.iconst 0, 1) := by decide +kernel
theorem dX6_greatestWeightOfAll_25 : decode cX6_greatestWeightOfAll 25 = .ok (.istore 5, 2) := by decide +kernel
theorem dX6_greatestWeightOfAll_27 : decode cX6_greatestWeightOfAll 27 = .ok (.iload 5, 2) := by decide +kernel
theorem dX6_greatestWeightOfAll_29 : decode cX6_greatestWeightOfAll 29 = .ok (.aload_n 1, 1) := by decide +kernel
theorem dX6_greatestWeightOfAll_30 : decode cX6_greatestWeightOfAll 30 = .ok (.invokevirtual 34, 3) := by decide +kernel
theorem dX6_greatestWeightOfAll_33 : decode cX6_greatestWeightOfAll 33 = .ok (.if_icmp .ge 42, 3) := by decide +kernel
theorem dX6_greatestWeightOfAll_36 : decode cX6_greatestWeightOfAll 36 = .ok (.aload_n 0, 1) := by decide +kernel
theorem dX6_greatestWeightOfAll_37 : decode cX6_greatestWeightOfAll 37 = .ok (.getfield 15, 3) := by decide +kernel
theorem dX6_greatestWeightOfAll_40 : decode cX6_greatestWeightOfAll 40 = .ok (.iconst 0, 1) := by decide +kernel
theorem dX6_greatestWeightOfAll_41 : decode cX6_greatestWeightOfAll 41 = .ok (.iload_n 3, 1) := by decide +kernel
theorem dX6_greatestWeightOfAll_42 : decode cX6_greatestWeightOfAll 42 = .ok (.iastore, 1) := by decide +kernel
theorem dX6_greatestWeightOfAll_43 : decode cX6_greatestWeightOfAll 43 = .ok (.aload_n 0, 1) := by decide +kernel
theorem dX6_greatestWeightOfAll_44 : decode cX6_greatestWeightOfAll 44 = .ok (.getfield 15, 3) := by decide +kernel
theorem dX6_greatestWeightOfAll_47 : decode cX6_greatestWeightOfAll 47 = .ok (.iconst 1, 1) := by decide +kernel
theorem dX6_greatestWeightOfAll_48 : decode cX6_greatestWeightOfAll 48 = .ok (.iload 4, 2) := by decide +kernel
theorem dX6_greatestWeightOfAll_50 : decode cX6_greatestWeightOfAll 50 = .ok (.iastore, 1) := by decide +kernel
theorem dX6_greatestWeightOfAll_51 : decode cX6_greatestWeightOfAll 51 = .ok (.aload_n 0, 1) := by decide +kernel
theorem dX6_greatestWeightOfAll_52 : decode cX6_greatestWeightOfAll 52 = .ok (.getfield 15, 3) := by decide +kernel
theorem dX6_greatestWeightOfAll_55 : decode cX6_greatestWeightOfAll 55 = .ok (.iconst 2, 1) := by decide +kernel
theorem dX6_greatestWeightOfAll_56 : decode cX6_greatestWeightOfAll 56 = .ok (.iload 5, 2) := by decide +kernel
theorem dX6_greatestWeightOfAll_58 : decode cX6_greatestWeightOfAll 58 = .ok (.iastore, 1) := by decide +kernel
theorem dX6_greatestWeightOfAll_59 : decode cX6_greatestWeightOfAll 59 = .ok (.iload_n 2, 1) := by decide +kernel
theorem dX6_greatestWeightOfAll_60 : decode cX6_greatestWeightOfAll 60 = .ok (.aload_n 0, 1) := by decide +kernel
theorem dX6_greatestWeightOfAll_61 : decode cX6_greatestWeightOfAll 61 = .ok (.aload_n 1, 1) := by decide +kernel
theorem dX6_greatestWeightOfAll_62 : decode cX6_greatestWeightOfAll 62 = .ok (.invokevirtual 67, 3) := by decide +kernel
theorem dX6_greatestWeightOfAll_65 : decode cX6_greatestWeightOfAll 65 = .ok (.invokestatic 70, 3) := by decide +kernel
theorem dX6_greatestWeightOfAll_68 : decode cX6_greatestWeightOfAll 68 = .ok (.istore_n 2, 1) := by decide +kernel
theorem dX6_greatestWeightOfAll_69 : decode cX6_greatestWeightOfAll 69 = .ok (.iinc 5 1, 3) := by decide +kernel
theorem dX6_greatestWeightOfAll_72 : decode cX6_greatestWeightOfAll 72 = .ok (.goto (-45), 3) := by decide +kernel
theorem dX6_greatestWeightOfAll_75 : decode cX6_greatestWeightOfAll 75 = .ok (.iinc 4 1, 3) := by decide +kernel
theorem dX6_greatestWeightOfAll_78 : decode cX6_greatestWeightOfAll 78 = .ok (.goto (-63), 3) := by decide +kernel
theorem dX6_greatestWeightOfAll_81 : decode cX6_greatestWeightOfAll 81 = .ok (.iinc 3 1, 3) := by decide +kernel
theorem dX6_greatestWeightOfAll_84 : decode cX6_greatestWeightOfAll 84 = .ok (.goto (-80), 3) := by decide +kernel
theorem dX6_greatestWeightOfAll_87 : decode cX6_greatestWeightOfAll 87 = .ok (.iload_n 2, 1) := by decide +kernel
theorem dX6_greatestWeightOfAll_88 : decode cX6_greatestWeightOfAll 88 = .ok (.ireturn, 1) := by decide +kernel
theorem dX6_weightIfFill_0 : decode cX6_weightIfFill 0 = .ok (.iconst 0, 1) := by decide +kernel
theorem dX6_weightIfFill_1 : decode cX6_weightIfFill 1 = .ok (.istore_n 2, 1) := by decide +kernel
theorem dX6_weightIfFill_2 : decode cX6_weightIfFill 2 = .ok (.iload_n 2, 1) := by decide +kernel
theorem dX6_weightIfFill_3 : decode cX6_weightIfFill 3 = .ok (.iconst 3, 1) := by decide +kernel
theorem dX6_weightIfFill_4 : decode cX6_weightIfFill 4 = .ok (.if_icmp .ge 20, 3) := by decide +kernel
theorem dX6_weightIfFill_7 : decode cX6_weightIfFill 7 = .ok (.aload_n 0, 1) := by decide +kernel
theorem dX6_weightIfFill_8 : decode cX6_weightIfFill 8 = .ok (.aload_n 1, 1) := by decide +kernel
theorem dX6_weightIfFill_9 : decode cX6_weightIfFill 9 = .ok (.iload_n 2, 1) := by decide +kernel
theorem dX6_weightIfFill_10 : decode cX6_weightIfFill 10 = .ok (.invokevirtual 56, 3) := by decide +kernel
theorem dX6_weightIfFill_13 : decode cX6_weightIfFill 13 = .ok (.ifCond .ne 5, 3) := by decide +kernel
theorem dX6_weightIfFill_16 : decode cX6_weightIfFill 16 = .ok (.iconst (-1), 1) := by decide +kernel
theorem dX6_weightIfFill_17 : decode cX6_weightIfFill 17 = .ok (.ireturn, 1) := by decide +kernel
theorem dX6_weightIfFill_18 : decode cX6_weightIfFill 18 = .ok (.iinc 2 1, 3) := by decide +kernel
theorem dX6_weightIfFill_21 : decode cX6_weightIfFill 21 = .ok (.goto (-19), 3) := by decide +kernel
theorem dX6_weightIfFill_24 : decode cX6_weightIfFill 24 = .ok (.iconst 0, 1) := by decide +kernel
theorem dX6_weightIfFill_25 : decode cX6_weightIfFill 25 = .ok (.istore_n 2, 1) := by decide +kernel
theorem dX6_weightIfFill_26 : decode cX6_weightIfFill 26 = .ok (.iload_n 2, 1) := by decide +kernel
theorem dX6_weightIfFill_27 : decode cX6_weightIfFill 27 = .ok (.iconst 3, 1) := by decide +kernel
theorem dX6_weightIfFill_28 : decode cX6_weightIfFill 28 = .ok (.if_icmp .ge 29, 3) := by decide +kernel
theorem dX6_weightIfFill_31 : decode cX6_weightIfFill 31 = .ok (.aload_n 1, 1) := by decide +kernel
theorem dX6_weightIfFill_32 : decode cX6_weightIfFill 32 = .ok (.aload_n 1, 1) := by decide +kernel
theorem dX6_weightIfFill_33 : decode cX6_weightIfFill 33 = .ok (.aload_n 0, 1) := by decide +kernel
theorem dX6_weightIfFill_34 : decode cX6_weightIfFill 34 = .ok (.getfield 15, 3) := by decide +kernel
theorem dX6_weightIfFill_37 : decode cX6_weightIfFill 37 = .ok (.iload_n 2, 1) := by decide +kernel
theorem dX6_weightIfFill_38 : decode cX6_weightIfFill 38 = .ok (.iconst 3, 1) := by decide +kernel
theorem dX6_weightIfFill_39 : decode cX6_weightIfFill 39 = .ok (.invokestatic 60, 3) := by decide +kernel
theorem dX6_weightIfFill_42 : decode cX6_weightIfFill 42 = .ok (.invokevirtual 76, 3) := by decide +kernel
theorem dX6_weightIfFill_45 : decode cX6_weightIfFill 45 = .ok (.iconst (-1), 1) := by decide +kernel
theorem dX6_weightIfFill_46 : decode cX6_weightIfFill 46 = .ok (.if_icmp .ne 5, 3) := by decide +kernel
theorem dX6_weightIfFill_49 : decode cX6_weightIfFill 49 = .ok (.iconst (-1), 1) := by decide +kernel
theorem dX6_weightIfFill_50 : decode cX6_weightIfFill 50 = .ok (.ireturn, 1) := by decide +kernel
theorem dX6_weightIfFill_51 : decode cX6_weightIfFill 51 = .ok (.iinc 2 1, 3) := by decide +kernel
theorem dX6_weightIfFill_54 : decode cX6_weightIfFill 54 = .ok (.goto (-28), 3) := by decide +kernel
theorem dX6_weightIfFill_57 : decode cX6_weightIfFill 57 = .ok (.aload_n 0, 1) := by decide +kernel
theorem dX6_weightIfFill_58 : decode cX6_weightIfFill 58 = .ok (.aload_n 1, 1) := by decide +kernel
theorem dX6_weightIfFill_59 : decode cX6_weightIfFill 59 = .ok (.invokevirtual 48, 3) := by decide +kernel
theorem dX6_weightIfFill_62 : decode cX6_weightIfFill 62 = .ok (.ireturn, 1) := by decide +kernel
theorem dX6_agreesWithFixed_0 : decode cX6_agreesWithFixed 0 = .ok (.iconst 0, 1) := by decide +kernel
theorem dX6_agreesWithFixed_1 : decode cX6_agreesWithFixed 1 = .ok (.istore_n 3, 1) := by decide +kernel
theorem dX6_agreesWithFixed_2 : decode cX6_agreesWithFixed 2 = .ok (.iload_n 3, 1) := by decide +kernel
theorem dX6_agreesWithFixed_3 : decode cX6_agreesWithFixed 3 = .ok (.iconst 3, 1) := by decide +kernel
theorem dX6_agreesWithFixed_4 : decode cX6_agreesWithFixed 4 = .ok (.if_icmp .ge 45, 3) := by decide +kernel
theorem dX6_agreesWithFixed_7 : decode cX6_agreesWithFixed 7 = .ok (.aload_n 0, 1) := by decide +kernel
theorem dX6_agreesWithFixed_8 : decode cX6_agreesWithFixed 8 = .ok (.getfield 9, 3) := by decide +kernel
theorem dX6_agreesWithFixed_11 : decode cX6_agreesWithFixed 11 = .ok (.iload_n 2, 1) := by decide +kernel
theorem dX6_agreesWithFixed_12 : decode cX6_agreesWithFixed 12 = .ok (.iconst 3, 1) := by decide +kernel
theorem dX6_agreesWithFixed_13 : decode cX6_agreesWithFixed 13 = .ok (.imul, 1) := by decide +kernel
theorem dX6_agreesWithFixed_14 : decode cX6_agreesWithFixed 14 = .ok (.iload_n 3, 1) := by decide +kernel
theorem dX6_agreesWithFixed_15 : decode cX6_agreesWithFixed 15 = .ok (.iadd, 1) := by decide +kernel
theorem dX6_agreesWithFixed_16 : decode cX6_agreesWithFixed 16 = .ok (.iaload, 1) := by decide +kernel
theorem dX6_agreesWithFixed_17 : decode cX6_agreesWithFixed 17 = .ok (.istore 4, 2) := by decide +kernel
theorem dX6_agreesWithFixed_19 : decode cX6_agreesWithFixed 19 = .ok (.iload 4, 2) := by decide +kernel
theorem dX6_agreesWithFixed_21 : decode cX6_agreesWithFixed 21 = .ok (.iconst (-1), 1) := by decide +kernel
theorem dX6_agreesWithFixed_22 : decode cX6_agreesWithFixed 22 = .ok (.if_icmp .eq 21, 3) := by decide +kernel
theorem dX6_agreesWithFixed_25 : decode cX6_agreesWithFixed 25 = .ok (.iload 4, 2) := by decide +kernel
theorem dX6_agreesWithFixed_27 : decode cX6_agreesWithFixed 27 = .ok (.aload_n 1, 1) := by decide +kernel
theorem dX6_agreesWithFixed_28 : decode cX6_agreesWithFixed 28 = .ok (.aload_n 0, 1) := by decide +kernel
theorem dX6_agreesWithFixed_29 : decode cX6_agreesWithFixed 29 = .ok (.getfield 15, 3) := by decide +kernel
theorem dX6_agreesWithFixed_32 : decode cX6_agreesWithFixed 32 = .ok (.iload_n 2, 1) := by decide +kernel
theorem dX6_agreesWithFixed_33 : decode cX6_agreesWithFixed 33 = .ok (.iaload, 1) := by decide +kernel
theorem dX6_agreesWithFixed_34 : decode cX6_agreesWithFixed 34 = .ok (.iload_n 3, 1) := by decide +kernel
theorem dX6_agreesWithFixed_35 : decode cX6_agreesWithFixed 35 = .ok (.invokevirtual 79, 3) := by decide +kernel
theorem dX6_agreesWithFixed_38 : decode cX6_agreesWithFixed 38 = .ok (.if_icmp .eq 5, 3) := by decide +kernel
theorem dX6_agreesWithFixed_41 : decode cX6_agreesWithFixed 41 = .ok (.iconst 0, 1) := by decide +kernel
theorem dX6_agreesWithFixed_42 : decode cX6_agreesWithFixed 42 = .ok (.ireturn, 1) := by decide +kernel
theorem dX6_agreesWithFixed_43 : decode cX6_agreesWithFixed 43 = .ok (.iinc 3 1, 3) := by decide +kernel
theorem dX6_agreesWithFixed_46 : decode cX6_agreesWithFixed 46 = .ok (.goto (-44), 3) := by decide +kernel
theorem dX6_agreesWithFixed_49 : decode cX6_agreesWithFixed 49 = .ok (.iconst 1, 1) := by decide +kernel
theorem dX6_agreesWithFixed_50 : decode cX6_agreesWithFixed 50 = .ok (.ireturn, 1) := by decide +kernel
theorem dX6_weightOfSquare_0 : decode cX6_weightOfSquare 0 = .ok (.iconst 0, 1) := by decide +kernel
theorem dX6_weightOfSquare_1 : decode cX6_weightOfSquare 1 = .ok (.istore_n 2, 1) := by decide +kernel
theorem dX6_weightOfSquare_2 : decode cX6_weightOfSquare 2 = .ok (.iconst 0, 1) := by decide +kernel
theorem dX6_weightOfSquare_3 : decode cX6_weightOfSquare 3 = .ok (.istore_n 3, 1) := by decide +kernel
theorem dX6_weightOfSquare_4 : decode cX6_weightOfSquare 4 = .ok (.iload_n 3, 1) := by decide +kernel
theorem dX6_weightOfSquare_5 : decode cX6_weightOfSquare 5 = .ok (.iconst 3, 1) := by decide +kernel
theorem dX6_weightOfSquare_6 : decode cX6_weightOfSquare 6 = .ok (.if_icmp .ge 53, 3) := by decide +kernel
theorem dX6_weightOfSquare_9 : decode cX6_weightOfSquare 9 = .ok (.iload_n 2, 1) := by decide +kernel
theorem dX6_weightOfSquare_10 : decode cX6_weightOfSquare 10 = .ok (.aload_n 1, 1) := by decide +kernel
theorem dX6_weightOfSquare_11 : decode cX6_weightOfSquare 11 = .ok (.aload_n 0, 1) := by decide +kernel
theorem dX6_weightOfSquare_12 : decode cX6_weightOfSquare 12 = .ok (.getfield 15, 3) := by decide +kernel
theorem dX6_weightOfSquare_15 : decode cX6_weightOfSquare 15 = .ok (.iload_n 3, 1) := by decide +kernel
theorem dX6_weightOfSquare_16 : decode cX6_weightOfSquare 16 = .ok (.iaload, 1) := by decide +kernel
theorem dX6_weightOfSquare_17 : decode cX6_weightOfSquare 17 = .ok (.invokevirtual 82, 3) := by decide +kernel
theorem dX6_weightOfSquare_20 : decode cX6_weightOfSquare 20 = .ok (.iadd, 1) := by decide +kernel
theorem dX6_weightOfSquare_21 : decode cX6_weightOfSquare 21 = .ok (.istore_n 2, 1) := by decide +kernel
theorem dX6_weightOfSquare_22 : decode cX6_weightOfSquare 22 = .ok (.aload_n 1, 1) := by decide +kernel
theorem dX6_weightOfSquare_23 : decode cX6_weightOfSquare 23 = .ok (.aload_n 1, 1) := by decide +kernel
theorem dX6_weightOfSquare_24 : decode cX6_weightOfSquare 24 = .ok (.aload_n 0, 1) := by decide +kernel
theorem dX6_weightOfSquare_25 : decode cX6_weightOfSquare 25 = .ok (.getfield 15, 3) := by decide +kernel
theorem dX6_weightOfSquare_28 : decode cX6_weightOfSquare 28 = .ok (.iload_n 3, 1) := by decide +kernel
theorem dX6_weightOfSquare_29 : decode cX6_weightOfSquare 29 = .ok (.iconst 3, 1) := by decide +kernel
theorem dX6_weightOfSquare_30 : decode cX6_weightOfSquare 30 = .ok (.invokestatic 60, 3) := by decide +kernel
theorem dX6_weightOfSquare_33 : decode cX6_weightOfSquare 33 = .ok (.invokevirtual 76, 3) := by decide +kernel
theorem dX6_weightOfSquare_36 : decode cX6_weightOfSquare 36 = .ok (.istore 4, 2) := by decide +kernel
theorem dX6_weightOfSquare_38 : decode cX6_weightOfSquare 38 = .ok (.iload 4, 2) := by decide +kernel
theorem dX6_weightOfSquare_40 : decode cX6_weightOfSquare 40 = .ok (.iconst (-1), 1) := by decide +kernel
theorem dX6_weightOfSquare_41 : decode cX6_weightOfSquare 41 = .ok (.if_icmp .eq 12, 3) := by decide +kernel
theorem dX6_weightOfSquare_44 : decode cX6_weightOfSquare 44 = .ok (.iload_n 2, 1) := by decide +kernel
theorem dX6_weightOfSquare_45 : decode cX6_weightOfSquare 45 = .ok (.aload_n 1, 1) := by decide +kernel
theorem dX6_weightOfSquare_46 : decode cX6_weightOfSquare 46 = .ok (.iload 4, 2) := by decide +kernel
theorem dX6_weightOfSquare_48 : decode cX6_weightOfSquare 48 = .ok (.invokevirtual 82, 3) := by decide +kernel
theorem dX6_weightOfSquare_51 : decode cX6_weightOfSquare 51 = .ok (.iadd, 1) := by decide +kernel
theorem dX6_weightOfSquare_52 : decode cX6_weightOfSquare 52 = .ok (.istore_n 2, 1) := by decide +kernel
theorem dX6_weightOfSquare_53 : decode cX6_weightOfSquare 53 = .ok (.iinc 3 1, 3) := by decide +kernel
theorem dX6_weightOfSquare_56 : decode cX6_weightOfSquare 56 = .ok (.goto (-52), 3) := by decide +kernel
theorem dX6_weightOfSquare_59 : decode cX6_weightOfSquare 59 = .ok (.iload_n 2, 1) := by decide +kernel
theorem dX6_weightOfSquare_60 : decode cX6_weightOfSquare 60 = .ok (.ireturn, 1) := by decide +kernel
theorem dX6_columnCode_0 : decode cX6_columnCode 0 = .ok (.iconst 1, 1) := by decide +kernel
theorem dX6_columnCode_1 : decode cX6_columnCode 1 = .ok (.istore 4, 2) := by decide +kernel
theorem dX6_columnCode_3 : decode cX6_columnCode 3 = .ok (.iconst 0, 1) := by decide +kernel
theorem dX6_columnCode_4 : decode cX6_columnCode 4 = .ok (.istore 5, 2) := by decide +kernel
theorem dX6_columnCode_6 : decode cX6_columnCode 6 = .ok (.iload 5, 2) := by decide +kernel
theorem dX6_columnCode_8 : decode cX6_columnCode 8 = .ok (.iload_n 3, 1) := by decide +kernel
theorem dX6_columnCode_9 : decode cX6_columnCode 9 = .ok (.if_icmp .ge 26, 3) := by decide +kernel
theorem dX6_columnCode_12 : decode cX6_columnCode 12 = .ok (.iload 4, 2) := by decide +kernel
theorem dX6_columnCode_14 : decode cX6_columnCode 14 = .ok (.bipush 9, 2) := by decide +kernel
theorem dX6_columnCode_16 : decode cX6_columnCode 16 = .ok (.imul, 1) := by decide +kernel
theorem dX6_columnCode_17 : decode cX6_columnCode 17 = .ok (.aload_n 0, 1) := by decide +kernel
theorem dX6_columnCode_18 : decode cX6_columnCode 18 = .ok (.aload_n 1, 1) := by decide +kernel
theorem dX6_columnCode_19 : decode cX6_columnCode 19 = .ok (.iload 5, 2) := by decide +kernel
theorem dX6_columnCode_21 : decode cX6_columnCode 21 = .ok (.iaload, 1) := by decide +kernel
theorem dX6_columnCode_22 : decode cX6_columnCode 22 = .ok (.iload_n 2, 1) := by decide +kernel
theorem dX6_columnCode_23 : decode cX6_columnCode 23 = .ok (.invokevirtual 79, 3) := by decide +kernel
theorem dX6_columnCode_26 : decode cX6_columnCode 26 = .ok (.iadd, 1) := by decide +kernel
theorem dX6_columnCode_27 : decode cX6_columnCode 27 = .ok (.istore 4, 2) := by decide +kernel
theorem dX6_columnCode_29 : decode cX6_columnCode 29 = .ok (.iinc 5 1, 3) := by decide +kernel
theorem dX6_columnCode_32 : decode cX6_columnCode 32 = .ok (.goto (-26), 3) := by decide +kernel
theorem dX6_columnCode_35 : decode cX6_columnCode 35 = .ok (.iload 4, 2) := by decide +kernel
theorem dX6_columnCode_37 : decode cX6_columnCode 37 = .ok (.ireturn, 1) := by decide +kernel
theorem dX6_bestLetter_0 : decode cX6_bestLetter 0 = .ok (.aload_n 1, 1) := by decide +kernel
theorem dX6_bestLetter_1 : decode cX6_bestLetter 1 = .ok (.aload_n 0, 1) := by decide +kernel
theorem dX6_bestLetter_2 : decode cX6_bestLetter 2 = .ok (.getfield 18, 3) := by decide +kernel
theorem dX6_bestLetter_5 : decode cX6_bestLetter 5 = .ok (.iload_n 2, 1) := by decide +kernel
theorem dX6_bestLetter_6 : decode cX6_bestLetter 6 = .ok (.iconst 3, 1) := by decide +kernel
theorem dX6_bestLetter_7 : decode cX6_bestLetter 7 = .ok (.idiv, 1) := by decide +kernel
theorem dX6_bestLetter_8 : decode cX6_bestLetter 8 = .ok (.iaload, 1) := by decide +kernel
theorem dX6_bestLetter_9 : decode cX6_bestLetter 9 = .ok (.iload_n 2, 1) := by decide +kernel
theorem dX6_bestLetter_10 : decode cX6_bestLetter 10 = .ok (.iconst 3, 1) := by decide +kernel
theorem dX6_bestLetter_11 : decode cX6_bestLetter 11 = .ok (.irem, 1) := by decide +kernel
theorem dX6_bestLetter_12 : decode cX6_bestLetter 12 = .ok (.invokevirtual 79, 3) := by decide +kernel
theorem dX6_bestLetter_15 : decode cX6_bestLetter 15 = .ok (.ireturn, 1) := by decide +kernel
theorem dX6_bestWord_0 : decode cX6_bestWord 0 = .ok (.iload_n 2, 1) := by decide +kernel
theorem dX6_bestWord_1 : decode cX6_bestWord 1 = .ok (.iconst 3, 1) := by decide +kernel
theorem dX6_bestWord_2 : decode cX6_bestWord 2 = .ok (.if_icmp .ge 10, 3) := by decide +kernel
theorem dX6_bestWord_5 : decode cX6_bestWord 5 = .ok (.aload_n 0, 1) := by decide +kernel
theorem dX6_bestWord_6 : decode cX6_bestWord 6 = .ok (.getfield 18, 3) := by decide +kernel
theorem dX6_bestWord_9 : decode cX6_bestWord 9 = .ok (.iload_n 2, 1) := by decide +kernel
theorem dX6_bestWord_10 : decode cX6_bestWord 10 = .ok (.iaload, 1) := by decide +kernel
theorem dX6_bestWord_11 : decode cX6_bestWord 11 = .ok (.ireturn, 1) := by decide +kernel
theorem dX6_bestWord_12 : decode cX6_bestWord 12 = .ok (.aload_n 1, 1) := by decide +kernel
theorem dX6_bestWord_13 : decode cX6_bestWord 13 = .ok (.aload_n 1, 1) := by decide +kernel
theorem dX6_bestWord_14 : decode cX6_bestWord 14 = .ok (.aload_n 0, 1) := by decide +kernel
theorem dX6_bestWord_15 : decode cX6_bestWord 15 = .ok (.getfield 18, 3) := by decide +kernel
theorem dX6_bestWord_18 : decode cX6_bestWord 18 = .ok (.iload_n 2, 1) := by decide +kernel
theorem dX6_bestWord_19 : decode cX6_bestWord 19 = .ok (.iconst 3, 1) := by decide +kernel
theorem dX6_bestWord_20 : decode cX6_bestWord 20 = .ok (.isub, 1) := by decide +kernel
theorem dX6_bestWord_21 : decode cX6_bestWord 21 = .ok (.iconst 3, 1) := by decide +kernel
theorem dX6_bestWord_22 : decode cX6_bestWord 22 = .ok (.invokestatic 60, 3) := by decide +kernel
theorem dX6_bestWord_25 : decode cX6_bestWord 25 = .ok (.invokevirtual 76, 3) := by decide +kernel
theorem dX6_bestWord_28 : decode cX6_bestWord 28 = .ok (.ireturn, 1) := by decide +kernel
theorem dX7_init_0 : decode cX7_init 0 = .ok (.aload_n 0, 1) := by decide +kernel
theorem dX7_init_1 : decode cX7_init 1 = .ok (.invokespecial 3, 3) := by decide +kernel
theorem dX7_init_4 : decode cX7_init 4 = .ok (.aload_n 0, 1) := by decide +kernel
theorem dX7_init_5 : decode cX7_init 5 = .ok (.bipush 30, 2) := by decide +kernel
theorem dX7_init_7 : decode cX7_init 7 = .ok (.newarray .int, 2) := by decide +kernel
theorem dX7_init_9 : decode cX7_init 9 = .ok (.putfield 9, 3) := by decide +kernel
theorem dX7_init_12 : decode cX7_init 12 = .ok (.aload_n 0, 1) := by decide +kernel
theorem dX7_init_13 : decode cX7_init 13 = .ok (.bipush 90, 2) := by decide +kernel
theorem dX7_init_15 : decode cX7_init 15 = .ok (.newarray .int, 2) := by decide +kernel
theorem dX7_init_17 : decode cX7_init 17 = .ok (.putfield 15, 3) := by decide +kernel
theorem dX7_init_20 : decode cX7_init 20 = .ok (.aload_n 0, 1) := by decide +kernel
theorem dX7_init_21 : decode cX7_init 21 = .ok (.bipush 30, 2) := by decide +kernel
theorem dX7_init_23 : decode cX7_init 23 = .ok (.newarray .int, 2) := by decide +kernel
theorem dX7_init_25 : decode cX7_init 25 = .ok (.putfield 18, 3) := by decide +kernel
theorem dX7_init_28 : decode cX7_init 28 = .ok (.aload_n 0, 1) := by decide +kernel
theorem dX7_init_29 : decode cX7_init 29 = .ok (.bipush 30, 2) := by decide +kernel
theorem dX7_init_31 : decode cX7_init 31 = .ok (.newarray .int, 2) := by decide +kernel
theorem dX7_init_33 : decode cX7_init 33 = .ok (.putfield 21, 3) := by decide +kernel
theorem dX7_init_36 : decode cX7_init 36 = .ok (.aload_n 0, 1) := by decide +kernel
theorem dX7_init_37 : decode cX7_init 37 = .ok (.sipush 1458, 3) := by decide +kernel
theorem dX7_init_40 : decode cX7_init 40 = .ok (.newarray .int, 2) := by decide +kernel
theorem dX7_init_42 : decode cX7_init 42 = .ok (.putfield 24, 3) := by decide +kernel
theorem dX7_init_45 : decode cX7_init 45 = .ok (.aload_n 0, 1) := by decide +kernel
theorem dX7_init_46 : decode cX7_init 46 = .ok (.sipush 1458, 3) := by decide +kernel
theorem dX7_init_49 : decode cX7_init 49 = .ok (.newarray .int, 2) := by decide +kernel
theorem dX7_init_51 : decode cX7_init 51 = .ok (.putfield 27, 3) := by decide +kernel
theorem dX7_init_54 : decode cX7_init 54 = .ok (.aload_n 0, 1) := by decide +kernel
theorem dX7_init_55 : decode cX7_init 55 = .ok (.getfield 27, 3) := by decide +kernel
theorem dX7_init_58 : decode cX7_init 58 = .ok (.iconst (-1), 1) := by decide +kernel
theorem dX7_init_59 : decode cX7_init 59 = .ok (.invokestatic 30, 3) := by decide +kernel
theorem dX7_init_62 : decode cX7_init 62 = .ok (.return_, 1) := by decide +kernel
theorem dX7_count_0 : decode cX7_count 0 = .ok (.aload_n 0, 1) := by decide +kernel
theorem dX7_count_1 : decode cX7_count 1 = .ok (.getfield 36, 3) := by decide +kernel
theorem dX7_count_4 : decode cX7_count 4 = .ok (.ireturn, 1) := by decide +kernel
theorem dX7_add_0 : decode cX7_add 0 = .ok (.aload_n 0, 1) := by decide +kernel
theorem dX7_add_1 : decode cX7_add 1 = .ok (.getfield 36, 3) := by decide +kernel
theorem dX7_add_4 : decode cX7_add 4 = .ok (.istore_n 3, 1) := by decide +kernel
theorem dX7_add_5 : decode cX7_add 5 = .ok (.aload_n 0, 1) := by decide +kernel
theorem dX7_add_6 : decode cX7_add 6 = .ok (.getfield 9, 3) := by decide +kernel
theorem dX7_add_9 : decode cX7_add 9 = .ok (.iload_n 3, 1) := by decide +kernel
theorem dX7_add_10 : decode cX7_add 10 = .ok (.iload_n 1, 1) := by decide +kernel
theorem dX7_add_11 : decode cX7_add 11 = .ok (.iastore, 1) := by decide +kernel
theorem dX7_add_12 : decode cX7_add 12 = .ok (.aload_n 0, 1) := by decide +kernel
theorem dX7_add_13 : decode cX7_add 13 = .ok (.getfield 18, 3) := by decide +kernel
theorem dX7_add_16 : decode cX7_add 16 = .ok (.iload_n 3, 1) := by decide +kernel
theorem dX7_add_17 : decode cX7_add 17 = .ok (.iload_n 2, 1) := by decide +kernel
theorem dX7_add_18 : decode cX7_add 18 = .ok (.iastore, 1) := by decide +kernel
theorem dX7_add_19 : decode cX7_add 19 = .ok (.aload_n 0, 1) := by decide +kernel
theorem dX7_add_20 : decode cX7_add 20 = .ok (.getfield 27, 3) := by decide +kernel
theorem dX7_add_23 : decode cX7_add 23 = .ok (.iload_n 1, 1) := by decide +kernel
theorem dX7_add_24 : decode cX7_add 24 = .ok (.iload_n 3, 1) := by decide +kernel
theorem dX7_add_25 : decode cX7_add 25 = .ok (.iastore, 1) := by decide +kernel
theorem dX7_add_26 : decode cX7_add 26 = .ok (.aload_n 0, 1) := by decide +kernel
theorem dX7_add_27 : decode cX7_add 27 = .ok (.iload_n 3, 1) := by decide +kernel
theorem dX7_add_28 : decode cX7_add 28 = .ok (.invokevirtual 40, 3) := by decide +kernel
theorem dX7_add_31 : decode cX7_add 31 = .ok (.iload_n 1, 1) := by decide +kernel
theorem dX7_add_32 : decode cX7_add 32 = .ok (.istore 4, 2) := by decide +kernel
theorem dX7_add_34 : decode cX7_add 34 = .ok (.iconst 2, 1) := by decide +kernel
theorem dX7_add_35 : decode cX7_add 35 = .ok (.istore 5, 2) := by decide +kernel
theorem dX7_add_37 : decode cX7_add 37 = .ok (.iload 5, 2) := by decide +kernel
theorem dX7_add_39 : decode cX7_add 39 = .ok (.ifCond .lt 43, 3) := by decide +kernel
theorem dX7_add_42 : decode cX7_add 42 = .ok (.aload_n 0, 1) := by decide +kernel
theorem dX7_add_43 : decode cX7_add 43 = .ok (.getfield 15, 3) := by decide +kernel
theorem dX7_add_46 : decode cX7_add 46 = .ok (.iload_n 3, 1) := by decide +kernel
theorem dX7_add_47 : decode cX7_add 47 = .ok (.iconst 3, 1) := by decide +kernel
theorem dX7_add_48 : decode cX7_add 48 = .ok (.imul, 1) := by decide +kernel
theorem dX7_add_49 : decode cX7_add 49 = .ok (.iload 5, 2) := by decide +kernel
theorem dX7_add_51 : decode cX7_add 51 = .ok (.iadd, 1) := by decide +kernel
theorem dX7_add_52 : decode cX7_add 52 = .ok (.iload 4, 2) := by decide +kernel
theorem dX7_add_54 : decode cX7_add 54 = .ok (.bipush 9, 2) := by decide +kernel
theorem dX7_add_56 : decode cX7_add 56 = .ok (.irem, 1) := by decide +kernel
theorem dX7_add_57 : decode cX7_add 57 = .ok (.iastore, 1) := by decide +kernel
theorem dX7_add_58 : decode cX7_add 58 = .ok (.aload_n 0, 1) := by decide +kernel
theorem dX7_add_59 : decode cX7_add 59 = .ok (.getfield 24, 3) := by decide +kernel
theorem dX7_add_62 : decode cX7_add 62 = .ok (.iload 4, 2) := by decide +kernel
theorem dX7_add_64 : decode cX7_add 64 = .ok (.dup2, 1) := by decide +kernel
theorem dX7_add_65 : decode cX7_add 65 = .ok (.iaload, 1) := by decide +kernel
theorem dX7_add_66 : decode cX7_add 66 = .ok (.iconst 1, 1) := by decide +kernel
theorem dX7_add_67 : decode cX7_add 67 = .ok (.iadd, 1) := by decide +kernel
theorem dX7_add_68 : decode cX7_add 68 = .ok (.iastore, 1) := by decide +kernel
theorem dX7_add_69 : decode cX7_add 69 = .ok (.iload 4, 2) := by decide +kernel
theorem dX7_add_71 : decode cX7_add 71 = .ok (.bipush 9, 2) := by decide +kernel
theorem dX7_add_73 : decode cX7_add 73 = .ok (.idiv, 1) := by decide +kernel
theorem dX7_add_74 : decode cX7_add 74 = .ok (.istore 4, 2) := by decide +kernel
theorem dX7_add_76 : decode cX7_add 76 = .ok (.iinc 5 (-1), 3) := by decide +kernel
theorem dX7_add_79 : decode cX7_add 79 = .ok (.goto (-42), 3) := by decide +kernel
theorem dX7_add_82 : decode cX7_add 82 = .ok (.aload_n 0, 1) := by decide +kernel
theorem dX7_add_83 : decode cX7_add 83 = .ok (.getfield 24, 3) := by decide +kernel
theorem dX7_add_86 : decode cX7_add 86 = .ok (.iconst 1, 1) := by decide +kernel
theorem dX7_add_87 : decode cX7_add 87 = .ok (.dup2, 1) := by decide +kernel
theorem dX7_add_88 : decode cX7_add 88 = .ok (.iaload, 1) := by decide +kernel
theorem dX7_add_89 : decode cX7_add 89 = .ok (.iconst 1, 1) := by decide +kernel
theorem dX7_add_90 : decode cX7_add 90 = .ok (.iadd, 1) := by decide +kernel
theorem dX7_add_91 : decode cX7_add 91 = .ok (.iastore, 1) := by decide +kernel
theorem dX7_add_92 : decode cX7_add 92 = .ok (.aload_n 0, 1) := by decide +kernel
theorem dX7_add_93 : decode cX7_add 93 = .ok (.dup, 1) := by decide +kernel
theorem dX7_add_94 : decode cX7_add 94 = .ok (.getfield 36, 3) := by decide +kernel
theorem dX7_add_97 : decode cX7_add 97 = .ok (.iconst 1, 1) := by decide +kernel
theorem dX7_add_98 : decode cX7_add 98 = .ok (.iadd, 1) := by decide +kernel
theorem dX7_add_99 : decode cX7_add 99 = .ok (.putfield 36, 3) := by decide +kernel
theorem dX7_add_102 : decode cX7_add 102 = .ok (.iload_n 3, 1) := by decide +kernel
theorem dX7_add_103 : decode cX7_add 103 = .ok (.ireturn, 1) := by decide +kernel
theorem dX7_putInOrder_0 : decode cX7_putInOrder 0 = .ok (.iload_n 1, 1) := by decide +kernel
theorem dX7_putInOrder_1 : decode cX7_putInOrder 1 = .ok (.istore_n 2, 1) := by decide +kernel
theorem dX7_putInOrder_2 : decode cX7_putInOrder 2 = .ok (.iload_n 2, 1) := by decide +kernel
theorem dX7_putInOrder_3 : decode cX7_putInOrder 3 = .ok (.ifCond .le 45, 3) := by decide +kernel
theorem dX7_putInOrder_6 : decode cX7_putInOrder 6 = .ok (.aload_n 0, 1) := by decide +kernel
theorem dX7_putInOrder_7 : decode cX7_putInOrder 7 = .ok (.getfield 9, 3) := by decide +kernel
theorem dX7_putInOrder_10 : decode cX7_putInOrder 10 = .ok (.aload_n 0, 1) := by decide +kernel
theorem dX7_putInOrder_11 : decode cX7_putInOrder 11 = .ok (.getfield 21, 3) := by decide +kernel
theorem dX7_putInOrder_14 : decode cX7_putInOrder 14 = .ok (.iload_n 2, 1) := by decide +kernel
theorem dX7_putInOrder_15 : decode cX7_putInOrder 15 = .ok (.iconst 1, 1) := by decide +kernel
theorem dX7_putInOrder_16 : decode cX7_putInOrder 16 = .ok (.isub, 1) := by decide +kernel
theorem dX7_putInOrder_17 : decode cX7_putInOrder 17 = .ok (.iaload, 1) := by decide +kernel
theorem dX7_putInOrder_18 : decode cX7_putInOrder 18 = .ok (.iaload, 1) := by decide +kernel
theorem dX7_putInOrder_19 : decode cX7_putInOrder 19 = .ok (.aload_n 0, 1) := by decide +kernel
theorem dX7_putInOrder_20 : decode cX7_putInOrder 20 = .ok (.getfield 9, 3) := by decide +kernel
theorem dX7_putInOrder_23 : decode cX7_putInOrder 23 = .ok (.iload_n 1, 1) := by decide +kernel
theorem dX7_putInOrder_24 : decode cX7_putInOrder 24 = .ok (.iaload, 1) := by decide +kernel
theorem dX7_putInOrder_25 : decode cX7_putInOrder 25 = .ok (.if_icmp .le 23, 3) := by decide +kernel
theorem dX7_putInOrder_28 : decode cX7_putInOrder 28 = .ok (.aload_n 0, 1) := by decide +kernel
theorem dX7_putInOrder_29 : decode cX7_putInOrder 29 = .ok (.getfield 21, 3) := by decide +kernel
theorem dX7_putInOrder_32 : decode cX7_putInOrder 32 = .ok (.iload_n 2, 1) := by decide +kernel
theorem dX7_putInOrder_33 : decode cX7_putInOrder 33 = .ok (.aload_n 0, 1) := by decide +kernel
theorem dX7_putInOrder_34 : decode cX7_putInOrder 34 = .ok (.getfield 21, 3) := by decide +kernel
theorem dX7_putInOrder_37 : decode cX7_putInOrder 37 = .ok (.iload_n 2, 1) := by decide +kernel
theorem dX7_putInOrder_38 : decode cX7_putInOrder 38 = .ok (.iconst 1, 1) := by decide +kernel
theorem dX7_putInOrder_39 : decode cX7_putInOrder 39 = .ok (.isub, 1) := by decide +kernel
theorem dX7_putInOrder_40 : decode cX7_putInOrder 40 = .ok (.iaload, 1) := by decide +kernel
theorem dX7_putInOrder_41 : decode cX7_putInOrder 41 = .ok (.iastore, 1) := by decide +kernel
theorem dX7_putInOrder_42 : decode cX7_putInOrder 42 = .ok (.iinc 2 (-1), 3) := by decide +kernel
theorem dX7_putInOrder_45 : decode cX7_putInOrder 45 = .ok (.goto (-43), 3) := by decide +kernel
theorem dX7_putInOrder_48 : decode cX7_putInOrder 48 = .ok (.aload_n 0, 1) := by decide +kernel
theorem dX7_putInOrder_49 : decode cX7_putInOrder 49 = .ok (.getfield 21, 3) := by decide +kernel
theorem dX7_putInOrder_52 : decode cX7_putInOrder 52 = .ok (.iload_n 2, 1) := by decide +kernel
theorem dX7_putInOrder_53 : decode cX7_putInOrder 53 = .ok (.iload_n 1, 1) := by decide +kernel
theorem dX7_putInOrder_54 : decode cX7_putInOrder 54 = .ok (.iastore, 1) := by decide +kernel
theorem dX7_putInOrder_55 : decode cX7_putInOrder 55 = .ok (.return_, 1) := by decide +kernel
theorem dX7_weight_0 : decode cX7_weight 0 = .ok (.aload_n 0, 1) := by decide +kernel
theorem dX7_weight_1 : decode cX7_weight 1 = .ok (.getfield 18, 3) := by decide +kernel
theorem dX7_weight_4 : decode cX7_weight 4 = .ok (.iload_n 1, 1) := by decide +kernel
theorem dX7_weight_5 : decode cX7_weight 5 = .ok (.iaload, 1) := by decide +kernel
theorem dX7_weight_6 : decode cX7_weight 6 = .ok (.ireturn, 1) := by decide +kernel
theorem dX7_weigh_0 : decode cX7_weigh 0 = .ok (.aload_n 0, 1) := by decide +kernel
theorem dX7_weigh_1 : decode cX7_weigh 1 = .ok (.getfield 18, 3) := by decide +kernel
theorem dX7_weigh_4 : decode cX7_weigh 4 = .ok (.iload_n 1, 1) := by decide +kernel
theorem dX7_weigh_5 : decode cX7_weigh 5 = .ok (.iload_n 2, 1) := by decide +kernel
theorem dX7_weigh_6 : decode cX7_weigh 6 = .ok (.iastore, 1) := by decide +kernel
theorem dX7_weigh_7 : decode cX7_weigh 7 = .ok (.return_, 1) := by decide +kernel
theorem dX7_inOrder_0 : decode cX7_inOrder 0 = .ok (.aload_n 0, 1) := by decide +kernel
theorem dX7_inOrder_1 : decode cX7_inOrder 1 = .ok (.getfield 21, 3) := by decide +kernel
theorem dX7_inOrder_4 : decode cX7_inOrder 4 = .ok (.iload_n 1, 1) := by decide +kernel
theorem dX7_inOrder_5 : decode cX7_inOrder 5 = .ok (.iaload, 1) := by decide +kernel
theorem dX7_inOrder_6 : decode cX7_inOrder 6 = .ok (.ireturn, 1) := by decide +kernel
theorem dX7_beginningWith_0 : decode cX7_beginningWith 0 = .ok (.aload_n 0, 1) := by decide +kernel
theorem dX7_beginningWith_1 : decode cX7_beginningWith 1 = .ok (.getfield 24, 3) := by decide +kernel
theorem dX7_beginningWith_4 : decode cX7_beginningWith 4 = .ok (.iload_n 1, 1) := by decide +kernel
theorem dX7_beginningWith_5 : decode cX7_beginningWith 5 = .ok (.iaload, 1) := by decide +kernel
theorem dX7_beginningWith_6 : decode cX7_beginningWith 6 = .ok (.ireturn, 1) := by decide +kernel
theorem dX7_wordOrNone_0 : decode cX7_wordOrNone 0 = .ok (.aload_n 0, 1) := by decide +kernel
theorem dX7_wordOrNone_1 : decode cX7_wordOrNone 1 = .ok (.getfield 27, 3) := by decide +kernel
theorem dX7_wordOrNone_4 : decode cX7_wordOrNone 4 = .ok (.iload_n 1, 1) := by decide +kernel
theorem dX7_wordOrNone_5 : decode cX7_wordOrNone 5 = .ok (.iaload, 1) := by decide +kernel
theorem dX7_wordOrNone_6 : decode cX7_wordOrNone 6 = .ok (.ireturn, 1) := by decide +kernel
theorem dX7_letter_0 : decode cX7_letter 0 = .ok (.aload_n 0, 1) := by decide +kernel
theorem dX7_letter_1 : decode cX7_letter 1 = .ok (.getfield 15, 3) := by decide +kernel
theorem dX7_letter_4 : decode cX7_letter 4 = .ok (.iload_n 1, 1) := by decide +kernel
theorem dX7_letter_5 : decode cX7_letter 5 = .ok (.iconst 3, 1) := by decide +kernel
theorem dX7_letter_6 : decode cX7_letter 6 = .ok (.imul, 1) := by decide +kernel
theorem dX7_letter_7 : decode cX7_letter 7 = .ok (.iload_n 2, 1) := by decide +kernel
theorem dX7_letter_8 : decode cX7_letter 8 = .ok (.iadd, 1) := by decide +kernel
theorem dX7_letter_9 : decode cX7_letter 9 = .ok (.iaload, 1) := by decide +kernel
theorem dX7_letter_10 : decode cX7_letter 10 = .ok (.ireturn, 1) := by decide +kernel
theorem dJ9_floorDiv_7cf53_0 : decode cJ9_floorDiv_7cf53 0 = .ok (.iload_n 0, 1) := by decide +kernel
theorem dJ9_floorDiv_7cf53_1 : decode cJ9_floorDiv_7cf53 1 = .ok (.iload_n 1, 1) := by decide +kernel
theorem dJ9_floorDiv_7cf53_2 : decode cJ9_floorDiv_7cf53 2 = .ok (.idiv, 1) := by decide +kernel
theorem dJ9_floorDiv_7cf53_3 : decode cJ9_floorDiv_7cf53 3 = .ok (.istore_n 2, 1) := by decide +kernel
theorem dJ9_floorDiv_7cf53_4 : decode cJ9_floorDiv_7cf53 4 = .ok (.iload_n 0, 1) := by decide +kernel
theorem dJ9_floorDiv_7cf53_5 : decode cJ9_floorDiv_7cf53 5 = .ok (.iload_n 1, 1) := by decide +kernel
theorem dJ9_floorDiv_7cf53_6 : decode cJ9_floorDiv_7cf53 6 = .ok (.ixor, 1) := by decide +kernel
theorem dJ9_floorDiv_7cf53_7 : decode cJ9_floorDiv_7cf53 7 = .ok (.ifCond .ge 14, 3) := by decide +kernel
theorem dJ9_floorDiv_7cf53_10 : decode cJ9_floorDiv_7cf53 10 = .ok (.iload_n 2, 1) := by decide +kernel
theorem dJ9_floorDiv_7cf53_11 : decode cJ9_floorDiv_7cf53 11 = .ok (.iload_n 1, 1) := by decide +kernel
theorem dJ9_floorDiv_7cf53_12 : decode cJ9_floorDiv_7cf53 12 = .ok (.imul, 1) := by decide +kernel
theorem dJ9_floorDiv_7cf53_13 : decode cJ9_floorDiv_7cf53 13 = .ok (.iload_n 0, 1) := by decide +kernel
theorem dJ9_floorDiv_7cf53_14 : decode cJ9_floorDiv_7cf53 14 = .ok (.if_icmp .eq 7, 3) := by decide +kernel
theorem dJ9_floorDiv_7cf53_17 : decode cJ9_floorDiv_7cf53 17 = .ok (.iload_n 2, 1) := by decide +kernel
theorem dJ9_floorDiv_7cf53_18 : decode cJ9_floorDiv_7cf53 18 = .ok (.iconst 1, 1) := by decide +kernel
theorem dJ9_floorDiv_7cf53_19 : decode cJ9_floorDiv_7cf53 19 = .ok (.isub, 1) := by decide +kernel
theorem dJ9_floorDiv_7cf53_20 : decode cJ9_floorDiv_7cf53 20 = .ok (.ireturn, 1) := by decide +kernel
theorem dJ9_floorDiv_7cf53_21 : decode cJ9_floorDiv_7cf53 21 = .ok (.iload_n 2, 1) := by decide +kernel
theorem dJ9_floorDiv_7cf53_22 : decode cJ9_floorDiv_7cf53 22 = .ok (.ireturn, 1) := by decide +kernel
theorem dJ9_max_7cf53_0 : decode cJ9_max_7cf53 0 = .ok (.iload_n 0, 1) := by decide +kernel
theorem dJ9_max_7cf53_1 : decode cJ9_max_7cf53 1 = .ok (.iload_n 1, 1) := by decide +kernel
theorem dJ9_max_7cf53_2 : decode cJ9_max_7cf53 2 = .ok (.if_icmp .lt 7, 3) := by decide +kernel
theorem dJ9_max_7cf53_5 : decode cJ9_max_7cf53 5 = .ok (.iload_n 0, 1) := by decide +kernel
theorem dJ9_max_7cf53_6 : decode cJ9_max_7cf53 6 = .ok (.goto 4, 3) := by decide +kernel
theorem dJ9_max_7cf53_9 : decode cJ9_max_7cf53 9 = .ok (.iload_n 1, 1) := by decide +kernel
theorem dJ9_max_7cf53_10 : decode cJ9_max_7cf53 10 = .ok (.ireturn, 1) := by decide +kernel
theorem dJ9_min_7cf53_0 : decode cJ9_min_7cf53 0 = .ok (.iload_n 0, 1) := by decide +kernel
theorem dJ9_min_7cf53_1 : decode cJ9_min_7cf53 1 = .ok (.iload_n 1, 1) := by decide +kernel
theorem dJ9_min_7cf53_2 : decode cJ9_min_7cf53 2 = .ok (.if_icmp .gt 7, 3) := by decide +kernel
theorem dJ9_min_7cf53_5 : decode cJ9_min_7cf53 5 = .ok (.iload_n 0, 1) := by decide +kernel
theorem dJ9_min_7cf53_6 : decode cJ9_min_7cf53 6 = .ok (.goto 4, 3) := by decide +kernel
theorem dJ9_min_7cf53_9 : decode cJ9_min_7cf53 9 = .ok (.iload_n 1, 1) := by decide +kernel
theorem dJ9_min_7cf53_10 : decode cJ9_min_7cf53 10 = .ok (.ireturn, 1) := by decide +kernel
theorem dJ7_fill_53178_0 : decode cJ7_fill_53178 0 = .ok (.iconst 0, 1) := by decide +kernel
theorem dJ7_fill_53178_1 : decode cJ7_fill_53178 1 = .ok (.istore_n 2, 1) := by decide +kernel
theorem dJ7_fill_53178_2 : decode cJ7_fill_53178 2 = .ok (.aload_n 0, 1) := by decide +kernel
theorem dJ7_fill_53178_3 : decode cJ7_fill_53178 3 = .ok (.arraylength, 1) := by decide +kernel
theorem dJ7_fill_53178_4 : decode cJ7_fill_53178 4 = .ok (.istore_n 3, 1) := by decide +kernel
theorem dJ7_fill_53178_5 : decode cJ7_fill_53178 5 = .ok (.iload_n 2, 1) := by decide +kernel
theorem dJ7_fill_53178_6 : decode cJ7_fill_53178 6 = .ok (.iload_n 3, 1) := by decide +kernel
theorem dJ7_fill_53178_7 : decode cJ7_fill_53178 7 = .ok (.if_icmp .ge 13, 3) := by decide +kernel
theorem dJ7_fill_53178_10 : decode cJ7_fill_53178 10 = .ok (.aload_n 0, 1) := by decide +kernel
theorem dJ7_fill_53178_11 : decode cJ7_fill_53178 11 = .ok (.iload_n 2, 1) := by decide +kernel
theorem dJ7_fill_53178_12 : decode cJ7_fill_53178 12 = .ok (.iload_n 1, 1) := by decide +kernel
theorem dJ7_fill_53178_13 : decode cJ7_fill_53178 13 = .ok (.iastore, 1) := by decide +kernel
theorem dJ7_fill_53178_14 : decode cJ7_fill_53178 14 = .ok (.iinc 2 1, 3) := by decide +kernel
theorem dJ7_fill_53178_17 : decode cJ7_fill_53178 17 = .ok (.goto (-12), 3) := by decide +kernel
theorem dJ7_fill_53178_20 : decode cJ7_fill_53178 20 = .ok (.return_, 1) := by decide +kernel
