theorem dX0_with_0 : decode cX0_with 0 = .ok (.getstatic 7, 3) := by decide +kernel
theorem dX0_with_3 : decode cX0_with 3 = .ok (.iload_n 0, 1) := by decide +kernel
theorem dX0_with_4 : decode cX0_with 4 = .ok (.iaload, 1) := by decide +kernel
theorem dX0_with_5 : decode cX0_with 5 = .ok (.ireturn, 1) := by decide +kernel
theorem dX0_allYes_0 : decode cX0_allYes 0 = .ok (.iconst 1, 1) := by decide +kernel
theorem dX0_allYes_1 : decode cX0_allYes 1 = .ok (.iconst 1, 1) := by decide +kernel
theorem dX0_allYes_2 : decode cX0_allYes 2 = .ok (.iload_n 0, 1) := by decide +kernel
theorem dX0_allYes_3 : decode cX0_allYes 3 = .ok (.ishl, 1) := by decide +kernel
theorem dX0_allYes_4 : decode cX0_allYes 4 = .ok (.ishl, 1) := by decide +kernel
theorem dX0_allYes_5 : decode cX0_allYes 5 = .ok (.iconst 1, 1) := by decide +kernel
theorem dX0_allYes_6 : decode cX0_allYes 6 = .ok (.isub, 1) := by decide +kernel
theorem dX0_allYes_7 : decode cX0_allYes 7 = .ok (.ireturn, 1) := by decide +kernel
theorem dX0_says_0 : decode cX0_says 0 = .ok (.iload_n 0, 1) := by decide +kernel
theorem dX0_says_1 : decode cX0_says 1 = .ok (.iload_n 1, 1) := by decide +kernel
theorem dX0_says_2 : decode cX0_says 2 = .ok (.ishr, 1) := by decide +kernel
theorem dX0_says_3 : decode cX0_says 3 = .ok (.iconst 1, 1) := by decide +kernel
theorem dX0_says_4 : decode cX0_says 4 = .ok (.iand, 1) := by decide +kernel
theorem dX0_says_5 : decode cX0_says 5 = .ok (.ireturn, 1) := by decide +kernel
theorem dX0_flipped_0 : decode cX0_flipped 0 = .ok (.iload_n 0, 1) := by decide +kernel
theorem dX0_flipped_1 : decode cX0_flipped 1 = .ok (.iconst 1, 1) := by decide +kernel
theorem dX0_flipped_2 : decode cX0_flipped 2 = .ok (.iload_n 1, 1) := by decide +kernel
theorem dX0_flipped_3 : decode cX0_flipped 3 = .ok (.ishl, 1) := by decide +kernel
theorem dX0_flipped_4 : decode cX0_flipped 4 = .ok (.ixor, 1) := by decide +kernel
theorem dX0_flipped_5 : decode cX0_flipped 5 = .ok (.ireturn, 1) := by decide +kernel
theorem dX0_opposite_0 : decode cX0_opposite 0 = .ok (.iload_n 1, 1) := by decide +kernel
theorem dX0_opposite_1 : decode cX0_opposite 1 = .ok (.iload_n 0, 1) := by decide +kernel
theorem dX0_opposite_2 : decode cX0_opposite 2 = .ok (.invokestatic 13, 3) := by decide +kernel
theorem dX0_opposite_5 : decode cX0_opposite 5 = .ok (.ixor, 1) := by decide +kernel
theorem dX0_opposite_6 : decode cX0_opposite 6 = .ok (.ireturn, 1) := by decide +kernel
theorem dX0_turned_0 : decode cX0_turned 0 = .ok (.iconst 1, 1) := by decide +kernel
theorem dX0_turned_1 : decode cX0_turned 1 = .ok (.iload_n 1, 1) := by decide +kernel
theorem dX0_turned_2 : decode cX0_turned 2 = .ok (.ishl, 1) := by decide +kernel
theorem dX0_turned_3 : decode cX0_turned 3 = .ok (.istore_n 2, 1) := by decide +kernel
theorem dX0_turned_4 : decode cX0_turned 4 = .ok (.iload_n 0, 1) := by decide +kernel
theorem dX0_turned_5 : decode cX0_turned 5 = .ok (.getstatic 7, 3) := by decide +kernel
theorem dX0_turned_8 : decode cX0_turned 8 = .ok (.iload_n 1, 1) := by decide +kernel
theorem dX0_turned_9 : decode cX0_turned 9 = .ok (.iaload, 1) := by decide +kernel
theorem dX0_turned_10 : decode cX0_turned 10 = .ok (.iand, 1) := by decide +kernel
theorem dX0_turned_11 : decode cX0_turned 11 = .ok (.iload_n 2, 1) := by decide +kernel
theorem dX0_turned_12 : decode cX0_turned 12 = .ok (.ishr, 1) := by decide +kernel
theorem dX0_turned_13 : decode cX0_turned 13 = .ok (.iload_n 0, 1) := by decide +kernel
theorem dX0_turned_14 : decode cX0_turned 14 = .ok (.getstatic 7, 3) := by decide +kernel
theorem dX0_turned_17 : decode cX0_turned 17 = .ok (.iload_n 1, 1) := by decide +kernel
theorem dX0_turned_18 : decode cX0_turned 18 = .ok (.iaload, 1) := by decide +kernel
theorem dX0_turned_19 : decode cX0_turned 19 = .ok (.iconst (-1), 1) := by decide +kernel
theorem dX0_turned_20 : decode cX0_turned 20 = .ok (.ixor, 1) := by decide +kernel
theorem dX0_turned_21 : decode cX0_turned 21 = .ok (.iand, 1) := by decide +kernel
theorem dX0_turned_22 : decode cX0_turned 22 = .ok (.iload_n 2, 1) := by decide +kernel
theorem dX0_turned_23 : decode cX0_turned 23 = .ok (.ishl, 1) := by decide +kernel
theorem dX0_turned_24 : decode cX0_turned 24 = .ok (.ior, 1) := by decide +kernel
theorem dX0_turned_25 : decode cX0_turned 25 = .ok (.ireturn, 1) := by decide +kernel
theorem dX0_dual_0 : decode cX0_dual 0 = .ok (.iload_n 1, 1) := by decide +kernel
theorem dX0_dual_1 : decode cX0_dual 1 = .ok (.istore_n 2, 1) := by decide +kernel
theorem dX0_dual_2 : decode cX0_dual 2 = .ok (.iconst 0, 1) := by decide +kernel
theorem dX0_dual_3 : decode cX0_dual 3 = .ok (.istore_n 3, 1) := by decide +kernel
theorem dX0_dual_4 : decode cX0_dual 4 = .ok (.iload_n 3, 1) := by decide +kernel
theorem dX0_dual_5 : decode cX0_dual 5 = .ok (.iload_n 0, 1) := by decide +kernel
theorem dX0_dual_6 : decode cX0_dual 6 = .ok (.if_icmp .ge 15, 3) := by decide +kernel
theorem dX0_dual_9 : decode cX0_dual 9 = .ok (.iload_n 2, 1) := by decide +kernel
theorem dX0_dual_10 : decode cX0_dual 10 = .ok (.iload_n 3, 1) := by decide +kernel
theorem dX0_dual_11 : decode cX0_dual 11 = .ok (.invokestatic 17, 3) := by decide +kernel
theorem dX0_dual_14 : decode cX0_dual 14 = .ok (.istore_n 2, 1) := by decide +kernel
theorem dX0_dual_15 : decode cX0_dual 15 = .ok (.iinc 3 1, 3) := by decide +kernel
theorem dX0_dual_18 : decode cX0_dual 18 = .ok (.goto (-14), 3) := by decide +kernel
theorem dX0_dual_21 : decode cX0_dual 21 = .ok (.iload_n 0, 1) := by decide +kernel
theorem dX0_dual_22 : decode cX0_dual 22 = .ok (.iload_n 2, 1) := by decide +kernel
theorem dX0_dual_23 : decode cX0_dual 23 = .ok (.invokestatic 21, 3) := by decide +kernel
theorem dX0_dual_26 : decode cX0_dual 26 = .ok (.ireturn, 1) := by decide +kernel
theorem dX0_changedAbout_0 : decode cX0_changedAbout 0 = .ok (.iload_n 1, 1) := by decide +kernel
theorem dX0_changedAbout_1 : decode cX0_changedAbout 1 = .ok (.iload_n 2, 1) := by decide +kernel
theorem dX0_changedAbout_2 : decode cX0_changedAbout 2 = .ok (.invokestatic 24, 3) := by decide +kernel
theorem dX0_changedAbout_5 : decode cX0_changedAbout 5 = .ok (.istore_n 3, 1) := by decide +kernel
theorem dX0_changedAbout_6 : decode cX0_changedAbout 6 = .ok (.iload_n 1, 1) := by decide +kernel
theorem dX0_changedAbout_7 : decode cX0_changedAbout 7 = .ok (.iload_n 2, 1) := by decide +kernel
theorem dX0_changedAbout_8 : decode cX0_changedAbout 8 = .ok (.invokestatic 29, 3) := by decide +kernel
theorem dX0_changedAbout_11 : decode cX0_changedAbout 11 = .ok (.istore 4, 2) := by decide +kernel
theorem dX0_changedAbout_13 : decode cX0_changedAbout 13 = .ok (.getstatic 7, 3) := by decide +kernel
theorem dX0_changedAbout_16 : decode cX0_changedAbout 16 = .ok (.iload_n 3, 1) := by decide +kernel
theorem dX0_changedAbout_17 : decode cX0_changedAbout 17 = .ok (.iaload, 1) := by decide +kernel
theorem dX0_changedAbout_18 : decode cX0_changedAbout 18 = .ok (.getstatic 7, 3) := by decide +kernel
theorem dX0_changedAbout_21 : decode cX0_changedAbout 21 = .ok (.iload 4, 2) := by decide +kernel
theorem dX0_changedAbout_23 : decode cX0_changedAbout 23 = .ok (.iaload, 1) := by decide +kernel
theorem dX0_changedAbout_24 : decode cX0_changedAbout 24 = .ok (.iconst (-1), 1) := by decide +kernel
theorem dX0_changedAbout_25 : decode cX0_changedAbout 25 = .ok (.ixor, 1) := by decide +kernel
theorem dX0_changedAbout_26 : decode cX0_changedAbout 26 = .ok (.iand, 1) := by decide +kernel
theorem dX0_changedAbout_27 : decode cX0_changedAbout 27 = .ok (.istore 5, 2) := by decide +kernel
theorem dX0_changedAbout_29 : decode cX0_changedAbout 29 = .ok (.getstatic 7, 3) := by decide +kernel
theorem dX0_changedAbout_32 : decode cX0_changedAbout 32 = .ok (.iload 4, 2) := by decide +kernel
theorem dX0_changedAbout_34 : decode cX0_changedAbout 34 = .ok (.iaload, 1) := by decide +kernel
theorem dX0_changedAbout_35 : decode cX0_changedAbout 35 = .ok (.getstatic 7, 3) := by decide +kernel
theorem dX0_changedAbout_38 : decode cX0_changedAbout 38 = .ok (.iload_n 3, 1) := by decide +kernel
theorem dX0_changedAbout_39 : decode cX0_changedAbout 39 = .ok (.iaload, 1) := by decide +kernel
theorem dX0_changedAbout_40 : decode cX0_changedAbout 40 = .ok (.iconst (-1), 1) := by decide +kernel
theorem dX0_changedAbout_41 : decode cX0_changedAbout 41 = .ok (.ixor, 1) := by decide +kernel
theorem dX0_changedAbout_42 : decode cX0_changedAbout 42 = .ok (.iand, 1) := by decide +kernel
theorem dX0_changedAbout_43 : decode cX0_changedAbout 43 = .ok (.istore 6, 2) := by decide +kernel
theorem dX0_changedAbout_45 : decode cX0_changedAbout 45 = .ok (.iconst 1, 1) := by decide +kernel
theorem dX0_changedAbout_46 : decode cX0_changedAbout 46 = .ok (.iload 4, 2) := by decide +kernel
theorem dX0_changedAbout_48 : decode cX0_changedAbout 48 = .ok (.ishl, 1) := by decide +kernel
theorem dX0_changedAbout_49 : decode cX0_changedAbout 49 = .ok (.iconst 1, 1) := by decide +kernel
theorem dX0_changedAbout_50 : decode cX0_changedAbout 50 = .ok (.iload_n 3, 1) := by decide +kernel
theorem dX0_changedAbout_51 : decode cX0_changedAbout 51 = .ok (.ishl, 1) := by decide +kernel
theorem dX0_changedAbout_52 : decode cX0_changedAbout 52 = .ok (.isub, 1) := by decide +kernel
theorem dX0_changedAbout_53 : decode cX0_changedAbout 53 = .ok (.istore 7, 2) := by decide +kernel
theorem dX0_changedAbout_55 : decode cX0_changedAbout 55 = .ok (.iload_n 0, 1) := by decide +kernel
theorem dX0_changedAbout_56 : decode cX0_changedAbout 56 = .ok (.iload 5, 2) := by decide +kernel
theorem dX0_changedAbout_58 : decode cX0_changedAbout 58 = .ok (.iload 6, 2) := by decide +kernel
theorem dX0_changedAbout_60 : decode cX0_changedAbout 60 = .ok (.ior, 1) := by decide +kernel
theorem dX0_changedAbout_61 : decode cX0_changedAbout 61 = .ok (.iconst (-1), 1) := by decide +kernel
theorem dX0_changedAbout_62 : decode cX0_changedAbout 62 = .ok (.ixor, 1) := by decide +kernel
theorem dX0_changedAbout_63 : decode cX0_changedAbout 63 = .ok (.iand, 1) := by decide +kernel
theorem dX0_changedAbout_64 : decode cX0_changedAbout 64 = .ok (.iload_n 0, 1) := by decide +kernel
theorem dX0_changedAbout_65 : decode cX0_changedAbout 65 = .ok (.iload 5, 2) := by decide +kernel
theorem dX0_changedAbout_67 : decode cX0_changedAbout 67 = .ok (.iand, 1) := by decide +kernel
theorem dX0_changedAbout_68 : decode cX0_changedAbout 68 = .ok (.iload 7, 2) := by decide +kernel
theorem dX0_changedAbout_70 : decode cX0_changedAbout 70 = .ok (.ishl, 1) := by decide +kernel
theorem dX0_changedAbout_71 : decode cX0_changedAbout 71 = .ok (.ior, 1) := by decide +kernel
theorem dX0_changedAbout_72 : decode cX0_changedAbout 72 = .ok (.iload_n 0, 1) := by decide +kernel
theorem dX0_changedAbout_73 : decode cX0_changedAbout 73 = .ok (.iload 6, 2) := by decide +kernel
theorem dX0_changedAbout_75 : decode cX0_changedAbout 75 = .ok (.iand, 1) := by decide +kernel
theorem dX0_changedAbout_76 : decode cX0_changedAbout 76 = .ok (.iload 7, 2) := by decide +kernel
theorem dX0_changedAbout_78 : decode cX0_changedAbout 78 = .ok (.ishr, 1) := by decide +kernel
theorem dX0_changedAbout_79 : decode cX0_changedAbout 79 = .ok (.ior, 1) := by decide +kernel
theorem dX0_changedAbout_80 : decode cX0_changedAbout 80 = .ok (.ireturn, 1) := by decide +kernel
theorem dX0_isOwnDual_0 : decode cX0_isOwnDual 0 = .ok (.iload_n 0, 1) := by decide +kernel
theorem dX0_isOwnDual_1 : decode cX0_isOwnDual 1 = .ok (.iload_n 1, 1) := by decide +kernel
theorem dX0_isOwnDual_2 : decode cX0_isOwnDual 2 = .ok (.invokestatic 32, 3) := by decide +kernel
theorem dX0_isOwnDual_5 : decode cX0_isOwnDual 5 = .ok (.iload_n 1, 1) := by decide +kernel
theorem dX0_isOwnDual_6 : decode cX0_isOwnDual 6 = .ok (.if_icmp .ne 7, 3) := by decide +kernel
theorem dX0_isOwnDual_9 : decode cX0_isOwnDual 9 = .ok (.iconst 1, 1) := by decide +kernel
theorem dX0_isOwnDual_10 : decode cX0_isOwnDual 10 = .ok (.goto 4, 3) := by decide +kernel
theorem dX0_isOwnDual_13 : decode cX0_isOwnDual 13 = .ok (.iconst 0, 1) := by decide +kernel
theorem dX0_isOwnDual_14 : decode cX0_isOwnDual 14 = .ok (.ireturn, 1) := by decide +kernel
theorem dX0_isRising_0 : decode cX0_isRising 0 = .ok (.iconst 0, 1) := by decide +kernel
theorem dX0_isRising_1 : decode cX0_isRising 1 = .ok (.istore_n 2, 1) := by decide +kernel
theorem dX0_isRising_2 : decode cX0_isRising 2 = .ok (.iload_n 2, 1) := by decide +kernel
theorem dX0_isRising_3 : decode cX0_isRising 3 = .ok (.iload_n 0, 1) := by decide +kernel
theorem dX0_isRising_4 : decode cX0_isRising 4 = .ok (.if_icmp .ge 19, 3) := by decide +kernel
theorem dX0_isRising_7 : decode cX0_isRising 7 = .ok (.iload_n 1, 1) := by decide +kernel
theorem dX0_isRising_8 : decode cX0_isRising 8 = .ok (.iload_n 2, 1) := by decide +kernel
theorem dX0_isRising_9 : decode cX0_isRising 9 = .ok (.invokestatic 35, 3) := by decide +kernel
theorem dX0_isRising_12 : decode cX0_isRising 12 = .ok (.ifCond .eq 5, 3) := by decide +kernel
theorem dX0_isRising_15 : decode cX0_isRising 15 = .ok (.iconst 0, 1) := by decide +kernel
theorem dX0_isRising_16 : decode cX0_isRising 16 = .ok (.ireturn, 1) := by decide +kernel
theorem dX0_isRising_17 : decode cX0_isRising 17 = .ok (.iinc 2 1, 3) := by decide +kernel
theorem dX0_isRising_20 : decode cX0_isRising 20 = .ok (.goto (-18), 3) := by decide +kernel
theorem dX0_isRising_23 : decode cX0_isRising 23 = .ok (.iconst 1, 1) := by decide +kernel
theorem dX0_isRising_24 : decode cX0_isRising 24 = .ok (.ireturn, 1) := by decide +kernel
theorem dX0_losesBy_0 : decode cX0_losesBy 0 = .ok (.iload_n 0, 1) := by decide +kernel
theorem dX0_losesBy_1 : decode cX0_losesBy 1 = .ok (.iload_n 1, 1) := by decide +kernel
theorem dX0_losesBy_2 : decode cX0_losesBy 2 = .ok (.invokestatic 17, 3) := by decide +kernel
theorem dX0_losesBy_5 : decode cX0_losesBy 5 = .ok (.iload_n 0, 1) := by decide +kernel
theorem dX0_losesBy_6 : decode cX0_losesBy 6 = .ok (.iconst (-1), 1) := by decide +kernel
theorem dX0_losesBy_7 : decode cX0_losesBy 7 = .ok (.ixor, 1) := by decide +kernel
theorem dX0_losesBy_8 : decode cX0_losesBy 8 = .ok (.iand, 1) := by decide +kernel
theorem dX0_losesBy_9 : decode cX0_losesBy 9 = .ok (.getstatic 7, 3) := by decide +kernel
theorem dX0_losesBy_12 : decode cX0_losesBy 12 = .ok (.iload_n 1, 1) := by decide +kernel
theorem dX0_losesBy_13 : decode cX0_losesBy 13 = .ok (.iaload, 1) := by decide +kernel
theorem dX0_losesBy_14 : decode cX0_losesBy 14 = .ok (.iand, 1) := by decide +kernel
theorem dX0_losesBy_15 : decode cX0_losesBy 15 = .ok (.ireturn, 1) := by decide +kernel
theorem dX0_winsBy_0 : decode cX0_winsBy 0 = .ok (.iload_n 0, 1) := by decide +kernel
theorem dX0_winsBy_1 : decode cX0_winsBy 1 = .ok (.iload_n 1, 1) := by decide +kernel
theorem dX0_winsBy_2 : decode cX0_winsBy 2 = .ok (.invokestatic 21, 3) := by decide +kernel
theorem dX0_winsBy_5 : decode cX0_winsBy 5 = .ok (.iload_n 2, 1) := by decide +kernel
theorem dX0_winsBy_6 : decode cX0_winsBy 6 = .ok (.invokestatic 35, 3) := by decide +kernel
theorem dX0_winsBy_9 : decode cX0_winsBy 9 = .ok (.ireturn, 1) := by decide +kernel
theorem dX0_swingsOf_0 : decode cX0_swingsOf 0 = .ok (.iload_n 1, 1) := by decide +kernel
theorem dX0_swingsOf_1 : decode cX0_swingsOf 1 = .ok (.iload_n 2, 1) := by decide +kernel
theorem dX0_swingsOf_2 : decode cX0_swingsOf 2 = .ok (.invokestatic 35, 3) := by decide +kernel
theorem dX0_swingsOf_5 : decode cX0_swingsOf 5 = .ok (.invokestatic 38, 3) := by decide +kernel
theorem dX0_swingsOf_8 : decode cX0_swingsOf 8 = .ok (.iload_n 0, 1) := by decide +kernel
theorem dX0_swingsOf_9 : decode cX0_swingsOf 9 = .ok (.iload_n 1, 1) := by decide +kernel
theorem dX0_swingsOf_10 : decode cX0_swingsOf 10 = .ok (.iload_n 2, 1) := by decide +kernel
theorem dX0_swingsOf_11 : decode cX0_swingsOf 11 = .ok (.invokestatic 43, 3) := by decide +kernel
theorem dX0_swingsOf_14 : decode cX0_swingsOf 14 = .ok (.invokestatic 38, 3) := by decide +kernel
theorem dX0_swingsOf_17 : decode cX0_swingsOf 17 = .ok (.iadd, 1) := by decide +kernel
theorem dX0_swingsOf_18 : decode cX0_swingsOf 18 = .ok (.ireturn, 1) := by decide +kernel
theorem dX0_leastOnes_0 : decode cX0_leastOnes 0 = .ok (.iconst 0, 1) := by decide +kernel
theorem dX0_leastOnes_1 : decode cX0_leastOnes 1 = .ok (.istore_n 2, 1) := by decide +kernel
theorem dX0_leastOnes_2 : decode cX0_leastOnes 2 = .ok (.iconst 0, 1) := by decide +kernel
theorem dX0_leastOnes_3 : decode cX0_leastOnes 3 = .ok (.istore_n 3, 1) := by decide +kernel
theorem dX0_leastOnes_4 : decode cX0_leastOnes 4 = .ok (.iload_n 3, 1) := by decide +kernel
theorem dX0_leastOnes_5 : decode cX0_leastOnes 5 = .ok (.iconst 1, 1) := by decide +kernel
theorem dX0_leastOnes_6 : decode cX0_leastOnes 6 = .ok (.iload_n 0, 1) := by decide +kernel
theorem dX0_leastOnes_7 : decode cX0_leastOnes 7 = .ok (.ishl, 1) := by decide +kernel
theorem dX0_leastOnes_8 : decode cX0_leastOnes 8 = .ok (.if_icmp .ge 32, 3) := by decide +kernel
theorem dX0_leastOnes_11 : decode cX0_leastOnes 11 = .ok (.iload_n 1, 1) := by decide +kernel
theorem dX0_leastOnes_12 : decode cX0_leastOnes 12 = .ok (.iload_n 3, 1) := by decide +kernel
theorem dX0_leastOnes_13 : decode cX0_leastOnes 13 = .ok (.invokestatic 47, 3) := by decide +kernel
theorem dX0_leastOnes_16 : decode cX0_leastOnes 16 = .ok (.iconst 1, 1) := by decide +kernel
theorem dX0_leastOnes_17 : decode cX0_leastOnes 17 = .ok (.if_icmp .ne 17, 3) := by decide +kernel
theorem dX0_leastOnes_20 : decode cX0_leastOnes 20 = .ok (.iload_n 1, 1) := by decide +kernel
theorem dX0_leastOnes_21 : decode cX0_leastOnes 21 = .ok (.iload_n 3, 1) := by decide +kernel
theorem dX0_leastOnes_22 : decode cX0_leastOnes 22 = .ok (.invokestatic 50, 3) := by decide +kernel
theorem dX0_leastOnes_25 : decode cX0_leastOnes 25 = .ok (.ifCond .ne 9, 3) := by decide +kernel
theorem dX0_leastOnes_28 : decode cX0_leastOnes 28 = .ok (.iload_n 2, 1) := by decide +kernel
theorem dX0_leastOnes_29 : decode cX0_leastOnes 29 = .ok (.iconst 1, 1) := by decide +kernel
theorem dX0_leastOnes_30 : decode cX0_leastOnes 30 = .ok (.iload_n 3, 1) := by decide +kernel
theorem dX0_leastOnes_31 : decode cX0_leastOnes 31 = .ok (.ishl, 1) := by decide +kernel
theorem dX0_leastOnes_32 : decode cX0_leastOnes 32 = .ok (.ior, 1) := by decide +kernel
theorem dX0_leastOnes_33 : decode cX0_leastOnes 33 = .ok (.istore_n 2, 1) := by decide +kernel
theorem dX0_leastOnes_34 : decode cX0_leastOnes 34 = .ok (.iinc 3 1, 3) := by decide +kernel
theorem dX0_leastOnes_37 : decode cX0_leastOnes 37 = .ok (.goto (-33), 3) := by decide +kernel
theorem dX0_leastOnes_40 : decode cX0_leastOnes 40 = .ok (.iload_n 2, 1) := by decide +kernel
theorem dX0_leastOnes_41 : decode cX0_leastOnes 41 = .ok (.ireturn, 1) := by decide +kernel
theorem dX0_hasYesWithin_0 : decode cX0_hasYesWithin 0 = .ok (.iconst 0, 1) := by decide +kernel
theorem dX0_hasYesWithin_1 : decode cX0_hasYesWithin 1 = .ok (.istore_n 2, 1) := by decide +kernel
theorem dX0_hasYesWithin_2 : decode cX0_hasYesWithin 2 = .ok (.iload_n 2, 1) := by decide +kernel
theorem dX0_hasYesWithin_3 : decode cX0_hasYesWithin 3 = .ok (.iload_n 1, 1) := by decide +kernel
theorem dX0_hasYesWithin_4 : decode cX0_hasYesWithin 4 = .ok (.if_icmp .ge 27, 3) := by decide +kernel
theorem dX0_hasYesWithin_7 : decode cX0_hasYesWithin 7 = .ok (.iload_n 2, 1) := by decide +kernel
theorem dX0_hasYesWithin_8 : decode cX0_hasYesWithin 8 = .ok (.iload_n 1, 1) := by decide +kernel
theorem dX0_hasYesWithin_9 : decode cX0_hasYesWithin 9 = .ok (.iand, 1) := by decide +kernel
theorem dX0_hasYesWithin_10 : decode cX0_hasYesWithin 10 = .ok (.iload_n 2, 1) := by decide +kernel
theorem dX0_hasYesWithin_11 : decode cX0_hasYesWithin 11 = .ok (.if_icmp .ne 14, 3) := by decide +kernel
theorem dX0_hasYesWithin_14 : decode cX0_hasYesWithin 14 = .ok (.iload_n 0, 1) := by decide +kernel
theorem dX0_hasYesWithin_15 : decode cX0_hasYesWithin 15 = .ok (.iload_n 2, 1) := by decide +kernel
theorem dX0_hasYesWithin_16 : decode cX0_hasYesWithin 16 = .ok (.invokestatic 47, 3) := by decide +kernel
theorem dX0_hasYesWithin_19 : decode cX0_hasYesWithin 19 = .ok (.iconst 1, 1) := by decide +kernel
theorem dX0_hasYesWithin_20 : decode cX0_hasYesWithin 20 = .ok (.if_icmp .ne 5, 3) := by decide +kernel
theorem dX0_hasYesWithin_23 : decode cX0_hasYesWithin 23 = .ok (.iconst 1, 1) := by decide +kernel
theorem dX0_hasYesWithin_24 : decode cX0_hasYesWithin 24 = .ok (.ireturn, 1) := by decide +kernel
theorem dX0_hasYesWithin_25 : decode cX0_hasYesWithin 25 = .ok (.iinc 2 1, 3) := by decide +kernel
theorem dX0_hasYesWithin_28 : decode cX0_hasYesWithin 28 = .ok (.goto (-26), 3) := by decide +kernel
theorem dX0_hasYesWithin_31 : decode cX0_hasYesWithin 31 = .ok (.iconst 0, 1) := by decide +kernel
theorem dX0_hasYesWithin_32 : decode cX0_hasYesWithin 32 = .ok (.ireturn, 1) := by decide +kernel
theorem dX1_init_0 : decode cX1_init 0 = .ok (.aload_n 0, 1) := by decide +kernel
theorem dX1_init_1 : decode cX1_init 1 = .ok (.invokespecial 3, 3) := by decide +kernel
theorem dX1_init_4 : decode cX1_init 4 = .ok (.aload_n 0, 1) := by decide +kernel
theorem dX1_init_5 : decode cX1_init 5 = .ok (.sipush 2048, 3) := by decide +kernel
theorem dX1_init_8 : decode cX1_init 8 = .ok (.newarray .int, 2) := by decide +kernel
theorem dX1_init_10 : decode cX1_init 10 = .ok (.putfield 11, 3) := by decide +kernel
theorem dX1_init_13 : decode cX1_init 13 = .ok (.aload_n 0, 1) := by decide +kernel
theorem dX1_init_14 : decode cX1_init 14 = .ok (.sipush 768, 3) := by decide +kernel
theorem dX1_init_17 : decode cX1_init 17 = .ok (.newarray .int, 2) := by decide +kernel
theorem dX1_init_19 : decode cX1_init 19 = .ok (.putfield 15, 3) := by decide +kernel
theorem dX1_init_22 : decode cX1_init 22 = .ok (.aload_n 0, 1) := by decide +kernel
theorem dX1_init_23 : decode cX1_init 23 = .ok (.sipush 768, 3) := by decide +kernel
theorem dX1_init_26 : decode cX1_init 26 = .ok (.newarray .int, 2) := by decide +kernel
theorem dX1_init_28 : decode cX1_init 28 = .ok (.putfield 18, 3) := by decide +kernel
theorem dX1_init_31 : decode cX1_init 31 = .ok (.aload_n 0, 1) := by decide +kernel
theorem dX1_init_32 : decode cX1_init 32 = .ok (.iconst 0, 1) := by decide +kernel
theorem dX1_init_33 : decode cX1_init 33 = .ok (.putfield 21, 3) := by decide +kernel
theorem dX1_init_36 : decode cX1_init 36 = .ok (.return_, 1) := by decide +kernel
theorem dX1_spread_0 : decode cX1_spread 0 = .ok (.aload_n 0, 1) := by decide +kernel
theorem dX1_spread_1 : decode cX1_spread 1 = .ok (.invokevirtual 25, 3) := by decide +kernel
theorem dX1_spread_4 : decode cX1_spread 4 = .ok (.aload_n 0, 1) := by decide +kernel
theorem dX1_spread_5 : decode cX1_spread 5 = .ok (.iload_n 2, 1) := by decide +kernel
theorem dX1_spread_6 : decode cX1_spread 6 = .ok (.iconst 0, 1) := by decide +kernel
theorem dX1_spread_7 : decode cX1_spread 7 = .ok (.invokevirtual 28, 3) := by decide +kernel
theorem dX1_spread_10 : decode cX1_spread 10 = .ok (.iconst 0, 1) := by decide +kernel
theorem dX1_spread_11 : decode cX1_spread 11 = .ok (.istore_n 3, 1) := by decide +kernel
theorem dX1_spread_12 : decode cX1_spread 12 = .ok (.iload_n 3, 1) := by decide +kernel
theorem dX1_spread_13 : decode cX1_spread 13 = .ok (.sipush 768, 3) := by decide +kernel
theorem dX1_spread_16 : decode cX1_spread 16 = .ok (.if_icmp .ge 36, 3) := by decide +kernel
theorem dX1_spread_19 : decode cX1_spread 19 = .ok (.iload_n 3, 1) := by decide +kernel
theorem dX1_spread_20 : decode cX1_spread 20 = .ok (.aload_n 0, 1) := by decide +kernel
theorem dX1_spread_21 : decode cX1_spread 21 = .ok (.getfield 21, 3) := by decide +kernel
theorem dX1_spread_24 : decode cX1_spread 24 = .ok (.if_icmp .ge 28, 3) := by decide +kernel
theorem dX1_spread_27 : decode cX1_spread 27 = .ok (.aload_n 0, 1) := by decide +kernel
theorem dX1_spread_28 : decode cX1_spread 28 = .ok (.iload_n 1, 1) := by decide +kernel
theorem dX1_spread_29 : decode cX1_spread 29 = .ok (.aload_n 0, 1) := by decide +kernel
theorem dX1_spread_30 : decode cX1_spread 30 = .ok (.getfield 15, 3) := by decide +kernel
theorem dX1_spread_33 : decode cX1_spread 33 = .ok (.iload_n 3, 1) := by decide +kernel
theorem dX1_spread_34 : decode cX1_spread 34 = .ok (.iaload, 1) := by decide +kernel
theorem dX1_spread_35 : decode cX1_spread 35 = .ok (.aload_n 0, 1) := by decide +kernel
theorem dX1_spread_36 : decode cX1_spread 36 = .ok (.getfield 18, 3) := by decide +kernel
theorem dX1_spread_39 : decode cX1_spread 39 = .ok (.iload_n 3, 1) := by decide +kernel
theorem dX1_spread_40 : decode cX1_spread 40 = .ok (.iaload, 1) := by decide +kernel
theorem dX1_spread_41 : decode cX1_spread 41 = .ok (.iconst 1, 1) := by decide +kernel
theorem dX1_spread_42 : decode cX1_spread 42 = .ok (.iadd, 1) := by decide +kernel
theorem dX1_spread_43 : decode cX1_spread 43 = .ok (.invokevirtual 32, 3) := by decide +kernel
theorem dX1_spread_46 : decode cX1_spread 46 = .ok (.iinc 3 1, 3) := by decide +kernel
theorem dX1_spread_49 : decode cX1_spread 49 = .ok (.goto (-37), 3) := by decide +kernel
theorem dX1_spread_52 : decode cX1_spread 52 = .ok (.return_, 1) := by decide +kernel
theorem dX1_stepsTo_0 : decode cX1_stepsTo 0 = .ok (.iconst 0, 1) := by decide +kernel
theorem dX1_stepsTo_1 : decode cX1_stepsTo 1 = .ok (.istore_n 2, 1) := by decide +kernel
theorem dX1_stepsTo_2 : decode cX1_stepsTo 2 = .ok (.iload_n 2, 1) := by decide +kernel
theorem dX1_stepsTo_3 : decode cX1_stepsTo 3 = .ok (.aload_n 0, 1) := by decide +kernel
theorem dX1_stepsTo_4 : decode cX1_stepsTo 4 = .ok (.getfield 21, 3) := by decide +kernel
theorem dX1_stepsTo_7 : decode cX1_stepsTo 7 = .ok (.if_icmp .ge 26, 3) := by decide +kernel
theorem dX1_stepsTo_10 : decode cX1_stepsTo 10 = .ok (.aload_n 0, 1) := by decide +kernel
theorem dX1_stepsTo_11 : decode cX1_stepsTo 11 = .ok (.getfield 15, 3) := by decide +kernel
theorem dX1_stepsTo_14 : decode cX1_stepsTo 14 = .ok (.iload_n 2, 1) := by decide +kernel
theorem dX1_stepsTo_15 : decode cX1_stepsTo 15 = .ok (.iaload, 1) := by decide +kernel
theorem dX1_stepsTo_16 : decode cX1_stepsTo 16 = .ok (.iload_n 1, 1) := by decide +kernel
theorem dX1_stepsTo_17 : decode cX1_stepsTo 17 = .ok (.if_icmp .ne 10, 3) := by decide +kernel
theorem dX1_stepsTo_20 : decode cX1_stepsTo 20 = .ok (.aload_n 0, 1) := by decide +kernel
theorem dX1_stepsTo_21 : decode cX1_stepsTo 21 = .ok (.getfield 18, 3) := by decide +kernel
theorem dX1_stepsTo_24 : decode cX1_stepsTo 24 = .ok (.iload_n 2, 1) := by decide +kernel
theorem dX1_stepsTo_25 : decode cX1_stepsTo 25 = .ok (.iaload, 1) := by decide +kernel
theorem dX1_stepsTo_26 : decode cX1_stepsTo 26 = .ok (.ireturn, 1) := by decide +kernel
theorem dX1_stepsTo_27 : decode cX1_stepsTo 27 = .ok (.iinc 2 1, 3) := by decide +kernel
theorem dX1_stepsTo_30 : decode cX1_stepsTo 30 = .ok (.goto (-28), 3) := by decide +kernel
theorem dX1_stepsTo_33 : decode cX1_stepsTo 33 = .ok (.bipush (-5), 2) := by decide +kernel
theorem dX1_stepsTo_35 : decode cX1_stepsTo 35 = .ok (.ireturn, 1) := by decide +kernel
theorem dX1_forget_0 : decode cX1_forget 0 = .ok (.iconst 0, 1) := by decide +kernel
theorem dX1_forget_1 : decode cX1_forget 1 = .ok (.istore_n 1, 1) := by decide +kernel
theorem dX1_forget_2 : decode cX1_forget 2 = .ok (.iload_n 1, 1) := by decide +kernel
theorem dX1_forget_3 : decode cX1_forget 3 = .ok (.aload_n 0, 1) := by decide +kernel
theorem dX1_forget_4 : decode cX1_forget 4 = .ok (.getfield 21, 3) := by decide +kernel
theorem dX1_forget_7 : decode cX1_forget 7 = .ok (.if_icmp .ge 24, 3) := by decide +kernel
theorem dX1_forget_10 : decode cX1_forget 10 = .ok (.aload_n 0, 1) := by decide +kernel
theorem dX1_forget_11 : decode cX1_forget 11 = .ok (.getfield 11, 3) := by decide +kernel
theorem dX1_forget_14 : decode cX1_forget 14 = .ok (.aload_n 0, 1) := by decide +kernel
theorem dX1_forget_15 : decode cX1_forget 15 = .ok (.getfield 15, 3) := by decide +kernel
theorem dX1_forget_18 : decode cX1_forget 18 = .ok (.iload_n 1, 1) := by decide +kernel
theorem dX1_forget_19 : decode cX1_forget 19 = .ok (.iaload, 1) := by decide +kernel
theorem dX1_forget_20 : decode cX1_forget 20 = .ok (.bipush 32, 2) := by decide +kernel
theorem dX1_forget_22 : decode cX1_forget 22 = .ok (.idiv, 1) := by decide +kernel
theorem dX1_forget_23 : decode cX1_forget 23 = .ok (.iconst 0, 1) := by decide +kernel
theorem dX1_forget_24 : decode cX1_forget 24 = .ok (.iastore, 1) := by decide +kernel
theorem dX1_forget_25 : decode cX1_forget 25 = .ok (.iinc 1 1, 3) := by decide +kernel
theorem dX1_forget_28 : decode cX1_forget 28 = .ok (.goto (-26), 3) := by decide +kernel
theorem dX1_forget_31 : decode cX1_forget 31 = .ok (.aload_n 0, 1) := by decide +kernel
theorem dX1_forget_32 : decode cX1_forget 32 = .ok (.iconst 0, 1) := by decide +kernel
theorem dX1_forget_33 : decode cX1_forget 33 = .ok (.putfield 21, 3) := by decide +kernel
theorem dX1_forget_36 : decode cX1_forget 36 = .ok (.return_, 1) := by decide +kernel
theorem dX1_meetAllBeside_0 : decode cX1_meetAllBeside 0 = .ok (.iconst 0, 1) := by decide +kernel
theorem dX1_meetAllBeside_1 : decode cX1_meetAllBeside 1 = .ok (.istore 4, 2) := by decide +kernel
theorem dX1_meetAllBeside_3 : decode cX1_meetAllBeside 3 = .ok (.iload 4, 2) := by decide +kernel
theorem dX1_meetAllBeside_5 : decode cX1_meetAllBeside 5 = .ok (.iload_n 1, 1) := by decide +kernel
theorem dX1_meetAllBeside_6 : decode cX1_meetAllBeside 6 = .ok (.if_icmp .ge 20, 3) := by decide +kernel
theorem dX1_meetAllBeside_9 : decode cX1_meetAllBeside 9 = .ok (.aload_n 0, 1) := by decide +kernel
theorem dX1_meetAllBeside_10 : decode cX1_meetAllBeside 10 = .ok (.iload_n 2, 1) := by decide +kernel
theorem dX1_meetAllBeside_11 : decode cX1_meetAllBeside 11 = .ok (.iload 4, 2) := by decide +kernel
theorem dX1_meetAllBeside_13 : decode cX1_meetAllBeside 13 = .ok (.invokestatic 36, 3) := by decide +kernel
theorem dX1_meetAllBeside_16 : decode cX1_meetAllBeside 16 = .ok (.iload_n 3, 1) := by decide +kernel
theorem dX1_meetAllBeside_17 : decode cX1_meetAllBeside 17 = .ok (.invokevirtual 28, 3) := by decide +kernel
theorem dX1_meetAllBeside_20 : decode cX1_meetAllBeside 20 = .ok (.iinc 4 1, 3) := by decide +kernel
theorem dX1_meetAllBeside_23 : decode cX1_meetAllBeside 23 = .ok (.goto (-20), 3) := by decide +kernel
theorem dX1_meetAllBeside_26 : decode cX1_meetAllBeside 26 = .ok (.iconst 0, 1) := by decide +kernel
theorem dX1_meetAllBeside_27 : decode cX1_meetAllBeside 27 = .ok (.istore 4, 2) := by decide +kernel
theorem dX1_meetAllBeside_29 : decode cX1_meetAllBeside 29 = .ok (.iload 4, 2) := by decide +kernel
theorem dX1_meetAllBeside_31 : decode cX1_meetAllBeside 31 = .ok (.iload_n 1, 1) := by decide +kernel
theorem dX1_meetAllBeside_32 : decode cX1_meetAllBeside 32 = .ok (.iconst 1, 1) := by decide +kernel
theorem dX1_meetAllBeside_33 : decode cX1_meetAllBeside 33 = .ok (.isub, 1) := by decide +kernel
theorem dX1_meetAllBeside_34 : decode cX1_meetAllBeside 34 = .ok (.if_icmp .ge 24, 3) := by decide +kernel
theorem dX1_meetAllBeside_37 : decode cX1_meetAllBeside 37 = .ok (.aload_n 0, 1) := by decide +kernel
theorem dX1_meetAllBeside_38 : decode cX1_meetAllBeside 38 = .ok (.iload_n 2, 1) := by decide +kernel
theorem dX1_meetAllBeside_39 : decode cX1_meetAllBeside 39 = .ok (.iload 4, 2) := by decide +kernel
theorem dX1_meetAllBeside_41 : decode cX1_meetAllBeside 41 = .ok (.iload 4, 2) := by decide +kernel
theorem dX1_meetAllBeside_43 : decode cX1_meetAllBeside 43 = .ok (.iconst 1, 1) := by decide +kernel
theorem dX1_meetAllBeside_44 : decode cX1_meetAllBeside 44 = .ok (.iadd, 1) := by decide +kernel
theorem dX1_meetAllBeside_45 : decode cX1_meetAllBeside 45 = .ok (.invokestatic 42, 3) := by decide +kernel
theorem dX1_meetAllBeside_48 : decode cX1_meetAllBeside 48 = .ok (.iload_n 3, 1) := by decide +kernel
theorem dX1_meetAllBeside_49 : decode cX1_meetAllBeside 49 = .ok (.invokevirtual 28, 3) := by decide +kernel
theorem dX1_meetAllBeside_52 : decode cX1_meetAllBeside 52 = .ok (.iinc 4 1, 3) := by decide +kernel
theorem dX1_meetAllBeside_55 : decode cX1_meetAllBeside 55 = .ok (.goto (-26), 3) := by decide +kernel
theorem dX1_meetAllBeside_58 : decode cX1_meetAllBeside 58 = .ok (.aload_n 0, 1) := by decide +kernel
theorem dX1_meetAllBeside_59 : decode cX1_meetAllBeside 59 = .ok (.iload_n 1, 1) := by decide +kernel
theorem dX1_meetAllBeside_60 : decode cX1_meetAllBeside 60 = .ok (.iload_n 2, 1) := by decide +kernel
theorem dX1_meetAllBeside_61 : decode cX1_meetAllBeside 61 = .ok (.invokestatic 46, 3) := by decide +kernel
theorem dX1_meetAllBeside_64 : decode cX1_meetAllBeside 64 = .ok (.iload_n 3, 1) := by decide +kernel
theorem dX1_meetAllBeside_65 : decode cX1_meetAllBeside 65 = .ok (.invokevirtual 28, 3) := by decide +kernel
theorem dX1_meetAllBeside_68 : decode cX1_meetAllBeside 68 = .ok (.aload_n 0, 1) := by decide +kernel
theorem dX1_meetAllBeside_69 : decode cX1_meetAllBeside 69 = .ok (.iload_n 1, 1) := by decide +kernel
theorem dX1_meetAllBeside_70 : decode cX1_meetAllBeside 70 = .ok (.iload_n 2, 1) := by decide +kernel
theorem dX1_meetAllBeside_71 : decode cX1_meetAllBeside 71 = .ok (.invokestatic 49, 3) := by decide +kernel
theorem dX1_meetAllBeside_74 : decode cX1_meetAllBeside 74 = .ok (.iload_n 3, 1) := by decide +kernel
theorem dX1_meetAllBeside_75 : decode cX1_meetAllBeside 75 = .ok (.invokevirtual 28, 3) := by decide +kernel
theorem dX1_meetAllBeside_78 : decode cX1_meetAllBeside 78 = .ok (.return_, 1) := by decide +kernel
theorem dX1_meet_0 : decode cX1_meet 0 = .ok (.iload_n 1, 1) := by decide +kernel
theorem dX1_meet_1 : decode cX1_meet 1 = .ok (.bipush 32, 2) := by decide +kernel
theorem dX1_meet_3 : decode cX1_meet 3 = .ok (.idiv, 1) := by decide +kernel
theorem dX1_meet_4 : decode cX1_meet 4 = .ok (.istore_n 3, 1) := by decide +kernel
theorem dX1_meet_5 : decode cX1_meet 5 = .ok (.iconst 1, 1) := by decide +kernel
theorem dX1_meet_6 : decode cX1_meet 6 = .ok (.iload_n 1, 1) := by decide +kernel
theorem dX1_meet_7 : decode cX1_meet 7 = .ok (.bipush 32, 2) := by decide +kernel
theorem dX1_meet_9 : decode cX1_meet 9 = .ok (.irem, 1) := by decide +kernel
theorem dX1_meet_10 : decode cX1_meet 10 = .ok (.ishl, 1) := by decide +kernel
theorem dX1_meet_11 : decode cX1_meet 11 = .ok (.istore 4, 2) := by decide +kernel
theorem dX1_meet_13 : decode cX1_meet 13 = .ok (.aload_n 0, 1) := by decide +kernel
theorem dX1_meet_14 : decode cX1_meet 14 = .ok (.getfield 11, 3) := by decide +kernel
theorem dX1_meet_17 : decode cX1_meet 17 = .ok (.iload_n 3, 1) := by decide +kernel
theorem dX1_meet_18 : decode cX1_meet 18 = .ok (.iaload, 1) := by decide +kernel
theorem dX1_meet_19 : decode cX1_meet 19 = .ok (.iload 4, 2) := by decide +kernel
theorem dX1_meet_21 : decode cX1_meet 21 = .ok (.iand, 1) := by decide +kernel
theorem dX1_meet_22 : decode cX1_meet 22 = .ok (.ifCond .ne 13, 3) := by decide +kernel
theorem dX1_meet_25 : decode cX1_meet 25 = .ok (.aload_n 0, 1) := by decide +kernel
theorem dX1_meet_26 : decode cX1_meet 26 = .ok (.getfield 21, 3) := by decide +kernel
theorem dX1_meet_29 : decode cX1_meet 29 = .ok (.sipush 768, 3) := by decide +kernel
theorem dX1_meet_32 : decode cX1_meet 32 = .ok (.if_icmp .lt 4, 3) := by decide +kernel
theorem dX1_meet_35 : decode cX1_meet 35 = .ok (.return_, 1) := by decide +kernel
theorem dX1_meet_36 : decode cX1_meet 36 = .ok (.aload_n 0, 1) := by decide +kernel
theorem dX1_meet_37 : decode cX1_meet 37 = .ok (.getfield 11, 3) := by decide +kernel
theorem dX1_meet_40 : decode cX1_meet 40 = .ok (.iload_n 3, 1) := by decide +kernel
theorem dX1_meet_41 : decode cX1_meet 41 = .ok (.dup2, 1) := by decide +kernel
theorem dX1_meet_42 : decode cX1_meet 42 = .ok (.iaload, 1) := by decide +kernel
theorem dX1_meet_43 : decode cX1_meet 43 = .ok (.iload 4, 2) := by decide +kernel
theorem dX1_meet_45 : decode cX1_meet 45 = .ok (.ior, 1) := by decide +kernel
theorem dX1_meet_46 : decode cX1_meet 46 = .ok (.iastore, 1) := by decide +kernel
theorem dX1_meet_47 : decode cX1_meet 47 = .ok (.aload_n 0, 1) := by decide +kernel
theorem dX1_meet_48 : decode cX1_meet 48 = .ok (.getfield 15, 3) := by decide +kernel
theorem dX1_meet_51 : decode cX1_meet 51 = .ok (.aload_n 0, 1) := by decide +kernel
theorem dX1_meet_52 : decode cX1_meet 52 = .ok (.getfield 21, 3) := by decide +kernel
theorem dX1_meet_55 : decode cX1_meet 55 = .ok (.iload_n 1, 1) := by decide +kernel
theorem dX1_meet_56 : decode cX1_meet 56 = .ok (.iastore, 1) := by decide +kernel
theorem dX1_meet_57 : decode cX1_meet 57 = .ok (.aload_n 0, 1) := by decide +kernel
theorem dX1_meet_58 : decode cX1_meet 58 = .ok (.getfield 18, 3) := by decide +kernel
theorem dX1_meet_61 : decode cX1_meet 61 = .ok (.aload_n 0, 1) := by decide +kernel
theorem dX1_meet_62 : decode cX1_meet 62 = .ok (.getfield 21, 3) := by decide +kernel
theorem dX1_meet_65 : decode cX1_meet 65 = .ok (.iload_n 2, 1) := by decide +kernel
theorem dX1_meet_66 : decode cX1_meet 66 = .ok (.iastore, 1) := by decide +kernel
theorem dX1_meet_67 : decode cX1_meet 67 = .ok (.aload_n 0, 1) := by decide +kernel
theorem dX1_meet_68 : decode cX1_meet 68 = .ok (.dup, 1) := by decide +kernel
theorem dX1_meet_69 : decode cX1_meet 69 = .ok (.getfield 21, 3) := by decide +kernel
theorem dX1_meet_72 : decode cX1_meet 72 = .ok (.iconst 1, 1) := by decide +kernel
theorem dX1_meet_73 : decode cX1_meet 73 = .ok (.iadd, 1) := by decide +kernel
theorem dX1_meet_74 : decode cX1_meet 74 = .ok (.putfield 21, 3) := by decide +kernel
theorem dX1_meet_77 : decode cX1_meet 77 = .ok (.return_, 1) := by decide +kernel
theorem dX2_init_0 : decode cX2_init 0 = .ok (.aload_n 0, 1) := by decide +kernel
theorem dX2_init_1 : decode cX2_init 1 = .ok (.invokespecial 1, 3) := by decide +kernel
theorem dX2_init_4 : decode cX2_init 4 = .ok (.aload_n 0, 1) := by decide +kernel
theorem dX2_init_5 : decode cX2_init 5 = .ok (.iconst 0, 1) := by decide +kernel
theorem dX2_init_6 : decode cX2_init 6 = .ok (.putfield 7, 3) := by decide +kernel
theorem dX2_init_9 : decode cX2_init 9 = .ok (.aload_n 0, 1) := by decide +kernel
theorem dX2_init_10 : decode cX2_init 10 = .ok (.iload_n 1, 1) := by decide +kernel
theorem dX2_init_11 : decode cX2_init 11 = .ok (.newarray .int, 2) := by decide +kernel
theorem dX2_init_13 : decode cX2_init 13 = .ok (.putfield 13, 3) := by decide +kernel
theorem dX2_init_16 : decode cX2_init 16 = .ok (.aload_n 0, 1) := by decide +kernel
theorem dX2_init_17 : decode cX2_init 17 = .ok (.iload_n 1, 1) := by decide +kernel
theorem dX2_init_18 : decode cX2_init 18 = .ok (.newarray .int, 2) := by decide +kernel
theorem dX2_init_20 : decode cX2_init 20 = .ok (.putfield 17, 3) := by decide +kernel
theorem dX2_init_23 : decode cX2_init 23 = .ok (.return_, 1) := by decide +kernel
theorem dX2_append_0 : decode cX2_append 0 = .ok (.aload_n 0, 1) := by decide +kernel
theorem dX2_append_1 : decode cX2_append 1 = .ok (.getfield 7, 3) := by decide +kernel
theorem dX2_append_4 : decode cX2_append 4 = .ok (.aload_n 0, 1) := by decide +kernel
theorem dX2_append_5 : decode cX2_append 5 = .ok (.getfield 13, 3) := by decide +kernel
theorem dX2_append_8 : decode cX2_append 8 = .ok (.arraylength, 1) := by decide +kernel
theorem dX2_append_9 : decode cX2_append 9 = .ok (.if_icmp .lt 5, 3) := by decide +kernel
theorem dX2_append_12 : decode cX2_append 12 = .ok (.iconst 0, 1) := by decide +kernel
theorem dX2_append_13 : decode cX2_append 13 = .ok (.ireturn, 1) := by decide +kernel
theorem dX2_append_14 : decode cX2_append 14 = .ok (.aload_n 0, 1) := by decide +kernel
theorem dX2_append_15 : decode cX2_append 15 = .ok (.getfield 13, 3) := by decide +kernel
theorem dX2_append_18 : decode cX2_append 18 = .ok (.aload_n 0, 1) := by decide +kernel
theorem dX2_append_19 : decode cX2_append 19 = .ok (.getfield 7, 3) := by decide +kernel
theorem dX2_append_22 : decode cX2_append 22 = .ok (.iload_n 1, 1) := by decide +kernel
theorem dX2_append_23 : decode cX2_append 23 = .ok (.iastore, 1) := by decide +kernel
theorem dX2_append_24 : decode cX2_append 24 = .ok (.aload_n 0, 1) := by decide +kernel
theorem dX2_append_25 : decode cX2_append 25 = .ok (.getfield 17, 3) := by decide +kernel
theorem dX2_append_28 : decode cX2_append 28 = .ok (.aload_n 0, 1) := by decide +kernel
theorem dX2_append_29 : decode cX2_append 29 = .ok (.getfield 7, 3) := by decide +kernel
theorem dX2_append_32 : decode cX2_append 32 = .ok (.iload_n 2, 1) := by decide +kernel
theorem dX2_append_33 : decode cX2_append 33 = .ok (.iastore, 1) := by decide +kernel
theorem dX2_append_34 : decode cX2_append 34 = .ok (.aload_n 0, 1) := by decide +kernel
theorem dX2_append_35 : decode cX2_append 35 = .ok (.dup, 1) := by decide +kernel
theorem dX2_append_36 : decode cX2_append 36 = .ok (.getfield 7, 3) := by decide +kernel
theorem dX2_append_39 : decode cX2_append 39 = .ok (.iconst 1, 1) := by decide +kernel
theorem dX2_append_40 : decode cX2_append 40 = .ok (.iadd, 1) := by decide +kernel
theorem dX2_append_41 : decode cX2_append 41 = .ok (.putfield 7, 3) := by decide +kernel
theorem dX2_append_44 : decode cX2_append 44 = .ok (.iconst 1, 1) := by decide +kernel
theorem dX2_append_45 : decode cX2_append 45 = .ok (.ireturn, 1) := by decide +kernel
theorem dX2_copyFrom_0 : decode cX2_copyFrom 0 = .ok (.aload_n 1, 1) := by decide +kernel
theorem dX2_copyFrom_1 : decode cX2_copyFrom 1 = .ok (.getfield 13, 3) := by decide +kernel
theorem dX2_copyFrom_4 : decode cX2_copyFrom 4 = .ok (.aload_n 0, 1) := by decide +kernel
theorem dX2_copyFrom_5 : decode cX2_copyFrom 5 = .ok (.getfield 13, 3) := by decide +kernel
theorem dX2_copyFrom_8 : decode cX2_copyFrom 8 = .ok (.invokestatic 20, 3) := by decide +kernel
theorem dX2_copyFrom_11 : decode cX2_copyFrom 11 = .ok (.aload_n 1, 1) := by decide +kernel
theorem dX2_copyFrom_12 : decode cX2_copyFrom 12 = .ok (.getfield 17, 3) := by decide +kernel
theorem dX2_copyFrom_15 : decode cX2_copyFrom 15 = .ok (.aload_n 0, 1) := by decide +kernel
theorem dX2_copyFrom_16 : decode cX2_copyFrom 16 = .ok (.getfield 17, 3) := by decide +kernel
theorem dX2_copyFrom_19 : decode cX2_copyFrom 19 = .ok (.invokestatic 20, 3) := by decide +kernel
theorem dX2_copyFrom_22 : decode cX2_copyFrom 22 = .ok (.aload_n 0, 1) := by decide +kernel
theorem dX2_copyFrom_23 : decode cX2_copyFrom 23 = .ok (.aload_n 1, 1) := by decide +kernel
theorem dX2_copyFrom_24 : decode cX2_copyFrom 24 = .ok (.getfield 7, 3) := by decide +kernel
theorem dX2_copyFrom_27 : decode cX2_copyFrom 27 = .ok (.putfield 7, 3) := by decide +kernel
theorem dX2_copyFrom_30 : decode cX2_copyFrom 30 = .ok (.return_, 1) := by decide +kernel
theorem dX3_init_0 : decode cX3_init 0 = .ok (.aload_n 0, 1) := by decide +kernel
theorem dX3_init_1 : decode cX3_init 1 = .ok (.invokespecial 3, 3) := by decide +kernel
theorem dX3_init_4 : decode cX3_init 4 = .ok (.aload_n 0, 1) := by decide +kernel
theorem dX3_init_5 : decode cX3_init 5 = .ok (.iconst 4, 1) := by decide +kernel
theorem dX3_init_6 : decode cX3_init 6 = .ok (.newarray .int, 2) := by decide +kernel
theorem dX3_init_8 : decode cX3_init 8 = .ok (.putfield 9, 3) := by decide +kernel
theorem dX3_init_11 : decode cX3_init 11 = .ok (.aload_n 0, 1) := by decide +kernel
theorem dX3_init_12 : decode cX3_init 12 = .ok (.iconst 0, 1) := by decide +kernel
theorem dX3_init_13 : decode cX3_init 13 = .ok (.putfield 15, 3) := by decide +kernel
theorem dX3_init_16 : decode cX3_init 16 = .ok (.aload_n 0, 1) := by decide +kernel
theorem dX3_init_17 : decode cX3_init 17 = .ok (.iconst 4, 1) := by decide +kernel
theorem dX3_init_18 : decode cX3_init 18 = .ok (.newarray .int, 2) := by decide +kernel
theorem dX3_init_20 : decode cX3_init 20 = .ok (.putfield 19, 3) := by decide +kernel
theorem dX3_init_23 : decode cX3_init 23 = .ok (.aload_n 0, 1) := by decide +kernel
theorem dX3_init_24 : decode cX3_init 24 = .ok (.iconst 4, 1) := by decide +kernel
theorem dX3_init_25 : decode cX3_init 25 = .ok (.newarray .int, 2) := by decide +kernel
theorem dX3_init_27 : decode cX3_init 27 = .ok (.putfield 22, 3) := by decide +kernel
theorem dX3_init_30 : decode cX3_init 30 = .ok (.aload_n 0, 1) := by decide +kernel
theorem dX3_init_31 : decode cX3_init 31 = .ok (.iconst 4, 1) := by decide +kernel
theorem dX3_init_32 : decode cX3_init 32 = .ok (.newarray .int, 2) := by decide +kernel
theorem dX3_init_34 : decode cX3_init 34 = .ok (.putfield 25, 3) := by decide +kernel
theorem dX3_init_37 : decode cX3_init 37 = .ok (.aload_n 0, 1) := by decide +kernel
theorem dX3_init_38 : decode cX3_init 38 = .ok (.sipush 1000, 3) := by decide +kernel
theorem dX3_init_41 : decode cX3_init 41 = .ok (.putfield 28, 3) := by decide +kernel
theorem dX3_init_44 : decode cX3_init 44 = .ok (.aload_n 0, 1) := by decide +kernel
theorem dX3_init_45 : decode cX3_init 45 = .ok (.iconst 0, 1) := by decide +kernel
theorem dX3_init_46 : decode cX3_init 46 = .ok (.putfield 31, 3) := by decide +kernel
theorem dX3_init_49 : decode cX3_init 49 = .ok (.aload_n 0, 1) := by decide +kernel
theorem dX3_init_50 : decode cX3_init 50 = .ok (.iconst 0, 1) := by decide +kernel
theorem dX3_init_51 : decode cX3_init 51 = .ok (.putfield 34, 3) := by decide +kernel
theorem dX3_init_54 : decode cX3_init 54 = .ok (.return_, 1) := by decide +kernel
theorem dX3_worth_0 : decode cX3_worth 0 = .ok (.iconst 0, 1) := by decide +kernel
theorem dX3_worth_1 : decode cX3_worth 1 = .ok (.istore_n 2, 1) := by decide +kernel
theorem dX3_worth_2 : decode cX3_worth 2 = .ok (.iconst 0, 1) := by decide +kernel
theorem dX3_worth_3 : decode cX3_worth 3 = .ok (.istore_n 3, 1) := by decide +kernel
theorem dX3_worth_4 : decode cX3_worth 4 = .ok (.iload_n 3, 1) := by decide +kernel
theorem dX3_worth_5 : decode cX3_worth 5 = .ok (.aload_n 0, 1) := by decide +kernel
theorem dX3_worth_6 : decode cX3_worth 6 = .ok (.arraylength, 1) := by decide +kernel
theorem dX3_worth_7 : decode cX3_worth 7 = .ok (.if_icmp .ge 24, 3) := by decide +kernel
theorem dX3_worth_10 : decode cX3_worth 10 = .ok (.iload_n 1, 1) := by decide +kernel
theorem dX3_worth_11 : decode cX3_worth 11 = .ok (.iload_n 3, 1) := by decide +kernel
theorem dX3_worth_12 : decode cX3_worth 12 = .ok (.ishr, 1) := by decide +kernel
theorem dX3_worth_13 : decode cX3_worth 13 = .ok (.iconst 1, 1) := by decide +kernel
theorem dX3_worth_14 : decode cX3_worth 14 = .ok (.iand, 1) := by decide +kernel
theorem dX3_worth_15 : decode cX3_worth 15 = .ok (.iconst 1, 1) := by decide +kernel
theorem dX3_worth_16 : decode cX3_worth 16 = .ok (.if_icmp .ne 9, 3) := by decide +kernel
theorem dX3_worth_19 : decode cX3_worth 19 = .ok (.iload_n 2, 1) := by decide +kernel
theorem dX3_worth_20 : decode cX3_worth 20 = .ok (.aload_n 0, 1) := by decide +kernel
theorem dX3_worth_21 : decode cX3_worth 21 = .ok (.iload_n 3, 1) := by decide +kernel
theorem dX3_worth_22 : decode cX3_worth 22 = .ok (.iaload, 1) := by decide +kernel
theorem dX3_worth_23 : decode cX3_worth 23 = .ok (.iadd, 1) := by decide +kernel
theorem dX3_worth_24 : decode cX3_worth 24 = .ok (.istore_n 2, 1) := by decide +kernel
theorem dX3_worth_25 : decode cX3_worth 25 = .ok (.iinc 3 1, 3) := by decide +kernel
theorem dX3_worth_28 : decode cX3_worth 28 = .ok (.goto (-24), 3) := by decide +kernel
theorem dX3_worth_31 : decode cX3_worth 31 = .ok (.iload_n 2, 1) := by decide +kernel
theorem dX3_worth_32 : decode cX3_worth 32 = .ok (.ireturn, 1) := by decide +kernel
theorem dX3_balance_0 : decode cX3_balance 0 = .ok (.aload_n 0, 1) := by decide +kernel
theorem dX3_balance_1 : decode cX3_balance 1 = .ok (.sipush 1000, 3) := by decide +kernel
theorem dX3_balance_4 : decode cX3_balance 4 = .ok (.putfield 28, 3) := by decide +kernel
theorem dX3_balance_7 : decode cX3_balance 7 = .ok (.aload_n 0, 1) := by decide +kernel
theorem dX3_balance_8 : decode cX3_balance 8 = .ok (.iload_n 1, 1) := by decide +kernel
theorem dX3_balance_9 : decode cX3_balance 9 = .ok (.iload_n 2, 1) := by decide +kernel
theorem dX3_balance_10 : decode cX3_balance 10 = .ok (.invokevirtual 37, 3) := by decide +kernel
theorem dX3_balance_13 : decode cX3_balance 13 = .ok (.ifCond .ne 5, 3) := by decide +kernel
theorem dX3_balance_16 : decode cX3_balance 16 = .ok (.iconst 0, 1) := by decide +kernel
theorem dX3_balance_17 : decode cX3_balance 17 = .ok (.ireturn, 1) := by decide +kernel
theorem dX3_balance_18 : decode cX3_balance 18 = .ok (.aload_n 0, 1) := by decide +kernel
theorem dX3_balance_19 : decode cX3_balance 19 = .ok (.iload_n 1, 1) := by decide +kernel
theorem dX3_balance_20 : decode cX3_balance 20 = .ok (.iload_n 2, 1) := by decide +kernel
theorem dX3_balance_21 : decode cX3_balance 21 = .ok (.invokevirtual 41, 3) := by decide +kernel
theorem dX3_balance_24 : decode cX3_balance 24 = .ok (.aload_n 0, 1) := by decide +kernel
theorem dX3_balance_25 : decode cX3_balance 25 = .ok (.getfield 28, 3) := by decide +kernel
theorem dX3_balance_28 : decode cX3_balance 28 = .ok (.sipush 1000, 3) := by decide +kernel
theorem dX3_balance_31 : decode cX3_balance 31 = .ok (.if_icmp .ne 5, 3) := by decide +kernel
theorem dX3_balance_34 : decode cX3_balance 34 = .ok (.iconst 0, 1) := by decide +kernel
theorem dX3_balance_35 : decode cX3_balance 35 = .ok (.ireturn, 1) := by decide +kernel
theorem dX3_balance_36 : decode cX3_balance 36 = .ok (.aload_n 0, 1) := by decide +kernel
theorem dX3_balance_37 : decode cX3_balance 37 = .ok (.aload_n 0, 1) := by decide +kernel
theorem dX3_balance_38 : decode cX3_balance 38 = .ok (.getfield 9, 3) := by decide +kernel
theorem dX3_balance_41 : decode cX3_balance 41 = .ok (.iload_n 1, 1) := by decide +kernel
theorem dX3_balance_42 : decode cX3_balance 42 = .ok (.iload_n 2, 1) := by decide +kernel
theorem dX3_balance_43 : decode cX3_balance 43 = .ok (.invokevirtual 45, 3) := by decide +kernel
theorem dX3_balance_46 : decode cX3_balance 46 = .ok (.pop, 1) := by decide +kernel
theorem dX3_balance_47 : decode cX3_balance 47 = .ok (.aload_n 0, 1) := by decide +kernel
theorem dX3_balance_48 : decode cX3_balance 48 = .ok (.iload_n 2, 1) := by decide +kernel
theorem dX3_balance_49 : decode cX3_balance 49 = .ok (.ifCond .ne 12, 3) := by decide +kernel
theorem dX3_balance_52 : decode cX3_balance 52 = .ok (.aload_n 0, 1) := by decide +kernel
theorem dX3_balance_53 : decode cX3_balance 53 = .ok (.getfield 34, 3) := by decide +kernel
theorem dX3_balance_56 : decode cX3_balance 56 = .ok (.iconst 1, 1) := by decide +kernel
theorem dX3_balance_57 : decode cX3_balance 57 = .ok (.iadd, 1) := by decide +kernel
theorem dX3_balance_58 : decode cX3_balance 58 = .ok (.goto 7, 3) := by decide +kernel
theorem dX3_balance_61 : decode cX3_balance 61 = .ok (.aload_n 0, 1) := by decide +kernel
theorem dX3_balance_62 : decode cX3_balance 62 = .ok (.getfield 31, 3) := by decide +kernel
theorem dX3_balance_65 : decode cX3_balance 65 = .ok (.putfield 15, 3) := by decide +kernel
theorem dX3_balance_68 : decode cX3_balance 68 = .ok (.iconst 1, 1) := by decide +kernel
theorem dX3_balance_69 : decode cX3_balance 69 = .ok (.ireturn, 1) := by decide +kernel
theorem dX3_setBounds_0 : decode cX3_setBounds 0 = .ok (.iconst 0, 1) := by decide +kernel
theorem dX3_setBounds_1 : decode cX3_setBounds 1 = .ok (.istore_n 3, 1) := by decide +kernel
theorem dX3_setBounds_2 : decode cX3_setBounds 2 = .ok (.iload_n 3, 1) := by decide +kernel
theorem dX3_setBounds_3 : decode cX3_setBounds 3 = .ok (.iconst 4, 1) := by decide +kernel
theorem dX3_setBounds_4 : decode cX3_setBounds 4 = .ok (.if_icmp .ge 113, 3) := by decide +kernel
theorem dX3_setBounds_7 : decode cX3_setBounds 7 = .ok (.iload_n 3, 1) := by decide +kernel
theorem dX3_setBounds_8 : decode cX3_setBounds 8 = .ok (.iload_n 1, 1) := by decide +kernel
theorem dX3_setBounds_9 : decode cX3_setBounds 9 = .ok (.if_icmp .ge 16, 3) := by decide +kernel
theorem dX3_setBounds_12 : decode cX3_setBounds 12 = .ok (.iload_n 1, 1) := by decide +kernel
theorem dX3_setBounds_13 : decode cX3_setBounds 13 = .ok (.iload_n 2, 1) := by decide +kernel
theorem dX3_setBounds_14 : decode cX3_setBounds 14 = .ok (.iload_n 3, 1) := by decide +kernel
theorem dX3_setBounds_15 : decode cX3_setBounds 15 = .ok (.invokestatic 49, 3) := by decide +kernel
theorem dX3_setBounds_18 : decode cX3_setBounds 18 = .ok (.ifCond .eq 7, 3) := by decide +kernel
theorem dX3_setBounds_21 : decode cX3_setBounds 21 = .ok (.iconst 1, 1) := by decide +kernel
theorem dX3_setBounds_22 : decode cX3_setBounds 22 = .ok (.goto 4, 3) := by decide +kernel
theorem dX3_setBounds_25 : decode cX3_setBounds 25 = .ok (.iconst 0, 1) := by decide +kernel
theorem dX3_setBounds_26 : decode cX3_setBounds 26 = .ok (.istore 4, 2) := by decide +kernel
theorem dX3_setBounds_28 : decode cX3_setBounds 28 = .ok (.iload_n 3, 1) := by decide +kernel
theorem dX3_setBounds_29 : decode cX3_setBounds 29 = .ok (.iload_n 1, 1) := by decide +kernel
theorem dX3_setBounds_30 : decode cX3_setBounds 30 = .ok (.if_icmp .ge 15, 3) := by decide +kernel
theorem dX3_setBounds_33 : decode cX3_setBounds 33 = .ok (.iload_n 2, 1) := by decide +kernel
theorem dX3_setBounds_34 : decode cX3_setBounds 34 = .ok (.iload_n 3, 1) := by decide +kernel
theorem dX3_setBounds_35 : decode cX3_setBounds 35 = .ok (.invokestatic 55, 3) := by decide +kernel
theorem dX3_setBounds_38 : decode cX3_setBounds 38 = .ok (.ifCond .eq 7, 3) := by decide +kernel
theorem dX3_setBounds_41 : decode cX3_setBounds 41 = .ok (.iconst 1, 1) := by decide +kernel
theorem dX3_setBounds_42 : decode cX3_setBounds 42 = .ok (.goto 4, 3) := by decide +kernel
theorem dX3_setBounds_45 : decode cX3_setBounds 45 = .ok (.iconst 0, 1) := by decide +kernel
theorem dX3_setBounds_46 : decode cX3_setBounds 46 = .ok (.istore 5, 2) := by decide +kernel
theorem dX3_setBounds_48 : decode cX3_setBounds 48 = .ok (.iload 4, 2) := by decide +kernel
theorem dX3_setBounds_50 : decode cX3_setBounds 50 = .ok (.ifCond .eq 10, 3) := by decide +kernel
theorem dX3_setBounds_53 : decode cX3_setBounds 53 = .ok (.iload 5, 2) := by decide +kernel
theorem dX3_setBounds_55 : decode cX3_setBounds 55 = .ok (.ifCond .eq 5, 3) := by decide +kernel
theorem dX3_setBounds_58 : decode cX3_setBounds 58 = .ok (.iconst 0, 1) := by decide +kernel
theorem dX3_setBounds_59 : decode cX3_setBounds 59 = .ok (.ireturn, 1) := by decide +kernel
theorem dX3_setBounds_60 : decode cX3_setBounds 60 = .ok (.aload_n 0, 1) := by decide +kernel
theorem dX3_setBounds_61 : decode cX3_setBounds 61 = .ok (.getfield 19, 3) := by decide +kernel
theorem dX3_setBounds_64 : decode cX3_setBounds 64 = .ok (.iload_n 3, 1) := by decide +kernel
theorem dX3_setBounds_65 : decode cX3_setBounds 65 = .ok (.iload 4, 2) := by decide +kernel
theorem dX3_setBounds_67 : decode cX3_setBounds 67 = .ok (.ifCond .eq 7, 3) := by decide +kernel
theorem dX3_setBounds_70 : decode cX3_setBounds 70 = .ok (.iconst 1, 1) := by decide +kernel
theorem dX3_setBounds_71 : decode cX3_setBounds 71 = .ok (.goto 14, 3) := by decide +kernel
theorem dX3_setBounds_74 : decode cX3_setBounds 74 = .ok (.iload 5, 2) := by decide +kernel
theorem dX3_setBounds_76 : decode cX3_setBounds 76 = .ok (.ifCond .eq 8, 3) := by decide +kernel
theorem dX3_setBounds_79 : decode cX3_setBounds 79 = .ok (.bipush (-4), 2) := by decide +kernel
theorem dX3_setBounds_81 : decode cX3_setBounds 81 = .ok (.goto 4, 3) := by decide +kernel
theorem dX3_setBounds_84 : decode cX3_setBounds 84 = .ok (.iconst 0, 1) := by decide +kernel
theorem dX3_setBounds_85 : decode cX3_setBounds 85 = .ok (.iastore, 1) := by decide +kernel
theorem dX3_setBounds_86 : decode cX3_setBounds 86 = .ok (.aload_n 0, 1) := by decide +kernel
theorem dX3_setBounds_87 : decode cX3_setBounds 87 = .ok (.getfield 22, 3) := by decide +kernel
theorem dX3_setBounds_90 : decode cX3_setBounds 90 = .ok (.iload_n 3, 1) := by decide +kernel
theorem dX3_setBounds_91 : decode cX3_setBounds 91 = .ok (.iload 4, 2) := by decide +kernel
theorem dX3_setBounds_93 : decode cX3_setBounds 93 = .ok (.ifCond .eq 7, 3) := by decide +kernel
theorem dX3_setBounds_96 : decode cX3_setBounds 96 = .ok (.iconst 4, 1) := by decide +kernel
theorem dX3_setBounds_97 : decode cX3_setBounds 97 = .ok (.goto 13, 3) := by decide +kernel
theorem dX3_setBounds_100 : decode cX3_setBounds 100 = .ok (.iload 5, 2) := by decide +kernel
theorem dX3_setBounds_102 : decode cX3_setBounds 102 = .ok (.ifCond .eq 7, 3) := by decide +kernel
theorem dX3_setBounds_105 : decode cX3_setBounds 105 = .ok (.iconst (-1), 1) := by decide +kernel
theorem dX3_setBounds_106 : decode cX3_setBounds 106 = .ok (.goto 4, 3) := by decide +kernel
theorem dX3_setBounds_109 : decode cX3_setBounds 109 = .ok (.iconst 0, 1) := by decide +kernel
theorem dX3_setBounds_110 : decode cX3_setBounds 110 = .ok (.iastore, 1) := by decide +kernel
theorem dX3_setBounds_111 : decode cX3_setBounds 111 = .ok (.iinc 3 1, 3) := by decide +kernel
theorem dX3_setBounds_114 : decode cX3_setBounds 114 = .ok (.goto (-112), 3) := by decide +kernel
theorem dX3_setBounds_117 : decode cX3_setBounds 117 = .ok (.iconst 1, 1) := by decide +kernel
theorem dX3_setBounds_118 : decode cX3_setBounds 118 = .ok (.ireturn, 1) := by decide +kernel
theorem dX3_tryAll_0 : decode cX3_tryAll 0 = .ok (.aload_n 0, 1) := by decide +kernel
theorem dX3_tryAll_1 : decode cX3_tryAll 1 = .ok (.getfield 19, 3) := by decide +kernel
theorem dX3_tryAll_4 : decode cX3_tryAll 4 = .ok (.iconst 0, 1) := by decide +kernel
theorem dX3_tryAll_5 : decode cX3_tryAll 5 = .ok (.iaload, 1) := by decide +kernel
theorem dX3_tryAll_6 : decode cX3_tryAll 6 = .ok (.istore_n 3, 1) := by decide +kernel
theorem dX3_tryAll_7 : decode cX3_tryAll 7 = .ok (.iload_n 3, 1) := by decide +kernel
theorem dX3_tryAll_8 : decode cX3_tryAll 8 = .ok (.aload_n 0, 1) := by decide +kernel
theorem dX3_tryAll_9 : decode cX3_tryAll 9 = .ok (.getfield 22, 3) := by decide +kernel
theorem dX3_tryAll_12 : decode cX3_tryAll 12 = .ok (.iconst 0, 1) := by decide +kernel
theorem dX3_tryAll_13 : decode cX3_tryAll 13 = .ok (.iaload, 1) := by decide +kernel
theorem dX3_tryAll_14 : decode cX3_tryAll 14 = .ok (.if_icmp .gt 121, 3) := by decide +kernel
theorem dX3_tryAll_17 : decode cX3_tryAll 17 = .ok (.aload_n 0, 1) := by decide +kernel
theorem dX3_tryAll_18 : decode cX3_tryAll 18 = .ok (.getfield 19, 3) := by decide +kernel
theorem dX3_tryAll_21 : decode cX3_tryAll 21 = .ok (.iconst 1, 1) := by decide +kernel
theorem dX3_tryAll_22 : decode cX3_tryAll 22 = .ok (.iaload, 1) := by decide +kernel
theorem dX3_tryAll_23 : decode cX3_tryAll 23 = .ok (.istore 4, 2) := by decide +kernel
theorem dX3_tryAll_25 : decode cX3_tryAll 25 = .ok (.iload 4, 2) := by decide +kernel
theorem dX3_tryAll_27 : decode cX3_tryAll 27 = .ok (.aload_n 0, 1) := by decide +kernel
theorem dX3_tryAll_28 : decode cX3_tryAll 28 = .ok (.getfield 22, 3) := by decide +kernel
theorem dX3_tryAll_31 : decode cX3_tryAll 31 = .ok (.iconst 1, 1) := by decide +kernel
theorem dX3_tryAll_32 : decode cX3_tryAll 32 = .ok (.iaload, 1) := by decide +kernel
theorem dX3_tryAll_33 : decode cX3_tryAll 33 = .ok (.if_icmp .gt 96, 3) := by decide +kernel
theorem dX3_tryAll_36 : decode cX3_tryAll 36 = .ok (.aload_n 0, 1) := by decide +kernel
theorem dX3_tryAll_37 : decode cX3_tryAll 37 = .ok (.getfield 19, 3) := by decide +kernel
theorem dX3_tryAll_40 : decode cX3_tryAll 40 = .ok (.iconst 2, 1) := by decide +kernel
theorem dX3_tryAll_41 : decode cX3_tryAll 41 = .ok (.iaload, 1) := by decide +kernel
theorem dX3_tryAll_42 : decode cX3_tryAll 42 = .ok (.istore 5, 2) := by decide +kernel
theorem dX3_tryAll_44 : decode cX3_tryAll 44 = .ok (.iload 5, 2) := by decide +kernel
theorem dX3_tryAll_46 : decode cX3_tryAll 46 = .ok (.aload_n 0, 1) := by decide +kernel
theorem dX3_tryAll_47 : decode cX3_tryAll 47 = .ok (.getfield 22, 3) := by decide +kernel
theorem dX3_tryAll_50 : decode cX3_tryAll 50 = .ok (.iconst 2, 1) := by decide +kernel
theorem dX3_tryAll_51 : decode cX3_tryAll 51 = .ok (.iaload, 1) := by decide +kernel
theorem dX3_tryAll_52 : decode cX3_tryAll 52 = .ok (.if_icmp .gt 71, 3) := by decide +kernel
theorem dX3_tryAll_55 : decode cX3_tryAll 55 = .ok (.aload_n 0, 1) := by decide +kernel
theorem dX3_tryAll_56 : decode cX3_tryAll 56 = .ok (.getfield 19, 3) := by decide +kernel
theorem dX3_tryAll_59 : decode cX3_tryAll 59 = .ok (.iconst 3, 1) := by decide +kernel
theorem dX3_tryAll_60 : decode cX3_tryAll 60 = .ok (.iaload, 1) := by decide +kernel
theorem dX3_tryAll_61 : decode cX3_tryAll 61 = .ok (.istore 6, 2) := by decide +kernel
theorem dX3_tryAll_63 : decode cX3_tryAll 63 = .ok (.iload 6, 2) := by decide +kernel
theorem dX3_tryAll_65 : decode cX3_tryAll 65 = .ok (.aload_n 0, 1) := by decide +kernel
theorem dX3_tryAll_66 : decode cX3_tryAll 66 = .ok (.getfield 22, 3) := by decide +kernel
theorem dX3_tryAll_69 : decode cX3_tryAll 69 = .ok (.iconst 3, 1) := by decide +kernel
theorem dX3_tryAll_70 : decode cX3_tryAll 70 = .ok (.iaload, 1) := by decide +kernel
theorem dX3_tryAll_71 : decode cX3_tryAll 71 = .ok (.if_icmp .gt 46, 3) := by decide +kernel
theorem dX3_tryAll_74 : decode cX3_tryAll 74 = .ok (.aload_n 0, 1) := by decide +kernel
theorem dX3_tryAll_75 : decode cX3_tryAll 75 = .ok (.getfield 25, 3) := by decide +kernel
theorem dX3_tryAll_78 : decode cX3_tryAll 78 = .ok (.iconst 0, 1) := by decide +kernel
theorem dX3_tryAll_79 : decode cX3_tryAll 79 = .ok (.iload_n 3, 1) := by decide +kernel
theorem dX3_tryAll_80 : decode cX3_tryAll 80 = .ok (.iastore, 1) := by decide +kernel
theorem dX3_tryAll_81 : decode cX3_tryAll 81 = .ok (.aload_n 0, 1) := by decide +kernel
theorem dX3_tryAll_82 : decode cX3_tryAll 82 = .ok (.getfield 25, 3) := by decide +kernel
theorem dX3_tryAll_85 : decode cX3_tryAll 85 = .ok (.iconst 1, 1) := by decide +kernel
theorem dX3_tryAll_86 : decode cX3_tryAll 86 = .ok (.iload 4, 2) := by decide +kernel
theorem dX3_tryAll_88 : decode cX3_tryAll 88 = .ok (.iastore, 1) := by decide +kernel
theorem dX3_tryAll_89 : decode cX3_tryAll 89 = .ok (.aload_n 0, 1) := by decide +kernel
theorem dX3_tryAll_90 : decode cX3_tryAll 90 = .ok (.getfield 25, 3) := by decide +kernel
theorem dX3_tryAll_93 : decode cX3_tryAll 93 = .ok (.iconst 2, 1) := by decide +kernel
theorem dX3_tryAll_94 : decode cX3_tryAll 94 = .ok (.iload 5, 2) := by decide +kernel
theorem dX3_tryAll_96 : decode cX3_tryAll 96 = .ok (.iastore, 1) := by decide +kernel
theorem dX3_tryAll_97 : decode cX3_tryAll 97 = .ok (.aload_n 0, 1) := by decide +kernel
theorem dX3_tryAll_98 : decode cX3_tryAll 98 = .ok (.getfield 25, 3) := by decide +kernel
theorem dX3_tryAll_101 : decode cX3_tryAll 101 = .ok (.iconst 3, 1) := by decide +kernel
theorem dX3_tryAll_102 : decode cX3_tryAll 102 = .ok (.iload 6, 2) := by decide +kernel
theorem dX3_tryAll_104 : decode cX3_tryAll 104 = .ok (.iastore, 1) := by decide +kernel
theorem dX3_tryAll_105 : decode cX3_tryAll 105 = .ok (.aload_n 0, 1) := by decide +kernel
theorem dX3_tryAll_106 : decode cX3_tryAll 106 = .ok (.iload_n 1, 1) := by decide +kernel
theorem dX3_tryAll_107 : decode cX3_tryAll 107 = .ok (.iload_n 2, 1) := by decide +kernel
theorem dX3_tryAll_108 : decode cX3_tryAll 108 = .ok (.invokevirtual 59, 3) := by decide +kernel
theorem dX3_tryAll_111 : decode cX3_tryAll 111 = .ok (.iinc 6 1, 3) := by decide +kernel
theorem dX3_tryAll_114 : decode cX3_tryAll 114 = .ok (.goto (-51), 3) := by decide +kernel
theorem dX3_tryAll_117 : decode cX3_tryAll 117 = .ok (.iinc 5 1, 3) := by decide +kernel
theorem dX3_tryAll_120 : decode cX3_tryAll 120 = .ok (.goto (-76), 3) := by decide +kernel
theorem dX3_tryAll_123 : decode cX3_tryAll 123 = .ok (.iinc 4 1, 3) := by decide +kernel
theorem dX3_tryAll_126 : decode cX3_tryAll 126 = .ok (.goto (-101), 3) := by decide +kernel
theorem dX3_tryAll_129 : decode cX3_tryAll 129 = .ok (.iinc 3 1, 3) := by decide +kernel
theorem dX3_tryAll_132 : decode cX3_tryAll 132 = .ok (.goto (-125), 3) := by decide +kernel
theorem dX3_tryAll_135 : decode cX3_tryAll 135 = .ok (.return_, 1) := by decide +kernel
theorem dX3_holdIfLess_0 : decode cX3_holdIfLess 0 = .ok (.iconst 0, 1) := by decide +kernel
theorem dX3_holdIfLess_1 : decode cX3_holdIfLess 1 = .ok (.istore_n 3, 1) := by decide +kernel
theorem dX3_holdIfLess_2 : decode cX3_holdIfLess 2 = .ok (.iconst 0, 1) := by decide +kernel
theorem dX3_holdIfLess_3 : decode cX3_holdIfLess 3 = .ok (.istore 4, 2) := by decide +kernel
theorem dX3_holdIfLess_5 : decode cX3_holdIfLess 5 = .ok (.iload 4, 2) := by decide +kernel
theorem dX3_holdIfLess_7 : decode cX3_holdIfLess 7 = .ok (.iconst 4, 1) := by decide +kernel
theorem dX3_holdIfLess_8 : decode cX3_holdIfLess 8 = .ok (.if_icmp .ge 22, 3) := by decide +kernel
theorem dX3_holdIfLess_11 : decode cX3_holdIfLess 11 = .ok (.iload_n 3, 1) := by decide +kernel
theorem dX3_holdIfLess_12 : decode cX3_holdIfLess 12 = .ok (.aload_n 0, 1) := by decide +kernel
theorem dX3_holdIfLess_13 : decode cX3_holdIfLess 13 = .ok (.getfield 25, 3) := by decide +kernel
theorem dX3_holdIfLess_16 : decode cX3_holdIfLess 16 = .ok (.iload 4, 2) := by decide +kernel
theorem dX3_holdIfLess_18 : decode cX3_holdIfLess 18 = .ok (.iaload, 1) := by decide +kernel
theorem dX3_holdIfLess_19 : decode cX3_holdIfLess 19 = .ok (.invokestatic 62, 3) := by decide +kernel
theorem dX3_holdIfLess_22 : decode cX3_holdIfLess 22 = .ok (.iadd, 1) := by decide +kernel
theorem dX3_holdIfLess_23 : decode cX3_holdIfLess 23 = .ok (.istore_n 3, 1) := by decide +kernel
theorem dX3_holdIfLess_24 : decode cX3_holdIfLess 24 = .ok (.iinc 4 1, 3) := by decide +kernel
theorem dX3_holdIfLess_27 : decode cX3_holdIfLess 27 = .ok (.goto (-22), 3) := by decide +kernel
theorem dX3_holdIfLess_30 : decode cX3_holdIfLess 30 = .ok (.iload_n 3, 1) := by decide +kernel
theorem dX3_holdIfLess_31 : decode cX3_holdIfLess 31 = .ok (.aload_n 0, 1) := by decide +kernel
theorem dX3_holdIfLess_32 : decode cX3_holdIfLess 32 = .ok (.getfield 28, 3) := by decide +kernel
theorem dX3_holdIfLess_35 : decode cX3_holdIfLess 35 = .ok (.if_icmp .ge 32, 3) := by decide +kernel
theorem dX3_holdIfLess_38 : decode cX3_holdIfLess 38 = .ok (.aload_n 0, 1) := by decide +kernel
theorem dX3_holdIfLess_39 : decode cX3_holdIfLess 39 = .ok (.aload_n 0, 1) := by decide +kernel
theorem dX3_holdIfLess_40 : decode cX3_holdIfLess 40 = .ok (.getfield 25, 3) := by decide +kernel
theorem dX3_holdIfLess_43 : decode cX3_holdIfLess 43 = .ok (.iload_n 1, 1) := by decide +kernel
theorem dX3_holdIfLess_44 : decode cX3_holdIfLess 44 = .ok (.iload_n 2, 1) := by decide +kernel
theorem dX3_holdIfLess_45 : decode cX3_holdIfLess 45 = .ok (.invokevirtual 45, 3) := by decide +kernel
theorem dX3_holdIfLess_48 : decode cX3_holdIfLess 48 = .ok (.ifCond .eq 19, 3) := by decide +kernel
theorem dX3_holdIfLess_51 : decode cX3_holdIfLess 51 = .ok (.aload_n 0, 1) := by decide +kernel
theorem dX3_holdIfLess_52 : decode cX3_holdIfLess 52 = .ok (.iload_n 3, 1) := by decide +kernel
theorem dX3_holdIfLess_53 : decode cX3_holdIfLess 53 = .ok (.putfield 28, 3) := by decide +kernel
theorem dX3_holdIfLess_56 : decode cX3_holdIfLess 56 = .ok (.aload_n 0, 1) := by decide +kernel
theorem dX3_holdIfLess_57 : decode cX3_holdIfLess 57 = .ok (.getfield 25, 3) := by decide +kernel
theorem dX3_holdIfLess_60 : decode cX3_holdIfLess 60 = .ok (.aload_n 0, 1) := by decide +kernel
theorem dX3_holdIfLess_61 : decode cX3_holdIfLess 61 = .ok (.getfield 9, 3) := by decide +kernel
theorem dX3_holdIfLess_64 : decode cX3_holdIfLess 64 = .ok (.invokestatic 68, 3) := by decide +kernel
theorem dX3_holdIfLess_67 : decode cX3_holdIfLess 67 = .ok (.return_, 1) := by decide +kernel
theorem dX3_divides_0 : decode cX3_divides 0 = .ok (.aload_n 0, 1) := by decide +kernel
theorem dX3_divides_1 : decode cX3_divides 1 = .ok (.sipush 1000, 3) := by decide +kernel
theorem dX3_divides_4 : decode cX3_divides 4 = .ok (.putfield 31, 3) := by decide +kernel
theorem dX3_divides_7 : decode cX3_divides 7 = .ok (.aload_n 0, 1) := by decide +kernel
theorem dX3_divides_8 : decode cX3_divides 8 = .ok (.sipush (-1000), 3) := by decide +kernel
theorem dX3_divides_11 : decode cX3_divides 11 = .ok (.putfield 34, 3) := by decide +kernel
theorem dX3_divides_14 : decode cX3_divides 14 = .ok (.iconst 0, 1) := by decide +kernel
theorem dX3_divides_15 : decode cX3_divides 15 = .ok (.istore 4, 2) := by decide +kernel
theorem dX3_divides_17 : decode cX3_divides 17 = .ok (.iload 4, 2) := by decide +kernel
theorem dX3_divides_19 : decode cX3_divides 19 = .ok (.iconst 1, 1) := by decide +kernel
theorem dX3_divides_20 : decode cX3_divides 20 = .ok (.iload_n 2, 1) := by decide +kernel
theorem dX3_divides_21 : decode cX3_divides 21 = .ok (.ishl, 1) := by decide +kernel
theorem dX3_divides_22 : decode cX3_divides 22 = .ok (.if_icmp .ge 56, 3) := by decide +kernel
theorem dX3_divides_25 : decode cX3_divides 25 = .ok (.aload_n 1, 1) := by decide +kernel
theorem dX3_divides_26 : decode cX3_divides 26 = .ok (.iload 4, 2) := by decide +kernel
theorem dX3_divides_28 : decode cX3_divides 28 = .ok (.invokestatic 74, 3) := by decide +kernel
theorem dX3_divides_31 : decode cX3_divides 31 = .ok (.istore 5, 2) := by decide +kernel
theorem dX3_divides_33 : decode cX3_divides 33 = .ok (.iload_n 3, 1) := by decide +kernel
theorem dX3_divides_34 : decode cX3_divides 34 = .ok (.iload 4, 2) := by decide +kernel
theorem dX3_divides_36 : decode cX3_divides 36 = .ok (.invokestatic 78, 3) := by decide +kernel
theorem dX3_divides_39 : decode cX3_divides 39 = .ok (.iconst 1, 1) := by decide +kernel
theorem dX3_divides_40 : decode cX3_divides 40 = .ok (.if_icmp .ne 19, 3) := by decide +kernel
theorem dX3_divides_43 : decode cX3_divides 43 = .ok (.aload_n 0, 1) := by decide +kernel
theorem dX3_divides_44 : decode cX3_divides 44 = .ok (.aload_n 0, 1) := by decide +kernel
theorem dX3_divides_45 : decode cX3_divides 45 = .ok (.getfield 31, 3) := by decide +kernel
theorem dX3_divides_48 : decode cX3_divides 48 = .ok (.iload 5, 2) := by decide +kernel
theorem dX3_divides_50 : decode cX3_divides 50 = .ok (.invokestatic 81, 3) := by decide +kernel
theorem dX3_divides_53 : decode cX3_divides 53 = .ok (.putfield 31, 3) := by decide +kernel
theorem dX3_divides_56 : decode cX3_divides 56 = .ok (.goto 16, 3) := by decide +kernel
theorem dX3_divides_59 : decode cX3_divides 59 = .ok (.aload_n 0, 1) := by decide +kernel
theorem dX3_divides_60 : decode cX3_divides 60 = .ok (.aload_n 0, 1) := by decide +kernel
theorem dX3_divides_61 : decode cX3_divides 61 = .ok (.getfield 34, 3) := by decide +kernel
theorem dX3_divides_64 : decode cX3_divides 64 = .ok (.iload 5, 2) := by decide +kernel
theorem dX3_divides_66 : decode cX3_divides 66 = .ok (.invokestatic 84, 3) := by decide +kernel
theorem dX3_divides_69 : decode cX3_divides 69 = .ok (.putfield 34, 3) := by decide +kernel
theorem dX3_divides_72 : decode cX3_divides 72 = .ok (.iinc 4 1, 3) := by decide +kernel
theorem dX3_divides_75 : decode cX3_divides 75 = .ok (.goto (-58), 3) := by decide +kernel
theorem dX3_divides_78 : decode cX3_divides 78 = .ok (.aload_n 0, 1) := by decide +kernel
theorem dX3_divides_79 : decode cX3_divides 79 = .ok (.getfield 31, 3) := by decide +kernel
theorem dX3_divides_82 : decode cX3_divides 82 = .ok (.aload_n 0, 1) := by decide +kernel
theorem dX3_divides_83 : decode cX3_divides 83 = .ok (.getfield 34, 3) := by decide +kernel
theorem dX3_divides_86 : decode cX3_divides 86 = .ok (.if_icmp .le 7, 3) := by decide +kernel
theorem dX3_divides_89 : decode cX3_divides 89 = .ok (.iconst 1, 1) := by decide +kernel
theorem dX3_divides_90 : decode cX3_divides 90 = .ok (.goto 4, 3) := by decide +kernel
theorem dX3_divides_93 : decode cX3_divides 93 = .ok (.iconst 0, 1) := by decide +kernel
theorem dX3_divides_94 : decode cX3_divides 94 = .ok (.ireturn, 1) := by decide +kernel
theorem dX4_init_0 : decode cX4_init 0 = .ok (.aload_n 0, 1) := by decide +kernel
theorem dX4_init_1 : decode cX4_init 1 = .ok (.invokespecial 3, 3) := by decide +kernel
theorem dX4_init_4 : decode cX4_init 4 = .ok (.aload_n 0, 1) := by decide +kernel
theorem dX4_init_5 : decode cX4_init 5 = .ok (.iconst 3, 1) := by decide +kernel
theorem dX4_init_6 : decode cX4_init 6 = .ok (.putfield 9, 3) := by decide +kernel
theorem dX4_init_9 : decode cX4_init 9 = .ok (.aload_n 0, 1) := by decide +kernel
theorem dX4_init_10 : decode cX4_init 10 = .ok (.iconst 0, 1) := by decide +kernel
theorem dX4_init_11 : decode cX4_init 11 = .ok (.putfield 15, 3) := by decide +kernel
theorem dX4_init_14 : decode cX4_init 14 = .ok (.aload_n 0, 1) := by decide +kernel
theorem dX4_init_15 : decode cX4_init 15 = .ok (.iconst 0, 1) := by decide +kernel
theorem dX4_init_16 : decode cX4_init 16 = .ok (.putfield 18, 3) := by decide +kernel
theorem dX4_init_19 : decode cX4_init 19 = .ok (.aload_n 0, 1) := by decide +kernel
theorem dX4_init_20 : decode cX4_init 20 = .ok (.iconst 4, 1) := by decide +kernel
theorem dX4_init_21 : decode cX4_init 21 = .ok (.newarray .int, 2) := by decide +kernel
theorem dX4_init_23 : decode cX4_init 23 = .ok (.putfield 21, 3) := by decide +kernel
theorem dX4_init_26 : decode cX4_init 26 = .ok (.aload_n 0, 1) := by decide +kernel
theorem dX4_init_27 : decode cX4_init 27 = .ok (.iconst 1, 1) := by decide +kernel
theorem dX4_init_28 : decode cX4_init 28 = .ok (.putfield 25, 3) := by decide +kernel
theorem dX4_init_31 : decode cX4_init 31 = .ok (.aload_n 0, 1) := by decide +kernel
theorem dX4_init_32 : decode cX4_init 32 = .ok (.new 28, 3) := by decide +kernel
theorem dX4_init_35 : decode cX4_init 35 = .ok (.dup, 1) := by decide +kernel
theorem dX4_init_36 : decode cX4_init 36 = .ok (.bipush 6, 2) := by decide +kernel
theorem dX4_init_38 : decode cX4_init 38 = .ok (.invokespecial 30, 3) := by decide +kernel
theorem dX4_init_41 : decode cX4_init 41 = .ok (.putfield 33, 3) := by decide +kernel
theorem dX4_init_44 : decode cX4_init 44 = .ok (.aload_n 0, 1) := by decide +kernel
theorem dX4_init_45 : decode cX4_init 45 = .ok (.new 28, 3) := by decide +kernel
theorem dX4_init_48 : decode cX4_init 48 = .ok (.dup, 1) := by decide +kernel
theorem dX4_init_49 : decode cX4_init 49 = .ok (.bipush 8, 2) := by decide +kernel
theorem dX4_init_51 : decode cX4_init 51 = .ok (.invokespecial 30, 3) := by decide +kernel
theorem dX4_init_54 : decode cX4_init 54 = .ok (.putfield 37, 3) := by decide +kernel
theorem dX4_init_57 : decode cX4_init 57 = .ok (.aload_n 0, 1) := by decide +kernel
theorem dX4_init_58 : decode cX4_init 58 = .ok (.new 28, 3) := by decide +kernel
theorem dX4_init_61 : decode cX4_init 61 = .ok (.dup, 1) := by decide +kernel
theorem dX4_init_62 : decode cX4_init 62 = .ok (.bipush 8, 2) := by decide +kernel
theorem dX4_init_64 : decode cX4_init 64 = .ok (.invokespecial 30, 3) := by decide +kernel
theorem dX4_init_67 : decode cX4_init 67 = .ok (.putfield 40, 3) := by decide +kernel
theorem dX4_init_70 : decode cX4_init 70 = .ok (.return_, 1) := by decide +kernel
theorem dX4_startAnew_0 : decode cX4_startAnew 0 = .ok (.aload_n 0, 1) := by decide +kernel
theorem dX4_startAnew_1 : decode cX4_startAnew 1 = .ok (.iload_n 1, 1) := by decide +kernel
theorem dX4_startAnew_2 : decode cX4_startAnew 2 = .ok (.putfield 9, 3) := by decide +kernel
theorem dX4_startAnew_5 : decode cX4_startAnew 5 = .ok (.aload_n 0, 1) := by decide +kernel
theorem dX4_startAnew_6 : decode cX4_startAnew 6 = .ok (.iconst 0, 1) := by decide +kernel
theorem dX4_startAnew_7 : decode cX4_startAnew 7 = .ok (.putfield 15, 3) := by decide +kernel
theorem dX4_startAnew_10 : decode cX4_startAnew 10 = .ok (.aload_n 0, 1) := by decide +kernel
theorem dX4_startAnew_11 : decode cX4_startAnew 11 = .ok (.iconst 0, 1) := by decide +kernel
theorem dX4_startAnew_12 : decode cX4_startAnew 12 = .ok (.putfield 18, 3) := by decide +kernel
theorem dX4_startAnew_15 : decode cX4_startAnew 15 = .ok (.aload_n 0, 1) := by decide +kernel
theorem dX4_startAnew_16 : decode cX4_startAnew 16 = .ok (.iconst 1, 1) := by decide +kernel
theorem dX4_startAnew_17 : decode cX4_startAnew 17 = .ok (.putfield 25, 3) := by decide +kernel
theorem dX4_startAnew_20 : decode cX4_startAnew 20 = .ok (.iconst 0, 1) := by decide +kernel
theorem dX4_startAnew_21 : decode cX4_startAnew 21 = .ok (.istore_n 2, 1) := by decide +kernel
theorem dX4_startAnew_22 : decode cX4_startAnew 22 = .ok (.iload_n 2, 1) := by decide +kernel
theorem dX4_startAnew_23 : decode cX4_startAnew 23 = .ok (.iconst 4, 1) := by decide +kernel
theorem dX4_startAnew_24 : decode cX4_startAnew 24 = .ok (.if_icmp .ge 16, 3) := by decide +kernel
theorem dX4_startAnew_27 : decode cX4_startAnew 27 = .ok (.aload_n 0, 1) := by decide +kernel
theorem dX4_startAnew_28 : decode cX4_startAnew 28 = .ok (.getfield 21, 3) := by decide +kernel
theorem dX4_startAnew_31 : decode cX4_startAnew 31 = .ok (.iload_n 2, 1) := by decide +kernel
theorem dX4_startAnew_32 : decode cX4_startAnew 32 = .ok (.iconst 0, 1) := by decide +kernel
theorem dX4_startAnew_33 : decode cX4_startAnew 33 = .ok (.iastore, 1) := by decide +kernel
theorem dX4_startAnew_34 : decode cX4_startAnew 34 = .ok (.iinc 2 1, 3) := by decide +kernel
theorem dX4_startAnew_37 : decode cX4_startAnew 37 = .ok (.goto (-15), 3) := by decide +kernel
theorem dX4_startAnew_40 : decode cX4_startAnew 40 = .ok (.return_, 1) := by decide +kernel
theorem dX4_take_0 : decode cX4_take 0 = .ok (.aload_n 0, 1) := by decide +kernel
theorem dX4_take_1 : decode cX4_take 1 = .ok (.iload_n 1, 1) := by decide +kernel
theorem dX4_take_2 : decode cX4_take 2 = .ok (.putfield 15, 3) := by decide +kernel
theorem dX4_take_5 : decode cX4_take 5 = .ok (.iload_n 1, 1) := by decide +kernel
theorem dX4_take_6 : decode cX4_take 6 = .ok (.ireturn, 1) := by decide +kernel
theorem dX4_copyFrom_0 : decode cX4_copyFrom 0 = .ok (.aload_n 0, 1) := by decide +kernel
theorem dX4_copyFrom_1 : decode cX4_copyFrom 1 = .ok (.aload_n 1, 1) := by decide +kernel
theorem dX4_copyFrom_2 : decode cX4_copyFrom 2 = .ok (.getfield 9, 3) := by decide +kernel
theorem dX4_copyFrom_5 : decode cX4_copyFrom 5 = .ok (.putfield 9, 3) := by decide +kernel
theorem dX4_copyFrom_8 : decode cX4_copyFrom 8 = .ok (.aload_n 0, 1) := by decide +kernel
theorem dX4_copyFrom_9 : decode cX4_copyFrom 9 = .ok (.aload_n 1, 1) := by decide +kernel
theorem dX4_copyFrom_10 : decode cX4_copyFrom 10 = .ok (.getfield 15, 3) := by decide +kernel
theorem dX4_copyFrom_13 : decode cX4_copyFrom 13 = .ok (.putfield 15, 3) := by decide +kernel
theorem dX4_copyFrom_16 : decode cX4_copyFrom 16 = .ok (.aload_n 0, 1) := by decide +kernel
theorem dX4_copyFrom_17 : decode cX4_copyFrom 17 = .ok (.aload_n 1, 1) := by decide +kernel
theorem dX4_copyFrom_18 : decode cX4_copyFrom 18 = .ok (.getfield 18, 3) := by decide +kernel
theorem dX4_copyFrom_21 : decode cX4_copyFrom 21 = .ok (.putfield 18, 3) := by decide +kernel
theorem dX4_copyFrom_24 : decode cX4_copyFrom 24 = .ok (.aload_n 0, 1) := by decide +kernel
theorem dX4_copyFrom_25 : decode cX4_copyFrom 25 = .ok (.aload_n 1, 1) := by decide +kernel
theorem dX4_copyFrom_26 : decode cX4_copyFrom 26 = .ok (.getfield 25, 3) := by decide +kernel
theorem dX4_copyFrom_29 : decode cX4_copyFrom 29 = .ok (.putfield 25, 3) := by decide +kernel
theorem dX4_copyFrom_32 : decode cX4_copyFrom 32 = .ok (.aload_n 1, 1) := by decide +kernel
theorem dX4_copyFrom_33 : decode cX4_copyFrom 33 = .ok (.getfield 21, 3) := by decide +kernel
theorem dX4_copyFrom_36 : decode cX4_copyFrom 36 = .ok (.aload_n 0, 1) := by decide +kernel
theorem dX4_copyFrom_37 : decode cX4_copyFrom 37 = .ok (.getfield 21, 3) := by decide +kernel
theorem dX4_copyFrom_40 : decode cX4_copyFrom 40 = .ok (.invokestatic 43, 3) := by decide +kernel
theorem dX4_copyFrom_43 : decode cX4_copyFrom 43 = .ok (.aload_n 0, 1) := by decide +kernel
theorem dX4_copyFrom_44 : decode cX4_copyFrom 44 = .ok (.getfield 33, 3) := by decide +kernel
theorem dX4_copyFrom_47 : decode cX4_copyFrom 47 = .ok (.aload_n 1, 1) := by decide +kernel
theorem dX4_copyFrom_48 : decode cX4_copyFrom 48 = .ok (.getfield 33, 3) := by decide +kernel
theorem dX4_copyFrom_51 : decode cX4_copyFrom 51 = .ok (.invokevirtual 47, 3) := by decide +kernel
theorem dX4_copyFrom_54 : decode cX4_copyFrom 54 = .ok (.aload_n 0, 1) := by decide +kernel
theorem dX4_copyFrom_55 : decode cX4_copyFrom 55 = .ok (.getfield 37, 3) := by decide +kernel
theorem dX4_copyFrom_58 : decode cX4_copyFrom 58 = .ok (.aload_n 1, 1) := by decide +kernel
theorem dX4_copyFrom_59 : decode cX4_copyFrom 59 = .ok (.getfield 37, 3) := by decide +kernel
theorem dX4_copyFrom_62 : decode cX4_copyFrom 62 = .ok (.invokevirtual 47, 3) := by decide +kernel
theorem dX4_copyFrom_65 : decode cX4_copyFrom 65 = .ok (.aload_n 0, 1) := by decide +kernel
theorem dX4_copyFrom_66 : decode cX4_copyFrom 66 = .ok (.getfield 40, 3) := by decide +kernel
theorem dX4_copyFrom_69 : decode cX4_copyFrom 69 = .ok (.aload_n 1, 1) := by decide +kernel
theorem dX4_copyFrom_70 : decode cX4_copyFrom 70 = .ok (.getfield 40, 3) := by decide +kernel
theorem dX4_copyFrom_73 : decode cX4_copyFrom 73 = .ok (.invokevirtual 47, 3) := by decide +kernel
theorem dX4_copyFrom_76 : decode cX4_copyFrom 76 = .ok (.return_, 1) := by decide +kernel
theorem dX4_copyRow_0 : decode cX4_copyRow 0 = .ok (.aload_n 0, 1) := by decide +kernel
theorem dX4_copyRow_1 : decode cX4_copyRow 1 = .ok (.iconst 0, 1) := by decide +kernel
theorem dX4_copyRow_2 : decode cX4_copyRow 2 = .ok (.aload_n 1, 1) := by decide +kernel
theorem dX4_copyRow_3 : decode cX4_copyRow 3 = .ok (.iconst 0, 1) := by decide +kernel
theorem dX4_copyRow_4 : decode cX4_copyRow 4 = .ok (.aload_n 0, 1) := by decide +kernel
theorem dX4_copyRow_5 : decode cX4_copyRow 5 = .ok (.arraylength, 1) := by decide +kernel
theorem dX4_copyRow_6 : decode cX4_copyRow 6 = .ok (.aload_n 1, 1) := by decide +kernel
theorem dX4_copyRow_7 : decode cX4_copyRow 7 = .ok (.arraylength, 1) := by decide +kernel
theorem dX4_copyRow_8 : decode cX4_copyRow 8 = .ok (.invokestatic 51, 3) := by decide +kernel
theorem dX4_copyRow_11 : decode cX4_copyRow 11 = .ok (.invokestatic 57, 3) := by decide +kernel
theorem dX4_copyRow_14 : decode cX4_copyRow 14 = .ok (.return_, 1) := by decide +kernel
theorem dX4_lots_0 : decode cX4_lots 0 = .ok (.iconst 1, 1) := by decide +kernel
theorem dX4_lots_1 : decode cX4_lots 1 = .ok (.aload_n 0, 1) := by decide +kernel
theorem dX4_lots_2 : decode cX4_lots 2 = .ok (.getfield 9, 3) := by decide +kernel
theorem dX4_lots_5 : decode cX4_lots 5 = .ok (.ishl, 1) := by decide +kernel
theorem dX4_lots_6 : decode cX4_lots 6 = .ok (.ireturn, 1) := by decide +kernel
theorem dX4_hasLot_0 : decode cX4_hasLot 0 = .ok (.iload_n 1, 1) := by decide +kernel
theorem dX4_hasLot_1 : decode cX4_hasLot 1 = .ok (.ifCond .lt 15, 3) := by decide +kernel
theorem dX4_hasLot_4 : decode cX4_hasLot 4 = .ok (.iload_n 1, 1) := by decide +kernel
theorem dX4_hasLot_5 : decode cX4_hasLot 5 = .ok (.aload_n 0, 1) := by decide +kernel
theorem dX4_hasLot_6 : decode cX4_hasLot 6 = .ok (.invokevirtual 63, 3) := by decide +kernel
theorem dX4_hasLot_9 : decode cX4_hasLot 9 = .ok (.if_icmp .ge 7, 3) := by decide +kernel
theorem dX4_hasLot_12 : decode cX4_hasLot 12 = .ok (.iconst 1, 1) := by decide +kernel
theorem dX4_hasLot_13 : decode cX4_hasLot 13 = .ok (.goto 4, 3) := by decide +kernel
theorem dX4_hasLot_16 : decode cX4_hasLot 16 = .ok (.iconst 0, 1) := by decide +kernel
theorem dX4_hasLot_17 : decode cX4_hasLot 17 = .ok (.ireturn, 1) := by decide +kernel
theorem dX4_hasVoter_0 : decode cX4_hasVoter 0 = .ok (.iload_n 1, 1) := by decide +kernel
theorem dX4_hasVoter_1 : decode cX4_hasVoter 1 = .ok (.ifCond .lt 15, 3) := by decide +kernel
theorem dX4_hasVoter_4 : decode cX4_hasVoter 4 = .ok (.iload_n 1, 1) := by decide +kernel
theorem dX4_hasVoter_5 : decode cX4_hasVoter 5 = .ok (.aload_n 0, 1) := by decide +kernel
theorem dX4_hasVoter_6 : decode cX4_hasVoter 6 = .ok (.getfield 9, 3) := by decide +kernel
theorem dX4_hasVoter_9 : decode cX4_hasVoter 9 = .ok (.if_icmp .ge 7, 3) := by decide +kernel
theorem dX4_hasVoter_12 : decode cX4_hasVoter 12 = .ok (.iconst 1, 1) := by decide +kernel
theorem dX4_hasVoter_13 : decode cX4_hasVoter 13 = .ok (.goto 4, 3) := by decide +kernel
theorem dX4_hasVoter_16 : decode cX4_hasVoter 16 = .ok (.iconst 0, 1) := by decide +kernel
theorem dX4_hasVoter_17 : decode cX4_hasVoter 17 = .ok (.ireturn, 1) := by decide +kernel
theorem dX4_worthOf_0 : decode cX4_worthOf 0 = .ok (.aload_n 0, 1) := by decide +kernel
theorem dX4_worthOf_1 : decode cX4_worthOf 1 = .ok (.getfield 21, 3) := by decide +kernel
theorem dX4_worthOf_4 : decode cX4_worthOf 4 = .ok (.iload_n 1, 1) := by decide +kernel
theorem dX4_worthOf_5 : decode cX4_worthOf 5 = .ok (.invokestatic 67, 3) := by decide +kernel
theorem dX4_worthOf_8 : decode cX4_worthOf 8 = .ok (.ireturn, 1) := by decide +kernel
theorem dX4_weighed_0 : decode cX4_weighed 0 = .ok (.iconst 0, 1) := by decide +kernel
theorem dX4_weighed_1 : decode cX4_weighed 1 = .ok (.istore_n 1, 1) := by decide +kernel
theorem dX4_weighed_2 : decode cX4_weighed 2 = .ok (.iconst 0, 1) := by decide +kernel
theorem dX4_weighed_3 : decode cX4_weighed 3 = .ok (.istore_n 2, 1) := by decide +kernel
theorem dX4_weighed_4 : decode cX4_weighed 4 = .ok (.iload_n 2, 1) := by decide +kernel
theorem dX4_weighed_5 : decode cX4_weighed 5 = .ok (.aload_n 0, 1) := by decide +kernel
theorem dX4_weighed_6 : decode cX4_weighed 6 = .ok (.invokevirtual 63, 3) := by decide +kernel
theorem dX4_weighed_9 : decode cX4_weighed 9 = .ok (.if_icmp .ge 27, 3) := by decide +kernel
theorem dX4_weighed_12 : decode cX4_weighed 12 = .ok (.aload_n 0, 1) := by decide +kernel
theorem dX4_weighed_13 : decode cX4_weighed 13 = .ok (.iload_n 2, 1) := by decide +kernel
theorem dX4_weighed_14 : decode cX4_weighed 14 = .ok (.invokevirtual 73, 3) := by decide +kernel
theorem dX4_weighed_17 : decode cX4_weighed 17 = .ok (.aload_n 0, 1) := by decide +kernel
theorem dX4_weighed_18 : decode cX4_weighed 18 = .ok (.getfield 25, 3) := by decide +kernel
theorem dX4_weighed_21 : decode cX4_weighed 21 = .ok (.if_icmp .lt 9, 3) := by decide +kernel
theorem dX4_weighed_24 : decode cX4_weighed 24 = .ok (.iload_n 1, 1) := by decide +kernel
theorem dX4_weighed_25 : decode cX4_weighed 25 = .ok (.iconst 1, 1) := by decide +kernel
theorem dX4_weighed_26 : decode cX4_weighed 26 = .ok (.iload_n 2, 1) := by decide +kernel
theorem dX4_weighed_27 : decode cX4_weighed 27 = .ok (.ishl, 1) := by decide +kernel
theorem dX4_weighed_28 : decode cX4_weighed 28 = .ok (.ior, 1) := by decide +kernel
theorem dX4_weighed_29 : decode cX4_weighed 29 = .ok (.istore_n 1, 1) := by decide +kernel
theorem dX4_weighed_30 : decode cX4_weighed 30 = .ok (.iinc 2 1, 3) := by decide +kernel
theorem dX4_weighed_33 : decode cX4_weighed 33 = .ok (.goto (-29), 3) := by decide +kernel
theorem dX4_weighed_36 : decode cX4_weighed 36 = .ok (.iload_n 1, 1) := by decide +kernel
theorem dX4_weighed_37 : decode cX4_weighed 37 = .ok (.ireturn, 1) := by decide +kernel
theorem dX5_init_0 : decode cX5_init 0 = .ok (.aload_n 0, 1) := by decide +kernel
theorem dX5_init_1 : decode cX5_init 1 = .ok (.invokespecial 1, 3) := by decide +kernel
theorem dX5_init_4 : decode cX5_init 4 = .ok (.aload_n 0, 1) := by decide +kernel
theorem dX5_init_5 : decode cX5_init 5 = .ok (.bipush 100, 2) := by decide +kernel
theorem dX5_init_7 : decode cX5_init 7 = .ok (.newarray .int, 2) := by decide +kernel
theorem dX5_init_9 : decode cX5_init 9 = .ok (.putfield 9, 3) := by decide +kernel
theorem dX5_init_12 : decode cX5_init 12 = .ok (.aload_n 0, 1) := by decide +kernel
theorem dX5_init_13 : decode cX5_init 13 = .ok (.iconst 0, 1) := by decide +kernel
theorem dX5_init_14 : decode cX5_init 14 = .ok (.putfield 13, 3) := by decide +kernel
theorem dX5_init_17 : decode cX5_init 17 = .ok (.aload_n 0, 1) := by decide +kernel
theorem dX5_init_18 : decode cX5_init 18 = .ok (.iconst 0, 1) := by decide +kernel
theorem dX5_init_19 : decode cX5_init 19 = .ok (.putfield 17, 3) := by decide +kernel
theorem dX5_init_22 : decode cX5_init 22 = .ok (.aload_n 0, 1) := by decide +kernel
theorem dX5_init_23 : decode cX5_init 23 = .ok (.bipush 12, 2) := by decide +kernel
theorem dX5_init_25 : decode cX5_init 25 = .ok (.newarray .int, 2) := by decide +kernel
theorem dX5_init_27 : decode cX5_init 27 = .ok (.putfield 20, 3) := by decide +kernel
theorem dX5_init_30 : decode cX5_init 30 = .ok (.aload_n 0, 1) := by decide +kernel
theorem dX5_init_31 : decode cX5_init 31 = .ok (.bipush 12, 2) := by decide +kernel
theorem dX5_init_33 : decode cX5_init 33 = .ok (.newarray .int, 2) := by decide +kernel
theorem dX5_init_35 : decode cX5_init 35 = .ok (.putfield 23, 3) := by decide +kernel
theorem dX5_init_38 : decode cX5_init 38 = .ok (.aload_n 0, 1) := by decide +kernel
theorem dX5_init_39 : decode cX5_init 39 = .ok (.bipush 12, 2) := by decide +kernel
theorem dX5_init_41 : decode cX5_init 41 = .ok (.newarray .int, 2) := by decide +kernel
theorem dX5_init_43 : decode cX5_init 43 = .ok (.putfield 26, 3) := by decide +kernel
theorem dX5_init_46 : decode cX5_init 46 = .ok (.aload_n 0, 1) := by decide +kernel
theorem dX5_init_47 : decode cX5_init 47 = .ok (.iconst 0, 1) := by decide +kernel
theorem dX5_init_48 : decode cX5_init 48 = .ok (.putfield 29, 3) := by decide +kernel
theorem dX5_init_51 : decode cX5_init 51 = .ok (.return_, 1) := by decide +kernel
theorem dX5_append_0 : decode cX5_append 0 = .ok (.aload_n 0, 1) := by decide +kernel
theorem dX5_append_1 : decode cX5_append 1 = .ok (.getfield 13, 3) := by decide +kernel
theorem dX5_append_4 : decode cX5_append 4 = .ok (.bipush 100, 2) := by decide +kernel
theorem dX5_append_6 : decode cX5_append 6 = .ok (.if_icmp .lt 5, 3) := by decide +kernel
theorem dX5_append_9 : decode cX5_append 9 = .ok (.iconst 0, 1) := by decide +kernel
theorem dX5_append_10 : decode cX5_append 10 = .ok (.ireturn, 1) := by decide +kernel
theorem dX5_append_11 : decode cX5_append 11 = .ok (.aload_n 0, 1) := by decide +kernel
theorem dX5_append_12 : decode cX5_append 12 = .ok (.getfield 9, 3) := by decide +kernel
theorem dX5_append_15 : decode cX5_append 15 = .ok (.aload_n 0, 1) := by decide +kernel
theorem dX5_append_16 : decode cX5_append 16 = .ok (.getfield 13, 3) := by decide +kernel
theorem dX5_append_19 : decode cX5_append 19 = .ok (.iload_n 1, 1) := by decide +kernel
theorem dX5_append_20 : decode cX5_append 20 = .ok (.iastore, 1) := by decide +kernel
theorem dX5_append_21 : decode cX5_append 21 = .ok (.aload_n 0, 1) := by decide +kernel
theorem dX5_append_22 : decode cX5_append 22 = .ok (.dup, 1) := by decide +kernel
theorem dX5_append_23 : decode cX5_append 23 = .ok (.getfield 13, 3) := by decide +kernel
theorem dX5_append_26 : decode cX5_append 26 = .ok (.iconst 1, 1) := by decide +kernel
theorem dX5_append_27 : decode cX5_append 27 = .ok (.iadd, 1) := by decide +kernel
theorem dX5_append_28 : decode cX5_append 28 = .ok (.putfield 13, 3) := by decide +kernel
theorem dX5_append_31 : decode cX5_append 31 = .ok (.iconst 1, 1) := by decide +kernel
theorem dX5_append_32 : decode cX5_append 32 = .ok (.ireturn, 1) := by decide +kernel
theorem dX5_parse_0 : decode cX5_parse 0 = .ok (.aload_n 0, 1) := by decide +kernel
theorem dX5_parse_1 : decode cX5_parse 1 = .ok (.iconst 0, 1) := by decide +kernel
theorem dX5_parse_2 : decode cX5_parse 2 = .ok (.putfield 17, 3) := by decide +kernel
theorem dX5_parse_5 : decode cX5_parse 5 = .ok (.aload_n 0, 1) := by decide +kernel
theorem dX5_parse_6 : decode cX5_parse 6 = .ok (.iconst 0, 1) := by decide +kernel
theorem dX5_parse_7 : decode cX5_parse 7 = .ok (.putfield 29, 3) := by decide +kernel
theorem dX5_parse_10 : decode cX5_parse 10 = .ok (.iconst 0, 1) := by decide +kernel
theorem dX5_parse_11 : decode cX5_parse 11 = .ok (.istore_n 1, 1) := by decide +kernel
theorem dX5_parse_12 : decode cX5_parse 12 = .ok (.iload_n 1, 1) := by decide +kernel
theorem dX5_parse_13 : decode cX5_parse 13 = .ok (.bipush 12, 2) := by decide +kernel
theorem dX5_parse_15 : decode cX5_parse 15 = .ok (.if_icmp .ge 75, 3) := by decide +kernel
theorem dX5_parse_18 : decode cX5_parse 18 = .ok (.aload_n 0, 1) := by decide +kernel
theorem dX5_parse_19 : decode cX5_parse 19 = .ok (.iload_n 1, 1) := by decide +kernel
theorem dX5_parse_20 : decode cX5_parse 20 = .ok (.invokevirtual 32, 3) := by decide +kernel
theorem dX5_parse_23 : decode cX5_parse 23 = .ok (.ifCond .ne 8, 3) := by decide +kernel
theorem dX5_parse_26 : decode cX5_parse 26 = .ok (.aload_n 0, 1) := by decide +kernel
theorem dX5_parse_27 : decode cX5_parse 27 = .ok (.getfield 17, 3) := by decide +kernel
theorem dX5_parse_30 : decode cX5_parse 30 = .ok (.ireturn, 1) := by decide +kernel
theorem dX5_parse_31 : decode cX5_parse 31 = .ok (.aload_n 0, 1) := by decide +kernel
theorem dX5_parse_32 : decode cX5_parse 32 = .ok (.dup, 1) := by decide +kernel
theorem dX5_parse_33 : decode cX5_parse 33 = .ok (.getfield 29, 3) := by decide +kernel
theorem dX5_parse_36 : decode cX5_parse 36 = .ok (.iconst 1, 1) := by decide +kernel
theorem dX5_parse_37 : decode cX5_parse 37 = .ok (.iadd, 1) := by decide +kernel
theorem dX5_parse_38 : decode cX5_parse 38 = .ok (.putfield 29, 3) := by decide +kernel
theorem dX5_parse_41 : decode cX5_parse 41 = .ok (.aload_n 0, 1) := by decide +kernel
theorem dX5_parse_42 : decode cX5_parse 42 = .ok (.invokevirtual 36, 3) := by decide +kernel
theorem dX5_parse_45 : decode cX5_parse 45 = .ok (.iconst (-1), 1) := by decide +kernel
theorem dX5_parse_46 : decode cX5_parse 46 = .ok (.if_icmp .ne 5, 3) := by decide +kernel
theorem dX5_parse_49 : decode cX5_parse 49 = .ok (.iconst (-1), 1) := by decide +kernel
theorem dX5_parse_50 : decode cX5_parse 50 = .ok (.ireturn, 1) := by decide +kernel
theorem dX5_parse_51 : decode cX5_parse 51 = .ok (.aload_n 0, 1) := by decide +kernel
theorem dX5_parse_52 : decode cX5_parse 52 = .ok (.invokevirtual 36, 3) := by decide +kernel
theorem dX5_parse_55 : decode cX5_parse 55 = .ok (.bipush 59, 2) := by decide +kernel
theorem dX5_parse_57 : decode cX5_parse 57 = .ok (.if_icmp .ne 12, 3) := by decide +kernel
theorem dX5_parse_60 : decode cX5_parse 60 = .ok (.aload_n 0, 1) := by decide +kernel
theorem dX5_parse_61 : decode cX5_parse 61 = .ok (.getfield 29, 3) := by decide +kernel
theorem dX5_parse_64 : decode cX5_parse 64 = .ok (.bipush 12, 2) := by decide +kernel
theorem dX5_parse_66 : decode cX5_parse 66 = .ok (.if_icmp .ne 8, 3) := by decide +kernel
theorem dX5_parse_69 : decode cX5_parse 69 = .ok (.aload_n 0, 1) := by decide +kernel
theorem dX5_parse_70 : decode cX5_parse 70 = .ok (.getfield 17, 3) := by decide +kernel
theorem dX5_parse_73 : decode cX5_parse 73 = .ok (.ireturn, 1) := by decide +kernel
theorem dX5_parse_74 : decode cX5_parse 74 = .ok (.aload_n 0, 1) := by decide +kernel
theorem dX5_parse_75 : decode cX5_parse 75 = .ok (.dup, 1) := by decide +kernel
theorem dX5_parse_76 : decode cX5_parse 76 = .ok (.getfield 17, 3) := by decide +kernel
theorem dX5_parse_79 : decode cX5_parse 79 = .ok (.iconst 1, 1) := by decide +kernel
theorem dX5_parse_80 : decode cX5_parse 80 = .ok (.iadd, 1) := by decide +kernel
theorem dX5_parse_81 : decode cX5_parse 81 = .ok (.putfield 17, 3) := by decide +kernel
theorem dX5_parse_84 : decode cX5_parse 84 = .ok (.iinc 1 1, 3) := by decide +kernel
theorem dX5_parse_87 : decode cX5_parse 87 = .ok (.goto (-75), 3) := by decide +kernel
theorem dX5_parse_90 : decode cX5_parse 90 = .ok (.aload_n 0, 1) := by decide +kernel
theorem dX5_parse_91 : decode cX5_parse 91 = .ok (.getfield 17, 3) := by decide +kernel
theorem dX5_parse_94 : decode cX5_parse 94 = .ok (.ireturn, 1) := by decide +kernel
theorem dX5_sign_0 : decode cX5_sign 0 = .ok (.aload_n 0, 1) := by decide +kernel
theorem dX5_sign_1 : decode cX5_sign 1 = .ok (.getfield 17, 3) := by decide +kernel
theorem dX5_sign_4 : decode cX5_sign 4 = .ok (.aload_n 0, 1) := by decide +kernel
theorem dX5_sign_5 : decode cX5_sign 5 = .ok (.getfield 13, 3) := by decide +kernel
theorem dX5_sign_8 : decode cX5_sign 8 = .ok (.if_icmp .ge 24, 3) := by decide +kernel
theorem dX5_sign_11 : decode cX5_sign 11 = .ok (.aload_n 0, 1) := by decide +kernel
theorem dX5_sign_12 : decode cX5_sign 12 = .ok (.getfield 17, 3) := by decide +kernel
theorem dX5_sign_15 : decode cX5_sign 15 = .ok (.bipush 100, 2) := by decide +kernel
theorem dX5_sign_17 : decode cX5_sign 17 = .ok (.if_icmp .ge 15, 3) := by decide +kernel
theorem dX5_sign_20 : decode cX5_sign 20 = .ok (.aload_n 0, 1) := by decide +kernel
theorem dX5_sign_21 : decode cX5_sign 21 = .ok (.getfield 9, 3) := by decide +kernel
theorem dX5_sign_24 : decode cX5_sign 24 = .ok (.aload_n 0, 1) := by decide +kernel
theorem dX5_sign_25 : decode cX5_sign 25 = .ok (.getfield 17, 3) := by decide +kernel
theorem dX5_sign_28 : decode cX5_sign 28 = .ok (.iaload, 1) := by decide +kernel
theorem dX5_sign_29 : decode cX5_sign 29 = .ok (.goto 4, 3) := by decide +kernel
theorem dX5_sign_32 : decode cX5_sign 32 = .ok (.iconst (-1), 1) := by decide +kernel
theorem dX5_sign_33 : decode cX5_sign 33 = .ok (.ireturn, 1) := by decide +kernel
theorem dX5_isDigit_0 : decode cX5_isDigit 0 = .ok (.aload_n 0, 1) := by decide +kernel
theorem dX5_isDigit_1 : decode cX5_isDigit 1 = .ok (.invokevirtual 36, 3) := by decide +kernel
theorem dX5_isDigit_4 : decode cX5_isDigit 4 = .ok (.bipush 48, 2) := by decide +kernel
theorem dX5_isDigit_6 : decode cX5_isDigit 6 = .ok (.if_icmp .lt 16, 3) := by decide +kernel
theorem dX5_isDigit_9 : decode cX5_isDigit 9 = .ok (.aload_n 0, 1) := by decide +kernel
theorem dX5_isDigit_10 : decode cX5_isDigit 10 = .ok (.invokevirtual 36, 3) := by decide +kernel
theorem dX5_isDigit_13 : decode cX5_isDigit 13 = .ok (.bipush 57, 2) := by decide +kernel
theorem dX5_isDigit_15 : decode cX5_isDigit 15 = .ok (.if_icmp .gt 7, 3) := by decide +kernel
theorem dX5_isDigit_18 : decode cX5_isDigit 18 = .ok (.iconst 1, 1) := by decide +kernel
theorem dX5_isDigit_19 : decode cX5_isDigit 19 = .ok (.goto 4, 3) := by decide +kernel
theorem dX5_isDigit_22 : decode cX5_isDigit 22 = .ok (.iconst 0, 1) := by decide +kernel
theorem dX5_isDigit_23 : decode cX5_isDigit 23 = .ok (.ireturn, 1) := by decide +kernel
theorem dX5_takeClause_0 : decode cX5_takeClause 0 = .ok (.aload_n 0, 1) := by decide +kernel
theorem dX5_takeClause_1 : decode cX5_takeClause 1 = .ok (.invokevirtual 36, 3) := by decide +kernel
theorem dX5_takeClause_4 : decode cX5_takeClause 4 = .ok (.istore_n 2, 1) := by decide +kernel
theorem dX5_takeClause_5 : decode cX5_takeClause 5 = .ok (.aload_n 0, 1) := by decide +kernel
theorem dX5_takeClause_6 : decode cX5_takeClause 6 = .ok (.getfield 20, 3) := by decide +kernel
theorem dX5_takeClause_9 : decode cX5_takeClause 9 = .ok (.iload_n 1, 1) := by decide +kernel
theorem dX5_takeClause_10 : decode cX5_takeClause 10 = .ok (.iload_n 2, 1) := by decide +kernel
theorem dX5_takeClause_11 : decode cX5_takeClause 11 = .ok (.iastore, 1) := by decide +kernel
theorem dX5_takeClause_12 : decode cX5_takeClause 12 = .ok (.iload_n 2, 1) := by decide +kernel
theorem dX5_takeClause_13 : decode cX5_takeClause 13 = .ok (.lookupswitch 248 #[(43, 119), (45, 119), (100, 236), (103, 236), (107, 236), (110, 99), (111, 236), (113, 176), (116, 99), (119, 136), (120, 196)], 99) := by decide +kernel
theorem dX5_takeClause_112 : decode cX5_takeClause 112 = .ok (.aload_n 0, 1) := by decide +kernel
theorem dX5_takeClause_113 : decode cX5_takeClause 113 = .ok (.dup, 1) := by decide +kernel
theorem dX5_takeClause_114 : decode cX5_takeClause 114 = .ok (.getfield 17, 3) := by decide +kernel
theorem dX5_takeClause_117 : decode cX5_takeClause 117 = .ok (.iconst 1, 1) := by decide +kernel
theorem dX5_takeClause_118 : decode cX5_takeClause 118 = .ok (.iadd, 1) := by decide +kernel
theorem dX5_takeClause_119 : decode cX5_takeClause 119 = .ok (.putfield 17, 3) := by decide +kernel
theorem dX5_takeClause_122 : decode cX5_takeClause 122 = .ok (.aload_n 0, 1) := by decide +kernel
theorem dX5_takeClause_123 : decode cX5_takeClause 123 = .ok (.aload_n 0, 1) := by decide +kernel
theorem dX5_takeClause_124 : decode cX5_takeClause 124 = .ok (.getfield 23, 3) := by decide +kernel
theorem dX5_takeClause_127 : decode cX5_takeClause 127 = .ok (.iload_n 1, 1) := by decide +kernel
theorem dX5_takeClause_128 : decode cX5_takeClause 128 = .ok (.invokevirtual 40, 3) := by decide +kernel
theorem dX5_takeClause_131 : decode cX5_takeClause 131 = .ok (.ireturn, 1) := by decide +kernel
theorem dX5_takeClause_132 : decode cX5_takeClause 132 = .ok (.aload_n 0, 1) := by decide +kernel
theorem dX5_takeClause_133 : decode cX5_takeClause 133 = .ok (.dup, 1) := by decide +kernel
theorem dX5_takeClause_134 : decode cX5_takeClause 134 = .ok (.getfield 17, 3) := by decide +kernel
theorem dX5_takeClause_137 : decode cX5_takeClause 137 = .ok (.iconst 1, 1) := by decide +kernel
theorem dX5_takeClause_138 : decode cX5_takeClause 138 = .ok (.iadd, 1) := by decide +kernel
theorem dX5_takeClause_139 : decode cX5_takeClause 139 = .ok (.putfield 17, 3) := by decide +kernel
theorem dX5_takeClause_142 : decode cX5_takeClause 142 = .ok (.aload_n 0, 1) := by decide +kernel
theorem dX5_takeClause_143 : decode cX5_takeClause 143 = .ok (.iload_n 1, 1) := by decide +kernel
theorem dX5_takeClause_144 : decode cX5_takeClause 144 = .ok (.invokevirtual 44, 3) := by decide +kernel
theorem dX5_takeClause_147 : decode cX5_takeClause 147 = .ok (.iconst 1, 1) := by decide +kernel
theorem dX5_takeClause_148 : decode cX5_takeClause 148 = .ok (.ireturn, 1) := by decide +kernel
theorem dX5_takeClause_149 : decode cX5_takeClause 149 = .ok (.aload_n 0, 1) := by decide +kernel
theorem dX5_takeClause_150 : decode cX5_takeClause 150 = .ok (.dup, 1) := by decide +kernel
theorem dX5_takeClause_151 : decode cX5_takeClause 151 = .ok (.getfield 17, 3) := by decide +kernel
theorem dX5_takeClause_154 : decode cX5_takeClause 154 = .ok (.iconst 1, 1) := by decide +kernel
theorem dX5_takeClause_155 : decode cX5_takeClause 155 = .ok (.iadd, 1) := by decide +kernel
theorem dX5_takeClause_156 : decode cX5_takeClause 156 = .ok (.putfield 17, 3) := by decide +kernel
theorem dX5_takeClause_159 : decode cX5_takeClause 159 = .ok (.aload_n 0, 1) := by decide +kernel
theorem dX5_takeClause_160 : decode cX5_takeClause 160 = .ok (.aload_n 0, 1) := by decide +kernel
theorem dX5_takeClause_161 : decode cX5_takeClause 161 = .ok (.getfield 23, 3) := by decide +kernel
theorem dX5_takeClause_164 : decode cX5_takeClause 164 = .ok (.iload_n 1, 1) := by decide +kernel
theorem dX5_takeClause_165 : decode cX5_takeClause 165 = .ok (.invokevirtual 40, 3) := by decide +kernel
theorem dX5_takeClause_168 : decode cX5_takeClause 168 = .ok (.ifCond .eq 19, 3) := by decide +kernel
theorem dX5_takeClause_171 : decode cX5_takeClause 171 = .ok (.aload_n 0, 1) := by decide +kernel
theorem dX5_takeClause_172 : decode cX5_takeClause 172 = .ok (.aload_n 0, 1) := by decide +kernel
theorem dX5_takeClause_173 : decode cX5_takeClause 173 = .ok (.getfield 26, 3) := by decide +kernel
theorem dX5_takeClause_176 : decode cX5_takeClause 176 = .ok (.iload_n 1, 1) := by decide +kernel
theorem dX5_takeClause_177 : decode cX5_takeClause 177 = .ok (.invokevirtual 48, 3) := by decide +kernel
theorem dX5_takeClause_180 : decode cX5_takeClause 180 = .ok (.ifCond .eq 7, 3) := by decide +kernel
theorem dX5_takeClause_183 : decode cX5_takeClause 183 = .ok (.iconst 1, 1) := by decide +kernel
theorem dX5_takeClause_184 : decode cX5_takeClause 184 = .ok (.goto 4, 3) := by decide +kernel
theorem dX5_takeClause_187 : decode cX5_takeClause 187 = .ok (.iconst 0, 1) := by decide +kernel
theorem dX5_takeClause_188 : decode cX5_takeClause 188 = .ok (.ireturn, 1) := by decide +kernel
theorem dX5_takeClause_189 : decode cX5_takeClause 189 = .ok (.aload_n 0, 1) := by decide +kernel
theorem dX5_takeClause_190 : decode cX5_takeClause 190 = .ok (.dup, 1) := by decide +kernel
theorem dX5_takeClause_191 : decode cX5_takeClause 191 = .ok (.getfield 17, 3) := by decide +kernel
theorem dX5_takeClause_194 : decode cX5_takeClause 194 = .ok (.iconst 1, 1) := by decide +kernel
theorem dX5_takeClause_195 : decode cX5_takeClause 195 = .ok (.iadd, 1) := by decide +kernel
theorem dX5_takeClause_196 : decode cX5_takeClause 196 = .ok (.putfield 17, 3) := by decide +kernel
theorem dX5_takeClause_199 : decode cX5_takeClause 199 = .ok (.aload_n 0, 1) := by decide +kernel
theorem dX5_takeClause_200 : decode cX5_takeClause 200 = .ok (.aload_n 0, 1) := by decide +kernel
theorem dX5_takeClause_201 : decode cX5_takeClause 201 = .ok (.getfield 23, 3) := by decide +kernel
theorem dX5_takeClause_204 : decode cX5_takeClause 204 = .ok (.iload_n 1, 1) := by decide +kernel
theorem dX5_takeClause_205 : decode cX5_takeClause 205 = .ok (.invokevirtual 48, 3) := by decide +kernel
theorem dX5_takeClause_208 : decode cX5_takeClause 208 = .ok (.ireturn, 1) := by decide +kernel
theorem dX5_takeClause_209 : decode cX5_takeClause 209 = .ok (.aload_n 0, 1) := by decide +kernel
theorem dX5_takeClause_210 : decode cX5_takeClause 210 = .ok (.dup, 1) := by decide +kernel
theorem dX5_takeClause_211 : decode cX5_takeClause 211 = .ok (.getfield 17, 3) := by decide +kernel
theorem dX5_takeClause_214 : decode cX5_takeClause 214 = .ok (.iconst 1, 1) := by decide +kernel
theorem dX5_takeClause_215 : decode cX5_takeClause 215 = .ok (.iadd, 1) := by decide +kernel
theorem dX5_takeClause_216 : decode cX5_takeClause 216 = .ok (.putfield 17, 3) := by decide +kernel
theorem dX5_takeClause_219 : decode cX5_takeClause 219 = .ok (.aload_n 0, 1) := by decide +kernel
theorem dX5_takeClause_220 : decode cX5_takeClause 220 = .ok (.aload_n 0, 1) := by decide +kernel
theorem dX5_takeClause_221 : decode cX5_takeClause 221 = .ok (.getfield 23, 3) := by decide +kernel
theorem dX5_takeClause_224 : decode cX5_takeClause 224 = .ok (.iload_n 1, 1) := by decide +kernel
theorem dX5_takeClause_225 : decode cX5_takeClause 225 = .ok (.invokevirtual 40, 3) := by decide +kernel
theorem dX5_takeClause_228 : decode cX5_takeClause 228 = .ok (.ifCond .eq 19, 3) := by decide +kernel
theorem dX5_takeClause_231 : decode cX5_takeClause 231 = .ok (.aload_n 0, 1) := by decide +kernel
theorem dX5_takeClause_232 : decode cX5_takeClause 232 = .ok (.aload_n 0, 1) := by decide +kernel
theorem dX5_takeClause_233 : decode cX5_takeClause 233 = .ok (.getfield 26, 3) := by decide +kernel
theorem dX5_takeClause_236 : decode cX5_takeClause 236 = .ok (.iload_n 1, 1) := by decide +kernel
theorem dX5_takeClause_237 : decode cX5_takeClause 237 = .ok (.invokevirtual 40, 3) := by decide +kernel
theorem dX5_takeClause_240 : decode cX5_takeClause 240 = .ok (.ifCond .eq 7, 3) := by decide +kernel
theorem dX5_takeClause_243 : decode cX5_takeClause 243 = .ok (.iconst 1, 1) := by decide +kernel
theorem dX5_takeClause_244 : decode cX5_takeClause 244 = .ok (.goto 4, 3) := by decide +kernel
theorem dX5_takeClause_247 : decode cX5_takeClause 247 = .ok (.iconst 0, 1) := by decide +kernel
theorem dX5_takeClause_248 : decode cX5_takeClause 248 = .ok (.ireturn, 1) := by decide +kernel
theorem dX5_takeClause_249 : decode cX5_takeClause 249 = .ok (.aload_n 0, 1) := by decide +kernel
theorem dX5_takeClause_250 : decode cX5_takeClause 250 = .ok (.dup, 1) := by decide +kernel
theorem dX5_takeClause_251 : decode cX5_takeClause 251 = .ok (.getfield 17, 3) := by decide +kernel
theorem dX5_takeClause_254 : decode cX5_takeClause 254 = .ok (.iconst 1, 1) := by decide +kernel
theorem dX5_takeClause_255 : decode cX5_takeClause 255 = .ok (.iadd, 1) := by decide +kernel
theorem dX5_takeClause_256 : decode cX5_takeClause 256 = .ok (.putfield 17, 3) := by decide +kernel
theorem dX5_takeClause_259 : decode cX5_takeClause 259 = .ok (.iconst 1, 1) := by decide +kernel
theorem dX5_takeClause_260 : decode cX5_takeClause 260 = .ok (.ireturn, 1) := by decide +kernel
theorem dX5_takeClause_261 : decode cX5_takeClause 261 = .ok (.iconst 0, 1) := by decide +kernel
theorem dX5_takeClause_262 : decode cX5_takeClause 262 = .ok (.ireturn, 1) := by decide +kernel
theorem dX5_takeDigit_0 : decode cX5_takeDigit 0 = .ok (.aload_n 0, 1) := by decide +kernel
theorem dX5_takeDigit_1 : decode cX5_takeDigit 1 = .ok (.invokevirtual 51, 3) := by decide +kernel
theorem dX5_takeDigit_4 : decode cX5_takeDigit 4 = .ok (.ifCond .ne 5, 3) := by decide +kernel
theorem dX5_takeDigit_7 : decode cX5_takeDigit 7 = .ok (.iconst 0, 1) := by decide +kernel
theorem dX5_takeDigit_8 : decode cX5_takeDigit 8 = .ok (.ireturn, 1) := by decide +kernel
theorem dX5_takeDigit_9 : decode cX5_takeDigit 9 = .ok (.aload_n 1, 1) := by decide +kernel
theorem dX5_takeDigit_10 : decode cX5_takeDigit 10 = .ok (.iload_n 2, 1) := by decide +kernel
theorem dX5_takeDigit_11 : decode cX5_takeDigit 11 = .ok (.aload_n 0, 1) := by decide +kernel
theorem dX5_takeDigit_12 : decode cX5_takeDigit 12 = .ok (.invokevirtual 36, 3) := by decide +kernel
theorem dX5_takeDigit_15 : decode cX5_takeDigit 15 = .ok (.bipush 48, 2) := by decide +kernel
theorem dX5_takeDigit_17 : decode cX5_takeDigit 17 = .ok (.isub, 1) := by decide +kernel
theorem dX5_takeDigit_18 : decode cX5_takeDigit 18 = .ok (.iastore, 1) := by decide +kernel
theorem dX5_takeDigit_19 : decode cX5_takeDigit 19 = .ok (.aload_n 0, 1) := by decide +kernel
theorem dX5_takeDigit_20 : decode cX5_takeDigit 20 = .ok (.dup, 1) := by decide +kernel
theorem dX5_takeDigit_21 : decode cX5_takeDigit 21 = .ok (.getfield 17, 3) := by decide +kernel
theorem dX5_takeDigit_24 : decode cX5_takeDigit 24 = .ok (.iconst 1, 1) := by decide +kernel
theorem dX5_takeDigit_25 : decode cX5_takeDigit 25 = .ok (.iadd, 1) := by decide +kernel
theorem dX5_takeDigit_26 : decode cX5_takeDigit 26 = .ok (.putfield 17, 3) := by decide +kernel
theorem dX5_takeDigit_29 : decode cX5_takeDigit 29 = .ok (.iconst 1, 1) := by decide +kernel
theorem dX5_takeDigit_30 : decode cX5_takeDigit 30 = .ok (.ireturn, 1) := by decide +kernel
theorem dX5_takeNumber_0 : decode cX5_takeNumber 0 = .ok (.aload_n 0, 1) := by decide +kernel
theorem dX5_takeNumber_1 : decode cX5_takeNumber 1 = .ok (.invokevirtual 36, 3) := by decide +kernel
theorem dX5_takeNumber_4 : decode cX5_takeNumber 4 = .ok (.bipush 45, 2) := by decide +kernel
theorem dX5_takeNumber_6 : decode cX5_takeNumber 6 = .ok (.if_icmp .ne 7, 3) := by decide +kernel
theorem dX5_takeNumber_9 : decode cX5_takeNumber 9 = .ok (.iconst 1, 1) := by decide +kernel
theorem dX5_takeNumber_10 : decode cX5_takeNumber 10 = .ok (.goto 4, 3) := by decide +kernel
theorem dX5_takeNumber_13 : decode cX5_takeNumber 13 = .ok (.iconst 0, 1) := by decide +kernel
theorem dX5_takeNumber_14 : decode cX5_takeNumber 14 = .ok (.istore_n 3, 1) := by decide +kernel
theorem dX5_takeNumber_15 : decode cX5_takeNumber 15 = .ok (.iload_n 3, 1) := by decide +kernel
theorem dX5_takeNumber_16 : decode cX5_takeNumber 16 = .ok (.ifCond .eq 13, 3) := by decide +kernel
theorem dX5_takeNumber_19 : decode cX5_takeNumber 19 = .ok (.aload_n 0, 1) := by decide +kernel
theorem dX5_takeNumber_20 : decode cX5_takeNumber 20 = .ok (.dup, 1) := by decide +kernel
theorem dX5_takeNumber_21 : decode cX5_takeNumber 21 = .ok (.getfield 17, 3) := by decide +kernel
theorem dX5_takeNumber_24 : decode cX5_takeNumber 24 = .ok (.iconst 1, 1) := by decide +kernel
theorem dX5_takeNumber_25 : decode cX5_takeNumber 25 = .ok (.iadd, 1) := by decide +kernel
theorem dX5_takeNumber_26 : decode cX5_takeNumber 26 = .ok (.putfield 17, 3) := by decide +kernel
theorem dX5_takeNumber_29 : decode cX5_takeNumber 29 = .ok (.aload_n 0, 1) := by decide +kernel
theorem dX5_takeNumber_30 : decode cX5_takeNumber 30 = .ok (.invokevirtual 51, 3) := by decide +kernel
theorem dX5_takeNumber_33 : decode cX5_takeNumber 33 = .ok (.ifCond .ne 5, 3) := by decide +kernel
theorem dX5_takeNumber_36 : decode cX5_takeNumber 36 = .ok (.iconst 0, 1) := by decide +kernel
theorem dX5_takeNumber_37 : decode cX5_takeNumber 37 = .ok (.ireturn, 1) := by decide +kernel
theorem dX5_takeNumber_38 : decode cX5_takeNumber 38 = .ok (.aload_n 0, 1) := by decide +kernel
theorem dX5_takeNumber_39 : decode cX5_takeNumber 39 = .ok (.invokevirtual 36, 3) := by decide +kernel
theorem dX5_takeNumber_42 : decode cX5_takeNumber 42 = .ok (.bipush 48, 2) := by decide +kernel
theorem dX5_takeNumber_44 : decode cX5_takeNumber 44 = .ok (.isub, 1) := by decide +kernel
theorem dX5_takeNumber_45 : decode cX5_takeNumber 45 = .ok (.istore 4, 2) := by decide +kernel
theorem dX5_takeNumber_47 : decode cX5_takeNumber 47 = .ok (.aload_n 0, 1) := by decide +kernel
theorem dX5_takeNumber_48 : decode cX5_takeNumber 48 = .ok (.dup, 1) := by decide +kernel
theorem dX5_takeNumber_49 : decode cX5_takeNumber 49 = .ok (.getfield 17, 3) := by decide +kernel
theorem dX5_takeNumber_52 : decode cX5_takeNumber 52 = .ok (.iconst 1, 1) := by decide +kernel
theorem dX5_takeNumber_53 : decode cX5_takeNumber 53 = .ok (.iadd, 1) := by decide +kernel
theorem dX5_takeNumber_54 : decode cX5_takeNumber 54 = .ok (.putfield 17, 3) := by decide +kernel
theorem dX5_takeNumber_57 : decode cX5_takeNumber 57 = .ok (.aload_n 0, 1) := by decide +kernel
theorem dX5_takeNumber_58 : decode cX5_takeNumber 58 = .ok (.invokevirtual 51, 3) := by decide +kernel
theorem dX5_takeNumber_61 : decode cX5_takeNumber 61 = .ok (.ifCond .eq 28, 3) := by decide +kernel
theorem dX5_takeNumber_64 : decode cX5_takeNumber 64 = .ok (.bipush 10, 2) := by decide +kernel
theorem dX5_takeNumber_66 : decode cX5_takeNumber 66 = .ok (.iload 4, 2) := by decide +kernel
theorem dX5_takeNumber_68 : decode cX5_takeNumber 68 = .ok (.imul, 1) := by decide +kernel
theorem dX5_takeNumber_69 : decode cX5_takeNumber 69 = .ok (.aload_n 0, 1) := by decide +kernel
theorem dX5_takeNumber_70 : decode cX5_takeNumber 70 = .ok (.invokevirtual 36, 3) := by decide +kernel
theorem dX5_takeNumber_73 : decode cX5_takeNumber 73 = .ok (.iadd, 1) := by decide +kernel
theorem dX5_takeNumber_74 : decode cX5_takeNumber 74 = .ok (.bipush 48, 2) := by decide +kernel
theorem dX5_takeNumber_76 : decode cX5_takeNumber 76 = .ok (.isub, 1) := by decide +kernel
theorem dX5_takeNumber_77 : decode cX5_takeNumber 77 = .ok (.istore 4, 2) := by decide +kernel
theorem dX5_takeNumber_79 : decode cX5_takeNumber 79 = .ok (.aload_n 0, 1) := by decide +kernel
theorem dX5_takeNumber_80 : decode cX5_takeNumber 80 = .ok (.dup, 1) := by decide +kernel
theorem dX5_takeNumber_81 : decode cX5_takeNumber 81 = .ok (.getfield 17, 3) := by decide +kernel
theorem dX5_takeNumber_84 : decode cX5_takeNumber 84 = .ok (.iconst 1, 1) := by decide +kernel
theorem dX5_takeNumber_85 : decode cX5_takeNumber 85 = .ok (.iadd, 1) := by decide +kernel
theorem dX5_takeNumber_86 : decode cX5_takeNumber 86 = .ok (.putfield 17, 3) := by decide +kernel
theorem dX5_takeNumber_89 : decode cX5_takeNumber 89 = .ok (.aload_n 1, 1) := by decide +kernel
theorem dX5_takeNumber_90 : decode cX5_takeNumber 90 = .ok (.iload_n 2, 1) := by decide +kernel
theorem dX5_takeNumber_91 : decode cX5_takeNumber 91 = .ok (.iload_n 3, 1) := by decide +kernel
theorem dX5_takeNumber_92 : decode cX5_takeNumber 92 = .ok (.ifCond .eq 9, 3) := by decide +kernel
theorem dX5_takeNumber_95 : decode cX5_takeNumber 95 = .ok (.iload 4, 2) := by decide +kernel
theorem dX5_takeNumber_97 : decode cX5_takeNumber 97 = .ok (.ineg, 1) := by decide +kernel
theorem dX5_takeNumber_98 : decode cX5_takeNumber 98 = .ok (.goto 5, 3) := by decide +kernel
theorem dX5_takeNumber_101 : decode cX5_takeNumber 101 = .ok (.iload 4, 2) := by decide +kernel
theorem dX5_takeNumber_103 : decode cX5_takeNumber 103 = .ok (.iastore, 1) := by decide +kernel
theorem dX5_takeNumber_104 : decode cX5_takeNumber 104 = .ok (.iconst 1, 1) := by decide +kernel
theorem dX5_takeNumber_105 : decode cX5_takeNumber 105 = .ok (.ireturn, 1) := by decide +kernel
theorem dX5_takeLot_0 : decode cX5_takeLot 0 = .ok (.aload_n 0, 1) := by decide +kernel
theorem dX5_takeLot_1 : decode cX5_takeLot 1 = .ok (.getfield 23, 3) := by decide +kernel
theorem dX5_takeLot_4 : decode cX5_takeLot 4 = .ok (.iload_n 1, 1) := by decide +kernel
theorem dX5_takeLot_5 : decode cX5_takeLot 5 = .ok (.iconst 0, 1) := by decide +kernel
theorem dX5_takeLot_6 : decode cX5_takeLot 6 = .ok (.iastore, 1) := by decide +kernel
theorem dX5_takeLot_7 : decode cX5_takeLot 7 = .ok (.iconst 0, 1) := by decide +kernel
theorem dX5_takeLot_8 : decode cX5_takeLot 8 = .ok (.istore_n 2, 1) := by decide +kernel
theorem dX5_takeLot_9 : decode cX5_takeLot 9 = .ok (.iload_n 2, 1) := by decide +kernel
theorem dX5_takeLot_10 : decode cX5_takeLot 10 = .ok (.iconst 4, 1) := by decide +kernel
theorem dX5_takeLot_11 : decode cX5_takeLot 11 = .ok (.if_icmp .ge 44, 3) := by decide +kernel
theorem dX5_takeLot_14 : decode cX5_takeLot 14 = .ok (.aload_n 0, 1) := by decide +kernel
theorem dX5_takeLot_15 : decode cX5_takeLot 15 = .ok (.invokevirtual 51, 3) := by decide +kernel
theorem dX5_takeLot_18 : decode cX5_takeLot 18 = .ok (.ifCond .eq 37, 3) := by decide +kernel
theorem dX5_takeLot_21 : decode cX5_takeLot 21 = .ok (.aload_n 0, 1) := by decide +kernel
theorem dX5_takeLot_22 : decode cX5_takeLot 22 = .ok (.getfield 23, 3) := by decide +kernel
theorem dX5_takeLot_25 : decode cX5_takeLot 25 = .ok (.iload_n 1, 1) := by decide +kernel
theorem dX5_takeLot_26 : decode cX5_takeLot 26 = .ok (.dup2, 1) := by decide +kernel
theorem dX5_takeLot_27 : decode cX5_takeLot 27 = .ok (.iaload, 1) := by decide +kernel
theorem dX5_takeLot_28 : decode cX5_takeLot 28 = .ok (.iconst 1, 1) := by decide +kernel
theorem dX5_takeLot_29 : decode cX5_takeLot 29 = .ok (.aload_n 0, 1) := by decide +kernel
theorem dX5_takeLot_30 : decode cX5_takeLot 30 = .ok (.invokevirtual 36, 3) := by decide +kernel
theorem dX5_takeLot_33 : decode cX5_takeLot 33 = .ok (.bipush 48, 2) := by decide +kernel
theorem dX5_takeLot_35 : decode cX5_takeLot 35 = .ok (.isub, 1) := by decide +kernel
theorem dX5_takeLot_36 : decode cX5_takeLot 36 = .ok (.ishl, 1) := by decide +kernel
theorem dX5_takeLot_37 : decode cX5_takeLot 37 = .ok (.ior, 1) := by decide +kernel
theorem dX5_takeLot_38 : decode cX5_takeLot 38 = .ok (.iastore, 1) := by decide +kernel
theorem dX5_takeLot_39 : decode cX5_takeLot 39 = .ok (.aload_n 0, 1) := by decide +kernel
theorem dX5_takeLot_40 : decode cX5_takeLot 40 = .ok (.dup, 1) := by decide +kernel
theorem dX5_takeLot_41 : decode cX5_takeLot 41 = .ok (.getfield 17, 3) := by decide +kernel
theorem dX5_takeLot_44 : decode cX5_takeLot 44 = .ok (.iconst 1, 1) := by decide +kernel
theorem dX5_takeLot_45 : decode cX5_takeLot 45 = .ok (.iadd, 1) := by decide +kernel
theorem dX5_takeLot_46 : decode cX5_takeLot 46 = .ok (.putfield 17, 3) := by decide +kernel
theorem dX5_takeLot_49 : decode cX5_takeLot 49 = .ok (.iinc 2 1, 3) := by decide +kernel
theorem dX5_takeLot_52 : decode cX5_takeLot 52 = .ok (.goto (-43), 3) := by decide +kernel
theorem dX5_takeLot_55 : decode cX5_takeLot 55 = .ok (.return_, 1) := by decide +kernel
theorem dX6_init_0 : decode cX6_init 0 = .ok (.aload_n 0, 1) := by decide +kernel
theorem dX6_init_1 : decode cX6_init 1 = .ok (.invokespecial 1, 3) := by decide +kernel
theorem dX6_init_4 : decode cX6_init 4 = .ok (.aload_n 0, 1) := by decide +kernel
theorem dX6_init_5 : decode cX6_init 5 = .ok (.iconst (-1), 1) := by decide +kernel
theorem dX6_init_6 : decode cX6_init 6 = .ok (.putfield 9, 3) := by decide +kernel
theorem dX6_init_9 : decode cX6_init 9 = .ok (.aload_n 0, 1) := by decide +kernel
theorem dX6_init_10 : decode cX6_init 10 = .ok (.iconst 0, 1) := by decide +kernel
theorem dX6_init_11 : decode cX6_init 11 = .ok (.putfield 13, 3) := by decide +kernel
theorem dX6_init_14 : decode cX6_init 14 = .ok (.aload_n 0, 1) := by decide +kernel
theorem dX6_init_15 : decode cX6_init 15 = .ok (.bipush 60, 2) := by decide +kernel
theorem dX6_init_17 : decode cX6_init 17 = .ok (.newarray .long, 2) := by decide +kernel
theorem dX6_init_19 : decode cX6_init 19 = .ok (.putfield 16, 3) := by decide +kernel
theorem dX6_init_22 : decode cX6_init 22 = .ok (.return_, 1) := by decide +kernel
theorem dX6_become_0 : decode cX6_become 0 = .ok (.aload_n 0, 1) := by decide +kernel
theorem dX6_become_1 : decode cX6_become 1 = .ok (.iload_n 1, 1) := by decide +kernel
theorem dX6_become_2 : decode cX6_become 2 = .ok (.putfield 9, 3) := by decide +kernel
theorem dX6_become_5 : decode cX6_become 5 = .ok (.aload_n 0, 1) := by decide +kernel
theorem dX6_become_6 : decode cX6_become 6 = .ok (.iload_n 2, 1) := by decide +kernel
theorem dX6_become_7 : decode cX6_become 7 = .ok (.putfield 13, 3) := by decide +kernel
theorem dX6_become_10 : decode cX6_become 10 = .ok (.iconst 0, 1) := by decide +kernel
theorem dX6_become_11 : decode cX6_become 11 = .ok (.istore_n 3, 1) := by decide +kernel
theorem dX6_become_12 : decode cX6_become 12 = .ok (.iload_n 3, 1) := by decide +kernel
theorem dX6_become_13 : decode cX6_become 13 = .ok (.bipush 60, 2) := by decide +kernel
theorem dX6_become_15 : decode cX6_become 15 = .ok (.if_icmp .ge 16, 3) := by decide +kernel
theorem dX6_become_18 : decode cX6_become 18 = .ok (.aload_n 0, 1) := by decide +kernel
theorem dX6_become_19 : decode cX6_become 19 = .ok (.getfield 16, 3) := by decide +kernel
theorem dX6_become_22 : decode cX6_become 22 = .ok (.iload_n 3, 1) := by decide +kernel
theorem dX6_become_23 : decode cX6_become 23 = .ok (.lconst 0, 1) := by decide +kernel
theorem dX6_become_24 : decode cX6_become 24 = .ok (.lastore, 1) := by decide +kernel
theorem dX6_become_25 : decode cX6_become 25 = .ok (.iinc 3 1, 3) := by decide +kernel
theorem dX6_become_28 : decode cX6_become 28 = .ok (.goto (-16), 3) := by decide +kernel
theorem dX6_become_31 : decode cX6_become 31 = .ok (.return_, 1) := by decide +kernel
theorem dX6_holdsNothing_0 : decode cX6_holdsNothing 0 = .ok (.aload_n 0, 1) := by decide +kernel
theorem dX6_holdsNothing_1 : decode cX6_holdsNothing 1 = .ok (.getfield 9, 3) := by decide +kernel
theorem dX6_holdsNothing_4 : decode cX6_holdsNothing 4 = .ok (.iconst (-1), 1) := by decide +kernel
theorem dX6_holdsNothing_5 : decode cX6_holdsNothing 5 = .ok (.if_icmp .ne 7, 3) := by decide +kernel
theorem dX6_holdsNothing_8 : decode cX6_holdsNothing 8 = .ok (.iconst 1, 1) := by decide +kernel
theorem dX6_holdsNothing_9 : decode cX6_holdsNothing 9 = .ok (.goto 4, 3) := by decide +kernel
theorem dX6_holdsNothing_12 : decode cX6_holdsNothing 12 = .ok (.iconst 0, 1) := by decide +kernel
theorem dX6_holdsNothing_13 : decode cX6_holdsNothing 13 = .ok (.ireturn, 1) := by decide +kernel
theorem dX6_hasPlace_0 : decode cX6_hasPlace 0 = .ok (.iload_n 1, 1) := by decide +kernel
theorem dX6_hasPlace_1 : decode cX6_hasPlace 1 = .ok (.ifCond .lt 15, 3) := by decide +kernel
theorem dX6_hasPlace_4 : decode cX6_hasPlace 4 = .ok (.iload_n 1, 1) := by decide +kernel
theorem dX6_hasPlace_5 : decode cX6_hasPlace 5 = .ok (.aload_n 0, 1) := by decide +kernel
theorem dX6_hasPlace_6 : decode cX6_hasPlace 6 = .ok (.getfield 13, 3) := by decide +kernel
theorem dX6_hasPlace_9 : decode cX6_hasPlace 9 = .ok (.if_icmp .ge 7, 3) := by decide +kernel
theorem dX6_hasPlace_12 : decode cX6_hasPlace 12 = .ok (.iconst 1, 1) := by decide +kernel
theorem dX6_hasPlace_13 : decode cX6_hasPlace 13 = .ok (.goto 4, 3) := by decide +kernel
theorem dX6_hasPlace_16 : decode cX6_hasPlace 16 = .ok (.iconst 0, 1) := by decide +kernel
theorem dX6_hasPlace_17 : decode cX6_hasPlace 17 = .ok (.ireturn, 1) := by decide +kernel
theorem dX6_hasStretch_0 : decode cX6_hasStretch 0 = .ok (.iload_n 2, 1) := by decide +kernel
theorem dX6_hasStretch_1 : decode cX6_hasStretch 1 = .ok (.ifCond .lt 21, 3) := by decide +kernel
theorem dX6_hasStretch_4 : decode cX6_hasStretch 4 = .ok (.iload_n 1, 1) := by decide +kernel
theorem dX6_hasStretch_5 : decode cX6_hasStretch 5 = .ok (.ifCond .lt 17, 3) := by decide +kernel
theorem dX6_hasStretch_8 : decode cX6_hasStretch 8 = .ok (.iload_n 1, 1) := by decide +kernel
theorem dX6_hasStretch_9 : decode cX6_hasStretch 9 = .ok (.aload_n 0, 1) := by decide +kernel
theorem dX6_hasStretch_10 : decode cX6_hasStretch 10 = .ok (.getfield 13, 3) := by decide +kernel
theorem dX6_hasStretch_13 : decode cX6_hasStretch 13 = .ok (.iload_n 2, 1) := by decide +kernel
theorem dX6_hasStretch_14 : decode cX6_hasStretch 14 = .ok (.isub, 1) := by decide +kernel
theorem dX6_hasStretch_15 : decode cX6_hasStretch 15 = .ok (.if_icmp .gt 7, 3) := by decide +kernel
theorem dX6_hasStretch_18 : decode cX6_hasStretch 18 = .ok (.iconst 1, 1) := by decide +kernel
theorem dX6_hasStretch_19 : decode cX6_hasStretch 19 = .ok (.goto 4, 3) := by decide +kernel
theorem dX6_hasStretch_22 : decode cX6_hasStretch 22 = .ok (.iconst 0, 1) := by decide +kernel
theorem dX6_hasStretch_23 : decode cX6_hasStretch 23 = .ok (.ireturn, 1) := by decide +kernel
theorem dX6_cut_0 : decode cX6_cut 0 = .ok (.aload_n 0, 1) := by decide +kernel
theorem dX6_cut_1 : decode cX6_cut 1 = .ok (.getfield 9, 3) := by decide +kernel
theorem dX6_cut_4 : decode cX6_cut 4 = .ok (.tableswitch 62 0 4 #[36, 41, 46, 62, 50], 36) := by decide +kernel
theorem dX6_cut_40 : decode cX6_cut 40 = .ok (.lload_n 1, 1) := by decide +kernel
theorem dX6_cut_41 : decode cX6_cut 41 = .ok (.l2i, 1) := by decide +kernel
theorem dX6_cut_42 : decode cX6_cut 42 = .ok (.i2b, 1) := by decide +kernel
theorem dX6_cut_43 : decode cX6_cut 43 = .ok (.i2l, 1) := by decide +kernel
theorem dX6_cut_44 : decode cX6_cut 44 = .ok (.lreturn, 1) := by decide +kernel
theorem dX6_cut_45 : decode cX6_cut 45 = .ok (.lload_n 1, 1) := by decide +kernel
theorem dX6_cut_46 : decode cX6_cut 46 = .ok (.l2i, 1) := by decide +kernel
theorem dX6_cut_47 : decode cX6_cut 47 = .ok (.i2s, 1) := by decide +kernel
theorem dX6_cut_48 : decode cX6_cut 48 = .ok (.i2l, 1) := by decide +kernel
theorem dX6_cut_49 : decode cX6_cut 49 = .ok (.lreturn, 1) := by decide +kernel
theorem dX6_cut_50 : decode cX6_cut 50 = .ok (.lload_n 1, 1) := by decide +kernel
theorem dX6_cut_51 : decode cX6_cut 51 = .ok (.l2i, 1) := by decide +kernel
theorem dX6_cut_52 : decode cX6_cut 52 = .ok (.i2l, 1) := by decide +kernel
theorem dX6_cut_53 : decode cX6_cut 53 = .ok (.lreturn, 1) := by decide +kernel
theorem dX6_cut_54 : decode cX6_cut 54 = .ok (.lload_n 1, 1) := by decide +kernel
theorem dX6_cut_55 : decode cX6_cut 55 = .ok (.lconst 0, 1) := by decide +kernel
theorem dX6_cut_56 : decode cX6_cut 56 = .ok (.lcmp, 1) := by decide +kernel
theorem dX6_cut_57 : decode cX6_cut 57 = .ok (.ifCond .eq 7, 3) := by decide +kernel
theorem dX6_cut_60 : decode cX6_cut 60 = .ok (.lconst 1, 1) := by decide +kernel
theorem dX6_cut_61 : decode cX6_cut 61 = .ok (.goto 4, 3) := by decide +kernel
theorem dX6_cut_64 : decode cX6_cut 64 = .ok (.lconst 0, 1) := by decide +kernel
theorem dX6_cut_65 : decode cX6_cut 65 = .ok (.lreturn, 1) := by decide +kernel
theorem dX6_cut_66 : decode cX6_cut 66 = .ok (.lload_n 1, 1) := by decide +kernel
theorem dX6_cut_67 : decode cX6_cut 67 = .ok (.lreturn, 1) := by decide +kernel
theorem dX7_init_0 : decode cX7_init 0 = .ok (.aload_n 0, 1) := by decide +kernel
theorem dX7_init_1 : decode cX7_init 1 = .ok (.invokespecial 1, 3) := by decide +kernel
theorem dX7_init_4 : decode cX7_init 4 = .ok (.aload_n 0, 1) := by decide +kernel
theorem dX7_init_5 : decode cX7_init 5 = .ok (.iconst 0, 1) := by decide +kernel
theorem dX7_init_6 : decode cX7_init 6 = .ok (.putfield 7, 3) := by decide +kernel
theorem dX7_init_9 : decode cX7_init 9 = .ok (.aload_n 0, 1) := by decide +kernel
theorem dX7_init_10 : decode cX7_init 10 = .ok (.iconst 4, 1) := by decide +kernel
theorem dX7_init_11 : decode cX7_init 11 = .ok (.newarray .int, 2) := by decide +kernel
theorem dX7_init_13 : decode cX7_init 13 = .ok (.putfield 13, 3) := by decide +kernel
theorem dX7_init_16 : decode cX7_init 16 = .ok (.return_, 1) := by decide +kernel
theorem dX7_find_0 : decode cX7_find 0 = .ok (.aload_n 0, 1) := by decide +kernel
theorem dX7_find_1 : decode cX7_find 1 = .ok (.iconst 0, 1) := by decide +kernel
theorem dX7_find_2 : decode cX7_find 2 = .ok (.putfield 7, 3) := by decide +kernel
theorem dX7_find_5 : decode cX7_find 5 = .ok (.iconst 0, 1) := by decide +kernel
theorem dX7_find_6 : decode cX7_find 6 = .ok (.istore_n 3, 1) := by decide +kernel
theorem dX7_find_7 : decode cX7_find 7 = .ok (.iload_n 3, 1) := by decide +kernel
theorem dX7_find_8 : decode cX7_find 8 = .ok (.iconst 1, 1) := by decide +kernel
theorem dX7_find_9 : decode cX7_find 9 = .ok (.iload_n 1, 1) := by decide +kernel
theorem dX7_find_10 : decode cX7_find 10 = .ok (.ishl, 1) := by decide +kernel
theorem dX7_find_11 : decode cX7_find 11 = .ok (.if_icmp .ge 54, 3) := by decide +kernel
theorem dX7_find_14 : decode cX7_find 14 = .ok (.iload_n 3, 1) := by decide +kernel
theorem dX7_find_15 : decode cX7_find 15 = .ok (.istore 4, 2) := by decide +kernel
theorem dX7_find_17 : decode cX7_find 17 = .ok (.iload 4, 2) := by decide +kernel
theorem dX7_find_19 : decode cX7_find 19 = .ok (.iconst 1, 1) := by decide +kernel
theorem dX7_find_20 : decode cX7_find 20 = .ok (.iload_n 1, 1) := by decide +kernel
theorem dX7_find_21 : decode cX7_find 21 = .ok (.ishl, 1) := by decide +kernel
theorem dX7_find_22 : decode cX7_find 22 = .ok (.if_icmp .ge 37, 3) := by decide +kernel
theorem dX7_find_25 : decode cX7_find 25 = .ok (.iload_n 2, 1) := by decide +kernel
theorem dX7_find_26 : decode cX7_find 26 = .ok (.iload_n 3, 1) := by decide +kernel
theorem dX7_find_27 : decode cX7_find 27 = .ok (.invokestatic 17, 3) := by decide +kernel
theorem dX7_find_30 : decode cX7_find 30 = .ok (.iconst 1, 1) := by decide +kernel
theorem dX7_find_31 : decode cX7_find 31 = .ok (.if_icmp .ne 22, 3) := by decide +kernel
theorem dX7_find_34 : decode cX7_find 34 = .ok (.iload_n 2, 1) := by decide +kernel
theorem dX7_find_35 : decode cX7_find 35 = .ok (.iload 4, 2) := by decide +kernel
theorem dX7_find_37 : decode cX7_find 37 = .ok (.invokestatic 17, 3) := by decide +kernel
theorem dX7_find_40 : decode cX7_find 40 = .ok (.iconst 1, 1) := by decide +kernel
theorem dX7_find_41 : decode cX7_find 41 = .ok (.if_icmp .ne 12, 3) := by decide +kernel
theorem dX7_find_44 : decode cX7_find 44 = .ok (.aload_n 0, 1) := by decide +kernel
theorem dX7_find_45 : decode cX7_find 45 = .ok (.iload_n 1, 1) := by decide +kernel
theorem dX7_find_46 : decode cX7_find 46 = .ok (.iload_n 2, 1) := by decide +kernel
theorem dX7_find_47 : decode cX7_find 47 = .ok (.iload_n 3, 1) := by decide +kernel
theorem dX7_find_48 : decode cX7_find 48 = .ok (.iload 4, 2) := by decide +kernel
theorem dX7_find_50 : decode cX7_find 50 = .ok (.invokevirtual 23, 3) := by decide +kernel
theorem dX7_find_53 : decode cX7_find 53 = .ok (.iinc 4 1, 3) := by decide +kernel
theorem dX7_find_56 : decode cX7_find 56 = .ok (.goto (-39), 3) := by decide +kernel
theorem dX7_find_59 : decode cX7_find 59 = .ok (.iinc 3 1, 3) := by decide +kernel
theorem dX7_find_62 : decode cX7_find 62 = .ok (.goto (-55), 3) := by decide +kernel
theorem dX7_find_65 : decode cX7_find 65 = .ok (.return_, 1) := by decide +kernel
theorem dX7_findFor_0 : decode cX7_findFor 0 = .ok (.iconst 0, 1) := by decide +kernel
theorem dX7_findFor_1 : decode cX7_findFor 1 = .ok (.istore 5, 2) := by decide +kernel
theorem dX7_findFor_3 : decode cX7_findFor 3 = .ok (.iload 5, 2) := by decide +kernel
theorem dX7_findFor_5 : decode cX7_findFor 5 = .ok (.iconst 1, 1) := by decide +kernel
theorem dX7_findFor_6 : decode cX7_findFor 6 = .ok (.iload_n 1, 1) := by decide +kernel
theorem dX7_findFor_7 : decode cX7_findFor 7 = .ok (.ishl, 1) := by decide +kernel
theorem dX7_findFor_8 : decode cX7_findFor 8 = .ok (.if_icmp .ge 78, 3) := by decide +kernel
theorem dX7_findFor_11 : decode cX7_findFor 11 = .ok (.iload_n 3, 1) := by decide +kernel
theorem dX7_findFor_12 : decode cX7_findFor 12 = .ok (.iload 4, 2) := by decide +kernel
theorem dX7_findFor_14 : decode cX7_findFor 14 = .ok (.ixor, 1) := by decide +kernel
theorem dX7_findFor_15 : decode cX7_findFor 15 = .ok (.iload 5, 2) := by decide +kernel
theorem dX7_findFor_17 : decode cX7_findFor 17 = .ok (.ixor, 1) := by decide +kernel
theorem dX7_findFor_18 : decode cX7_findFor 18 = .ok (.istore 6, 2) := by decide +kernel
theorem dX7_findFor_20 : decode cX7_findFor 20 = .ok (.iload_n 2, 1) := by decide +kernel
theorem dX7_findFor_21 : decode cX7_findFor 21 = .ok (.iload 5, 2) := by decide +kernel
theorem dX7_findFor_23 : decode cX7_findFor 23 = .ok (.invokestatic 17, 3) := by decide +kernel
theorem dX7_findFor_26 : decode cX7_findFor 26 = .ok (.ifCond .ne 16, 3) := by decide +kernel
theorem dX7_findFor_29 : decode cX7_findFor 29 = .ok (.iload_n 2, 1) := by decide +kernel
theorem dX7_findFor_30 : decode cX7_findFor 30 = .ok (.iload 6, 2) := by decide +kernel
theorem dX7_findFor_32 : decode cX7_findFor 32 = .ok (.invokestatic 17, 3) := by decide +kernel
theorem dX7_findFor_35 : decode cX7_findFor 35 = .ok (.ifCond .ne 7, 3) := by decide +kernel
theorem dX7_findFor_38 : decode cX7_findFor 38 = .ok (.iconst 1, 1) := by decide +kernel
theorem dX7_findFor_39 : decode cX7_findFor 39 = .ok (.goto 4, 3) := by decide +kernel
theorem dX7_findFor_42 : decode cX7_findFor 42 = .ok (.iconst 0, 1) := by decide +kernel
theorem dX7_findFor_43 : decode cX7_findFor 43 = .ok (.istore 7, 2) := by decide +kernel
theorem dX7_findFor_45 : decode cX7_findFor 45 = .ok (.iload 6, 2) := by decide +kernel
theorem dX7_findFor_47 : decode cX7_findFor 47 = .ok (.iload 5, 2) := by decide +kernel
theorem dX7_findFor_49 : decode cX7_findFor 49 = .ok (.if_icmp .lt 31, 3) := by decide +kernel
theorem dX7_findFor_52 : decode cX7_findFor 52 = .ok (.iload 7, 2) := by decide +kernel
theorem dX7_findFor_54 : decode cX7_findFor 54 = .ok (.ifCond .eq 26, 3) := by decide +kernel
theorem dX7_findFor_57 : decode cX7_findFor 57 = .ok (.iload_n 3, 1) := by decide +kernel
theorem dX7_findFor_58 : decode cX7_findFor 58 = .ok (.iload 4, 2) := by decide +kernel
theorem dX7_findFor_60 : decode cX7_findFor 60 = .ok (.iand, 1) := by decide +kernel
theorem dX7_findFor_61 : decode cX7_findFor 61 = .ok (.iload 5, 2) := by decide +kernel
theorem dX7_findFor_63 : decode cX7_findFor 63 = .ok (.iload 6, 2) := by decide +kernel
theorem dX7_findFor_65 : decode cX7_findFor 65 = .ok (.iand, 1) := by decide +kernel
theorem dX7_findFor_66 : decode cX7_findFor 66 = .ok (.if_icmp .ne 14, 3) := by decide +kernel
theorem dX7_findFor_69 : decode cX7_findFor 69 = .ok (.aload_n 0, 1) := by decide +kernel
theorem dX7_findFor_70 : decode cX7_findFor 70 = .ok (.iload_n 3, 1) := by decide +kernel
theorem dX7_findFor_71 : decode cX7_findFor 71 = .ok (.iload 4, 2) := by decide +kernel
theorem dX7_findFor_73 : decode cX7_findFor 73 = .ok (.iload 5, 2) := by decide +kernel
theorem dX7_findFor_75 : decode cX7_findFor 75 = .ok (.iload 6, 2) := by decide +kernel
theorem dX7_findFor_77 : decode cX7_findFor 77 = .ok (.invokevirtual 27, 3) := by decide +kernel
theorem dX7_findFor_80 : decode cX7_findFor 80 = .ok (.iinc 5 1, 3) := by decide +kernel
theorem dX7_findFor_83 : decode cX7_findFor 83 = .ok (.goto (-80), 3) := by decide +kernel
theorem dX7_findFor_86 : decode cX7_findFor 86 = .ok (.return_, 1) := by decide +kernel
theorem dX7_addTrade_0 : decode cX7_addTrade 0 = .ok (.aload_n 0, 1) := by decide +kernel
theorem dX7_addTrade_1 : decode cX7_addTrade 1 = .ok (.getfield 7, 3) := by decide +kernel
theorem dX7_addTrade_4 : decode cX7_addTrade 4 = .ok (.ifCond .ne 32, 3) := by decide +kernel
theorem dX7_addTrade_7 : decode cX7_addTrade 7 = .ok (.aload_n 0, 1) := by decide +kernel
theorem dX7_addTrade_8 : decode cX7_addTrade 8 = .ok (.getfield 13, 3) := by decide +kernel
theorem dX7_addTrade_11 : decode cX7_addTrade 11 = .ok (.iconst 0, 1) := by decide +kernel
theorem dX7_addTrade_12 : decode cX7_addTrade 12 = .ok (.iload_n 1, 1) := by decide +kernel
theorem dX7_addTrade_13 : decode cX7_addTrade 13 = .ok (.iastore, 1) := by decide +kernel
theorem dX7_addTrade_14 : decode cX7_addTrade 14 = .ok (.aload_n 0, 1) := by decide +kernel
theorem dX7_addTrade_15 : decode cX7_addTrade 15 = .ok (.getfield 13, 3) := by decide +kernel
theorem dX7_addTrade_18 : decode cX7_addTrade 18 = .ok (.iconst 1, 1) := by decide +kernel
theorem dX7_addTrade_19 : decode cX7_addTrade 19 = .ok (.iload_n 2, 1) := by decide +kernel
theorem dX7_addTrade_20 : decode cX7_addTrade 20 = .ok (.iastore, 1) := by decide +kernel
theorem dX7_addTrade_21 : decode cX7_addTrade 21 = .ok (.aload_n 0, 1) := by decide +kernel
theorem dX7_addTrade_22 : decode cX7_addTrade 22 = .ok (.getfield 13, 3) := by decide +kernel
theorem dX7_addTrade_25 : decode cX7_addTrade 25 = .ok (.iconst 2, 1) := by decide +kernel
theorem dX7_addTrade_26 : decode cX7_addTrade 26 = .ok (.iload_n 3, 1) := by decide +kernel
theorem dX7_addTrade_27 : decode cX7_addTrade 27 = .ok (.iastore, 1) := by decide +kernel
theorem dX7_addTrade_28 : decode cX7_addTrade 28 = .ok (.aload_n 0, 1) := by decide +kernel
theorem dX7_addTrade_29 : decode cX7_addTrade 29 = .ok (.getfield 13, 3) := by decide +kernel
theorem dX7_addTrade_32 : decode cX7_addTrade 32 = .ok (.iconst 3, 1) := by decide +kernel
theorem dX7_addTrade_33 : decode cX7_addTrade 33 = .ok (.iload 4, 2) := by decide +kernel
theorem dX7_addTrade_35 : decode cX7_addTrade 35 = .ok (.iastore, 1) := by decide +kernel
theorem dX7_addTrade_36 : decode cX7_addTrade 36 = .ok (.aload_n 0, 1) := by decide +kernel
theorem dX7_addTrade_37 : decode cX7_addTrade 37 = .ok (.dup, 1) := by decide +kernel
theorem dX7_addTrade_38 : decode cX7_addTrade 38 = .ok (.getfield 7, 3) := by decide +kernel
theorem dX7_addTrade_41 : decode cX7_addTrade 41 = .ok (.iconst 1, 1) := by decide +kernel
theorem dX7_addTrade_42 : decode cX7_addTrade 42 = .ok (.iadd, 1) := by decide +kernel
theorem dX7_addTrade_43 : decode cX7_addTrade 43 = .ok (.putfield 7, 3) := by decide +kernel
theorem dX7_addTrade_46 : decode cX7_addTrade 46 = .ok (.return_, 1) := by decide +kernel
theorem dX8_init_0 : decode cX8_init 0 = .ok (.aload_n 0, 1) := by decide +kernel
theorem dX8_init_1 : decode cX8_init 1 = .ok (.invokespecial 1, 3) := by decide +kernel
theorem dX8_init_4 : decode cX8_init 4 = .ok (.aload_n 0, 1) := by decide +kernel
theorem dX8_init_5 : decode cX8_init 5 = .ok (.sipush 729, 3) := by decide +kernel
theorem dX8_init_8 : decode cX8_init 8 = .ok (.newarray .int, 2) := by decide +kernel
theorem dX8_init_10 : decode cX8_init 10 = .ok (.putfield 9, 3) := by decide +kernel
theorem dX8_init_13 : decode cX8_init 13 = .ok (.return_, 1) := by decide +kernel
theorem dX8_ofCode_0 : decode cX8_ofCode 0 = .ok (.iload_n 2, 1) := by decide +kernel
theorem dX8_ofCode_1 : decode cX8_ofCode 1 = .ok (.sipush 255, 3) := by decide +kernel
theorem dX8_ofCode_4 : decode cX8_ofCode 4 = .ok (.iand, 1) := by decide +kernel
theorem dX8_ofCode_5 : decode cX8_ofCode 5 = .ok (.istore_n 3, 1) := by decide +kernel
theorem dX8_ofCode_6 : decode cX8_ofCode 6 = .ok (.iload_n 2, 1) := by decide +kernel
theorem dX8_ofCode_7 : decode cX8_ofCode 7 = .ok (.bipush 8, 2) := by decide +kernel
theorem dX8_ofCode_9 : decode cX8_ofCode 9 = .ok (.ishr, 1) := by decide +kernel
theorem dX8_ofCode_10 : decode cX8_ofCode 10 = .ok (.sipush 255, 3) := by decide +kernel
theorem dX8_ofCode_13 : decode cX8_ofCode 13 = .ok (.iand, 1) := by decide +kernel
theorem dX8_ofCode_14 : decode cX8_ofCode 14 = .ok (.istore 4, 2) := by decide +kernel
theorem dX8_ofCode_16 : decode cX8_ofCode 16 = .ok (.iload_n 3, 1) := by decide +kernel
theorem dX8_ofCode_17 : decode cX8_ofCode 17 = .ok (.invokestatic 13, 3) := by decide +kernel
theorem dX8_ofCode_20 : decode cX8_ofCode 20 = .ok (.iload 4, 2) := by decide +kernel
theorem dX8_ofCode_22 : decode cX8_ofCode 22 = .ok (.invokestatic 13, 3) := by decide +kernel
theorem dX8_ofCode_25 : decode cX8_ofCode 25 = .ok (.iadd, 1) := by decide +kernel
theorem dX8_ofCode_26 : decode cX8_ofCode 26 = .ok (.istore 5, 2) := by decide +kernel
theorem dX8_ofCode_28 : decode cX8_ofCode 28 = .ok (.aload_n 0, 1) := by decide +kernel
theorem dX8_ofCode_29 : decode cX8_ofCode 29 = .ok (.iload_n 1, 1) := by decide +kernel
theorem dX8_ofCode_30 : decode cX8_ofCode 30 = .ok (.invokestatic 17, 3) := by decide +kernel
theorem dX8_ofCode_33 : decode cX8_ofCode 33 = .ok (.sipush 255, 3) := by decide +kernel
theorem dX8_ofCode_36 : decode cX8_ofCode 36 = .ok (.iand, 1) := by decide +kernel
theorem dX8_ofCode_37 : decode cX8_ofCode 37 = .ok (.iload_n 3, 1) := by decide +kernel
theorem dX8_ofCode_38 : decode cX8_ofCode 38 = .ok (.invokestatic 22, 3) := by decide +kernel
theorem dX8_ofCode_41 : decode cX8_ofCode 41 = .ok (.invokevirtual 27, 3) := by decide +kernel
theorem dX8_ofCode_44 : decode cX8_ofCode 44 = .ok (.iconst 0, 1) := by decide +kernel
theorem dX8_ofCode_45 : decode cX8_ofCode 45 = .ok (.istore 6, 2) := by decide +kernel
theorem dX8_ofCode_47 : decode cX8_ofCode 47 = .ok (.iconst 0, 1) := by decide +kernel
theorem dX8_ofCode_48 : decode cX8_ofCode 48 = .ok (.istore 7, 2) := by decide +kernel
theorem dX8_ofCode_50 : decode cX8_ofCode 50 = .ok (.iload 7, 2) := by decide +kernel
theorem dX8_ofCode_52 : decode cX8_ofCode 52 = .ok (.sipush 255, 3) := by decide +kernel
theorem dX8_ofCode_55 : decode cX8_ofCode 55 = .ok (.if_icmp .gt 71, 3) := by decide +kernel
theorem dX8_ofCode_58 : decode cX8_ofCode 58 = .ok (.iload 5, 2) := by decide +kernel
theorem dX8_ofCode_60 : decode cX8_ofCode 60 = .ok (.iload 7, 2) := by decide +kernel
theorem dX8_ofCode_62 : decode cX8_ofCode 62 = .ok (.invokestatic 13, 3) := by decide +kernel
theorem dX8_ofCode_65 : decode cX8_ofCode 65 = .ok (.isub, 1) := by decide +kernel
theorem dX8_ofCode_66 : decode cX8_ofCode 66 = .ok (.istore 8, 2) := by decide +kernel
theorem dX8_ofCode_68 : decode cX8_ofCode 68 = .ok (.iload 7, 2) := by decide +kernel
theorem dX8_ofCode_70 : decode cX8_ofCode 70 = .ok (.invokestatic 22, 3) := by decide +kernel
theorem dX8_ofCode_73 : decode cX8_ofCode 73 = .ok (.iload 4, 2) := by decide +kernel
theorem dX8_ofCode_75 : decode cX8_ofCode 75 = .ok (.invokestatic 22, 3) := by decide +kernel
theorem dX8_ofCode_78 : decode cX8_ofCode 78 = .ok (.if_icmp .ne 7, 3) := by decide +kernel
theorem dX8_ofCode_81 : decode cX8_ofCode 81 = .ok (.iconst 1, 1) := by decide +kernel
theorem dX8_ofCode_82 : decode cX8_ofCode 82 = .ok (.goto 4, 3) := by decide +kernel
theorem dX8_ofCode_85 : decode cX8_ofCode 85 = .ok (.iconst 0, 1) := by decide +kernel
theorem dX8_ofCode_86 : decode cX8_ofCode 86 = .ok (.istore 9, 2) := by decide +kernel
theorem dX8_ofCode_88 : decode cX8_ofCode 88 = .ok (.iload 9, 2) := by decide +kernel
theorem dX8_ofCode_90 : decode cX8_ofCode 90 = .ok (.ifCond .eq 30, 3) := by decide +kernel
theorem dX8_ofCode_93 : decode cX8_ofCode 93 = .ok (.iload 8, 2) := by decide +kernel
theorem dX8_ofCode_95 : decode cX8_ofCode 95 = .ok (.ifCond .lt 25, 3) := by decide +kernel
theorem dX8_ofCode_98 : decode cX8_ofCode 98 = .ok (.iload 8, 2) := by decide +kernel
theorem dX8_ofCode_100 : decode cX8_ofCode 100 = .ok (.aload_n 0, 1) := by decide +kernel
theorem dX8_ofCode_101 : decode cX8_ofCode 101 = .ok (.getfield 9, 3) := by decide +kernel
theorem dX8_ofCode_104 : decode cX8_ofCode 104 = .ok (.arraylength, 1) := by decide +kernel
theorem dX8_ofCode_105 : decode cX8_ofCode 105 = .ok (.if_icmp .ge 15, 3) := by decide +kernel
theorem dX8_ofCode_108 : decode cX8_ofCode 108 = .ok (.iload 6, 2) := by decide +kernel
theorem dX8_ofCode_110 : decode cX8_ofCode 110 = .ok (.aload_n 0, 1) := by decide +kernel
theorem dX8_ofCode_111 : decode cX8_ofCode 111 = .ok (.getfield 9, 3) := by decide +kernel
theorem dX8_ofCode_114 : decode cX8_ofCode 114 = .ok (.iload 8, 2) := by decide +kernel
theorem dX8_ofCode_116 : decode cX8_ofCode 116 = .ok (.iaload, 1) := by decide +kernel
theorem dX8_ofCode_117 : decode cX8_ofCode 117 = .ok (.iadd, 1) := by decide +kernel
theorem dX8_ofCode_118 : decode cX8_ofCode 118 = .ok (.istore 6, 2) := by decide +kernel
theorem dX8_ofCode_120 : decode cX8_ofCode 120 = .ok (.iinc 7 1, 3) := by decide +kernel
theorem dX8_ofCode_123 : decode cX8_ofCode 123 = .ok (.goto (-73), 3) := by decide +kernel
theorem dX8_ofCode_126 : decode cX8_ofCode 126 = .ok (.iload 6, 2) := by decide +kernel
theorem dX8_ofCode_128 : decode cX8_ofCode 128 = .ok (.ireturn, 1) := by decide +kernel
theorem dX8_countKeys_0 : decode cX8_countKeys 0 = .ok (.iconst 0, 1) := by decide +kernel
theorem dX8_countKeys_1 : decode cX8_countKeys 1 = .ok (.istore_n 3, 1) := by decide +kernel
theorem dX8_countKeys_2 : decode cX8_countKeys 2 = .ok (.iload_n 3, 1) := by decide +kernel
theorem dX8_countKeys_3 : decode cX8_countKeys 3 = .ok (.aload_n 0, 1) := by decide +kernel
theorem dX8_countKeys_4 : decode cX8_countKeys 4 = .ok (.getfield 9, 3) := by decide +kernel
theorem dX8_countKeys_7 : decode cX8_countKeys 7 = .ok (.arraylength, 1) := by decide +kernel
theorem dX8_countKeys_8 : decode cX8_countKeys 8 = .ok (.if_icmp .ge 16, 3) := by decide +kernel
theorem dX8_countKeys_11 : decode cX8_countKeys 11 = .ok (.aload_n 0, 1) := by decide +kernel
theorem dX8_countKeys_12 : decode cX8_countKeys 12 = .ok (.getfield 9, 3) := by decide +kernel
theorem dX8_countKeys_15 : decode cX8_countKeys 15 = .ok (.iload_n 3, 1) := by decide +kernel
theorem dX8_countKeys_16 : decode cX8_countKeys 16 = .ok (.iconst 0, 1) := by decide +kernel
theorem dX8_countKeys_17 : decode cX8_countKeys 17 = .ok (.iastore, 1) := by decide +kernel
theorem dX8_countKeys_18 : decode cX8_countKeys 18 = .ok (.iinc 3 1, 3) := by decide +kernel
theorem dX8_countKeys_21 : decode cX8_countKeys 21 = .ok (.goto (-19), 3) := by decide +kernel
theorem dX8_countKeys_24 : decode cX8_countKeys 24 = .ok (.iconst 0, 1) := by decide +kernel
theorem dX8_countKeys_25 : decode cX8_countKeys 25 = .ok (.istore_n 3, 1) := by decide +kernel
theorem dX8_countKeys_26 : decode cX8_countKeys 26 = .ok (.iload_n 3, 1) := by decide +kernel
theorem dX8_countKeys_27 : decode cX8_countKeys 27 = .ok (.iload_n 1, 1) := by decide +kernel
theorem dX8_countKeys_28 : decode cX8_countKeys 28 = .ok (.if_icmp .gt 30, 3) := by decide +kernel
theorem dX8_countKeys_31 : decode cX8_countKeys 31 = .ok (.iload_n 3, 1) := by decide +kernel
theorem dX8_countKeys_32 : decode cX8_countKeys 32 = .ok (.invokestatic 22, 3) := by decide +kernel
theorem dX8_countKeys_35 : decode cX8_countKeys 35 = .ok (.iload_n 2, 1) := by decide +kernel
theorem dX8_countKeys_36 : decode cX8_countKeys 36 = .ok (.if_icmp .ne 16, 3) := by decide +kernel
theorem dX8_countKeys_39 : decode cX8_countKeys 39 = .ok (.aload_n 0, 1) := by decide +kernel
theorem dX8_countKeys_40 : decode cX8_countKeys 40 = .ok (.getfield 9, 3) := by decide +kernel
theorem dX8_countKeys_43 : decode cX8_countKeys 43 = .ok (.iload_n 3, 1) := by decide +kernel
theorem dX8_countKeys_44 : decode cX8_countKeys 44 = .ok (.invokestatic 13, 3) := by decide +kernel
theorem dX8_countKeys_47 : decode cX8_countKeys 47 = .ok (.dup2, 1) := by decide +kernel
theorem dX8_countKeys_48 : decode cX8_countKeys 48 = .ok (.iaload, 1) := by decide +kernel
theorem dX8_countKeys_49 : decode cX8_countKeys 49 = .ok (.iconst 1, 1) := by decide +kernel
theorem dX8_countKeys_50 : decode cX8_countKeys 50 = .ok (.iadd, 1) := by decide +kernel
theorem dX8_countKeys_51 : decode cX8_countKeys 51 = .ok (.iastore, 1) := by decide +kernel
theorem dX8_countKeys_52 : decode cX8_countKeys 52 = .ok (.iinc 3 1, 3) := by decide +kernel
theorem dX8_countKeys_55 : decode cX8_countKeys 55 = .ok (.goto (-29), 3) := by decide +kernel
theorem dX8_countKeys_58 : decode cX8_countKeys 58 = .ok (.return_, 1) := by decide +kernel
theorem dX8_key_0 : decode cX8_key 0 = .ok (.iload_n 0, 1) := by decide +kernel
theorem dX8_key_1 : decode cX8_key 1 = .ok (.iconst 0, 1) := by decide +kernel
theorem dX8_key_2 : decode cX8_key 2 = .ok (.invokestatic 31, 3) := by decide +kernel
theorem dX8_key_5 : decode cX8_key 5 = .ok (.iand, 1) := by decide +kernel
theorem dX8_key_6 : decode cX8_key 6 = .ok (.invokestatic 22, 3) := by decide +kernel
theorem dX8_key_9 : decode cX8_key 9 = .ok (.istore_n 1, 1) := by decide +kernel
theorem dX8_key_10 : decode cX8_key 10 = .ok (.iload_n 0, 1) := by decide +kernel
theorem dX8_key_11 : decode cX8_key 11 = .ok (.iconst 1, 1) := by decide +kernel
theorem dX8_key_12 : decode cX8_key 12 = .ok (.invokestatic 31, 3) := by decide +kernel
theorem dX8_key_15 : decode cX8_key 15 = .ok (.iand, 1) := by decide +kernel
theorem dX8_key_16 : decode cX8_key 16 = .ok (.invokestatic 22, 3) := by decide +kernel
theorem dX8_key_19 : decode cX8_key 19 = .ok (.istore_n 2, 1) := by decide +kernel
theorem dX8_key_20 : decode cX8_key 20 = .ok (.iload_n 0, 1) := by decide +kernel
theorem dX8_key_21 : decode cX8_key 21 = .ok (.iconst 2, 1) := by decide +kernel
theorem dX8_key_22 : decode cX8_key 22 = .ok (.invokestatic 31, 3) := by decide +kernel
theorem dX8_key_25 : decode cX8_key 25 = .ok (.iand, 1) := by decide +kernel
theorem dX8_key_26 : decode cX8_key 26 = .ok (.invokestatic 22, 3) := by decide +kernel
theorem dX8_key_29 : decode cX8_key 29 = .ok (.istore_n 3, 1) := by decide +kernel
theorem dX8_key_30 : decode cX8_key 30 = .ok (.iload_n 1, 1) := by decide +kernel
theorem dX8_key_31 : decode cX8_key 31 = .ok (.bipush 9, 2) := by decide +kernel
theorem dX8_key_33 : decode cX8_key 33 = .ok (.iload_n 2, 1) := by decide +kernel
theorem dX8_key_34 : decode cX8_key 34 = .ok (.bipush 9, 2) := by decide +kernel
theorem dX8_key_36 : decode cX8_key 36 = .ok (.iload_n 3, 1) := by decide +kernel
theorem dX8_key_37 : decode cX8_key 37 = .ok (.imul, 1) := by decide +kernel
theorem dX8_key_38 : decode cX8_key 38 = .ok (.iadd, 1) := by decide +kernel
theorem dX8_key_39 : decode cX8_key 39 = .ok (.imul, 1) := by decide +kernel
theorem dX8_key_40 : decode cX8_key 40 = .ok (.iadd, 1) := by decide +kernel
theorem dX8_key_41 : decode cX8_key 41 = .ok (.ireturn, 1) := by decide +kernel
theorem dJ6_bitCount_0f7a4_0 : decode cJ6_bitCount_0f7a4 0 = .ok (.iload_n 0, 1) := by decide +kernel
theorem dJ6_bitCount_0f7a4_1 : decode cJ6_bitCount_0f7a4 1 = .ok (.iload_n 0, 1) := by decide +kernel
theorem dJ6_bitCount_0f7a4_2 : decode cJ6_bitCount_0f7a4 2 = .ok (.iconst 1, 1) := by decide +kernel
theorem dJ6_bitCount_0f7a4_3 : decode cJ6_bitCount_0f7a4 3 = .ok (.iushr, 1) := by decide +kernel
theorem dJ6_bitCount_0f7a4_4 : decode cJ6_bitCount_0f7a4 4 = .ok (.ldc_w 265, 3) := by decide +kernel
theorem dJ6_bitCount_0f7a4_7 : decode cJ6_bitCount_0f7a4 7 = .ok (.iand, 1) := by decide +kernel
theorem dJ6_bitCount_0f7a4_8 : decode cJ6_bitCount_0f7a4 8 = .ok (.isub, 1) := by decide +kernel
theorem dJ6_bitCount_0f7a4_9 : decode cJ6_bitCount_0f7a4 9 = .ok (.istore_n 0, 1) := by decide +kernel
theorem dJ6_bitCount_0f7a4_10 : decode cJ6_bitCount_0f7a4 10 = .ok (.iload_n 0, 1) := by decide +kernel
theorem dJ6_bitCount_0f7a4_11 : decode cJ6_bitCount_0f7a4 11 = .ok (.ldc_w 266, 3) := by decide +kernel
theorem dJ6_bitCount_0f7a4_14 : decode cJ6_bitCount_0f7a4 14 = .ok (.iand, 1) := by decide +kernel
theorem dJ6_bitCount_0f7a4_15 : decode cJ6_bitCount_0f7a4 15 = .ok (.iload_n 0, 1) := by decide +kernel
theorem dJ6_bitCount_0f7a4_16 : decode cJ6_bitCount_0f7a4 16 = .ok (.iconst 2, 1) := by decide +kernel
theorem dJ6_bitCount_0f7a4_17 : decode cJ6_bitCount_0f7a4 17 = .ok (.iushr, 1) := by decide +kernel
theorem dJ6_bitCount_0f7a4_18 : decode cJ6_bitCount_0f7a4 18 = .ok (.ldc_w 266, 3) := by decide +kernel
theorem dJ6_bitCount_0f7a4_21 : decode cJ6_bitCount_0f7a4 21 = .ok (.iand, 1) := by decide +kernel
theorem dJ6_bitCount_0f7a4_22 : decode cJ6_bitCount_0f7a4 22 = .ok (.iadd, 1) := by decide +kernel
theorem dJ6_bitCount_0f7a4_23 : decode cJ6_bitCount_0f7a4 23 = .ok (.istore_n 0, 1) := by decide +kernel
theorem dJ6_bitCount_0f7a4_24 : decode cJ6_bitCount_0f7a4 24 = .ok (.iload_n 0, 1) := by decide +kernel
theorem dJ6_bitCount_0f7a4_25 : decode cJ6_bitCount_0f7a4 25 = .ok (.iload_n 0, 1) := by decide +kernel
theorem dJ6_bitCount_0f7a4_26 : decode cJ6_bitCount_0f7a4 26 = .ok (.iconst 4, 1) := by decide +kernel
theorem dJ6_bitCount_0f7a4_27 : decode cJ6_bitCount_0f7a4 27 = .ok (.iushr, 1) := by decide +kernel
theorem dJ6_bitCount_0f7a4_28 : decode cJ6_bitCount_0f7a4 28 = .ok (.iadd, 1) := by decide +kernel
theorem dJ6_bitCount_0f7a4_29 : decode cJ6_bitCount_0f7a4 29 = .ok (.ldc_w 267, 3) := by decide +kernel
theorem dJ6_bitCount_0f7a4_32 : decode cJ6_bitCount_0f7a4 32 = .ok (.iand, 1) := by decide +kernel
theorem dJ6_bitCount_0f7a4_33 : decode cJ6_bitCount_0f7a4 33 = .ok (.istore_n 0, 1) := by decide +kernel
theorem dJ6_bitCount_0f7a4_34 : decode cJ6_bitCount_0f7a4 34 = .ok (.iload_n 0, 1) := by decide +kernel
theorem dJ6_bitCount_0f7a4_35 : decode cJ6_bitCount_0f7a4 35 = .ok (.iload_n 0, 1) := by decide +kernel
theorem dJ6_bitCount_0f7a4_36 : decode cJ6_bitCount_0f7a4 36 = .ok (.bipush 8, 2) := by decide +kernel
theorem dJ6_bitCount_0f7a4_38 : decode cJ6_bitCount_0f7a4 38 = .ok (.iushr, 1) := by decide +kernel
theorem dJ6_bitCount_0f7a4_39 : decode cJ6_bitCount_0f7a4 39 = .ok (.iadd, 1) := by decide +kernel
theorem dJ6_bitCount_0f7a4_40 : decode cJ6_bitCount_0f7a4 40 = .ok (.istore_n 0, 1) := by decide +kernel
theorem dJ6_bitCount_0f7a4_41 : decode cJ6_bitCount_0f7a4 41 = .ok (.iload_n 0, 1) := by decide +kernel
theorem dJ6_bitCount_0f7a4_42 : decode cJ6_bitCount_0f7a4 42 = .ok (.iload_n 0, 1) := by decide +kernel
theorem dJ6_bitCount_0f7a4_43 : decode cJ6_bitCount_0f7a4 43 = .ok (.bipush 16, 2) := by decide +kernel
theorem dJ6_bitCount_0f7a4_45 : decode cJ6_bitCount_0f7a4 45 = .ok (.iushr, 1) := by decide +kernel
theorem dJ6_bitCount_0f7a4_46 : decode cJ6_bitCount_0f7a4 46 = .ok (.iadd, 1) := by decide +kernel
theorem dJ6_bitCount_0f7a4_47 : decode cJ6_bitCount_0f7a4 47 = .ok (.istore_n 0, 1) := by decide +kernel
theorem dJ6_bitCount_0f7a4_48 : decode cJ6_bitCount_0f7a4 48 = .ok (.iload_n 0, 1) := by decide +kernel
theorem dJ6_bitCount_0f7a4_49 : decode cJ6_bitCount_0f7a4 49 = .ok (.bipush 63, 2) := by decide +kernel
theorem dJ6_bitCount_0f7a4_51 : decode cJ6_bitCount_0f7a4 51 = .ok (.iand, 1) := by decide +kernel
theorem dJ6_bitCount_0f7a4_52 : decode cJ6_bitCount_0f7a4 52 = .ok (.ireturn, 1) := by decide +kernel
theorem dJ9_abs_0f7a4_0 : decode cJ9_abs_0f7a4 0 = .ok (.iload_n 0, 1) := by decide +kernel
theorem dJ9_abs_0f7a4_1 : decode cJ9_abs_0f7a4 1 = .ok (.ifCond .ge 8, 3) := by decide +kernel
theorem dJ9_abs_0f7a4_4 : decode cJ9_abs_0f7a4 4 = .ok (.iload_n 0, 1) := by decide +kernel
theorem dJ9_abs_0f7a4_5 : decode cJ9_abs_0f7a4 5 = .ok (.ineg, 1) := by decide +kernel
theorem dJ9_abs_0f7a4_6 : decode cJ9_abs_0f7a4 6 = .ok (.goto 4, 3) := by decide +kernel
theorem dJ9_abs_0f7a4_9 : decode cJ9_abs_0f7a4 9 = .ok (.iload_n 0, 1) := by decide +kernel
theorem dJ9_abs_0f7a4_10 : decode cJ9_abs_0f7a4 10 = .ok (.ireturn, 1) := by decide +kernel
theorem dJ9_max_7cf53_0 : decode cJ9_max_7cf53 0 = .ok (.iload_n 0, 1) := by decide +kernel
theorem dJ9_max_7cf53_1 : decode cJ9_max_7cf53 1 = .ok (.iload_n 1, 1) := by decide +kernel
theorem dJ9_max_7cf53_2 : decode cJ9_max_7cf53 2 = .ok (.if_icmp .lt 7, 3) := by decide +kernel
theorem dJ9_max_7cf53_5 : decode cJ9_max_7cf53 5 = .ok (.iload_n 0, 1) := by decide +kernel
theorem dJ9_max_7cf53_6 : decode cJ9_max_7cf53 6 = .ok (.goto 4, 3) := by decide +kernel
theorem dJ9_max_7cf53_9 : decode cJ9_max_7cf53 9 = .ok (.iload_n 1, 1) := by decide +kernel
theorem dJ9_max_7cf53_10 : decode cJ9_max_7cf53 10 = .ok (.ireturn, 1) := by decide +kernel
theorem dJ9_min_7cf53_0 : decode cJ9_min_7cf53 0 = .ok (.iload_n 0, 1) := by decide +kernel
theorem dJ9_min_7cf53_1 : decode cJ9_min_7cf53 1 = .ok (.iload_n 1, 1) := by decide +kernel
theorem dJ9_min_7cf53_2 : decode cJ9_min_7cf53 2 = .ok (.if_icmp .gt 7, 3) := by decide +kernel
theorem dJ9_min_7cf53_5 : decode cJ9_min_7cf53 5 = .ok (.iload_n 0, 1) := by decide +kernel
theorem dJ9_min_7cf53_6 : decode cJ9_min_7cf53 6 = .ok (.goto 4, 3) := by decide +kernel
theorem dJ9_min_7cf53_9 : decode cJ9_min_7cf53 9 = .ok (.iload_n 1, 1) := by decide +kernel
theorem dJ9_min_7cf53_10 : decode cJ9_min_7cf53 10 = .ok (.ireturn, 1) := by decide +kernel
