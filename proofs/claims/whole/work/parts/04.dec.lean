theorem dX10_init_0 : decode cX10_init 0 = .ok (.aload_n 0, 1) := by decide +kernel
theorem dX10_init_1 : decode cX10_init 1 = .ok (.invokespecial 3, 3) := by decide +kernel
theorem dX10_init_4 : decode cX10_init 4 = .ok (.aload_n 0, 1) := by decide +kernel
theorem dX10_init_5 : decode cX10_init 5 = .ok (.bipush 55, 2) := by decide +kernel
theorem dX10_init_7 : decode cX10_init 7 = .ok (.newarray .int, 2) := by decide +kernel
theorem dX10_init_9 : decode cX10_init 9 = .ok (.putfield 11, 3) := by decide +kernel
theorem dX10_init_12 : decode cX10_init 12 = .ok (.aload_n 0, 1) := by decide +kernel
theorem dX10_init_13 : decode cX10_init 13 = .ok (.bipush 55, 2) := by decide +kernel
theorem dX10_init_15 : decode cX10_init 15 = .ok (.newarray .int, 2) := by decide +kernel
theorem dX10_init_17 : decode cX10_init 17 = .ok (.putfield 15, 3) := by decide +kernel
theorem dX10_init_20 : decode cX10_init 20 = .ok (.aload_n 0, 1) := by decide +kernel
theorem dX10_init_21 : decode cX10_init 21 = .ok (.iconst 4, 1) := by decide +kernel
theorem dX10_init_22 : decode cX10_init 22 = .ok (.newarray .int, 2) := by decide +kernel
theorem dX10_init_24 : decode cX10_init 24 = .ok (.putfield 18, 3) := by decide +kernel
theorem dX10_init_27 : decode cX10_init 27 = .ok (.aload_n 0, 1) := by decide +kernel
theorem dX10_init_28 : decode cX10_init 28 = .ok (.iconst 4, 1) := by decide +kernel
theorem dX10_init_29 : decode cX10_init 29 = .ok (.newarray .int, 2) := by decide +kernel
theorem dX10_init_31 : decode cX10_init 31 = .ok (.putfield 21, 3) := by decide +kernel
theorem dX10_init_34 : decode cX10_init 34 = .ok (.aload_n 0, 1) := by decide +kernel
theorem dX10_init_35 : decode cX10_init 35 = .ok (.ldc 24, 2) := by decide +kernel
theorem dX10_init_37 : decode cX10_init 37 = .ok (.newarray .int, 2) := by decide +kernel
theorem dX10_init_39 : decode cX10_init 39 = .ok (.putfield 25, 3) := by decide +kernel
theorem dX10_init_42 : decode cX10_init 42 = .ok (.aload_n 0, 1) := by decide +kernel
theorem dX10_init_43 : decode cX10_init 43 = .ok (.ldc 24, 2) := by decide +kernel
theorem dX10_init_45 : decode cX10_init 45 = .ok (.newarray .int, 2) := by decide +kernel
theorem dX10_init_47 : decode cX10_init 47 = .ok (.putfield 28, 3) := by decide +kernel
theorem dX10_init_50 : decode cX10_init 50 = .ok (.aload_n 0, 1) := by decide +kernel
theorem dX10_init_51 : decode cX10_init 51 = .ok (.bipush 100, 2) := by decide +kernel
theorem dX10_init_53 : decode cX10_init 53 = .ok (.newarray .int, 2) := by decide +kernel
theorem dX10_init_55 : decode cX10_init 55 = .ok (.putfield 31, 3) := by decide +kernel
theorem dX10_init_58 : decode cX10_init 58 = .ok (.aload_n 0, 1) := by decide +kernel
theorem dX10_init_59 : decode cX10_init 59 = .ok (.iconst 4, 1) := by decide +kernel
theorem dX10_init_60 : decode cX10_init 60 = .ok (.newarray .int, 2) := by decide +kernel
theorem dX10_init_62 : decode cX10_init 62 = .ok (.putfield 34, 3) := by decide +kernel
theorem dX10_init_65 : decode cX10_init 65 = .ok (.aload_n 0, 1) := by decide +kernel
theorem dX10_init_66 : decode cX10_init 66 = .ok (.bipush 6, 2) := by decide +kernel
theorem dX10_init_68 : decode cX10_init 68 = .ok (.newarray .int, 2) := by decide +kernel
theorem dX10_init_70 : decode cX10_init 70 = .ok (.dup, 1) := by decide +kernel
theorem dX10_init_71 : decode cX10_init 71 = .ok (.iconst 0, 1) := by decide +kernel
theorem dX10_init_72 : decode cX10_init 72 = .ok (.iconst (-1), 1) := by decide +kernel
theorem dX10_init_73 : decode cX10_init 73 = .ok (.iastore, 1) := by decide +kernel
theorem dX10_init_74 : decode cX10_init 74 = .ok (.dup, 1) := by decide +kernel
theorem dX10_init_75 : decode cX10_init 75 = .ok (.iconst 1, 1) := by decide +kernel
theorem dX10_init_76 : decode cX10_init 76 = .ok (.iconst (-1), 1) := by decide +kernel
theorem dX10_init_77 : decode cX10_init 77 = .ok (.iastore, 1) := by decide +kernel
theorem dX10_init_78 : decode cX10_init 78 = .ok (.dup, 1) := by decide +kernel
theorem dX10_init_79 : decode cX10_init 79 = .ok (.iconst 2, 1) := by decide +kernel
theorem dX10_init_80 : decode cX10_init 80 = .ok (.iconst (-1), 1) := by decide +kernel
theorem dX10_init_81 : decode cX10_init 81 = .ok (.iastore, 1) := by decide +kernel
theorem dX10_init_82 : decode cX10_init 82 = .ok (.dup, 1) := by decide +kernel
theorem dX10_init_83 : decode cX10_init 83 = .ok (.iconst 3, 1) := by decide +kernel
theorem dX10_init_84 : decode cX10_init 84 = .ok (.iconst (-1), 1) := by decide +kernel
theorem dX10_init_85 : decode cX10_init 85 = .ok (.iastore, 1) := by decide +kernel
theorem dX10_init_86 : decode cX10_init 86 = .ok (.dup, 1) := by decide +kernel
theorem dX10_init_87 : decode cX10_init 87 = .ok (.iconst 4, 1) := by decide +kernel
theorem dX10_init_88 : decode cX10_init 88 = .ok (.iconst (-1), 1) := by decide +kernel
theorem dX10_init_89 : decode cX10_init 89 = .ok (.iastore, 1) := by decide +kernel
theorem dX10_init_90 : decode cX10_init 90 = .ok (.dup, 1) := by decide +kernel
theorem dX10_init_91 : decode cX10_init 91 = .ok (.iconst 5, 1) := by decide +kernel
theorem dX10_init_92 : decode cX10_init 92 = .ok (.iconst (-1), 1) := by decide +kernel
theorem dX10_init_93 : decode cX10_init 93 = .ok (.iastore, 1) := by decide +kernel
theorem dX10_init_94 : decode cX10_init 94 = .ok (.putfield 37, 3) := by decide +kernel
theorem dX10_init_97 : decode cX10_init 97 = .ok (.aload_n 0, 1) := by decide +kernel
theorem dX10_init_98 : decode cX10_init 98 = .ok (.bipush 6, 2) := by decide +kernel
theorem dX10_init_100 : decode cX10_init 100 = .ok (.newarray .int, 2) := by decide +kernel
theorem dX10_init_102 : decode cX10_init 102 = .ok (.putfield 40, 3) := by decide +kernel
theorem dX10_init_105 : decode cX10_init 105 = .ok (.aload_n 0, 1) := by decide +kernel
theorem dX10_init_106 : decode cX10_init 106 = .ok (.bipush 6, 2) := by decide +kernel
theorem dX10_init_108 : decode cX10_init 108 = .ok (.bipush 60, 2) := by decide +kernel
theorem dX10_init_110 : decode cX10_init 110 = .ok (.multianewarray 43 2, 4) := by decide +kernel
theorem dX10_init_114 : decode cX10_init 114 = .ok (.putfield 45, 3) := by decide +kernel
theorem dX10_init_117 : decode cX10_init 117 = .ok (.aload_n 0, 1) := by decide +kernel
theorem dX10_init_118 : decode cX10_init 118 = .ok (.bipush 60, 2) := by decide +kernel
theorem dX10_init_120 : decode cX10_init 120 = .ok (.newarray .long, 2) := by decide +kernel
theorem dX10_init_122 : decode cX10_init 122 = .ok (.putfield 48, 3) := by decide +kernel
theorem dX10_init_125 : decode cX10_init 125 = .ok (.aload_n 0, 1) := by decide +kernel
theorem dX10_init_126 : decode cX10_init 126 = .ok (.iconst 3, 1) := by decide +kernel
theorem dX10_init_127 : decode cX10_init 127 = .ok (.invokevirtual 52, 3) := by decide +kernel
theorem dX10_init_130 : decode cX10_init 130 = .ok (.return_, 1) := by decide +kernel
theorem dX10_in_0 : decode cX10_in 0 = .ok (.lload_n 0, 1) := by decide +kernel
theorem dX10_in_1 : decode cX10_in 1 = .ok (.lload_n 2, 1) := by decide +kernel
theorem dX10_in_2 : decode cX10_in 2 = .ok (.lcmp, 1) := by decide +kernel
theorem dX10_in_3 : decode cX10_in 3 = .ok (.ifCond .lt 14, 3) := by decide +kernel
theorem dX10_in_6 : decode cX10_in 6 = .ok (.lload_n 0, 1) := by decide +kernel
theorem dX10_in_7 : decode cX10_in 7 = .ok (.lload 4, 2) := by decide +kernel
theorem dX10_in_9 : decode cX10_in 9 = .ok (.lcmp, 1) := by decide +kernel
theorem dX10_in_10 : decode cX10_in 10 = .ok (.ifCond .gt 7, 3) := by decide +kernel
theorem dX10_in_13 : decode cX10_in 13 = .ok (.iconst 1, 1) := by decide +kernel
theorem dX10_in_14 : decode cX10_in 14 = .ok (.goto 4, 3) := by decide +kernel
theorem dX10_in_17 : decode cX10_in 17 = .ok (.iconst 0, 1) := by decide +kernel
theorem dX10_in_18 : decode cX10_in 18 = .ok (.ireturn, 1) := by decide +kernel
theorem dX10_starts_0 : decode cX10_starts 0 = .ok (.aload_n 0, 1) := by decide +kernel
theorem dX10_starts_1 : decode cX10_starts 1 = .ok (.getfield 11, 3) := by decide +kernel
theorem dX10_starts_4 : decode cX10_starts 4 = .ok (.iconst 0, 1) := by decide +kernel
theorem dX10_starts_5 : decode cX10_starts 5 = .ok (.iload_n 1, 1) := by decide +kernel
theorem dX10_starts_6 : decode cX10_starts 6 = .ok (.iastore, 1) := by decide +kernel
theorem dX10_starts_7 : decode cX10_starts 7 = .ok (.aload_n 0, 1) := by decide +kernel
theorem dX10_starts_8 : decode cX10_starts 8 = .ok (.getfield 11, 3) := by decide +kernel
theorem dX10_starts_11 : decode cX10_starts 11 = .ok (.iconst 1, 1) := by decide +kernel
theorem dX10_starts_12 : decode cX10_starts 12 = .ok (.iconst 0, 1) := by decide +kernel
theorem dX10_starts_13 : decode cX10_starts 13 = .ok (.iastore, 1) := by decide +kernel
theorem dX10_starts_14 : decode cX10_starts 14 = .ok (.aload_n 0, 1) := by decide +kernel
theorem dX10_starts_15 : decode cX10_starts 15 = .ok (.getfield 11, 3) := by decide +kernel
theorem dX10_starts_18 : decode cX10_starts 18 = .ok (.iconst 2, 1) := by decide +kernel
theorem dX10_starts_19 : decode cX10_starts 19 = .ok (.iconst 0, 1) := by decide +kernel
theorem dX10_starts_20 : decode cX10_starts 20 = .ok (.iastore, 1) := by decide +kernel
theorem dX10_starts_21 : decode cX10_starts 21 = .ok (.aload_n 0, 1) := by decide +kernel
theorem dX10_starts_22 : decode cX10_starts 22 = .ok (.getfield 11, 3) := by decide +kernel
theorem dX10_starts_25 : decode cX10_starts 25 = .ok (.iconst 3, 1) := by decide +kernel
theorem dX10_starts_26 : decode cX10_starts 26 = .ok (.iconst 1, 1) := by decide +kernel
theorem dX10_starts_27 : decode cX10_starts 27 = .ok (.iastore, 1) := by decide +kernel
theorem dX10_starts_28 : decode cX10_starts 28 = .ok (.iconst 0, 1) := by decide +kernel
theorem dX10_starts_29 : decode cX10_starts 29 = .ok (.istore_n 2, 1) := by decide +kernel
theorem dX10_starts_30 : decode cX10_starts 30 = .ok (.iload_n 2, 1) := by decide +kernel
theorem dX10_starts_31 : decode cX10_starts 31 = .ok (.iconst 4, 1) := by decide +kernel
theorem dX10_starts_32 : decode cX10_starts 32 = .ok (.if_icmp .ge 18, 3) := by decide +kernel
theorem dX10_starts_35 : decode cX10_starts 35 = .ok (.aload_n 0, 1) := by decide +kernel
theorem dX10_starts_36 : decode cX10_starts 36 = .ok (.getfield 11, 3) := by decide +kernel
theorem dX10_starts_39 : decode cX10_starts 39 = .ok (.iconst 4, 1) := by decide +kernel
theorem dX10_starts_40 : decode cX10_starts 40 = .ok (.iload_n 2, 1) := by decide +kernel
theorem dX10_starts_41 : decode cX10_starts 41 = .ok (.iadd, 1) := by decide +kernel
theorem dX10_starts_42 : decode cX10_starts 42 = .ok (.iconst 0, 1) := by decide +kernel
theorem dX10_starts_43 : decode cX10_starts 43 = .ok (.iastore, 1) := by decide +kernel
theorem dX10_starts_44 : decode cX10_starts 44 = .ok (.iinc 2 1, 3) := by decide +kernel
theorem dX10_starts_47 : decode cX10_starts 47 = .ok (.goto (-17), 3) := by decide +kernel
theorem dX10_starts_50 : decode cX10_starts 50 = .ok (.return_, 1) := by decide +kernel
theorem dX10_lots_0 : decode cX10_lots 0 = .ok (.iconst 1, 1) := by decide +kernel
theorem dX10_lots_1 : decode cX10_lots 1 = .ok (.aload_n 0, 1) := by decide +kernel
theorem dX10_lots_2 : decode cX10_lots 2 = .ok (.getfield 11, 3) := by decide +kernel
theorem dX10_lots_5 : decode cX10_lots 5 = .ok (.iconst 0, 1) := by decide +kernel
theorem dX10_lots_6 : decode cX10_lots 6 = .ok (.iaload, 1) := by decide +kernel
theorem dX10_lots_7 : decode cX10_lots 7 = .ok (.ishl, 1) := by decide +kernel
theorem dX10_lots_8 : decode cX10_lots 8 = .ok (.ireturn, 1) := by decide +kernel
theorem dX10_most_0 : decode cX10_most 0 = .ok (.iconst 1, 1) := by decide +kernel
theorem dX10_most_1 : decode cX10_most 1 = .ok (.aload_n 0, 1) := by decide +kernel
theorem dX10_most_2 : decode cX10_most 2 = .ok (.invokevirtual 56, 3) := by decide +kernel
theorem dX10_most_5 : decode cX10_most 5 = .ok (.ishl, 1) := by decide +kernel
theorem dX10_most_6 : decode cX10_most 6 = .ok (.iconst 1, 1) := by decide +kernel
theorem dX10_most_7 : decode cX10_most 7 = .ok (.isub, 1) := by decide +kernel
theorem dX10_most_8 : decode cX10_most 8 = .ok (.ireturn, 1) := by decide +kernel
theorem dX10_isLot_0 : decode cX10_isLot 0 = .ok (.iload_n 1, 1) := by decide +kernel
theorem dX10_isLot_1 : decode cX10_isLot 1 = .ok (.i2l, 1) := by decide +kernel
theorem dX10_isLot_2 : decode cX10_isLot 2 = .ok (.lconst 0, 1) := by decide +kernel
theorem dX10_isLot_3 : decode cX10_isLot 3 = .ok (.aload_n 0, 1) := by decide +kernel
theorem dX10_isLot_4 : decode cX10_isLot 4 = .ok (.invokevirtual 56, 3) := by decide +kernel
theorem dX10_isLot_7 : decode cX10_isLot 7 = .ok (.iconst 1, 1) := by decide +kernel
theorem dX10_isLot_8 : decode cX10_isLot 8 = .ok (.isub, 1) := by decide +kernel
theorem dX10_isLot_9 : decode cX10_isLot 9 = .ok (.i2l, 1) := by decide +kernel
theorem dX10_isLot_10 : decode cX10_isLot 10 = .ok (.invokestatic 60, 3) := by decide +kernel
theorem dX10_isLot_13 : decode cX10_isLot 13 = .ok (.ireturn, 1) := by decide +kernel
theorem dX10_isVoter_0 : decode cX10_isVoter 0 = .ok (.iload_n 1, 1) := by decide +kernel
theorem dX10_isVoter_1 : decode cX10_isVoter 1 = .ok (.i2l, 1) := by decide +kernel
theorem dX10_isVoter_2 : decode cX10_isVoter 2 = .ok (.lconst 0, 1) := by decide +kernel
theorem dX10_isVoter_3 : decode cX10_isVoter 3 = .ok (.aload_n 0, 1) := by decide +kernel
theorem dX10_isVoter_4 : decode cX10_isVoter 4 = .ok (.getfield 11, 3) := by decide +kernel
theorem dX10_isVoter_7 : decode cX10_isVoter 7 = .ok (.iconst 0, 1) := by decide +kernel
theorem dX10_isVoter_8 : decode cX10_isVoter 8 = .ok (.iaload, 1) := by decide +kernel
theorem dX10_isVoter_9 : decode cX10_isVoter 9 = .ok (.iconst 1, 1) := by decide +kernel
theorem dX10_isVoter_10 : decode cX10_isVoter 10 = .ok (.isub, 1) := by decide +kernel
theorem dX10_isVoter_11 : decode cX10_isVoter 11 = .ok (.i2l, 1) := by decide +kernel
theorem dX10_isVoter_12 : decode cX10_isVoter 12 = .ok (.invokestatic 60, 3) := by decide +kernel
theorem dX10_isVoter_15 : decode cX10_isVoter 15 = .ok (.ireturn, 1) := by decide +kernel
theorem dX10_is_0 : decode cX10_is 0 = .ok (.iload_n 0, 1) := by decide +kernel
theorem dX10_is_1 : decode cX10_is 1 = .ok (.iload_n 1, 1) := by decide +kernel
theorem dX10_is_2 : decode cX10_is 2 = .ok (.ishr, 1) := by decide +kernel
theorem dX10_is_3 : decode cX10_is 3 = .ok (.iconst 1, 1) := by decide +kernel
theorem dX10_is_4 : decode cX10_is 4 = .ok (.iand, 1) := by decide +kernel
theorem dX10_is_5 : decode cX10_is 5 = .ok (.iconst 1, 1) := by decide +kernel
theorem dX10_is_6 : decode cX10_is 6 = .ok (.if_icmp .ne 7, 3) := by decide +kernel
theorem dX10_is_9 : decode cX10_is 9 = .ok (.iconst 1, 1) := by decide +kernel
theorem dX10_is_10 : decode cX10_is 10 = .ok (.goto 4, 3) := by decide +kernel
theorem dX10_is_13 : decode cX10_is 13 = .ok (.iconst 0, 1) := by decide +kernel
theorem dX10_is_14 : decode cX10_is 14 = .ok (.ireturn, 1) := by decide +kernel
theorem dX10_bit_0 : decode cX10_bit 0 = .ok (.iload_n 0, 1) := by decide +kernel
theorem dX10_bit_1 : decode cX10_bit 1 = .ok (.ifCond .eq 7, 3) := by decide +kernel
theorem dX10_bit_4 : decode cX10_bit 4 = .ok (.iconst 1, 1) := by decide +kernel
theorem dX10_bit_5 : decode cX10_bit 5 = .ok (.goto 4, 3) := by decide +kernel
theorem dX10_bit_8 : decode cX10_bit 8 = .ok (.iconst 0, 1) := by decide +kernel
theorem dX10_bit_9 : decode cX10_bit 9 = .ok (.ireturn, 1) := by decide +kernel
theorem dX10_voters_0 : decode cX10_voters 0 = .ok (.iload_n 1, 1) := by decide +kernel
theorem dX10_voters_1 : decode cX10_voters 1 = .ok (.i2l, 1) := by decide +kernel
theorem dX10_voters_2 : decode cX10_voters 2 = .ok (.ldc2_w 64, 3) := by decide +kernel
theorem dX10_voters_5 : decode cX10_voters 5 = .ok (.ldc2_w 66, 3) := by decide +kernel
theorem dX10_voters_8 : decode cX10_voters 8 = .ok (.invokestatic 60, 3) := by decide +kernel
theorem dX10_voters_11 : decode cX10_voters 11 = .ok (.ifCond .ne 6, 3) := by decide +kernel
theorem dX10_voters_14 : decode cX10_voters 14 = .ok (.bipush (-2), 2) := by decide +kernel
theorem dX10_voters_16 : decode cX10_voters 16 = .ok (.ireturn, 1) := by decide +kernel
theorem dX10_voters_17 : decode cX10_voters 17 = .ok (.aload_n 0, 1) := by decide +kernel
theorem dX10_voters_18 : decode cX10_voters 18 = .ok (.getfield 11, 3) := by decide +kernel
theorem dX10_voters_21 : decode cX10_voters 21 = .ok (.iconst 0, 1) := by decide +kernel
theorem dX10_voters_22 : decode cX10_voters 22 = .ok (.iaload, 1) := by decide +kernel
theorem dX10_voters_23 : decode cX10_voters 23 = .ok (.istore_n 2, 1) := by decide +kernel
theorem dX10_voters_24 : decode cX10_voters 24 = .ok (.aload_n 0, 1) := by decide +kernel
theorem dX10_voters_25 : decode cX10_voters 25 = .ok (.iload_n 1, 1) := by decide +kernel
theorem dX10_voters_26 : decode cX10_voters 26 = .ok (.invokevirtual 52, 3) := by decide +kernel
theorem dX10_voters_29 : decode cX10_voters 29 = .ok (.iload_n 2, 1) := by decide +kernel
theorem dX10_voters_30 : decode cX10_voters 30 = .ok (.ireturn, 1) := by decide +kernel
theorem dX10_say_0 : decode cX10_say 0 = .ok (.aload_n 0, 1) := by decide +kernel
theorem dX10_say_1 : decode cX10_say 1 = .ok (.iload_n 1, 1) := by decide +kernel
theorem dX10_say_2 : decode cX10_say 2 = .ok (.invokevirtual 68, 3) := by decide +kernel
theorem dX10_say_5 : decode cX10_say 5 = .ok (.ifCond .ne 5, 3) := by decide +kernel
theorem dX10_say_8 : decode cX10_say 8 = .ok (.iconst (-1), 1) := by decide +kernel
theorem dX10_say_9 : decode cX10_say 9 = .ok (.ireturn, 1) := by decide +kernel
theorem dX10_say_10 : decode cX10_say 10 = .ok (.iload_n 2, 1) := by decide +kernel
theorem dX10_say_11 : decode cX10_say 11 = .ok (.i2l, 1) := by decide +kernel
theorem dX10_say_12 : decode cX10_say 12 = .ok (.lconst 0, 1) := by decide +kernel
theorem dX10_say_13 : decode cX10_say 13 = .ok (.lconst 1, 1) := by decide +kernel
theorem dX10_say_14 : decode cX10_say 14 = .ok (.invokestatic 60, 3) := by decide +kernel
theorem dX10_say_17 : decode cX10_say 17 = .ok (.ifCond .ne 6, 3) := by decide +kernel
theorem dX10_say_20 : decode cX10_say 20 = .ok (.bipush (-2), 2) := by decide +kernel
theorem dX10_say_22 : decode cX10_say 22 = .ok (.ireturn, 1) := by decide +kernel
theorem dX10_say_23 : decode cX10_say 23 = .ok (.aload_n 0, 1) := by decide +kernel
theorem dX10_say_24 : decode cX10_say 24 = .ok (.getfield 11, 3) := by decide +kernel
theorem dX10_say_27 : decode cX10_say 27 = .ok (.iconst 1, 1) := by decide +kernel
theorem dX10_say_28 : decode cX10_say 28 = .ok (.iaload, 1) := by decide +kernel
theorem dX10_say_29 : decode cX10_say 29 = .ok (.iload_n 1, 1) := by decide +kernel
theorem dX10_say_30 : decode cX10_say 30 = .ok (.ishr, 1) := by decide +kernel
theorem dX10_say_31 : decode cX10_say 31 = .ok (.iconst 1, 1) := by decide +kernel
theorem dX10_say_32 : decode cX10_say 32 = .ok (.iand, 1) := by decide +kernel
theorem dX10_say_33 : decode cX10_say 33 = .ok (.istore_n 3, 1) := by decide +kernel
theorem dX10_say_34 : decode cX10_say 34 = .ok (.aload_n 0, 1) := by decide +kernel
theorem dX10_say_35 : decode cX10_say 35 = .ok (.getfield 11, 3) := by decide +kernel
theorem dX10_say_38 : decode cX10_say 38 = .ok (.iconst 1, 1) := by decide +kernel
theorem dX10_say_39 : decode cX10_say 39 = .ok (.aload_n 0, 1) := by decide +kernel
theorem dX10_say_40 : decode cX10_say 40 = .ok (.getfield 11, 3) := by decide +kernel
theorem dX10_say_43 : decode cX10_say 43 = .ok (.iconst 1, 1) := by decide +kernel
theorem dX10_say_44 : decode cX10_say 44 = .ok (.iaload, 1) := by decide +kernel
theorem dX10_say_45 : decode cX10_say 45 = .ok (.iconst 1, 1) := by decide +kernel
theorem dX10_say_46 : decode cX10_say 46 = .ok (.iload_n 1, 1) := by decide +kernel
theorem dX10_say_47 : decode cX10_say 47 = .ok (.ishl, 1) := by decide +kernel
theorem dX10_say_48 : decode cX10_say 48 = .ok (.iconst (-1), 1) := by decide +kernel
theorem dX10_say_49 : decode cX10_say 49 = .ok (.ixor, 1) := by decide +kernel
theorem dX10_say_50 : decode cX10_say 50 = .ok (.iand, 1) := by decide +kernel
theorem dX10_say_51 : decode cX10_say 51 = .ok (.iload_n 2, 1) := by decide +kernel
theorem dX10_say_52 : decode cX10_say 52 = .ok (.iload_n 1, 1) := by decide +kernel
theorem dX10_say_53 : decode cX10_say 53 = .ok (.ishl, 1) := by decide +kernel
theorem dX10_say_54 : decode cX10_say 54 = .ok (.ior, 1) := by decide +kernel
theorem dX10_say_55 : decode cX10_say 55 = .ok (.iastore, 1) := by decide +kernel
theorem dX10_say_56 : decode cX10_say 56 = .ok (.iload_n 3, 1) := by decide +kernel
theorem dX10_say_57 : decode cX10_say 57 = .ok (.ireturn, 1) := by decide +kernel
theorem dX10_code_0 : decode cX10_code 0 = .ok (.iload_n 1, 1) := by decide +kernel
theorem dX10_code_1 : decode cX10_code 1 = .ok (.i2l, 1) := by decide +kernel
theorem dX10_code_2 : decode cX10_code 2 = .ok (.lconst 0, 1) := by decide +kernel
theorem dX10_code_3 : decode cX10_code 3 = .ok (.aload_n 0, 1) := by decide +kernel
theorem dX10_code_4 : decode cX10_code 4 = .ok (.invokevirtual 72, 3) := by decide +kernel
theorem dX10_code_7 : decode cX10_code 7 = .ok (.i2l, 1) := by decide +kernel
theorem dX10_code_8 : decode cX10_code 8 = .ok (.invokestatic 60, 3) := by decide +kernel
theorem dX10_code_11 : decode cX10_code 11 = .ok (.ifCond .ne 6, 3) := by decide +kernel
theorem dX10_code_14 : decode cX10_code 14 = .ok (.bipush (-2), 2) := by decide +kernel
theorem dX10_code_16 : decode cX10_code 16 = .ok (.ireturn, 1) := by decide +kernel
theorem dX10_code_17 : decode cX10_code 17 = .ok (.aload_n 0, 1) := by decide +kernel
theorem dX10_code_18 : decode cX10_code 18 = .ok (.getfield 11, 3) := by decide +kernel
theorem dX10_code_21 : decode cX10_code 21 = .ok (.iconst 1, 1) := by decide +kernel
theorem dX10_code_22 : decode cX10_code 22 = .ok (.iaload, 1) := by decide +kernel
theorem dX10_code_23 : decode cX10_code 23 = .ok (.istore_n 2, 1) := by decide +kernel
theorem dX10_code_24 : decode cX10_code 24 = .ok (.aload_n 0, 1) := by decide +kernel
theorem dX10_code_25 : decode cX10_code 25 = .ok (.getfield 11, 3) := by decide +kernel
theorem dX10_code_28 : decode cX10_code 28 = .ok (.iconst 1, 1) := by decide +kernel
theorem dX10_code_29 : decode cX10_code 29 = .ok (.iload_n 1, 1) := by decide +kernel
theorem dX10_code_30 : decode cX10_code 30 = .ok (.iastore, 1) := by decide +kernel
theorem dX10_code_31 : decode cX10_code 31 = .ok (.iload_n 2, 1) := by decide +kernel
theorem dX10_code_32 : decode cX10_code 32 = .ok (.ireturn, 1) := by decide +kernel
theorem dX10_weight_0 : decode cX10_weight 0 = .ok (.aload_n 0, 1) := by decide +kernel
theorem dX10_weight_1 : decode cX10_weight 1 = .ok (.iload_n 1, 1) := by decide +kernel
theorem dX10_weight_2 : decode cX10_weight 2 = .ok (.invokevirtual 75, 3) := by decide +kernel
theorem dX10_weight_5 : decode cX10_weight 5 = .ok (.ifCond .ne 5, 3) := by decide +kernel
theorem dX10_weight_8 : decode cX10_weight 8 = .ok (.iconst (-1), 1) := by decide +kernel
theorem dX10_weight_9 : decode cX10_weight 9 = .ok (.ireturn, 1) := by decide +kernel
theorem dX10_weight_10 : decode cX10_weight 10 = .ok (.iload_n 2, 1) := by decide +kernel
theorem dX10_weight_11 : decode cX10_weight 11 = .ok (.i2l, 1) := by decide +kernel
theorem dX10_weight_12 : decode cX10_weight 12 = .ok (.ldc2_w 78, 3) := by decide +kernel
theorem dX10_weight_15 : decode cX10_weight 15 = .ok (.ldc2_w 80, 3) := by decide +kernel
theorem dX10_weight_18 : decode cX10_weight 18 = .ok (.invokestatic 60, 3) := by decide +kernel
theorem dX10_weight_21 : decode cX10_weight 21 = .ok (.ifCond .ne 6, 3) := by decide +kernel
theorem dX10_weight_24 : decode cX10_weight 24 = .ok (.bipush (-2), 2) := by decide +kernel
theorem dX10_weight_26 : decode cX10_weight 26 = .ok (.ireturn, 1) := by decide +kernel
theorem dX10_weight_27 : decode cX10_weight 27 = .ok (.aload_n 0, 1) := by decide +kernel
theorem dX10_weight_28 : decode cX10_weight 28 = .ok (.getfield 11, 3) := by decide +kernel
theorem dX10_weight_31 : decode cX10_weight 31 = .ok (.iconst 4, 1) := by decide +kernel
theorem dX10_weight_32 : decode cX10_weight 32 = .ok (.iload_n 1, 1) := by decide +kernel
theorem dX10_weight_33 : decode cX10_weight 33 = .ok (.iadd, 1) := by decide +kernel
theorem dX10_weight_34 : decode cX10_weight 34 = .ok (.iaload, 1) := by decide +kernel
theorem dX10_weight_35 : decode cX10_weight 35 = .ok (.istore_n 3, 1) := by decide +kernel
theorem dX10_weight_36 : decode cX10_weight 36 = .ok (.aload_n 0, 1) := by decide +kernel
theorem dX10_weight_37 : decode cX10_weight 37 = .ok (.getfield 11, 3) := by decide +kernel
theorem dX10_weight_40 : decode cX10_weight 40 = .ok (.iconst 4, 1) := by decide +kernel
theorem dX10_weight_41 : decode cX10_weight 41 = .ok (.iload_n 1, 1) := by decide +kernel
theorem dX10_weight_42 : decode cX10_weight 42 = .ok (.iadd, 1) := by decide +kernel
theorem dX10_weight_43 : decode cX10_weight 43 = .ok (.iload_n 2, 1) := by decide +kernel
theorem dX10_weight_44 : decode cX10_weight 44 = .ok (.iastore, 1) := by decide +kernel
theorem dX10_weight_45 : decode cX10_weight 45 = .ok (.iload_n 3, 1) := by decide +kernel
theorem dX10_weight_46 : decode cX10_weight 46 = .ok (.bipush 100, 2) := by decide +kernel
theorem dX10_weight_48 : decode cX10_weight 48 = .ok (.iadd, 1) := by decide +kernel
theorem dX10_weight_49 : decode cX10_weight 49 = .ok (.ireturn, 1) := by decide +kernel
theorem dX10_quota_0 : decode cX10_quota 0 = .ok (.iload_n 1, 1) := by decide +kernel
theorem dX10_quota_1 : decode cX10_quota 1 = .ok (.i2l, 1) := by decide +kernel
theorem dX10_quota_2 : decode cX10_quota 2 = .ok (.ldc2_w 82, 3) := by decide +kernel
theorem dX10_quota_5 : decode cX10_quota 5 = .ok (.ldc2_w 84, 3) := by decide +kernel
theorem dX10_quota_8 : decode cX10_quota 8 = .ok (.invokestatic 60, 3) := by decide +kernel
theorem dX10_quota_11 : decode cX10_quota 11 = .ok (.ifCond .ne 6, 3) := by decide +kernel
theorem dX10_quota_14 : decode cX10_quota 14 = .ok (.bipush (-2), 2) := by decide +kernel
theorem dX10_quota_16 : decode cX10_quota 16 = .ok (.ireturn, 1) := by decide +kernel
theorem dX10_quota_17 : decode cX10_quota 17 = .ok (.aload_n 0, 1) := by decide +kernel
theorem dX10_quota_18 : decode cX10_quota 18 = .ok (.getfield 11, 3) := by decide +kernel
theorem dX10_quota_21 : decode cX10_quota 21 = .ok (.iconst 3, 1) := by decide +kernel
theorem dX10_quota_22 : decode cX10_quota 22 = .ok (.iaload, 1) := by decide +kernel
theorem dX10_quota_23 : decode cX10_quota 23 = .ok (.istore_n 2, 1) := by decide +kernel
theorem dX10_quota_24 : decode cX10_quota 24 = .ok (.aload_n 0, 1) := by decide +kernel
theorem dX10_quota_25 : decode cX10_quota 25 = .ok (.getfield 11, 3) := by decide +kernel
theorem dX10_quota_28 : decode cX10_quota 28 = .ok (.iconst 3, 1) := by decide +kernel
theorem dX10_quota_29 : decode cX10_quota 29 = .ok (.iload_n 1, 1) := by decide +kernel
theorem dX10_quota_30 : decode cX10_quota 30 = .ok (.iastore, 1) := by decide +kernel
theorem dX10_quota_31 : decode cX10_quota 31 = .ok (.iload_n 2, 1) := by decide +kernel
theorem dX10_quota_32 : decode cX10_quota 32 = .ok (.bipush 100, 2) := by decide +kernel
theorem dX10_quota_34 : decode cX10_quota 34 = .ok (.iadd, 1) := by decide +kernel
theorem dX10_quota_35 : decode cX10_quota 35 = .ok (.ireturn, 1) := by decide +kernel
theorem dX10_worth_0 : decode cX10_worth 0 = .ok (.iconst 0, 1) := by decide +kernel
theorem dX10_worth_1 : decode cX10_worth 1 = .ok (.istore_n 2, 1) := by decide +kernel
theorem dX10_worth_2 : decode cX10_worth 2 = .ok (.iconst 0, 1) := by decide +kernel
theorem dX10_worth_3 : decode cX10_worth 3 = .ok (.istore_n 3, 1) := by decide +kernel
theorem dX10_worth_4 : decode cX10_worth 4 = .ok (.iload_n 3, 1) := by decide +kernel
theorem dX10_worth_5 : decode cX10_worth 5 = .ok (.aload_n 0, 1) := by decide +kernel
theorem dX10_worth_6 : decode cX10_worth 6 = .ok (.getfield 11, 3) := by decide +kernel
theorem dX10_worth_9 : decode cX10_worth 9 = .ok (.iconst 0, 1) := by decide +kernel
theorem dX10_worth_10 : decode cX10_worth 10 = .ok (.iaload, 1) := by decide +kernel
theorem dX10_worth_11 : decode cX10_worth 11 = .ok (.if_icmp .ge 26, 3) := by decide +kernel
theorem dX10_worth_14 : decode cX10_worth 14 = .ok (.iload_n 2, 1) := by decide +kernel
theorem dX10_worth_15 : decode cX10_worth 15 = .ok (.iload_n 1, 1) := by decide +kernel
theorem dX10_worth_16 : decode cX10_worth 16 = .ok (.iload_n 3, 1) := by decide +kernel
theorem dX10_worth_17 : decode cX10_worth 17 = .ok (.ishr, 1) := by decide +kernel
theorem dX10_worth_18 : decode cX10_worth 18 = .ok (.iconst 1, 1) := by decide +kernel
theorem dX10_worth_19 : decode cX10_worth 19 = .ok (.iand, 1) := by decide +kernel
theorem dX10_worth_20 : decode cX10_worth 20 = .ok (.aload_n 0, 1) := by decide +kernel
theorem dX10_worth_21 : decode cX10_worth 21 = .ok (.getfield 11, 3) := by decide +kernel
theorem dX10_worth_24 : decode cX10_worth 24 = .ok (.iconst 4, 1) := by decide +kernel
theorem dX10_worth_25 : decode cX10_worth 25 = .ok (.iload_n 3, 1) := by decide +kernel
theorem dX10_worth_26 : decode cX10_worth 26 = .ok (.iadd, 1) := by decide +kernel
theorem dX10_worth_27 : decode cX10_worth 27 = .ok (.iaload, 1) := by decide +kernel
theorem dX10_worth_28 : decode cX10_worth 28 = .ok (.imul, 1) := by decide +kernel
theorem dX10_worth_29 : decode cX10_worth 29 = .ok (.iadd, 1) := by decide +kernel
theorem dX10_worth_30 : decode cX10_worth 30 = .ok (.istore_n 2, 1) := by decide +kernel
theorem dX10_worth_31 : decode cX10_worth 31 = .ok (.iinc 3 1, 3) := by decide +kernel
theorem dX10_worth_34 : decode cX10_worth 34 = .ok (.goto (-30), 3) := by decide +kernel
theorem dX10_worth_37 : decode cX10_worth 37 = .ok (.iload_n 2, 1) := by decide +kernel
theorem dX10_worth_38 : decode cX10_worth 38 = .ok (.ireturn, 1) := by decide +kernel
theorem dX10_weighed_0 : decode cX10_weighed 0 = .ok (.iconst 0, 1) := by decide +kernel
theorem dX10_weighed_1 : decode cX10_weighed 1 = .ok (.istore_n 1, 1) := by decide +kernel
theorem dX10_weighed_2 : decode cX10_weighed 2 = .ok (.iconst 0, 1) := by decide +kernel
theorem dX10_weighed_3 : decode cX10_weighed 3 = .ok (.istore_n 2, 1) := by decide +kernel
theorem dX10_weighed_4 : decode cX10_weighed 4 = .ok (.iload_n 2, 1) := by decide +kernel
theorem dX10_weighed_5 : decode cX10_weighed 5 = .ok (.aload_n 0, 1) := by decide +kernel
theorem dX10_weighed_6 : decode cX10_weighed 6 = .ok (.invokevirtual 56, 3) := by decide +kernel
theorem dX10_weighed_9 : decode cX10_weighed 9 = .ok (.if_icmp .ge 36, 3) := by decide +kernel
theorem dX10_weighed_12 : decode cX10_weighed 12 = .ok (.iload_n 1, 1) := by decide +kernel
theorem dX10_weighed_13 : decode cX10_weighed 13 = .ok (.aload_n 0, 1) := by decide +kernel
theorem dX10_weighed_14 : decode cX10_weighed 14 = .ok (.iload_n 2, 1) := by decide +kernel
theorem dX10_weighed_15 : decode cX10_weighed 15 = .ok (.invokevirtual 86, 3) := by decide +kernel
theorem dX10_weighed_18 : decode cX10_weighed 18 = .ok (.aload_n 0, 1) := by decide +kernel
theorem dX10_weighed_19 : decode cX10_weighed 19 = .ok (.getfield 11, 3) := by decide +kernel
theorem dX10_weighed_22 : decode cX10_weighed 22 = .ok (.iconst 3, 1) := by decide +kernel
theorem dX10_weighed_23 : decode cX10_weighed 23 = .ok (.iaload, 1) := by decide +kernel
theorem dX10_weighed_24 : decode cX10_weighed 24 = .ok (.if_icmp .lt 7, 3) := by decide +kernel
theorem dX10_weighed_27 : decode cX10_weighed 27 = .ok (.iconst 1, 1) := by decide +kernel
theorem dX10_weighed_28 : decode cX10_weighed 28 = .ok (.goto 4, 3) := by decide +kernel
theorem dX10_weighed_31 : decode cX10_weighed 31 = .ok (.iconst 0, 1) := by decide +kernel
theorem dX10_weighed_32 : decode cX10_weighed 32 = .ok (.invokestatic 90, 3) := by decide +kernel
theorem dX10_weighed_35 : decode cX10_weighed 35 = .ok (.iload_n 2, 1) := by decide +kernel
theorem dX10_weighed_36 : decode cX10_weighed 36 = .ok (.ishl, 1) := by decide +kernel
theorem dX10_weighed_37 : decode cX10_weighed 37 = .ok (.ior, 1) := by decide +kernel
theorem dX10_weighed_38 : decode cX10_weighed 38 = .ok (.istore_n 1, 1) := by decide +kernel
theorem dX10_weighed_39 : decode cX10_weighed 39 = .ok (.iinc 2 1, 3) := by decide +kernel
theorem dX10_weighed_42 : decode cX10_weighed 42 = .ok (.goto (-38), 3) := by decide +kernel
theorem dX10_weighed_45 : decode cX10_weighed 45 = .ok (.iload_n 1, 1) := by decide +kernel
theorem dX10_weighed_46 : decode cX10_weighed 46 = .ok (.ireturn, 1) := by decide +kernel
theorem dX10_weigh_0 : decode cX10_weigh 0 = .ok (.aload_n 0, 1) := by decide +kernel
theorem dX10_weigh_1 : decode cX10_weigh 1 = .ok (.getfield 11, 3) := by decide +kernel
theorem dX10_weigh_4 : decode cX10_weigh 4 = .ok (.iconst 1, 1) := by decide +kernel
theorem dX10_weigh_5 : decode cX10_weigh 5 = .ok (.aload_n 0, 1) := by decide +kernel
theorem dX10_weigh_6 : decode cX10_weigh 6 = .ok (.invokevirtual 94, 3) := by decide +kernel
theorem dX10_weigh_9 : decode cX10_weigh 9 = .ok (.iastore, 1) := by decide +kernel
theorem dX10_weigh_10 : decode cX10_weigh 10 = .ok (.aload_n 0, 1) := by decide +kernel
theorem dX10_weigh_11 : decode cX10_weigh 11 = .ok (.getfield 11, 3) := by decide +kernel
theorem dX10_weigh_14 : decode cX10_weigh 14 = .ok (.iconst 1, 1) := by decide +kernel
theorem dX10_weigh_15 : decode cX10_weigh 15 = .ok (.iaload, 1) := by decide +kernel
theorem dX10_weigh_16 : decode cX10_weigh 16 = .ok (.ireturn, 1) := by decide +kernel
theorem dX10_dual_0 : decode cX10_dual 0 = .ok (.iconst 0, 1) := by decide +kernel
theorem dX10_dual_1 : decode cX10_dual 1 = .ok (.istore_n 2, 1) := by decide +kernel
theorem dX10_dual_2 : decode cX10_dual 2 = .ok (.iconst 0, 1) := by decide +kernel
theorem dX10_dual_3 : decode cX10_dual 3 = .ok (.istore_n 3, 1) := by decide +kernel
theorem dX10_dual_4 : decode cX10_dual 4 = .ok (.iload_n 3, 1) := by decide +kernel
theorem dX10_dual_5 : decode cX10_dual 5 = .ok (.aload_n 0, 1) := by decide +kernel
theorem dX10_dual_6 : decode cX10_dual 6 = .ok (.invokevirtual 56, 3) := by decide +kernel
theorem dX10_dual_9 : decode cX10_dual 9 = .ok (.if_icmp .ge 37, 3) := by decide +kernel
theorem dX10_dual_12 : decode cX10_dual 12 = .ok (.iload_n 2, 1) := by decide +kernel
theorem dX10_dual_13 : decode cX10_dual 13 = .ok (.iload_n 1, 1) := by decide +kernel
theorem dX10_dual_14 : decode cX10_dual 14 = .ok (.aload_n 0, 1) := by decide +kernel
theorem dX10_dual_15 : decode cX10_dual 15 = .ok (.invokevirtual 56, 3) := by decide +kernel
theorem dX10_dual_18 : decode cX10_dual 18 = .ok (.iconst 1, 1) := by decide +kernel
theorem dX10_dual_19 : decode cX10_dual 19 = .ok (.isub, 1) := by decide +kernel
theorem dX10_dual_20 : decode cX10_dual 20 = .ok (.iload_n 3, 1) := by decide +kernel
theorem dX10_dual_21 : decode cX10_dual 21 = .ok (.isub, 1) := by decide +kernel
theorem dX10_dual_22 : decode cX10_dual 22 = .ok (.invokestatic 97, 3) := by decide +kernel
theorem dX10_dual_25 : decode cX10_dual 25 = .ok (.ifCond .ne 7, 3) := by decide +kernel
theorem dX10_dual_28 : decode cX10_dual 28 = .ok (.iconst 1, 1) := by decide +kernel
theorem dX10_dual_29 : decode cX10_dual 29 = .ok (.goto 4, 3) := by decide +kernel
theorem dX10_dual_32 : decode cX10_dual 32 = .ok (.iconst 0, 1) := by decide +kernel
theorem dX10_dual_33 : decode cX10_dual 33 = .ok (.invokestatic 90, 3) := by decide +kernel
theorem dX10_dual_36 : decode cX10_dual 36 = .ok (.iload_n 3, 1) := by decide +kernel
theorem dX10_dual_37 : decode cX10_dual 37 = .ok (.ishl, 1) := by decide +kernel
theorem dX10_dual_38 : decode cX10_dual 38 = .ok (.ior, 1) := by decide +kernel
theorem dX10_dual_39 : decode cX10_dual 39 = .ok (.istore_n 2, 1) := by decide +kernel
theorem dX10_dual_40 : decode cX10_dual 40 = .ok (.iinc 3 1, 3) := by decide +kernel
theorem dX10_dual_43 : decode cX10_dual 43 = .ok (.goto (-39), 3) := by decide +kernel
theorem dX10_dual_46 : decode cX10_dual 46 = .ok (.iload_n 2, 1) := by decide +kernel
theorem dX10_dual_47 : decode cX10_dual 47 = .ok (.ireturn, 1) := by decide +kernel
theorem dX10_turned_0 : decode cX10_turned 0 = .ok (.iconst 0, 1) := by decide +kernel
theorem dX10_turned_1 : decode cX10_turned 1 = .ok (.istore_n 3, 1) := by decide +kernel
theorem dX10_turned_2 : decode cX10_turned 2 = .ok (.iconst 0, 1) := by decide +kernel
theorem dX10_turned_3 : decode cX10_turned 3 = .ok (.istore 4, 2) := by decide +kernel
theorem dX10_turned_5 : decode cX10_turned 5 = .ok (.iload 4, 2) := by decide +kernel
theorem dX10_turned_7 : decode cX10_turned 7 = .ok (.aload_n 0, 1) := by decide +kernel
theorem dX10_turned_8 : decode cX10_turned 8 = .ok (.invokevirtual 56, 3) := by decide +kernel
theorem dX10_turned_11 : decode cX10_turned 11 = .ok (.if_icmp .ge 28, 3) := by decide +kernel
theorem dX10_turned_14 : decode cX10_turned 14 = .ok (.iload_n 3, 1) := by decide +kernel
theorem dX10_turned_15 : decode cX10_turned 15 = .ok (.iload_n 1, 1) := by decide +kernel
theorem dX10_turned_16 : decode cX10_turned 16 = .ok (.iload 4, 2) := by decide +kernel
theorem dX10_turned_18 : decode cX10_turned 18 = .ok (.iconst 1, 1) := by decide +kernel
theorem dX10_turned_19 : decode cX10_turned 19 = .ok (.iload_n 2, 1) := by decide +kernel
theorem dX10_turned_20 : decode cX10_turned 20 = .ok (.ishl, 1) := by decide +kernel
theorem dX10_turned_21 : decode cX10_turned 21 = .ok (.ixor, 1) := by decide +kernel
theorem dX10_turned_22 : decode cX10_turned 22 = .ok (.invokestatic 97, 3) := by decide +kernel
theorem dX10_turned_25 : decode cX10_turned 25 = .ok (.invokestatic 90, 3) := by decide +kernel
theorem dX10_turned_28 : decode cX10_turned 28 = .ok (.iload 4, 2) := by decide +kernel
theorem dX10_turned_30 : decode cX10_turned 30 = .ok (.ishl, 1) := by decide +kernel
theorem dX10_turned_31 : decode cX10_turned 31 = .ok (.ior, 1) := by decide +kernel
theorem dX10_turned_32 : decode cX10_turned 32 = .ok (.istore_n 3, 1) := by decide +kernel
theorem dX10_turned_33 : decode cX10_turned 33 = .ok (.iinc 4 1, 3) := by decide +kernel
theorem dX10_turned_36 : decode cX10_turned 36 = .ok (.goto (-31), 3) := by decide +kernel
theorem dX10_turned_39 : decode cX10_turned 39 = .ok (.iload_n 3, 1) := by decide +kernel
theorem dX10_turned_40 : decode cX10_turned 40 = .ok (.ireturn, 1) := by decide +kernel
theorem dX10_changed_0 : decode cX10_changed 0 = .ok (.iconst 0, 1) := by decide +kernel
theorem dX10_changed_1 : decode cX10_changed 1 = .ok (.istore 4, 2) := by decide +kernel
theorem dX10_changed_3 : decode cX10_changed 3 = .ok (.iconst 0, 1) := by decide +kernel
theorem dX10_changed_4 : decode cX10_changed 4 = .ok (.istore 5, 2) := by decide +kernel
theorem dX10_changed_6 : decode cX10_changed 6 = .ok (.iload 5, 2) := by decide +kernel
theorem dX10_changed_8 : decode cX10_changed 8 = .ok (.aload_n 0, 1) := by decide +kernel
theorem dX10_changed_9 : decode cX10_changed 9 = .ok (.invokevirtual 56, 3) := by decide +kernel
theorem dX10_changed_12 : decode cX10_changed 12 = .ok (.if_icmp .ge 49, 3) := by decide +kernel
theorem dX10_changed_15 : decode cX10_changed 15 = .ok (.iload 5, 2) := by decide +kernel
theorem dX10_changed_17 : decode cX10_changed 17 = .ok (.iload_n 2, 1) := by decide +kernel
theorem dX10_changed_18 : decode cX10_changed 18 = .ok (.ishr, 1) := by decide +kernel
theorem dX10_changed_19 : decode cX10_changed 19 = .ok (.iload 5, 2) := by decide +kernel
theorem dX10_changed_21 : decode cX10_changed 21 = .ok (.iload_n 3, 1) := by decide +kernel
theorem dX10_changed_22 : decode cX10_changed 22 = .ok (.ishr, 1) := by decide +kernel
theorem dX10_changed_23 : decode cX10_changed 23 = .ok (.ixor, 1) := by decide +kernel
theorem dX10_changed_24 : decode cX10_changed 24 = .ok (.iconst 1, 1) := by decide +kernel
theorem dX10_changed_25 : decode cX10_changed 25 = .ok (.iand, 1) := by decide +kernel
theorem dX10_changed_26 : decode cX10_changed 26 = .ok (.istore 6, 2) := by decide +kernel
theorem dX10_changed_28 : decode cX10_changed 28 = .ok (.iload 4, 2) := by decide +kernel
theorem dX10_changed_30 : decode cX10_changed 30 = .ok (.iload_n 1, 1) := by decide +kernel
theorem dX10_changed_31 : decode cX10_changed 31 = .ok (.iload 5, 2) := by decide +kernel
theorem dX10_changed_33 : decode cX10_changed 33 = .ok (.iload 6, 2) := by decide +kernel
theorem dX10_changed_35 : decode cX10_changed 35 = .ok (.iload_n 2, 1) := by decide +kernel
theorem dX10_changed_36 : decode cX10_changed 36 = .ok (.ishl, 1) := by decide +kernel
theorem dX10_changed_37 : decode cX10_changed 37 = .ok (.iload 6, 2) := by decide +kernel
theorem dX10_changed_39 : decode cX10_changed 39 = .ok (.iload_n 3, 1) := by decide +kernel
theorem dX10_changed_40 : decode cX10_changed 40 = .ok (.ishl, 1) := by decide +kernel
theorem dX10_changed_41 : decode cX10_changed 41 = .ok (.ior, 1) := by decide +kernel
theorem dX10_changed_42 : decode cX10_changed 42 = .ok (.ixor, 1) := by decide +kernel
theorem dX10_changed_43 : decode cX10_changed 43 = .ok (.invokestatic 97, 3) := by decide +kernel
theorem dX10_changed_46 : decode cX10_changed 46 = .ok (.invokestatic 90, 3) := by decide +kernel
theorem dX10_changed_49 : decode cX10_changed 49 = .ok (.iload 5, 2) := by decide +kernel
theorem dX10_changed_51 : decode cX10_changed 51 = .ok (.ishl, 1) := by decide +kernel
theorem dX10_changed_52 : decode cX10_changed 52 = .ok (.ior, 1) := by decide +kernel
theorem dX10_changed_53 : decode cX10_changed 53 = .ok (.istore 4, 2) := by decide +kernel
theorem dX10_changed_55 : decode cX10_changed 55 = .ok (.iinc 5 1, 3) := by decide +kernel
theorem dX10_changed_58 : decode cX10_changed 58 = .ok (.goto (-52), 3) := by decide +kernel
theorem dX10_changed_61 : decode cX10_changed 61 = .ok (.iload 4, 2) := by decide +kernel
theorem dX10_changed_63 : decode cX10_changed 63 = .ok (.ireturn, 1) := by decide +kernel
theorem dX10_becomes_0 : decode cX10_becomes 0 = .ok (.iload_n 1, 1) := by decide +kernel
theorem dX10_becomes_1 : decode cX10_becomes 1 = .ok (.i2l, 1) := by decide +kernel
theorem dX10_becomes_2 : decode cX10_becomes 2 = .ok (.lconst 0, 1) := by decide +kernel
theorem dX10_becomes_3 : decode cX10_becomes 3 = .ok (.ldc2_w 64, 3) := by decide +kernel
theorem dX10_becomes_6 : decode cX10_becomes 6 = .ok (.invokestatic 60, 3) := by decide +kernel
theorem dX10_becomes_9 : decode cX10_becomes 9 = .ok (.ifCond .ne 5, 3) := by decide +kernel
theorem dX10_becomes_12 : decode cX10_becomes 12 = .ok (.iconst (-1), 1) := by decide +kernel
theorem dX10_becomes_13 : decode cX10_becomes 13 = .ok (.ireturn, 1) := by decide +kernel
theorem dX10_becomes_14 : decode cX10_becomes 14 = .ok (.iload_n 1, 1) := by decide +kernel
theorem dX10_becomes_15 : decode cX10_becomes 15 = .ok (.iconst 2, 1) := by decide +kernel
theorem dX10_becomes_16 : decode cX10_becomes 16 = .ok (.if_icmp .ne 77, 3) := by decide +kernel
theorem dX10_becomes_19 : decode cX10_becomes 19 = .ok (.aload_n 0, 1) := by decide +kernel
theorem dX10_becomes_20 : decode cX10_becomes 20 = .ok (.aload_n 0, 1) := by decide +kernel
theorem dX10_becomes_21 : decode cX10_becomes 21 = .ok (.getfield 11, 3) := by decide +kernel
theorem dX10_becomes_24 : decode cX10_becomes 24 = .ok (.iconst 1, 1) := by decide +kernel
theorem dX10_becomes_25 : decode cX10_becomes 25 = .ok (.iaload, 1) := by decide +kernel
theorem dX10_becomes_26 : decode cX10_becomes 26 = .ok (.invokevirtual 101, 3) := by decide +kernel
theorem dX10_becomes_29 : decode cX10_becomes 29 = .ok (.ifCond .ne 6, 3) := by decide +kernel
theorem dX10_becomes_32 : decode cX10_becomes 32 = .ok (.bipush (-3), 2) := by decide +kernel
theorem dX10_becomes_34 : decode cX10_becomes 34 = .ok (.ireturn, 1) := by decide +kernel
theorem dX10_becomes_35 : decode cX10_becomes 35 = .ok (.iconst 0, 1) := by decide +kernel
theorem dX10_becomes_36 : decode cX10_becomes 36 = .ok (.istore_n 2, 1) := by decide +kernel
theorem dX10_becomes_37 : decode cX10_becomes 37 = .ok (.iload_n 2, 1) := by decide +kernel
theorem dX10_becomes_38 : decode cX10_becomes 38 = .ok (.aload_n 0, 1) := by decide +kernel
theorem dX10_becomes_39 : decode cX10_becomes 39 = .ok (.getfield 11, 3) := by decide +kernel
theorem dX10_becomes_42 : decode cX10_becomes 42 = .ok (.iconst 0, 1) := by decide +kernel
theorem dX10_becomes_43 : decode cX10_becomes 43 = .ok (.iaload, 1) := by decide +kernel
theorem dX10_becomes_44 : decode cX10_becomes 44 = .ok (.if_icmp .ge 23, 3) := by decide +kernel
theorem dX10_becomes_47 : decode cX10_becomes 47 = .ok (.aload_n 0, 1) := by decide +kernel
theorem dX10_becomes_48 : decode cX10_becomes 48 = .ok (.getfield 11, 3) := by decide +kernel
theorem dX10_becomes_51 : decode cX10_becomes 51 = .ok (.iconst 4, 1) := by decide +kernel
theorem dX10_becomes_52 : decode cX10_becomes 52 = .ok (.iload_n 2, 1) := by decide +kernel
theorem dX10_becomes_53 : decode cX10_becomes 53 = .ok (.iadd, 1) := by decide +kernel
theorem dX10_becomes_54 : decode cX10_becomes 54 = .ok (.aload_n 0, 1) := by decide +kernel
theorem dX10_becomes_55 : decode cX10_becomes 55 = .ok (.getfield 21, 3) := by decide +kernel
theorem dX10_becomes_58 : decode cX10_becomes 58 = .ok (.iload_n 2, 1) := by decide +kernel
theorem dX10_becomes_59 : decode cX10_becomes 59 = .ok (.iaload, 1) := by decide +kernel
theorem dX10_becomes_60 : decode cX10_becomes 60 = .ok (.iastore, 1) := by decide +kernel
theorem dX10_becomes_61 : decode cX10_becomes 61 = .ok (.iinc 2 1, 3) := by decide +kernel
theorem dX10_becomes_64 : decode cX10_becomes 64 = .ok (.goto (-27), 3) := by decide +kernel
theorem dX10_becomes_67 : decode cX10_becomes 67 = .ok (.aload_n 0, 1) := by decide +kernel
theorem dX10_becomes_68 : decode cX10_becomes 68 = .ok (.getfield 11, 3) := by decide +kernel
theorem dX10_becomes_71 : decode cX10_becomes 71 = .ok (.iconst 3, 1) := by decide +kernel
theorem dX10_becomes_72 : decode cX10_becomes 72 = .ok (.aload_n 0, 1) := by decide +kernel
theorem dX10_becomes_73 : decode cX10_becomes 73 = .ok (.aload_n 0, 1) := by decide +kernel
theorem dX10_becomes_74 : decode cX10_becomes 74 = .ok (.getfield 11, 3) := by decide +kernel
theorem dX10_becomes_77 : decode cX10_becomes 77 = .ok (.iconst 1, 1) := by decide +kernel
theorem dX10_becomes_78 : decode cX10_becomes 78 = .ok (.iaload, 1) := by decide +kernel
theorem dX10_becomes_79 : decode cX10_becomes 79 = .ok (.invokevirtual 104, 3) := by decide +kernel
theorem dX10_becomes_82 : decode cX10_becomes 82 = .ok (.iastore, 1) := by decide +kernel
theorem dX10_becomes_83 : decode cX10_becomes 83 = .ok (.aload_n 0, 1) := by decide +kernel
theorem dX10_becomes_84 : decode cX10_becomes 84 = .ok (.getfield 11, 3) := by decide +kernel
theorem dX10_becomes_87 : decode cX10_becomes 87 = .ok (.iconst 3, 1) := by decide +kernel
theorem dX10_becomes_88 : decode cX10_becomes 88 = .ok (.iaload, 1) := by decide +kernel
theorem dX10_becomes_89 : decode cX10_becomes 89 = .ok (.bipush 100, 2) := by decide +kernel
theorem dX10_becomes_91 : decode cX10_becomes 91 = .ok (.iadd, 1) := by decide +kernel
theorem dX10_becomes_92 : decode cX10_becomes 92 = .ok (.ireturn, 1) := by decide +kernel
theorem dX10_becomes_93 : decode cX10_becomes 93 = .ok (.aload_n 0, 1) := by decide +kernel
theorem dX10_becomes_94 : decode cX10_becomes 94 = .ok (.getfield 11, 3) := by decide +kernel
theorem dX10_becomes_97 : decode cX10_becomes 97 = .ok (.iconst 1, 1) := by decide +kernel
theorem dX10_becomes_98 : decode cX10_becomes 98 = .ok (.iload_n 1, 1) := by decide +kernel
theorem dX10_becomes_99 : decode cX10_becomes 99 = .ok (.ifCond .ne 16, 3) := by decide +kernel
theorem dX10_becomes_102 : decode cX10_becomes 102 = .ok (.aload_n 0, 1) := by decide +kernel
theorem dX10_becomes_103 : decode cX10_becomes 103 = .ok (.aload_n 0, 1) := by decide +kernel
theorem dX10_becomes_104 : decode cX10_becomes 104 = .ok (.getfield 11, 3) := by decide +kernel
theorem dX10_becomes_107 : decode cX10_becomes 107 = .ok (.iconst 1, 1) := by decide +kernel
theorem dX10_becomes_108 : decode cX10_becomes 108 = .ok (.iaload, 1) := by decide +kernel
theorem dX10_becomes_109 : decode cX10_becomes 109 = .ok (.invokevirtual 107, 3) := by decide +kernel
theorem dX10_becomes_112 : decode cX10_becomes 112 = .ok (.goto 16, 3) := by decide +kernel
theorem dX10_becomes_115 : decode cX10_becomes 115 = .ok (.aload_n 0, 1) := by decide +kernel
theorem dX10_becomes_116 : decode cX10_becomes 116 = .ok (.invokevirtual 72, 3) := by decide +kernel
theorem dX10_becomes_119 : decode cX10_becomes 119 = .ok (.aload_n 0, 1) := by decide +kernel
theorem dX10_becomes_120 : decode cX10_becomes 120 = .ok (.getfield 11, 3) := by decide +kernel
theorem dX10_becomes_123 : decode cX10_becomes 123 = .ok (.iconst 1, 1) := by decide +kernel
theorem dX10_becomes_124 : decode cX10_becomes 124 = .ok (.iaload, 1) := by decide +kernel
theorem dX10_becomes_125 : decode cX10_becomes 125 = .ok (.iconst (-1), 1) := by decide +kernel
theorem dX10_becomes_126 : decode cX10_becomes 126 = .ok (.ixor, 1) := by decide +kernel
theorem dX10_becomes_127 : decode cX10_becomes 127 = .ok (.iand, 1) := by decide +kernel
theorem dX10_becomes_128 : decode cX10_becomes 128 = .ok (.iastore, 1) := by decide +kernel
theorem dX10_becomes_129 : decode cX10_becomes 129 = .ok (.aload_n 0, 1) := by decide +kernel
theorem dX10_becomes_130 : decode cX10_becomes 130 = .ok (.getfield 11, 3) := by decide +kernel
theorem dX10_becomes_133 : decode cX10_becomes 133 = .ok (.iconst 1, 1) := by decide +kernel
theorem dX10_becomes_134 : decode cX10_becomes 134 = .ok (.iaload, 1) := by decide +kernel
theorem dX10_becomes_135 : decode cX10_becomes 135 = .ok (.ireturn, 1) := by decide +kernel
theorem dX10_turn_0 : decode cX10_turn 0 = .ok (.aload_n 0, 1) := by decide +kernel
theorem dX10_turn_1 : decode cX10_turn 1 = .ok (.iload_n 1, 1) := by decide +kernel
theorem dX10_turn_2 : decode cX10_turn 2 = .ok (.invokevirtual 75, 3) := by decide +kernel
theorem dX10_turn_5 : decode cX10_turn 5 = .ok (.ifCond .ne 5, 3) := by decide +kernel
theorem dX10_turn_8 : decode cX10_turn 8 = .ok (.iconst (-1), 1) := by decide +kernel
theorem dX10_turn_9 : decode cX10_turn 9 = .ok (.ireturn, 1) := by decide +kernel
theorem dX10_turn_10 : decode cX10_turn 10 = .ok (.aload_n 0, 1) := by decide +kernel
theorem dX10_turn_11 : decode cX10_turn 11 = .ok (.getfield 11, 3) := by decide +kernel
theorem dX10_turn_14 : decode cX10_turn 14 = .ok (.iconst 1, 1) := by decide +kernel
theorem dX10_turn_15 : decode cX10_turn 15 = .ok (.aload_n 0, 1) := by decide +kernel
theorem dX10_turn_16 : decode cX10_turn 16 = .ok (.aload_n 0, 1) := by decide +kernel
theorem dX10_turn_17 : decode cX10_turn 17 = .ok (.getfield 11, 3) := by decide +kernel
theorem dX10_turn_20 : decode cX10_turn 20 = .ok (.iconst 1, 1) := by decide +kernel
theorem dX10_turn_21 : decode cX10_turn 21 = .ok (.iaload, 1) := by decide +kernel
theorem dX10_turn_22 : decode cX10_turn 22 = .ok (.iload_n 1, 1) := by decide +kernel
theorem dX10_turn_23 : decode cX10_turn 23 = .ok (.invokevirtual 110, 3) := by decide +kernel
theorem dX10_turn_26 : decode cX10_turn 26 = .ok (.iastore, 1) := by decide +kernel
theorem dX10_turn_27 : decode cX10_turn 27 = .ok (.aload_n 0, 1) := by decide +kernel
theorem dX10_turn_28 : decode cX10_turn 28 = .ok (.getfield 11, 3) := by decide +kernel
theorem dX10_turn_31 : decode cX10_turn 31 = .ok (.iconst 1, 1) := by decide +kernel
theorem dX10_turn_32 : decode cX10_turn 32 = .ok (.iaload, 1) := by decide +kernel
theorem dX10_turn_33 : decode cX10_turn 33 = .ok (.ireturn, 1) := by decide +kernel
theorem dX10_exchange_0 : decode cX10_exchange 0 = .ok (.aload_n 0, 1) := by decide +kernel
theorem dX10_exchange_1 : decode cX10_exchange 1 = .ok (.iload_n 1, 1) := by decide +kernel
theorem dX10_exchange_2 : decode cX10_exchange 2 = .ok (.invokevirtual 75, 3) := by decide +kernel
theorem dX10_exchange_5 : decode cX10_exchange 5 = .ok (.ifCond .eq 16, 3) := by decide +kernel
theorem dX10_exchange_8 : decode cX10_exchange 8 = .ok (.aload_n 0, 1) := by decide +kernel
theorem dX10_exchange_9 : decode cX10_exchange 9 = .ok (.iload_n 2, 1) := by decide +kernel
theorem dX10_exchange_10 : decode cX10_exchange 10 = .ok (.invokevirtual 75, 3) := by decide +kernel
theorem dX10_exchange_13 : decode cX10_exchange 13 = .ok (.ifCond .eq 8, 3) := by decide +kernel
theorem dX10_exchange_16 : decode cX10_exchange 16 = .ok (.iload_n 1, 1) := by decide +kernel
theorem dX10_exchange_17 : decode cX10_exchange 17 = .ok (.iload_n 2, 1) := by decide +kernel
theorem dX10_exchange_18 : decode cX10_exchange 18 = .ok (.if_icmp .ne 5, 3) := by decide +kernel
theorem dX10_exchange_21 : decode cX10_exchange 21 = .ok (.iconst (-1), 1) := by decide +kernel
theorem dX10_exchange_22 : decode cX10_exchange 22 = .ok (.ireturn, 1) := by decide +kernel
theorem dX10_exchange_23 : decode cX10_exchange 23 = .ok (.aload_n 0, 1) := by decide +kernel
theorem dX10_exchange_24 : decode cX10_exchange 24 = .ok (.getfield 11, 3) := by decide +kernel
theorem dX10_exchange_27 : decode cX10_exchange 27 = .ok (.iconst 1, 1) := by decide +kernel
theorem dX10_exchange_28 : decode cX10_exchange 28 = .ok (.aload_n 0, 1) := by decide +kernel
theorem dX10_exchange_29 : decode cX10_exchange 29 = .ok (.aload_n 0, 1) := by decide +kernel
theorem dX10_exchange_30 : decode cX10_exchange 30 = .ok (.getfield 11, 3) := by decide +kernel
theorem dX10_exchange_33 : decode cX10_exchange 33 = .ok (.iconst 1, 1) := by decide +kernel
theorem dX10_exchange_34 : decode cX10_exchange 34 = .ok (.iaload, 1) := by decide +kernel
theorem dX10_exchange_35 : decode cX10_exchange 35 = .ok (.iload_n 1, 1) := by decide +kernel
theorem dX10_exchange_36 : decode cX10_exchange 36 = .ok (.iload_n 2, 1) := by decide +kernel
theorem dX10_exchange_37 : decode cX10_exchange 37 = .ok (.invokevirtual 114, 3) := by decide +kernel
theorem dX10_exchange_40 : decode cX10_exchange 40 = .ok (.iastore, 1) := by decide +kernel
theorem dX10_exchange_41 : decode cX10_exchange 41 = .ok (.aload_n 0, 1) := by decide +kernel
theorem dX10_exchange_42 : decode cX10_exchange 42 = .ok (.getfield 11, 3) := by decide +kernel
theorem dX10_exchange_45 : decode cX10_exchange 45 = .ok (.iconst 1, 1) := by decide +kernel
theorem dX10_exchange_46 : decode cX10_exchange 46 = .ok (.iaload, 1) := by decide +kernel
theorem dX10_exchange_47 : decode cX10_exchange 47 = .ok (.ireturn, 1) := by decide +kernel
theorem dX10_keep_0 : decode cX10_keep 0 = .ok (.aload_n 0, 1) := by decide +kernel
theorem dX10_keep_1 : decode cX10_keep 1 = .ok (.getfield 11, 3) := by decide +kernel
theorem dX10_keep_4 : decode cX10_keep 4 = .ok (.iconst 2, 1) := by decide +kernel
theorem dX10_keep_5 : decode cX10_keep 5 = .ok (.aload_n 0, 1) := by decide +kernel
theorem dX10_keep_6 : decode cX10_keep 6 = .ok (.getfield 11, 3) := by decide +kernel
theorem dX10_keep_9 : decode cX10_keep 9 = .ok (.iconst 1, 1) := by decide +kernel
theorem dX10_keep_10 : decode cX10_keep 10 = .ok (.iaload, 1) := by decide +kernel
theorem dX10_keep_11 : decode cX10_keep 11 = .ok (.iastore, 1) := by decide +kernel
theorem dX10_keep_12 : decode cX10_keep 12 = .ok (.aload_n 0, 1) := by decide +kernel
theorem dX10_keep_13 : decode cX10_keep 13 = .ok (.getfield 11, 3) := by decide +kernel
theorem dX10_keep_16 : decode cX10_keep 16 = .ok (.iconst 1, 1) := by decide +kernel
theorem dX10_keep_17 : decode cX10_keep 17 = .ok (.iaload, 1) := by decide +kernel
theorem dX10_keep_18 : decode cX10_keep 18 = .ok (.ireturn, 1) := by decide +kernel
theorem dX10_worthBy_0 : decode cX10_worthBy 0 = .ok (.iconst 0, 1) := by decide +kernel
theorem dX10_worthBy_1 : decode cX10_worthBy 1 = .ok (.istore_n 3, 1) := by decide +kernel
theorem dX10_worthBy_2 : decode cX10_worthBy 2 = .ok (.iconst 0, 1) := by decide +kernel
theorem dX10_worthBy_3 : decode cX10_worthBy 3 = .ok (.istore 4, 2) := by decide +kernel
theorem dX10_worthBy_5 : decode cX10_worthBy 5 = .ok (.iload 4, 2) := by decide +kernel
theorem dX10_worthBy_7 : decode cX10_worthBy 7 = .ok (.aload_n 0, 1) := by decide +kernel
theorem dX10_worthBy_8 : decode cX10_worthBy 8 = .ok (.getfield 11, 3) := by decide +kernel
theorem dX10_worthBy_11 : decode cX10_worthBy 11 = .ok (.iconst 0, 1) := by decide +kernel
theorem dX10_worthBy_12 : decode cX10_worthBy 12 = .ok (.iaload, 1) := by decide +kernel
theorem dX10_worthBy_13 : decode cX10_worthBy 13 = .ok (.if_icmp .ge 23, 3) := by decide +kernel
theorem dX10_worthBy_16 : decode cX10_worthBy 16 = .ok (.iload_n 3, 1) := by decide +kernel
theorem dX10_worthBy_17 : decode cX10_worthBy 17 = .ok (.iload_n 2, 1) := by decide +kernel
theorem dX10_worthBy_18 : decode cX10_worthBy 18 = .ok (.iload 4, 2) := by decide +kernel
theorem dX10_worthBy_20 : decode cX10_worthBy 20 = .ok (.ishr, 1) := by decide +kernel
theorem dX10_worthBy_21 : decode cX10_worthBy 21 = .ok (.iconst 1, 1) := by decide +kernel
theorem dX10_worthBy_22 : decode cX10_worthBy 22 = .ok (.iand, 1) := by decide +kernel
theorem dX10_worthBy_23 : decode cX10_worthBy 23 = .ok (.aload_n 1, 1) := by decide +kernel
theorem dX10_worthBy_24 : decode cX10_worthBy 24 = .ok (.iload 4, 2) := by decide +kernel
theorem dX10_worthBy_26 : decode cX10_worthBy 26 = .ok (.iaload, 1) := by decide +kernel
theorem dX10_worthBy_27 : decode cX10_worthBy 27 = .ok (.imul, 1) := by decide +kernel
theorem dX10_worthBy_28 : decode cX10_worthBy 28 = .ok (.iadd, 1) := by decide +kernel
theorem dX10_worthBy_29 : decode cX10_worthBy 29 = .ok (.istore_n 3, 1) := by decide +kernel
theorem dX10_worthBy_30 : decode cX10_worthBy 30 = .ok (.iinc 4 1, 3) := by decide +kernel
theorem dX10_worthBy_33 : decode cX10_worthBy 33 = .ok (.goto (-28), 3) := by decide +kernel
theorem dX10_worthBy_36 : decode cX10_worthBy 36 = .ok (.iload_n 3, 1) := by decide +kernel
theorem dX10_worthBy_37 : decode cX10_worthBy 37 = .ok (.ireturn, 1) := by decide +kernel
theorem dX10_tells_0 : decode cX10_tells 0 = .ok (.bipush 99, 2) := by decide +kernel
theorem dX10_tells_2 : decode cX10_tells 2 = .ok (.istore_n 2, 1) := by decide +kernel
theorem dX10_tells_3 : decode cX10_tells 3 = .ok (.bipush (-99), 2) := by decide +kernel
theorem dX10_tells_5 : decode cX10_tells 5 = .ok (.istore_n 3, 1) := by decide +kernel
theorem dX10_tells_6 : decode cX10_tells 6 = .ok (.iconst 0, 1) := by decide +kernel
theorem dX10_tells_7 : decode cX10_tells 7 = .ok (.istore 4, 2) := by decide +kernel
theorem dX10_tells_9 : decode cX10_tells 9 = .ok (.iload 4, 2) := by decide +kernel
theorem dX10_tells_11 : decode cX10_tells 11 = .ok (.aload_n 0, 1) := by decide +kernel
theorem dX10_tells_12 : decode cX10_tells 12 = .ok (.invokevirtual 56, 3) := by decide +kernel
theorem dX10_tells_15 : decode cX10_tells 15 = .ok (.if_icmp .ge 65, 3) := by decide +kernel
theorem dX10_tells_18 : decode cX10_tells 18 = .ok (.aload_n 0, 1) := by decide +kernel
theorem dX10_tells_19 : decode cX10_tells 19 = .ok (.aload_n 0, 1) := by decide +kernel
theorem dX10_tells_20 : decode cX10_tells 20 = .ok (.getfield 18, 3) := by decide +kernel
theorem dX10_tells_23 : decode cX10_tells 23 = .ok (.iload 4, 2) := by decide +kernel
theorem dX10_tells_25 : decode cX10_tells 25 = .ok (.invokevirtual 118, 3) := by decide +kernel
theorem dX10_tells_28 : decode cX10_tells 28 = .ok (.istore 5, 2) := by decide +kernel
theorem dX10_tells_30 : decode cX10_tells 30 = .ok (.iload_n 1, 1) := by decide +kernel
theorem dX10_tells_31 : decode cX10_tells 31 = .ok (.iload 4, 2) := by decide +kernel
theorem dX10_tells_33 : decode cX10_tells 33 = .ok (.invokestatic 97, 3) := by decide +kernel
theorem dX10_tells_36 : decode cX10_tells 36 = .ok (.ifCond .eq 14, 3) := by decide +kernel
theorem dX10_tells_39 : decode cX10_tells 39 = .ok (.iload 5, 2) := by decide +kernel
theorem dX10_tells_41 : decode cX10_tells 41 = .ok (.iload_n 2, 1) := by decide +kernel
theorem dX10_tells_42 : decode cX10_tells 42 = .ok (.if_icmp .ge 8, 3) := by decide +kernel
theorem dX10_tells_45 : decode cX10_tells 45 = .ok (.iload 5, 2) := by decide +kernel
theorem dX10_tells_47 : decode cX10_tells 47 = .ok (.goto 4, 3) := by decide +kernel
theorem dX10_tells_50 : decode cX10_tells 50 = .ok (.iload_n 2, 1) := by decide +kernel
theorem dX10_tells_51 : decode cX10_tells 51 = .ok (.istore_n 2, 1) := by decide +kernel
theorem dX10_tells_52 : decode cX10_tells 52 = .ok (.iload_n 1, 1) := by decide +kernel
theorem dX10_tells_53 : decode cX10_tells 53 = .ok (.iload 4, 2) := by decide +kernel
theorem dX10_tells_55 : decode cX10_tells 55 = .ok (.invokestatic 97, 3) := by decide +kernel
theorem dX10_tells_58 : decode cX10_tells 58 = .ok (.ifCond .ne 14, 3) := by decide +kernel
theorem dX10_tells_61 : decode cX10_tells 61 = .ok (.iload 5, 2) := by decide +kernel
theorem dX10_tells_63 : decode cX10_tells 63 = .ok (.iload_n 3, 1) := by decide +kernel
theorem dX10_tells_64 : decode cX10_tells 64 = .ok (.if_icmp .le 8, 3) := by decide +kernel
theorem dX10_tells_67 : decode cX10_tells 67 = .ok (.iload 5, 2) := by decide +kernel
theorem dX10_tells_69 : decode cX10_tells 69 = .ok (.goto 4, 3) := by decide +kernel
theorem dX10_tells_72 : decode cX10_tells 72 = .ok (.iload_n 3, 1) := by decide +kernel
theorem dX10_tells_73 : decode cX10_tells 73 = .ok (.istore_n 3, 1) := by decide +kernel
theorem dX10_tells_74 : decode cX10_tells 74 = .ok (.iinc 4 1, 3) := by decide +kernel
theorem dX10_tells_77 : decode cX10_tells 77 = .ok (.goto (-68), 3) := by decide +kernel
theorem dX10_tells_80 : decode cX10_tells 80 = .ok (.iload_n 2, 1) := by decide +kernel
theorem dX10_tells_81 : decode cX10_tells 81 = .ok (.iload_n 3, 1) := by decide +kernel
theorem dX10_tells_82 : decode cX10_tells 82 = .ok (.if_icmp .le 7, 3) := by decide +kernel
theorem dX10_tells_85 : decode cX10_tells 85 = .ok (.iconst 1, 1) := by decide +kernel
theorem dX10_tells_86 : decode cX10_tells 86 = .ok (.goto 4, 3) := by decide +kernel
theorem dX10_tells_89 : decode cX10_tells 89 = .ok (.iconst 0, 1) := by decide +kernel
theorem dX10_tells_90 : decode cX10_tells 90 = .ok (.ireturn, 1) := by decide +kernel
theorem dX10_tries_0 : decode cX10_tries 0 = .ok (.iload_n 2, 1) := by decide +kernel
theorem dX10_tries_1 : decode cX10_tries 1 = .ok (.aload_n 0, 1) := by decide +kernel
theorem dX10_tries_2 : decode cX10_tries 2 = .ok (.getfield 11, 3) := by decide +kernel
theorem dX10_tries_5 : decode cX10_tries 5 = .ok (.iconst 0, 1) := by decide +kernel
theorem dX10_tries_6 : decode cX10_tries 6 = .ok (.iaload, 1) := by decide +kernel
theorem dX10_tries_7 : decode cX10_tries 7 = .ok (.if_icmp .ne 66, 3) := by decide +kernel
theorem dX10_tries_10 : decode cX10_tries 10 = .ok (.aload_n 0, 1) := by decide +kernel
theorem dX10_tries_11 : decode cX10_tries 11 = .ok (.getfield 122, 3) := by decide +kernel
theorem dX10_tries_14 : decode cX10_tries 14 = .ok (.ifCond .lt 11, 3) := by decide +kernel
theorem dX10_tries_17 : decode cX10_tries 17 = .ok (.iload_n 3, 1) := by decide +kernel
theorem dX10_tries_18 : decode cX10_tries 18 = .ok (.aload_n 0, 1) := by decide +kernel
theorem dX10_tries_19 : decode cX10_tries 19 = .ok (.getfield 122, 3) := by decide +kernel
theorem dX10_tries_22 : decode cX10_tries 22 = .ok (.if_icmp .ge 50, 3) := by decide +kernel
theorem dX10_tries_25 : decode cX10_tries 25 = .ok (.aload_n 0, 1) := by decide +kernel
theorem dX10_tries_26 : decode cX10_tries 26 = .ok (.iload_n 1, 1) := by decide +kernel
theorem dX10_tries_27 : decode cX10_tries 27 = .ok (.invokevirtual 126, 3) := by decide +kernel
theorem dX10_tries_30 : decode cX10_tries 30 = .ok (.ifCond .eq 42, 3) := by decide +kernel
theorem dX10_tries_33 : decode cX10_tries 33 = .ok (.aload_n 0, 1) := by decide +kernel
theorem dX10_tries_34 : decode cX10_tries 34 = .ok (.iload_n 3, 1) := by decide +kernel
theorem dX10_tries_35 : decode cX10_tries 35 = .ok (.putfield 122, 3) := by decide +kernel
theorem dX10_tries_38 : decode cX10_tries 38 = .ok (.iconst 0, 1) := by decide +kernel
theorem dX10_tries_39 : decode cX10_tries 39 = .ok (.istore 4, 2) := by decide +kernel
theorem dX10_tries_41 : decode cX10_tries 41 = .ok (.iload 4, 2) := by decide +kernel
theorem dX10_tries_43 : decode cX10_tries 43 = .ok (.aload_n 0, 1) := by decide +kernel
theorem dX10_tries_44 : decode cX10_tries 44 = .ok (.getfield 11, 3) := by decide +kernel
theorem dX10_tries_47 : decode cX10_tries 47 = .ok (.iconst 0, 1) := by decide +kernel
theorem dX10_tries_48 : decode cX10_tries 48 = .ok (.iaload, 1) := by decide +kernel
theorem dX10_tries_49 : decode cX10_tries 49 = .ok (.if_icmp .ge 23, 3) := by decide +kernel
theorem dX10_tries_52 : decode cX10_tries 52 = .ok (.aload_n 0, 1) := by decide +kernel
theorem dX10_tries_53 : decode cX10_tries 53 = .ok (.getfield 21, 3) := by decide +kernel
theorem dX10_tries_56 : decode cX10_tries 56 = .ok (.iload 4, 2) := by decide +kernel
theorem dX10_tries_58 : decode cX10_tries 58 = .ok (.aload_n 0, 1) := by decide +kernel
theorem dX10_tries_59 : decode cX10_tries 59 = .ok (.getfield 18, 3) := by decide +kernel
theorem dX10_tries_62 : decode cX10_tries 62 = .ok (.iload 4, 2) := by decide +kernel
theorem dX10_tries_64 : decode cX10_tries 64 = .ok (.iaload, 1) := by decide +kernel
theorem dX10_tries_65 : decode cX10_tries 65 = .ok (.iastore, 1) := by decide +kernel
theorem dX10_tries_66 : decode cX10_tries 66 = .ok (.iinc 4 1, 3) := by decide +kernel
theorem dX10_tries_69 : decode cX10_tries 69 = .ok (.goto (-28), 3) := by decide +kernel
theorem dX10_tries_72 : decode cX10_tries 72 = .ok (.return_, 1) := by decide +kernel
theorem dX10_tries_73 : decode cX10_tries 73 = .ok (.bipush (-4), 2) := by decide +kernel
theorem dX10_tries_75 : decode cX10_tries 75 = .ok (.istore 4, 2) := by decide +kernel
theorem dX10_tries_77 : decode cX10_tries 77 = .ok (.iload 4, 2) := by decide +kernel
theorem dX10_tries_79 : decode cX10_tries 79 = .ok (.iconst 4, 1) := by decide +kernel
theorem dX10_tries_80 : decode cX10_tries 80 = .ok (.if_icmp .gt 40, 3) := by decide +kernel
theorem dX10_tries_83 : decode cX10_tries 83 = .ok (.aload_n 0, 1) := by decide +kernel
theorem dX10_tries_84 : decode cX10_tries 84 = .ok (.getfield 18, 3) := by decide +kernel
theorem dX10_tries_87 : decode cX10_tries 87 = .ok (.iload_n 2, 1) := by decide +kernel
theorem dX10_tries_88 : decode cX10_tries 88 = .ok (.iload 4, 2) := by decide +kernel
theorem dX10_tries_90 : decode cX10_tries 90 = .ok (.iastore, 1) := by decide +kernel
theorem dX10_tries_91 : decode cX10_tries 91 = .ok (.aload_n 0, 1) := by decide +kernel
theorem dX10_tries_92 : decode cX10_tries 92 = .ok (.iload_n 1, 1) := by decide +kernel
theorem dX10_tries_93 : decode cX10_tries 93 = .ok (.iload_n 2, 1) := by decide +kernel
theorem dX10_tries_94 : decode cX10_tries 94 = .ok (.iconst 1, 1) := by decide +kernel
theorem dX10_tries_95 : decode cX10_tries 95 = .ok (.iadd, 1) := by decide +kernel
theorem dX10_tries_96 : decode cX10_tries 96 = .ok (.iload_n 3, 1) := by decide +kernel
theorem dX10_tries_97 : decode cX10_tries 97 = .ok (.iload 4, 2) := by decide +kernel
theorem dX10_tries_99 : decode cX10_tries 99 = .ok (.ifCond .ge 9, 3) := by decide +kernel
theorem dX10_tries_102 : decode cX10_tries 102 = .ok (.iload 4, 2) := by decide +kernel
theorem dX10_tries_104 : decode cX10_tries 104 = .ok (.ineg, 1) := by decide +kernel
theorem dX10_tries_105 : decode cX10_tries 105 = .ok (.goto 5, 3) := by decide +kernel
theorem dX10_tries_108 : decode cX10_tries 108 = .ok (.iload 4, 2) := by decide +kernel
theorem dX10_tries_110 : decode cX10_tries 110 = .ok (.iadd, 1) := by decide +kernel
theorem dX10_tries_111 : decode cX10_tries 111 = .ok (.invokevirtual 129, 3) := by decide +kernel
theorem dX10_tries_114 : decode cX10_tries 114 = .ok (.iinc 4 1, 3) := by decide +kernel
theorem dX10_tries_117 : decode cX10_tries 117 = .ok (.goto (-40), 3) := by decide +kernel
theorem dX10_tries_120 : decode cX10_tries 120 = .ok (.return_, 1) := by decide +kernel
theorem dX10_isLinear_0 : decode cX10_isLinear 0 = .ok (.aload_n 0, 1) := by decide +kernel
theorem dX10_isLinear_1 : decode cX10_isLinear 1 = .ok (.iconst (-1), 1) := by decide +kernel
theorem dX10_isLinear_2 : decode cX10_isLinear 2 = .ok (.putfield 122, 3) := by decide +kernel
theorem dX10_isLinear_5 : decode cX10_isLinear 5 = .ok (.aload_n 0, 1) := by decide +kernel
theorem dX10_isLinear_6 : decode cX10_isLinear 6 = .ok (.iload_n 1, 1) := by decide +kernel
theorem dX10_isLinear_7 : decode cX10_isLinear 7 = .ok (.iconst 0, 1) := by decide +kernel
theorem dX10_isLinear_8 : decode cX10_isLinear 8 = .ok (.iconst 0, 1) := by decide +kernel
theorem dX10_isLinear_9 : decode cX10_isLinear 9 = .ok (.invokevirtual 129, 3) := by decide +kernel
theorem dX10_isLinear_12 : decode cX10_isLinear 12 = .ok (.aload_n 0, 1) := by decide +kernel
theorem dX10_isLinear_13 : decode cX10_isLinear 13 = .ok (.getfield 122, 3) := by decide +kernel
theorem dX10_isLinear_16 : decode cX10_isLinear 16 = .ok (.ifCond .lt 7, 3) := by decide +kernel
theorem dX10_isLinear_19 : decode cX10_isLinear 19 = .ok (.iconst 1, 1) := by decide +kernel
theorem dX10_isLinear_20 : decode cX10_isLinear 20 = .ok (.goto 4, 3) := by decide +kernel
theorem dX10_isLinear_23 : decode cX10_isLinear 23 = .ok (.iconst 0, 1) := by decide +kernel
theorem dX10_isLinear_24 : decode cX10_isLinear 24 = .ok (.ireturn, 1) := by decide +kernel
theorem dX10_leastQuota_0 : decode cX10_leastQuota 0 = .ok (.bipush 99, 2) := by decide +kernel
theorem dX10_leastQuota_2 : decode cX10_leastQuota 2 = .ok (.istore_n 2, 1) := by decide +kernel
theorem dX10_leastQuota_3 : decode cX10_leastQuota 3 = .ok (.bipush (-99), 2) := by decide +kernel
theorem dX10_leastQuota_5 : decode cX10_leastQuota 5 = .ok (.istore_n 3, 1) := by decide +kernel
theorem dX10_leastQuota_6 : decode cX10_leastQuota 6 = .ok (.iconst 0, 1) := by decide +kernel
theorem dX10_leastQuota_7 : decode cX10_leastQuota 7 = .ok (.istore 4, 2) := by decide +kernel
theorem dX10_leastQuota_9 : decode cX10_leastQuota 9 = .ok (.iload 4, 2) := by decide +kernel
theorem dX10_leastQuota_11 : decode cX10_leastQuota 11 = .ok (.aload_n 0, 1) := by decide +kernel
theorem dX10_leastQuota_12 : decode cX10_leastQuota 12 = .ok (.invokevirtual 56, 3) := by decide +kernel
theorem dX10_leastQuota_15 : decode cX10_leastQuota 15 = .ok (.if_icmp .ge 56, 3) := by decide +kernel
theorem dX10_leastQuota_18 : decode cX10_leastQuota 18 = .ok (.aload_n 0, 1) := by decide +kernel
theorem dX10_leastQuota_19 : decode cX10_leastQuota 19 = .ok (.aload_n 0, 1) := by decide +kernel
theorem dX10_leastQuota_20 : decode cX10_leastQuota 20 = .ok (.getfield 21, 3) := by decide +kernel
theorem dX10_leastQuota_23 : decode cX10_leastQuota 23 = .ok (.iload 4, 2) := by decide +kernel
theorem dX10_leastQuota_25 : decode cX10_leastQuota 25 = .ok (.invokevirtual 118, 3) := by decide +kernel
theorem dX10_leastQuota_28 : decode cX10_leastQuota 28 = .ok (.istore 5, 2) := by decide +kernel
theorem dX10_leastQuota_30 : decode cX10_leastQuota 30 = .ok (.iload_n 1, 1) := by decide +kernel
theorem dX10_leastQuota_31 : decode cX10_leastQuota 31 = .ok (.iload 4, 2) := by decide +kernel
theorem dX10_leastQuota_33 : decode cX10_leastQuota 33 = .ok (.invokestatic 97, 3) := by decide +kernel
theorem dX10_leastQuota_36 : decode cX10_leastQuota 36 = .ok (.ifCond .eq 14, 3) := by decide +kernel
theorem dX10_leastQuota_39 : decode cX10_leastQuota 39 = .ok (.iload 5, 2) := by decide +kernel
theorem dX10_leastQuota_41 : decode cX10_leastQuota 41 = .ok (.iload_n 2, 1) := by decide +kernel
theorem dX10_leastQuota_42 : decode cX10_leastQuota 42 = .ok (.if_icmp .ge 8, 3) := by decide +kernel
theorem dX10_leastQuota_45 : decode cX10_leastQuota 45 = .ok (.iload 5, 2) := by decide +kernel
theorem dX10_leastQuota_47 : decode cX10_leastQuota 47 = .ok (.goto 4, 3) := by decide +kernel
theorem dX10_leastQuota_50 : decode cX10_leastQuota 50 = .ok (.iload_n 2, 1) := by decide +kernel
theorem dX10_leastQuota_51 : decode cX10_leastQuota 51 = .ok (.istore_n 2, 1) := by decide +kernel
theorem dX10_leastQuota_52 : decode cX10_leastQuota 52 = .ok (.iload 5, 2) := by decide +kernel
theorem dX10_leastQuota_54 : decode cX10_leastQuota 54 = .ok (.iload_n 3, 1) := by decide +kernel
theorem dX10_leastQuota_55 : decode cX10_leastQuota 55 = .ok (.if_icmp .le 8, 3) := by decide +kernel
theorem dX10_leastQuota_58 : decode cX10_leastQuota 58 = .ok (.iload 5, 2) := by decide +kernel
theorem dX10_leastQuota_60 : decode cX10_leastQuota 60 = .ok (.goto 4, 3) := by decide +kernel
theorem dX10_leastQuota_63 : decode cX10_leastQuota 63 = .ok (.iload_n 3, 1) := by decide +kernel
theorem dX10_leastQuota_64 : decode cX10_leastQuota 64 = .ok (.istore_n 3, 1) := by decide +kernel
theorem dX10_leastQuota_65 : decode cX10_leastQuota 65 = .ok (.iinc 4 1, 3) := by decide +kernel
theorem dX10_leastQuota_68 : decode cX10_leastQuota 68 = .ok (.goto (-59), 3) := by decide +kernel
theorem dX10_leastQuota_71 : decode cX10_leastQuota 71 = .ok (.iload_n 1, 1) := by decide +kernel
theorem dX10_leastQuota_72 : decode cX10_leastQuota 72 = .ok (.ifCond .ne 9, 3) := by decide +kernel
theorem dX10_leastQuota_75 : decode cX10_leastQuota 75 = .ok (.iload_n 3, 1) := by decide +kernel
theorem dX10_leastQuota_76 : decode cX10_leastQuota 76 = .ok (.iconst 1, 1) := by decide +kernel
theorem dX10_leastQuota_77 : decode cX10_leastQuota 77 = .ok (.iadd, 1) := by decide +kernel
theorem dX10_leastQuota_78 : decode cX10_leastQuota 78 = .ok (.goto 4, 3) := by decide +kernel
theorem dX10_leastQuota_81 : decode cX10_leastQuota 81 = .ok (.iload_n 2, 1) := by decide +kernel
theorem dX10_leastQuota_82 : decode cX10_leastQuota 82 = .ok (.ireturn, 1) := by decide +kernel
theorem dX10_weightOf_0 : decode cX10_weightOf 0 = .ok (.aload_n 0, 1) := by decide +kernel
theorem dX10_weightOf_1 : decode cX10_weightOf 1 = .ok (.iload_n 1, 1) := by decide +kernel
theorem dX10_weightOf_2 : decode cX10_weightOf 2 = .ok (.invokevirtual 75, 3) := by decide +kernel
theorem dX10_weightOf_5 : decode cX10_weightOf 5 = .ok (.ifCond .eq 13, 3) := by decide +kernel
theorem dX10_weightOf_8 : decode cX10_weightOf 8 = .ok (.iload_n 2, 1) := by decide +kernel
theorem dX10_weightOf_9 : decode cX10_weightOf 9 = .ok (.i2l, 1) := by decide +kernel
theorem dX10_weightOf_10 : decode cX10_weightOf 10 = .ok (.lconst 0, 1) := by decide +kernel
theorem dX10_weightOf_11 : decode cX10_weightOf 11 = .ok (.lconst 1, 1) := by decide +kernel
theorem dX10_weightOf_12 : decode cX10_weightOf 12 = .ok (.invokestatic 60, 3) := by decide +kernel
theorem dX10_weightOf_15 : decode cX10_weightOf 15 = .ok (.ifCond .ne 5, 3) := by decide +kernel
theorem dX10_weightOf_18 : decode cX10_weightOf 18 = .ok (.iconst (-1), 1) := by decide +kernel
theorem dX10_weightOf_19 : decode cX10_weightOf 19 = .ok (.ireturn, 1) := by decide +kernel
theorem dX10_weightOf_20 : decode cX10_weightOf 20 = .ok (.iload_n 2, 1) := by decide +kernel
theorem dX10_weightOf_21 : decode cX10_weightOf 21 = .ok (.ifCond .ne 15, 3) := by decide +kernel
theorem dX10_weightOf_24 : decode cX10_weightOf 24 = .ok (.aload_n 0, 1) := by decide +kernel
theorem dX10_weightOf_25 : decode cX10_weightOf 25 = .ok (.getfield 11, 3) := by decide +kernel
theorem dX10_weightOf_28 : decode cX10_weightOf 28 = .ok (.iconst 4, 1) := by decide +kernel
theorem dX10_weightOf_29 : decode cX10_weightOf 29 = .ok (.iload_n 1, 1) := by decide +kernel
theorem dX10_weightOf_30 : decode cX10_weightOf 30 = .ok (.iadd, 1) := by decide +kernel
theorem dX10_weightOf_31 : decode cX10_weightOf 31 = .ok (.iaload, 1) := by decide +kernel
theorem dX10_weightOf_32 : decode cX10_weightOf 32 = .ok (.bipush 100, 2) := by decide +kernel
theorem dX10_weightOf_34 : decode cX10_weightOf 34 = .ok (.iadd, 1) := by decide +kernel
theorem dX10_weightOf_35 : decode cX10_weightOf 35 = .ok (.ireturn, 1) := by decide +kernel
theorem dX10_weightOf_36 : decode cX10_weightOf 36 = .ok (.aload_n 0, 1) := by decide +kernel
theorem dX10_weightOf_37 : decode cX10_weightOf 37 = .ok (.aload_n 0, 1) := by decide +kernel
theorem dX10_weightOf_38 : decode cX10_weightOf 38 = .ok (.getfield 11, 3) := by decide +kernel
theorem dX10_weightOf_41 : decode cX10_weightOf 41 = .ok (.iconst 1, 1) := by decide +kernel
theorem dX10_weightOf_42 : decode cX10_weightOf 42 = .ok (.iaload, 1) := by decide +kernel
theorem dX10_weightOf_43 : decode cX10_weightOf 43 = .ok (.invokevirtual 101, 3) := by decide +kernel
theorem dX10_weightOf_46 : decode cX10_weightOf 46 = .ok (.ifCond .eq 15, 3) := by decide +kernel
theorem dX10_weightOf_49 : decode cX10_weightOf 49 = .ok (.aload_n 0, 1) := by decide +kernel
theorem dX10_weightOf_50 : decode cX10_weightOf 50 = .ok (.getfield 21, 3) := by decide +kernel
theorem dX10_weightOf_53 : decode cX10_weightOf 53 = .ok (.iload_n 1, 1) := by decide +kernel
theorem dX10_weightOf_54 : decode cX10_weightOf 54 = .ok (.iaload, 1) := by decide +kernel
theorem dX10_weightOf_55 : decode cX10_weightOf 55 = .ok (.bipush 100, 2) := by decide +kernel
theorem dX10_weightOf_57 : decode cX10_weightOf 57 = .ok (.iadd, 1) := by decide +kernel
theorem dX10_weightOf_58 : decode cX10_weightOf 58 = .ok (.goto 5, 3) := by decide +kernel
theorem dX10_weightOf_61 : decode cX10_weightOf 61 = .ok (.bipush (-3), 2) := by decide +kernel
theorem dX10_weightOf_63 : decode cX10_weightOf 63 = .ok (.ireturn, 1) := by decide +kernel
theorem dX10_least_0 : decode cX10_least 0 = .ok (.aload_n 0, 1) := by decide +kernel
theorem dX10_least_1 : decode cX10_least 1 = .ok (.aload_n 0, 1) := by decide +kernel
theorem dX10_least_2 : decode cX10_least 2 = .ok (.getfield 11, 3) := by decide +kernel
theorem dX10_least_5 : decode cX10_least 5 = .ok (.iconst 1, 1) := by decide +kernel
theorem dX10_least_6 : decode cX10_least 6 = .ok (.iaload, 1) := by decide +kernel
theorem dX10_least_7 : decode cX10_least 7 = .ok (.invokevirtual 101, 3) := by decide +kernel
theorem dX10_least_10 : decode cX10_least 10 = .ok (.ifCond .eq 19, 3) := by decide +kernel
theorem dX10_least_13 : decode cX10_least 13 = .ok (.aload_n 0, 1) := by decide +kernel
theorem dX10_least_14 : decode cX10_least 14 = .ok (.aload_n 0, 1) := by decide +kernel
theorem dX10_least_15 : decode cX10_least 15 = .ok (.getfield 11, 3) := by decide +kernel
theorem dX10_least_18 : decode cX10_least 18 = .ok (.iconst 1, 1) := by decide +kernel
theorem dX10_least_19 : decode cX10_least 19 = .ok (.iaload, 1) := by decide +kernel
theorem dX10_least_20 : decode cX10_least 20 = .ok (.invokevirtual 104, 3) := by decide +kernel
theorem dX10_least_23 : decode cX10_least 23 = .ok (.bipush 100, 2) := by decide +kernel
theorem dX10_least_25 : decode cX10_least 25 = .ok (.iadd, 1) := by decide +kernel
theorem dX10_least_26 : decode cX10_least 26 = .ok (.goto 5, 3) := by decide +kernel
theorem dX10_least_29 : decode cX10_least 29 = .ok (.bipush (-3), 2) := by decide +kernel
theorem dX10_least_31 : decode cX10_least 31 = .ok (.ireturn, 1) := by decide +kernel
theorem dX10_of_0 : decode cX10_of 0 = .ok (.aload_n 0, 1) := by decide +kernel
theorem dX10_of_1 : decode cX10_of 1 = .ok (.iload_n 1, 1) := by decide +kernel
theorem dX10_of_2 : decode cX10_of 2 = .ok (.invokevirtual 68, 3) := by decide +kernel
theorem dX10_of_5 : decode cX10_of 5 = .ok (.ifCond .ne 5, 3) := by decide +kernel
theorem dX10_of_8 : decode cX10_of 8 = .ok (.iconst (-1), 1) := by decide +kernel
theorem dX10_of_9 : decode cX10_of 9 = .ok (.ireturn, 1) := by decide +kernel
theorem dX10_of_10 : decode cX10_of 10 = .ok (.iload_n 2, 1) := by decide +kernel
theorem dX10_of_11 : decode cX10_of 11 = .ok (.tableswitch 89 0 3 #[29, 43, 57, 80], 29) := by decide +kernel
theorem dX10_of_40 : decode cX10_of 40 = .ok (.aload_n 0, 1) := by decide +kernel
theorem dX10_of_41 : decode cX10_of 41 = .ok (.getfield 11, 3) := by decide +kernel
theorem dX10_of_44 : decode cX10_of 44 = .ok (.iconst 1, 1) := by decide +kernel
theorem dX10_of_45 : decode cX10_of 45 = .ok (.iaload, 1) := by decide +kernel
theorem dX10_of_46 : decode cX10_of 46 = .ok (.iload_n 1, 1) := by decide +kernel
theorem dX10_of_47 : decode cX10_of 47 = .ok (.invokestatic 97, 3) := by decide +kernel
theorem dX10_of_50 : decode cX10_of 50 = .ok (.invokestatic 90, 3) := by decide +kernel
theorem dX10_of_53 : decode cX10_of 53 = .ok (.ireturn, 1) := by decide +kernel
theorem dX10_of_54 : decode cX10_of 54 = .ok (.aload_n 0, 1) := by decide +kernel
theorem dX10_of_55 : decode cX10_of 55 = .ok (.getfield 11, 3) := by decide +kernel
theorem dX10_of_58 : decode cX10_of 58 = .ok (.iconst 2, 1) := by decide +kernel
theorem dX10_of_59 : decode cX10_of 59 = .ok (.iaload, 1) := by decide +kernel
theorem dX10_of_60 : decode cX10_of 60 = .ok (.iload_n 1, 1) := by decide +kernel
theorem dX10_of_61 : decode cX10_of 61 = .ok (.invokestatic 97, 3) := by decide +kernel
theorem dX10_of_64 : decode cX10_of 64 = .ok (.invokestatic 90, 3) := by decide +kernel
theorem dX10_of_67 : decode cX10_of 67 = .ok (.ireturn, 1) := by decide +kernel
theorem dX10_of_68 : decode cX10_of 68 = .ok (.aload_n 0, 1) := by decide +kernel
theorem dX10_of_69 : decode cX10_of 69 = .ok (.iload_n 1, 1) := by decide +kernel
theorem dX10_of_70 : decode cX10_of 70 = .ok (.invokevirtual 86, 3) := by decide +kernel
theorem dX10_of_73 : decode cX10_of 73 = .ok (.aload_n 0, 1) := by decide +kernel
theorem dX10_of_74 : decode cX10_of 74 = .ok (.getfield 11, 3) := by decide +kernel
theorem dX10_of_77 : decode cX10_of 77 = .ok (.iconst 3, 1) := by decide +kernel
theorem dX10_of_78 : decode cX10_of 78 = .ok (.iaload, 1) := by decide +kernel
theorem dX10_of_79 : decode cX10_of 79 = .ok (.if_icmp .lt 7, 3) := by decide +kernel
theorem dX10_of_82 : decode cX10_of 82 = .ok (.iconst 1, 1) := by decide +kernel
theorem dX10_of_83 : decode cX10_of 83 = .ok (.goto 4, 3) := by decide +kernel
theorem dX10_of_86 : decode cX10_of 86 = .ok (.iconst 0, 1) := by decide +kernel
theorem dX10_of_87 : decode cX10_of 87 = .ok (.invokestatic 90, 3) := by decide +kernel
theorem dX10_of_90 : decode cX10_of 90 = .ok (.ireturn, 1) := by decide +kernel
theorem dX10_of_91 : decode cX10_of 91 = .ok (.aload_n 0, 1) := by decide +kernel
theorem dX10_of_92 : decode cX10_of 92 = .ok (.iload_n 1, 1) := by decide +kernel
theorem dX10_of_93 : decode cX10_of 93 = .ok (.invokevirtual 86, 3) := by decide +kernel
theorem dX10_of_96 : decode cX10_of 96 = .ok (.bipush 100, 2) := by decide +kernel
theorem dX10_of_98 : decode cX10_of 98 = .ok (.iadd, 1) := by decide +kernel
theorem dX10_of_99 : decode cX10_of 99 = .ok (.ireturn, 1) := by decide +kernel
theorem dX10_of_100 : decode cX10_of 100 = .ok (.iconst (-1), 1) := by decide +kernel
theorem dX10_of_101 : decode cX10_of 101 = .ok (.ireturn, 1) := by decide +kernel
theorem dX10_isRising_0 : decode cX10_isRising 0 = .ok (.iconst 0, 1) := by decide +kernel
theorem dX10_isRising_1 : decode cX10_isRising 1 = .ok (.istore_n 1, 1) := by decide +kernel
theorem dX10_isRising_2 : decode cX10_isRising 2 = .ok (.iload_n 1, 1) := by decide +kernel
theorem dX10_isRising_3 : decode cX10_isRising 3 = .ok (.aload_n 0, 1) := by decide +kernel
theorem dX10_isRising_4 : decode cX10_isRising 4 = .ok (.invokevirtual 56, 3) := by decide +kernel
theorem dX10_isRising_7 : decode cX10_isRising 7 = .ok (.if_icmp .ge 59, 3) := by decide +kernel
theorem dX10_isRising_10 : decode cX10_isRising 10 = .ok (.iconst 0, 1) := by decide +kernel
theorem dX10_isRising_11 : decode cX10_isRising 11 = .ok (.istore_n 2, 1) := by decide +kernel
theorem dX10_isRising_12 : decode cX10_isRising 12 = .ok (.iload_n 2, 1) := by decide +kernel
theorem dX10_isRising_13 : decode cX10_isRising 13 = .ok (.aload_n 0, 1) := by decide +kernel
theorem dX10_isRising_14 : decode cX10_isRising 14 = .ok (.getfield 11, 3) := by decide +kernel
theorem dX10_isRising_17 : decode cX10_isRising 17 = .ok (.iconst 0, 1) := by decide +kernel
theorem dX10_isRising_18 : decode cX10_isRising 18 = .ok (.iaload, 1) := by decide +kernel
theorem dX10_isRising_19 : decode cX10_isRising 19 = .ok (.if_icmp .ge 41, 3) := by decide +kernel
theorem dX10_isRising_22 : decode cX10_isRising 22 = .ok (.aload_n 0, 1) := by decide +kernel
theorem dX10_isRising_23 : decode cX10_isRising 23 = .ok (.getfield 11, 3) := by decide +kernel
theorem dX10_isRising_26 : decode cX10_isRising 26 = .ok (.iconst 1, 1) := by decide +kernel
theorem dX10_isRising_27 : decode cX10_isRising 27 = .ok (.iaload, 1) := by decide +kernel
theorem dX10_isRising_28 : decode cX10_isRising 28 = .ok (.iload_n 1, 1) := by decide +kernel
theorem dX10_isRising_29 : decode cX10_isRising 29 = .ok (.invokestatic 97, 3) := by decide +kernel
theorem dX10_isRising_32 : decode cX10_isRising 32 = .ok (.ifCond .eq 22, 3) := by decide +kernel
theorem dX10_isRising_35 : decode cX10_isRising 35 = .ok (.aload_n 0, 1) := by decide +kernel
theorem dX10_isRising_36 : decode cX10_isRising 36 = .ok (.getfield 11, 3) := by decide +kernel
theorem dX10_isRising_39 : decode cX10_isRising 39 = .ok (.iconst 1, 1) := by decide +kernel
theorem dX10_isRising_40 : decode cX10_isRising 40 = .ok (.iaload, 1) := by decide +kernel
theorem dX10_isRising_41 : decode cX10_isRising 41 = .ok (.iload_n 1, 1) := by decide +kernel
theorem dX10_isRising_42 : decode cX10_isRising 42 = .ok (.iconst 1, 1) := by decide +kernel
theorem dX10_isRising_43 : decode cX10_isRising 43 = .ok (.iload_n 2, 1) := by decide +kernel
theorem dX10_isRising_44 : decode cX10_isRising 44 = .ok (.ishl, 1) := by decide +kernel
theorem dX10_isRising_45 : decode cX10_isRising 45 = .ok (.ior, 1) := by decide +kernel
theorem dX10_isRising_46 : decode cX10_isRising 46 = .ok (.invokestatic 97, 3) := by decide +kernel
theorem dX10_isRising_49 : decode cX10_isRising 49 = .ok (.ifCond .ne 5, 3) := by decide +kernel
theorem dX10_isRising_52 : decode cX10_isRising 52 = .ok (.iconst 0, 1) := by decide +kernel
theorem dX10_isRising_53 : decode cX10_isRising 53 = .ok (.ireturn, 1) := by decide +kernel
theorem dX10_isRising_54 : decode cX10_isRising 54 = .ok (.iinc 2 1, 3) := by decide +kernel
theorem dX10_isRising_57 : decode cX10_isRising 57 = .ok (.goto (-45), 3) := by decide +kernel
theorem dX10_isRising_60 : decode cX10_isRising 60 = .ok (.iinc 1 1, 3) := by decide +kernel
theorem dX10_isRising_63 : decode cX10_isRising 63 = .ok (.goto (-61), 3) := by decide +kernel
theorem dX10_isRising_66 : decode cX10_isRising 66 = .ok (.iconst 1, 1) := by decide +kernel
theorem dX10_isRising_67 : decode cX10_isRising 67 = .ok (.ireturn, 1) := by decide +kernel
theorem dX10_chowOf_0 : decode cX10_chowOf 0 = .ok (.iconst 0, 1) := by decide +kernel
theorem dX10_chowOf_1 : decode cX10_chowOf 1 = .ok (.istore_n 3, 1) := by decide +kernel
theorem dX10_chowOf_2 : decode cX10_chowOf 2 = .ok (.iconst 0, 1) := by decide +kernel
theorem dX10_chowOf_3 : decode cX10_chowOf 3 = .ok (.istore 4, 2) := by decide +kernel
theorem dX10_chowOf_5 : decode cX10_chowOf 5 = .ok (.iload 4, 2) := by decide +kernel
theorem dX10_chowOf_7 : decode cX10_chowOf 7 = .ok (.aload_n 0, 1) := by decide +kernel
theorem dX10_chowOf_8 : decode cX10_chowOf 8 = .ok (.invokevirtual 56, 3) := by decide +kernel
theorem dX10_chowOf_11 : decode cX10_chowOf 11 = .ok (.if_icmp .ge 40, 3) := by decide +kernel
theorem dX10_chowOf_14 : decode cX10_chowOf 14 = .ok (.iload_n 3, 1) := by decide +kernel
theorem dX10_chowOf_15 : decode cX10_chowOf 15 = .ok (.iload_n 1, 1) := by decide +kernel
theorem dX10_chowOf_16 : decode cX10_chowOf 16 = .ok (.iload 4, 2) := by decide +kernel
theorem dX10_chowOf_18 : decode cX10_chowOf 18 = .ok (.invokestatic 97, 3) := by decide +kernel
theorem dX10_chowOf_21 : decode cX10_chowOf 21 = .ok (.ifCond .eq 21, 3) := by decide +kernel
theorem dX10_chowOf_24 : decode cX10_chowOf 24 = .ok (.iload_n 2, 1) := by decide +kernel
theorem dX10_chowOf_25 : decode cX10_chowOf 25 = .ok (.ifCond .lt 13, 3) := by decide +kernel
theorem dX10_chowOf_28 : decode cX10_chowOf 28 = .ok (.iload 4, 2) := by decide +kernel
theorem dX10_chowOf_30 : decode cX10_chowOf 30 = .ok (.iload_n 2, 1) := by decide +kernel
theorem dX10_chowOf_31 : decode cX10_chowOf 31 = .ok (.ishr, 1) := by decide +kernel
theorem dX10_chowOf_32 : decode cX10_chowOf 32 = .ok (.iconst 1, 1) := by decide +kernel
theorem dX10_chowOf_33 : decode cX10_chowOf 33 = .ok (.iand, 1) := by decide +kernel
theorem dX10_chowOf_34 : decode cX10_chowOf 34 = .ok (.iconst 1, 1) := by decide +kernel
theorem dX10_chowOf_35 : decode cX10_chowOf 35 = .ok (.if_icmp .ne 7, 3) := by decide +kernel
theorem dX10_chowOf_38 : decode cX10_chowOf 38 = .ok (.iconst 1, 1) := by decide +kernel
theorem dX10_chowOf_39 : decode cX10_chowOf 39 = .ok (.goto 4, 3) := by decide +kernel
theorem dX10_chowOf_42 : decode cX10_chowOf 42 = .ok (.iconst 0, 1) := by decide +kernel
theorem dX10_chowOf_43 : decode cX10_chowOf 43 = .ok (.iadd, 1) := by decide +kernel
theorem dX10_chowOf_44 : decode cX10_chowOf 44 = .ok (.istore_n 3, 1) := by decide +kernel
theorem dX10_chowOf_45 : decode cX10_chowOf 45 = .ok (.iinc 4 1, 3) := by decide +kernel
theorem dX10_chowOf_48 : decode cX10_chowOf 48 = .ok (.goto (-43), 3) := by decide +kernel
theorem dX10_chowOf_51 : decode cX10_chowOf 51 = .ok (.iload_n 3, 1) := by decide +kernel
theorem dX10_chowOf_52 : decode cX10_chowOf 52 = .ok (.ireturn, 1) := by decide +kernel
theorem dX10_chow_0 : decode cX10_chow 0 = .ok (.iload_n 1, 1) := by decide +kernel
theorem dX10_chow_1 : decode cX10_chow 1 = .ok (.iconst (-1), 1) := by decide +kernel
theorem dX10_chow_2 : decode cX10_chow 2 = .ok (.if_icmp .eq 11, 3) := by decide +kernel
theorem dX10_chow_5 : decode cX10_chow 5 = .ok (.aload_n 0, 1) := by decide +kernel
theorem dX10_chow_6 : decode cX10_chow 6 = .ok (.iload_n 1, 1) := by decide +kernel
theorem dX10_chow_7 : decode cX10_chow 7 = .ok (.invokevirtual 75, 3) := by decide +kernel
theorem dX10_chow_10 : decode cX10_chow 10 = .ok (.ifCond .eq 17, 3) := by decide +kernel
theorem dX10_chow_13 : decode cX10_chow 13 = .ok (.aload_n 0, 1) := by decide +kernel
theorem dX10_chow_14 : decode cX10_chow 14 = .ok (.aload_n 0, 1) := by decide +kernel
theorem dX10_chow_15 : decode cX10_chow 15 = .ok (.getfield 11, 3) := by decide +kernel
theorem dX10_chow_18 : decode cX10_chow 18 = .ok (.iconst 1, 1) := by decide +kernel
theorem dX10_chow_19 : decode cX10_chow 19 = .ok (.iaload, 1) := by decide +kernel
theorem dX10_chow_20 : decode cX10_chow 20 = .ok (.iload_n 1, 1) := by decide +kernel
theorem dX10_chow_21 : decode cX10_chow 21 = .ok (.invokevirtual 133, 3) := by decide +kernel
theorem dX10_chow_24 : decode cX10_chow 24 = .ok (.goto 4, 3) := by decide +kernel
theorem dX10_chow_27 : decode cX10_chow 27 = .ok (.iconst (-1), 1) := by decide +kernel
theorem dX10_chow_28 : decode cX10_chow 28 = .ok (.ireturn, 1) := by decide +kernel
theorem dX10_twins_0 : decode cX10_twins 0 = .ok (.iconst 0, 1) := by decide +kernel
theorem dX10_twins_1 : decode cX10_twins 1 = .ok (.istore_n 1, 1) := by decide +kernel
theorem dX10_twins_2 : decode cX10_twins 2 = .ok (.iconst 0, 1) := by decide +kernel
theorem dX10_twins_3 : decode cX10_twins 3 = .ok (.istore_n 2, 1) := by decide +kernel
theorem dX10_twins_4 : decode cX10_twins 4 = .ok (.iload_n 2, 1) := by decide +kernel
theorem dX10_twins_5 : decode cX10_twins 5 = .ok (.aload_n 0, 1) := by decide +kernel
theorem dX10_twins_6 : decode cX10_twins 6 = .ok (.invokevirtual 72, 3) := by decide +kernel
theorem dX10_twins_9 : decode cX10_twins 9 = .ok (.if_icmp .gt 70, 3) := by decide +kernel
theorem dX10_twins_12 : decode cX10_twins 12 = .ok (.iconst 1, 1) := by decide +kernel
theorem dX10_twins_13 : decode cX10_twins 13 = .ok (.istore_n 3, 1) := by decide +kernel
theorem dX10_twins_14 : decode cX10_twins 14 = .ok (.iconst (-1), 1) := by decide +kernel
theorem dX10_twins_15 : decode cX10_twins 15 = .ok (.istore 4, 2) := by decide +kernel
theorem dX10_twins_17 : decode cX10_twins 17 = .ok (.iload 4, 2) := by decide +kernel
theorem dX10_twins_19 : decode cX10_twins 19 = .ok (.aload_n 0, 1) := by decide +kernel
theorem dX10_twins_20 : decode cX10_twins 20 = .ok (.getfield 11, 3) := by decide +kernel
theorem dX10_twins_23 : decode cX10_twins 23 = .ok (.iconst 0, 1) := by decide +kernel
theorem dX10_twins_24 : decode cX10_twins 24 = .ok (.iaload, 1) := by decide +kernel
theorem dX10_twins_25 : decode cX10_twins 25 = .ok (.if_icmp .ge 41, 3) := by decide +kernel
theorem dX10_twins_28 : decode cX10_twins 28 = .ok (.iload_n 3, 1) := by decide +kernel
theorem dX10_twins_29 : decode cX10_twins 29 = .ok (.ifCond .eq 37, 3) := by decide +kernel
theorem dX10_twins_32 : decode cX10_twins 32 = .ok (.aload_n 0, 1) := by decide +kernel
theorem dX10_twins_33 : decode cX10_twins 33 = .ok (.iload_n 2, 1) := by decide +kernel
theorem dX10_twins_34 : decode cX10_twins 34 = .ok (.iload 4, 2) := by decide +kernel
theorem dX10_twins_36 : decode cX10_twins 36 = .ok (.invokevirtual 133, 3) := by decide +kernel
theorem dX10_twins_39 : decode cX10_twins 39 = .ok (.aload_n 0, 1) := by decide +kernel
theorem dX10_twins_40 : decode cX10_twins 40 = .ok (.aload_n 0, 1) := by decide +kernel
theorem dX10_twins_41 : decode cX10_twins 41 = .ok (.getfield 11, 3) := by decide +kernel
theorem dX10_twins_44 : decode cX10_twins 44 = .ok (.iconst 1, 1) := by decide +kernel
theorem dX10_twins_45 : decode cX10_twins 45 = .ok (.iaload, 1) := by decide +kernel
theorem dX10_twins_46 : decode cX10_twins 46 = .ok (.iload 4, 2) := by decide +kernel
theorem dX10_twins_48 : decode cX10_twins 48 = .ok (.invokevirtual 133, 3) := by decide +kernel
theorem dX10_twins_51 : decode cX10_twins 51 = .ok (.if_icmp .ne 7, 3) := by decide +kernel
theorem dX10_twins_54 : decode cX10_twins 54 = .ok (.iconst 1, 1) := by decide +kernel
theorem dX10_twins_55 : decode cX10_twins 55 = .ok (.goto 4, 3) := by decide +kernel
theorem dX10_twins_58 : decode cX10_twins 58 = .ok (.iconst 0, 1) := by decide +kernel
theorem dX10_twins_59 : decode cX10_twins 59 = .ok (.istore_n 3, 1) := by decide +kernel
theorem dX10_twins_60 : decode cX10_twins 60 = .ok (.iinc 4 1, 3) := by decide +kernel
theorem dX10_twins_63 : decode cX10_twins 63 = .ok (.goto (-46), 3) := by decide +kernel
theorem dX10_twins_66 : decode cX10_twins 66 = .ok (.iload_n 1, 1) := by decide +kernel
theorem dX10_twins_67 : decode cX10_twins 67 = .ok (.iload_n 3, 1) := by decide +kernel
theorem dX10_twins_68 : decode cX10_twins 68 = .ok (.invokestatic 90, 3) := by decide +kernel
theorem dX10_twins_71 : decode cX10_twins 71 = .ok (.iadd, 1) := by decide +kernel
theorem dX10_twins_72 : decode cX10_twins 72 = .ok (.istore_n 1, 1) := by decide +kernel
theorem dX10_twins_73 : decode cX10_twins 73 = .ok (.iinc 2 1, 3) := by decide +kernel
theorem dX10_twins_76 : decode cX10_twins 76 = .ok (.goto (-72), 3) := by decide +kernel
theorem dX10_twins_79 : decode cX10_twins 79 = .ok (.iload_n 1, 1) := by decide +kernel
theorem dX10_twins_80 : decode cX10_twins 80 = .ok (.ireturn, 1) := by decide +kernel
theorem dX10_isLeastLot_0 : decode cX10_isLeastLot 0 = .ok (.aload_n 0, 1) := by decide +kernel
theorem dX10_isLeastLot_1 : decode cX10_isLeastLot 1 = .ok (.getfield 11, 3) := by decide +kernel
theorem dX10_isLeastLot_4 : decode cX10_isLeastLot 4 = .ok (.iconst 1, 1) := by decide +kernel
theorem dX10_isLeastLot_5 : decode cX10_isLeastLot 5 = .ok (.iaload, 1) := by decide +kernel
theorem dX10_isLeastLot_6 : decode cX10_isLeastLot 6 = .ok (.iload_n 1, 1) := by decide +kernel
theorem dX10_isLeastLot_7 : decode cX10_isLeastLot 7 = .ok (.invokestatic 97, 3) := by decide +kernel
theorem dX10_isLeastLot_10 : decode cX10_isLeastLot 10 = .ok (.ifCond .ne 5, 3) := by decide +kernel
theorem dX10_isLeastLot_13 : decode cX10_isLeastLot 13 = .ok (.iconst 0, 1) := by decide +kernel
theorem dX10_isLeastLot_14 : decode cX10_isLeastLot 14 = .ok (.ireturn, 1) := by decide +kernel
theorem dX10_isLeastLot_15 : decode cX10_isLeastLot 15 = .ok (.iconst 0, 1) := by decide +kernel
theorem dX10_isLeastLot_16 : decode cX10_isLeastLot 16 = .ok (.istore_n 2, 1) := by decide +kernel
theorem dX10_isLeastLot_17 : decode cX10_isLeastLot 17 = .ok (.iload_n 2, 1) := by decide +kernel
theorem dX10_isLeastLot_18 : decode cX10_isLeastLot 18 = .ok (.iload_n 1, 1) := by decide +kernel
theorem dX10_isLeastLot_19 : decode cX10_isLeastLot 19 = .ok (.if_icmp .ge 32, 3) := by decide +kernel
theorem dX10_isLeastLot_22 : decode cX10_isLeastLot 22 = .ok (.iload_n 2, 1) := by decide +kernel
theorem dX10_isLeastLot_23 : decode cX10_isLeastLot 23 = .ok (.iload_n 1, 1) := by decide +kernel
theorem dX10_isLeastLot_24 : decode cX10_isLeastLot 24 = .ok (.iconst (-1), 1) := by decide +kernel
theorem dX10_isLeastLot_25 : decode cX10_isLeastLot 25 = .ok (.ixor, 1) := by decide +kernel
theorem dX10_isLeastLot_26 : decode cX10_isLeastLot 26 = .ok (.iand, 1) := by decide +kernel
theorem dX10_isLeastLot_27 : decode cX10_isLeastLot 27 = .ok (.ifCond .ne 18, 3) := by decide +kernel
theorem dX10_isLeastLot_30 : decode cX10_isLeastLot 30 = .ok (.aload_n 0, 1) := by decide +kernel
theorem dX10_isLeastLot_31 : decode cX10_isLeastLot 31 = .ok (.getfield 11, 3) := by decide +kernel
theorem dX10_isLeastLot_34 : decode cX10_isLeastLot 34 = .ok (.iconst 1, 1) := by decide +kernel
theorem dX10_isLeastLot_35 : decode cX10_isLeastLot 35 = .ok (.iaload, 1) := by decide +kernel
theorem dX10_isLeastLot_36 : decode cX10_isLeastLot 36 = .ok (.iload_n 2, 1) := by decide +kernel
theorem dX10_isLeastLot_37 : decode cX10_isLeastLot 37 = .ok (.invokestatic 97, 3) := by decide +kernel
theorem dX10_isLeastLot_40 : decode cX10_isLeastLot 40 = .ok (.ifCond .eq 5, 3) := by decide +kernel
theorem dX10_isLeastLot_43 : decode cX10_isLeastLot 43 = .ok (.iconst 0, 1) := by decide +kernel
theorem dX10_isLeastLot_44 : decode cX10_isLeastLot 44 = .ok (.ireturn, 1) := by decide +kernel
theorem dX10_isLeastLot_45 : decode cX10_isLeastLot 45 = .ok (.iinc 2 1, 3) := by decide +kernel
theorem dX10_isLeastLot_48 : decode cX10_isLeastLot 48 = .ok (.goto (-31), 3) := by decide +kernel
theorem dX10_isLeastLot_51 : decode cX10_isLeastLot 51 = .ok (.iconst 1, 1) := by decide +kernel
theorem dX10_isLeastLot_52 : decode cX10_isLeastLot 52 = .ok (.ireturn, 1) := by decide +kernel
