theorem dX10_nthLeast_0 : decode cX10_nthLeast 0 = .ok (.iconst 0, 1) := by decide +kernel
theorem dX10_nthLeast_1 : decode cX10_nthLeast 1 = .ok (.istore_n 2, 1) := by decide +kernel
theorem dX10_nthLeast_2 : decode cX10_nthLeast 2 = .ok (.iconst 0, 1) := by decide +kernel
theorem dX10_nthLeast_3 : decode cX10_nthLeast 3 = .ok (.istore_n 3, 1) := by decide +kernel
theorem dX10_nthLeast_4 : decode cX10_nthLeast 4 = .ok (.iload_n 3, 1) := by decide +kernel
theorem dX10_nthLeast_5 : decode cX10_nthLeast 5 = .ok (.aload_n 0, 1) := by decide +kernel
theorem dX10_nthLeast_6 : decode cX10_nthLeast 6 = .ok (.invokevirtual 56, 3) := by decide +kernel
theorem dX10_nthLeast_9 : decode cX10_nthLeast 9 = .ok (.if_icmp .ge 27, 3) := by decide +kernel
theorem dX10_nthLeast_12 : decode cX10_nthLeast 12 = .ok (.aload_n 0, 1) := by decide +kernel
theorem dX10_nthLeast_13 : decode cX10_nthLeast 13 = .ok (.iload_n 3, 1) := by decide +kernel
theorem dX10_nthLeast_14 : decode cX10_nthLeast 14 = .ok (.invokevirtual 136, 3) := by decide +kernel
theorem dX10_nthLeast_17 : decode cX10_nthLeast 17 = .ok (.ifCond .eq 13, 3) := by decide +kernel
theorem dX10_nthLeast_20 : decode cX10_nthLeast 20 = .ok (.iload_n 2, 1) := by decide +kernel
theorem dX10_nthLeast_21 : decode cX10_nthLeast 21 = .ok (.iload_n 1, 1) := by decide +kernel
theorem dX10_nthLeast_22 : decode cX10_nthLeast 22 = .ok (.if_icmp .ne 5, 3) := by decide +kernel
theorem dX10_nthLeast_25 : decode cX10_nthLeast 25 = .ok (.iload_n 3, 1) := by decide +kernel
theorem dX10_nthLeast_26 : decode cX10_nthLeast 26 = .ok (.ireturn, 1) := by decide +kernel
theorem dX10_nthLeast_27 : decode cX10_nthLeast 27 = .ok (.iinc 2 1, 3) := by decide +kernel
theorem dX10_nthLeast_30 : decode cX10_nthLeast 30 = .ok (.iinc 3 1, 3) := by decide +kernel
theorem dX10_nthLeast_33 : decode cX10_nthLeast 33 = .ok (.goto (-29), 3) := by decide +kernel
theorem dX10_nthLeast_36 : decode cX10_nthLeast 36 = .ok (.iload_n 1, 1) := by decide +kernel
theorem dX10_nthLeast_37 : decode cX10_nthLeast 37 = .ok (.ifCond .ge 7, 3) := by decide +kernel
theorem dX10_nthLeast_40 : decode cX10_nthLeast 40 = .ok (.iload_n 2, 1) := by decide +kernel
theorem dX10_nthLeast_41 : decode cX10_nthLeast 41 = .ok (.goto 5, 3) := by decide +kernel
theorem dX10_nthLeast_44 : decode cX10_nthLeast 44 = .ok (.bipush (-5), 2) := by decide +kernel
theorem dX10_nthLeast_46 : decode cX10_nthLeast 46 = .ok (.ireturn, 1) := by decide +kernel
theorem dX10_leastLot_0 : decode cX10_leastLot 0 = .ok (.iload_n 1, 1) := by decide +kernel
theorem dX10_leastLot_1 : decode cX10_leastLot 1 = .ok (.ifCond .ge 7, 3) := by decide +kernel
theorem dX10_leastLot_4 : decode cX10_leastLot 4 = .ok (.iconst (-1), 1) := by decide +kernel
theorem dX10_leastLot_5 : decode cX10_leastLot 5 = .ok (.goto 8, 3) := by decide +kernel
theorem dX10_leastLot_8 : decode cX10_leastLot 8 = .ok (.aload_n 0, 1) := by decide +kernel
theorem dX10_leastLot_9 : decode cX10_leastLot 9 = .ok (.iload_n 1, 1) := by decide +kernel
theorem dX10_leastLot_10 : decode cX10_leastLot 10 = .ok (.invokevirtual 139, 3) := by decide +kernel
theorem dX10_leastLot_13 : decode cX10_leastLot 13 = .ok (.ireturn, 1) := by decide +kernel
theorem dX10_swings_0 : decode cX10_swings 0 = .ok (.aload_n 0, 1) := by decide +kernel
theorem dX10_swings_1 : decode cX10_swings 1 = .ok (.iload_n 1, 1) := by decide +kernel
theorem dX10_swings_2 : decode cX10_swings 2 = .ok (.invokevirtual 75, 3) := by decide +kernel
theorem dX10_swings_5 : decode cX10_swings 5 = .ok (.ifCond .ne 5, 3) := by decide +kernel
theorem dX10_swings_8 : decode cX10_swings 8 = .ok (.iconst (-1), 1) := by decide +kernel
theorem dX10_swings_9 : decode cX10_swings 9 = .ok (.ireturn, 1) := by decide +kernel
theorem dX10_swings_10 : decode cX10_swings 10 = .ok (.iconst 0, 1) := by decide +kernel
theorem dX10_swings_11 : decode cX10_swings 11 = .ok (.istore_n 2, 1) := by decide +kernel
theorem dX10_swings_12 : decode cX10_swings 12 = .ok (.iconst 0, 1) := by decide +kernel
theorem dX10_swings_13 : decode cX10_swings 13 = .ok (.istore_n 3, 1) := by decide +kernel
theorem dX10_swings_14 : decode cX10_swings 14 = .ok (.iload_n 3, 1) := by decide +kernel
theorem dX10_swings_15 : decode cX10_swings 15 = .ok (.aload_n 0, 1) := by decide +kernel
theorem dX10_swings_16 : decode cX10_swings 16 = .ok (.invokevirtual 56, 3) := by decide +kernel
theorem dX10_swings_19 : decode cX10_swings 19 = .ok (.if_icmp .ge 52, 3) := by decide +kernel
theorem dX10_swings_22 : decode cX10_swings 22 = .ok (.iload_n 2, 1) := by decide +kernel
theorem dX10_swings_23 : decode cX10_swings 23 = .ok (.iload_n 3, 1) := by decide +kernel
theorem dX10_swings_24 : decode cX10_swings 24 = .ok (.iload_n 1, 1) := by decide +kernel
theorem dX10_swings_25 : decode cX10_swings 25 = .ok (.ishr, 1) := by decide +kernel
theorem dX10_swings_26 : decode cX10_swings 26 = .ok (.iconst 1, 1) := by decide +kernel
theorem dX10_swings_27 : decode cX10_swings 27 = .ok (.iand, 1) := by decide +kernel
theorem dX10_swings_28 : decode cX10_swings 28 = .ok (.ifCond .ne 34, 3) := by decide +kernel
theorem dX10_swings_31 : decode cX10_swings 31 = .ok (.aload_n 0, 1) := by decide +kernel
theorem dX10_swings_32 : decode cX10_swings 32 = .ok (.getfield 11, 3) := by decide +kernel
theorem dX10_swings_35 : decode cX10_swings 35 = .ok (.iconst 1, 1) := by decide +kernel
theorem dX10_swings_36 : decode cX10_swings 36 = .ok (.iaload, 1) := by decide +kernel
theorem dX10_swings_37 : decode cX10_swings 37 = .ok (.iload_n 3, 1) := by decide +kernel
theorem dX10_swings_38 : decode cX10_swings 38 = .ok (.invokestatic 97, 3) := by decide +kernel
theorem dX10_swings_41 : decode cX10_swings 41 = .ok (.aload_n 0, 1) := by decide +kernel
theorem dX10_swings_42 : decode cX10_swings 42 = .ok (.getfield 11, 3) := by decide +kernel
theorem dX10_swings_45 : decode cX10_swings 45 = .ok (.iconst 1, 1) := by decide +kernel
theorem dX10_swings_46 : decode cX10_swings 46 = .ok (.iaload, 1) := by decide +kernel
theorem dX10_swings_47 : decode cX10_swings 47 = .ok (.iload_n 3, 1) := by decide +kernel
theorem dX10_swings_48 : decode cX10_swings 48 = .ok (.iconst 1, 1) := by decide +kernel
theorem dX10_swings_49 : decode cX10_swings 49 = .ok (.iload_n 1, 1) := by decide +kernel
theorem dX10_swings_50 : decode cX10_swings 50 = .ok (.ishl, 1) := by decide +kernel
theorem dX10_swings_51 : decode cX10_swings 51 = .ok (.ior, 1) := by decide +kernel
theorem dX10_swings_52 : decode cX10_swings 52 = .ok (.invokestatic 97, 3) := by decide +kernel
theorem dX10_swings_55 : decode cX10_swings 55 = .ok (.if_icmp .eq 7, 3) := by decide +kernel
theorem dX10_swings_58 : decode cX10_swings 58 = .ok (.iconst 1, 1) := by decide +kernel
theorem dX10_swings_59 : decode cX10_swings 59 = .ok (.goto 4, 3) := by decide +kernel
theorem dX10_swings_62 : decode cX10_swings 62 = .ok (.iconst 0, 1) := by decide +kernel
theorem dX10_swings_63 : decode cX10_swings 63 = .ok (.iadd, 1) := by decide +kernel
theorem dX10_swings_64 : decode cX10_swings 64 = .ok (.istore_n 2, 1) := by decide +kernel
theorem dX10_swings_65 : decode cX10_swings 65 = .ok (.iinc 3 1, 3) := by decide +kernel
theorem dX10_swings_68 : decode cX10_swings 68 = .ok (.goto (-54), 3) := by decide +kernel
theorem dX10_swings_71 : decode cX10_swings 71 = .ok (.iload_n 2, 1) := by decide +kernel
theorem dX10_swings_72 : decode cX10_swings 72 = .ok (.ireturn, 1) := by decide +kernel
theorem dX10_moved_0 : decode cX10_moved 0 = .ok (.aload_n 0, 1) := by decide +kernel
theorem dX10_moved_1 : decode cX10_moved 1 = .ok (.getfield 11, 3) := by decide +kernel
theorem dX10_moved_4 : decode cX10_moved 4 = .ok (.iconst 0, 1) := by decide +kernel
theorem dX10_moved_5 : decode cX10_moved 5 = .ok (.iaload, 1) := by decide +kernel
theorem dX10_moved_6 : decode cX10_moved 6 = .ok (.istore_n 3, 1) := by decide +kernel
theorem dX10_moved_7 : decode cX10_moved 7 = .ok (.iload_n 2, 1) := by decide +kernel
theorem dX10_moved_8 : decode cX10_moved 8 = .ok (.iload_n 3, 1) := by decide +kernel
theorem dX10_moved_9 : decode cX10_moved 9 = .ok (.if_icmp .ge 12, 3) := by decide +kernel
theorem dX10_moved_12 : decode cX10_moved 12 = .ok (.aload_n 0, 1) := by decide +kernel
theorem dX10_moved_13 : decode cX10_moved 13 = .ok (.iload_n 1, 1) := by decide +kernel
theorem dX10_moved_14 : decode cX10_moved 14 = .ok (.iload_n 2, 1) := by decide +kernel
theorem dX10_moved_15 : decode cX10_moved 15 = .ok (.invokevirtual 110, 3) := by decide +kernel
theorem dX10_moved_18 : decode cX10_moved 18 = .ok (.goto 53, 3) := by decide +kernel
theorem dX10_moved_21 : decode cX10_moved 21 = .ok (.iload_n 2, 1) := by decide +kernel
theorem dX10_moved_22 : decode cX10_moved 22 = .ok (.iconst 2, 1) := by decide +kernel
theorem dX10_moved_23 : decode cX10_moved 23 = .ok (.iload_n 3, 1) := by decide +kernel
theorem dX10_moved_24 : decode cX10_moved 24 = .ok (.imul, 1) := by decide +kernel
theorem dX10_moved_25 : decode cX10_moved 25 = .ok (.iconst 1, 1) := by decide +kernel
theorem dX10_moved_26 : decode cX10_moved 26 = .ok (.isub, 1) := by decide +kernel
theorem dX10_moved_27 : decode cX10_moved 27 = .ok (.if_icmp .ge 19, 3) := by decide +kernel
theorem dX10_moved_30 : decode cX10_moved 30 = .ok (.aload_n 0, 1) := by decide +kernel
theorem dX10_moved_31 : decode cX10_moved 31 = .ok (.iload_n 1, 1) := by decide +kernel
theorem dX10_moved_32 : decode cX10_moved 32 = .ok (.iload_n 2, 1) := by decide +kernel
theorem dX10_moved_33 : decode cX10_moved 33 = .ok (.iload_n 3, 1) := by decide +kernel
theorem dX10_moved_34 : decode cX10_moved 34 = .ok (.isub, 1) := by decide +kernel
theorem dX10_moved_35 : decode cX10_moved 35 = .ok (.iload_n 2, 1) := by decide +kernel
theorem dX10_moved_36 : decode cX10_moved 36 = .ok (.iload_n 3, 1) := by decide +kernel
theorem dX10_moved_37 : decode cX10_moved 37 = .ok (.isub, 1) := by decide +kernel
theorem dX10_moved_38 : decode cX10_moved 38 = .ok (.iconst 1, 1) := by decide +kernel
theorem dX10_moved_39 : decode cX10_moved 39 = .ok (.iadd, 1) := by decide +kernel
theorem dX10_moved_40 : decode cX10_moved 40 = .ok (.invokevirtual 114, 3) := by decide +kernel
theorem dX10_moved_43 : decode cX10_moved 43 = .ok (.goto 28, 3) := by decide +kernel
theorem dX10_moved_46 : decode cX10_moved 46 = .ok (.iload_n 2, 1) := by decide +kernel
theorem dX10_moved_47 : decode cX10_moved 47 = .ok (.iconst 2, 1) := by decide +kernel
theorem dX10_moved_48 : decode cX10_moved 48 = .ok (.iload_n 3, 1) := by decide +kernel
theorem dX10_moved_49 : decode cX10_moved 49 = .ok (.imul, 1) := by decide +kernel
theorem dX10_moved_50 : decode cX10_moved 50 = .ok (.iconst 1, 1) := by decide +kernel
theorem dX10_moved_51 : decode cX10_moved 51 = .ok (.isub, 1) := by decide +kernel
theorem dX10_moved_52 : decode cX10_moved 52 = .ok (.if_icmp .ne 11, 3) := by decide +kernel
theorem dX10_moved_55 : decode cX10_moved 55 = .ok (.aload_n 0, 1) := by decide +kernel
theorem dX10_moved_56 : decode cX10_moved 56 = .ok (.iload_n 1, 1) := by decide +kernel
theorem dX10_moved_57 : decode cX10_moved 57 = .ok (.invokevirtual 107, 3) := by decide +kernel
theorem dX10_moved_60 : decode cX10_moved 60 = .ok (.goto 11, 3) := by decide +kernel
theorem dX10_moved_63 : decode cX10_moved 63 = .ok (.aload_n 0, 1) := by decide +kernel
theorem dX10_moved_64 : decode cX10_moved 64 = .ok (.invokevirtual 72, 3) := by decide +kernel
theorem dX10_moved_67 : decode cX10_moved 67 = .ok (.iload_n 1, 1) := by decide +kernel
theorem dX10_moved_68 : decode cX10_moved 68 = .ok (.iconst (-1), 1) := by decide +kernel
theorem dX10_moved_69 : decode cX10_moved 69 = .ok (.ixor, 1) := by decide +kernel
theorem dX10_moved_70 : decode cX10_moved 70 = .ok (.iand, 1) := by decide +kernel
theorem dX10_moved_71 : decode cX10_moved 71 = .ok (.ireturn, 1) := by decide +kernel
theorem dX10_reached_0 : decode cX10_reached 0 = .ok (.iconst 0, 1) := by decide +kernel
theorem dX10_reached_1 : decode cX10_reached 1 = .ok (.istore_n 1, 1) := by decide +kernel
theorem dX10_reached_2 : decode cX10_reached 2 = .ok (.iload_n 1, 1) := by decide +kernel
theorem dX10_reached_3 : decode cX10_reached 3 = .ok (.aload_n 0, 1) := by decide +kernel
theorem dX10_reached_4 : decode cX10_reached 4 = .ok (.invokevirtual 72, 3) := by decide +kernel
theorem dX10_reached_7 : decode cX10_reached 7 = .ok (.if_icmp .gt 17, 3) := by decide +kernel
theorem dX10_reached_10 : decode cX10_reached 10 = .ok (.aload_n 0, 1) := by decide +kernel
theorem dX10_reached_11 : decode cX10_reached 11 = .ok (.getfield 25, 3) := by decide +kernel
theorem dX10_reached_14 : decode cX10_reached 14 = .ok (.iload_n 1, 1) := by decide +kernel
theorem dX10_reached_15 : decode cX10_reached 15 = .ok (.bipush (-5), 2) := by decide +kernel
theorem dX10_reached_17 : decode cX10_reached 17 = .ok (.iastore, 1) := by decide +kernel
theorem dX10_reached_18 : decode cX10_reached 18 = .ok (.iinc 1 1, 3) := by decide +kernel
theorem dX10_reached_21 : decode cX10_reached 21 = .ok (.goto (-19), 3) := by decide +kernel
theorem dX10_reached_24 : decode cX10_reached 24 = .ok (.aload_n 0, 1) := by decide +kernel
theorem dX10_reached_25 : decode cX10_reached 25 = .ok (.getfield 25, 3) := by decide +kernel
theorem dX10_reached_28 : decode cX10_reached 28 = .ok (.aload_n 0, 1) := by decide +kernel
theorem dX10_reached_29 : decode cX10_reached 29 = .ok (.getfield 11, 3) := by decide +kernel
theorem dX10_reached_32 : decode cX10_reached 32 = .ok (.iconst 1, 1) := by decide +kernel
theorem dX10_reached_33 : decode cX10_reached 33 = .ok (.iaload, 1) := by decide +kernel
theorem dX10_reached_34 : decode cX10_reached 34 = .ok (.iconst 0, 1) := by decide +kernel
theorem dX10_reached_35 : decode cX10_reached 35 = .ok (.iastore, 1) := by decide +kernel
theorem dX10_reached_36 : decode cX10_reached 36 = .ok (.aload_n 0, 1) := by decide +kernel
theorem dX10_reached_37 : decode cX10_reached 37 = .ok (.getfield 28, 3) := by decide +kernel
theorem dX10_reached_40 : decode cX10_reached 40 = .ok (.iconst 0, 1) := by decide +kernel
theorem dX10_reached_41 : decode cX10_reached 41 = .ok (.aload_n 0, 1) := by decide +kernel
theorem dX10_reached_42 : decode cX10_reached 42 = .ok (.getfield 11, 3) := by decide +kernel
theorem dX10_reached_45 : decode cX10_reached 45 = .ok (.iconst 1, 1) := by decide +kernel
theorem dX10_reached_46 : decode cX10_reached 46 = .ok (.iaload, 1) := by decide +kernel
theorem dX10_reached_47 : decode cX10_reached 47 = .ok (.iastore, 1) := by decide +kernel
theorem dX10_reached_48 : decode cX10_reached 48 = .ok (.iconst 1, 1) := by decide +kernel
theorem dX10_reached_49 : decode cX10_reached 49 = .ok (.istore_n 1, 1) := by decide +kernel
theorem dX10_reached_50 : decode cX10_reached 50 = .ok (.iconst 0, 1) := by decide +kernel
theorem dX10_reached_51 : decode cX10_reached 51 = .ok (.istore_n 2, 1) := by decide +kernel
theorem dX10_reached_52 : decode cX10_reached 52 = .ok (.iload_n 2, 1) := by decide +kernel
theorem dX10_reached_53 : decode cX10_reached 53 = .ok (.iload_n 1, 1) := by decide +kernel
theorem dX10_reached_54 : decode cX10_reached 54 = .ok (.if_icmp .ge 85, 3) := by decide +kernel
theorem dX10_reached_57 : decode cX10_reached 57 = .ok (.iconst 0, 1) := by decide +kernel
theorem dX10_reached_58 : decode cX10_reached 58 = .ok (.istore_n 3, 1) := by decide +kernel
theorem dX10_reached_59 : decode cX10_reached 59 = .ok (.iload_n 3, 1) := by decide +kernel
theorem dX10_reached_60 : decode cX10_reached 60 = .ok (.iconst 2, 1) := by decide +kernel
theorem dX10_reached_61 : decode cX10_reached 61 = .ok (.aload_n 0, 1) := by decide +kernel
theorem dX10_reached_62 : decode cX10_reached 62 = .ok (.getfield 11, 3) := by decide +kernel
theorem dX10_reached_65 : decode cX10_reached 65 = .ok (.iconst 0, 1) := by decide +kernel
theorem dX10_reached_66 : decode cX10_reached 66 = .ok (.iaload, 1) := by decide +kernel
theorem dX10_reached_67 : decode cX10_reached 67 = .ok (.imul, 1) := by decide +kernel
theorem dX10_reached_68 : decode cX10_reached 68 = .ok (.if_icmp .gt 65, 3) := by decide +kernel
theorem dX10_reached_71 : decode cX10_reached 71 = .ok (.aload_n 0, 1) := by decide +kernel
theorem dX10_reached_72 : decode cX10_reached 72 = .ok (.aload_n 0, 1) := by decide +kernel
theorem dX10_reached_73 : decode cX10_reached 73 = .ok (.getfield 28, 3) := by decide +kernel
theorem dX10_reached_76 : decode cX10_reached 76 = .ok (.iload_n 2, 1) := by decide +kernel
theorem dX10_reached_77 : decode cX10_reached 77 = .ok (.iaload, 1) := by decide +kernel
theorem dX10_reached_78 : decode cX10_reached 78 = .ok (.iload_n 3, 1) := by decide +kernel
theorem dX10_reached_79 : decode cX10_reached 79 = .ok (.invokevirtual 142, 3) := by decide +kernel
theorem dX10_reached_82 : decode cX10_reached 82 = .ok (.istore 4, 2) := by decide +kernel
theorem dX10_reached_84 : decode cX10_reached 84 = .ok (.aload_n 0, 1) := by decide +kernel
theorem dX10_reached_85 : decode cX10_reached 85 = .ok (.getfield 25, 3) := by decide +kernel
theorem dX10_reached_88 : decode cX10_reached 88 = .ok (.iload 4, 2) := by decide +kernel
theorem dX10_reached_90 : decode cX10_reached 90 = .ok (.iaload, 1) := by decide +kernel
theorem dX10_reached_91 : decode cX10_reached 91 = .ok (.bipush (-5), 2) := by decide +kernel
theorem dX10_reached_93 : decode cX10_reached 93 = .ok (.if_icmp .ne 34, 3) := by decide +kernel
theorem dX10_reached_96 : decode cX10_reached 96 = .ok (.aload_n 0, 1) := by decide +kernel
theorem dX10_reached_97 : decode cX10_reached 97 = .ok (.getfield 25, 3) := by decide +kernel
theorem dX10_reached_100 : decode cX10_reached 100 = .ok (.iload 4, 2) := by decide +kernel
theorem dX10_reached_102 : decode cX10_reached 102 = .ok (.aload_n 0, 1) := by decide +kernel
theorem dX10_reached_103 : decode cX10_reached 103 = .ok (.getfield 25, 3) := by decide +kernel
theorem dX10_reached_106 : decode cX10_reached 106 = .ok (.aload_n 0, 1) := by decide +kernel
theorem dX10_reached_107 : decode cX10_reached 107 = .ok (.getfield 28, 3) := by decide +kernel
theorem dX10_reached_110 : decode cX10_reached 110 = .ok (.iload_n 2, 1) := by decide +kernel
theorem dX10_reached_111 : decode cX10_reached 111 = .ok (.iaload, 1) := by decide +kernel
theorem dX10_reached_112 : decode cX10_reached 112 = .ok (.iaload, 1) := by decide +kernel
theorem dX10_reached_113 : decode cX10_reached 113 = .ok (.iconst 1, 1) := by decide +kernel
theorem dX10_reached_114 : decode cX10_reached 114 = .ok (.iadd, 1) := by decide +kernel
theorem dX10_reached_115 : decode cX10_reached 115 = .ok (.iastore, 1) := by decide +kernel
theorem dX10_reached_116 : decode cX10_reached 116 = .ok (.aload_n 0, 1) := by decide +kernel
theorem dX10_reached_117 : decode cX10_reached 117 = .ok (.getfield 28, 3) := by decide +kernel
theorem dX10_reached_120 : decode cX10_reached 120 = .ok (.iload_n 1, 1) := by decide +kernel
theorem dX10_reached_121 : decode cX10_reached 121 = .ok (.iload 4, 2) := by decide +kernel
theorem dX10_reached_123 : decode cX10_reached 123 = .ok (.iastore, 1) := by decide +kernel
theorem dX10_reached_124 : decode cX10_reached 124 = .ok (.iinc 1 1, 3) := by decide +kernel
theorem dX10_reached_127 : decode cX10_reached 127 = .ok (.iinc 3 1, 3) := by decide +kernel
theorem dX10_reached_130 : decode cX10_reached 130 = .ok (.goto (-71), 3) := by decide +kernel
theorem dX10_reached_133 : decode cX10_reached 133 = .ok (.iinc 2 1, 3) := by decide +kernel
theorem dX10_reached_136 : decode cX10_reached 136 = .ok (.goto (-84), 3) := by decide +kernel
theorem dX10_reached_139 : decode cX10_reached 139 = .ok (.iload_n 1, 1) := by decide +kernel
theorem dX10_reached_140 : decode cX10_reached 140 = .ok (.ireturn, 1) := by decide +kernel
theorem dX10_steps_0 : decode cX10_steps 0 = .ok (.aload_n 0, 1) := by decide +kernel
theorem dX10_steps_1 : decode cX10_steps 1 = .ok (.invokevirtual 145, 3) := by decide +kernel
theorem dX10_steps_4 : decode cX10_steps 4 = .ok (.istore_n 1, 1) := by decide +kernel
theorem dX10_steps_5 : decode cX10_steps 5 = .ok (.iload_n 1, 1) := by decide +kernel
theorem dX10_steps_6 : decode cX10_steps 6 = .ok (.ifCond .le 17, 3) := by decide +kernel
theorem dX10_steps_9 : decode cX10_steps 9 = .ok (.aload_n 0, 1) := by decide +kernel
theorem dX10_steps_10 : decode cX10_steps 10 = .ok (.getfield 25, 3) := by decide +kernel
theorem dX10_steps_13 : decode cX10_steps 13 = .ok (.aload_n 0, 1) := by decide +kernel
theorem dX10_steps_14 : decode cX10_steps 14 = .ok (.getfield 11, 3) := by decide +kernel
theorem dX10_steps_17 : decode cX10_steps 17 = .ok (.iconst 2, 1) := by decide +kernel
theorem dX10_steps_18 : decode cX10_steps 18 = .ok (.iaload, 1) := by decide +kernel
theorem dX10_steps_19 : decode cX10_steps 19 = .ok (.iaload, 1) := by decide +kernel
theorem dX10_steps_20 : decode cX10_steps 20 = .ok (.goto 5, 3) := by decide +kernel
theorem dX10_steps_23 : decode cX10_steps 23 = .ok (.bipush (-5), 2) := by decide +kernel
theorem dX10_steps_25 : decode cX10_steps 25 = .ok (.ireturn, 1) := by decide +kernel
theorem dX10_told_0 : decode cX10_told 0 = .ok (.iload_n 1, 1) := by decide +kernel
theorem dX10_told_1 : decode cX10_told 1 = .ok (.tableswitch 170 0 11 #[63, 70, 77, 84, 89, 99, 107, 135, 149, 154, 160, 165], 63) := by decide +kernel
theorem dX10_told_64 : decode cX10_told 64 = .ok (.aload_n 0, 1) := by decide +kernel
theorem dX10_told_65 : decode cX10_told 65 = .ok (.getfield 11, 3) := by decide +kernel
theorem dX10_told_68 : decode cX10_told 68 = .ok (.iconst 0, 1) := by decide +kernel
theorem dX10_told_69 : decode cX10_told 69 = .ok (.iaload, 1) := by decide +kernel
theorem dX10_told_70 : decode cX10_told 70 = .ok (.ireturn, 1) := by decide +kernel
theorem dX10_told_71 : decode cX10_told 71 = .ok (.aload_n 0, 1) := by decide +kernel
theorem dX10_told_72 : decode cX10_told 72 = .ok (.getfield 11, 3) := by decide +kernel
theorem dX10_told_75 : decode cX10_told 75 = .ok (.iconst 1, 1) := by decide +kernel
theorem dX10_told_76 : decode cX10_told 76 = .ok (.iaload, 1) := by decide +kernel
theorem dX10_told_77 : decode cX10_told 77 = .ok (.ireturn, 1) := by decide +kernel
theorem dX10_told_78 : decode cX10_told 78 = .ok (.aload_n 0, 1) := by decide +kernel
theorem dX10_told_79 : decode cX10_told 79 = .ok (.getfield 11, 3) := by decide +kernel
theorem dX10_told_82 : decode cX10_told 82 = .ok (.iconst 2, 1) := by decide +kernel
theorem dX10_told_83 : decode cX10_told 83 = .ok (.iaload, 1) := by decide +kernel
theorem dX10_told_84 : decode cX10_told 84 = .ok (.ireturn, 1) := by decide +kernel
theorem dX10_told_85 : decode cX10_told 85 = .ok (.aload_n 0, 1) := by decide +kernel
theorem dX10_told_86 : decode cX10_told 86 = .ok (.invokevirtual 94, 3) := by decide +kernel
theorem dX10_told_89 : decode cX10_told 89 = .ok (.ireturn, 1) := by decide +kernel
theorem dX10_told_90 : decode cX10_told 90 = .ok (.aload_n 0, 1) := by decide +kernel
theorem dX10_told_91 : decode cX10_told 91 = .ok (.getfield 11, 3) := by decide +kernel
theorem dX10_told_94 : decode cX10_told 94 = .ok (.iconst 3, 1) := by decide +kernel
theorem dX10_told_95 : decode cX10_told 95 = .ok (.iaload, 1) := by decide +kernel
theorem dX10_told_96 : decode cX10_told 96 = .ok (.bipush 100, 2) := by decide +kernel
theorem dX10_told_98 : decode cX10_told 98 = .ok (.iadd, 1) := by decide +kernel
theorem dX10_told_99 : decode cX10_told 99 = .ok (.ireturn, 1) := by decide +kernel
theorem dX10_told_100 : decode cX10_told 100 = .ok (.aload_n 0, 1) := by decide +kernel
theorem dX10_told_101 : decode cX10_told 101 = .ok (.invokevirtual 148, 3) := by decide +kernel
theorem dX10_told_104 : decode cX10_told 104 = .ok (.invokestatic 90, 3) := by decide +kernel
theorem dX10_told_107 : decode cX10_told 107 = .ok (.ireturn, 1) := by decide +kernel
theorem dX10_told_108 : decode cX10_told 108 = .ok (.aload_n 0, 1) := by decide +kernel
theorem dX10_told_109 : decode cX10_told 109 = .ok (.aload_n 0, 1) := by decide +kernel
theorem dX10_told_110 : decode cX10_told 110 = .ok (.getfield 11, 3) := by decide +kernel
theorem dX10_told_113 : decode cX10_told 113 = .ok (.iconst 1, 1) := by decide +kernel
theorem dX10_told_114 : decode cX10_told 114 = .ok (.iaload, 1) := by decide +kernel
theorem dX10_told_115 : decode cX10_told 115 = .ok (.invokevirtual 107, 3) := by decide +kernel
theorem dX10_told_118 : decode cX10_told 118 = .ok (.aload_n 0, 1) := by decide +kernel
theorem dX10_told_119 : decode cX10_told 119 = .ok (.getfield 11, 3) := by decide +kernel
theorem dX10_told_122 : decode cX10_told 122 = .ok (.iconst 1, 1) := by decide +kernel
theorem dX10_told_123 : decode cX10_told 123 = .ok (.iaload, 1) := by decide +kernel
theorem dX10_told_124 : decode cX10_told 124 = .ok (.if_icmp .ne 7, 3) := by decide +kernel
theorem dX10_told_127 : decode cX10_told 127 = .ok (.iconst 1, 1) := by decide +kernel
theorem dX10_told_128 : decode cX10_told 128 = .ok (.goto 4, 3) := by decide +kernel
theorem dX10_told_131 : decode cX10_told 131 = .ok (.iconst 0, 1) := by decide +kernel
theorem dX10_told_132 : decode cX10_told 132 = .ok (.invokestatic 90, 3) := by decide +kernel
theorem dX10_told_135 : decode cX10_told 135 = .ok (.ireturn, 1) := by decide +kernel
theorem dX10_told_136 : decode cX10_told 136 = .ok (.aload_n 0, 1) := by decide +kernel
theorem dX10_told_137 : decode cX10_told 137 = .ok (.aload_n 0, 1) := by decide +kernel
theorem dX10_told_138 : decode cX10_told 138 = .ok (.getfield 11, 3) := by decide +kernel
theorem dX10_told_141 : decode cX10_told 141 = .ok (.iconst 1, 1) := by decide +kernel
theorem dX10_told_142 : decode cX10_told 142 = .ok (.iaload, 1) := by decide +kernel
theorem dX10_told_143 : decode cX10_told 143 = .ok (.invokevirtual 101, 3) := by decide +kernel
theorem dX10_told_146 : decode cX10_told 146 = .ok (.invokestatic 90, 3) := by decide +kernel
theorem dX10_told_149 : decode cX10_told 149 = .ok (.ireturn, 1) := by decide +kernel
theorem dX10_told_150 : decode cX10_told 150 = .ok (.aload_n 0, 1) := by decide +kernel
theorem dX10_told_151 : decode cX10_told 151 = .ok (.invokevirtual 152, 3) := by decide +kernel
theorem dX10_told_154 : decode cX10_told 154 = .ok (.ireturn, 1) := by decide +kernel
theorem dX10_told_155 : decode cX10_told 155 = .ok (.aload_n 0, 1) := by decide +kernel
theorem dX10_told_156 : decode cX10_told 156 = .ok (.iconst (-1), 1) := by decide +kernel
theorem dX10_told_157 : decode cX10_told 157 = .ok (.invokevirtual 139, 3) := by decide +kernel
theorem dX10_told_160 : decode cX10_told 160 = .ok (.ireturn, 1) := by decide +kernel
theorem dX10_told_161 : decode cX10_told 161 = .ok (.aload_n 0, 1) := by decide +kernel
theorem dX10_told_162 : decode cX10_told 162 = .ok (.invokevirtual 145, 3) := by decide +kernel
theorem dX10_told_165 : decode cX10_told 165 = .ok (.ireturn, 1) := by decide +kernel
theorem dX10_told_166 : decode cX10_told 166 = .ok (.aload_n 0, 1) := by decide +kernel
theorem dX10_told_167 : decode cX10_told 167 = .ok (.invokevirtual 155, 3) := by decide +kernel
theorem dX10_told_170 : decode cX10_told 170 = .ok (.ireturn, 1) := by decide +kernel
theorem dX10_told_171 : decode cX10_told 171 = .ok (.iconst (-1), 1) := by decide +kernel
theorem dX10_told_172 : decode cX10_told 172 = .ok (.ireturn, 1) := by decide +kernel
theorem dX10_isTrade_0 : decode cX10_isTrade 0 = .ok (.iload_n 0, 1) := by decide +kernel
theorem dX10_isTrade_1 : decode cX10_isTrade 1 = .ok (.iload_n 1, 1) := by decide +kernel
theorem dX10_isTrade_2 : decode cX10_isTrade 2 = .ok (.iand, 1) := by decide +kernel
theorem dX10_isTrade_3 : decode cX10_isTrade 3 = .ok (.iload_n 2, 1) := by decide +kernel
theorem dX10_isTrade_4 : decode cX10_isTrade 4 = .ok (.iload_n 3, 1) := by decide +kernel
theorem dX10_isTrade_5 : decode cX10_isTrade 5 = .ok (.iand, 1) := by decide +kernel
theorem dX10_isTrade_6 : decode cX10_isTrade 6 = .ok (.if_icmp .ne 16, 3) := by decide +kernel
theorem dX10_isTrade_9 : decode cX10_isTrade 9 = .ok (.iload_n 0, 1) := by decide +kernel
theorem dX10_isTrade_10 : decode cX10_isTrade 10 = .ok (.iload_n 1, 1) := by decide +kernel
theorem dX10_isTrade_11 : decode cX10_isTrade 11 = .ok (.ixor, 1) := by decide +kernel
theorem dX10_isTrade_12 : decode cX10_isTrade 12 = .ok (.iload_n 2, 1) := by decide +kernel
theorem dX10_isTrade_13 : decode cX10_isTrade 13 = .ok (.iload_n 3, 1) := by decide +kernel
theorem dX10_isTrade_14 : decode cX10_isTrade 14 = .ok (.ixor, 1) := by decide +kernel
theorem dX10_isTrade_15 : decode cX10_isTrade 15 = .ok (.if_icmp .ne 7, 3) := by decide +kernel
theorem dX10_isTrade_18 : decode cX10_isTrade 18 = .ok (.iconst 1, 1) := by decide +kernel
theorem dX10_isTrade_19 : decode cX10_isTrade 19 = .ok (.goto 4, 3) := by decide +kernel
theorem dX10_isTrade_22 : decode cX10_isTrade 22 = .ok (.iconst 0, 1) := by decide +kernel
theorem dX10_isTrade_23 : decode cX10_isTrade 23 = .ok (.ireturn, 1) := by decide +kernel
theorem dX10_trade_0 : decode cX10_trade 0 = .ok (.iload_n 1, 1) := by decide +kernel
theorem dX10_trade_1 : decode cX10_trade 1 = .ok (.i2l, 1) := by decide +kernel
theorem dX10_trade_2 : decode cX10_trade 2 = .ok (.lconst 0, 1) := by decide +kernel
theorem dX10_trade_3 : decode cX10_trade 3 = .ok (.ldc2_w 66, 3) := by decide +kernel
theorem dX10_trade_6 : decode cX10_trade 6 = .ok (.invokestatic 60, 3) := by decide +kernel
theorem dX10_trade_9 : decode cX10_trade 9 = .ok (.ifCond .ne 5, 3) := by decide +kernel
theorem dX10_trade_12 : decode cX10_trade 12 = .ok (.iconst (-1), 1) := by decide +kernel
theorem dX10_trade_13 : decode cX10_trade 13 = .ok (.ireturn, 1) := by decide +kernel
theorem dX10_trade_14 : decode cX10_trade 14 = .ok (.iconst 0, 1) := by decide +kernel
theorem dX10_trade_15 : decode cX10_trade 15 = .ok (.istore_n 2, 1) := by decide +kernel
theorem dX10_trade_16 : decode cX10_trade 16 = .ok (.aload_n 0, 1) := by decide +kernel
theorem dX10_trade_17 : decode cX10_trade 17 = .ok (.getfield 11, 3) := by decide +kernel
theorem dX10_trade_20 : decode cX10_trade 20 = .ok (.iconst 1, 1) := by decide +kernel
theorem dX10_trade_21 : decode cX10_trade 21 = .ok (.iaload, 1) := by decide +kernel
theorem dX10_trade_22 : decode cX10_trade 22 = .ok (.istore_n 3, 1) := by decide +kernel
theorem dX10_trade_23 : decode cX10_trade 23 = .ok (.iconst 0, 1) := by decide +kernel
theorem dX10_trade_24 : decode cX10_trade 24 = .ok (.istore 4, 2) := by decide +kernel
theorem dX10_trade_26 : decode cX10_trade 26 = .ok (.iload 4, 2) := by decide +kernel
theorem dX10_trade_28 : decode cX10_trade 28 = .ok (.aload_n 0, 1) := by decide +kernel
theorem dX10_trade_29 : decode cX10_trade 29 = .ok (.invokevirtual 56, 3) := by decide +kernel
theorem dX10_trade_32 : decode cX10_trade 32 = .ok (.if_icmp .ge 155, 3) := by decide +kernel
theorem dX10_trade_35 : decode cX10_trade 35 = .ok (.iload 4, 2) := by decide +kernel
theorem dX10_trade_37 : decode cX10_trade 37 = .ok (.istore 5, 2) := by decide +kernel
theorem dX10_trade_39 : decode cX10_trade 39 = .ok (.iload 5, 2) := by decide +kernel
theorem dX10_trade_41 : decode cX10_trade 41 = .ok (.aload_n 0, 1) := by decide +kernel
theorem dX10_trade_42 : decode cX10_trade 42 = .ok (.invokevirtual 56, 3) := by decide +kernel
theorem dX10_trade_45 : decode cX10_trade 45 = .ok (.if_icmp .ge 136, 3) := by decide +kernel
theorem dX10_trade_48 : decode cX10_trade 48 = .ok (.iconst 0, 1) := by decide +kernel
theorem dX10_trade_49 : decode cX10_trade 49 = .ok (.istore 6, 2) := by decide +kernel
theorem dX10_trade_51 : decode cX10_trade 51 = .ok (.iload 6, 2) := by decide +kernel
theorem dX10_trade_53 : decode cX10_trade 53 = .ok (.aload_n 0, 1) := by decide +kernel
theorem dX10_trade_54 : decode cX10_trade 54 = .ok (.invokevirtual 56, 3) := by decide +kernel
theorem dX10_trade_57 : decode cX10_trade 57 = .ok (.if_icmp .ge 118, 3) := by decide +kernel
theorem dX10_trade_60 : decode cX10_trade 60 = .ok (.iload 6, 2) := by decide +kernel
theorem dX10_trade_62 : decode cX10_trade 62 = .ok (.istore 7, 2) := by decide +kernel
theorem dX10_trade_64 : decode cX10_trade 64 = .ok (.iload 7, 2) := by decide +kernel
theorem dX10_trade_66 : decode cX10_trade 66 = .ok (.aload_n 0, 1) := by decide +kernel
theorem dX10_trade_67 : decode cX10_trade 67 = .ok (.invokevirtual 56, 3) := by decide +kernel
theorem dX10_trade_70 : decode cX10_trade 70 = .ok (.if_icmp .ge 99, 3) := by decide +kernel
theorem dX10_trade_73 : decode cX10_trade 73 = .ok (.iload_n 3, 1) := by decide +kernel
theorem dX10_trade_74 : decode cX10_trade 74 = .ok (.iload 4, 2) := by decide +kernel
theorem dX10_trade_76 : decode cX10_trade 76 = .ok (.invokestatic 97, 3) := by decide +kernel
theorem dX10_trade_79 : decode cX10_trade 79 = .ok (.ifCond .eq 84, 3) := by decide +kernel
theorem dX10_trade_82 : decode cX10_trade 82 = .ok (.iload_n 3, 1) := by decide +kernel
theorem dX10_trade_83 : decode cX10_trade 83 = .ok (.iload 5, 2) := by decide +kernel
theorem dX10_trade_85 : decode cX10_trade 85 = .ok (.invokestatic 97, 3) := by decide +kernel
theorem dX10_trade_88 : decode cX10_trade 88 = .ok (.ifCond .eq 75, 3) := by decide +kernel
theorem dX10_trade_91 : decode cX10_trade 91 = .ok (.iload_n 3, 1) := by decide +kernel
theorem dX10_trade_92 : decode cX10_trade 92 = .ok (.iload 6, 2) := by decide +kernel
theorem dX10_trade_94 : decode cX10_trade 94 = .ok (.invokestatic 97, 3) := by decide +kernel
theorem dX10_trade_97 : decode cX10_trade 97 = .ok (.ifCond .ne 66, 3) := by decide +kernel
theorem dX10_trade_100 : decode cX10_trade 100 = .ok (.iload_n 3, 1) := by decide +kernel
theorem dX10_trade_101 : decode cX10_trade 101 = .ok (.iload 7, 2) := by decide +kernel
theorem dX10_trade_103 : decode cX10_trade 103 = .ok (.invokestatic 97, 3) := by decide +kernel
theorem dX10_trade_106 : decode cX10_trade 106 = .ok (.ifCond .ne 57, 3) := by decide +kernel
theorem dX10_trade_109 : decode cX10_trade 109 = .ok (.iload 4, 2) := by decide +kernel
theorem dX10_trade_111 : decode cX10_trade 111 = .ok (.iload 5, 2) := by decide +kernel
theorem dX10_trade_113 : decode cX10_trade 113 = .ok (.iload 6, 2) := by decide +kernel
theorem dX10_trade_115 : decode cX10_trade 115 = .ok (.iload 7, 2) := by decide +kernel
theorem dX10_trade_117 : decode cX10_trade 117 = .ok (.invokestatic 158, 3) := by decide +kernel
theorem dX10_trade_120 : decode cX10_trade 120 = .ok (.ifCond .eq 43, 3) := by decide +kernel
theorem dX10_trade_123 : decode cX10_trade 123 = .ok (.iload_n 1, 1) := by decide +kernel
theorem dX10_trade_124 : decode cX10_trade 124 = .ok (.ifCond .le 36, 3) := by decide +kernel
theorem dX10_trade_127 : decode cX10_trade 127 = .ok (.iload_n 1, 1) := by decide +kernel
theorem dX10_trade_128 : decode cX10_trade 128 = .ok (.iconst 1, 1) := by decide +kernel
theorem dX10_trade_129 : decode cX10_trade 129 = .ok (.if_icmp .ne 8, 3) := by decide +kernel
theorem dX10_trade_132 : decode cX10_trade 132 = .ok (.iload 4, 2) := by decide +kernel
theorem dX10_trade_134 : decode cX10_trade 134 = .ok (.goto 25, 3) := by decide +kernel
theorem dX10_trade_137 : decode cX10_trade 137 = .ok (.iload_n 1, 1) := by decide +kernel
theorem dX10_trade_138 : decode cX10_trade 138 = .ok (.iconst 2, 1) := by decide +kernel
theorem dX10_trade_139 : decode cX10_trade 139 = .ok (.if_icmp .ne 8, 3) := by decide +kernel
theorem dX10_trade_142 : decode cX10_trade 142 = .ok (.iload 5, 2) := by decide +kernel
theorem dX10_trade_144 : decode cX10_trade 144 = .ok (.goto 15, 3) := by decide +kernel
theorem dX10_trade_147 : decode cX10_trade 147 = .ok (.iload_n 1, 1) := by decide +kernel
theorem dX10_trade_148 : decode cX10_trade 148 = .ok (.iconst 3, 1) := by decide +kernel
theorem dX10_trade_149 : decode cX10_trade 149 = .ok (.if_icmp .ne 8, 3) := by decide +kernel
theorem dX10_trade_152 : decode cX10_trade 152 = .ok (.iload 6, 2) := by decide +kernel
theorem dX10_trade_154 : decode cX10_trade 154 = .ok (.goto 5, 3) := by decide +kernel
theorem dX10_trade_157 : decode cX10_trade 157 = .ok (.iload 7, 2) := by decide +kernel
theorem dX10_trade_159 : decode cX10_trade 159 = .ok (.ireturn, 1) := by decide +kernel
theorem dX10_trade_160 : decode cX10_trade 160 = .ok (.iinc 2 1, 3) := by decide +kernel
theorem dX10_trade_163 : decode cX10_trade 163 = .ok (.iinc 7 1, 3) := by decide +kernel
theorem dX10_trade_166 : decode cX10_trade 166 = .ok (.goto (-102), 3) := by decide +kernel
theorem dX10_trade_169 : decode cX10_trade 169 = .ok (.iinc 6 1, 3) := by decide +kernel
theorem dX10_trade_172 : decode cX10_trade 172 = .ok (.goto (-121), 3) := by decide +kernel
theorem dX10_trade_175 : decode cX10_trade 175 = .ok (.iinc 5 1, 3) := by decide +kernel
theorem dX10_trade_178 : decode cX10_trade 178 = .ok (.goto (-139), 3) := by decide +kernel
theorem dX10_trade_181 : decode cX10_trade 181 = .ok (.iinc 4 1, 3) := by decide +kernel
theorem dX10_trade_184 : decode cX10_trade 184 = .ok (.goto (-158), 3) := by decide +kernel
theorem dX10_trade_187 : decode cX10_trade 187 = .ok (.iload_n 1, 1) := by decide +kernel
theorem dX10_trade_188 : decode cX10_trade 188 = .ok (.ifCond .ne 7, 3) := by decide +kernel
theorem dX10_trade_191 : decode cX10_trade 191 = .ok (.iload_n 2, 1) := by decide +kernel
theorem dX10_trade_192 : decode cX10_trade 192 = .ok (.goto 5, 3) := by decide +kernel
theorem dX10_trade_195 : decode cX10_trade 195 = .ok (.bipush (-5), 2) := by decide +kernel
theorem dX10_trade_197 : decode cX10_trade 197 = .ok (.ireturn, 1) := by decide +kernel
theorem dX10_see_0 : decode cX10_see 0 = .ok (.iload_n 1, 1) := by decide +kernel
theorem dX10_see_1 : decode cX10_see 1 = .ok (.iconst (-1), 1) := by decide +kernel
theorem dX10_see_2 : decode cX10_see 2 = .ok (.if_icmp .ne 27, 3) := by decide +kernel
theorem dX10_see_5 : decode cX10_see 5 = .ok (.bipush 8, 2) := by decide +kernel
theorem dX10_see_7 : decode cX10_see 7 = .ok (.istore_n 3, 1) := by decide +kernel
theorem dX10_see_8 : decode cX10_see 8 = .ok (.iload_n 3, 1) := by decide +kernel
theorem dX10_see_9 : decode cX10_see 9 = .ok (.bipush 21, 2) := by decide +kernel
theorem dX10_see_11 : decode cX10_see 11 = .ok (.if_icmp .ge 16, 3) := by decide +kernel
theorem dX10_see_14 : decode cX10_see 14 = .ok (.aload_n 0, 1) := by decide +kernel
theorem dX10_see_15 : decode cX10_see 15 = .ok (.getfield 11, 3) := by decide +kernel
theorem dX10_see_18 : decode cX10_see 18 = .ok (.iload_n 3, 1) := by decide +kernel
theorem dX10_see_19 : decode cX10_see 19 = .ok (.iconst 0, 1) := by decide +kernel
theorem dX10_see_20 : decode cX10_see 20 = .ok (.iastore, 1) := by decide +kernel
theorem dX10_see_21 : decode cX10_see 21 = .ok (.iinc 3 1, 3) := by decide +kernel
theorem dX10_see_24 : decode cX10_see 24 = .ok (.goto (-16), 3) := by decide +kernel
theorem dX10_see_27 : decode cX10_see 27 = .ok (.iconst 0, 1) := by decide +kernel
theorem dX10_see_28 : decode cX10_see 28 = .ok (.ireturn, 1) := by decide +kernel
theorem dX10_see_29 : decode cX10_see 29 = .ok (.aload_n 0, 1) := by decide +kernel
theorem dX10_see_30 : decode cX10_see 30 = .ok (.iload_n 1, 1) := by decide +kernel
theorem dX10_see_31 : decode cX10_see 31 = .ok (.invokevirtual 68, 3) := by decide +kernel
theorem dX10_see_34 : decode cX10_see 34 = .ok (.ifCond .ne 5, 3) := by decide +kernel
theorem dX10_see_37 : decode cX10_see 37 = .ok (.iconst (-1), 1) := by decide +kernel
theorem dX10_see_38 : decode cX10_see 38 = .ok (.ireturn, 1) := by decide +kernel
theorem dX10_see_39 : decode cX10_see 39 = .ok (.iload_n 2, 1) := by decide +kernel
theorem dX10_see_40 : decode cX10_see 40 = .ok (.i2l, 1) := by decide +kernel
theorem dX10_see_41 : decode cX10_see 41 = .ok (.lconst 0, 1) := by decide +kernel
theorem dX10_see_42 : decode cX10_see 42 = .ok (.lconst 1, 1) := by decide +kernel
theorem dX10_see_43 : decode cX10_see 43 = .ok (.invokestatic 60, 3) := by decide +kernel
theorem dX10_see_46 : decode cX10_see 46 = .ok (.ifCond .ne 6, 3) := by decide +kernel
theorem dX10_see_49 : decode cX10_see 49 = .ok (.bipush (-2), 2) := by decide +kernel
theorem dX10_see_51 : decode cX10_see 51 = .ok (.ireturn, 1) := by decide +kernel
theorem dX10_see_52 : decode cX10_see 52 = .ok (.aload_n 0, 1) := by decide +kernel
theorem dX10_see_53 : decode cX10_see 53 = .ok (.getfield 11, 3) := by decide +kernel
theorem dX10_see_56 : decode cX10_see 56 = .ok (.bipush 8, 2) := by decide +kernel
theorem dX10_see_58 : decode cX10_see 58 = .ok (.iaload, 1) := by decide +kernel
theorem dX10_see_59 : decode cX10_see 59 = .ok (.bipush 6, 2) := by decide +kernel
theorem dX10_see_61 : decode cX10_see 61 = .ok (.if_icmp .ne 6, 3) := by decide +kernel
theorem dX10_see_64 : decode cX10_see 64 = .ok (.bipush (-4), 2) := by decide +kernel
theorem dX10_see_66 : decode cX10_see 66 = .ok (.ireturn, 1) := by decide +kernel
theorem dX10_see_67 : decode cX10_see 67 = .ok (.aload_n 0, 1) := by decide +kernel
theorem dX10_see_68 : decode cX10_see 68 = .ok (.getfield 11, 3) := by decide +kernel
theorem dX10_see_71 : decode cX10_see 71 = .ok (.bipush 9, 2) := by decide +kernel
theorem dX10_see_73 : decode cX10_see 73 = .ok (.aload_n 0, 1) := by decide +kernel
theorem dX10_see_74 : decode cX10_see 74 = .ok (.getfield 11, 3) := by decide +kernel
theorem dX10_see_77 : decode cX10_see 77 = .ok (.bipush 8, 2) := by decide +kernel
theorem dX10_see_79 : decode cX10_see 79 = .ok (.iaload, 1) := by decide +kernel
theorem dX10_see_80 : decode cX10_see 80 = .ok (.iadd, 1) := by decide +kernel
theorem dX10_see_81 : decode cX10_see 81 = .ok (.iload_n 1, 1) := by decide +kernel
theorem dX10_see_82 : decode cX10_see 82 = .ok (.iastore, 1) := by decide +kernel
theorem dX10_see_83 : decode cX10_see 83 = .ok (.aload_n 0, 1) := by decide +kernel
theorem dX10_see_84 : decode cX10_see 84 = .ok (.getfield 11, 3) := by decide +kernel
theorem dX10_see_87 : decode cX10_see 87 = .ok (.bipush 15, 2) := by decide +kernel
theorem dX10_see_89 : decode cX10_see 89 = .ok (.aload_n 0, 1) := by decide +kernel
theorem dX10_see_90 : decode cX10_see 90 = .ok (.getfield 11, 3) := by decide +kernel
theorem dX10_see_93 : decode cX10_see 93 = .ok (.bipush 8, 2) := by decide +kernel
theorem dX10_see_95 : decode cX10_see 95 = .ok (.iaload, 1) := by decide +kernel
theorem dX10_see_96 : decode cX10_see 96 = .ok (.iadd, 1) := by decide +kernel
theorem dX10_see_97 : decode cX10_see 97 = .ok (.iload_n 2, 1) := by decide +kernel
theorem dX10_see_98 : decode cX10_see 98 = .ok (.iastore, 1) := by decide +kernel
theorem dX10_see_99 : decode cX10_see 99 = .ok (.aload_n 0, 1) := by decide +kernel
theorem dX10_see_100 : decode cX10_see 100 = .ok (.getfield 11, 3) := by decide +kernel
theorem dX10_see_103 : decode cX10_see 103 = .ok (.bipush 8, 2) := by decide +kernel
theorem dX10_see_105 : decode cX10_see 105 = .ok (.dup2, 1) := by decide +kernel
theorem dX10_see_106 : decode cX10_see 106 = .ok (.iaload, 1) := by decide +kernel
theorem dX10_see_107 : decode cX10_see 107 = .ok (.iconst 1, 1) := by decide +kernel
theorem dX10_see_108 : decode cX10_see 108 = .ok (.iadd, 1) := by decide +kernel
theorem dX10_see_109 : decode cX10_see 109 = .ok (.iastore, 1) := by decide +kernel
theorem dX10_see_110 : decode cX10_see 110 = .ok (.aload_n 0, 1) := by decide +kernel
theorem dX10_see_111 : decode cX10_see 111 = .ok (.getfield 11, 3) := by decide +kernel
theorem dX10_see_114 : decode cX10_see 114 = .ok (.bipush 8, 2) := by decide +kernel
theorem dX10_see_116 : decode cX10_see 116 = .ok (.iaload, 1) := by decide +kernel
theorem dX10_see_117 : decode cX10_see 117 = .ok (.ireturn, 1) := by decide +kernel
theorem dX10_isSeenBy_0 : decode cX10_isSeenBy 0 = .ok (.iconst 0, 1) := by decide +kernel
theorem dX10_isSeenBy_1 : decode cX10_isSeenBy 1 = .ok (.istore_n 2, 1) := by decide +kernel
theorem dX10_isSeenBy_2 : decode cX10_isSeenBy 2 = .ok (.iload_n 2, 1) := by decide +kernel
theorem dX10_isSeenBy_3 : decode cX10_isSeenBy 3 = .ok (.aload_n 0, 1) := by decide +kernel
theorem dX10_isSeenBy_4 : decode cX10_isSeenBy 4 = .ok (.getfield 11, 3) := by decide +kernel
theorem dX10_isSeenBy_7 : decode cX10_isSeenBy 7 = .ok (.bipush 8, 2) := by decide +kernel
theorem dX10_isSeenBy_9 : decode cX10_isSeenBy 9 = .ok (.iaload, 1) := by decide +kernel
theorem dX10_isSeenBy_10 : decode cX10_isSeenBy 10 = .ok (.if_icmp .ge 58, 3) := by decide +kernel
theorem dX10_isSeenBy_13 : decode cX10_isSeenBy 13 = .ok (.aload_n 0, 1) := by decide +kernel
theorem dX10_isSeenBy_14 : decode cX10_isSeenBy 14 = .ok (.getfield 11, 3) := by decide +kernel
theorem dX10_isSeenBy_17 : decode cX10_isSeenBy 17 = .ok (.bipush 9, 2) := by decide +kernel
theorem dX10_isSeenBy_19 : decode cX10_isSeenBy 19 = .ok (.iload_n 2, 1) := by decide +kernel
theorem dX10_isSeenBy_20 : decode cX10_isSeenBy 20 = .ok (.iadd, 1) := by decide +kernel
theorem dX10_isSeenBy_21 : decode cX10_isSeenBy 21 = .ok (.iaload, 1) := by decide +kernel
theorem dX10_isSeenBy_22 : decode cX10_isSeenBy 22 = .ok (.istore_n 3, 1) := by decide +kernel
theorem dX10_isSeenBy_23 : decode cX10_isSeenBy 23 = .ok (.aload_n 0, 1) := by decide +kernel
theorem dX10_isSeenBy_24 : decode cX10_isSeenBy 24 = .ok (.iload_n 3, 1) := by decide +kernel
theorem dX10_isSeenBy_25 : decode cX10_isSeenBy 25 = .ok (.invokevirtual 68, 3) := by decide +kernel
theorem dX10_isSeenBy_28 : decode cX10_isSeenBy 28 = .ok (.ifCond .eq 32, 3) := by decide +kernel
theorem dX10_isSeenBy_31 : decode cX10_isSeenBy 31 = .ok (.aload_n 0, 1) := by decide +kernel
theorem dX10_isSeenBy_32 : decode cX10_isSeenBy 32 = .ok (.iload_n 3, 1) := by decide +kernel
theorem dX10_isSeenBy_33 : decode cX10_isSeenBy 33 = .ok (.invokevirtual 86, 3) := by decide +kernel
theorem dX10_isSeenBy_36 : decode cX10_isSeenBy 36 = .ok (.iload_n 1, 1) := by decide +kernel
theorem dX10_isSeenBy_37 : decode cX10_isSeenBy 37 = .ok (.if_icmp .lt 7, 3) := by decide +kernel
theorem dX10_isSeenBy_40 : decode cX10_isSeenBy 40 = .ok (.iconst 1, 1) := by decide +kernel
theorem dX10_isSeenBy_41 : decode cX10_isSeenBy 41 = .ok (.goto 4, 3) := by decide +kernel
theorem dX10_isSeenBy_44 : decode cX10_isSeenBy 44 = .ok (.iconst 0, 1) := by decide +kernel
theorem dX10_isSeenBy_45 : decode cX10_isSeenBy 45 = .ok (.invokestatic 90, 3) := by decide +kernel
theorem dX10_isSeenBy_48 : decode cX10_isSeenBy 48 = .ok (.aload_n 0, 1) := by decide +kernel
theorem dX10_isSeenBy_49 : decode cX10_isSeenBy 49 = .ok (.getfield 11, 3) := by decide +kernel
theorem dX10_isSeenBy_52 : decode cX10_isSeenBy 52 = .ok (.bipush 15, 2) := by decide +kernel
theorem dX10_isSeenBy_54 : decode cX10_isSeenBy 54 = .ok (.iload_n 2, 1) := by decide +kernel
theorem dX10_isSeenBy_55 : decode cX10_isSeenBy 55 = .ok (.iadd, 1) := by decide +kernel
theorem dX10_isSeenBy_56 : decode cX10_isSeenBy 56 = .ok (.iaload, 1) := by decide +kernel
theorem dX10_isSeenBy_57 : decode cX10_isSeenBy 57 = .ok (.if_icmp .eq 5, 3) := by decide +kernel
theorem dX10_isSeenBy_60 : decode cX10_isSeenBy 60 = .ok (.iconst 0, 1) := by decide +kernel
theorem dX10_isSeenBy_61 : decode cX10_isSeenBy 61 = .ok (.ireturn, 1) := by decide +kernel
theorem dX10_isSeenBy_62 : decode cX10_isSeenBy 62 = .ok (.iinc 2 1, 3) := by decide +kernel
theorem dX10_isSeenBy_65 : decode cX10_isSeenBy 65 = .ok (.goto (-63), 3) := by decide +kernel
theorem dX10_isSeenBy_68 : decode cX10_isSeenBy 68 = .ok (.iconst 1, 1) := by decide +kernel
theorem dX10_isSeenBy_69 : decode cX10_isSeenBy 69 = .ok (.ireturn, 1) := by decide +kernel
theorem dX10_fits_0 : decode cX10_fits 0 = .ok (.iload_n 1, 1) := by decide +kernel
theorem dX10_fits_1 : decode cX10_fits 1 = .ok (.i2l, 1) := by decide +kernel
theorem dX10_fits_2 : decode cX10_fits 2 = .ok (.lconst 0, 1) := by decide +kernel
theorem dX10_fits_3 : decode cX10_fits 3 = .ok (.lconst 1, 1) := by decide +kernel
theorem dX10_fits_4 : decode cX10_fits 4 = .ok (.invokestatic 60, 3) := by decide +kernel
theorem dX10_fits_7 : decode cX10_fits 7 = .ok (.ifCond .ne 5, 3) := by decide +kernel
theorem dX10_fits_10 : decode cX10_fits 10 = .ok (.iconst (-1), 1) := by decide +kernel
theorem dX10_fits_11 : decode cX10_fits 11 = .ok (.ireturn, 1) := by decide +kernel
theorem dX10_fits_12 : decode cX10_fits 12 = .ok (.iconst 0, 1) := by decide +kernel
theorem dX10_fits_13 : decode cX10_fits 13 = .ok (.istore_n 2, 1) := by decide +kernel
theorem dX10_fits_14 : decode cX10_fits 14 = .ok (.iconst 0, 1) := by decide +kernel
theorem dX10_fits_15 : decode cX10_fits 15 = .ok (.istore_n 3, 1) := by decide +kernel
theorem dX10_fits_16 : decode cX10_fits 16 = .ok (.bipush 40, 2) := by decide +kernel
theorem dX10_fits_18 : decode cX10_fits 18 = .ok (.istore 4, 2) := by decide +kernel
theorem dX10_fits_20 : decode cX10_fits 20 = .ok (.iload 4, 2) := by decide +kernel
theorem dX10_fits_22 : decode cX10_fits 22 = .ok (.bipush (-40), 2) := by decide +kernel
theorem dX10_fits_24 : decode cX10_fits 24 = .ok (.if_icmp .lt 27, 3) := by decide +kernel
theorem dX10_fits_27 : decode cX10_fits 27 = .ok (.aload_n 0, 1) := by decide +kernel
theorem dX10_fits_28 : decode cX10_fits 28 = .ok (.iload 4, 2) := by decide +kernel
theorem dX10_fits_30 : decode cX10_fits 30 = .ok (.invokevirtual 162, 3) := by decide +kernel
theorem dX10_fits_33 : decode cX10_fits 33 = .ok (.ifCond .eq 12, 3) := by decide +kernel
theorem dX10_fits_36 : decode cX10_fits 36 = .ok (.iinc 2 1, 3) := by decide +kernel
theorem dX10_fits_39 : decode cX10_fits 39 = .ok (.iload 4, 2) := by decide +kernel
theorem dX10_fits_41 : decode cX10_fits 41 = .ok (.bipush 41, 2) := by decide +kernel
theorem dX10_fits_43 : decode cX10_fits 43 = .ok (.iadd, 1) := by decide +kernel
theorem dX10_fits_44 : decode cX10_fits 44 = .ok (.istore_n 3, 1) := by decide +kernel
theorem dX10_fits_45 : decode cX10_fits 45 = .ok (.iinc 4 (-1), 3) := by decide +kernel
theorem dX10_fits_48 : decode cX10_fits 48 = .ok (.goto (-28), 3) := by decide +kernel
theorem dX10_fits_51 : decode cX10_fits 51 = .ok (.iload_n 1, 1) := by decide +kernel
theorem dX10_fits_52 : decode cX10_fits 52 = .ok (.ifCond .ne 7, 3) := by decide +kernel
theorem dX10_fits_55 : decode cX10_fits 55 = .ok (.iload_n 2, 1) := by decide +kernel
theorem dX10_fits_56 : decode cX10_fits 56 = .ok (.goto 4, 3) := by decide +kernel
theorem dX10_fits_59 : decode cX10_fits 59 = .ok (.iload_n 3, 1) := by decide +kernel
theorem dX10_fits_60 : decode cX10_fits 60 = .ok (.ireturn, 1) := by decide +kernel
theorem dX10_lowest_0 : decode cX10_lowest 0 = .ok (.lload_n 0, 1) := by decide +kernel
theorem dX10_lowest_1 : decode cX10_lowest 1 = .ok (.lconst 0, 1) := by decide +kernel
theorem dX10_lowest_2 : decode cX10_lowest 2 = .ok (.lcmp, 1) := by decide +kernel
theorem dX10_lowest_3 : decode cX10_lowest 3 = .ok (.ifCond .ge 8, 3) := by decide +kernel
theorem dX10_lowest_6 : decode cX10_lowest 6 = .ok (.lload_n 0, 1) := by decide +kernel
theorem dX10_lowest_7 : decode cX10_lowest 7 = .ok (.lneg, 1) := by decide +kernel
theorem dX10_lowest_8 : decode cX10_lowest 8 = .ok (.goto 4, 3) := by decide +kernel
theorem dX10_lowest_11 : decode cX10_lowest 11 = .ok (.lload_n 0, 1) := by decide +kernel
theorem dX10_lowest_12 : decode cX10_lowest 12 = .ok (.lstore 5, 2) := by decide +kernel
theorem dX10_lowest_14 : decode cX10_lowest 14 = .ok (.lload_n 2, 1) := by decide +kernel
theorem dX10_lowest_15 : decode cX10_lowest 15 = .ok (.lstore 7, 2) := by decide +kernel
theorem dX10_lowest_17 : decode cX10_lowest 17 = .ok (.lload 7, 2) := by decide +kernel
theorem dX10_lowest_19 : decode cX10_lowest 19 = .ok (.lconst 0, 1) := by decide +kernel
theorem dX10_lowest_20 : decode cX10_lowest 20 = .ok (.lcmp, 1) := by decide +kernel
theorem dX10_lowest_21 : decode cX10_lowest 21 = .ok (.ifCond .eq 21, 3) := by decide +kernel
theorem dX10_lowest_24 : decode cX10_lowest 24 = .ok (.lload 5, 2) := by decide +kernel
theorem dX10_lowest_26 : decode cX10_lowest 26 = .ok (.lload 7, 2) := by decide +kernel
theorem dX10_lowest_28 : decode cX10_lowest 28 = .ok (.lrem, 1) := by decide +kernel
theorem dX10_lowest_29 : decode cX10_lowest 29 = .ok (.lstore 9, 2) := by decide +kernel
theorem dX10_lowest_31 : decode cX10_lowest 31 = .ok (.lload 7, 2) := by decide +kernel
theorem dX10_lowest_33 : decode cX10_lowest 33 = .ok (.lstore 5, 2) := by decide +kernel
theorem dX10_lowest_35 : decode cX10_lowest 35 = .ok (.lload 9, 2) := by decide +kernel
theorem dX10_lowest_37 : decode cX10_lowest 37 = .ok (.lstore 7, 2) := by decide +kernel
theorem dX10_lowest_39 : decode cX10_lowest 39 = .ok (.goto (-22), 3) := by decide +kernel
theorem dX10_lowest_42 : decode cX10_lowest 42 = .ok (.iload 4, 2) := by decide +kernel
theorem dX10_lowest_44 : decode cX10_lowest 44 = .ok (.ifCond .ne 7, 3) := by decide +kernel
theorem dX10_lowest_47 : decode cX10_lowest 47 = .ok (.lload_n 0, 1) := by decide +kernel
theorem dX10_lowest_48 : decode cX10_lowest 48 = .ok (.goto 4, 3) := by decide +kernel
theorem dX10_lowest_51 : decode cX10_lowest 51 = .ok (.lload_n 2, 1) := by decide +kernel
theorem dX10_lowest_52 : decode cX10_lowest 52 = .ok (.lload 5, 2) := by decide +kernel
theorem dX10_lowest_54 : decode cX10_lowest 54 = .ok (.ldiv, 1) := by decide +kernel
theorem dX10_lowest_55 : decode cX10_lowest 55 = .ok (.lreturn, 1) := by decide +kernel
theorem dX10_odds_0 : decode cX10_odds 0 = .ok (.aload_n 0, 1) := by decide +kernel
theorem dX10_odds_1 : decode cX10_odds 1 = .ok (.iload_n 1, 1) := by decide +kernel
theorem dX10_odds_2 : decode cX10_odds 2 = .ok (.invokevirtual 75, 3) := by decide +kernel
theorem dX10_odds_5 : decode cX10_odds 5 = .ok (.ifCond .eq 33, 3) := by decide +kernel
theorem dX10_odds_8 : decode cX10_odds 8 = .ok (.iload_n 2, 1) := by decide +kernel
theorem dX10_odds_9 : decode cX10_odds 9 = .ok (.i2l, 1) := by decide +kernel
theorem dX10_odds_10 : decode cX10_odds 10 = .ok (.lconst 0, 1) := by decide +kernel
theorem dX10_odds_11 : decode cX10_odds 11 = .ok (.lconst 1, 1) := by decide +kernel
theorem dX10_odds_12 : decode cX10_odds 12 = .ok (.invokestatic 60, 3) := by decide +kernel
theorem dX10_odds_15 : decode cX10_odds 15 = .ok (.ifCond .eq 23, 3) := by decide +kernel
theorem dX10_odds_18 : decode cX10_odds 18 = .ok (.aload_n 0, 1) := by decide +kernel
theorem dX10_odds_19 : decode cX10_odds 19 = .ok (.iload_n 1, 1) := by decide +kernel
theorem dX10_odds_20 : decode cX10_odds 20 = .ok (.invokevirtual 165, 3) := by decide +kernel
theorem dX10_odds_23 : decode cX10_odds 23 = .ok (.i2l, 1) := by decide +kernel
theorem dX10_odds_24 : decode cX10_odds 24 = .ok (.aload_n 0, 1) := by decide +kernel
theorem dX10_odds_25 : decode cX10_odds 25 = .ok (.invokevirtual 56, 3) := by decide +kernel
theorem dX10_odds_28 : decode cX10_odds 28 = .ok (.iconst 2, 1) := by decide +kernel
theorem dX10_odds_29 : decode cX10_odds 29 = .ok (.idiv, 1) := by decide +kernel
theorem dX10_odds_30 : decode cX10_odds 30 = .ok (.i2l, 1) := by decide +kernel
theorem dX10_odds_31 : decode cX10_odds 31 = .ok (.iload_n 2, 1) := by decide +kernel
theorem dX10_odds_32 : decode cX10_odds 32 = .ok (.invokestatic 168, 3) := by decide +kernel
theorem dX10_odds_35 : decode cX10_odds 35 = .ok (.goto 6, 3) := by decide +kernel
theorem dX10_odds_38 : decode cX10_odds 38 = .ok (.ldc2_w 172, 3) := by decide +kernel
theorem dX10_odds_41 : decode cX10_odds 41 = .ok (.lreturn, 1) := by decide +kernel
theorem dX10_mean_0 : decode cX10_mean 0 = .ok (.iload_n 1, 1) := by decide +kernel
theorem dX10_mean_1 : decode cX10_mean 1 = .ok (.i2l, 1) := by decide +kernel
theorem dX10_mean_2 : decode cX10_mean 2 = .ok (.lconst 0, 1) := by decide +kernel
theorem dX10_mean_3 : decode cX10_mean 3 = .ok (.lconst 1, 1) := by decide +kernel
theorem dX10_mean_4 : decode cX10_mean 4 = .ok (.invokestatic 60, 3) := by decide +kernel
theorem dX10_mean_7 : decode cX10_mean 7 = .ok (.ifCond .ne 7, 3) := by decide +kernel
theorem dX10_mean_10 : decode cX10_mean 10 = .ok (.ldc2_w 172, 3) := by decide +kernel
theorem dX10_mean_13 : decode cX10_mean 13 = .ok (.lreturn, 1) := by decide +kernel
theorem dX10_mean_14 : decode cX10_mean 14 = .ok (.lconst 0, 1) := by decide +kernel
theorem dX10_mean_15 : decode cX10_mean 15 = .ok (.lstore_n 2, 1) := by decide +kernel
theorem dX10_mean_16 : decode cX10_mean 16 = .ok (.iconst 0, 1) := by decide +kernel
theorem dX10_mean_17 : decode cX10_mean 17 = .ok (.istore 4, 2) := by decide +kernel
theorem dX10_mean_19 : decode cX10_mean 19 = .ok (.iload 4, 2) := by decide +kernel
theorem dX10_mean_21 : decode cX10_mean 21 = .ok (.aload_n 0, 1) := by decide +kernel
theorem dX10_mean_22 : decode cX10_mean 22 = .ok (.invokevirtual 56, 3) := by decide +kernel
theorem dX10_mean_25 : decode cX10_mean 25 = .ok (.if_icmp .ge 19, 3) := by decide +kernel
theorem dX10_mean_28 : decode cX10_mean 28 = .ok (.lload_n 2, 1) := by decide +kernel
theorem dX10_mean_29 : decode cX10_mean 29 = .ok (.aload_n 0, 1) := by decide +kernel
theorem dX10_mean_30 : decode cX10_mean 30 = .ok (.iload 4, 2) := by decide +kernel
theorem dX10_mean_32 : decode cX10_mean 32 = .ok (.invokevirtual 86, 3) := by decide +kernel
theorem dX10_mean_35 : decode cX10_mean 35 = .ok (.i2l, 1) := by decide +kernel
theorem dX10_mean_36 : decode cX10_mean 36 = .ok (.ladd, 1) := by decide +kernel
theorem dX10_mean_37 : decode cX10_mean 37 = .ok (.lstore_n 2, 1) := by decide +kernel
theorem dX10_mean_38 : decode cX10_mean 38 = .ok (.iinc 4 1, 3) := by decide +kernel
theorem dX10_mean_41 : decode cX10_mean 41 = .ok (.goto (-22), 3) := by decide +kernel
theorem dX10_mean_44 : decode cX10_mean 44 = .ok (.lload_n 2, 1) := by decide +kernel
theorem dX10_mean_45 : decode cX10_mean 45 = .ok (.aload_n 0, 1) := by decide +kernel
theorem dX10_mean_46 : decode cX10_mean 46 = .ok (.invokevirtual 56, 3) := by decide +kernel
theorem dX10_mean_49 : decode cX10_mean 49 = .ok (.i2l, 1) := by decide +kernel
theorem dX10_mean_50 : decode cX10_mean 50 = .ok (.iload_n 1, 1) := by decide +kernel
theorem dX10_mean_51 : decode cX10_mean 51 = .ok (.invokestatic 168, 3) := by decide +kernel
theorem dX10_mean_54 : decode cX10_mean 54 = .ok (.lreturn, 1) := by decide +kernel
theorem dX10_isThere_0 : decode cX10_isThere 0 = .ok (.iload_n 1, 1) := by decide +kernel
theorem dX10_isThere_1 : decode cX10_isThere 1 = .ok (.ifCond .ne 11, 3) := by decide +kernel
theorem dX10_isThere_4 : decode cX10_isThere 4 = .ok (.aload_n 0, 1) := by decide +kernel
theorem dX10_isThere_5 : decode cX10_isThere 5 = .ok (.iload_n 2, 1) := by decide +kernel
theorem dX10_isThere_6 : decode cX10_isThere 6 = .ok (.invokevirtual 68, 3) := by decide +kernel
theorem dX10_isThere_9 : decode cX10_isThere 9 = .ok (.goto 44, 3) := by decide +kernel
theorem dX10_isThere_12 : decode cX10_isThere 12 = .ok (.iload_n 1, 1) := by decide +kernel
theorem dX10_isThere_13 : decode cX10_isThere 13 = .ok (.iconst 1, 1) := by decide +kernel
theorem dX10_isThere_14 : decode cX10_isThere 14 = .ok (.if_icmp .ne 11, 3) := by decide +kernel
theorem dX10_isThere_17 : decode cX10_isThere 17 = .ok (.aload_n 0, 1) := by decide +kernel
theorem dX10_isThere_18 : decode cX10_isThere 18 = .ok (.iload_n 2, 1) := by decide +kernel
theorem dX10_isThere_19 : decode cX10_isThere 19 = .ok (.invokevirtual 75, 3) := by decide +kernel
theorem dX10_isThere_22 : decode cX10_isThere 22 = .ok (.goto 31, 3) := by decide +kernel
theorem dX10_isThere_25 : decode cX10_isThere 25 = .ok (.iload_n 1, 1) := by decide +kernel
theorem dX10_isThere_26 : decode cX10_isThere 26 = .ok (.iconst 2, 1) := by decide +kernel
theorem dX10_isThere_27 : decode cX10_isThere 27 = .ok (.if_icmp .eq 21, 3) := by decide +kernel
theorem dX10_isThere_30 : decode cX10_isThere 30 = .ok (.aload_n 0, 1) := by decide +kernel
theorem dX10_isThere_31 : decode cX10_isThere 31 = .ok (.iload_n 2, 1) := by decide +kernel
theorem dX10_isThere_32 : decode cX10_isThere 32 = .ok (.invokevirtual 75, 3) := by decide +kernel
theorem dX10_isThere_35 : decode cX10_isThere 35 = .ok (.ifCond .eq 17, 3) := by decide +kernel
theorem dX10_isThere_38 : decode cX10_isThere 38 = .ok (.aload_n 0, 1) := by decide +kernel
theorem dX10_isThere_39 : decode cX10_isThere 39 = .ok (.iload_n 2, 1) := by decide +kernel
theorem dX10_isThere_40 : decode cX10_isThere 40 = .ok (.iconst 1, 1) := by decide +kernel
theorem dX10_isThere_41 : decode cX10_isThere 41 = .ok (.iadd, 1) := by decide +kernel
theorem dX10_isThere_42 : decode cX10_isThere 42 = .ok (.invokevirtual 75, 3) := by decide +kernel
theorem dX10_isThere_45 : decode cX10_isThere 45 = .ok (.ifCond .eq 7, 3) := by decide +kernel
theorem dX10_isThere_48 : decode cX10_isThere 48 = .ok (.iconst 1, 1) := by decide +kernel
theorem dX10_isThere_49 : decode cX10_isThere 49 = .ok (.goto 4, 3) := by decide +kernel
theorem dX10_isThere_52 : decode cX10_isThere 52 = .ok (.iconst 0, 1) := by decide +kernel
theorem dX10_isThere_53 : decode cX10_isThere 53 = .ok (.ireturn, 1) := by decide +kernel
theorem dX10_event_0 : decode cX10_event 0 = .ok (.iload_n 1, 1) := by decide +kernel
theorem dX10_event_1 : decode cX10_event 1 = .ok (.iconst (-1), 1) := by decide +kernel
theorem dX10_event_2 : decode cX10_event 2 = .ok (.if_icmp .ne 27, 3) := by decide +kernel
theorem dX10_event_5 : decode cX10_event 5 = .ok (.bipush 21, 2) := by decide +kernel
theorem dX10_event_7 : decode cX10_event 7 = .ok (.istore_n 3, 1) := by decide +kernel
theorem dX10_event_8 : decode cX10_event 8 = .ok (.iload_n 3, 1) := by decide +kernel
theorem dX10_event_9 : decode cX10_event 9 = .ok (.bipush 38, 2) := by decide +kernel
theorem dX10_event_11 : decode cX10_event 11 = .ok (.if_icmp .ge 16, 3) := by decide +kernel
theorem dX10_event_14 : decode cX10_event 14 = .ok (.aload_n 0, 1) := by decide +kernel
theorem dX10_event_15 : decode cX10_event 15 = .ok (.getfield 11, 3) := by decide +kernel
theorem dX10_event_18 : decode cX10_event 18 = .ok (.iload_n 3, 1) := by decide +kernel
theorem dX10_event_19 : decode cX10_event 19 = .ok (.iconst 0, 1) := by decide +kernel
theorem dX10_event_20 : decode cX10_event 20 = .ok (.iastore, 1) := by decide +kernel
theorem dX10_event_21 : decode cX10_event 21 = .ok (.iinc 3 1, 3) := by decide +kernel
theorem dX10_event_24 : decode cX10_event 24 = .ok (.goto (-16), 3) := by decide +kernel
theorem dX10_event_27 : decode cX10_event 27 = .ok (.iconst 0, 1) := by decide +kernel
theorem dX10_event_28 : decode cX10_event 28 = .ok (.ireturn, 1) := by decide +kernel
theorem dX10_event_29 : decode cX10_event 29 = .ok (.iload_n 1, 1) := by decide +kernel
theorem dX10_event_30 : decode cX10_event 30 = .ok (.i2l, 1) := by decide +kernel
theorem dX10_event_31 : decode cX10_event 31 = .ok (.lconst 0, 1) := by decide +kernel
theorem dX10_event_32 : decode cX10_event 32 = .ok (.ldc2_w 174, 3) := by decide +kernel
theorem dX10_event_35 : decode cX10_event 35 = .ok (.invokestatic 60, 3) := by decide +kernel
theorem dX10_event_38 : decode cX10_event 38 = .ok (.ifCond .eq 12, 3) := by decide +kernel
theorem dX10_event_41 : decode cX10_event 41 = .ok (.aload_n 0, 1) := by decide +kernel
theorem dX10_event_42 : decode cX10_event 42 = .ok (.iload_n 1, 1) := by decide +kernel
theorem dX10_event_43 : decode cX10_event 43 = .ok (.iload_n 2, 1) := by decide +kernel
theorem dX10_event_44 : decode cX10_event 44 = .ok (.invokevirtual 176, 3) := by decide +kernel
theorem dX10_event_47 : decode cX10_event 47 = .ok (.ifCond .ne 5, 3) := by decide +kernel
theorem dX10_event_50 : decode cX10_event 50 = .ok (.iconst (-1), 1) := by decide +kernel
theorem dX10_event_51 : decode cX10_event 51 = .ok (.ireturn, 1) := by decide +kernel
theorem dX10_event_52 : decode cX10_event 52 = .ok (.iload_n 1, 1) := by decide +kernel
theorem dX10_event_53 : decode cX10_event 53 = .ok (.iconst 2, 1) := by decide +kernel
theorem dX10_event_54 : decode cX10_event 54 = .ok (.if_icmp .ne 10, 3) := by decide +kernel
theorem dX10_event_57 : decode cX10_event 57 = .ok (.iload_n 2, 1) := by decide +kernel
theorem dX10_event_58 : decode cX10_event 58 = .ok (.ifCond .eq 6, 3) := by decide +kernel
theorem dX10_event_61 : decode cX10_event 61 = .ok (.bipush (-2), 2) := by decide +kernel
theorem dX10_event_63 : decode cX10_event 63 = .ok (.ireturn, 1) := by decide +kernel
theorem dX10_event_64 : decode cX10_event 64 = .ok (.aload_n 0, 1) := by decide +kernel
theorem dX10_event_65 : decode cX10_event 65 = .ok (.getfield 11, 3) := by decide +kernel
theorem dX10_event_68 : decode cX10_event 68 = .ok (.bipush 21, 2) := by decide +kernel
theorem dX10_event_70 : decode cX10_event 70 = .ok (.iaload, 1) := by decide +kernel
theorem dX10_event_71 : decode cX10_event 71 = .ok (.bipush 8, 2) := by decide +kernel
theorem dX10_event_73 : decode cX10_event 73 = .ok (.if_icmp .ne 6, 3) := by decide +kernel
theorem dX10_event_76 : decode cX10_event 76 = .ok (.bipush (-4), 2) := by decide +kernel
theorem dX10_event_78 : decode cX10_event 78 = .ok (.ireturn, 1) := by decide +kernel
theorem dX10_event_79 : decode cX10_event 79 = .ok (.aload_n 0, 1) := by decide +kernel
theorem dX10_event_80 : decode cX10_event 80 = .ok (.getfield 11, 3) := by decide +kernel
theorem dX10_event_83 : decode cX10_event 83 = .ok (.bipush 22, 2) := by decide +kernel
theorem dX10_event_85 : decode cX10_event 85 = .ok (.aload_n 0, 1) := by decide +kernel
theorem dX10_event_86 : decode cX10_event 86 = .ok (.getfield 11, 3) := by decide +kernel
theorem dX10_event_89 : decode cX10_event 89 = .ok (.bipush 21, 2) := by decide +kernel
theorem dX10_event_91 : decode cX10_event 91 = .ok (.iaload, 1) := by decide +kernel
theorem dX10_event_92 : decode cX10_event 92 = .ok (.iadd, 1) := by decide +kernel
theorem dX10_event_93 : decode cX10_event 93 = .ok (.iload_n 1, 1) := by decide +kernel
theorem dX10_event_94 : decode cX10_event 94 = .ok (.iastore, 1) := by decide +kernel
theorem dX10_event_95 : decode cX10_event 95 = .ok (.aload_n 0, 1) := by decide +kernel
theorem dX10_event_96 : decode cX10_event 96 = .ok (.getfield 11, 3) := by decide +kernel
theorem dX10_event_99 : decode cX10_event 99 = .ok (.bipush 30, 2) := by decide +kernel
theorem dX10_event_101 : decode cX10_event 101 = .ok (.aload_n 0, 1) := by decide +kernel
theorem dX10_event_102 : decode cX10_event 102 = .ok (.getfield 11, 3) := by decide +kernel
theorem dX10_event_105 : decode cX10_event 105 = .ok (.bipush 21, 2) := by decide +kernel
theorem dX10_event_107 : decode cX10_event 107 = .ok (.iaload, 1) := by decide +kernel
theorem dX10_event_108 : decode cX10_event 108 = .ok (.iadd, 1) := by decide +kernel
theorem dX10_event_109 : decode cX10_event 109 = .ok (.iload_n 2, 1) := by decide +kernel
theorem dX10_event_110 : decode cX10_event 110 = .ok (.iastore, 1) := by decide +kernel
theorem dX10_event_111 : decode cX10_event 111 = .ok (.aload_n 0, 1) := by decide +kernel
theorem dX10_event_112 : decode cX10_event 112 = .ok (.getfield 11, 3) := by decide +kernel
theorem dX10_event_115 : decode cX10_event 115 = .ok (.bipush 21, 2) := by decide +kernel
theorem dX10_event_117 : decode cX10_event 117 = .ok (.dup2, 1) := by decide +kernel
theorem dX10_event_118 : decode cX10_event 118 = .ok (.iaload, 1) := by decide +kernel
theorem dX10_event_119 : decode cX10_event 119 = .ok (.iconst 1, 1) := by decide +kernel
theorem dX10_event_120 : decode cX10_event 120 = .ok (.iadd, 1) := by decide +kernel
theorem dX10_event_121 : decode cX10_event 121 = .ok (.iastore, 1) := by decide +kernel
theorem dX10_event_122 : decode cX10_event 122 = .ok (.aload_n 0, 1) := by decide +kernel
theorem dX10_event_123 : decode cX10_event 123 = .ok (.getfield 11, 3) := by decide +kernel
theorem dX10_event_126 : decode cX10_event 126 = .ok (.bipush 21, 2) := by decide +kernel
theorem dX10_event_128 : decode cX10_event 128 = .ok (.iaload, 1) := by decide +kernel
theorem dX10_event_129 : decode cX10_event 129 = .ok (.ireturn, 1) := by decide +kernel
theorem dX10_after_0 : decode cX10_after 0 = .ok (.iload_n 1, 1) := by decide +kernel
theorem dX10_after_1 : decode cX10_after 1 = .ok (.i2l, 1) := by decide +kernel
theorem dX10_after_2 : decode cX10_after 2 = .ok (.lconst 0, 1) := by decide +kernel
theorem dX10_after_3 : decode cX10_after 3 = .ok (.ldc2_w 64, 3) := by decide +kernel
theorem dX10_after_6 : decode cX10_after 6 = .ok (.invokestatic 60, 3) := by decide +kernel
theorem dX10_after_9 : decode cX10_after 9 = .ok (.ifCond .ne 5, 3) := by decide +kernel
theorem dX10_after_12 : decode cX10_after 12 = .ok (.iconst (-1), 1) := by decide +kernel
theorem dX10_after_13 : decode cX10_after 13 = .ok (.ireturn, 1) := by decide +kernel
theorem dX10_after_14 : decode cX10_after 14 = .ok (.aload_n 0, 1) := by decide +kernel
theorem dX10_after_15 : decode cX10_after 15 = .ok (.getfield 11, 3) := by decide +kernel
theorem dX10_after_18 : decode cX10_after 18 = .ok (.iconst 1, 1) := by decide +kernel
theorem dX10_after_19 : decode cX10_after 19 = .ok (.iaload, 1) := by decide +kernel
theorem dX10_after_20 : decode cX10_after 20 = .ok (.istore_n 2, 1) := by decide +kernel
theorem dX10_after_21 : decode cX10_after 21 = .ok (.iconst 0, 1) := by decide +kernel
theorem dX10_after_22 : decode cX10_after 22 = .ok (.istore_n 3, 1) := by decide +kernel
theorem dX10_after_23 : decode cX10_after 23 = .ok (.iload_n 3, 1) := by decide +kernel
theorem dX10_after_24 : decode cX10_after 24 = .ok (.aload_n 0, 1) := by decide +kernel
theorem dX10_after_25 : decode cX10_after 25 = .ok (.getfield 11, 3) := by decide +kernel
theorem dX10_after_28 : decode cX10_after 28 = .ok (.bipush 21, 2) := by decide +kernel
theorem dX10_after_30 : decode cX10_after 30 = .ok (.iaload, 1) := by decide +kernel
theorem dX10_after_31 : decode cX10_after 31 = .ok (.if_icmp .ge 98, 3) := by decide +kernel
theorem dX10_after_34 : decode cX10_after 34 = .ok (.aload_n 0, 1) := by decide +kernel
theorem dX10_after_35 : decode cX10_after 35 = .ok (.getfield 11, 3) := by decide +kernel
theorem dX10_after_38 : decode cX10_after 38 = .ok (.bipush 22, 2) := by decide +kernel
theorem dX10_after_40 : decode cX10_after 40 = .ok (.iload_n 3, 1) := by decide +kernel
theorem dX10_after_41 : decode cX10_after 41 = .ok (.iadd, 1) := by decide +kernel
theorem dX10_after_42 : decode cX10_after 42 = .ok (.iaload, 1) := by decide +kernel
theorem dX10_after_43 : decode cX10_after 43 = .ok (.istore 4, 2) := by decide +kernel
theorem dX10_after_45 : decode cX10_after 45 = .ok (.aload_n 0, 1) := by decide +kernel
theorem dX10_after_46 : decode cX10_after 46 = .ok (.getfield 11, 3) := by decide +kernel
theorem dX10_after_49 : decode cX10_after 49 = .ok (.bipush 30, 2) := by decide +kernel
theorem dX10_after_51 : decode cX10_after 51 = .ok (.iload_n 3, 1) := by decide +kernel
theorem dX10_after_52 : decode cX10_after 52 = .ok (.iadd, 1) := by decide +kernel
theorem dX10_after_53 : decode cX10_after 53 = .ok (.iaload, 1) := by decide +kernel
theorem dX10_after_54 : decode cX10_after 54 = .ok (.istore 5, 2) := by decide +kernel
theorem dX10_after_56 : decode cX10_after 56 = .ok (.aload_n 0, 1) := by decide +kernel
theorem dX10_after_57 : decode cX10_after 57 = .ok (.iload 4, 2) := by decide +kernel
theorem dX10_after_59 : decode cX10_after 59 = .ok (.iload 5, 2) := by decide +kernel
theorem dX10_after_61 : decode cX10_after 61 = .ok (.invokevirtual 176, 3) := by decide +kernel
theorem dX10_after_64 : decode cX10_after 64 = .ok (.ifCond .eq 59, 3) := by decide +kernel
theorem dX10_after_67 : decode cX10_after 67 = .ok (.iload 4, 2) := by decide +kernel
theorem dX10_after_69 : decode cX10_after 69 = .ok (.ifCond .ne 12, 3) := by decide +kernel
theorem dX10_after_72 : decode cX10_after 72 = .ok (.iload_n 2, 1) := by decide +kernel
theorem dX10_after_73 : decode cX10_after 73 = .ok (.iconst 1, 1) := by decide +kernel
theorem dX10_after_74 : decode cX10_after 74 = .ok (.iload 5, 2) := by decide +kernel
theorem dX10_after_76 : decode cX10_after 76 = .ok (.ishl, 1) := by decide +kernel
theorem dX10_after_77 : decode cX10_after 77 = .ok (.ixor, 1) := by decide +kernel
theorem dX10_after_78 : decode cX10_after 78 = .ok (.goto 44, 3) := by decide +kernel
theorem dX10_after_81 : decode cX10_after 81 = .ok (.iload 4, 2) := by decide +kernel
theorem dX10_after_83 : decode cX10_after 83 = .ok (.iconst 1, 1) := by decide +kernel
theorem dX10_after_84 : decode cX10_after 84 = .ok (.if_icmp .ne 13, 3) := by decide +kernel
theorem dX10_after_87 : decode cX10_after 87 = .ok (.aload_n 0, 1) := by decide +kernel
theorem dX10_after_88 : decode cX10_after 88 = .ok (.iload_n 2, 1) := by decide +kernel
theorem dX10_after_89 : decode cX10_after 89 = .ok (.iload 5, 2) := by decide +kernel
theorem dX10_after_91 : decode cX10_after 91 = .ok (.invokevirtual 110, 3) := by decide +kernel
theorem dX10_after_94 : decode cX10_after 94 = .ok (.goto 28, 3) := by decide +kernel
theorem dX10_after_97 : decode cX10_after 97 = .ok (.iload 4, 2) := by decide +kernel
theorem dX10_after_99 : decode cX10_after 99 = .ok (.iconst 2, 1) := by decide +kernel
theorem dX10_after_100 : decode cX10_after 100 = .ok (.if_icmp .ne 11, 3) := by decide +kernel
theorem dX10_after_103 : decode cX10_after 103 = .ok (.aload_n 0, 1) := by decide +kernel
theorem dX10_after_104 : decode cX10_after 104 = .ok (.iload_n 2, 1) := by decide +kernel
theorem dX10_after_105 : decode cX10_after 105 = .ok (.invokevirtual 107, 3) := by decide +kernel
theorem dX10_after_108 : decode cX10_after 108 = .ok (.goto 14, 3) := by decide +kernel
theorem dX10_after_111 : decode cX10_after 111 = .ok (.aload_n 0, 1) := by decide +kernel
theorem dX10_after_112 : decode cX10_after 112 = .ok (.iload_n 2, 1) := by decide +kernel
theorem dX10_after_113 : decode cX10_after 113 = .ok (.iload 5, 2) := by decide +kernel
theorem dX10_after_115 : decode cX10_after 115 = .ok (.iload 5, 2) := by decide +kernel
theorem dX10_after_117 : decode cX10_after 117 = .ok (.iconst 1, 1) := by decide +kernel
theorem dX10_after_118 : decode cX10_after 118 = .ok (.iadd, 1) := by decide +kernel
theorem dX10_after_119 : decode cX10_after 119 = .ok (.invokevirtual 114, 3) := by decide +kernel
theorem dX10_after_122 : decode cX10_after 122 = .ok (.istore_n 2, 1) := by decide +kernel
theorem dX10_after_123 : decode cX10_after 123 = .ok (.iinc 3 1, 3) := by decide +kernel
theorem dX10_after_126 : decode cX10_after 126 = .ok (.goto (-103), 3) := by decide +kernel
theorem dX10_after_129 : decode cX10_after 129 = .ok (.iload_n 1, 1) := by decide +kernel
theorem dX10_after_130 : decode cX10_after 130 = .ok (.ifCond .ne 7, 3) := by decide +kernel
theorem dX10_after_133 : decode cX10_after 133 = .ok (.iload_n 2, 1) := by decide +kernel
theorem dX10_after_134 : decode cX10_after 134 = .ok (.goto 36, 3) := by decide +kernel
theorem dX10_after_137 : decode cX10_after 137 = .ok (.iload_n 1, 1) := by decide +kernel
theorem dX10_after_138 : decode cX10_after 138 = .ok (.iconst 1, 1) := by decide +kernel
theorem dX10_after_139 : decode cX10_after 139 = .ok (.if_icmp .ne 14, 3) := by decide +kernel
theorem dX10_after_142 : decode cX10_after 142 = .ok (.aload_n 0, 1) := by decide +kernel
theorem dX10_after_143 : decode cX10_after 143 = .ok (.iload_n 2, 1) := by decide +kernel
theorem dX10_after_144 : decode cX10_after 144 = .ok (.invokevirtual 101, 3) := by decide +kernel
theorem dX10_after_147 : decode cX10_after 147 = .ok (.invokestatic 90, 3) := by decide +kernel
theorem dX10_after_150 : decode cX10_after 150 = .ok (.goto 20, 3) := by decide +kernel
theorem dX10_after_153 : decode cX10_after 153 = .ok (.aload_n 0, 1) := by decide +kernel
theorem dX10_after_154 : decode cX10_after 154 = .ok (.iload_n 2, 1) := by decide +kernel
theorem dX10_after_155 : decode cX10_after 155 = .ok (.invokevirtual 107, 3) := by decide +kernel
theorem dX10_after_158 : decode cX10_after 158 = .ok (.iload_n 2, 1) := by decide +kernel
theorem dX10_after_159 : decode cX10_after 159 = .ok (.if_icmp .ne 7, 3) := by decide +kernel
theorem dX10_after_162 : decode cX10_after 162 = .ok (.iconst 1, 1) := by decide +kernel
theorem dX10_after_163 : decode cX10_after 163 = .ok (.goto 4, 3) := by decide +kernel
theorem dX10_after_166 : decode cX10_after 166 = .ok (.iconst 0, 1) := by decide +kernel
theorem dX10_after_167 : decode cX10_after 167 = .ok (.invokestatic 90, 3) := by decide +kernel
theorem dX10_after_170 : decode cX10_after 170 = .ok (.ireturn, 1) := by decide +kernel
theorem dX10_book_0 : decode cX10_book 0 = .ok (.iload_n 1, 1) := by decide +kernel
theorem dX10_book_1 : decode cX10_book 1 = .ok (.iconst (-1), 1) := by decide +kernel
theorem dX10_book_2 : decode cX10_book 2 = .ok (.if_icmp .ne 27, 3) := by decide +kernel
theorem dX10_book_5 : decode cX10_book 5 = .ok (.bipush 38, 2) := by decide +kernel
theorem dX10_book_7 : decode cX10_book 7 = .ok (.istore_n 3, 1) := by decide +kernel
theorem dX10_book_8 : decode cX10_book 8 = .ok (.iload_n 3, 1) := by decide +kernel
theorem dX10_book_9 : decode cX10_book 9 = .ok (.bipush 55, 2) := by decide +kernel
theorem dX10_book_11 : decode cX10_book 11 = .ok (.if_icmp .ge 16, 3) := by decide +kernel
theorem dX10_book_14 : decode cX10_book 14 = .ok (.aload_n 0, 1) := by decide +kernel
theorem dX10_book_15 : decode cX10_book 15 = .ok (.getfield 11, 3) := by decide +kernel
theorem dX10_book_18 : decode cX10_book 18 = .ok (.iload_n 3, 1) := by decide +kernel
theorem dX10_book_19 : decode cX10_book 19 = .ok (.iconst 0, 1) := by decide +kernel
theorem dX10_book_20 : decode cX10_book 20 = .ok (.iastore, 1) := by decide +kernel
theorem dX10_book_21 : decode cX10_book 21 = .ok (.iinc 3 1, 3) := by decide +kernel
theorem dX10_book_24 : decode cX10_book 24 = .ok (.goto (-16), 3) := by decide +kernel
theorem dX10_book_27 : decode cX10_book 27 = .ok (.iconst 0, 1) := by decide +kernel
theorem dX10_book_28 : decode cX10_book 28 = .ok (.ireturn, 1) := by decide +kernel
theorem dX10_book_29 : decode cX10_book 29 = .ok (.aload_n 0, 1) := by decide +kernel
theorem dX10_book_30 : decode cX10_book 30 = .ok (.iload_n 1, 1) := by decide +kernel
theorem dX10_book_31 : decode cX10_book 31 = .ok (.invokevirtual 68, 3) := by decide +kernel
theorem dX10_book_34 : decode cX10_book 34 = .ok (.ifCond .ne 5, 3) := by decide +kernel
theorem dX10_book_37 : decode cX10_book 37 = .ok (.iconst (-1), 1) := by decide +kernel
theorem dX10_book_38 : decode cX10_book 38 = .ok (.ireturn, 1) := by decide +kernel
theorem dX10_book_39 : decode cX10_book 39 = .ok (.iload_n 2, 1) := by decide +kernel
theorem dX10_book_40 : decode cX10_book 40 = .ok (.i2l, 1) := by decide +kernel
theorem dX10_book_41 : decode cX10_book 41 = .ok (.lconst 0, 1) := by decide +kernel
theorem dX10_book_42 : decode cX10_book 42 = .ok (.lconst 1, 1) := by decide +kernel
theorem dX10_book_43 : decode cX10_book 43 = .ok (.invokestatic 60, 3) := by decide +kernel
theorem dX10_book_46 : decode cX10_book 46 = .ok (.ifCond .ne 6, 3) := by decide +kernel
theorem dX10_book_49 : decode cX10_book 49 = .ok (.bipush (-2), 2) := by decide +kernel
theorem dX10_book_51 : decode cX10_book 51 = .ok (.ireturn, 1) := by decide +kernel
theorem dX10_book_52 : decode cX10_book 52 = .ok (.aload_n 0, 1) := by decide +kernel
theorem dX10_book_53 : decode cX10_book 53 = .ok (.getfield 11, 3) := by decide +kernel
theorem dX10_book_56 : decode cX10_book 56 = .ok (.bipush 38, 2) := by decide +kernel
theorem dX10_book_58 : decode cX10_book 58 = .ok (.iaload, 1) := by decide +kernel
theorem dX10_book_59 : decode cX10_book 59 = .ok (.bipush 8, 2) := by decide +kernel
theorem dX10_book_61 : decode cX10_book 61 = .ok (.if_icmp .ne 6, 3) := by decide +kernel
theorem dX10_book_64 : decode cX10_book 64 = .ok (.bipush (-4), 2) := by decide +kernel
theorem dX10_book_66 : decode cX10_book 66 = .ok (.ireturn, 1) := by decide +kernel
theorem dX10_book_67 : decode cX10_book 67 = .ok (.aload_n 0, 1) := by decide +kernel
theorem dX10_book_68 : decode cX10_book 68 = .ok (.getfield 11, 3) := by decide +kernel
theorem dX10_book_71 : decode cX10_book 71 = .ok (.bipush 39, 2) := by decide +kernel
theorem dX10_book_73 : decode cX10_book 73 = .ok (.aload_n 0, 1) := by decide +kernel
theorem dX10_book_74 : decode cX10_book 74 = .ok (.getfield 11, 3) := by decide +kernel
theorem dX10_book_77 : decode cX10_book 77 = .ok (.bipush 38, 2) := by decide +kernel
theorem dX10_book_79 : decode cX10_book 79 = .ok (.iaload, 1) := by decide +kernel
theorem dX10_book_80 : decode cX10_book 80 = .ok (.iadd, 1) := by decide +kernel
theorem dX10_book_81 : decode cX10_book 81 = .ok (.iload_n 1, 1) := by decide +kernel
theorem dX10_book_82 : decode cX10_book 82 = .ok (.iastore, 1) := by decide +kernel
theorem dX10_book_83 : decode cX10_book 83 = .ok (.aload_n 0, 1) := by decide +kernel
theorem dX10_book_84 : decode cX10_book 84 = .ok (.getfield 11, 3) := by decide +kernel
theorem dX10_book_87 : decode cX10_book 87 = .ok (.bipush 47, 2) := by decide +kernel
theorem dX10_book_89 : decode cX10_book 89 = .ok (.aload_n 0, 1) := by decide +kernel
theorem dX10_book_90 : decode cX10_book 90 = .ok (.getfield 11, 3) := by decide +kernel
theorem dX10_book_93 : decode cX10_book 93 = .ok (.bipush 38, 2) := by decide +kernel
theorem dX10_book_95 : decode cX10_book 95 = .ok (.iaload, 1) := by decide +kernel
theorem dX10_book_96 : decode cX10_book 96 = .ok (.iadd, 1) := by decide +kernel
theorem dX10_book_97 : decode cX10_book 97 = .ok (.iload_n 2, 1) := by decide +kernel
theorem dX10_book_98 : decode cX10_book 98 = .ok (.iastore, 1) := by decide +kernel
theorem dX10_book_99 : decode cX10_book 99 = .ok (.aload_n 0, 1) := by decide +kernel
theorem dX10_book_100 : decode cX10_book 100 = .ok (.getfield 11, 3) := by decide +kernel
theorem dX10_book_103 : decode cX10_book 103 = .ok (.bipush 38, 2) := by decide +kernel
theorem dX10_book_105 : decode cX10_book 105 = .ok (.dup2, 1) := by decide +kernel
theorem dX10_book_106 : decode cX10_book 106 = .ok (.iaload, 1) := by decide +kernel
theorem dX10_book_107 : decode cX10_book 107 = .ok (.iconst 1, 1) := by decide +kernel
theorem dX10_book_108 : decode cX10_book 108 = .ok (.iadd, 1) := by decide +kernel
theorem dX10_book_109 : decode cX10_book 109 = .ok (.iastore, 1) := by decide +kernel
theorem dX10_book_110 : decode cX10_book 110 = .ok (.aload_n 0, 1) := by decide +kernel
theorem dX10_book_111 : decode cX10_book 111 = .ok (.getfield 11, 3) := by decide +kernel
theorem dX10_book_114 : decode cX10_book 114 = .ok (.bipush 38, 2) := by decide +kernel
theorem dX10_book_116 : decode cX10_book 116 = .ok (.iaload, 1) := by decide +kernel
theorem dX10_book_117 : decode cX10_book 117 = .ok (.ireturn, 1) := by decide +kernel
theorem dX10_looked_0 : decode cX10_looked 0 = .ok (.iconst 0, 1) := by decide +kernel
theorem dX10_looked_1 : decode cX10_looked 1 = .ok (.istore_n 1, 1) := by decide +kernel
theorem dX10_looked_2 : decode cX10_looked 2 = .ok (.iload_n 1, 1) := by decide +kernel
theorem dX10_looked_3 : decode cX10_looked 3 = .ok (.aload_n 0, 1) := by decide +kernel
theorem dX10_looked_4 : decode cX10_looked 4 = .ok (.getfield 11, 3) := by decide +kernel
theorem dX10_looked_7 : decode cX10_looked 7 = .ok (.bipush 38, 2) := by decide +kernel
theorem dX10_looked_9 : decode cX10_looked 9 = .ok (.iaload, 1) := by decide +kernel
theorem dX10_looked_10 : decode cX10_looked 10 = .ok (.if_icmp .ge 54, 3) := by decide +kernel
theorem dX10_looked_13 : decode cX10_looked 13 = .ok (.aload_n 0, 1) := by decide +kernel
theorem dX10_looked_14 : decode cX10_looked 14 = .ok (.getfield 11, 3) := by decide +kernel
theorem dX10_looked_17 : decode cX10_looked 17 = .ok (.bipush 39, 2) := by decide +kernel
theorem dX10_looked_19 : decode cX10_looked 19 = .ok (.iload_n 1, 1) := by decide +kernel
theorem dX10_looked_20 : decode cX10_looked 20 = .ok (.iadd, 1) := by decide +kernel
theorem dX10_looked_21 : decode cX10_looked 21 = .ok (.iaload, 1) := by decide +kernel
theorem dX10_looked_22 : decode cX10_looked 22 = .ok (.istore_n 2, 1) := by decide +kernel
theorem dX10_looked_23 : decode cX10_looked 23 = .ok (.aload_n 0, 1) := by decide +kernel
theorem dX10_looked_24 : decode cX10_looked 24 = .ok (.iload_n 2, 1) := by decide +kernel
theorem dX10_looked_25 : decode cX10_looked 25 = .ok (.invokevirtual 68, 3) := by decide +kernel
theorem dX10_looked_28 : decode cX10_looked 28 = .ok (.ifCond .eq 28, 3) := by decide +kernel
theorem dX10_looked_31 : decode cX10_looked 31 = .ok (.aload_n 0, 1) := by decide +kernel
theorem dX10_looked_32 : decode cX10_looked 32 = .ok (.getfield 11, 3) := by decide +kernel
theorem dX10_looked_35 : decode cX10_looked 35 = .ok (.iconst 1, 1) := by decide +kernel
theorem dX10_looked_36 : decode cX10_looked 36 = .ok (.iaload, 1) := by decide +kernel
theorem dX10_looked_37 : decode cX10_looked 37 = .ok (.iload_n 2, 1) := by decide +kernel
theorem dX10_looked_38 : decode cX10_looked 38 = .ok (.invokestatic 97, 3) := by decide +kernel
theorem dX10_looked_41 : decode cX10_looked 41 = .ok (.invokestatic 90, 3) := by decide +kernel
theorem dX10_looked_44 : decode cX10_looked 44 = .ok (.aload_n 0, 1) := by decide +kernel
theorem dX10_looked_45 : decode cX10_looked 45 = .ok (.getfield 11, 3) := by decide +kernel
theorem dX10_looked_48 : decode cX10_looked 48 = .ok (.bipush 47, 2) := by decide +kernel
theorem dX10_looked_50 : decode cX10_looked 50 = .ok (.iload_n 1, 1) := by decide +kernel
theorem dX10_looked_51 : decode cX10_looked 51 = .ok (.iadd, 1) := by decide +kernel
theorem dX10_looked_52 : decode cX10_looked 52 = .ok (.iaload, 1) := by decide +kernel
theorem dX10_looked_53 : decode cX10_looked 53 = .ok (.if_icmp .eq 5, 3) := by decide +kernel
theorem dX10_looked_56 : decode cX10_looked 56 = .ok (.iload_n 1, 1) := by decide +kernel
theorem dX10_looked_57 : decode cX10_looked 57 = .ok (.ireturn, 1) := by decide +kernel
theorem dX10_looked_58 : decode cX10_looked 58 = .ok (.iinc 1 1, 3) := by decide +kernel
theorem dX10_looked_61 : decode cX10_looked 61 = .ok (.goto (-59), 3) := by decide +kernel
theorem dX10_looked_64 : decode cX10_looked 64 = .ok (.bipush (-5), 2) := by decide +kernel
theorem dX10_looked_66 : decode cX10_looked 66 = .ok (.ireturn, 1) := by decide +kernel
theorem dX10_feed_0 : decode cX10_feed 0 = .ok (.iload_n 1, 1) := by decide +kernel
theorem dX10_feed_1 : decode cX10_feed 1 = .ok (.i2l, 1) := by decide +kernel
theorem dX10_feed_2 : decode cX10_feed 2 = .ok (.lconst 0, 1) := by decide +kernel
theorem dX10_feed_3 : decode cX10_feed 3 = .ok (.ldc2_w 179, 3) := by decide +kernel
theorem dX10_feed_6 : decode cX10_feed 6 = .ok (.invokestatic 60, 3) := by decide +kernel
theorem dX10_feed_9 : decode cX10_feed 9 = .ok (.ifCond .ne 6, 3) := by decide +kernel
theorem dX10_feed_12 : decode cX10_feed 12 = .ok (.bipush (-2), 2) := by decide +kernel
theorem dX10_feed_14 : decode cX10_feed 14 = .ok (.ireturn, 1) := by decide +kernel
theorem dX10_feed_15 : decode cX10_feed 15 = .ok (.aload_n 0, 1) := by decide +kernel
theorem dX10_feed_16 : decode cX10_feed 16 = .ok (.getfield 181, 3) := by decide +kernel
theorem dX10_feed_19 : decode cX10_feed 19 = .ok (.bipush 100, 2) := by decide +kernel
theorem dX10_feed_21 : decode cX10_feed 21 = .ok (.if_icmp .ne 6, 3) := by decide +kernel
theorem dX10_feed_24 : decode cX10_feed 24 = .ok (.bipush (-4), 2) := by decide +kernel
theorem dX10_feed_26 : decode cX10_feed 26 = .ok (.ireturn, 1) := by decide +kernel
theorem dX10_feed_27 : decode cX10_feed 27 = .ok (.aload_n 0, 1) := by decide +kernel
theorem dX10_feed_28 : decode cX10_feed 28 = .ok (.getfield 31, 3) := by decide +kernel
theorem dX10_feed_31 : decode cX10_feed 31 = .ok (.aload_n 0, 1) := by decide +kernel
theorem dX10_feed_32 : decode cX10_feed 32 = .ok (.getfield 181, 3) := by decide +kernel
theorem dX10_feed_35 : decode cX10_feed 35 = .ok (.iload_n 1, 1) := by decide +kernel
theorem dX10_feed_36 : decode cX10_feed 36 = .ok (.iastore, 1) := by decide +kernel
theorem dX10_feed_37 : decode cX10_feed 37 = .ok (.aload_n 0, 1) := by decide +kernel
theorem dX10_feed_38 : decode cX10_feed 38 = .ok (.dup, 1) := by decide +kernel
theorem dX10_feed_39 : decode cX10_feed 39 = .ok (.getfield 181, 3) := by decide +kernel
theorem dX10_feed_42 : decode cX10_feed 42 = .ok (.iconst 1, 1) := by decide +kernel
theorem dX10_feed_43 : decode cX10_feed 43 = .ok (.iadd, 1) := by decide +kernel
theorem dX10_feed_44 : decode cX10_feed 44 = .ok (.putfield 181, 3) := by decide +kernel
theorem dX10_feed_47 : decode cX10_feed 47 = .ok (.aload_n 0, 1) := by decide +kernel
theorem dX10_feed_48 : decode cX10_feed 48 = .ok (.getfield 181, 3) := by decide +kernel
theorem dX10_feed_51 : decode cX10_feed 51 = .ok (.ireturn, 1) := by decide +kernel
theorem dX10_here_0 : decode cX10_here 0 = .ok (.aload_n 0, 1) := by decide +kernel
theorem dX10_here_1 : decode cX10_here 1 = .ok (.getfield 184, 3) := by decide +kernel
theorem dX10_here_4 : decode cX10_here 4 = .ok (.aload_n 0, 1) := by decide +kernel
theorem dX10_here_5 : decode cX10_here 5 = .ok (.getfield 181, 3) := by decide +kernel
theorem dX10_here_8 : decode cX10_here 8 = .ok (.if_icmp .ge 15, 3) := by decide +kernel
theorem dX10_here_11 : decode cX10_here 11 = .ok (.aload_n 0, 1) := by decide +kernel
theorem dX10_here_12 : decode cX10_here 12 = .ok (.getfield 31, 3) := by decide +kernel
theorem dX10_here_15 : decode cX10_here 15 = .ok (.aload_n 0, 1) := by decide +kernel
theorem dX10_here_16 : decode cX10_here 16 = .ok (.getfield 184, 3) := by decide +kernel
theorem dX10_here_19 : decode cX10_here 19 = .ok (.iaload, 1) := by decide +kernel
theorem dX10_here_20 : decode cX10_here 20 = .ok (.goto 4, 3) := by decide +kernel
theorem dX10_here_23 : decode cX10_here 23 = .ok (.iconst (-1), 1) := by decide +kernel
theorem dX10_here_24 : decode cX10_here 24 = .ok (.ireturn, 1) := by decide +kernel
theorem dX10_isDigit_0 : decode cX10_isDigit 0 = .ok (.aload_n 0, 1) := by decide +kernel
theorem dX10_isDigit_1 : decode cX10_isDigit 1 = .ok (.invokevirtual 187, 3) := by decide +kernel
theorem dX10_isDigit_4 : decode cX10_isDigit 4 = .ok (.i2l, 1) := by decide +kernel
theorem dX10_isDigit_5 : decode cX10_isDigit 5 = .ok (.ldc2_w 190, 3) := by decide +kernel
theorem dX10_isDigit_8 : decode cX10_isDigit 8 = .ok (.ldc2_w 192, 3) := by decide +kernel
theorem dX10_isDigit_11 : decode cX10_isDigit 11 = .ok (.invokestatic 60, 3) := by decide +kernel
theorem dX10_isDigit_14 : decode cX10_isDigit 14 = .ok (.ireturn, 1) := by decide +kernel
theorem dX10_takes_0 : decode cX10_takes 0 = .ok (.aload_n 0, 1) := by decide +kernel
theorem dX10_takes_1 : decode cX10_takes 1 = .ok (.iconst 0, 1) := by decide +kernel
theorem dX10_takes_2 : decode cX10_takes 2 = .ok (.putfield 194, 3) := by decide +kernel
theorem dX10_takes_5 : decode cX10_takes 5 = .ok (.aload_n 0, 1) := by decide +kernel
theorem dX10_takes_6 : decode cX10_takes 6 = .ok (.getfield 194, 3) := by decide +kernel
theorem dX10_takes_9 : decode cX10_takes 9 = .ok (.iload_n 1, 1) := by decide +kernel
theorem dX10_takes_10 : decode cX10_takes 10 = .ok (.if_icmp .ge 49, 3) := by decide +kernel
theorem dX10_takes_13 : decode cX10_takes 13 = .ok (.aload_n 0, 1) := by decide +kernel
theorem dX10_takes_14 : decode cX10_takes 14 = .ok (.invokevirtual 197, 3) := by decide +kernel
theorem dX10_takes_17 : decode cX10_takes 17 = .ok (.ifCond .eq 42, 3) := by decide +kernel
theorem dX10_takes_20 : decode cX10_takes 20 = .ok (.aload_n 0, 1) := by decide +kernel
theorem dX10_takes_21 : decode cX10_takes 21 = .ok (.getfield 34, 3) := by decide +kernel
theorem dX10_takes_24 : decode cX10_takes 24 = .ok (.aload_n 0, 1) := by decide +kernel
theorem dX10_takes_25 : decode cX10_takes 25 = .ok (.getfield 194, 3) := by decide +kernel
theorem dX10_takes_28 : decode cX10_takes 28 = .ok (.aload_n 0, 1) := by decide +kernel
theorem dX10_takes_29 : decode cX10_takes 29 = .ok (.invokevirtual 187, 3) := by decide +kernel
theorem dX10_takes_32 : decode cX10_takes 32 = .ok (.bipush 48, 2) := by decide +kernel
theorem dX10_takes_34 : decode cX10_takes 34 = .ok (.isub, 1) := by decide +kernel
theorem dX10_takes_35 : decode cX10_takes 35 = .ok (.iastore, 1) := by decide +kernel
theorem dX10_takes_36 : decode cX10_takes 36 = .ok (.aload_n 0, 1) := by decide +kernel
theorem dX10_takes_37 : decode cX10_takes 37 = .ok (.dup, 1) := by decide +kernel
theorem dX10_takes_38 : decode cX10_takes 38 = .ok (.getfield 194, 3) := by decide +kernel
theorem dX10_takes_41 : decode cX10_takes 41 = .ok (.iconst 1, 1) := by decide +kernel
theorem dX10_takes_42 : decode cX10_takes 42 = .ok (.iadd, 1) := by decide +kernel
theorem dX10_takes_43 : decode cX10_takes 43 = .ok (.putfield 194, 3) := by decide +kernel
theorem dX10_takes_46 : decode cX10_takes 46 = .ok (.aload_n 0, 1) := by decide +kernel
theorem dX10_takes_47 : decode cX10_takes 47 = .ok (.dup, 1) := by decide +kernel
theorem dX10_takes_48 : decode cX10_takes 48 = .ok (.getfield 184, 3) := by decide +kernel
theorem dX10_takes_51 : decode cX10_takes 51 = .ok (.iconst 1, 1) := by decide +kernel
theorem dX10_takes_52 : decode cX10_takes 52 = .ok (.iadd, 1) := by decide +kernel
theorem dX10_takes_53 : decode cX10_takes 53 = .ok (.putfield 184, 3) := by decide +kernel
theorem dX10_takes_56 : decode cX10_takes 56 = .ok (.goto (-51), 3) := by decide +kernel
theorem dX10_takes_59 : decode cX10_takes 59 = .ok (.return_, 1) := by decide +kernel
theorem dX10_hasNumber_0 : decode cX10_hasNumber 0 = .ok (.aload_n 0, 1) := by decide +kernel
theorem dX10_hasNumber_1 : decode cX10_hasNumber 1 = .ok (.invokevirtual 187, 3) := by decide +kernel
theorem dX10_hasNumber_4 : decode cX10_hasNumber 4 = .ok (.bipush 45, 2) := by decide +kernel
theorem dX10_hasNumber_6 : decode cX10_hasNumber 6 = .ok (.if_icmp .ne 7, 3) := by decide +kernel
theorem dX10_hasNumber_9 : decode cX10_hasNumber 9 = .ok (.iconst 1, 1) := by decide +kernel
theorem dX10_hasNumber_10 : decode cX10_hasNumber 10 = .ok (.goto 4, 3) := by decide +kernel
theorem dX10_hasNumber_13 : decode cX10_hasNumber 13 = .ok (.iconst 0, 1) := by decide +kernel
theorem dX10_hasNumber_14 : decode cX10_hasNumber 14 = .ok (.istore_n 1, 1) := by decide +kernel
theorem dX10_hasNumber_15 : decode cX10_hasNumber 15 = .ok (.aload_n 0, 1) := by decide +kernel
theorem dX10_hasNumber_16 : decode cX10_hasNumber 16 = .ok (.dup, 1) := by decide +kernel
theorem dX10_hasNumber_17 : decode cX10_hasNumber 17 = .ok (.getfield 184, 3) := by decide +kernel
theorem dX10_hasNumber_20 : decode cX10_hasNumber 20 = .ok (.iload_n 1, 1) := by decide +kernel
theorem dX10_hasNumber_21 : decode cX10_hasNumber 21 = .ok (.ifCond .eq 7, 3) := by decide +kernel
theorem dX10_hasNumber_24 : decode cX10_hasNumber 24 = .ok (.iconst 1, 1) := by decide +kernel
theorem dX10_hasNumber_25 : decode cX10_hasNumber 25 = .ok (.goto 4, 3) := by decide +kernel
theorem dX10_hasNumber_28 : decode cX10_hasNumber 28 = .ok (.iconst 0, 1) := by decide +kernel
theorem dX10_hasNumber_29 : decode cX10_hasNumber 29 = .ok (.iadd, 1) := by decide +kernel
theorem dX10_hasNumber_30 : decode cX10_hasNumber 30 = .ok (.putfield 184, 3) := by decide +kernel
theorem dX10_hasNumber_33 : decode cX10_hasNumber 33 = .ok (.aload_n 0, 1) := by decide +kernel
theorem dX10_hasNumber_34 : decode cX10_hasNumber 34 = .ok (.iconst 0, 1) := by decide +kernel
theorem dX10_hasNumber_35 : decode cX10_hasNumber 35 = .ok (.putfield 200, 3) := by decide +kernel
theorem dX10_hasNumber_38 : decode cX10_hasNumber 38 = .ok (.iconst 0, 1) := by decide +kernel
theorem dX10_hasNumber_39 : decode cX10_hasNumber 39 = .ok (.istore_n 2, 1) := by decide +kernel
theorem dX10_hasNumber_40 : decode cX10_hasNumber 40 = .ok (.iload_n 2, 1) := by decide +kernel
theorem dX10_hasNumber_41 : decode cX10_hasNumber 41 = .ok (.iconst 2, 1) := by decide +kernel
theorem dX10_hasNumber_42 : decode cX10_hasNumber 42 = .ok (.if_icmp .ge 45, 3) := by decide +kernel
theorem dX10_hasNumber_45 : decode cX10_hasNumber 45 = .ok (.aload_n 0, 1) := by decide +kernel
theorem dX10_hasNumber_46 : decode cX10_hasNumber 46 = .ok (.invokevirtual 197, 3) := by decide +kernel
theorem dX10_hasNumber_49 : decode cX10_hasNumber 49 = .ok (.ifCond .eq 38, 3) := by decide +kernel
theorem dX10_hasNumber_52 : decode cX10_hasNumber 52 = .ok (.aload_n 0, 1) := by decide +kernel
theorem dX10_hasNumber_53 : decode cX10_hasNumber 53 = .ok (.bipush 10, 2) := by decide +kernel
theorem dX10_hasNumber_55 : decode cX10_hasNumber 55 = .ok (.aload_n 0, 1) := by decide +kernel
theorem dX10_hasNumber_56 : decode cX10_hasNumber 56 = .ok (.getfield 200, 3) := by decide +kernel
theorem dX10_hasNumber_59 : decode cX10_hasNumber 59 = .ok (.imul, 1) := by decide +kernel
theorem dX10_hasNumber_60 : decode cX10_hasNumber 60 = .ok (.aload_n 0, 1) := by decide +kernel
theorem dX10_hasNumber_61 : decode cX10_hasNumber 61 = .ok (.invokevirtual 187, 3) := by decide +kernel
theorem dX10_hasNumber_64 : decode cX10_hasNumber 64 = .ok (.iadd, 1) := by decide +kernel
theorem dX10_hasNumber_65 : decode cX10_hasNumber 65 = .ok (.bipush 48, 2) := by decide +kernel
theorem dX10_hasNumber_67 : decode cX10_hasNumber 67 = .ok (.isub, 1) := by decide +kernel
theorem dX10_hasNumber_68 : decode cX10_hasNumber 68 = .ok (.putfield 200, 3) := by decide +kernel
theorem dX10_hasNumber_71 : decode cX10_hasNumber 71 = .ok (.iinc 2 1, 3) := by decide +kernel
theorem dX10_hasNumber_74 : decode cX10_hasNumber 74 = .ok (.aload_n 0, 1) := by decide +kernel
theorem dX10_hasNumber_75 : decode cX10_hasNumber 75 = .ok (.dup, 1) := by decide +kernel
theorem dX10_hasNumber_76 : decode cX10_hasNumber 76 = .ok (.getfield 184, 3) := by decide +kernel
theorem dX10_hasNumber_79 : decode cX10_hasNumber 79 = .ok (.iconst 1, 1) := by decide +kernel
theorem dX10_hasNumber_80 : decode cX10_hasNumber 80 = .ok (.iadd, 1) := by decide +kernel
theorem dX10_hasNumber_81 : decode cX10_hasNumber 81 = .ok (.putfield 184, 3) := by decide +kernel
theorem dX10_hasNumber_84 : decode cX10_hasNumber 84 = .ok (.goto (-44), 3) := by decide +kernel
theorem dX10_hasNumber_87 : decode cX10_hasNumber 87 = .ok (.aload_n 0, 1) := by decide +kernel
theorem dX10_hasNumber_88 : decode cX10_hasNumber 88 = .ok (.iload_n 1, 1) := by decide +kernel
theorem dX10_hasNumber_89 : decode cX10_hasNumber 89 = .ok (.ifCond .eq 11, 3) := by decide +kernel
theorem dX10_hasNumber_92 : decode cX10_hasNumber 92 = .ok (.aload_n 0, 1) := by decide +kernel
theorem dX10_hasNumber_93 : decode cX10_hasNumber 93 = .ok (.getfield 200, 3) := by decide +kernel
theorem dX10_hasNumber_96 : decode cX10_hasNumber 96 = .ok (.ineg, 1) := by decide +kernel
theorem dX10_hasNumber_97 : decode cX10_hasNumber 97 = .ok (.goto 7, 3) := by decide +kernel
theorem dX10_hasNumber_100 : decode cX10_hasNumber 100 = .ok (.aload_n 0, 1) := by decide +kernel
theorem dX10_hasNumber_101 : decode cX10_hasNumber 101 = .ok (.getfield 200, 3) := by decide +kernel
theorem dX10_hasNumber_104 : decode cX10_hasNumber 104 = .ok (.putfield 200, 3) := by decide +kernel
theorem dX10_hasNumber_107 : decode cX10_hasNumber 107 = .ok (.iload_n 2, 1) := by decide +kernel
theorem dX10_hasNumber_108 : decode cX10_hasNumber 108 = .ok (.ifCond .le 7, 3) := by decide +kernel
theorem dX10_hasNumber_111 : decode cX10_hasNumber 111 = .ok (.iconst 1, 1) := by decide +kernel
theorem dX10_hasNumber_112 : decode cX10_hasNumber 112 = .ok (.goto 4, 3) := by decide +kernel
theorem dX10_hasNumber_115 : decode cX10_hasNumber 115 = .ok (.iconst 0, 1) := by decide +kernel
theorem dX10_hasNumber_116 : decode cX10_hasNumber 116 = .ok (.ireturn, 1) := by decide +kernel
theorem dX10_hasClause_0 : decode cX10_hasClause 0 = .ok (.aload_n 0, 1) := by decide +kernel
theorem dX10_hasClause_1 : decode cX10_hasClause 1 = .ok (.invokevirtual 187, 3) := by decide +kernel
theorem dX10_hasClause_4 : decode cX10_hasClause 4 = .ok (.istore_n 1, 1) := by decide +kernel
theorem dX10_hasClause_5 : decode cX10_hasClause 5 = .ok (.iload_n 1, 1) := by decide +kernel
theorem dX10_hasClause_6 : decode cX10_hasClause 6 = .ok (.bipush 110, 2) := by decide +kernel
theorem dX10_hasClause_8 : decode cX10_hasClause 8 = .ok (.if_icmp .eq 15, 3) := by decide +kernel
theorem dX10_hasClause_11 : decode cX10_hasClause 11 = .ok (.iload_n 1, 1) := by decide +kernel
theorem dX10_hasClause_12 : decode cX10_hasClause 12 = .ok (.bipush 116, 2) := by decide +kernel
theorem dX10_hasClause_14 : decode cX10_hasClause 14 = .ok (.if_icmp .eq 9, 3) := by decide +kernel
theorem dX10_hasClause_17 : decode cX10_hasClause 17 = .ok (.iload_n 1, 1) := by decide +kernel
theorem dX10_hasClause_18 : decode cX10_hasClause 18 = .ok (.bipush 119, 2) := by decide +kernel
theorem dX10_hasClause_20 : decode cX10_hasClause 20 = .ok (.if_icmp .ne 7, 3) := by decide +kernel
theorem dX10_hasClause_23 : decode cX10_hasClause 23 = .ok (.iconst 1, 1) := by decide +kernel
theorem dX10_hasClause_24 : decode cX10_hasClause 24 = .ok (.goto 14, 3) := by decide +kernel
theorem dX10_hasClause_27 : decode cX10_hasClause 27 = .ok (.iload_n 1, 1) := by decide +kernel
theorem dX10_hasClause_28 : decode cX10_hasClause 28 = .ok (.bipush 120, 2) := by decide +kernel
theorem dX10_hasClause_30 : decode cX10_hasClause 30 = .ok (.if_icmp .ne 7, 3) := by decide +kernel
theorem dX10_hasClause_33 : decode cX10_hasClause 33 = .ok (.iconst 2, 1) := by decide +kernel
theorem dX10_hasClause_34 : decode cX10_hasClause 34 = .ok (.goto 4, 3) := by decide +kernel
theorem dX10_hasClause_37 : decode cX10_hasClause 37 = .ok (.iconst 0, 1) := by decide +kernel
theorem dX10_hasClause_38 : decode cX10_hasClause 38 = .ok (.istore_n 2, 1) := by decide +kernel
theorem dX10_hasClause_39 : decode cX10_hasClause 39 = .ok (.iload_n 2, 1) := by decide +kernel
theorem dX10_hasClause_40 : decode cX10_hasClause 40 = .ok (.ifCond .gt 45, 3) := by decide +kernel
theorem dX10_hasClause_43 : decode cX10_hasClause 43 = .ok (.iload_n 1, 1) := by decide +kernel
theorem dX10_hasClause_44 : decode cX10_hasClause 44 = .ok (.bipush 43, 2) := by decide +kernel
theorem dX10_hasClause_46 : decode cX10_hasClause 46 = .ok (.if_icmp .eq 39, 3) := by decide +kernel
theorem dX10_hasClause_49 : decode cX10_hasClause 49 = .ok (.iload_n 1, 1) := by decide +kernel
theorem dX10_hasClause_50 : decode cX10_hasClause 50 = .ok (.bipush 45, 2) := by decide +kernel
theorem dX10_hasClause_52 : decode cX10_hasClause 52 = .ok (.if_icmp .eq 33, 3) := by decide +kernel
theorem dX10_hasClause_55 : decode cX10_hasClause 55 = .ok (.iload_n 1, 1) := by decide +kernel
theorem dX10_hasClause_56 : decode cX10_hasClause 56 = .ok (.bipush 113, 2) := by decide +kernel
theorem dX10_hasClause_58 : decode cX10_hasClause 58 = .ok (.if_icmp .eq 27, 3) := by decide +kernel
theorem dX10_hasClause_61 : decode cX10_hasClause 61 = .ok (.iload_n 1, 1) := by decide +kernel
theorem dX10_hasClause_62 : decode cX10_hasClause 62 = .ok (.bipush 103, 2) := by decide +kernel
theorem dX10_hasClause_64 : decode cX10_hasClause 64 = .ok (.if_icmp .eq 21, 3) := by decide +kernel
theorem dX10_hasClause_67 : decode cX10_hasClause 67 = .ok (.iload_n 1, 1) := by decide +kernel
theorem dX10_hasClause_68 : decode cX10_hasClause 68 = .ok (.bipush 100, 2) := by decide +kernel
theorem dX10_hasClause_70 : decode cX10_hasClause 70 = .ok (.if_icmp .eq 15, 3) := by decide +kernel
theorem dX10_hasClause_73 : decode cX10_hasClause 73 = .ok (.iload_n 1, 1) := by decide +kernel
theorem dX10_hasClause_74 : decode cX10_hasClause 74 = .ok (.bipush 111, 2) := by decide +kernel
theorem dX10_hasClause_76 : decode cX10_hasClause 76 = .ok (.if_icmp .eq 9, 3) := by decide +kernel
theorem dX10_hasClause_79 : decode cX10_hasClause 79 = .ok (.iload_n 1, 1) := by decide +kernel
theorem dX10_hasClause_80 : decode cX10_hasClause 80 = .ok (.bipush 107, 2) := by decide +kernel
theorem dX10_hasClause_82 : decode cX10_hasClause 82 = .ok (.if_icmp .ne 7, 3) := by decide +kernel
theorem dX10_hasClause_85 : decode cX10_hasClause 85 = .ok (.iconst 1, 1) := by decide +kernel
theorem dX10_hasClause_86 : decode cX10_hasClause 86 = .ok (.goto 4, 3) := by decide +kernel
theorem dX10_hasClause_89 : decode cX10_hasClause 89 = .ok (.iconst 0, 1) := by decide +kernel
theorem dX10_hasClause_90 : decode cX10_hasClause 90 = .ok (.istore_n 3, 1) := by decide +kernel
theorem dX10_hasClause_91 : decode cX10_hasClause 91 = .ok (.iload_n 3, 1) := by decide +kernel
theorem dX10_hasClause_92 : decode cX10_hasClause 92 = .ok (.ifCond .ne 5, 3) := by decide +kernel
theorem dX10_hasClause_95 : decode cX10_hasClause 95 = .ok (.iconst 0, 1) := by decide +kernel
theorem dX10_hasClause_96 : decode cX10_hasClause 96 = .ok (.ireturn, 1) := by decide +kernel
theorem dX10_hasClause_97 : decode cX10_hasClause 97 = .ok (.aload_n 0, 1) := by decide +kernel
theorem dX10_hasClause_98 : decode cX10_hasClause 98 = .ok (.dup, 1) := by decide +kernel
theorem dX10_hasClause_99 : decode cX10_hasClause 99 = .ok (.getfield 184, 3) := by decide +kernel
theorem dX10_hasClause_102 : decode cX10_hasClause 102 = .ok (.iconst 1, 1) := by decide +kernel
theorem dX10_hasClause_103 : decode cX10_hasClause 103 = .ok (.iadd, 1) := by decide +kernel
theorem dX10_hasClause_104 : decode cX10_hasClause 104 = .ok (.putfield 184, 3) := by decide +kernel
theorem dX10_hasClause_107 : decode cX10_hasClause 107 = .ok (.aload_n 0, 1) := by decide +kernel
theorem dX10_hasClause_108 : decode cX10_hasClause 108 = .ok (.iload_n 1, 1) := by decide +kernel
theorem dX10_hasClause_109 : decode cX10_hasClause 109 = .ok (.bipush 43, 2) := by decide +kernel
theorem dX10_hasClause_111 : decode cX10_hasClause 111 = .ok (.if_icmp .eq 9, 3) := by decide +kernel
theorem dX10_hasClause_114 : decode cX10_hasClause 114 = .ok (.iload_n 1, 1) := by decide +kernel
theorem dX10_hasClause_115 : decode cX10_hasClause 115 = .ok (.bipush 45, 2) := by decide +kernel
theorem dX10_hasClause_117 : decode cX10_hasClause 117 = .ok (.if_icmp .ne 7, 3) := by decide +kernel
theorem dX10_hasClause_120 : decode cX10_hasClause 120 = .ok (.iconst 4, 1) := by decide +kernel
theorem dX10_hasClause_121 : decode cX10_hasClause 121 = .ok (.goto 4, 3) := by decide +kernel
theorem dX10_hasClause_124 : decode cX10_hasClause 124 = .ok (.iload_n 2, 1) := by decide +kernel
theorem dX10_hasClause_125 : decode cX10_hasClause 125 = .ok (.invokevirtual 203, 3) := by decide +kernel
theorem dX10_hasClause_128 : decode cX10_hasClause 128 = .ok (.aload_n 0, 1) := by decide +kernel
theorem dX10_hasClause_129 : decode cX10_hasClause 129 = .ok (.getfield 194, 3) := by decide +kernel
theorem dX10_hasClause_132 : decode cX10_hasClause 132 = .ok (.iload_n 2, 1) := by decide +kernel
theorem dX10_hasClause_133 : decode cX10_hasClause 133 = .ok (.if_icmp .ge 5, 3) := by decide +kernel
theorem dX10_hasClause_136 : decode cX10_hasClause 136 = .ok (.iconst 0, 1) := by decide +kernel
theorem dX10_hasClause_137 : decode cX10_hasClause 137 = .ok (.ireturn, 1) := by decide +kernel
theorem dX10_hasClause_138 : decode cX10_hasClause 138 = .ok (.iload_n 1, 1) := by decide +kernel
theorem dX10_hasClause_139 : decode cX10_hasClause 139 = .ok (.bipush 119, 2) := by decide +kernel
theorem dX10_hasClause_141 : decode cX10_hasClause 141 = .ok (.if_icmp .eq 9, 3) := by decide +kernel
theorem dX10_hasClause_144 : decode cX10_hasClause 144 = .ok (.iload_n 1, 1) := by decide +kernel
theorem dX10_hasClause_145 : decode cX10_hasClause 145 = .ok (.bipush 113, 2) := by decide +kernel
theorem dX10_hasClause_147 : decode cX10_hasClause 147 = .ok (.if_icmp .ne 10, 3) := by decide +kernel
theorem dX10_hasClause_150 : decode cX10_hasClause 150 = .ok (.aload_n 0, 1) := by decide +kernel
theorem dX10_hasClause_151 : decode cX10_hasClause 151 = .ok (.invokevirtual 206, 3) := by decide +kernel
theorem dX10_hasClause_154 : decode cX10_hasClause 154 = .ok (.ifCond .eq 7, 3) := by decide +kernel
theorem dX10_hasClause_157 : decode cX10_hasClause 157 = .ok (.iconst 1, 1) := by decide +kernel
theorem dX10_hasClause_158 : decode cX10_hasClause 158 = .ok (.goto 4, 3) := by decide +kernel
theorem dX10_hasClause_161 : decode cX10_hasClause 161 = .ok (.iconst 0, 1) := by decide +kernel
theorem dX10_hasClause_162 : decode cX10_hasClause 162 = .ok (.ireturn, 1) := by decide +kernel
theorem dX10_isDone_0 : decode cX10_isDone 0 = .ok (.iload_n 1, 1) := by decide +kernel
theorem dX10_isDone_1 : decode cX10_isDone 1 = .ok (.lookupswitch 289 #[(43, 110), (45, 110), (100, 217), (103, 204), (110, 91), (111, 231), (113, 187), (116, 245), (119, 164), (120, 264)], 91) := by decide +kernel
theorem dX10_isDone_92 : decode cX10_isDone 92 = .ok (.aload_n 0, 1) := by decide +kernel
theorem dX10_isDone_93 : decode cX10_isDone 93 = .ok (.aload_n 0, 1) := by decide +kernel
theorem dX10_isDone_94 : decode cX10_isDone 94 = .ok (.getfield 34, 3) := by decide +kernel
theorem dX10_isDone_97 : decode cX10_isDone 97 = .ok (.iconst 0, 1) := by decide +kernel
theorem dX10_isDone_98 : decode cX10_isDone 98 = .ok (.iaload, 1) := by decide +kernel
theorem dX10_isDone_99 : decode cX10_isDone 99 = .ok (.invokevirtual 209, 3) := by decide +kernel
theorem dX10_isDone_102 : decode cX10_isDone 102 = .ok (.ifCond .lt 7, 3) := by decide +kernel
theorem dX10_isDone_105 : decode cX10_isDone 105 = .ok (.iconst 1, 1) := by decide +kernel
theorem dX10_isDone_106 : decode cX10_isDone 106 = .ok (.goto 4, 3) := by decide +kernel
theorem dX10_isDone_109 : decode cX10_isDone 109 = .ok (.iconst 0, 1) := by decide +kernel
theorem dX10_isDone_110 : decode cX10_isDone 110 = .ok (.ireturn, 1) := by decide +kernel
theorem dX10_isDone_111 : decode cX10_isDone 111 = .ok (.iconst 0, 1) := by decide +kernel
theorem dX10_isDone_112 : decode cX10_isDone 112 = .ok (.istore_n 2, 1) := by decide +kernel
theorem dX10_isDone_113 : decode cX10_isDone 113 = .ok (.iconst 0, 1) := by decide +kernel
theorem dX10_isDone_114 : decode cX10_isDone 114 = .ok (.istore_n 3, 1) := by decide +kernel
theorem dX10_isDone_115 : decode cX10_isDone 115 = .ok (.iload_n 3, 1) := by decide +kernel
theorem dX10_isDone_116 : decode cX10_isDone 116 = .ok (.aload_n 0, 1) := by decide +kernel
theorem dX10_isDone_117 : decode cX10_isDone 117 = .ok (.getfield 194, 3) := by decide +kernel
theorem dX10_isDone_120 : decode cX10_isDone 120 = .ok (.if_icmp .ge 20, 3) := by decide +kernel
theorem dX10_isDone_123 : decode cX10_isDone 123 = .ok (.iload_n 2, 1) := by decide +kernel
theorem dX10_isDone_124 : decode cX10_isDone 124 = .ok (.iconst 1, 1) := by decide +kernel
theorem dX10_isDone_125 : decode cX10_isDone 125 = .ok (.aload_n 0, 1) := by decide +kernel
theorem dX10_isDone_126 : decode cX10_isDone 126 = .ok (.getfield 34, 3) := by decide +kernel
theorem dX10_isDone_129 : decode cX10_isDone 129 = .ok (.iload_n 3, 1) := by decide +kernel
theorem dX10_isDone_130 : decode cX10_isDone 130 = .ok (.iaload, 1) := by decide +kernel
theorem dX10_isDone_131 : decode cX10_isDone 131 = .ok (.ishl, 1) := by decide +kernel
theorem dX10_isDone_132 : decode cX10_isDone 132 = .ok (.ior, 1) := by decide +kernel
theorem dX10_isDone_133 : decode cX10_isDone 133 = .ok (.istore_n 2, 1) := by decide +kernel
theorem dX10_isDone_134 : decode cX10_isDone 134 = .ok (.iinc 3 1, 3) := by decide +kernel
theorem dX10_isDone_137 : decode cX10_isDone 137 = .ok (.goto (-22), 3) := by decide +kernel
theorem dX10_isDone_140 : decode cX10_isDone 140 = .ok (.aload_n 0, 1) := by decide +kernel
theorem dX10_isDone_141 : decode cX10_isDone 141 = .ok (.iload_n 2, 1) := by decide +kernel
theorem dX10_isDone_142 : decode cX10_isDone 142 = .ok (.iload_n 1, 1) := by decide +kernel
theorem dX10_isDone_143 : decode cX10_isDone 143 = .ok (.bipush 43, 2) := by decide +kernel
theorem dX10_isDone_145 : decode cX10_isDone 145 = .ok (.if_icmp .ne 7, 3) := by decide +kernel
theorem dX10_isDone_148 : decode cX10_isDone 148 = .ok (.iconst 1, 1) := by decide +kernel
theorem dX10_isDone_149 : decode cX10_isDone 149 = .ok (.goto 4, 3) := by decide +kernel
theorem dX10_isDone_152 : decode cX10_isDone 152 = .ok (.iconst 0, 1) := by decide +kernel
theorem dX10_isDone_153 : decode cX10_isDone 153 = .ok (.invokevirtual 212, 3) := by decide +kernel
theorem dX10_isDone_156 : decode cX10_isDone 156 = .ok (.ifCond .lt 7, 3) := by decide +kernel
theorem dX10_isDone_159 : decode cX10_isDone 159 = .ok (.iconst 1, 1) := by decide +kernel
theorem dX10_isDone_160 : decode cX10_isDone 160 = .ok (.goto 4, 3) := by decide +kernel
theorem dX10_isDone_163 : decode cX10_isDone 163 = .ok (.iconst 0, 1) := by decide +kernel
theorem dX10_isDone_164 : decode cX10_isDone 164 = .ok (.ireturn, 1) := by decide +kernel
theorem dX10_isDone_165 : decode cX10_isDone 165 = .ok (.aload_n 0, 1) := by decide +kernel
theorem dX10_isDone_166 : decode cX10_isDone 166 = .ok (.aload_n 0, 1) := by decide +kernel
theorem dX10_isDone_167 : decode cX10_isDone 167 = .ok (.getfield 34, 3) := by decide +kernel
theorem dX10_isDone_170 : decode cX10_isDone 170 = .ok (.iconst 0, 1) := by decide +kernel
theorem dX10_isDone_171 : decode cX10_isDone 171 = .ok (.iaload, 1) := by decide +kernel
theorem dX10_isDone_172 : decode cX10_isDone 172 = .ok (.aload_n 0, 1) := by decide +kernel
theorem dX10_isDone_173 : decode cX10_isDone 173 = .ok (.getfield 200, 3) := by decide +kernel
theorem dX10_isDone_176 : decode cX10_isDone 176 = .ok (.invokevirtual 215, 3) := by decide +kernel
theorem dX10_isDone_179 : decode cX10_isDone 179 = .ok (.ifCond .lt 7, 3) := by decide +kernel
theorem dX10_isDone_182 : decode cX10_isDone 182 = .ok (.iconst 1, 1) := by decide +kernel
theorem dX10_isDone_183 : decode cX10_isDone 183 = .ok (.goto 4, 3) := by decide +kernel
theorem dX10_isDone_186 : decode cX10_isDone 186 = .ok (.iconst 0, 1) := by decide +kernel
theorem dX10_isDone_187 : decode cX10_isDone 187 = .ok (.ireturn, 1) := by decide +kernel
theorem dX10_isDone_188 : decode cX10_isDone 188 = .ok (.aload_n 0, 1) := by decide +kernel
theorem dX10_isDone_189 : decode cX10_isDone 189 = .ok (.aload_n 0, 1) := by decide +kernel
theorem dX10_isDone_190 : decode cX10_isDone 190 = .ok (.getfield 200, 3) := by decide +kernel
theorem dX10_isDone_193 : decode cX10_isDone 193 = .ok (.invokevirtual 218, 3) := by decide +kernel
theorem dX10_isDone_196 : decode cX10_isDone 196 = .ok (.ifCond .lt 7, 3) := by decide +kernel
theorem dX10_isDone_199 : decode cX10_isDone 199 = .ok (.iconst 1, 1) := by decide +kernel
theorem dX10_isDone_200 : decode cX10_isDone 200 = .ok (.goto 4, 3) := by decide +kernel
theorem dX10_isDone_203 : decode cX10_isDone 203 = .ok (.iconst 0, 1) := by decide +kernel
theorem dX10_isDone_204 : decode cX10_isDone 204 = .ok (.ireturn, 1) := by decide +kernel
theorem dX10_isDone_205 : decode cX10_isDone 205 = .ok (.aload_n 0, 1) := by decide +kernel
theorem dX10_isDone_206 : decode cX10_isDone 206 = .ok (.invokevirtual 221, 3) := by decide +kernel
theorem dX10_isDone_209 : decode cX10_isDone 209 = .ok (.ifCond .lt 7, 3) := by decide +kernel
theorem dX10_isDone_212 : decode cX10_isDone 212 = .ok (.iconst 1, 1) := by decide +kernel
theorem dX10_isDone_213 : decode cX10_isDone 213 = .ok (.goto 4, 3) := by decide +kernel
theorem dX10_isDone_216 : decode cX10_isDone 216 = .ok (.iconst 0, 1) := by decide +kernel
theorem dX10_isDone_217 : decode cX10_isDone 217 = .ok (.ireturn, 1) := by decide +kernel
theorem dX10_isDone_218 : decode cX10_isDone 218 = .ok (.aload_n 0, 1) := by decide +kernel
theorem dX10_isDone_219 : decode cX10_isDone 219 = .ok (.iconst 0, 1) := by decide +kernel
theorem dX10_isDone_220 : decode cX10_isDone 220 = .ok (.invokevirtual 224, 3) := by decide +kernel
theorem dX10_isDone_223 : decode cX10_isDone 223 = .ok (.ifCond .lt 7, 3) := by decide +kernel
theorem dX10_isDone_226 : decode cX10_isDone 226 = .ok (.iconst 1, 1) := by decide +kernel
theorem dX10_isDone_227 : decode cX10_isDone 227 = .ok (.goto 4, 3) := by decide +kernel
theorem dX10_isDone_230 : decode cX10_isDone 230 = .ok (.iconst 0, 1) := by decide +kernel
theorem dX10_isDone_231 : decode cX10_isDone 231 = .ok (.ireturn, 1) := by decide +kernel
theorem dX10_isDone_232 : decode cX10_isDone 232 = .ok (.aload_n 0, 1) := by decide +kernel
theorem dX10_isDone_233 : decode cX10_isDone 233 = .ok (.iconst 1, 1) := by decide +kernel
theorem dX10_isDone_234 : decode cX10_isDone 234 = .ok (.invokevirtual 224, 3) := by decide +kernel
theorem dX10_isDone_237 : decode cX10_isDone 237 = .ok (.ifCond .lt 7, 3) := by decide +kernel
theorem dX10_isDone_240 : decode cX10_isDone 240 = .ok (.iconst 1, 1) := by decide +kernel
theorem dX10_isDone_241 : decode cX10_isDone 241 = .ok (.goto 4, 3) := by decide +kernel
theorem dX10_isDone_244 : decode cX10_isDone 244 = .ok (.iconst 0, 1) := by decide +kernel
theorem dX10_isDone_245 : decode cX10_isDone 245 = .ok (.ireturn, 1) := by decide +kernel
theorem dX10_isDone_246 : decode cX10_isDone 246 = .ok (.aload_n 0, 1) := by decide +kernel
theorem dX10_isDone_247 : decode cX10_isDone 247 = .ok (.aload_n 0, 1) := by decide +kernel
theorem dX10_isDone_248 : decode cX10_isDone 248 = .ok (.getfield 34, 3) := by decide +kernel
theorem dX10_isDone_251 : decode cX10_isDone 251 = .ok (.iconst 0, 1) := by decide +kernel
theorem dX10_isDone_252 : decode cX10_isDone 252 = .ok (.iaload, 1) := by decide +kernel
theorem dX10_isDone_253 : decode cX10_isDone 253 = .ok (.invokevirtual 227, 3) := by decide +kernel
theorem dX10_isDone_256 : decode cX10_isDone 256 = .ok (.ifCond .lt 7, 3) := by decide +kernel
theorem dX10_isDone_259 : decode cX10_isDone 259 = .ok (.iconst 1, 1) := by decide +kernel
theorem dX10_isDone_260 : decode cX10_isDone 260 = .ok (.goto 4, 3) := by decide +kernel
theorem dX10_isDone_263 : decode cX10_isDone 263 = .ok (.iconst 0, 1) := by decide +kernel
theorem dX10_isDone_264 : decode cX10_isDone 264 = .ok (.ireturn, 1) := by decide +kernel
theorem dX10_isDone_265 : decode cX10_isDone 265 = .ok (.aload_n 0, 1) := by decide +kernel
theorem dX10_isDone_266 : decode cX10_isDone 266 = .ok (.aload_n 0, 1) := by decide +kernel
theorem dX10_isDone_267 : decode cX10_isDone 267 = .ok (.getfield 34, 3) := by decide +kernel
theorem dX10_isDone_270 : decode cX10_isDone 270 = .ok (.iconst 0, 1) := by decide +kernel
theorem dX10_isDone_271 : decode cX10_isDone 271 = .ok (.iaload, 1) := by decide +kernel
theorem dX10_isDone_272 : decode cX10_isDone 272 = .ok (.aload_n 0, 1) := by decide +kernel
theorem dX10_isDone_273 : decode cX10_isDone 273 = .ok (.getfield 34, 3) := by decide +kernel
theorem dX10_isDone_276 : decode cX10_isDone 276 = .ok (.iconst 1, 1) := by decide +kernel
theorem dX10_isDone_277 : decode cX10_isDone 277 = .ok (.iaload, 1) := by decide +kernel
theorem dX10_isDone_278 : decode cX10_isDone 278 = .ok (.invokevirtual 230, 3) := by decide +kernel
theorem dX10_isDone_281 : decode cX10_isDone 281 = .ok (.ifCond .lt 7, 3) := by decide +kernel
theorem dX10_isDone_284 : decode cX10_isDone 284 = .ok (.iconst 1, 1) := by decide +kernel
theorem dX10_isDone_285 : decode cX10_isDone 285 = .ok (.goto 4, 3) := by decide +kernel
theorem dX10_isDone_288 : decode cX10_isDone 288 = .ok (.iconst 0, 1) := by decide +kernel
theorem dX10_isDone_289 : decode cX10_isDone 289 = .ok (.ireturn, 1) := by decide +kernel
theorem dX10_isDone_290 : decode cX10_isDone 290 = .ok (.aload_n 0, 1) := by decide +kernel
theorem dX10_isDone_291 : decode cX10_isDone 291 = .ok (.invokevirtual 233, 3) := by decide +kernel
theorem dX10_isDone_294 : decode cX10_isDone 294 = .ok (.ifCond .lt 7, 3) := by decide +kernel
theorem dX10_isDone_297 : decode cX10_isDone 297 = .ok (.iconst 1, 1) := by decide +kernel
theorem dX10_isDone_298 : decode cX10_isDone 298 = .ok (.goto 4, 3) := by decide +kernel
theorem dX10_isDone_301 : decode cX10_isDone 301 = .ok (.iconst 0, 1) := by decide +kernel
theorem dX10_isDone_302 : decode cX10_isDone 302 = .ok (.ireturn, 1) := by decide +kernel
theorem dX10_read_0 : decode cX10_read 0 = .ok (.aload_n 0, 1) := by decide +kernel
theorem dX10_read_1 : decode cX10_read 1 = .ok (.iconst 0, 1) := by decide +kernel
theorem dX10_read_2 : decode cX10_read 2 = .ok (.putfield 184, 3) := by decide +kernel
theorem dX10_read_5 : decode cX10_read 5 = .ok (.iconst 0, 1) := by decide +kernel
theorem dX10_read_6 : decode cX10_read 6 = .ok (.istore_n 1, 1) := by decide +kernel
theorem dX10_read_7 : decode cX10_read 7 = .ok (.iconst 1, 1) := by decide +kernel
theorem dX10_read_8 : decode cX10_read 8 = .ok (.istore_n 2, 1) := by decide +kernel
theorem dX10_read_9 : decode cX10_read 9 = .ok (.iload_n 2, 1) := by decide +kernel
theorem dX10_read_10 : decode cX10_read 10 = .ok (.ifCond .eq 84, 3) := by decide +kernel
theorem dX10_read_13 : decode cX10_read 13 = .ok (.iload_n 1, 1) := by decide +kernel
theorem dX10_read_14 : decode cX10_read 14 = .ok (.ifCond .eq 14, 3) := by decide +kernel
theorem dX10_read_17 : decode cX10_read 17 = .ok (.aload_n 0, 1) := by decide +kernel
theorem dX10_read_18 : decode cX10_read 18 = .ok (.getfield 184, 3) := by decide +kernel
theorem dX10_read_21 : decode cX10_read 21 = .ok (.aload_n 0, 1) := by decide +kernel
theorem dX10_read_22 : decode cX10_read 22 = .ok (.getfield 181, 3) := by decide +kernel
theorem dX10_read_25 : decode cX10_read 25 = .ok (.if_icmp .ge 69, 3) := by decide +kernel
theorem dX10_read_28 : decode cX10_read 28 = .ok (.iload_n 1, 1) := by decide +kernel
theorem dX10_read_29 : decode cX10_read 29 = .ok (.ifCond .le 42, 3) := by decide +kernel
theorem dX10_read_32 : decode cX10_read 32 = .ok (.iload_n 1, 1) := by decide +kernel
theorem dX10_read_33 : decode cX10_read 33 = .ok (.bipush 12, 2) := by decide +kernel
theorem dX10_read_35 : decode cX10_read 35 = .ok (.if_icmp .ge 16, 3) := by decide +kernel
theorem dX10_read_38 : decode cX10_read 38 = .ok (.aload_n 0, 1) := by decide +kernel
theorem dX10_read_39 : decode cX10_read 39 = .ok (.invokevirtual 187, 3) := by decide +kernel
theorem dX10_read_42 : decode cX10_read 42 = .ok (.bipush 59, 2) := by decide +kernel
theorem dX10_read_44 : decode cX10_read 44 = .ok (.if_icmp .ne 7, 3) := by decide +kernel
theorem dX10_read_47 : decode cX10_read 47 = .ok (.iconst 1, 1) := by decide +kernel
theorem dX10_read_48 : decode cX10_read 48 = .ok (.goto 4, 3) := by decide +kernel
theorem dX10_read_51 : decode cX10_read 51 = .ok (.iconst 0, 1) := by decide +kernel
theorem dX10_read_52 : decode cX10_read 52 = .ok (.istore_n 2, 1) := by decide +kernel
theorem dX10_read_53 : decode cX10_read 53 = .ok (.aload_n 0, 1) := by decide +kernel
theorem dX10_read_54 : decode cX10_read 54 = .ok (.dup, 1) := by decide +kernel
theorem dX10_read_55 : decode cX10_read 55 = .ok (.getfield 184, 3) := by decide +kernel
theorem dX10_read_58 : decode cX10_read 58 = .ok (.iload_n 2, 1) := by decide +kernel
theorem dX10_read_59 : decode cX10_read 59 = .ok (.ifCond .eq 7, 3) := by decide +kernel
theorem dX10_read_62 : decode cX10_read 62 = .ok (.iconst 1, 1) := by decide +kernel
theorem dX10_read_63 : decode cX10_read 63 = .ok (.goto 4, 3) := by decide +kernel
theorem dX10_read_66 : decode cX10_read 66 = .ok (.iconst 0, 1) := by decide +kernel
theorem dX10_read_67 : decode cX10_read 67 = .ok (.iadd, 1) := by decide +kernel
theorem dX10_read_68 : decode cX10_read 68 = .ok (.putfield 184, 3) := by decide +kernel
theorem dX10_read_71 : decode cX10_read 71 = .ok (.iload_n 2, 1) := by decide +kernel
theorem dX10_read_72 : decode cX10_read 72 = .ok (.ifCond .eq 14, 3) := by decide +kernel
theorem dX10_read_75 : decode cX10_read 75 = .ok (.aload_n 0, 1) := by decide +kernel
theorem dX10_read_76 : decode cX10_read 76 = .ok (.invokevirtual 236, 3) := by decide +kernel
theorem dX10_read_79 : decode cX10_read 79 = .ok (.ifCond .eq 7, 3) := by decide +kernel
theorem dX10_read_82 : decode cX10_read 82 = .ok (.iconst 1, 1) := by decide +kernel
theorem dX10_read_83 : decode cX10_read 83 = .ok (.goto 4, 3) := by decide +kernel
theorem dX10_read_86 : decode cX10_read 86 = .ok (.iconst 0, 1) := by decide +kernel
theorem dX10_read_87 : decode cX10_read 87 = .ok (.istore_n 2, 1) := by decide +kernel
theorem dX10_read_88 : decode cX10_read 88 = .ok (.iinc 1 1, 3) := by decide +kernel
theorem dX10_read_91 : decode cX10_read 91 = .ok (.goto (-82), 3) := by decide +kernel
theorem dX10_read_94 : decode cX10_read 94 = .ok (.iload_n 2, 1) := by decide +kernel
theorem dX10_read_95 : decode cX10_read 95 = .ok (.ifCond .ne 16, 3) := by decide +kernel
theorem dX10_read_98 : decode cX10_read 98 = .ok (.aload_n 0, 1) := by decide +kernel
theorem dX10_read_99 : decode cX10_read 99 = .ok (.iconst 0, 1) := by decide +kernel
theorem dX10_read_100 : decode cX10_read 100 = .ok (.putfield 181, 3) := by decide +kernel
theorem dX10_read_103 : decode cX10_read 103 = .ok (.bipush (-10), 2) := by decide +kernel
theorem dX10_read_105 : decode cX10_read 105 = .ok (.aload_n 0, 1) := by decide +kernel
theorem dX10_read_106 : decode cX10_read 106 = .ok (.getfield 184, 3) := by decide +kernel
theorem dX10_read_109 : decode cX10_read 109 = .ok (.isub, 1) := by decide +kernel
theorem dX10_read_110 : decode cX10_read 110 = .ok (.ireturn, 1) := by decide +kernel
theorem dX10_read_111 : decode cX10_read 111 = .ok (.iconst 0, 1) := by decide +kernel
theorem dX10_read_112 : decode cX10_read 112 = .ok (.istore_n 3, 1) := by decide +kernel
theorem dX10_read_113 : decode cX10_read 113 = .ok (.aload_n 0, 1) := by decide +kernel
theorem dX10_read_114 : decode cX10_read 114 = .ok (.iconst 0, 1) := by decide +kernel
theorem dX10_read_115 : decode cX10_read 115 = .ok (.putfield 184, 3) := by decide +kernel
theorem dX10_read_118 : decode cX10_read 118 = .ok (.aload_n 0, 1) := by decide +kernel
theorem dX10_read_119 : decode cX10_read 119 = .ok (.getfield 184, 3) := by decide +kernel
theorem dX10_read_122 : decode cX10_read 122 = .ok (.aload_n 0, 1) := by decide +kernel
theorem dX10_read_123 : decode cX10_read 123 = .ok (.getfield 181, 3) := by decide +kernel
theorem dX10_read_126 : decode cX10_read 126 = .ok (.if_icmp .ge 63, 3) := by decide +kernel
theorem dX10_read_129 : decode cX10_read 129 = .ok (.aload_n 0, 1) := by decide +kernel
theorem dX10_read_130 : decode cX10_read 130 = .ok (.invokevirtual 187, 3) := by decide +kernel
theorem dX10_read_133 : decode cX10_read 133 = .ok (.istore 4, 2) := by decide +kernel
theorem dX10_read_135 : decode cX10_read 135 = .ok (.aload_n 0, 1) := by decide +kernel
theorem dX10_read_136 : decode cX10_read 136 = .ok (.invokevirtual 236, 3) := by decide +kernel
theorem dX10_read_139 : decode cX10_read 139 = .ok (.istore 5, 2) := by decide +kernel
theorem dX10_read_141 : decode cX10_read 141 = .ok (.aload_n 0, 1) := by decide +kernel
theorem dX10_read_142 : decode cX10_read 142 = .ok (.dup, 1) := by decide +kernel
theorem dX10_read_143 : decode cX10_read 143 = .ok (.getfield 184, 3) := by decide +kernel
theorem dX10_read_146 : decode cX10_read 146 = .ok (.aload_n 0, 1) := by decide +kernel
theorem dX10_read_147 : decode cX10_read 147 = .ok (.invokevirtual 187, 3) := by decide +kernel
theorem dX10_read_150 : decode cX10_read 150 = .ok (.bipush 59, 2) := by decide +kernel
theorem dX10_read_152 : decode cX10_read 152 = .ok (.if_icmp .ne 7, 3) := by decide +kernel
theorem dX10_read_155 : decode cX10_read 155 = .ok (.iconst 1, 1) := by decide +kernel
theorem dX10_read_156 : decode cX10_read 156 = .ok (.goto 4, 3) := by decide +kernel
theorem dX10_read_159 : decode cX10_read 159 = .ok (.iconst 0, 1) := by decide +kernel
theorem dX10_read_160 : decode cX10_read 160 = .ok (.iadd, 1) := by decide +kernel
theorem dX10_read_161 : decode cX10_read 161 = .ok (.putfield 184, 3) := by decide +kernel
theorem dX10_read_164 : decode cX10_read 164 = .ok (.iload_n 3, 1) := by decide +kernel
theorem dX10_read_165 : decode cX10_read 165 = .ok (.iload 5, 2) := by decide +kernel
theorem dX10_read_167 : decode cX10_read 167 = .ok (.ifCond .eq 16, 3) := by decide +kernel
theorem dX10_read_170 : decode cX10_read 170 = .ok (.aload_n 0, 1) := by decide +kernel
theorem dX10_read_171 : decode cX10_read 171 = .ok (.iload 4, 2) := by decide +kernel
theorem dX10_read_173 : decode cX10_read 173 = .ok (.invokevirtual 239, 3) := by decide +kernel
theorem dX10_read_176 : decode cX10_read 176 = .ok (.ifCond .eq 7, 3) := by decide +kernel
theorem dX10_read_179 : decode cX10_read 179 = .ok (.iconst 1, 1) := by decide +kernel
theorem dX10_read_180 : decode cX10_read 180 = .ok (.goto 4, 3) := by decide +kernel
theorem dX10_read_183 : decode cX10_read 183 = .ok (.iconst 0, 1) := by decide +kernel
theorem dX10_read_184 : decode cX10_read 184 = .ok (.iadd, 1) := by decide +kernel
theorem dX10_read_185 : decode cX10_read 185 = .ok (.istore_n 3, 1) := by decide +kernel
theorem dX10_read_186 : decode cX10_read 186 = .ok (.goto (-68), 3) := by decide +kernel
theorem dX10_read_189 : decode cX10_read 189 = .ok (.aload_n 0, 1) := by decide +kernel
theorem dX10_read_190 : decode cX10_read 190 = .ok (.iconst 0, 1) := by decide +kernel
theorem dX10_read_191 : decode cX10_read 191 = .ok (.putfield 181, 3) := by decide +kernel
theorem dX10_read_194 : decode cX10_read 194 = .ok (.iload_n 3, 1) := by decide +kernel
theorem dX10_read_195 : decode cX10_read 195 = .ok (.ireturn, 1) := by decide +kernel
theorem dX10_isTape_0 : decode cX10_isTape 0 = .ok (.iload_n 0, 1) := by decide +kernel
theorem dX10_isTape_1 : decode cX10_isTape 1 = .ok (.i2l, 1) := by decide +kernel
theorem dX10_isTape_2 : decode cX10_isTape 2 = .ok (.lconst 0, 1) := by decide +kernel
theorem dX10_isTape_3 : decode cX10_isTape 3 = .ok (.ldc2_w 242, 3) := by decide +kernel
theorem dX10_isTape_6 : decode cX10_isTape 6 = .ok (.invokestatic 60, 3) := by decide +kernel
theorem dX10_isTape_9 : decode cX10_isTape 9 = .ok (.ireturn, 1) := by decide +kernel
theorem dX10_judge_0 : decode cX10_judge 0 = .ok (.iload_n 1, 1) := by decide +kernel
theorem dX10_judge_1 : decode cX10_judge 1 = .ok (.invokestatic 244, 3) := by decide +kernel
theorem dX10_judge_4 : decode cX10_judge 4 = .ok (.ifCond .ne 5, 3) := by decide +kernel
theorem dX10_judge_7 : decode cX10_judge 7 = .ok (.iconst (-1), 1) := by decide +kernel
theorem dX10_judge_8 : decode cX10_judge 8 = .ok (.ireturn, 1) := by decide +kernel
theorem dX10_judge_9 : decode cX10_judge 9 = .ok (.aload_n 0, 1) := by decide +kernel
theorem dX10_judge_10 : decode cX10_judge 10 = .ok (.getfield 37, 3) := by decide +kernel
theorem dX10_judge_13 : decode cX10_judge 13 = .ok (.iload_n 1, 1) := by decide +kernel
theorem dX10_judge_14 : decode cX10_judge 14 = .ok (.iaload, 1) := by decide +kernel
theorem dX10_judge_15 : decode cX10_judge 15 = .ok (.iconst (-1), 1) := by decide +kernel
theorem dX10_judge_16 : decode cX10_judge 16 = .ok (.if_icmp .eq 16, 3) := by decide +kernel
theorem dX10_judge_19 : decode cX10_judge 19 = .ok (.aload_n 0, 1) := by decide +kernel
theorem dX10_judge_20 : decode cX10_judge 20 = .ok (.getfield 37, 3) := by decide +kernel
theorem dX10_judge_23 : decode cX10_judge 23 = .ok (.iload_n 1, 1) := by decide +kernel
theorem dX10_judge_24 : decode cX10_judge 24 = .ok (.iaload, 1) := by decide +kernel
theorem dX10_judge_25 : decode cX10_judge 25 = .ok (.iconst 4, 1) := by decide +kernel
theorem dX10_judge_26 : decode cX10_judge 26 = .ok (.if_icmp .eq 6, 3) := by decide +kernel
theorem dX10_judge_29 : decode cX10_judge 29 = .ok (.bipush (-12), 2) := by decide +kernel
theorem dX10_judge_31 : decode cX10_judge 31 = .ok (.ireturn, 1) := by decide +kernel
theorem dX10_judge_32 : decode cX10_judge 32 = .ok (.iconst 0, 1) := by decide +kernel
theorem dX10_judge_33 : decode cX10_judge 33 = .ok (.istore_n 3, 1) := by decide +kernel
theorem dX10_judge_34 : decode cX10_judge 34 = .ok (.iload_n 3, 1) := by decide +kernel
theorem dX10_judge_35 : decode cX10_judge 35 = .ok (.aload_n 0, 1) := by decide +kernel
theorem dX10_judge_36 : decode cX10_judge 36 = .ok (.invokevirtual 56, 3) := by decide +kernel
theorem dX10_judge_39 : decode cX10_judge 39 = .ok (.if_icmp .ge 69, 3) := by decide +kernel
theorem dX10_judge_42 : decode cX10_judge 42 = .ok (.iload_n 2, 1) := by decide +kernel
theorem dX10_judge_43 : decode cX10_judge 43 = .ok (.ifCond .lt 24, 3) := by decide +kernel
theorem dX10_judge_46 : decode cX10_judge 46 = .ok (.aload_n 0, 1) := by decide +kernel
theorem dX10_judge_47 : decode cX10_judge 47 = .ok (.getfield 37, 3) := by decide +kernel
theorem dX10_judge_50 : decode cX10_judge 50 = .ok (.iload_n 1, 1) := by decide +kernel
theorem dX10_judge_51 : decode cX10_judge 51 = .ok (.iaload, 1) := by decide +kernel
theorem dX10_judge_52 : decode cX10_judge 52 = .ok (.ifCond .lt 15, 3) := by decide +kernel
theorem dX10_judge_55 : decode cX10_judge 55 = .ok (.iload_n 2, 1) := by decide +kernel
theorem dX10_judge_56 : decode cX10_judge 56 = .ok (.aload_n 0, 1) := by decide +kernel
theorem dX10_judge_57 : decode cX10_judge 57 = .ok (.getfield 40, 3) := by decide +kernel
theorem dX10_judge_60 : decode cX10_judge 60 = .ok (.iload_n 1, 1) := by decide +kernel
theorem dX10_judge_61 : decode cX10_judge 61 = .ok (.iaload, 1) := by decide +kernel
theorem dX10_judge_62 : decode cX10_judge 62 = .ok (.iload_n 3, 1) := by decide +kernel
theorem dX10_judge_63 : decode cX10_judge 63 = .ok (.isub, 1) := by decide +kernel
theorem dX10_judge_64 : decode cX10_judge 64 = .ok (.if_icmp .lt 8, 3) := by decide +kernel
theorem dX10_judge_67 : decode cX10_judge 67 = .ok (.bipush 100, 2) := by decide +kernel
theorem dX10_judge_69 : decode cX10_judge 69 = .ok (.iload_n 3, 1) := by decide +kernel
theorem dX10_judge_70 : decode cX10_judge 70 = .ok (.iadd, 1) := by decide +kernel
theorem dX10_judge_71 : decode cX10_judge 71 = .ok (.ireturn, 1) := by decide +kernel
theorem dX10_judge_72 : decode cX10_judge 72 = .ok (.aload_n 0, 1) := by decide +kernel
theorem dX10_judge_73 : decode cX10_judge 73 = .ok (.getfield 45, 3) := by decide +kernel
theorem dX10_judge_76 : decode cX10_judge 76 = .ok (.iload_n 1, 1) := by decide +kernel
theorem dX10_judge_77 : decode cX10_judge 77 = .ok (.aaload, 1) := by decide +kernel
theorem dX10_judge_78 : decode cX10_judge 78 = .ok (.iload_n 2, 1) := by decide +kernel
theorem dX10_judge_79 : decode cX10_judge 79 = .ok (.iload_n 3, 1) := by decide +kernel
theorem dX10_judge_80 : decode cX10_judge 80 = .ok (.iadd, 1) := by decide +kernel
theorem dX10_judge_81 : decode cX10_judge 81 = .ok (.laload, 1) := by decide +kernel
theorem dX10_judge_82 : decode cX10_judge 82 = .ok (.aload_n 0, 1) := by decide +kernel
theorem dX10_judge_83 : decode cX10_judge 83 = .ok (.getfield 11, 3) := by decide +kernel
theorem dX10_judge_86 : decode cX10_judge 86 = .ok (.iconst 1, 1) := by decide +kernel
theorem dX10_judge_87 : decode cX10_judge 87 = .ok (.iaload, 1) := by decide +kernel
theorem dX10_judge_88 : decode cX10_judge 88 = .ok (.iload_n 3, 1) := by decide +kernel
theorem dX10_judge_89 : decode cX10_judge 89 = .ok (.invokestatic 97, 3) := by decide +kernel
theorem dX10_judge_92 : decode cX10_judge 92 = .ok (.invokestatic 90, 3) := by decide +kernel
theorem dX10_judge_95 : decode cX10_judge 95 = .ok (.i2l, 1) := by decide +kernel
theorem dX10_judge_96 : decode cX10_judge 96 = .ok (.lcmp, 1) := by decide +kernel
theorem dX10_judge_97 : decode cX10_judge 97 = .ok (.ifCond .eq 5, 3) := by decide +kernel
theorem dX10_judge_100 : decode cX10_judge 100 = .ok (.iload_n 3, 1) := by decide +kernel
theorem dX10_judge_101 : decode cX10_judge 101 = .ok (.ireturn, 1) := by decide +kernel
theorem dX10_judge_102 : decode cX10_judge 102 = .ok (.iinc 3 1, 3) := by decide +kernel
theorem dX10_judge_105 : decode cX10_judge 105 = .ok (.goto (-71), 3) := by decide +kernel
theorem dX10_judge_108 : decode cX10_judge 108 = .ok (.bipush (-5), 2) := by decide +kernel
theorem dX10_judge_110 : decode cX10_judge 110 = .ok (.ireturn, 1) := by decide +kernel
theorem dX10_tape_0 : decode cX10_tape 0 = .ok (.iload_n 1, 1) := by decide +kernel
theorem dX10_tape_1 : decode cX10_tape 1 = .ok (.invokestatic 244, 3) := by decide +kernel
theorem dX10_tape_4 : decode cX10_tape 4 = .ok (.ifCond .ne 5, 3) := by decide +kernel
theorem dX10_tape_7 : decode cX10_tape 7 = .ok (.iconst (-1), 1) := by decide +kernel
theorem dX10_tape_8 : decode cX10_tape 8 = .ok (.ireturn, 1) := by decide +kernel
theorem dX10_tape_9 : decode cX10_tape 9 = .ok (.iload_n 2, 1) := by decide +kernel
theorem dX10_tape_10 : decode cX10_tape 10 = .ok (.i2l, 1) := by decide +kernel
theorem dX10_tape_11 : decode cX10_tape 11 = .ok (.ldc2_w 247, 3) := by decide +kernel
theorem dX10_tape_14 : decode cX10_tape 14 = .ok (.ldc2_w 66, 3) := by decide +kernel
theorem dX10_tape_17 : decode cX10_tape 17 = .ok (.invokestatic 60, 3) := by decide +kernel
theorem dX10_tape_20 : decode cX10_tape 20 = .ok (.ifCond .eq 13, 3) := by decide +kernel
theorem dX10_tape_23 : decode cX10_tape 23 = .ok (.iload_n 2, 1) := by decide +kernel
theorem dX10_tape_24 : decode cX10_tape 24 = .ok (.ifCond .lt 12, 3) := by decide +kernel
theorem dX10_tape_27 : decode cX10_tape 27 = .ok (.iload_n 3, 1) := by decide +kernel
theorem dX10_tape_28 : decode cX10_tape 28 = .ok (.bipush 60, 2) := by decide +kernel
theorem dX10_tape_30 : decode cX10_tape 30 = .ok (.if_icmp .le 6, 3) := by decide +kernel
theorem dX10_tape_33 : decode cX10_tape 33 = .ok (.bipush (-2), 2) := by decide +kernel
theorem dX10_tape_35 : decode cX10_tape 35 = .ok (.ireturn, 1) := by decide +kernel
theorem dX10_tape_36 : decode cX10_tape 36 = .ok (.iload_n 2, 1) := by decide +kernel
theorem dX10_tape_37 : decode cX10_tape 37 = .ok (.ifCond .lt 10, 3) := by decide +kernel
theorem dX10_tape_40 : decode cX10_tape 40 = .ok (.iload_n 3, 1) := by decide +kernel
theorem dX10_tape_41 : decode cX10_tape 41 = .ok (.ifCond .ge 6, 3) := by decide +kernel
theorem dX10_tape_44 : decode cX10_tape 44 = .ok (.bipush (-14), 2) := by decide +kernel
theorem dX10_tape_46 : decode cX10_tape 46 = .ok (.ireturn, 1) := by decide +kernel
theorem dX10_tape_47 : decode cX10_tape 47 = .ok (.aload_n 0, 1) := by decide +kernel
theorem dX10_tape_48 : decode cX10_tape 48 = .ok (.getfield 37, 3) := by decide +kernel
theorem dX10_tape_51 : decode cX10_tape 51 = .ok (.iload_n 1, 1) := by decide +kernel
theorem dX10_tape_52 : decode cX10_tape 52 = .ok (.iload_n 2, 1) := by decide +kernel
theorem dX10_tape_53 : decode cX10_tape 53 = .ok (.iastore, 1) := by decide +kernel
theorem dX10_tape_54 : decode cX10_tape 54 = .ok (.aload_n 0, 1) := by decide +kernel
theorem dX10_tape_55 : decode cX10_tape 55 = .ok (.getfield 40, 3) := by decide +kernel
theorem dX10_tape_58 : decode cX10_tape 58 = .ok (.iload_n 1, 1) := by decide +kernel
theorem dX10_tape_59 : decode cX10_tape 59 = .ok (.iload_n 2, 1) := by decide +kernel
theorem dX10_tape_60 : decode cX10_tape 60 = .ok (.ifCond .ge 7, 3) := by decide +kernel
theorem dX10_tape_63 : decode cX10_tape 63 = .ok (.iconst 0, 1) := by decide +kernel
theorem dX10_tape_64 : decode cX10_tape 64 = .ok (.goto 4, 3) := by decide +kernel
theorem dX10_tape_67 : decode cX10_tape 67 = .ok (.iload_n 3, 1) := by decide +kernel
theorem dX10_tape_68 : decode cX10_tape 68 = .ok (.iastore, 1) := by decide +kernel
theorem dX10_tape_69 : decode cX10_tape 69 = .ok (.iconst 0, 1) := by decide +kernel
theorem dX10_tape_70 : decode cX10_tape 70 = .ok (.istore 4, 2) := by decide +kernel
theorem dX10_tape_72 : decode cX10_tape 72 = .ok (.iload 4, 2) := by decide +kernel
theorem dX10_tape_74 : decode cX10_tape 74 = .ok (.bipush 60, 2) := by decide +kernel
theorem dX10_tape_76 : decode cX10_tape 76 = .ok (.if_icmp .ge 19, 3) := by decide +kernel
theorem dX10_tape_79 : decode cX10_tape 79 = .ok (.aload_n 0, 1) := by decide +kernel
theorem dX10_tape_80 : decode cX10_tape 80 = .ok (.getfield 45, 3) := by decide +kernel
theorem dX10_tape_83 : decode cX10_tape 83 = .ok (.iload_n 1, 1) := by decide +kernel
theorem dX10_tape_84 : decode cX10_tape 84 = .ok (.aaload, 1) := by decide +kernel
theorem dX10_tape_85 : decode cX10_tape 85 = .ok (.iload 4, 2) := by decide +kernel
theorem dX10_tape_87 : decode cX10_tape 87 = .ok (.lconst 0, 1) := by decide +kernel
theorem dX10_tape_88 : decode cX10_tape 88 = .ok (.lastore, 1) := by decide +kernel
theorem dX10_tape_89 : decode cX10_tape 89 = .ok (.iinc 4 1, 3) := by decide +kernel
theorem dX10_tape_92 : decode cX10_tape 92 = .ok (.goto (-20), 3) := by decide +kernel
theorem dX10_tape_95 : decode cX10_tape 95 = .ok (.iconst 1, 1) := by decide +kernel
theorem dX10_tape_96 : decode cX10_tape 96 = .ok (.ireturn, 1) := by decide +kernel
theorem dX10_item_0 : decode cX10_item 0 = .ok (.iload_n 1, 1) := by decide +kernel
theorem dX10_item_1 : decode cX10_item 1 = .ok (.invokestatic 244, 3) := by decide +kernel
theorem dX10_item_4 : decode cX10_item 4 = .ok (.ifCond .ne 5, 3) := by decide +kernel
theorem dX10_item_7 : decode cX10_item 7 = .ok (.iconst (-1), 1) := by decide +kernel
theorem dX10_item_8 : decode cX10_item 8 = .ok (.ireturn, 1) := by decide +kernel
theorem dX10_item_9 : decode cX10_item 9 = .ok (.aload_n 0, 1) := by decide +kernel
theorem dX10_item_10 : decode cX10_item 10 = .ok (.getfield 37, 3) := by decide +kernel
theorem dX10_item_13 : decode cX10_item 13 = .ok (.iload_n 1, 1) := by decide +kernel
theorem dX10_item_14 : decode cX10_item 14 = .ok (.iaload, 1) := by decide +kernel
theorem dX10_item_15 : decode cX10_item 15 = .ok (.ifCond .ge 6, 3) := by decide +kernel
theorem dX10_item_18 : decode cX10_item 18 = .ok (.bipush (-11), 2) := by decide +kernel
theorem dX10_item_20 : decode cX10_item 20 = .ok (.ireturn, 1) := by decide +kernel
theorem dX10_item_21 : decode cX10_item 21 = .ok (.iload_n 2, 1) := by decide +kernel
theorem dX10_item_22 : decode cX10_item 22 = .ok (.i2l, 1) := by decide +kernel
theorem dX10_item_23 : decode cX10_item 23 = .ok (.lconst 0, 1) := by decide +kernel
theorem dX10_item_24 : decode cX10_item 24 = .ok (.aload_n 0, 1) := by decide +kernel
theorem dX10_item_25 : decode cX10_item 25 = .ok (.getfield 40, 3) := by decide +kernel
theorem dX10_item_28 : decode cX10_item 28 = .ok (.iload_n 1, 1) := by decide +kernel
theorem dX10_item_29 : decode cX10_item 29 = .ok (.iaload, 1) := by decide +kernel
theorem dX10_item_30 : decode cX10_item 30 = .ok (.iconst 1, 1) := by decide +kernel
theorem dX10_item_31 : decode cX10_item 31 = .ok (.isub, 1) := by decide +kernel
theorem dX10_item_32 : decode cX10_item 32 = .ok (.i2l, 1) := by decide +kernel
theorem dX10_item_33 : decode cX10_item 33 = .ok (.invokestatic 60, 3) := by decide +kernel
theorem dX10_item_36 : decode cX10_item 36 = .ok (.ifCond .ne 6, 3) := by decide +kernel
theorem dX10_item_39 : decode cX10_item 39 = .ok (.bipush (-13), 2) := by decide +kernel
theorem dX10_item_41 : decode cX10_item 41 = .ok (.ireturn, 1) := by decide +kernel
theorem dX10_item_42 : decode cX10_item 42 = .ok (.aload_n 0, 1) := by decide +kernel
theorem dX10_item_43 : decode cX10_item 43 = .ok (.getfield 45, 3) := by decide +kernel
theorem dX10_item_46 : decode cX10_item 46 = .ok (.iload_n 1, 1) := by decide +kernel
theorem dX10_item_47 : decode cX10_item 47 = .ok (.aaload, 1) := by decide +kernel
theorem dX10_item_48 : decode cX10_item 48 = .ok (.iload_n 2, 1) := by decide +kernel
theorem dX10_item_49 : decode cX10_item 49 = .ok (.aload_n 0, 1) := by decide +kernel
theorem dX10_item_50 : decode cX10_item 50 = .ok (.getfield 37, 3) := by decide +kernel
theorem dX10_item_53 : decode cX10_item 53 = .ok (.iload_n 1, 1) := by decide +kernel
theorem dX10_item_54 : decode cX10_item 54 = .ok (.iaload, 1) := by decide +kernel
theorem dX10_item_55 : decode cX10_item 55 = .ok (.ifCond .ne 10, 3) := by decide +kernel
theorem dX10_item_58 : decode cX10_item 58 = .ok (.lload_n 3, 1) := by decide +kernel
theorem dX10_item_59 : decode cX10_item 59 = .ok (.l2i, 1) := by decide +kernel
theorem dX10_item_60 : decode cX10_item 60 = .ok (.i2b, 1) := by decide +kernel
theorem dX10_item_61 : decode cX10_item 61 = .ok (.i2l, 1) := by decide +kernel
theorem dX10_item_62 : decode cX10_item 62 = .ok (.goto 61, 3) := by decide +kernel
theorem dX10_item_65 : decode cX10_item 65 = .ok (.aload_n 0, 1) := by decide +kernel
theorem dX10_item_66 : decode cX10_item 66 = .ok (.getfield 37, 3) := by decide +kernel
theorem dX10_item_69 : decode cX10_item 69 = .ok (.iload_n 1, 1) := by decide +kernel
theorem dX10_item_70 : decode cX10_item 70 = .ok (.iaload, 1) := by decide +kernel
theorem dX10_item_71 : decode cX10_item 71 = .ok (.iconst 1, 1) := by decide +kernel
theorem dX10_item_72 : decode cX10_item 72 = .ok (.if_icmp .ne 10, 3) := by decide +kernel
theorem dX10_item_75 : decode cX10_item 75 = .ok (.lload_n 3, 1) := by decide +kernel
theorem dX10_item_76 : decode cX10_item 76 = .ok (.l2i, 1) := by decide +kernel
theorem dX10_item_77 : decode cX10_item 77 = .ok (.i2s, 1) := by decide +kernel
theorem dX10_item_78 : decode cX10_item 78 = .ok (.i2l, 1) := by decide +kernel
theorem dX10_item_79 : decode cX10_item 79 = .ok (.goto 44, 3) := by decide +kernel
theorem dX10_item_82 : decode cX10_item 82 = .ok (.aload_n 0, 1) := by decide +kernel
theorem dX10_item_83 : decode cX10_item 83 = .ok (.getfield 37, 3) := by decide +kernel
theorem dX10_item_86 : decode cX10_item 86 = .ok (.iload_n 1, 1) := by decide +kernel
theorem dX10_item_87 : decode cX10_item 87 = .ok (.iaload, 1) := by decide +kernel
theorem dX10_item_88 : decode cX10_item 88 = .ok (.iconst 2, 1) := by decide +kernel
theorem dX10_item_89 : decode cX10_item 89 = .ok (.if_icmp .ne 9, 3) := by decide +kernel
theorem dX10_item_92 : decode cX10_item 92 = .ok (.lload_n 3, 1) := by decide +kernel
theorem dX10_item_93 : decode cX10_item 93 = .ok (.l2i, 1) := by decide +kernel
theorem dX10_item_94 : decode cX10_item 94 = .ok (.i2l, 1) := by decide +kernel
theorem dX10_item_95 : decode cX10_item 95 = .ok (.goto 28, 3) := by decide +kernel
theorem dX10_item_98 : decode cX10_item 98 = .ok (.aload_n 0, 1) := by decide +kernel
theorem dX10_item_99 : decode cX10_item 99 = .ok (.getfield 37, 3) := by decide +kernel
theorem dX10_item_102 : decode cX10_item 102 = .ok (.iload_n 1, 1) := by decide +kernel
theorem dX10_item_103 : decode cX10_item 103 = .ok (.iaload, 1) := by decide +kernel
theorem dX10_item_104 : decode cX10_item 104 = .ok (.iconst 3, 1) := by decide +kernel
theorem dX10_item_105 : decode cX10_item 105 = .ok (.if_icmp .ne 7, 3) := by decide +kernel
theorem dX10_item_108 : decode cX10_item 108 = .ok (.lload_n 3, 1) := by decide +kernel
theorem dX10_item_109 : decode cX10_item 109 = .ok (.goto 14, 3) := by decide +kernel
theorem dX10_item_112 : decode cX10_item 112 = .ok (.lload_n 3, 1) := by decide +kernel
theorem dX10_item_113 : decode cX10_item 113 = .ok (.lconst 0, 1) := by decide +kernel
theorem dX10_item_114 : decode cX10_item 114 = .ok (.lcmp, 1) := by decide +kernel
theorem dX10_item_115 : decode cX10_item 115 = .ok (.ifCond .eq 7, 3) := by decide +kernel
theorem dX10_item_118 : decode cX10_item 118 = .ok (.lconst 1, 1) := by decide +kernel
theorem dX10_item_119 : decode cX10_item 119 = .ok (.goto 4, 3) := by decide +kernel
theorem dX10_item_122 : decode cX10_item 122 = .ok (.lconst 0, 1) := by decide +kernel
theorem dX10_item_123 : decode cX10_item 123 = .ok (.lastore, 1) := by decide +kernel
theorem dX10_item_124 : decode cX10_item 124 = .ok (.iconst 1, 1) := by decide +kernel
theorem dX10_item_125 : decode cX10_item 125 = .ok (.ireturn, 1) := by decide +kernel
theorem dX10_peek_0 : decode cX10_peek 0 = .ok (.iload_n 1, 1) := by decide +kernel
theorem dX10_peek_1 : decode cX10_peek 1 = .ok (.invokestatic 244, 3) := by decide +kernel
theorem dX10_peek_4 : decode cX10_peek 4 = .ok (.ifCond .eq 32, 3) := by decide +kernel
theorem dX10_peek_7 : decode cX10_peek 7 = .ok (.iload_n 2, 1) := by decide +kernel
theorem dX10_peek_8 : decode cX10_peek 8 = .ok (.i2l, 1) := by decide +kernel
theorem dX10_peek_9 : decode cX10_peek 9 = .ok (.lconst 0, 1) := by decide +kernel
theorem dX10_peek_10 : decode cX10_peek 10 = .ok (.aload_n 0, 1) := by decide +kernel
theorem dX10_peek_11 : decode cX10_peek 11 = .ok (.getfield 40, 3) := by decide +kernel
theorem dX10_peek_14 : decode cX10_peek 14 = .ok (.iload_n 1, 1) := by decide +kernel
theorem dX10_peek_15 : decode cX10_peek 15 = .ok (.iaload, 1) := by decide +kernel
theorem dX10_peek_16 : decode cX10_peek 16 = .ok (.iconst 1, 1) := by decide +kernel
theorem dX10_peek_17 : decode cX10_peek 17 = .ok (.isub, 1) := by decide +kernel
theorem dX10_peek_18 : decode cX10_peek 18 = .ok (.i2l, 1) := by decide +kernel
theorem dX10_peek_19 : decode cX10_peek 19 = .ok (.invokestatic 60, 3) := by decide +kernel
theorem dX10_peek_22 : decode cX10_peek 22 = .ok (.ifCond .eq 14, 3) := by decide +kernel
theorem dX10_peek_25 : decode cX10_peek 25 = .ok (.aload_n 0, 1) := by decide +kernel
theorem dX10_peek_26 : decode cX10_peek 26 = .ok (.getfield 45, 3) := by decide +kernel
theorem dX10_peek_29 : decode cX10_peek 29 = .ok (.iload_n 1, 1) := by decide +kernel
theorem dX10_peek_30 : decode cX10_peek 30 = .ok (.aaload, 1) := by decide +kernel
theorem dX10_peek_31 : decode cX10_peek 31 = .ok (.iload_n 2, 1) := by decide +kernel
theorem dX10_peek_32 : decode cX10_peek 32 = .ok (.laload, 1) := by decide +kernel
theorem dX10_peek_33 : decode cX10_peek 33 = .ok (.goto 6, 3) := by decide +kernel
theorem dX10_peek_36 : decode cX10_peek 36 = .ok (.ldc2_w 172, 3) := by decide +kernel
theorem dX10_peek_39 : decode cX10_peek 39 = .ok (.lreturn, 1) := by decide +kernel
theorem dX10_shift_0 : decode cX10_shift 0 = .ok (.iload_n 1, 1) := by decide +kernel
theorem dX10_shift_1 : decode cX10_shift 1 = .ok (.invokestatic 244, 3) := by decide +kernel
theorem dX10_shift_4 : decode cX10_shift 4 = .ok (.ifCond .eq 10, 3) := by decide +kernel
theorem dX10_shift_7 : decode cX10_shift 7 = .ok (.iload_n 3, 1) := by decide +kernel
theorem dX10_shift_8 : decode cX10_shift 8 = .ok (.invokestatic 244, 3) := by decide +kernel
theorem dX10_shift_11 : decode cX10_shift 11 = .ok (.ifCond .ne 5, 3) := by decide +kernel
theorem dX10_shift_14 : decode cX10_shift 14 = .ok (.iconst (-1), 1) := by decide +kernel
theorem dX10_shift_15 : decode cX10_shift 15 = .ok (.ireturn, 1) := by decide +kernel
theorem dX10_shift_16 : decode cX10_shift 16 = .ok (.aload_n 0, 1) := by decide +kernel
theorem dX10_shift_17 : decode cX10_shift 17 = .ok (.getfield 37, 3) := by decide +kernel
theorem dX10_shift_20 : decode cX10_shift 20 = .ok (.iload_n 1, 1) := by decide +kernel
theorem dX10_shift_21 : decode cX10_shift 21 = .ok (.iaload, 1) := by decide +kernel
theorem dX10_shift_22 : decode cX10_shift 22 = .ok (.ifCond .lt 12, 3) := by decide +kernel
theorem dX10_shift_25 : decode cX10_shift 25 = .ok (.aload_n 0, 1) := by decide +kernel
theorem dX10_shift_26 : decode cX10_shift 26 = .ok (.getfield 37, 3) := by decide +kernel
theorem dX10_shift_29 : decode cX10_shift 29 = .ok (.iload_n 3, 1) := by decide +kernel
theorem dX10_shift_30 : decode cX10_shift 30 = .ok (.iaload, 1) := by decide +kernel
theorem dX10_shift_31 : decode cX10_shift 31 = .ok (.ifCond .ge 6, 3) := by decide +kernel
theorem dX10_shift_34 : decode cX10_shift 34 = .ok (.bipush (-11), 2) := by decide +kernel
theorem dX10_shift_36 : decode cX10_shift 36 = .ok (.ireturn, 1) := by decide +kernel
theorem dX10_shift_37 : decode cX10_shift 37 = .ok (.aload_n 0, 1) := by decide +kernel
theorem dX10_shift_38 : decode cX10_shift 38 = .ok (.getfield 37, 3) := by decide +kernel
theorem dX10_shift_41 : decode cX10_shift 41 = .ok (.iload_n 1, 1) := by decide +kernel
theorem dX10_shift_42 : decode cX10_shift 42 = .ok (.iaload, 1) := by decide +kernel
theorem dX10_shift_43 : decode cX10_shift 43 = .ok (.aload_n 0, 1) := by decide +kernel
theorem dX10_shift_44 : decode cX10_shift 44 = .ok (.getfield 37, 3) := by decide +kernel
theorem dX10_shift_47 : decode cX10_shift 47 = .ok (.iload_n 3, 1) := by decide +kernel
theorem dX10_shift_48 : decode cX10_shift 48 = .ok (.iaload, 1) := by decide +kernel
theorem dX10_shift_49 : decode cX10_shift 49 = .ok (.if_icmp .eq 6, 3) := by decide +kernel
theorem dX10_shift_52 : decode cX10_shift 52 = .ok (.bipush (-12), 2) := by decide +kernel
theorem dX10_shift_54 : decode cX10_shift 54 = .ok (.ireturn, 1) := by decide +kernel
theorem dX10_shift_55 : decode cX10_shift 55 = .ok (.iload 5, 2) := by decide +kernel
theorem dX10_shift_57 : decode cX10_shift 57 = .ok (.ifCond .lt 39, 3) := by decide +kernel
theorem dX10_shift_60 : decode cX10_shift 60 = .ok (.iload_n 2, 1) := by decide +kernel
theorem dX10_shift_61 : decode cX10_shift 61 = .ok (.ifCond .lt 35, 3) := by decide +kernel
theorem dX10_shift_64 : decode cX10_shift 64 = .ok (.iload 4, 2) := by decide +kernel
theorem dX10_shift_66 : decode cX10_shift 66 = .ok (.ifCond .lt 30, 3) := by decide +kernel
theorem dX10_shift_69 : decode cX10_shift 69 = .ok (.iload 5, 2) := by decide +kernel
theorem dX10_shift_71 : decode cX10_shift 71 = .ok (.aload_n 0, 1) := by decide +kernel
theorem dX10_shift_72 : decode cX10_shift 72 = .ok (.getfield 40, 3) := by decide +kernel
theorem dX10_shift_75 : decode cX10_shift 75 = .ok (.iload_n 1, 1) := by decide +kernel
theorem dX10_shift_76 : decode cX10_shift 76 = .ok (.iaload, 1) := by decide +kernel
theorem dX10_shift_77 : decode cX10_shift 77 = .ok (.iload_n 2, 1) := by decide +kernel
theorem dX10_shift_78 : decode cX10_shift 78 = .ok (.isub, 1) := by decide +kernel
theorem dX10_shift_79 : decode cX10_shift 79 = .ok (.if_icmp .gt 17, 3) := by decide +kernel
theorem dX10_shift_82 : decode cX10_shift 82 = .ok (.iload 5, 2) := by decide +kernel
theorem dX10_shift_84 : decode cX10_shift 84 = .ok (.aload_n 0, 1) := by decide +kernel
theorem dX10_shift_85 : decode cX10_shift 85 = .ok (.getfield 40, 3) := by decide +kernel
theorem dX10_shift_88 : decode cX10_shift 88 = .ok (.iload_n 3, 1) := by decide +kernel
theorem dX10_shift_89 : decode cX10_shift 89 = .ok (.iaload, 1) := by decide +kernel
theorem dX10_shift_90 : decode cX10_shift 90 = .ok (.iload 4, 2) := by decide +kernel
theorem dX10_shift_92 : decode cX10_shift 92 = .ok (.isub, 1) := by decide +kernel
theorem dX10_shift_93 : decode cX10_shift 93 = .ok (.if_icmp .le 6, 3) := by decide +kernel
theorem dX10_shift_96 : decode cX10_shift 96 = .ok (.bipush (-13), 2) := by decide +kernel
theorem dX10_shift_98 : decode cX10_shift 98 = .ok (.ireturn, 1) := by decide +kernel
theorem dX10_shift_99 : decode cX10_shift 99 = .ok (.iconst 0, 1) := by decide +kernel
theorem dX10_shift_100 : decode cX10_shift 100 = .ok (.istore 6, 2) := by decide +kernel
theorem dX10_shift_102 : decode cX10_shift 102 = .ok (.iload 6, 2) := by decide +kernel
theorem dX10_shift_104 : decode cX10_shift 104 = .ok (.iload 5, 2) := by decide +kernel
theorem dX10_shift_106 : decode cX10_shift 106 = .ok (.if_icmp .ge 27, 3) := by decide +kernel
theorem dX10_shift_109 : decode cX10_shift 109 = .ok (.aload_n 0, 1) := by decide +kernel
theorem dX10_shift_110 : decode cX10_shift 110 = .ok (.getfield 48, 3) := by decide +kernel
theorem dX10_shift_113 : decode cX10_shift 113 = .ok (.iload 6, 2) := by decide +kernel
theorem dX10_shift_115 : decode cX10_shift 115 = .ok (.aload_n 0, 1) := by decide +kernel
theorem dX10_shift_116 : decode cX10_shift 116 = .ok (.getfield 45, 3) := by decide +kernel
theorem dX10_shift_119 : decode cX10_shift 119 = .ok (.iload_n 1, 1) := by decide +kernel
theorem dX10_shift_120 : decode cX10_shift 120 = .ok (.aaload, 1) := by decide +kernel
theorem dX10_shift_121 : decode cX10_shift 121 = .ok (.iload_n 2, 1) := by decide +kernel
theorem dX10_shift_122 : decode cX10_shift 122 = .ok (.iload 6, 2) := by decide +kernel
theorem dX10_shift_124 : decode cX10_shift 124 = .ok (.iadd, 1) := by decide +kernel
theorem dX10_shift_125 : decode cX10_shift 125 = .ok (.laload, 1) := by decide +kernel
theorem dX10_shift_126 : decode cX10_shift 126 = .ok (.lastore, 1) := by decide +kernel
theorem dX10_shift_127 : decode cX10_shift 127 = .ok (.iinc 6 1, 3) := by decide +kernel
theorem dX10_shift_130 : decode cX10_shift 130 = .ok (.goto (-28), 3) := by decide +kernel
theorem dX10_shift_133 : decode cX10_shift 133 = .ok (.iconst 0, 1) := by decide +kernel
theorem dX10_shift_134 : decode cX10_shift 134 = .ok (.istore 6, 2) := by decide +kernel
theorem dX10_shift_136 : decode cX10_shift 136 = .ok (.iload 6, 2) := by decide +kernel
theorem dX10_shift_138 : decode cX10_shift 138 = .ok (.iload 5, 2) := by decide +kernel
theorem dX10_shift_140 : decode cX10_shift 140 = .ok (.if_icmp .ge 28, 3) := by decide +kernel
theorem dX10_shift_143 : decode cX10_shift 143 = .ok (.aload_n 0, 1) := by decide +kernel
theorem dX10_shift_144 : decode cX10_shift 144 = .ok (.getfield 45, 3) := by decide +kernel
theorem dX10_shift_147 : decode cX10_shift 147 = .ok (.iload_n 3, 1) := by decide +kernel
theorem dX10_shift_148 : decode cX10_shift 148 = .ok (.aaload, 1) := by decide +kernel
theorem dX10_shift_149 : decode cX10_shift 149 = .ok (.iload 4, 2) := by decide +kernel
theorem dX10_shift_151 : decode cX10_shift 151 = .ok (.iload 6, 2) := by decide +kernel
theorem dX10_shift_153 : decode cX10_shift 153 = .ok (.iadd, 1) := by decide +kernel
theorem dX10_shift_154 : decode cX10_shift 154 = .ok (.aload_n 0, 1) := by decide +kernel
theorem dX10_shift_155 : decode cX10_shift 155 = .ok (.getfield 48, 3) := by decide +kernel
theorem dX10_shift_158 : decode cX10_shift 158 = .ok (.iload 6, 2) := by decide +kernel
theorem dX10_shift_160 : decode cX10_shift 160 = .ok (.laload, 1) := by decide +kernel
theorem dX10_shift_161 : decode cX10_shift 161 = .ok (.lastore, 1) := by decide +kernel
theorem dX10_shift_162 : decode cX10_shift 162 = .ok (.iinc 6 1, 3) := by decide +kernel
theorem dX10_shift_165 : decode cX10_shift 165 = .ok (.goto (-29), 3) := by decide +kernel
theorem dX10_shift_168 : decode cX10_shift 168 = .ok (.iload 5, 2) := by decide +kernel
theorem dX10_shift_170 : decode cX10_shift 170 = .ok (.ireturn, 1) := by decide +kernel
theorem dX10_image_0 : decode cX10_image 0 = .ok (.iconst 0, 1) := by decide +kernel
theorem dX10_image_1 : decode cX10_image 1 = .ok (.istore_n 1, 1) := by decide +kernel
theorem dX10_image_2 : decode cX10_image 2 = .ok (.iload_n 1, 1) := by decide +kernel
theorem dX10_image_3 : decode cX10_image 3 = .ok (.bipush 55, 2) := by decide +kernel
theorem dX10_image_5 : decode cX10_image 5 = .ok (.if_icmp .ge 21, 3) := by decide +kernel
theorem dX10_image_8 : decode cX10_image 8 = .ok (.aload_n 0, 1) := by decide +kernel
theorem dX10_image_9 : decode cX10_image 9 = .ok (.getfield 15, 3) := by decide +kernel
theorem dX10_image_12 : decode cX10_image 12 = .ok (.iload_n 1, 1) := by decide +kernel
theorem dX10_image_13 : decode cX10_image 13 = .ok (.aload_n 0, 1) := by decide +kernel
theorem dX10_image_14 : decode cX10_image 14 = .ok (.getfield 11, 3) := by decide +kernel
theorem dX10_image_17 : decode cX10_image 17 = .ok (.iload_n 1, 1) := by decide +kernel
theorem dX10_image_18 : decode cX10_image 18 = .ok (.iaload, 1) := by decide +kernel
theorem dX10_image_19 : decode cX10_image 19 = .ok (.iastore, 1) := by decide +kernel
theorem dX10_image_20 : decode cX10_image 20 = .ok (.iinc 1 1, 3) := by decide +kernel
theorem dX10_image_23 : decode cX10_image 23 = .ok (.goto (-21), 3) := by decide +kernel
theorem dX10_image_26 : decode cX10_image 26 = .ok (.aload_n 0, 1) := by decide +kernel
theorem dX10_image_27 : decode cX10_image 27 = .ok (.iconst 1, 1) := by decide +kernel
theorem dX10_image_28 : decode cX10_image 28 = .ok (.putfield 249, 3) := by decide +kernel
theorem dX10_image_31 : decode cX10_image 31 = .ok (.aload_n 0, 1) := by decide +kernel
theorem dX10_image_32 : decode cX10_image 32 = .ok (.getfield 11, 3) := by decide +kernel
theorem dX10_image_35 : decode cX10_image 35 = .ok (.iconst 1, 1) := by decide +kernel
theorem dX10_image_36 : decode cX10_image 36 = .ok (.iaload, 1) := by decide +kernel
theorem dX10_image_37 : decode cX10_image 37 = .ok (.ireturn, 1) := by decide +kernel
theorem dX10_undo_0 : decode cX10_undo 0 = .ok (.aload_n 0, 1) := by decide +kernel
theorem dX10_undo_1 : decode cX10_undo 1 = .ok (.getfield 249, 3) := by decide +kernel
theorem dX10_undo_4 : decode cX10_undo 4 = .ok (.ifCond .ne 6, 3) := by decide +kernel
theorem dX10_undo_7 : decode cX10_undo 7 = .ok (.bipush (-3), 2) := by decide +kernel
theorem dX10_undo_9 : decode cX10_undo 9 = .ok (.ireturn, 1) := by decide +kernel
theorem dX10_undo_10 : decode cX10_undo 10 = .ok (.iconst 0, 1) := by decide +kernel
theorem dX10_undo_11 : decode cX10_undo 11 = .ok (.istore_n 1, 1) := by decide +kernel
theorem dX10_undo_12 : decode cX10_undo 12 = .ok (.iload_n 1, 1) := by decide +kernel
theorem dX10_undo_13 : decode cX10_undo 13 = .ok (.bipush 55, 2) := by decide +kernel
theorem dX10_undo_15 : decode cX10_undo 15 = .ok (.if_icmp .ge 21, 3) := by decide +kernel
theorem dX10_undo_18 : decode cX10_undo 18 = .ok (.aload_n 0, 1) := by decide +kernel
theorem dX10_undo_19 : decode cX10_undo 19 = .ok (.getfield 11, 3) := by decide +kernel
theorem dX10_undo_22 : decode cX10_undo 22 = .ok (.iload_n 1, 1) := by decide +kernel
theorem dX10_undo_23 : decode cX10_undo 23 = .ok (.aload_n 0, 1) := by decide +kernel
theorem dX10_undo_24 : decode cX10_undo 24 = .ok (.getfield 15, 3) := by decide +kernel
theorem dX10_undo_27 : decode cX10_undo 27 = .ok (.iload_n 1, 1) := by decide +kernel
theorem dX10_undo_28 : decode cX10_undo 28 = .ok (.iaload, 1) := by decide +kernel
theorem dX10_undo_29 : decode cX10_undo 29 = .ok (.iastore, 1) := by decide +kernel
theorem dX10_undo_30 : decode cX10_undo 30 = .ok (.iinc 1 1, 3) := by decide +kernel
theorem dX10_undo_33 : decode cX10_undo 33 = .ok (.goto (-21), 3) := by decide +kernel
theorem dX10_undo_36 : decode cX10_undo 36 = .ok (.aload_n 0, 1) := by decide +kernel
theorem dX10_undo_37 : decode cX10_undo 37 = .ok (.getfield 11, 3) := by decide +kernel
theorem dX10_undo_40 : decode cX10_undo 40 = .ok (.iconst 1, 1) := by decide +kernel
theorem dX10_undo_41 : decode cX10_undo 41 = .ok (.iaload, 1) := by decide +kernel
theorem dX10_undo_42 : decode cX10_undo 42 = .ok (.ireturn, 1) := by decide +kernel
theorem dX10_count_0 : decode cX10_count 0 = .ok (.iload_n 1, 1) := by decide +kernel
theorem dX10_count_1 : decode cX10_count 1 = .ok (.ifCond .ne 13, 3) := by decide +kernel
theorem dX10_count_4 : decode cX10_count 4 = .ok (.aload_n 0, 1) := by decide +kernel
theorem dX10_count_5 : decode cX10_count 5 = .ok (.getfield 11, 3) := by decide +kernel
theorem dX10_count_8 : decode cX10_count 8 = .ok (.bipush 8, 2) := by decide +kernel
theorem dX10_count_10 : decode cX10_count 10 = .ok (.iaload, 1) := by decide +kernel
theorem dX10_count_11 : decode cX10_count 11 = .ok (.goto 47, 3) := by decide +kernel
theorem dX10_count_14 : decode cX10_count 14 = .ok (.iload_n 1, 1) := by decide +kernel
theorem dX10_count_15 : decode cX10_count 15 = .ok (.iconst 1, 1) := by decide +kernel
theorem dX10_count_16 : decode cX10_count 16 = .ok (.if_icmp .ne 13, 3) := by decide +kernel
theorem dX10_count_19 : decode cX10_count 19 = .ok (.aload_n 0, 1) := by decide +kernel
theorem dX10_count_20 : decode cX10_count 20 = .ok (.getfield 11, 3) := by decide +kernel
theorem dX10_count_23 : decode cX10_count 23 = .ok (.bipush 21, 2) := by decide +kernel
theorem dX10_count_25 : decode cX10_count 25 = .ok (.iaload, 1) := by decide +kernel
theorem dX10_count_26 : decode cX10_count 26 = .ok (.goto 32, 3) := by decide +kernel
theorem dX10_count_29 : decode cX10_count 29 = .ok (.iload_n 1, 1) := by decide +kernel
theorem dX10_count_30 : decode cX10_count 30 = .ok (.iconst 2, 1) := by decide +kernel
theorem dX10_count_31 : decode cX10_count 31 = .ok (.if_icmp .ne 13, 3) := by decide +kernel
theorem dX10_count_34 : decode cX10_count 34 = .ok (.aload_n 0, 1) := by decide +kernel
theorem dX10_count_35 : decode cX10_count 35 = .ok (.getfield 11, 3) := by decide +kernel
theorem dX10_count_38 : decode cX10_count 38 = .ok (.bipush 38, 2) := by decide +kernel
theorem dX10_count_40 : decode cX10_count 40 = .ok (.iaload, 1) := by decide +kernel
theorem dX10_count_41 : decode cX10_count 41 = .ok (.goto 17, 3) := by decide +kernel
theorem dX10_count_44 : decode cX10_count 44 = .ok (.iload_n 1, 1) := by decide +kernel
theorem dX10_count_45 : decode cX10_count 45 = .ok (.iconst 3, 1) := by decide +kernel
theorem dX10_count_46 : decode cX10_count 46 = .ok (.if_icmp .ne 10, 3) := by decide +kernel
theorem dX10_count_49 : decode cX10_count 49 = .ok (.aload_n 0, 1) := by decide +kernel
theorem dX10_count_50 : decode cX10_count 50 = .ok (.getfield 181, 3) := by decide +kernel
theorem dX10_count_53 : decode cX10_count 53 = .ok (.goto 5, 3) := by decide +kernel
theorem dX10_count_56 : decode cX10_count 56 = .ok (.bipush (-2), 2) := by decide +kernel
theorem dX10_count_58 : decode cX10_count 58 = .ok (.ireturn, 1) := by decide +kernel
