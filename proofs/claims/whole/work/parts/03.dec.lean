theorem dX9_init_0 : decode cX9_init 0 = .ok (.aload_n 0, 1) := by decide +kernel
theorem dX9_init_1 : decode cX9_init 1 = .ok (.invokespecial 3, 3) := by decide +kernel
theorem dX9_init_4 : decode cX9_init 4 = .ok (.aload_n 0, 1) := by decide +kernel
theorem dX9_init_5 : decode cX9_init 5 = .ok (.new 9, 3) := by decide +kernel
theorem dX9_init_8 : decode cX9_init 8 = .ok (.dup, 1) := by decide +kernel
theorem dX9_init_9 : decode cX9_init 9 = .ok (.invokespecial 11, 3) := by decide +kernel
theorem dX9_init_12 : decode cX9_init 12 = .ok (.putfield 12, 3) := by decide +kernel
theorem dX9_init_15 : decode cX9_init 15 = .ok (.aload_n 0, 1) := by decide +kernel
theorem dX9_init_16 : decode cX9_init 16 = .ok (.new 9, 3) := by decide +kernel
theorem dX9_init_19 : decode cX9_init 19 = .ok (.dup, 1) := by decide +kernel
theorem dX9_init_20 : decode cX9_init 20 = .ok (.invokespecial 11, 3) := by decide +kernel
theorem dX9_init_23 : decode cX9_init 23 = .ok (.putfield 18, 3) := by decide +kernel
theorem dX9_init_26 : decode cX9_init 26 = .ok (.aload_n 0, 1) := by decide +kernel
theorem dX9_init_27 : decode cX9_init 27 = .ok (.iconst 0, 1) := by decide +kernel
theorem dX9_init_28 : decode cX9_init 28 = .ok (.putfield 21, 3) := by decide +kernel
theorem dX9_init_31 : decode cX9_init 31 = .ok (.aload_n 0, 1) := by decide +kernel
theorem dX9_init_32 : decode cX9_init 32 = .ok (.new 25, 3) := by decide +kernel
theorem dX9_init_35 : decode cX9_init 35 = .ok (.dup, 1) := by decide +kernel
theorem dX9_init_36 : decode cX9_init 36 = .ok (.invokespecial 27, 3) := by decide +kernel
theorem dX9_init_39 : decode cX9_init 39 = .ok (.putfield 28, 3) := by decide +kernel
theorem dX9_init_42 : decode cX9_init 42 = .ok (.aload_n 0, 1) := by decide +kernel
theorem dX9_init_43 : decode cX9_init 43 = .ok (.bipush 6, 2) := by decide +kernel
theorem dX9_init_45 : decode cX9_init 45 = .ok (.anewarray 32, 3) := by decide +kernel
theorem dX9_init_48 : decode cX9_init 48 = .ok (.putfield 34, 3) := by decide +kernel
theorem dX9_init_51 : decode cX9_init 51 = .ok (.aload_n 0, 1) := by decide +kernel
theorem dX9_init_52 : decode cX9_init 52 = .ok (.new 38, 3) := by decide +kernel
theorem dX9_init_55 : decode cX9_init 55 = .ok (.dup, 1) := by decide +kernel
theorem dX9_init_56 : decode cX9_init 56 = .ok (.invokespecial 40, 3) := by decide +kernel
theorem dX9_init_59 : decode cX9_init 59 = .ok (.putfield 41, 3) := by decide +kernel
theorem dX9_init_62 : decode cX9_init 62 = .ok (.aload_n 0, 1) := by decide +kernel
theorem dX9_init_63 : decode cX9_init 63 = .ok (.new 45, 3) := by decide +kernel
theorem dX9_init_66 : decode cX9_init 66 = .ok (.dup, 1) := by decide +kernel
theorem dX9_init_67 : decode cX9_init 67 = .ok (.invokespecial 47, 3) := by decide +kernel
theorem dX9_init_70 : decode cX9_init 70 = .ok (.putfield 48, 3) := by decide +kernel
theorem dX9_init_73 : decode cX9_init 73 = .ok (.aload_n 0, 1) := by decide +kernel
theorem dX9_init_74 : decode cX9_init 74 = .ok (.new 52, 3) := by decide +kernel
theorem dX9_init_77 : decode cX9_init 77 = .ok (.dup, 1) := by decide +kernel
theorem dX9_init_78 : decode cX9_init 78 = .ok (.invokespecial 54, 3) := by decide +kernel
theorem dX9_init_81 : decode cX9_init 81 = .ok (.putfield 55, 3) := by decide +kernel
theorem dX9_init_84 : decode cX9_init 84 = .ok (.aload_n 0, 1) := by decide +kernel
theorem dX9_init_85 : decode cX9_init 85 = .ok (.new 59, 3) := by decide +kernel
theorem dX9_init_88 : decode cX9_init 88 = .ok (.dup, 1) := by decide +kernel
theorem dX9_init_89 : decode cX9_init 89 = .ok (.invokespecial 61, 3) := by decide +kernel
theorem dX9_init_92 : decode cX9_init 92 = .ok (.putfield 62, 3) := by decide +kernel
theorem dX9_init_95 : decode cX9_init 95 = .ok (.iconst 0, 1) := by decide +kernel
theorem dX9_init_96 : decode cX9_init 96 = .ok (.istore_n 1, 1) := by decide +kernel
theorem dX9_init_97 : decode cX9_init 97 = .ok (.iload_n 1, 1) := by decide +kernel
theorem dX9_init_98 : decode cX9_init 98 = .ok (.bipush 6, 2) := by decide +kernel
theorem dX9_init_100 : decode cX9_init 100 = .ok (.if_icmp .ge 22, 3) := by decide +kernel
theorem dX9_init_103 : decode cX9_init 103 = .ok (.aload_n 0, 1) := by decide +kernel
theorem dX9_init_104 : decode cX9_init 104 = .ok (.getfield 34, 3) := by decide +kernel
theorem dX9_init_107 : decode cX9_init 107 = .ok (.iload_n 1, 1) := by decide +kernel
theorem dX9_init_108 : decode cX9_init 108 = .ok (.new 32, 3) := by decide +kernel
theorem dX9_init_111 : decode cX9_init 111 = .ok (.dup, 1) := by decide +kernel
theorem dX9_init_112 : decode cX9_init 112 = .ok (.invokespecial 66, 3) := by decide +kernel
theorem dX9_init_115 : decode cX9_init 115 = .ok (.aastore, 1) := by decide +kernel
theorem dX9_init_116 : decode cX9_init 116 = .ok (.iinc 1 1, 3) := by decide +kernel
theorem dX9_init_119 : decode cX9_init 119 = .ok (.goto (-22), 3) := by decide +kernel
theorem dX9_init_122 : decode cX9_init 122 = .ok (.return_, 1) := by decide +kernel
theorem dX9_voters_0 : decode cX9_voters 0 = .ok (.iload_n 1, 1) := by decide +kernel
theorem dX9_voters_1 : decode cX9_voters 1 = .ok (.iconst 2, 1) := by decide +kernel
theorem dX9_voters_2 : decode cX9_voters 2 = .ok (.if_icmp .lt 8, 3) := by decide +kernel
theorem dX9_voters_5 : decode cX9_voters 5 = .ok (.iload_n 1, 1) := by decide +kernel
theorem dX9_voters_6 : decode cX9_voters 6 = .ok (.iconst 4, 1) := by decide +kernel
theorem dX9_voters_7 : decode cX9_voters 7 = .ok (.if_icmp .le 6, 3) := by decide +kernel
theorem dX9_voters_10 : decode cX9_voters 10 = .ok (.bipush (-2), 2) := by decide +kernel
theorem dX9_voters_12 : decode cX9_voters 12 = .ok (.ireturn, 1) := by decide +kernel
theorem dX9_voters_13 : decode cX9_voters 13 = .ok (.aload_n 0, 1) := by decide +kernel
theorem dX9_voters_14 : decode cX9_voters 14 = .ok (.getfield 12, 3) := by decide +kernel
theorem dX9_voters_17 : decode cX9_voters 17 = .ok (.getfield 67, 3) := by decide +kernel
theorem dX9_voters_20 : decode cX9_voters 20 = .ok (.istore_n 2, 1) := by decide +kernel
theorem dX9_voters_21 : decode cX9_voters 21 = .ok (.aload_n 0, 1) := by decide +kernel
theorem dX9_voters_22 : decode cX9_voters 22 = .ok (.getfield 12, 3) := by decide +kernel
theorem dX9_voters_25 : decode cX9_voters 25 = .ok (.iload_n 1, 1) := by decide +kernel
theorem dX9_voters_26 : decode cX9_voters 26 = .ok (.invokevirtual 71, 3) := by decide +kernel
theorem dX9_voters_29 : decode cX9_voters 29 = .ok (.iload_n 2, 1) := by decide +kernel
theorem dX9_voters_30 : decode cX9_voters 30 = .ok (.ireturn, 1) := by decide +kernel
theorem dX9_say_0 : decode cX9_say 0 = .ok (.aload_n 0, 1) := by decide +kernel
theorem dX9_say_1 : decode cX9_say 1 = .ok (.getfield 12, 3) := by decide +kernel
theorem dX9_say_4 : decode cX9_say 4 = .ok (.iload_n 1, 1) := by decide +kernel
theorem dX9_say_5 : decode cX9_say 5 = .ok (.invokevirtual 75, 3) := by decide +kernel
theorem dX9_say_8 : decode cX9_say 8 = .ok (.ifCond .ne 5, 3) := by decide +kernel
theorem dX9_say_11 : decode cX9_say 11 = .ok (.iconst (-1), 1) := by decide +kernel
theorem dX9_say_12 : decode cX9_say 12 = .ok (.ireturn, 1) := by decide +kernel
theorem dX9_say_13 : decode cX9_say 13 = .ok (.iload_n 2, 1) := by decide +kernel
theorem dX9_say_14 : decode cX9_say 14 = .ok (.invokestatic 79, 3) := by decide +kernel
theorem dX9_say_17 : decode cX9_say 17 = .ok (.ifCond .ne 6, 3) := by decide +kernel
theorem dX9_say_20 : decode cX9_say 20 = .ok (.bipush (-2), 2) := by decide +kernel
theorem dX9_say_22 : decode cX9_say 22 = .ok (.ireturn, 1) := by decide +kernel
theorem dX9_say_23 : decode cX9_say 23 = .ok (.aload_n 0, 1) := by decide +kernel
theorem dX9_say_24 : decode cX9_say 24 = .ok (.getfield 12, 3) := by decide +kernel
theorem dX9_say_27 : decode cX9_say 27 = .ok (.getfield 82, 3) := by decide +kernel
theorem dX9_say_30 : decode cX9_say 30 = .ok (.iload_n 1, 1) := by decide +kernel
theorem dX9_say_31 : decode cX9_say 31 = .ok (.invokestatic 85, 3) := by decide +kernel
theorem dX9_say_34 : decode cX9_say 34 = .ok (.istore_n 3, 1) := by decide +kernel
theorem dX9_say_35 : decode cX9_say 35 = .ok (.iload_n 3, 1) := by decide +kernel
theorem dX9_say_36 : decode cX9_say 36 = .ok (.iload_n 2, 1) := by decide +kernel
theorem dX9_say_37 : decode cX9_say 37 = .ok (.if_icmp .eq 21, 3) := by decide +kernel
theorem dX9_say_40 : decode cX9_say 40 = .ok (.aload_n 0, 1) := by decide +kernel
theorem dX9_say_41 : decode cX9_say 41 = .ok (.getfield 12, 3) := by decide +kernel
theorem dX9_say_44 : decode cX9_say 44 = .ok (.aload_n 0, 1) := by decide +kernel
theorem dX9_say_45 : decode cX9_say 45 = .ok (.getfield 12, 3) := by decide +kernel
theorem dX9_say_48 : decode cX9_say 48 = .ok (.getfield 82, 3) := by decide +kernel
theorem dX9_say_51 : decode cX9_say 51 = .ok (.iload_n 1, 1) := by decide +kernel
theorem dX9_say_52 : decode cX9_say 52 = .ok (.invokestatic 91, 3) := by decide +kernel
theorem dX9_say_55 : decode cX9_say 55 = .ok (.putfield 82, 3) := by decide +kernel
theorem dX9_say_58 : decode cX9_say 58 = .ok (.iload_n 3, 1) := by decide +kernel
theorem dX9_say_59 : decode cX9_say 59 = .ok (.ireturn, 1) := by decide +kernel
theorem dX9_code_0 : decode cX9_code 0 = .ok (.iload_n 1, 1) := by decide +kernel
theorem dX9_code_1 : decode cX9_code 1 = .ok (.ifCond .lt 17, 3) := by decide +kernel
theorem dX9_code_4 : decode cX9_code 4 = .ok (.iload_n 1, 1) := by decide +kernel
theorem dX9_code_5 : decode cX9_code 5 = .ok (.aload_n 0, 1) := by decide +kernel
theorem dX9_code_6 : decode cX9_code 6 = .ok (.getfield 12, 3) := by decide +kernel
theorem dX9_code_9 : decode cX9_code 9 = .ok (.getfield 67, 3) := by decide +kernel
theorem dX9_code_12 : decode cX9_code 12 = .ok (.invokestatic 94, 3) := by decide +kernel
theorem dX9_code_15 : decode cX9_code 15 = .ok (.if_icmp .le 6, 3) := by decide +kernel
theorem dX9_code_18 : decode cX9_code 18 = .ok (.bipush (-2), 2) := by decide +kernel
theorem dX9_code_20 : decode cX9_code 20 = .ok (.ireturn, 1) := by decide +kernel
theorem dX9_code_21 : decode cX9_code 21 = .ok (.aload_n 0, 1) := by decide +kernel
theorem dX9_code_22 : decode cX9_code 22 = .ok (.getfield 12, 3) := by decide +kernel
theorem dX9_code_25 : decode cX9_code 25 = .ok (.getfield 82, 3) := by decide +kernel
theorem dX9_code_28 : decode cX9_code 28 = .ok (.istore_n 2, 1) := by decide +kernel
theorem dX9_code_29 : decode cX9_code 29 = .ok (.aload_n 0, 1) := by decide +kernel
theorem dX9_code_30 : decode cX9_code 30 = .ok (.getfield 12, 3) := by decide +kernel
theorem dX9_code_33 : decode cX9_code 33 = .ok (.iload_n 1, 1) := by decide +kernel
theorem dX9_code_34 : decode cX9_code 34 = .ok (.putfield 82, 3) := by decide +kernel
theorem dX9_code_37 : decode cX9_code 37 = .ok (.iload_n 2, 1) := by decide +kernel
theorem dX9_code_38 : decode cX9_code 38 = .ok (.ireturn, 1) := by decide +kernel
theorem dX9_weight_0 : decode cX9_weight 0 = .ok (.aload_n 0, 1) := by decide +kernel
theorem dX9_weight_1 : decode cX9_weight 1 = .ok (.getfield 12, 3) := by decide +kernel
theorem dX9_weight_4 : decode cX9_weight 4 = .ok (.iload_n 1, 1) := by decide +kernel
theorem dX9_weight_5 : decode cX9_weight 5 = .ok (.invokevirtual 98, 3) := by decide +kernel
theorem dX9_weight_8 : decode cX9_weight 8 = .ok (.ifCond .ne 5, 3) := by decide +kernel
theorem dX9_weight_11 : decode cX9_weight 11 = .ok (.iconst (-1), 1) := by decide +kernel
theorem dX9_weight_12 : decode cX9_weight 12 = .ok (.ireturn, 1) := by decide +kernel
theorem dX9_weight_13 : decode cX9_weight 13 = .ok (.iload_n 2, 1) := by decide +kernel
theorem dX9_weight_14 : decode cX9_weight 14 = .ok (.bipush (-9), 2) := by decide +kernel
theorem dX9_weight_16 : decode cX9_weight 16 = .ok (.if_icmp .lt 9, 3) := by decide +kernel
theorem dX9_weight_19 : decode cX9_weight 19 = .ok (.iload_n 2, 1) := by decide +kernel
theorem dX9_weight_20 : decode cX9_weight 20 = .ok (.bipush 9, 2) := by decide +kernel
theorem dX9_weight_22 : decode cX9_weight 22 = .ok (.if_icmp .le 6, 3) := by decide +kernel
theorem dX9_weight_25 : decode cX9_weight 25 = .ok (.bipush (-2), 2) := by decide +kernel
theorem dX9_weight_27 : decode cX9_weight 27 = .ok (.ireturn, 1) := by decide +kernel
theorem dX9_weight_28 : decode cX9_weight 28 = .ok (.aload_n 0, 1) := by decide +kernel
theorem dX9_weight_29 : decode cX9_weight 29 = .ok (.getfield 12, 3) := by decide +kernel
theorem dX9_weight_32 : decode cX9_weight 32 = .ok (.getfield 101, 3) := by decide +kernel
theorem dX9_weight_35 : decode cX9_weight 35 = .ok (.iload_n 1, 1) := by decide +kernel
theorem dX9_weight_36 : decode cX9_weight 36 = .ok (.iaload, 1) := by decide +kernel
theorem dX9_weight_37 : decode cX9_weight 37 = .ok (.istore_n 3, 1) := by decide +kernel
theorem dX9_weight_38 : decode cX9_weight 38 = .ok (.aload_n 0, 1) := by decide +kernel
theorem dX9_weight_39 : decode cX9_weight 39 = .ok (.getfield 12, 3) := by decide +kernel
theorem dX9_weight_42 : decode cX9_weight 42 = .ok (.getfield 101, 3) := by decide +kernel
theorem dX9_weight_45 : decode cX9_weight 45 = .ok (.iload_n 1, 1) := by decide +kernel
theorem dX9_weight_46 : decode cX9_weight 46 = .ok (.iload_n 2, 1) := by decide +kernel
theorem dX9_weight_47 : decode cX9_weight 47 = .ok (.iastore, 1) := by decide +kernel
theorem dX9_weight_48 : decode cX9_weight 48 = .ok (.iload_n 3, 1) := by decide +kernel
theorem dX9_weight_49 : decode cX9_weight 49 = .ok (.bipush 100, 2) := by decide +kernel
theorem dX9_weight_51 : decode cX9_weight 51 = .ok (.iadd, 1) := by decide +kernel
theorem dX9_weight_52 : decode cX9_weight 52 = .ok (.ireturn, 1) := by decide +kernel
theorem dX9_quota_0 : decode cX9_quota 0 = .ok (.iload_n 1, 1) := by decide +kernel
theorem dX9_quota_1 : decode cX9_quota 1 = .ok (.bipush (-40), 2) := by decide +kernel
theorem dX9_quota_3 : decode cX9_quota 3 = .ok (.if_icmp .lt 9, 3) := by decide +kernel
theorem dX9_quota_6 : decode cX9_quota 6 = .ok (.iload_n 1, 1) := by decide +kernel
theorem dX9_quota_7 : decode cX9_quota 7 = .ok (.bipush 40, 2) := by decide +kernel
theorem dX9_quota_9 : decode cX9_quota 9 = .ok (.if_icmp .le 6, 3) := by decide +kernel
theorem dX9_quota_12 : decode cX9_quota 12 = .ok (.bipush (-2), 2) := by decide +kernel
theorem dX9_quota_14 : decode cX9_quota 14 = .ok (.ireturn, 1) := by decide +kernel
theorem dX9_quota_15 : decode cX9_quota 15 = .ok (.aload_n 0, 1) := by decide +kernel
theorem dX9_quota_16 : decode cX9_quota 16 = .ok (.getfield 12, 3) := by decide +kernel
theorem dX9_quota_19 : decode cX9_quota 19 = .ok (.getfield 105, 3) := by decide +kernel
theorem dX9_quota_22 : decode cX9_quota 22 = .ok (.istore_n 2, 1) := by decide +kernel
theorem dX9_quota_23 : decode cX9_quota 23 = .ok (.aload_n 0, 1) := by decide +kernel
theorem dX9_quota_24 : decode cX9_quota 24 = .ok (.getfield 12, 3) := by decide +kernel
theorem dX9_quota_27 : decode cX9_quota 27 = .ok (.iload_n 1, 1) := by decide +kernel
theorem dX9_quota_28 : decode cX9_quota 28 = .ok (.putfield 105, 3) := by decide +kernel
theorem dX9_quota_31 : decode cX9_quota 31 = .ok (.iload_n 2, 1) := by decide +kernel
theorem dX9_quota_32 : decode cX9_quota 32 = .ok (.bipush 100, 2) := by decide +kernel
theorem dX9_quota_34 : decode cX9_quota 34 = .ok (.iadd, 1) := by decide +kernel
theorem dX9_quota_35 : decode cX9_quota 35 = .ok (.ireturn, 1) := by decide +kernel
theorem dX9_weigh_0 : decode cX9_weigh 0 = .ok (.aload_n 0, 1) := by decide +kernel
theorem dX9_weigh_1 : decode cX9_weigh 1 = .ok (.getfield 12, 3) := by decide +kernel
theorem dX9_weigh_4 : decode cX9_weigh 4 = .ok (.aload_n 0, 1) := by decide +kernel
theorem dX9_weigh_5 : decode cX9_weigh 5 = .ok (.getfield 12, 3) := by decide +kernel
theorem dX9_weigh_8 : decode cX9_weigh 8 = .ok (.invokevirtual 108, 3) := by decide +kernel
theorem dX9_weigh_11 : decode cX9_weigh 11 = .ok (.invokevirtual 112, 3) := by decide +kernel
theorem dX9_weigh_14 : decode cX9_weigh 14 = .ok (.ireturn, 1) := by decide +kernel
theorem dX9_becomes_0 : decode cX9_becomes 0 = .ok (.iload_n 1, 1) := by decide +kernel
theorem dX9_becomes_1 : decode cX9_becomes 1 = .ok (.tableswitch 82 0 2 #[27, 52, 77], 27) := by decide +kernel
theorem dX9_becomes_28 : decode cX9_becomes 28 = .ok (.aload_n 0, 1) := by decide +kernel
theorem dX9_becomes_29 : decode cX9_becomes 29 = .ok (.getfield 12, 3) := by decide +kernel
theorem dX9_becomes_32 : decode cX9_becomes 32 = .ok (.aload_n 0, 1) := by decide +kernel
theorem dX9_becomes_33 : decode cX9_becomes 33 = .ok (.getfield 12, 3) := by decide +kernel
theorem dX9_becomes_36 : decode cX9_becomes 36 = .ok (.getfield 67, 3) := by decide +kernel
theorem dX9_becomes_39 : decode cX9_becomes 39 = .ok (.aload_n 0, 1) := by decide +kernel
theorem dX9_becomes_40 : decode cX9_becomes 40 = .ok (.getfield 12, 3) := by decide +kernel
theorem dX9_becomes_43 : decode cX9_becomes 43 = .ok (.getfield 82, 3) := by decide +kernel
theorem dX9_becomes_46 : decode cX9_becomes 46 = .ok (.invokestatic 115, 3) := by decide +kernel
theorem dX9_becomes_49 : decode cX9_becomes 49 = .ok (.invokevirtual 112, 3) := by decide +kernel
theorem dX9_becomes_52 : decode cX9_becomes 52 = .ok (.ireturn, 1) := by decide +kernel
theorem dX9_becomes_53 : decode cX9_becomes 53 = .ok (.aload_n 0, 1) := by decide +kernel
theorem dX9_becomes_54 : decode cX9_becomes 54 = .ok (.getfield 12, 3) := by decide +kernel
theorem dX9_becomes_57 : decode cX9_becomes 57 = .ok (.aload_n 0, 1) := by decide +kernel
theorem dX9_becomes_58 : decode cX9_becomes 58 = .ok (.getfield 12, 3) := by decide +kernel
theorem dX9_becomes_61 : decode cX9_becomes 61 = .ok (.getfield 67, 3) := by decide +kernel
theorem dX9_becomes_64 : decode cX9_becomes 64 = .ok (.aload_n 0, 1) := by decide +kernel
theorem dX9_becomes_65 : decode cX9_becomes 65 = .ok (.getfield 12, 3) := by decide +kernel
theorem dX9_becomes_68 : decode cX9_becomes 68 = .ok (.getfield 82, 3) := by decide +kernel
theorem dX9_becomes_71 : decode cX9_becomes 71 = .ok (.invokestatic 118, 3) := by decide +kernel
theorem dX9_becomes_74 : decode cX9_becomes 74 = .ok (.invokevirtual 112, 3) := by decide +kernel
theorem dX9_becomes_77 : decode cX9_becomes 77 = .ok (.ireturn, 1) := by decide +kernel
theorem dX9_becomes_78 : decode cX9_becomes 78 = .ok (.aload_n 0, 1) := by decide +kernel
theorem dX9_becomes_79 : decode cX9_becomes 79 = .ok (.invokevirtual 121, 3) := by decide +kernel
theorem dX9_becomes_82 : decode cX9_becomes 82 = .ok (.ireturn, 1) := by decide +kernel
theorem dX9_becomes_83 : decode cX9_becomes 83 = .ok (.iconst (-1), 1) := by decide +kernel
theorem dX9_becomes_84 : decode cX9_becomes 84 = .ok (.ireturn, 1) := by decide +kernel
theorem dX9_takeLeastWeights_0 : decode cX9_takeLeastWeights 0 = .ok (.aload_n 0, 1) := by decide +kernel
theorem dX9_takeLeastWeights_1 : decode cX9_takeLeastWeights 1 = .ok (.getfield 41, 3) := by decide +kernel
theorem dX9_takeLeastWeights_4 : decode cX9_takeLeastWeights 4 = .ok (.aload_n 0, 1) := by decide +kernel
theorem dX9_takeLeastWeights_5 : decode cX9_takeLeastWeights 5 = .ok (.getfield 12, 3) := by decide +kernel
theorem dX9_takeLeastWeights_8 : decode cX9_takeLeastWeights 8 = .ok (.getfield 67, 3) := by decide +kernel
theorem dX9_takeLeastWeights_11 : decode cX9_takeLeastWeights 11 = .ok (.aload_n 0, 1) := by decide +kernel
theorem dX9_takeLeastWeights_12 : decode cX9_takeLeastWeights 12 = .ok (.getfield 12, 3) := by decide +kernel
theorem dX9_takeLeastWeights_15 : decode cX9_takeLeastWeights 15 = .ok (.getfield 82, 3) := by decide +kernel
theorem dX9_takeLeastWeights_18 : decode cX9_takeLeastWeights 18 = .ok (.invokevirtual 124, 3) := by decide +kernel
theorem dX9_takeLeastWeights_21 : decode cX9_takeLeastWeights 21 = .ok (.ifCond .ne 6, 3) := by decide +kernel
theorem dX9_takeLeastWeights_24 : decode cX9_takeLeastWeights 24 = .ok (.bipush (-3), 2) := by decide +kernel
theorem dX9_takeLeastWeights_26 : decode cX9_takeLeastWeights 26 = .ok (.ireturn, 1) := by decide +kernel
theorem dX9_takeLeastWeights_27 : decode cX9_takeLeastWeights 27 = .ok (.aload_n 0, 1) := by decide +kernel
theorem dX9_takeLeastWeights_28 : decode cX9_takeLeastWeights 28 = .ok (.getfield 41, 3) := by decide +kernel
theorem dX9_takeLeastWeights_31 : decode cX9_takeLeastWeights 31 = .ok (.getfield 128, 3) := by decide +kernel
theorem dX9_takeLeastWeights_34 : decode cX9_takeLeastWeights 34 = .ok (.aload_n 0, 1) := by decide +kernel
theorem dX9_takeLeastWeights_35 : decode cX9_takeLeastWeights 35 = .ok (.getfield 12, 3) := by decide +kernel
theorem dX9_takeLeastWeights_38 : decode cX9_takeLeastWeights 38 = .ok (.getfield 101, 3) := by decide +kernel
theorem dX9_takeLeastWeights_41 : decode cX9_takeLeastWeights 41 = .ok (.invokestatic 129, 3) := by decide +kernel
theorem dX9_takeLeastWeights_44 : decode cX9_takeLeastWeights 44 = .ok (.aload_n 0, 1) := by decide +kernel
theorem dX9_takeLeastWeights_45 : decode cX9_takeLeastWeights 45 = .ok (.getfield 12, 3) := by decide +kernel
theorem dX9_takeLeastWeights_48 : decode cX9_takeLeastWeights 48 = .ok (.aload_n 0, 1) := by decide +kernel
theorem dX9_takeLeastWeights_49 : decode cX9_takeLeastWeights 49 = .ok (.getfield 41, 3) := by decide +kernel
theorem dX9_takeLeastWeights_52 : decode cX9_takeLeastWeights 52 = .ok (.getfield 133, 3) := by decide +kernel
theorem dX9_takeLeastWeights_55 : decode cX9_takeLeastWeights 55 = .ok (.putfield 105, 3) := by decide +kernel
theorem dX9_takeLeastWeights_58 : decode cX9_takeLeastWeights 58 = .ok (.aload_n 0, 1) := by decide +kernel
theorem dX9_takeLeastWeights_59 : decode cX9_takeLeastWeights 59 = .ok (.getfield 12, 3) := by decide +kernel
theorem dX9_takeLeastWeights_62 : decode cX9_takeLeastWeights 62 = .ok (.getfield 105, 3) := by decide +kernel
theorem dX9_takeLeastWeights_65 : decode cX9_takeLeastWeights 65 = .ok (.bipush 100, 2) := by decide +kernel
theorem dX9_takeLeastWeights_67 : decode cX9_takeLeastWeights 67 = .ok (.iadd, 1) := by decide +kernel
theorem dX9_takeLeastWeights_68 : decode cX9_takeLeastWeights 68 = .ok (.ireturn, 1) := by decide +kernel
theorem dX9_turn_0 : decode cX9_turn 0 = .ok (.aload_n 0, 1) := by decide +kernel
theorem dX9_turn_1 : decode cX9_turn 1 = .ok (.getfield 12, 3) := by decide +kernel
theorem dX9_turn_4 : decode cX9_turn 4 = .ok (.iload_n 1, 1) := by decide +kernel
theorem dX9_turn_5 : decode cX9_turn 5 = .ok (.invokevirtual 98, 3) := by decide +kernel
theorem dX9_turn_8 : decode cX9_turn 8 = .ok (.ifCond .ne 5, 3) := by decide +kernel
theorem dX9_turn_11 : decode cX9_turn 11 = .ok (.iconst (-1), 1) := by decide +kernel
theorem dX9_turn_12 : decode cX9_turn 12 = .ok (.ireturn, 1) := by decide +kernel
theorem dX9_turn_13 : decode cX9_turn 13 = .ok (.aload_n 0, 1) := by decide +kernel
theorem dX9_turn_14 : decode cX9_turn 14 = .ok (.getfield 12, 3) := by decide +kernel
theorem dX9_turn_17 : decode cX9_turn 17 = .ok (.aload_n 0, 1) := by decide +kernel
theorem dX9_turn_18 : decode cX9_turn 18 = .ok (.getfield 12, 3) := by decide +kernel
theorem dX9_turn_21 : decode cX9_turn 21 = .ok (.getfield 82, 3) := by decide +kernel
theorem dX9_turn_24 : decode cX9_turn 24 = .ok (.iload_n 1, 1) := by decide +kernel
theorem dX9_turn_25 : decode cX9_turn 25 = .ok (.invokestatic 134, 3) := by decide +kernel
theorem dX9_turn_28 : decode cX9_turn 28 = .ok (.invokevirtual 112, 3) := by decide +kernel
theorem dX9_turn_31 : decode cX9_turn 31 = .ok (.ireturn, 1) := by decide +kernel
theorem dX9_exchange_0 : decode cX9_exchange 0 = .ok (.aload_n 0, 1) := by decide +kernel
theorem dX9_exchange_1 : decode cX9_exchange 1 = .ok (.getfield 12, 3) := by decide +kernel
theorem dX9_exchange_4 : decode cX9_exchange 4 = .ok (.iload_n 1, 1) := by decide +kernel
theorem dX9_exchange_5 : decode cX9_exchange 5 = .ok (.invokevirtual 98, 3) := by decide +kernel
theorem dX9_exchange_8 : decode cX9_exchange 8 = .ok (.ifCond .eq 19, 3) := by decide +kernel
theorem dX9_exchange_11 : decode cX9_exchange 11 = .ok (.aload_n 0, 1) := by decide +kernel
theorem dX9_exchange_12 : decode cX9_exchange 12 = .ok (.getfield 12, 3) := by decide +kernel
theorem dX9_exchange_15 : decode cX9_exchange 15 = .ok (.iload_n 2, 1) := by decide +kernel
theorem dX9_exchange_16 : decode cX9_exchange 16 = .ok (.invokevirtual 98, 3) := by decide +kernel
theorem dX9_exchange_19 : decode cX9_exchange 19 = .ok (.ifCond .eq 8, 3) := by decide +kernel
theorem dX9_exchange_22 : decode cX9_exchange 22 = .ok (.iload_n 1, 1) := by decide +kernel
theorem dX9_exchange_23 : decode cX9_exchange 23 = .ok (.iload_n 2, 1) := by decide +kernel
theorem dX9_exchange_24 : decode cX9_exchange 24 = .ok (.if_icmp .ne 5, 3) := by decide +kernel
theorem dX9_exchange_27 : decode cX9_exchange 27 = .ok (.iconst (-1), 1) := by decide +kernel
theorem dX9_exchange_28 : decode cX9_exchange 28 = .ok (.ireturn, 1) := by decide +kernel
theorem dX9_exchange_29 : decode cX9_exchange 29 = .ok (.aload_n 0, 1) := by decide +kernel
theorem dX9_exchange_30 : decode cX9_exchange 30 = .ok (.getfield 12, 3) := by decide +kernel
theorem dX9_exchange_33 : decode cX9_exchange 33 = .ok (.aload_n 0, 1) := by decide +kernel
theorem dX9_exchange_34 : decode cX9_exchange 34 = .ok (.getfield 12, 3) := by decide +kernel
theorem dX9_exchange_37 : decode cX9_exchange 37 = .ok (.getfield 82, 3) := by decide +kernel
theorem dX9_exchange_40 : decode cX9_exchange 40 = .ok (.iload_n 1, 1) := by decide +kernel
theorem dX9_exchange_41 : decode cX9_exchange 41 = .ok (.iload_n 2, 1) := by decide +kernel
theorem dX9_exchange_42 : decode cX9_exchange 42 = .ok (.invokestatic 137, 3) := by decide +kernel
theorem dX9_exchange_45 : decode cX9_exchange 45 = .ok (.invokevirtual 112, 3) := by decide +kernel
theorem dX9_exchange_48 : decode cX9_exchange 48 = .ok (.ireturn, 1) := by decide +kernel
theorem dX9_keep_0 : decode cX9_keep 0 = .ok (.aload_n 0, 1) := by decide +kernel
theorem dX9_keep_1 : decode cX9_keep 1 = .ok (.getfield 12, 3) := by decide +kernel
theorem dX9_keep_4 : decode cX9_keep 4 = .ok (.aload_n 0, 1) := by decide +kernel
theorem dX9_keep_5 : decode cX9_keep 5 = .ok (.getfield 12, 3) := by decide +kernel
theorem dX9_keep_8 : decode cX9_keep 8 = .ok (.getfield 82, 3) := by decide +kernel
theorem dX9_keep_11 : decode cX9_keep 11 = .ok (.putfield 141, 3) := by decide +kernel
theorem dX9_keep_14 : decode cX9_keep 14 = .ok (.aload_n 0, 1) := by decide +kernel
theorem dX9_keep_15 : decode cX9_keep 15 = .ok (.getfield 12, 3) := by decide +kernel
theorem dX9_keep_18 : decode cX9_keep 18 = .ok (.getfield 141, 3) := by decide +kernel
theorem dX9_keep_21 : decode cX9_keep 21 = .ok (.ireturn, 1) := by decide +kernel
theorem dX9_feed_0 : decode cX9_feed 0 = .ok (.iload_n 1, 1) := by decide +kernel
theorem dX9_feed_1 : decode cX9_feed 1 = .ok (.ifCond .lt 9, 3) := by decide +kernel
theorem dX9_feed_4 : decode cX9_feed 4 = .ok (.iload_n 1, 1) := by decide +kernel
theorem dX9_feed_5 : decode cX9_feed 5 = .ok (.bipush 127, 2) := by decide +kernel
theorem dX9_feed_7 : decode cX9_feed 7 = .ok (.if_icmp .le 6, 3) := by decide +kernel
theorem dX9_feed_10 : decode cX9_feed 10 = .ok (.bipush (-2), 2) := by decide +kernel
theorem dX9_feed_12 : decode cX9_feed 12 = .ok (.ireturn, 1) := by decide +kernel
theorem dX9_feed_13 : decode cX9_feed 13 = .ok (.aload_n 0, 1) := by decide +kernel
theorem dX9_feed_14 : decode cX9_feed 14 = .ok (.getfield 28, 3) := by decide +kernel
theorem dX9_feed_17 : decode cX9_feed 17 = .ok (.iload_n 1, 1) := by decide +kernel
theorem dX9_feed_18 : decode cX9_feed 18 = .ok (.invokevirtual 144, 3) := by decide +kernel
theorem dX9_feed_21 : decode cX9_feed 21 = .ok (.ifCond .eq 13, 3) := by decide +kernel
theorem dX9_feed_24 : decode cX9_feed 24 = .ok (.aload_n 0, 1) := by decide +kernel
theorem dX9_feed_25 : decode cX9_feed 25 = .ok (.getfield 28, 3) := by decide +kernel
theorem dX9_feed_28 : decode cX9_feed 28 = .ok (.getfield 147, 3) := by decide +kernel
theorem dX9_feed_31 : decode cX9_feed 31 = .ok (.goto 5, 3) := by decide +kernel
theorem dX9_feed_34 : decode cX9_feed 34 = .ok (.bipush (-4), 2) := by decide +kernel
theorem dX9_feed_36 : decode cX9_feed 36 = .ok (.ireturn, 1) := by decide +kernel
theorem dX9_read_0 : decode cX9_read 0 = .ok (.aload_n 0, 1) := by decide +kernel
theorem dX9_read_1 : decode cX9_read 1 = .ok (.getfield 28, 3) := by decide +kernel
theorem dX9_read_4 : decode cX9_read 4 = .ok (.invokevirtual 150, 3) := by decide +kernel
theorem dX9_read_7 : decode cX9_read 7 = .ok (.istore_n 1, 1) := by decide +kernel
theorem dX9_read_8 : decode cX9_read 8 = .ok (.aload_n 0, 1) := by decide +kernel
theorem dX9_read_9 : decode cX9_read 9 = .ok (.getfield 28, 3) := by decide +kernel
theorem dX9_read_12 : decode cX9_read 12 = .ok (.iconst 0, 1) := by decide +kernel
theorem dX9_read_13 : decode cX9_read 13 = .ok (.putfield 147, 3) := by decide +kernel
theorem dX9_read_16 : decode cX9_read 16 = .ok (.iload_n 1, 1) := by decide +kernel
theorem dX9_read_17 : decode cX9_read 17 = .ok (.iconst (-1), 1) := by decide +kernel
theorem dX9_read_18 : decode cX9_read 18 = .ok (.if_icmp .eq 8, 3) := by decide +kernel
theorem dX9_read_21 : decode cX9_read 21 = .ok (.bipush (-10), 2) := by decide +kernel
theorem dX9_read_23 : decode cX9_read 23 = .ok (.iload_n 1, 1) := by decide +kernel
theorem dX9_read_24 : decode cX9_read 24 = .ok (.isub, 1) := by decide +kernel
theorem dX9_read_25 : decode cX9_read 25 = .ok (.ireturn, 1) := by decide +kernel
theorem dX9_read_26 : decode cX9_read 26 = .ok (.iconst 0, 1) := by decide +kernel
theorem dX9_read_27 : decode cX9_read 27 = .ok (.istore_n 2, 1) := by decide +kernel
theorem dX9_read_28 : decode cX9_read 28 = .ok (.iconst 0, 1) := by decide +kernel
theorem dX9_read_29 : decode cX9_read 29 = .ok (.istore_n 3, 1) := by decide +kernel
theorem dX9_read_30 : decode cX9_read 30 = .ok (.iload_n 3, 1) := by decide +kernel
theorem dX9_read_31 : decode cX9_read 31 = .ok (.aload_n 0, 1) := by decide +kernel
theorem dX9_read_32 : decode cX9_read 32 = .ok (.getfield 28, 3) := by decide +kernel
theorem dX9_read_35 : decode cX9_read 35 = .ok (.getfield 153, 3) := by decide +kernel
theorem dX9_read_38 : decode cX9_read 38 = .ok (.if_icmp .ge 46, 3) := by decide +kernel
theorem dX9_read_41 : decode cX9_read 41 = .ok (.aload_n 0, 1) := by decide +kernel
theorem dX9_read_42 : decode cX9_read 42 = .ok (.aload_n 0, 1) := by decide +kernel
theorem dX9_read_43 : decode cX9_read 43 = .ok (.getfield 28, 3) := by decide +kernel
theorem dX9_read_46 : decode cX9_read 46 = .ok (.getfield 156, 3) := by decide +kernel
theorem dX9_read_49 : decode cX9_read 49 = .ok (.iload_n 3, 1) := by decide +kernel
theorem dX9_read_50 : decode cX9_read 50 = .ok (.iaload, 1) := by decide +kernel
theorem dX9_read_51 : decode cX9_read 51 = .ok (.aload_n 0, 1) := by decide +kernel
theorem dX9_read_52 : decode cX9_read 52 = .ok (.getfield 28, 3) := by decide +kernel
theorem dX9_read_55 : decode cX9_read 55 = .ok (.getfield 159, 3) := by decide +kernel
theorem dX9_read_58 : decode cX9_read 58 = .ok (.iload_n 3, 1) := by decide +kernel
theorem dX9_read_59 : decode cX9_read 59 = .ok (.iaload, 1) := by decide +kernel
theorem dX9_read_60 : decode cX9_read 60 = .ok (.aload_n 0, 1) := by decide +kernel
theorem dX9_read_61 : decode cX9_read 61 = .ok (.getfield 28, 3) := by decide +kernel
theorem dX9_read_64 : decode cX9_read 64 = .ok (.getfield 162, 3) := by decide +kernel
theorem dX9_read_67 : decode cX9_read 67 = .ok (.iload_n 3, 1) := by decide +kernel
theorem dX9_read_68 : decode cX9_read 68 = .ok (.iaload, 1) := by decide +kernel
theorem dX9_read_69 : decode cX9_read 69 = .ok (.invokevirtual 165, 3) := by decide +kernel
theorem dX9_read_72 : decode cX9_read 72 = .ok (.ifCond .lt 6, 3) := by decide +kernel
theorem dX9_read_75 : decode cX9_read 75 = .ok (.iinc 2 1, 3) := by decide +kernel
theorem dX9_read_78 : decode cX9_read 78 = .ok (.iinc 3 1, 3) := by decide +kernel
theorem dX9_read_81 : decode cX9_read 81 = .ok (.goto (-51), 3) := by decide +kernel
theorem dX9_read_84 : decode cX9_read 84 = .ok (.iload_n 2, 1) := by decide +kernel
theorem dX9_read_85 : decode cX9_read 85 = .ok (.ireturn, 1) := by decide +kernel
theorem dX9_carryOut_0 : decode cX9_carryOut 0 = .ok (.iload_n 1, 1) := by decide +kernel
theorem dX9_carryOut_1 : decode cX9_carryOut 1 = .ok (.lookupswitch 205 #[(43, 105), (45, 112), (100, 137), (103, 132), (107, 200), (110, 99), (111, 162), (113, 126), (116, 187), (119, 119), (120, 193)], 99) := by decide +kernel
theorem dX9_carryOut_100 : decode cX9_carryOut 100 = .ok (.aload_n 0, 1) := by decide +kernel
theorem dX9_carryOut_101 : decode cX9_carryOut 101 = .ok (.iload_n 2, 1) := by decide +kernel
theorem dX9_carryOut_102 : decode cX9_carryOut 102 = .ok (.invokevirtual 168, 3) := by decide +kernel
theorem dX9_carryOut_105 : decode cX9_carryOut 105 = .ok (.ireturn, 1) := by decide +kernel
theorem dX9_carryOut_106 : decode cX9_carryOut 106 = .ok (.aload_n 0, 1) := by decide +kernel
theorem dX9_carryOut_107 : decode cX9_carryOut 107 = .ok (.iload_n 2, 1) := by decide +kernel
theorem dX9_carryOut_108 : decode cX9_carryOut 108 = .ok (.iconst 1, 1) := by decide +kernel
theorem dX9_carryOut_109 : decode cX9_carryOut 109 = .ok (.invokevirtual 171, 3) := by decide +kernel
theorem dX9_carryOut_112 : decode cX9_carryOut 112 = .ok (.ireturn, 1) := by decide +kernel
theorem dX9_carryOut_113 : decode cX9_carryOut 113 = .ok (.aload_n 0, 1) := by decide +kernel
theorem dX9_carryOut_114 : decode cX9_carryOut 114 = .ok (.iload_n 2, 1) := by decide +kernel
theorem dX9_carryOut_115 : decode cX9_carryOut 115 = .ok (.iconst 0, 1) := by decide +kernel
theorem dX9_carryOut_116 : decode cX9_carryOut 116 = .ok (.invokevirtual 171, 3) := by decide +kernel
theorem dX9_carryOut_119 : decode cX9_carryOut 119 = .ok (.ireturn, 1) := by decide +kernel
theorem dX9_carryOut_120 : decode cX9_carryOut 120 = .ok (.aload_n 0, 1) := by decide +kernel
theorem dX9_carryOut_121 : decode cX9_carryOut 121 = .ok (.iload_n 2, 1) := by decide +kernel
theorem dX9_carryOut_122 : decode cX9_carryOut 122 = .ok (.iload_n 3, 1) := by decide +kernel
theorem dX9_carryOut_123 : decode cX9_carryOut 123 = .ok (.invokevirtual 174, 3) := by decide +kernel
theorem dX9_carryOut_126 : decode cX9_carryOut 126 = .ok (.ireturn, 1) := by decide +kernel
theorem dX9_carryOut_127 : decode cX9_carryOut 127 = .ok (.aload_n 0, 1) := by decide +kernel
theorem dX9_carryOut_128 : decode cX9_carryOut 128 = .ok (.iload_n 2, 1) := by decide +kernel
theorem dX9_carryOut_129 : decode cX9_carryOut 129 = .ok (.invokevirtual 177, 3) := by decide +kernel
theorem dX9_carryOut_132 : decode cX9_carryOut 132 = .ok (.ireturn, 1) := by decide +kernel
theorem dX9_carryOut_133 : decode cX9_carryOut 133 = .ok (.aload_n 0, 1) := by decide +kernel
theorem dX9_carryOut_134 : decode cX9_carryOut 134 = .ok (.invokevirtual 179, 3) := by decide +kernel
theorem dX9_carryOut_137 : decode cX9_carryOut 137 = .ok (.ireturn, 1) := by decide +kernel
theorem dX9_carryOut_138 : decode cX9_carryOut 138 = .ok (.aload_n 0, 1) := by decide +kernel
theorem dX9_carryOut_139 : decode cX9_carryOut 139 = .ok (.getfield 12, 3) := by decide +kernel
theorem dX9_carryOut_142 : decode cX9_carryOut 142 = .ok (.aload_n 0, 1) := by decide +kernel
theorem dX9_carryOut_143 : decode cX9_carryOut 143 = .ok (.getfield 12, 3) := by decide +kernel
theorem dX9_carryOut_146 : decode cX9_carryOut 146 = .ok (.getfield 67, 3) := by decide +kernel
theorem dX9_carryOut_149 : decode cX9_carryOut 149 = .ok (.aload_n 0, 1) := by decide +kernel
theorem dX9_carryOut_150 : decode cX9_carryOut 150 = .ok (.getfield 12, 3) := by decide +kernel
theorem dX9_carryOut_153 : decode cX9_carryOut 153 = .ok (.getfield 82, 3) := by decide +kernel
theorem dX9_carryOut_156 : decode cX9_carryOut 156 = .ok (.invokestatic 115, 3) := by decide +kernel
theorem dX9_carryOut_159 : decode cX9_carryOut 159 = .ok (.invokevirtual 112, 3) := by decide +kernel
theorem dX9_carryOut_162 : decode cX9_carryOut 162 = .ok (.ireturn, 1) := by decide +kernel
theorem dX9_carryOut_163 : decode cX9_carryOut 163 = .ok (.aload_n 0, 1) := by decide +kernel
theorem dX9_carryOut_164 : decode cX9_carryOut 164 = .ok (.getfield 12, 3) := by decide +kernel
theorem dX9_carryOut_167 : decode cX9_carryOut 167 = .ok (.aload_n 0, 1) := by decide +kernel
theorem dX9_carryOut_168 : decode cX9_carryOut 168 = .ok (.getfield 12, 3) := by decide +kernel
theorem dX9_carryOut_171 : decode cX9_carryOut 171 = .ok (.getfield 67, 3) := by decide +kernel
theorem dX9_carryOut_174 : decode cX9_carryOut 174 = .ok (.aload_n 0, 1) := by decide +kernel
theorem dX9_carryOut_175 : decode cX9_carryOut 175 = .ok (.getfield 12, 3) := by decide +kernel
theorem dX9_carryOut_178 : decode cX9_carryOut 178 = .ok (.getfield 82, 3) := by decide +kernel
theorem dX9_carryOut_181 : decode cX9_carryOut 181 = .ok (.invokestatic 118, 3) := by decide +kernel
theorem dX9_carryOut_184 : decode cX9_carryOut 184 = .ok (.invokevirtual 112, 3) := by decide +kernel
theorem dX9_carryOut_187 : decode cX9_carryOut 187 = .ok (.ireturn, 1) := by decide +kernel
theorem dX9_carryOut_188 : decode cX9_carryOut 188 = .ok (.aload_n 0, 1) := by decide +kernel
theorem dX9_carryOut_189 : decode cX9_carryOut 189 = .ok (.iload_n 2, 1) := by decide +kernel
theorem dX9_carryOut_190 : decode cX9_carryOut 190 = .ok (.invokevirtual 182, 3) := by decide +kernel
theorem dX9_carryOut_193 : decode cX9_carryOut 193 = .ok (.ireturn, 1) := by decide +kernel
theorem dX9_carryOut_194 : decode cX9_carryOut 194 = .ok (.aload_n 0, 1) := by decide +kernel
theorem dX9_carryOut_195 : decode cX9_carryOut 195 = .ok (.iload_n 2, 1) := by decide +kernel
theorem dX9_carryOut_196 : decode cX9_carryOut 196 = .ok (.iload_n 3, 1) := by decide +kernel
theorem dX9_carryOut_197 : decode cX9_carryOut 197 = .ok (.invokevirtual 185, 3) := by decide +kernel
theorem dX9_carryOut_200 : decode cX9_carryOut 200 = .ok (.ireturn, 1) := by decide +kernel
theorem dX9_carryOut_201 : decode cX9_carryOut 201 = .ok (.aload_n 0, 1) := by decide +kernel
theorem dX9_carryOut_202 : decode cX9_carryOut 202 = .ok (.invokevirtual 188, 3) := by decide +kernel
theorem dX9_carryOut_205 : decode cX9_carryOut 205 = .ok (.ireturn, 1) := by decide +kernel
theorem dX9_carryOut_206 : decode cX9_carryOut 206 = .ok (.iconst (-1), 1) := by decide +kernel
theorem dX9_carryOut_207 : decode cX9_carryOut 207 = .ok (.ireturn, 1) := by decide +kernel
theorem dX9_of_0 : decode cX9_of 0 = .ok (.aload_n 0, 1) := by decide +kernel
theorem dX9_of_1 : decode cX9_of 1 = .ok (.getfield 12, 3) := by decide +kernel
theorem dX9_of_4 : decode cX9_of 4 = .ok (.iload_n 1, 1) := by decide +kernel
theorem dX9_of_5 : decode cX9_of 5 = .ok (.invokevirtual 75, 3) := by decide +kernel
theorem dX9_of_8 : decode cX9_of 8 = .ok (.ifCond .ne 5, 3) := by decide +kernel
theorem dX9_of_11 : decode cX9_of 11 = .ok (.iconst (-1), 1) := by decide +kernel
theorem dX9_of_12 : decode cX9_of 12 = .ok (.ireturn, 1) := by decide +kernel
theorem dX9_of_13 : decode cX9_of 13 = .ok (.iload_n 2, 1) := by decide +kernel
theorem dX9_of_14 : decode cX9_of 14 = .ok (.tableswitch 78 0 3 #[30, 42, 54, 66], 30) := by decide +kernel
theorem dX9_of_44 : decode cX9_of 44 = .ok (.aload_n 0, 1) := by decide +kernel
theorem dX9_of_45 : decode cX9_of 45 = .ok (.getfield 12, 3) := by decide +kernel
theorem dX9_of_48 : decode cX9_of 48 = .ok (.getfield 82, 3) := by decide +kernel
theorem dX9_of_51 : decode cX9_of 51 = .ok (.iload_n 1, 1) := by decide +kernel
theorem dX9_of_52 : decode cX9_of 52 = .ok (.invokestatic 85, 3) := by decide +kernel
theorem dX9_of_55 : decode cX9_of 55 = .ok (.ireturn, 1) := by decide +kernel
theorem dX9_of_56 : decode cX9_of 56 = .ok (.aload_n 0, 1) := by decide +kernel
theorem dX9_of_57 : decode cX9_of 57 = .ok (.getfield 12, 3) := by decide +kernel
theorem dX9_of_60 : decode cX9_of 60 = .ok (.getfield 141, 3) := by decide +kernel
theorem dX9_of_63 : decode cX9_of 63 = .ok (.iload_n 1, 1) := by decide +kernel
theorem dX9_of_64 : decode cX9_of 64 = .ok (.invokestatic 85, 3) := by decide +kernel
theorem dX9_of_67 : decode cX9_of 67 = .ok (.ireturn, 1) := by decide +kernel
theorem dX9_of_68 : decode cX9_of 68 = .ok (.aload_n 0, 1) := by decide +kernel
theorem dX9_of_69 : decode cX9_of 69 = .ok (.getfield 12, 3) := by decide +kernel
theorem dX9_of_72 : decode cX9_of 72 = .ok (.invokevirtual 108, 3) := by decide +kernel
theorem dX9_of_75 : decode cX9_of 75 = .ok (.iload_n 1, 1) := by decide +kernel
theorem dX9_of_76 : decode cX9_of 76 = .ok (.invokestatic 85, 3) := by decide +kernel
theorem dX9_of_79 : decode cX9_of 79 = .ok (.ireturn, 1) := by decide +kernel
theorem dX9_of_80 : decode cX9_of 80 = .ok (.aload_n 0, 1) := by decide +kernel
theorem dX9_of_81 : decode cX9_of 81 = .ok (.getfield 12, 3) := by decide +kernel
theorem dX9_of_84 : decode cX9_of 84 = .ok (.iload_n 1, 1) := by decide +kernel
theorem dX9_of_85 : decode cX9_of 85 = .ok (.invokevirtual 191, 3) := by decide +kernel
theorem dX9_of_88 : decode cX9_of 88 = .ok (.bipush 100, 2) := by decide +kernel
theorem dX9_of_90 : decode cX9_of 90 = .ok (.iadd, 1) := by decide +kernel
theorem dX9_of_91 : decode cX9_of 91 = .ok (.ireturn, 1) := by decide +kernel
theorem dX9_of_92 : decode cX9_of 92 = .ok (.iconst (-1), 1) := by decide +kernel
theorem dX9_of_93 : decode cX9_of 93 = .ok (.ireturn, 1) := by decide +kernel
theorem dX9_told_0 : decode cX9_told 0 = .ok (.iload_n 1, 1) := by decide +kernel
theorem dX9_told_1 : decode cX9_told 1 = .ok (.tableswitch 281 0 11 #[63, 71, 79, 87, 95, 106, 127, 148, 173, 195, 216, 245], 63) := by decide +kernel
theorem dX9_told_64 : decode cX9_told 64 = .ok (.aload_n 0, 1) := by decide +kernel
theorem dX9_told_65 : decode cX9_told 65 = .ok (.getfield 12, 3) := by decide +kernel
theorem dX9_told_68 : decode cX9_told 68 = .ok (.getfield 67, 3) := by decide +kernel
theorem dX9_told_71 : decode cX9_told 71 = .ok (.ireturn, 1) := by decide +kernel
theorem dX9_told_72 : decode cX9_told 72 = .ok (.aload_n 0, 1) := by decide +kernel
theorem dX9_told_73 : decode cX9_told 73 = .ok (.getfield 12, 3) := by decide +kernel
theorem dX9_told_76 : decode cX9_told 76 = .ok (.getfield 82, 3) := by decide +kernel
theorem dX9_told_79 : decode cX9_told 79 = .ok (.ireturn, 1) := by decide +kernel
theorem dX9_told_80 : decode cX9_told 80 = .ok (.aload_n 0, 1) := by decide +kernel
theorem dX9_told_81 : decode cX9_told 81 = .ok (.getfield 12, 3) := by decide +kernel
theorem dX9_told_84 : decode cX9_told 84 = .ok (.getfield 141, 3) := by decide +kernel
theorem dX9_told_87 : decode cX9_told 87 = .ok (.ireturn, 1) := by decide +kernel
theorem dX9_told_88 : decode cX9_told 88 = .ok (.aload_n 0, 1) := by decide +kernel
theorem dX9_told_89 : decode cX9_told 89 = .ok (.getfield 12, 3) := by decide +kernel
theorem dX9_told_92 : decode cX9_told 92 = .ok (.invokevirtual 108, 3) := by decide +kernel
theorem dX9_told_95 : decode cX9_told 95 = .ok (.ireturn, 1) := by decide +kernel
theorem dX9_told_96 : decode cX9_told 96 = .ok (.aload_n 0, 1) := by decide +kernel
theorem dX9_told_97 : decode cX9_told 97 = .ok (.getfield 12, 3) := by decide +kernel
theorem dX9_told_100 : decode cX9_told 100 = .ok (.getfield 105, 3) := by decide +kernel
theorem dX9_told_103 : decode cX9_told 103 = .ok (.bipush 100, 2) := by decide +kernel
theorem dX9_told_105 : decode cX9_told 105 = .ok (.iadd, 1) := by decide +kernel
theorem dX9_told_106 : decode cX9_told 106 = .ok (.ireturn, 1) := by decide +kernel
theorem dX9_told_107 : decode cX9_told 107 = .ok (.aload_n 0, 1) := by decide +kernel
theorem dX9_told_108 : decode cX9_told 108 = .ok (.getfield 12, 3) := by decide +kernel
theorem dX9_told_111 : decode cX9_told 111 = .ok (.getfield 67, 3) := by decide +kernel
theorem dX9_told_114 : decode cX9_told 114 = .ok (.aload_n 0, 1) := by decide +kernel
theorem dX9_told_115 : decode cX9_told 115 = .ok (.getfield 12, 3) := by decide +kernel
theorem dX9_told_118 : decode cX9_told 118 = .ok (.getfield 82, 3) := by decide +kernel
theorem dX9_told_121 : decode cX9_told 121 = .ok (.invokestatic 194, 3) := by decide +kernel
theorem dX9_told_124 : decode cX9_told 124 = .ok (.invokestatic 197, 3) := by decide +kernel
theorem dX9_told_127 : decode cX9_told 127 = .ok (.ireturn, 1) := by decide +kernel
theorem dX9_told_128 : decode cX9_told 128 = .ok (.aload_n 0, 1) := by decide +kernel
theorem dX9_told_129 : decode cX9_told 129 = .ok (.getfield 12, 3) := by decide +kernel
theorem dX9_told_132 : decode cX9_told 132 = .ok (.getfield 67, 3) := by decide +kernel
theorem dX9_told_135 : decode cX9_told 135 = .ok (.aload_n 0, 1) := by decide +kernel
theorem dX9_told_136 : decode cX9_told 136 = .ok (.getfield 12, 3) := by decide +kernel
theorem dX9_told_139 : decode cX9_told 139 = .ok (.getfield 82, 3) := by decide +kernel
theorem dX9_told_142 : decode cX9_told 142 = .ok (.invokestatic 201, 3) := by decide +kernel
theorem dX9_told_145 : decode cX9_told 145 = .ok (.invokestatic 197, 3) := by decide +kernel
theorem dX9_told_148 : decode cX9_told 148 = .ok (.ireturn, 1) := by decide +kernel
theorem dX9_told_149 : decode cX9_told 149 = .ok (.aload_n 0, 1) := by decide +kernel
theorem dX9_told_150 : decode cX9_told 150 = .ok (.getfield 41, 3) := by decide +kernel
theorem dX9_told_153 : decode cX9_told 153 = .ok (.aload_n 0, 1) := by decide +kernel
theorem dX9_told_154 : decode cX9_told 154 = .ok (.getfield 12, 3) := by decide +kernel
theorem dX9_told_157 : decode cX9_told 157 = .ok (.getfield 67, 3) := by decide +kernel
theorem dX9_told_160 : decode cX9_told 160 = .ok (.aload_n 0, 1) := by decide +kernel
theorem dX9_told_161 : decode cX9_told 161 = .ok (.getfield 12, 3) := by decide +kernel
theorem dX9_told_164 : decode cX9_told 164 = .ok (.getfield 82, 3) := by decide +kernel
theorem dX9_told_167 : decode cX9_told 167 = .ok (.invokevirtual 124, 3) := by decide +kernel
theorem dX9_told_170 : decode cX9_told 170 = .ok (.invokestatic 197, 3) := by decide +kernel
theorem dX9_told_173 : decode cX9_told 173 = .ok (.ireturn, 1) := by decide +kernel
theorem dX9_told_174 : decode cX9_told 174 = .ok (.aload_n 0, 1) := by decide +kernel
theorem dX9_told_175 : decode cX9_told 175 = .ok (.getfield 62, 3) := by decide +kernel
theorem dX9_told_178 : decode cX9_told 178 = .ok (.aload_n 0, 1) := by decide +kernel
theorem dX9_told_179 : decode cX9_told 179 = .ok (.getfield 12, 3) := by decide +kernel
theorem dX9_told_182 : decode cX9_told 182 = .ok (.getfield 67, 3) := by decide +kernel
theorem dX9_told_185 : decode cX9_told 185 = .ok (.aload_n 0, 1) := by decide +kernel
theorem dX9_told_186 : decode cX9_told 186 = .ok (.getfield 12, 3) := by decide +kernel
theorem dX9_told_189 : decode cX9_told 189 = .ok (.getfield 82, 3) := by decide +kernel
theorem dX9_told_192 : decode cX9_told 192 = .ok (.invokevirtual 204, 3) := by decide +kernel
theorem dX9_told_195 : decode cX9_told 195 = .ok (.ireturn, 1) := by decide +kernel
theorem dX9_told_196 : decode cX9_told 196 = .ok (.aload_n 0, 1) := by decide +kernel
theorem dX9_told_197 : decode cX9_told 197 = .ok (.getfield 12, 3) := by decide +kernel
theorem dX9_told_200 : decode cX9_told 200 = .ok (.getfield 67, 3) := by decide +kernel
theorem dX9_told_203 : decode cX9_told 203 = .ok (.aload_n 0, 1) := by decide +kernel
theorem dX9_told_204 : decode cX9_told 204 = .ok (.getfield 12, 3) := by decide +kernel
theorem dX9_told_207 : decode cX9_told 207 = .ok (.getfield 82, 3) := by decide +kernel
theorem dX9_told_210 : decode cX9_told 210 = .ok (.invokestatic 207, 3) := by decide +kernel
theorem dX9_told_213 : decode cX9_told 213 = .ok (.invokestatic 210, 3) := by decide +kernel
theorem dX9_told_216 : decode cX9_told 216 = .ok (.ireturn, 1) := by decide +kernel
theorem dX9_told_217 : decode cX9_told 217 = .ok (.aload_n 0, 1) := by decide +kernel
theorem dX9_told_218 : decode cX9_told 218 = .ok (.getfield 48, 3) := by decide +kernel
theorem dX9_told_221 : decode cX9_told 221 = .ok (.aload_n 0, 1) := by decide +kernel
theorem dX9_told_222 : decode cX9_told 222 = .ok (.getfield 12, 3) := by decide +kernel
theorem dX9_told_225 : decode cX9_told 225 = .ok (.getfield 67, 3) := by decide +kernel
theorem dX9_told_228 : decode cX9_told 228 = .ok (.aload_n 0, 1) := by decide +kernel
theorem dX9_told_229 : decode cX9_told 229 = .ok (.getfield 12, 3) := by decide +kernel
theorem dX9_told_232 : decode cX9_told 232 = .ok (.getfield 82, 3) := by decide +kernel
theorem dX9_told_235 : decode cX9_told 235 = .ok (.invokevirtual 215, 3) := by decide +kernel
theorem dX9_told_238 : decode cX9_told 238 = .ok (.aload_n 0, 1) := by decide +kernel
theorem dX9_told_239 : decode cX9_told 239 = .ok (.getfield 48, 3) := by decide +kernel
theorem dX9_told_242 : decode cX9_told 242 = .ok (.getfield 219, 3) := by decide +kernel
theorem dX9_told_245 : decode cX9_told 245 = .ok (.ireturn, 1) := by decide +kernel
theorem dX9_told_246 : decode cX9_told 246 = .ok (.aload_n 0, 1) := by decide +kernel
theorem dX9_told_247 : decode cX9_told 247 = .ok (.getfield 48, 3) := by decide +kernel
theorem dX9_told_250 : decode cX9_told 250 = .ok (.aload_n 0, 1) := by decide +kernel
theorem dX9_told_251 : decode cX9_told 251 = .ok (.getfield 12, 3) := by decide +kernel
theorem dX9_told_254 : decode cX9_told 254 = .ok (.getfield 67, 3) := by decide +kernel
theorem dX9_told_257 : decode cX9_told 257 = .ok (.aload_n 0, 1) := by decide +kernel
theorem dX9_told_258 : decode cX9_told 258 = .ok (.getfield 12, 3) := by decide +kernel
theorem dX9_told_261 : decode cX9_told 261 = .ok (.getfield 82, 3) := by decide +kernel
theorem dX9_told_264 : decode cX9_told 264 = .ok (.invokevirtual 215, 3) := by decide +kernel
theorem dX9_told_267 : decode cX9_told 267 = .ok (.aload_n 0, 1) := by decide +kernel
theorem dX9_told_268 : decode cX9_told 268 = .ok (.getfield 48, 3) := by decide +kernel
theorem dX9_told_271 : decode cX9_told 271 = .ok (.aload_n 0, 1) := by decide +kernel
theorem dX9_told_272 : decode cX9_told 272 = .ok (.getfield 12, 3) := by decide +kernel
theorem dX9_told_275 : decode cX9_told 275 = .ok (.getfield 141, 3) := by decide +kernel
theorem dX9_told_278 : decode cX9_told 278 = .ok (.invokevirtual 222, 3) := by decide +kernel
theorem dX9_told_281 : decode cX9_told 281 = .ok (.ireturn, 1) := by decide +kernel
theorem dX9_told_282 : decode cX9_told 282 = .ok (.iconst (-1), 1) := by decide +kernel
theorem dX9_told_283 : decode cX9_told 283 = .ok (.ireturn, 1) := by decide +kernel
theorem dX9_weightOf_0 : decode cX9_weightOf 0 = .ok (.aload_n 0, 1) := by decide +kernel
theorem dX9_weightOf_1 : decode cX9_weightOf 1 = .ok (.getfield 12, 3) := by decide +kernel
theorem dX9_weightOf_4 : decode cX9_weightOf 4 = .ok (.iload_n 1, 1) := by decide +kernel
theorem dX9_weightOf_5 : decode cX9_weightOf 5 = .ok (.invokevirtual 98, 3) := by decide +kernel
theorem dX9_weightOf_8 : decode cX9_weightOf 8 = .ok (.ifCond .eq 12, 3) := by decide +kernel
theorem dX9_weightOf_11 : decode cX9_weightOf 11 = .ok (.iload_n 2, 1) := by decide +kernel
theorem dX9_weightOf_12 : decode cX9_weightOf 12 = .ok (.ifCond .lt 8, 3) := by decide +kernel
theorem dX9_weightOf_15 : decode cX9_weightOf 15 = .ok (.iload_n 2, 1) := by decide +kernel
theorem dX9_weightOf_16 : decode cX9_weightOf 16 = .ok (.iconst 1, 1) := by decide +kernel
theorem dX9_weightOf_17 : decode cX9_weightOf 17 = .ok (.if_icmp .le 5, 3) := by decide +kernel
theorem dX9_weightOf_20 : decode cX9_weightOf 20 = .ok (.iconst (-1), 1) := by decide +kernel
theorem dX9_weightOf_21 : decode cX9_weightOf 21 = .ok (.ireturn, 1) := by decide +kernel
theorem dX9_weightOf_22 : decode cX9_weightOf 22 = .ok (.iload_n 2, 1) := by decide +kernel
theorem dX9_weightOf_23 : decode cX9_weightOf 23 = .ok (.ifCond .ne 16, 3) := by decide +kernel
theorem dX9_weightOf_26 : decode cX9_weightOf 26 = .ok (.aload_n 0, 1) := by decide +kernel
theorem dX9_weightOf_27 : decode cX9_weightOf 27 = .ok (.getfield 12, 3) := by decide +kernel
theorem dX9_weightOf_30 : decode cX9_weightOf 30 = .ok (.getfield 101, 3) := by decide +kernel
theorem dX9_weightOf_33 : decode cX9_weightOf 33 = .ok (.iload_n 1, 1) := by decide +kernel
theorem dX9_weightOf_34 : decode cX9_weightOf 34 = .ok (.iaload, 1) := by decide +kernel
theorem dX9_weightOf_35 : decode cX9_weightOf 35 = .ok (.bipush 100, 2) := by decide +kernel
theorem dX9_weightOf_37 : decode cX9_weightOf 37 = .ok (.iadd, 1) := by decide +kernel
theorem dX9_weightOf_38 : decode cX9_weightOf 38 = .ok (.ireturn, 1) := by decide +kernel
theorem dX9_weightOf_39 : decode cX9_weightOf 39 = .ok (.aload_n 0, 1) := by decide +kernel
theorem dX9_weightOf_40 : decode cX9_weightOf 40 = .ok (.getfield 41, 3) := by decide +kernel
theorem dX9_weightOf_43 : decode cX9_weightOf 43 = .ok (.aload_n 0, 1) := by decide +kernel
theorem dX9_weightOf_44 : decode cX9_weightOf 44 = .ok (.getfield 12, 3) := by decide +kernel
theorem dX9_weightOf_47 : decode cX9_weightOf 47 = .ok (.getfield 67, 3) := by decide +kernel
theorem dX9_weightOf_50 : decode cX9_weightOf 50 = .ok (.aload_n 0, 1) := by decide +kernel
theorem dX9_weightOf_51 : decode cX9_weightOf 51 = .ok (.getfield 12, 3) := by decide +kernel
theorem dX9_weightOf_54 : decode cX9_weightOf 54 = .ok (.getfield 82, 3) := by decide +kernel
theorem dX9_weightOf_57 : decode cX9_weightOf 57 = .ok (.invokevirtual 124, 3) := by decide +kernel
theorem dX9_weightOf_60 : decode cX9_weightOf 60 = .ok (.ifCond .eq 18, 3) := by decide +kernel
theorem dX9_weightOf_63 : decode cX9_weightOf 63 = .ok (.aload_n 0, 1) := by decide +kernel
theorem dX9_weightOf_64 : decode cX9_weightOf 64 = .ok (.getfield 41, 3) := by decide +kernel
theorem dX9_weightOf_67 : decode cX9_weightOf 67 = .ok (.getfield 128, 3) := by decide +kernel
theorem dX9_weightOf_70 : decode cX9_weightOf 70 = .ok (.iload_n 1, 1) := by decide +kernel
theorem dX9_weightOf_71 : decode cX9_weightOf 71 = .ok (.iaload, 1) := by decide +kernel
theorem dX9_weightOf_72 : decode cX9_weightOf 72 = .ok (.bipush 100, 2) := by decide +kernel
theorem dX9_weightOf_74 : decode cX9_weightOf 74 = .ok (.iadd, 1) := by decide +kernel
theorem dX9_weightOf_75 : decode cX9_weightOf 75 = .ok (.goto 5, 3) := by decide +kernel
theorem dX9_weightOf_78 : decode cX9_weightOf 78 = .ok (.bipush (-3), 2) := by decide +kernel
theorem dX9_weightOf_80 : decode cX9_weightOf 80 = .ok (.ireturn, 1) := by decide +kernel
theorem dX9_least_0 : decode cX9_least 0 = .ok (.aload_n 0, 1) := by decide +kernel
theorem dX9_least_1 : decode cX9_least 1 = .ok (.getfield 41, 3) := by decide +kernel
theorem dX9_least_4 : decode cX9_least 4 = .ok (.aload_n 0, 1) := by decide +kernel
theorem dX9_least_5 : decode cX9_least 5 = .ok (.getfield 12, 3) := by decide +kernel
theorem dX9_least_8 : decode cX9_least 8 = .ok (.getfield 67, 3) := by decide +kernel
theorem dX9_least_11 : decode cX9_least 11 = .ok (.aload_n 0, 1) := by decide +kernel
theorem dX9_least_12 : decode cX9_least 12 = .ok (.getfield 12, 3) := by decide +kernel
theorem dX9_least_15 : decode cX9_least 15 = .ok (.getfield 82, 3) := by decide +kernel
theorem dX9_least_18 : decode cX9_least 18 = .ok (.invokevirtual 124, 3) := by decide +kernel
theorem dX9_least_21 : decode cX9_least 21 = .ok (.ifCond .eq 16, 3) := by decide +kernel
theorem dX9_least_24 : decode cX9_least 24 = .ok (.aload_n 0, 1) := by decide +kernel
theorem dX9_least_25 : decode cX9_least 25 = .ok (.getfield 41, 3) := by decide +kernel
theorem dX9_least_28 : decode cX9_least 28 = .ok (.getfield 133, 3) := by decide +kernel
theorem dX9_least_31 : decode cX9_least 31 = .ok (.bipush 100, 2) := by decide +kernel
theorem dX9_least_33 : decode cX9_least 33 = .ok (.iadd, 1) := by decide +kernel
theorem dX9_least_34 : decode cX9_least 34 = .ok (.goto 5, 3) := by decide +kernel
theorem dX9_least_37 : decode cX9_least 37 = .ok (.bipush (-3), 2) := by decide +kernel
theorem dX9_least_39 : decode cX9_least 39 = .ok (.ireturn, 1) := by decide +kernel
theorem dX9_chow_0 : decode cX9_chow 0 = .ok (.iload_n 1, 1) := by decide +kernel
theorem dX9_chow_1 : decode cX9_chow 1 = .ok (.iconst (-1), 1) := by decide +kernel
theorem dX9_chow_2 : decode cX9_chow 2 = .ok (.if_icmp .ne 14, 3) := by decide +kernel
theorem dX9_chow_5 : decode cX9_chow 5 = .ok (.aload_n 0, 1) := by decide +kernel
theorem dX9_chow_6 : decode cX9_chow 6 = .ok (.getfield 12, 3) := by decide +kernel
theorem dX9_chow_9 : decode cX9_chow 9 = .ok (.getfield 82, 3) := by decide +kernel
theorem dX9_chow_12 : decode cX9_chow 12 = .ok (.invokestatic 210, 3) := by decide +kernel
theorem dX9_chow_15 : decode cX9_chow 15 = .ok (.ireturn, 1) := by decide +kernel
theorem dX9_chow_16 : decode cX9_chow 16 = .ok (.aload_n 0, 1) := by decide +kernel
theorem dX9_chow_17 : decode cX9_chow 17 = .ok (.getfield 12, 3) := by decide +kernel
theorem dX9_chow_20 : decode cX9_chow 20 = .ok (.iload_n 1, 1) := by decide +kernel
theorem dX9_chow_21 : decode cX9_chow 21 = .ok (.invokevirtual 98, 3) := by decide +kernel
theorem dX9_chow_24 : decode cX9_chow 24 = .ok (.ifCond .eq 21, 3) := by decide +kernel
theorem dX9_chow_27 : decode cX9_chow 27 = .ok (.aload_n 0, 1) := by decide +kernel
theorem dX9_chow_28 : decode cX9_chow 28 = .ok (.getfield 12, 3) := by decide +kernel
theorem dX9_chow_31 : decode cX9_chow 31 = .ok (.getfield 82, 3) := by decide +kernel
theorem dX9_chow_34 : decode cX9_chow 34 = .ok (.iload_n 1, 1) := by decide +kernel
theorem dX9_chow_35 : decode cX9_chow 35 = .ok (.invokestatic 225, 3) := by decide +kernel
theorem dX9_chow_38 : decode cX9_chow 38 = .ok (.iand, 1) := by decide +kernel
theorem dX9_chow_39 : decode cX9_chow 39 = .ok (.invokestatic 210, 3) := by decide +kernel
theorem dX9_chow_42 : decode cX9_chow 42 = .ok (.goto 4, 3) := by decide +kernel
theorem dX9_chow_45 : decode cX9_chow 45 = .ok (.iconst (-1), 1) := by decide +kernel
theorem dX9_chow_46 : decode cX9_chow 46 = .ok (.ireturn, 1) := by decide +kernel
theorem dX9_trade_0 : decode cX9_trade 0 = .ok (.iload_n 1, 1) := by decide +kernel
theorem dX9_trade_1 : decode cX9_trade 1 = .ok (.ifCond .lt 8, 3) := by decide +kernel
theorem dX9_trade_4 : decode cX9_trade 4 = .ok (.iload_n 1, 1) := by decide +kernel
theorem dX9_trade_5 : decode cX9_trade 5 = .ok (.iconst 4, 1) := by decide +kernel
theorem dX9_trade_6 : decode cX9_trade 6 = .ok (.if_icmp .le 5, 3) := by decide +kernel
theorem dX9_trade_9 : decode cX9_trade 9 = .ok (.iconst (-1), 1) := by decide +kernel
theorem dX9_trade_10 : decode cX9_trade 10 = .ok (.ireturn, 1) := by decide +kernel
theorem dX9_trade_11 : decode cX9_trade 11 = .ok (.aload_n 0, 1) := by decide +kernel
theorem dX9_trade_12 : decode cX9_trade 12 = .ok (.getfield 55, 3) := by decide +kernel
theorem dX9_trade_15 : decode cX9_trade 15 = .ok (.aload_n 0, 1) := by decide +kernel
theorem dX9_trade_16 : decode cX9_trade 16 = .ok (.getfield 12, 3) := by decide +kernel
theorem dX9_trade_19 : decode cX9_trade 19 = .ok (.getfield 67, 3) := by decide +kernel
theorem dX9_trade_22 : decode cX9_trade 22 = .ok (.aload_n 0, 1) := by decide +kernel
theorem dX9_trade_23 : decode cX9_trade 23 = .ok (.getfield 12, 3) := by decide +kernel
theorem dX9_trade_26 : decode cX9_trade 26 = .ok (.getfield 82, 3) := by decide +kernel
theorem dX9_trade_29 : decode cX9_trade 29 = .ok (.invokevirtual 228, 3) := by decide +kernel
theorem dX9_trade_32 : decode cX9_trade 32 = .ok (.iload_n 1, 1) := by decide +kernel
theorem dX9_trade_33 : decode cX9_trade 33 = .ok (.ifCond .ne 11, 3) := by decide +kernel
theorem dX9_trade_36 : decode cX9_trade 36 = .ok (.aload_n 0, 1) := by decide +kernel
theorem dX9_trade_37 : decode cX9_trade 37 = .ok (.getfield 55, 3) := by decide +kernel
theorem dX9_trade_40 : decode cX9_trade 40 = .ok (.getfield 231, 3) := by decide +kernel
theorem dX9_trade_43 : decode cX9_trade 43 = .ok (.ireturn, 1) := by decide +kernel
theorem dX9_trade_44 : decode cX9_trade 44 = .ok (.aload_n 0, 1) := by decide +kernel
theorem dX9_trade_45 : decode cX9_trade 45 = .ok (.getfield 55, 3) := by decide +kernel
theorem dX9_trade_48 : decode cX9_trade 48 = .ok (.getfield 231, 3) := by decide +kernel
theorem dX9_trade_51 : decode cX9_trade 51 = .ok (.ifCond .ne 8, 3) := by decide +kernel
theorem dX9_trade_54 : decode cX9_trade 54 = .ok (.bipush (-5), 2) := by decide +kernel
theorem dX9_trade_56 : decode cX9_trade 56 = .ok (.goto 14, 3) := by decide +kernel
theorem dX9_trade_59 : decode cX9_trade 59 = .ok (.aload_n 0, 1) := by decide +kernel
theorem dX9_trade_60 : decode cX9_trade 60 = .ok (.getfield 55, 3) := by decide +kernel
theorem dX9_trade_63 : decode cX9_trade 63 = .ok (.getfield 234, 3) := by decide +kernel
theorem dX9_trade_66 : decode cX9_trade 66 = .ok (.iload_n 1, 1) := by decide +kernel
theorem dX9_trade_67 : decode cX9_trade 67 = .ok (.iconst 1, 1) := by decide +kernel
theorem dX9_trade_68 : decode cX9_trade 68 = .ok (.isub, 1) := by decide +kernel
theorem dX9_trade_69 : decode cX9_trade 69 = .ok (.iaload, 1) := by decide +kernel
theorem dX9_trade_70 : decode cX9_trade 70 = .ok (.ireturn, 1) := by decide +kernel
theorem dX9_leastLot_0 : decode cX9_leastLot 0 = .ok (.iload_n 1, 1) := by decide +kernel
theorem dX9_leastLot_1 : decode cX9_leastLot 1 = .ok (.ifCond .ge 5, 3) := by decide +kernel
theorem dX9_leastLot_4 : decode cX9_leastLot 4 = .ok (.iconst (-1), 1) := by decide +kernel
theorem dX9_leastLot_5 : decode cX9_leastLot 5 = .ok (.ireturn, 1) := by decide +kernel
theorem dX9_leastLot_6 : decode cX9_leastLot 6 = .ok (.aload_n 0, 1) := by decide +kernel
theorem dX9_leastLot_7 : decode cX9_leastLot 7 = .ok (.getfield 12, 3) := by decide +kernel
theorem dX9_leastLot_10 : decode cX9_leastLot 10 = .ok (.getfield 67, 3) := by decide +kernel
theorem dX9_leastLot_13 : decode cX9_leastLot 13 = .ok (.aload_n 0, 1) := by decide +kernel
theorem dX9_leastLot_14 : decode cX9_leastLot 14 = .ok (.getfield 12, 3) := by decide +kernel
theorem dX9_leastLot_17 : decode cX9_leastLot 17 = .ok (.getfield 82, 3) := by decide +kernel
theorem dX9_leastLot_20 : decode cX9_leastLot 20 = .ok (.invokestatic 207, 3) := by decide +kernel
theorem dX9_leastLot_23 : decode cX9_leastLot 23 = .ok (.istore_n 2, 1) := by decide +kernel
theorem dX9_leastLot_24 : decode cX9_leastLot 24 = .ok (.iconst 0, 1) := by decide +kernel
theorem dX9_leastLot_25 : decode cX9_leastLot 25 = .ok (.istore_n 3, 1) := by decide +kernel
theorem dX9_leastLot_26 : decode cX9_leastLot 26 = .ok (.iconst 0, 1) := by decide +kernel
theorem dX9_leastLot_27 : decode cX9_leastLot 27 = .ok (.istore 4, 2) := by decide +kernel
theorem dX9_leastLot_29 : decode cX9_leastLot 29 = .ok (.iload 4, 2) := by decide +kernel
theorem dX9_leastLot_31 : decode cX9_leastLot 31 = .ok (.aload_n 0, 1) := by decide +kernel
theorem dX9_leastLot_32 : decode cX9_leastLot 32 = .ok (.getfield 12, 3) := by decide +kernel
theorem dX9_leastLot_35 : decode cX9_leastLot 35 = .ok (.invokevirtual 237, 3) := by decide +kernel
theorem dX9_leastLot_38 : decode cX9_leastLot 38 = .ok (.if_icmp .ge 30, 3) := by decide +kernel
theorem dX9_leastLot_41 : decode cX9_leastLot 41 = .ok (.iload_n 2, 1) := by decide +kernel
theorem dX9_leastLot_42 : decode cX9_leastLot 42 = .ok (.iload 4, 2) := by decide +kernel
theorem dX9_leastLot_44 : decode cX9_leastLot 44 = .ok (.invokestatic 85, 3) := by decide +kernel
theorem dX9_leastLot_47 : decode cX9_leastLot 47 = .ok (.iconst 1, 1) := by decide +kernel
theorem dX9_leastLot_48 : decode cX9_leastLot 48 = .ok (.if_icmp .ne 14, 3) := by decide +kernel
theorem dX9_leastLot_51 : decode cX9_leastLot 51 = .ok (.iload_n 3, 1) := by decide +kernel
theorem dX9_leastLot_52 : decode cX9_leastLot 52 = .ok (.iload_n 1, 1) := by decide +kernel
theorem dX9_leastLot_53 : decode cX9_leastLot 53 = .ok (.if_icmp .ne 6, 3) := by decide +kernel
theorem dX9_leastLot_56 : decode cX9_leastLot 56 = .ok (.iload 4, 2) := by decide +kernel
theorem dX9_leastLot_58 : decode cX9_leastLot 58 = .ok (.ireturn, 1) := by decide +kernel
theorem dX9_leastLot_59 : decode cX9_leastLot 59 = .ok (.iinc 3 1, 3) := by decide +kernel
theorem dX9_leastLot_62 : decode cX9_leastLot 62 = .ok (.iinc 4 1, 3) := by decide +kernel
theorem dX9_leastLot_65 : decode cX9_leastLot 65 = .ok (.goto (-36), 3) := by decide +kernel
theorem dX9_leastLot_68 : decode cX9_leastLot 68 = .ok (.bipush (-5), 2) := by decide +kernel
theorem dX9_leastLot_70 : decode cX9_leastLot 70 = .ok (.ireturn, 1) := by decide +kernel
theorem dX9_swings_0 : decode cX9_swings 0 = .ok (.aload_n 0, 1) := by decide +kernel
theorem dX9_swings_1 : decode cX9_swings 1 = .ok (.getfield 12, 3) := by decide +kernel
theorem dX9_swings_4 : decode cX9_swings 4 = .ok (.iload_n 1, 1) := by decide +kernel
theorem dX9_swings_5 : decode cX9_swings 5 = .ok (.invokevirtual 98, 3) := by decide +kernel
theorem dX9_swings_8 : decode cX9_swings 8 = .ok (.ifCond .eq 24, 3) := by decide +kernel
theorem dX9_swings_11 : decode cX9_swings 11 = .ok (.aload_n 0, 1) := by decide +kernel
theorem dX9_swings_12 : decode cX9_swings 12 = .ok (.getfield 12, 3) := by decide +kernel
theorem dX9_swings_15 : decode cX9_swings 15 = .ok (.getfield 67, 3) := by decide +kernel
theorem dX9_swings_18 : decode cX9_swings 18 = .ok (.aload_n 0, 1) := by decide +kernel
theorem dX9_swings_19 : decode cX9_swings 19 = .ok (.getfield 12, 3) := by decide +kernel
theorem dX9_swings_22 : decode cX9_swings 22 = .ok (.getfield 82, 3) := by decide +kernel
theorem dX9_swings_25 : decode cX9_swings 25 = .ok (.iload_n 1, 1) := by decide +kernel
theorem dX9_swings_26 : decode cX9_swings 26 = .ok (.invokestatic 240, 3) := by decide +kernel
theorem dX9_swings_29 : decode cX9_swings 29 = .ok (.goto 4, 3) := by decide +kernel
theorem dX9_swings_32 : decode cX9_swings 32 = .ok (.iconst (-1), 1) := by decide +kernel
theorem dX9_swings_33 : decode cX9_swings 33 = .ok (.ireturn, 1) := by decide +kernel
theorem dX9_see_0 : decode cX9_see 0 = .ok (.aload_n 0, 1) := by decide +kernel
theorem dX9_see_1 : decode cX9_see 1 = .ok (.aload_n 0, 1) := by decide +kernel
theorem dX9_see_2 : decode cX9_see 2 = .ok (.getfield 12, 3) := by decide +kernel
theorem dX9_see_5 : decode cX9_see 5 = .ok (.getfield 243, 3) := by decide +kernel
theorem dX9_see_8 : decode cX9_see 8 = .ok (.iload_n 1, 1) := by decide +kernel
theorem dX9_see_9 : decode cX9_see 9 = .ok (.iload_n 2, 1) := by decide +kernel
theorem dX9_see_10 : decode cX9_see 10 = .ok (.invokevirtual 247, 3) := by decide +kernel
theorem dX9_see_13 : decode cX9_see 13 = .ok (.ireturn, 1) := by decide +kernel
theorem dX9_fits_0 : decode cX9_fits 0 = .ok (.iload_n 1, 1) := by decide +kernel
theorem dX9_fits_1 : decode cX9_fits 1 = .ok (.ifCond .lt 8, 3) := by decide +kernel
theorem dX9_fits_4 : decode cX9_fits 4 = .ok (.iload_n 1, 1) := by decide +kernel
theorem dX9_fits_5 : decode cX9_fits 5 = .ok (.iconst 1, 1) := by decide +kernel
theorem dX9_fits_6 : decode cX9_fits 6 = .ok (.if_icmp .le 5, 3) := by decide +kernel
theorem dX9_fits_9 : decode cX9_fits 9 = .ok (.iconst (-1), 1) := by decide +kernel
theorem dX9_fits_10 : decode cX9_fits 10 = .ok (.ireturn, 1) := by decide +kernel
theorem dX9_fits_11 : decode cX9_fits 11 = .ok (.aload_n 0, 1) := by decide +kernel
theorem dX9_fits_12 : decode cX9_fits 12 = .ok (.invokevirtual 251, 3) := by decide +kernel
theorem dX9_fits_15 : decode cX9_fits 15 = .ok (.istore_n 2, 1) := by decide +kernel
theorem dX9_fits_16 : decode cX9_fits 16 = .ok (.iconst 0, 1) := by decide +kernel
theorem dX9_fits_17 : decode cX9_fits 17 = .ok (.aload_n 0, 1) := by decide +kernel
theorem dX9_fits_18 : decode cX9_fits 18 = .ok (.invokevirtual 254, 3) := by decide +kernel
theorem dX9_fits_21 : decode cX9_fits 21 = .ok (.iload_n 2, 1) := by decide +kernel
theorem dX9_fits_22 : decode cX9_fits 22 = .ok (.isub, 1) := by decide +kernel
theorem dX9_fits_23 : decode cX9_fits 23 = .ok (.iconst 1, 1) := by decide +kernel
theorem dX9_fits_24 : decode cX9_fits 24 = .ok (.iadd, 1) := by decide +kernel
theorem dX9_fits_25 : decode cX9_fits 25 = .ok (.invokestatic 257, 3) := by decide +kernel
theorem dX9_fits_28 : decode cX9_fits 28 = .ok (.istore_n 3, 1) := by decide +kernel
theorem dX9_fits_29 : decode cX9_fits 29 = .ok (.iload_n 1, 1) := by decide +kernel
theorem dX9_fits_30 : decode cX9_fits 30 = .ok (.ifCond .ne 5, 3) := by decide +kernel
theorem dX9_fits_33 : decode cX9_fits 33 = .ok (.iload_n 3, 1) := by decide +kernel
theorem dX9_fits_34 : decode cX9_fits 34 = .ok (.ireturn, 1) := by decide +kernel
theorem dX9_fits_35 : decode cX9_fits 35 = .ok (.iload_n 3, 1) := by decide +kernel
theorem dX9_fits_36 : decode cX9_fits 36 = .ok (.ifCond .ne 7, 3) := by decide +kernel
theorem dX9_fits_39 : decode cX9_fits 39 = .ok (.iconst 0, 1) := by decide +kernel
theorem dX9_fits_40 : decode cX9_fits 40 = .ok (.goto 9, 3) := by decide +kernel
theorem dX9_fits_43 : decode cX9_fits 43 = .ok (.iload_n 2, 1) := by decide +kernel
theorem dX9_fits_44 : decode cX9_fits 44 = .ok (.bipush 40, 2) := by decide +kernel
theorem dX9_fits_46 : decode cX9_fits 46 = .ok (.iadd, 1) := by decide +kernel
theorem dX9_fits_47 : decode cX9_fits 47 = .ok (.iconst 1, 1) := by decide +kernel
theorem dX9_fits_48 : decode cX9_fits 48 = .ok (.iadd, 1) := by decide +kernel
theorem dX9_fits_49 : decode cX9_fits 49 = .ok (.ireturn, 1) := by decide +kernel
theorem dX9_leastFit_0 : decode cX9_leastFit 0 = .ok (.bipush (-40), 2) := by decide +kernel
theorem dX9_leastFit_2 : decode cX9_leastFit 2 = .ok (.istore_n 1, 1) := by decide +kernel
theorem dX9_leastFit_3 : decode cX9_leastFit 3 = .ok (.iconst 0, 1) := by decide +kernel
theorem dX9_leastFit_4 : decode cX9_leastFit 4 = .ok (.istore_n 2, 1) := by decide +kernel
theorem dX9_leastFit_5 : decode cX9_leastFit 5 = .ok (.iload_n 2, 1) := by decide +kernel
theorem dX9_leastFit_6 : decode cX9_leastFit 6 = .ok (.aload_n 0, 1) := by decide +kernel
theorem dX9_leastFit_7 : decode cX9_leastFit 7 = .ok (.getfield 12, 3) := by decide +kernel
theorem dX9_leastFit_10 : decode cX9_leastFit 10 = .ok (.getfield 243, 3) := by decide +kernel
theorem dX9_leastFit_13 : decode cX9_leastFit 13 = .ok (.getfield 262, 3) := by decide +kernel
theorem dX9_leastFit_16 : decode cX9_leastFit 16 = .ok (.if_icmp .ge 66, 3) := by decide +kernel
theorem dX9_leastFit_19 : decode cX9_leastFit 19 = .ok (.aload_n 0, 1) := by decide +kernel
theorem dX9_leastFit_20 : decode cX9_leastFit 20 = .ok (.getfield 12, 3) := by decide +kernel
theorem dX9_leastFit_23 : decode cX9_leastFit 23 = .ok (.getfield 243, 3) := by decide +kernel
theorem dX9_leastFit_26 : decode cX9_leastFit 26 = .ok (.getfield 265, 3) := by decide +kernel
theorem dX9_leastFit_29 : decode cX9_leastFit 29 = .ok (.iload_n 2, 1) := by decide +kernel
theorem dX9_leastFit_30 : decode cX9_leastFit 30 = .ok (.iaload, 1) := by decide +kernel
theorem dX9_leastFit_31 : decode cX9_leastFit 31 = .ok (.istore_n 3, 1) := by decide +kernel
theorem dX9_leastFit_32 : decode cX9_leastFit 32 = .ok (.aload_n 0, 1) := by decide +kernel
theorem dX9_leastFit_33 : decode cX9_leastFit 33 = .ok (.getfield 12, 3) := by decide +kernel
theorem dX9_leastFit_36 : decode cX9_leastFit 36 = .ok (.iload_n 3, 1) := by decide +kernel
theorem dX9_leastFit_37 : decode cX9_leastFit 37 = .ok (.invokevirtual 75, 3) := by decide +kernel
theorem dX9_leastFit_40 : decode cX9_leastFit 40 = .ok (.ifCond .ne 6, 3) := by decide +kernel
theorem dX9_leastFit_43 : decode cX9_leastFit 43 = .ok (.bipush 41, 2) := by decide +kernel
theorem dX9_leastFit_45 : decode cX9_leastFit 45 = .ok (.ireturn, 1) := by decide +kernel
theorem dX9_leastFit_46 : decode cX9_leastFit 46 = .ok (.aload_n 0, 1) := by decide +kernel
theorem dX9_leastFit_47 : decode cX9_leastFit 47 = .ok (.getfield 12, 3) := by decide +kernel
theorem dX9_leastFit_50 : decode cX9_leastFit 50 = .ok (.getfield 243, 3) := by decide +kernel
theorem dX9_leastFit_53 : decode cX9_leastFit 53 = .ok (.getfield 266, 3) := by decide +kernel
theorem dX9_leastFit_56 : decode cX9_leastFit 56 = .ok (.iload_n 2, 1) := by decide +kernel
theorem dX9_leastFit_57 : decode cX9_leastFit 57 = .ok (.iaload, 1) := by decide +kernel
theorem dX9_leastFit_58 : decode cX9_leastFit 58 = .ok (.ifCond .ne 18, 3) := by decide +kernel
theorem dX9_leastFit_61 : decode cX9_leastFit 61 = .ok (.iload_n 1, 1) := by decide +kernel
theorem dX9_leastFit_62 : decode cX9_leastFit 62 = .ok (.aload_n 0, 1) := by decide +kernel
theorem dX9_leastFit_63 : decode cX9_leastFit 63 = .ok (.getfield 12, 3) := by decide +kernel
theorem dX9_leastFit_66 : decode cX9_leastFit 66 = .ok (.iload_n 3, 1) := by decide +kernel
theorem dX9_leastFit_67 : decode cX9_leastFit 67 = .ok (.invokevirtual 191, 3) := by decide +kernel
theorem dX9_leastFit_70 : decode cX9_leastFit 70 = .ok (.iconst 1, 1) := by decide +kernel
theorem dX9_leastFit_71 : decode cX9_leastFit 71 = .ok (.iadd, 1) := by decide +kernel
theorem dX9_leastFit_72 : decode cX9_leastFit 72 = .ok (.invokestatic 257, 3) := by decide +kernel
theorem dX9_leastFit_75 : decode cX9_leastFit 75 = .ok (.istore_n 1, 1) := by decide +kernel
theorem dX9_leastFit_76 : decode cX9_leastFit 76 = .ok (.iinc 2 1, 3) := by decide +kernel
theorem dX9_leastFit_79 : decode cX9_leastFit 79 = .ok (.goto (-74), 3) := by decide +kernel
theorem dX9_leastFit_82 : decode cX9_leastFit 82 = .ok (.iload_n 1, 1) := by decide +kernel
theorem dX9_leastFit_83 : decode cX9_leastFit 83 = .ok (.ireturn, 1) := by decide +kernel
theorem dX9_greatestFit_0 : decode cX9_greatestFit 0 = .ok (.bipush 40, 2) := by decide +kernel
theorem dX9_greatestFit_2 : decode cX9_greatestFit 2 = .ok (.istore_n 1, 1) := by decide +kernel
theorem dX9_greatestFit_3 : decode cX9_greatestFit 3 = .ok (.iconst 0, 1) := by decide +kernel
theorem dX9_greatestFit_4 : decode cX9_greatestFit 4 = .ok (.istore_n 2, 1) := by decide +kernel
theorem dX9_greatestFit_5 : decode cX9_greatestFit 5 = .ok (.iload_n 2, 1) := by decide +kernel
theorem dX9_greatestFit_6 : decode cX9_greatestFit 6 = .ok (.aload_n 0, 1) := by decide +kernel
theorem dX9_greatestFit_7 : decode cX9_greatestFit 7 = .ok (.getfield 12, 3) := by decide +kernel
theorem dX9_greatestFit_10 : decode cX9_greatestFit 10 = .ok (.getfield 243, 3) := by decide +kernel
theorem dX9_greatestFit_13 : decode cX9_greatestFit 13 = .ok (.getfield 262, 3) := by decide +kernel
theorem dX9_greatestFit_16 : decode cX9_greatestFit 16 = .ok (.if_icmp .ge 62, 3) := by decide +kernel
theorem dX9_greatestFit_19 : decode cX9_greatestFit 19 = .ok (.aload_n 0, 1) := by decide +kernel
theorem dX9_greatestFit_20 : decode cX9_greatestFit 20 = .ok (.getfield 12, 3) := by decide +kernel
theorem dX9_greatestFit_23 : decode cX9_greatestFit 23 = .ok (.getfield 243, 3) := by decide +kernel
theorem dX9_greatestFit_26 : decode cX9_greatestFit 26 = .ok (.getfield 265, 3) := by decide +kernel
theorem dX9_greatestFit_29 : decode cX9_greatestFit 29 = .ok (.iload_n 2, 1) := by decide +kernel
theorem dX9_greatestFit_30 : decode cX9_greatestFit 30 = .ok (.iaload, 1) := by decide +kernel
theorem dX9_greatestFit_31 : decode cX9_greatestFit 31 = .ok (.istore_n 3, 1) := by decide +kernel
theorem dX9_greatestFit_32 : decode cX9_greatestFit 32 = .ok (.aload_n 0, 1) := by decide +kernel
theorem dX9_greatestFit_33 : decode cX9_greatestFit 33 = .ok (.getfield 12, 3) := by decide +kernel
theorem dX9_greatestFit_36 : decode cX9_greatestFit 36 = .ok (.iload_n 3, 1) := by decide +kernel
theorem dX9_greatestFit_37 : decode cX9_greatestFit 37 = .ok (.invokevirtual 75, 3) := by decide +kernel
theorem dX9_greatestFit_40 : decode cX9_greatestFit 40 = .ok (.ifCond .eq 32, 3) := by decide +kernel
theorem dX9_greatestFit_43 : decode cX9_greatestFit 43 = .ok (.aload_n 0, 1) := by decide +kernel
theorem dX9_greatestFit_44 : decode cX9_greatestFit 44 = .ok (.getfield 12, 3) := by decide +kernel
theorem dX9_greatestFit_47 : decode cX9_greatestFit 47 = .ok (.getfield 243, 3) := by decide +kernel
theorem dX9_greatestFit_50 : decode cX9_greatestFit 50 = .ok (.getfield 266, 3) := by decide +kernel
theorem dX9_greatestFit_53 : decode cX9_greatestFit 53 = .ok (.iload_n 2, 1) := by decide +kernel
theorem dX9_greatestFit_54 : decode cX9_greatestFit 54 = .ok (.iaload, 1) := by decide +kernel
theorem dX9_greatestFit_55 : decode cX9_greatestFit 55 = .ok (.iconst 1, 1) := by decide +kernel
theorem dX9_greatestFit_56 : decode cX9_greatestFit 56 = .ok (.if_icmp .ne 16, 3) := by decide +kernel
theorem dX9_greatestFit_59 : decode cX9_greatestFit 59 = .ok (.iload_n 1, 1) := by decide +kernel
theorem dX9_greatestFit_60 : decode cX9_greatestFit 60 = .ok (.aload_n 0, 1) := by decide +kernel
theorem dX9_greatestFit_61 : decode cX9_greatestFit 61 = .ok (.getfield 12, 3) := by decide +kernel
theorem dX9_greatestFit_64 : decode cX9_greatestFit 64 = .ok (.iload_n 3, 1) := by decide +kernel
theorem dX9_greatestFit_65 : decode cX9_greatestFit 65 = .ok (.invokevirtual 191, 3) := by decide +kernel
theorem dX9_greatestFit_68 : decode cX9_greatestFit 68 = .ok (.invokestatic 267, 3) := by decide +kernel
theorem dX9_greatestFit_71 : decode cX9_greatestFit 71 = .ok (.istore_n 1, 1) := by decide +kernel
theorem dX9_greatestFit_72 : decode cX9_greatestFit 72 = .ok (.iinc 2 1, 3) := by decide +kernel
theorem dX9_greatestFit_75 : decode cX9_greatestFit 75 = .ok (.goto (-70), 3) := by decide +kernel
theorem dX9_greatestFit_78 : decode cX9_greatestFit 78 = .ok (.iload_n 1, 1) := by decide +kernel
theorem dX9_greatestFit_79 : decode cX9_greatestFit 79 = .ok (.ireturn, 1) := by decide +kernel
theorem dX9_odds_0 : decode cX9_odds 0 = .ok (.aload_n 0, 1) := by decide +kernel
theorem dX9_odds_1 : decode cX9_odds 1 = .ok (.getfield 12, 3) := by decide +kernel
theorem dX9_odds_4 : decode cX9_odds 4 = .ok (.iload_n 1, 1) := by decide +kernel
theorem dX9_odds_5 : decode cX9_odds 5 = .ok (.invokevirtual 98, 3) := by decide +kernel
theorem dX9_odds_8 : decode cX9_odds 8 = .ok (.ifCond .eq 12, 3) := by decide +kernel
theorem dX9_odds_11 : decode cX9_odds 11 = .ok (.iload_n 2, 1) := by decide +kernel
theorem dX9_odds_12 : decode cX9_odds 12 = .ok (.ifCond .lt 8, 3) := by decide +kernel
theorem dX9_odds_15 : decode cX9_odds 15 = .ok (.iload_n 2, 1) := by decide +kernel
theorem dX9_odds_16 : decode cX9_odds 16 = .ok (.iconst 1, 1) := by decide +kernel
theorem dX9_odds_17 : decode cX9_odds 17 = .ok (.if_icmp .le 7, 3) := by decide +kernel
theorem dX9_odds_20 : decode cX9_odds 20 = .ok (.ldc2_w 270, 3) := by decide +kernel
theorem dX9_odds_23 : decode cX9_odds 23 = .ok (.lreturn, 1) := by decide +kernel
theorem dX9_odds_24 : decode cX9_odds 24 = .ok (.aload_n 0, 1) := by decide +kernel
theorem dX9_odds_25 : decode cX9_odds 25 = .ok (.getfield 12, 3) := by decide +kernel
theorem dX9_odds_28 : decode cX9_odds 28 = .ok (.getfield 67, 3) := by decide +kernel
theorem dX9_odds_31 : decode cX9_odds 31 = .ok (.aload_n 0, 1) := by decide +kernel
theorem dX9_odds_32 : decode cX9_odds 32 = .ok (.getfield 12, 3) := by decide +kernel
theorem dX9_odds_35 : decode cX9_odds 35 = .ok (.getfield 82, 3) := by decide +kernel
theorem dX9_odds_38 : decode cX9_odds 38 = .ok (.iload_n 1, 1) := by decide +kernel
theorem dX9_odds_39 : decode cX9_odds 39 = .ok (.invokestatic 240, 3) := by decide +kernel
theorem dX9_odds_42 : decode cX9_odds 42 = .ok (.aload_n 0, 1) := by decide +kernel
theorem dX9_odds_43 : decode cX9_odds 43 = .ok (.getfield 12, 3) := by decide +kernel
theorem dX9_odds_46 : decode cX9_odds 46 = .ok (.invokevirtual 237, 3) := by decide +kernel
theorem dX9_odds_49 : decode cX9_odds 49 = .ok (.iconst 2, 1) := by decide +kernel
theorem dX9_odds_50 : decode cX9_odds 50 = .ok (.idiv, 1) := by decide +kernel
theorem dX9_odds_51 : decode cX9_odds 51 = .ok (.iload_n 2, 1) := by decide +kernel
theorem dX9_odds_52 : decode cX9_odds 52 = .ok (.invokestatic 272, 3) := by decide +kernel
theorem dX9_odds_55 : decode cX9_odds 55 = .ok (.lreturn, 1) := by decide +kernel
theorem dX9_mean_0 : decode cX9_mean 0 = .ok (.iload_n 1, 1) := by decide +kernel
theorem dX9_mean_1 : decode cX9_mean 1 = .ok (.ifCond .lt 8, 3) := by decide +kernel
theorem dX9_mean_4 : decode cX9_mean 4 = .ok (.iload_n 1, 1) := by decide +kernel
theorem dX9_mean_5 : decode cX9_mean 5 = .ok (.iconst 1, 1) := by decide +kernel
theorem dX9_mean_6 : decode cX9_mean 6 = .ok (.if_icmp .le 7, 3) := by decide +kernel
theorem dX9_mean_9 : decode cX9_mean 9 = .ok (.ldc2_w 270, 3) := by decide +kernel
theorem dX9_mean_12 : decode cX9_mean 12 = .ok (.lreturn, 1) := by decide +kernel
theorem dX9_mean_13 : decode cX9_mean 13 = .ok (.iconst 0, 1) := by decide +kernel
theorem dX9_mean_14 : decode cX9_mean 14 = .ok (.istore_n 2, 1) := by decide +kernel
theorem dX9_mean_15 : decode cX9_mean 15 = .ok (.iconst 0, 1) := by decide +kernel
theorem dX9_mean_16 : decode cX9_mean 16 = .ok (.istore_n 3, 1) := by decide +kernel
theorem dX9_mean_17 : decode cX9_mean 17 = .ok (.iload_n 3, 1) := by decide +kernel
theorem dX9_mean_18 : decode cX9_mean 18 = .ok (.aload_n 0, 1) := by decide +kernel
theorem dX9_mean_19 : decode cX9_mean 19 = .ok (.getfield 12, 3) := by decide +kernel
theorem dX9_mean_22 : decode cX9_mean 22 = .ok (.invokevirtual 237, 3) := by decide +kernel
theorem dX9_mean_25 : decode cX9_mean 25 = .ok (.if_icmp .ge 20, 3) := by decide +kernel
theorem dX9_mean_28 : decode cX9_mean 28 = .ok (.iload_n 2, 1) := by decide +kernel
theorem dX9_mean_29 : decode cX9_mean 29 = .ok (.aload_n 0, 1) := by decide +kernel
theorem dX9_mean_30 : decode cX9_mean 30 = .ok (.getfield 12, 3) := by decide +kernel
theorem dX9_mean_33 : decode cX9_mean 33 = .ok (.iload_n 3, 1) := by decide +kernel
theorem dX9_mean_34 : decode cX9_mean 34 = .ok (.invokevirtual 191, 3) := by decide +kernel
theorem dX9_mean_37 : decode cX9_mean 37 = .ok (.iadd, 1) := by decide +kernel
theorem dX9_mean_38 : decode cX9_mean 38 = .ok (.istore_n 2, 1) := by decide +kernel
theorem dX9_mean_39 : decode cX9_mean 39 = .ok (.iinc 3 1, 3) := by decide +kernel
theorem dX9_mean_42 : decode cX9_mean 42 = .ok (.goto (-25), 3) := by decide +kernel
theorem dX9_mean_45 : decode cX9_mean 45 = .ok (.iload_n 2, 1) := by decide +kernel
theorem dX9_mean_46 : decode cX9_mean 46 = .ok (.aload_n 0, 1) := by decide +kernel
theorem dX9_mean_47 : decode cX9_mean 47 = .ok (.getfield 12, 3) := by decide +kernel
theorem dX9_mean_50 : decode cX9_mean 50 = .ok (.invokevirtual 237, 3) := by decide +kernel
theorem dX9_mean_53 : decode cX9_mean 53 = .ok (.iload_n 1, 1) := by decide +kernel
theorem dX9_mean_54 : decode cX9_mean 54 = .ok (.invokestatic 272, 3) := by decide +kernel
theorem dX9_mean_57 : decode cX9_mean 57 = .ok (.lreturn, 1) := by decide +kernel
theorem dX9_partOfFraction_0 : decode cX9_partOfFraction 0 = .ok (.iload_n 0, 1) := by decide +kernel
theorem dX9_partOfFraction_1 : decode cX9_partOfFraction 1 = .ok (.istore_n 3, 1) := by decide +kernel
theorem dX9_partOfFraction_2 : decode cX9_partOfFraction 2 = .ok (.iload_n 1, 1) := by decide +kernel
theorem dX9_partOfFraction_3 : decode cX9_partOfFraction 3 = .ok (.istore 4, 2) := by decide +kernel
theorem dX9_partOfFraction_5 : decode cX9_partOfFraction 5 = .ok (.iconst 0, 1) := by decide +kernel
theorem dX9_partOfFraction_6 : decode cX9_partOfFraction 6 = .ok (.istore 5, 2) := by decide +kernel
theorem dX9_partOfFraction_8 : decode cX9_partOfFraction 8 = .ok (.iload 5, 2) := by decide +kernel
theorem dX9_partOfFraction_10 : decode cX9_partOfFraction 10 = .ok (.iconst 4, 1) := by decide +kernel
theorem dX9_partOfFraction_11 : decode cX9_partOfFraction 11 = .ok (.if_icmp .ge 31, 3) := by decide +kernel
theorem dX9_partOfFraction_14 : decode cX9_partOfFraction 14 = .ok (.iload 4, 2) := by decide +kernel
theorem dX9_partOfFraction_16 : decode cX9_partOfFraction 16 = .ok (.iconst 1, 1) := by decide +kernel
theorem dX9_partOfFraction_17 : decode cX9_partOfFraction 17 = .ok (.if_icmp .le 25, 3) := by decide +kernel
theorem dX9_partOfFraction_20 : decode cX9_partOfFraction 20 = .ok (.iload_n 3, 1) := by decide +kernel
theorem dX9_partOfFraction_21 : decode cX9_partOfFraction 21 = .ok (.iconst 2, 1) := by decide +kernel
theorem dX9_partOfFraction_22 : decode cX9_partOfFraction 22 = .ok (.irem, 1) := by decide +kernel
theorem dX9_partOfFraction_23 : decode cX9_partOfFraction 23 = .ok (.ifCond .ne 19, 3) := by decide +kernel
theorem dX9_partOfFraction_26 : decode cX9_partOfFraction 26 = .ok (.iload_n 3, 1) := by decide +kernel
theorem dX9_partOfFraction_27 : decode cX9_partOfFraction 27 = .ok (.iconst 2, 1) := by decide +kernel
theorem dX9_partOfFraction_28 : decode cX9_partOfFraction 28 = .ok (.idiv, 1) := by decide +kernel
theorem dX9_partOfFraction_29 : decode cX9_partOfFraction 29 = .ok (.istore_n 3, 1) := by decide +kernel
theorem dX9_partOfFraction_30 : decode cX9_partOfFraction 30 = .ok (.iload 4, 2) := by decide +kernel
theorem dX9_partOfFraction_32 : decode cX9_partOfFraction 32 = .ok (.iconst 2, 1) := by decide +kernel
theorem dX9_partOfFraction_33 : decode cX9_partOfFraction 33 = .ok (.idiv, 1) := by decide +kernel
theorem dX9_partOfFraction_34 : decode cX9_partOfFraction 34 = .ok (.istore 4, 2) := by decide +kernel
theorem dX9_partOfFraction_36 : decode cX9_partOfFraction 36 = .ok (.iinc 5 1, 3) := by decide +kernel
theorem dX9_partOfFraction_39 : decode cX9_partOfFraction 39 = .ok (.goto (-31), 3) := by decide +kernel
theorem dX9_partOfFraction_42 : decode cX9_partOfFraction 42 = .ok (.iload_n 2, 1) := by decide +kernel
theorem dX9_partOfFraction_43 : decode cX9_partOfFraction 43 = .ok (.ifCond .ne 8, 3) := by decide +kernel
theorem dX9_partOfFraction_46 : decode cX9_partOfFraction 46 = .ok (.iload_n 3, 1) := by decide +kernel
theorem dX9_partOfFraction_47 : decode cX9_partOfFraction 47 = .ok (.i2l, 1) := by decide +kernel
theorem dX9_partOfFraction_48 : decode cX9_partOfFraction 48 = .ok (.goto 6, 3) := by decide +kernel
theorem dX9_partOfFraction_51 : decode cX9_partOfFraction 51 = .ok (.iload 4, 2) := by decide +kernel
theorem dX9_partOfFraction_53 : decode cX9_partOfFraction 53 = .ok (.i2l, 1) := by decide +kernel
theorem dX9_partOfFraction_54 : decode cX9_partOfFraction 54 = .ok (.lreturn, 1) := by decide +kernel
theorem dX9_event_0 : decode cX9_event 0 = .ok (.iload_n 1, 1) := by decide +kernel
theorem dX9_event_1 : decode cX9_event 1 = .ok (.iconst (-1), 1) := by decide +kernel
theorem dX9_event_2 : decode cX9_event 2 = .ok (.if_icmp .ne 16, 3) := by decide +kernel
theorem dX9_event_5 : decode cX9_event 5 = .ok (.aload_n 0, 1) := by decide +kernel
theorem dX9_event_6 : decode cX9_event 6 = .ok (.getfield 12, 3) := by decide +kernel
theorem dX9_event_9 : decode cX9_event 9 = .ok (.getfield 276, 3) := by decide +kernel
theorem dX9_event_12 : decode cX9_event 12 = .ok (.iconst 0, 1) := by decide +kernel
theorem dX9_event_13 : decode cX9_event 13 = .ok (.putfield 262, 3) := by decide +kernel
theorem dX9_event_16 : decode cX9_event 16 = .ok (.iconst 0, 1) := by decide +kernel
theorem dX9_event_17 : decode cX9_event 17 = .ok (.ireturn, 1) := by decide +kernel
theorem dX9_event_18 : decode cX9_event 18 = .ok (.iload_n 1, 1) := by decide +kernel
theorem dX9_event_19 : decode cX9_event 19 = .ok (.iconst 2, 1) := by decide +kernel
theorem dX9_event_20 : decode cX9_event 20 = .ok (.if_icmp .ne 10, 3) := by decide +kernel
theorem dX9_event_23 : decode cX9_event 23 = .ok (.iload_n 2, 1) := by decide +kernel
theorem dX9_event_24 : decode cX9_event 24 = .ok (.ifCond .eq 17, 3) := by decide +kernel
theorem dX9_event_27 : decode cX9_event 27 = .ok (.bipush (-2), 2) := by decide +kernel
theorem dX9_event_29 : decode cX9_event 29 = .ok (.ireturn, 1) := by decide +kernel
theorem dX9_event_30 : decode cX9_event 30 = .ok (.aload_n 0, 1) := by decide +kernel
theorem dX9_event_31 : decode cX9_event 31 = .ok (.iload_n 1, 1) := by decide +kernel
theorem dX9_event_32 : decode cX9_event 32 = .ok (.iload_n 2, 1) := by decide +kernel
theorem dX9_event_33 : decode cX9_event 33 = .ok (.invokevirtual 279, 3) := by decide +kernel
theorem dX9_event_36 : decode cX9_event 36 = .ok (.ifCond .ne 5, 3) := by decide +kernel
theorem dX9_event_39 : decode cX9_event 39 = .ok (.iconst (-1), 1) := by decide +kernel
theorem dX9_event_40 : decode cX9_event 40 = .ok (.ireturn, 1) := by decide +kernel
theorem dX9_event_41 : decode cX9_event 41 = .ok (.aload_n 0, 1) := by decide +kernel
theorem dX9_event_42 : decode cX9_event 42 = .ok (.getfield 12, 3) := by decide +kernel
theorem dX9_event_45 : decode cX9_event 45 = .ok (.getfield 276, 3) := by decide +kernel
theorem dX9_event_48 : decode cX9_event 48 = .ok (.iload_n 1, 1) := by decide +kernel
theorem dX9_event_49 : decode cX9_event 49 = .ok (.iload_n 2, 1) := by decide +kernel
theorem dX9_event_50 : decode cX9_event 50 = .ok (.invokevirtual 282, 3) := by decide +kernel
theorem dX9_event_53 : decode cX9_event 53 = .ok (.ifCond .eq 16, 3) := by decide +kernel
theorem dX9_event_56 : decode cX9_event 56 = .ok (.aload_n 0, 1) := by decide +kernel
theorem dX9_event_57 : decode cX9_event 57 = .ok (.getfield 12, 3) := by decide +kernel
theorem dX9_event_60 : decode cX9_event 60 = .ok (.getfield 276, 3) := by decide +kernel
theorem dX9_event_63 : decode cX9_event 63 = .ok (.getfield 262, 3) := by decide +kernel
theorem dX9_event_66 : decode cX9_event 66 = .ok (.goto 5, 3) := by decide +kernel
theorem dX9_event_69 : decode cX9_event 69 = .ok (.bipush (-4), 2) := by decide +kernel
theorem dX9_event_71 : decode cX9_event 71 = .ok (.ireturn, 1) := by decide +kernel
theorem dX9_eventFinds_0 : decode cX9_eventFinds 0 = .ok (.iload_n 1, 1) := by decide +kernel
theorem dX9_eventFinds_1 : decode cX9_eventFinds 1 = .ok (.tableswitch 74 0 3 #[31, 40, 49, 51], 31) := by decide +kernel
theorem dX9_eventFinds_32 : decode cX9_eventFinds 32 = .ok (.aload_n 0, 1) := by decide +kernel
theorem dX9_eventFinds_33 : decode cX9_eventFinds 33 = .ok (.getfield 12, 3) := by decide +kernel
theorem dX9_eventFinds_36 : decode cX9_eventFinds 36 = .ok (.iload_n 2, 1) := by decide +kernel
theorem dX9_eventFinds_37 : decode cX9_eventFinds 37 = .ok (.invokevirtual 75, 3) := by decide +kernel
theorem dX9_eventFinds_40 : decode cX9_eventFinds 40 = .ok (.ireturn, 1) := by decide +kernel
theorem dX9_eventFinds_41 : decode cX9_eventFinds 41 = .ok (.aload_n 0, 1) := by decide +kernel
theorem dX9_eventFinds_42 : decode cX9_eventFinds 42 = .ok (.getfield 12, 3) := by decide +kernel
theorem dX9_eventFinds_45 : decode cX9_eventFinds 45 = .ok (.iload_n 2, 1) := by decide +kernel
theorem dX9_eventFinds_46 : decode cX9_eventFinds 46 = .ok (.invokevirtual 98, 3) := by decide +kernel
theorem dX9_eventFinds_49 : decode cX9_eventFinds 49 = .ok (.ireturn, 1) := by decide +kernel
theorem dX9_eventFinds_50 : decode cX9_eventFinds 50 = .ok (.iconst 1, 1) := by decide +kernel
theorem dX9_eventFinds_51 : decode cX9_eventFinds 51 = .ok (.ireturn, 1) := by decide +kernel
theorem dX9_eventFinds_52 : decode cX9_eventFinds 52 = .ok (.iload_n 2, 1) := by decide +kernel
theorem dX9_eventFinds_53 : decode cX9_eventFinds 53 = .ok (.ifCond .lt 20, 3) := by decide +kernel
theorem dX9_eventFinds_56 : decode cX9_eventFinds 56 = .ok (.iload_n 2, 1) := by decide +kernel
theorem dX9_eventFinds_57 : decode cX9_eventFinds 57 = .ok (.aload_n 0, 1) := by decide +kernel
theorem dX9_eventFinds_58 : decode cX9_eventFinds 58 = .ok (.getfield 12, 3) := by decide +kernel
theorem dX9_eventFinds_61 : decode cX9_eventFinds 61 = .ok (.getfield 67, 3) := by decide +kernel
theorem dX9_eventFinds_64 : decode cX9_eventFinds 64 = .ok (.iconst 1, 1) := by decide +kernel
theorem dX9_eventFinds_65 : decode cX9_eventFinds 65 = .ok (.isub, 1) := by decide +kernel
theorem dX9_eventFinds_66 : decode cX9_eventFinds 66 = .ok (.if_icmp .ge 7, 3) := by decide +kernel
theorem dX9_eventFinds_69 : decode cX9_eventFinds 69 = .ok (.iconst 1, 1) := by decide +kernel
theorem dX9_eventFinds_70 : decode cX9_eventFinds 70 = .ok (.goto 4, 3) := by decide +kernel
theorem dX9_eventFinds_73 : decode cX9_eventFinds 73 = .ok (.iconst 0, 1) := by decide +kernel
theorem dX9_eventFinds_74 : decode cX9_eventFinds 74 = .ok (.ireturn, 1) := by decide +kernel
theorem dX9_eventFinds_75 : decode cX9_eventFinds 75 = .ok (.iconst 0, 1) := by decide +kernel
theorem dX9_eventFinds_76 : decode cX9_eventFinds 76 = .ok (.ireturn, 1) := by decide +kernel
theorem dX9_after_0 : decode cX9_after 0 = .ok (.iload_n 1, 1) := by decide +kernel
theorem dX9_after_1 : decode cX9_after 1 = .ok (.tableswitch 72 0 2 #[27, 32, 54], 27) := by decide +kernel
theorem dX9_after_28 : decode cX9_after 28 = .ok (.aload_n 0, 1) := by decide +kernel
theorem dX9_after_29 : decode cX9_after 29 = .ok (.invokevirtual 284, 3) := by decide +kernel
theorem dX9_after_32 : decode cX9_after 32 = .ok (.ireturn, 1) := by decide +kernel
theorem dX9_after_33 : decode cX9_after 33 = .ok (.aload_n 0, 1) := by decide +kernel
theorem dX9_after_34 : decode cX9_after 34 = .ok (.getfield 41, 3) := by decide +kernel
theorem dX9_after_37 : decode cX9_after 37 = .ok (.aload_n 0, 1) := by decide +kernel
theorem dX9_after_38 : decode cX9_after 38 = .ok (.getfield 12, 3) := by decide +kernel
theorem dX9_after_41 : decode cX9_after 41 = .ok (.getfield 67, 3) := by decide +kernel
theorem dX9_after_44 : decode cX9_after 44 = .ok (.aload_n 0, 1) := by decide +kernel
theorem dX9_after_45 : decode cX9_after 45 = .ok (.invokevirtual 284, 3) := by decide +kernel
theorem dX9_after_48 : decode cX9_after 48 = .ok (.invokevirtual 124, 3) := by decide +kernel
theorem dX9_after_51 : decode cX9_after 51 = .ok (.invokestatic 197, 3) := by decide +kernel
theorem dX9_after_54 : decode cX9_after 54 = .ok (.ireturn, 1) := by decide +kernel
theorem dX9_after_55 : decode cX9_after 55 = .ok (.aload_n 0, 1) := by decide +kernel
theorem dX9_after_56 : decode cX9_after 56 = .ok (.getfield 12, 3) := by decide +kernel
theorem dX9_after_59 : decode cX9_after 59 = .ok (.getfield 67, 3) := by decide +kernel
theorem dX9_after_62 : decode cX9_after 62 = .ok (.aload_n 0, 1) := by decide +kernel
theorem dX9_after_63 : decode cX9_after 63 = .ok (.invokevirtual 284, 3) := by decide +kernel
theorem dX9_after_66 : decode cX9_after 66 = .ok (.invokestatic 201, 3) := by decide +kernel
theorem dX9_after_69 : decode cX9_after 69 = .ok (.invokestatic 197, 3) := by decide +kernel
theorem dX9_after_72 : decode cX9_after 72 = .ok (.ireturn, 1) := by decide +kernel
theorem dX9_after_73 : decode cX9_after 73 = .ok (.iconst (-1), 1) := by decide +kernel
theorem dX9_after_74 : decode cX9_after 74 = .ok (.ireturn, 1) := by decide +kernel
theorem dX9_codeBehindEvents_0 : decode cX9_codeBehindEvents 0 = .ok (.aload_n 0, 1) := by decide +kernel
theorem dX9_codeBehindEvents_1 : decode cX9_codeBehindEvents 1 = .ok (.getfield 12, 3) := by decide +kernel
theorem dX9_codeBehindEvents_4 : decode cX9_codeBehindEvents 4 = .ok (.getfield 82, 3) := by decide +kernel
theorem dX9_codeBehindEvents_7 : decode cX9_codeBehindEvents 7 = .ok (.istore_n 1, 1) := by decide +kernel
theorem dX9_codeBehindEvents_8 : decode cX9_codeBehindEvents 8 = .ok (.iconst 0, 1) := by decide +kernel
theorem dX9_codeBehindEvents_9 : decode cX9_codeBehindEvents 9 = .ok (.istore_n 2, 1) := by decide +kernel
theorem dX9_codeBehindEvents_10 : decode cX9_codeBehindEvents 10 = .ok (.iload_n 2, 1) := by decide +kernel
theorem dX9_codeBehindEvents_11 : decode cX9_codeBehindEvents 11 = .ok (.aload_n 0, 1) := by decide +kernel
theorem dX9_codeBehindEvents_12 : decode cX9_codeBehindEvents 12 = .ok (.getfield 12, 3) := by decide +kernel
theorem dX9_codeBehindEvents_15 : decode cX9_codeBehindEvents 15 = .ok (.getfield 276, 3) := by decide +kernel
theorem dX9_codeBehindEvents_18 : decode cX9_codeBehindEvents 18 = .ok (.getfield 262, 3) := by decide +kernel
theorem dX9_codeBehindEvents_21 : decode cX9_codeBehindEvents 21 = .ok (.if_icmp .ge 55, 3) := by decide +kernel
theorem dX9_codeBehindEvents_24 : decode cX9_codeBehindEvents 24 = .ok (.aload_n 0, 1) := by decide +kernel
theorem dX9_codeBehindEvents_25 : decode cX9_codeBehindEvents 25 = .ok (.getfield 12, 3) := by decide +kernel
theorem dX9_codeBehindEvents_28 : decode cX9_codeBehindEvents 28 = .ok (.getfield 276, 3) := by decide +kernel
theorem dX9_codeBehindEvents_31 : decode cX9_codeBehindEvents 31 = .ok (.getfield 265, 3) := by decide +kernel
theorem dX9_codeBehindEvents_34 : decode cX9_codeBehindEvents 34 = .ok (.iload_n 2, 1) := by decide +kernel
theorem dX9_codeBehindEvents_35 : decode cX9_codeBehindEvents 35 = .ok (.iaload, 1) := by decide +kernel
theorem dX9_codeBehindEvents_36 : decode cX9_codeBehindEvents 36 = .ok (.istore_n 3, 1) := by decide +kernel
theorem dX9_codeBehindEvents_37 : decode cX9_codeBehindEvents 37 = .ok (.aload_n 0, 1) := by decide +kernel
theorem dX9_codeBehindEvents_38 : decode cX9_codeBehindEvents 38 = .ok (.getfield 12, 3) := by decide +kernel
theorem dX9_codeBehindEvents_41 : decode cX9_codeBehindEvents 41 = .ok (.getfield 276, 3) := by decide +kernel
theorem dX9_codeBehindEvents_44 : decode cX9_codeBehindEvents 44 = .ok (.getfield 266, 3) := by decide +kernel
theorem dX9_codeBehindEvents_47 : decode cX9_codeBehindEvents 47 = .ok (.iload_n 2, 1) := by decide +kernel
theorem dX9_codeBehindEvents_48 : decode cX9_codeBehindEvents 48 = .ok (.iaload, 1) := by decide +kernel
theorem dX9_codeBehindEvents_49 : decode cX9_codeBehindEvents 49 = .ok (.istore 4, 2) := by decide +kernel
theorem dX9_codeBehindEvents_51 : decode cX9_codeBehindEvents 51 = .ok (.aload_n 0, 1) := by decide +kernel
theorem dX9_codeBehindEvents_52 : decode cX9_codeBehindEvents 52 = .ok (.iload_n 3, 1) := by decide +kernel
theorem dX9_codeBehindEvents_53 : decode cX9_codeBehindEvents 53 = .ok (.iload 4, 2) := by decide +kernel
theorem dX9_codeBehindEvents_55 : decode cX9_codeBehindEvents 55 = .ok (.invokevirtual 279, 3) := by decide +kernel
theorem dX9_codeBehindEvents_58 : decode cX9_codeBehindEvents 58 = .ok (.ifCond .eq 12, 3) := by decide +kernel
theorem dX9_codeBehindEvents_61 : decode cX9_codeBehindEvents 61 = .ok (.aload_n 0, 1) := by decide +kernel
theorem dX9_codeBehindEvents_62 : decode cX9_codeBehindEvents 62 = .ok (.iload_n 1, 1) := by decide +kernel
theorem dX9_codeBehindEvents_63 : decode cX9_codeBehindEvents 63 = .ok (.iload_n 3, 1) := by decide +kernel
theorem dX9_codeBehindEvents_64 : decode cX9_codeBehindEvents 64 = .ok (.iload 4, 2) := by decide +kernel
theorem dX9_codeBehindEvents_66 : decode cX9_codeBehindEvents 66 = .ok (.invokevirtual 287, 3) := by decide +kernel
theorem dX9_codeBehindEvents_69 : decode cX9_codeBehindEvents 69 = .ok (.istore_n 1, 1) := by decide +kernel
theorem dX9_codeBehindEvents_70 : decode cX9_codeBehindEvents 70 = .ok (.iinc 2 1, 3) := by decide +kernel
theorem dX9_codeBehindEvents_73 : decode cX9_codeBehindEvents 73 = .ok (.goto (-63), 3) := by decide +kernel
theorem dX9_codeBehindEvents_76 : decode cX9_codeBehindEvents 76 = .ok (.iload_n 1, 1) := by decide +kernel
theorem dX9_codeBehindEvents_77 : decode cX9_codeBehindEvents 77 = .ok (.ireturn, 1) := by decide +kernel
theorem dX9_codeBehind_0 : decode cX9_codeBehind 0 = .ok (.iload_n 2, 1) := by decide +kernel
theorem dX9_codeBehind_1 : decode cX9_codeBehind 1 = .ok (.tableswitch 51 0 2 #[27, 33, 39], 27) := by decide +kernel
theorem dX9_codeBehind_28 : decode cX9_codeBehind 28 = .ok (.iload_n 1, 1) := by decide +kernel
theorem dX9_codeBehind_29 : decode cX9_codeBehind 29 = .ok (.iload_n 3, 1) := by decide +kernel
theorem dX9_codeBehind_30 : decode cX9_codeBehind 30 = .ok (.invokestatic 91, 3) := by decide +kernel
theorem dX9_codeBehind_33 : decode cX9_codeBehind 33 = .ok (.ireturn, 1) := by decide +kernel
theorem dX9_codeBehind_34 : decode cX9_codeBehind 34 = .ok (.iload_n 1, 1) := by decide +kernel
theorem dX9_codeBehind_35 : decode cX9_codeBehind 35 = .ok (.iload_n 3, 1) := by decide +kernel
theorem dX9_codeBehind_36 : decode cX9_codeBehind 36 = .ok (.invokestatic 134, 3) := by decide +kernel
theorem dX9_codeBehind_39 : decode cX9_codeBehind 39 = .ok (.ireturn, 1) := by decide +kernel
theorem dX9_codeBehind_40 : decode cX9_codeBehind 40 = .ok (.aload_n 0, 1) := by decide +kernel
theorem dX9_codeBehind_41 : decode cX9_codeBehind 41 = .ok (.getfield 12, 3) := by decide +kernel
theorem dX9_codeBehind_44 : decode cX9_codeBehind 44 = .ok (.getfield 67, 3) := by decide +kernel
theorem dX9_codeBehind_47 : decode cX9_codeBehind 47 = .ok (.iload_n 1, 1) := by decide +kernel
theorem dX9_codeBehind_48 : decode cX9_codeBehind 48 = .ok (.invokestatic 115, 3) := by decide +kernel
theorem dX9_codeBehind_51 : decode cX9_codeBehind 51 = .ok (.ireturn, 1) := by decide +kernel
theorem dX9_codeBehind_52 : decode cX9_codeBehind 52 = .ok (.iload_n 1, 1) := by decide +kernel
theorem dX9_codeBehind_53 : decode cX9_codeBehind 53 = .ok (.iload_n 3, 1) := by decide +kernel
theorem dX9_codeBehind_54 : decode cX9_codeBehind 54 = .ok (.iload_n 3, 1) := by decide +kernel
theorem dX9_codeBehind_55 : decode cX9_codeBehind 55 = .ok (.iconst 1, 1) := by decide +kernel
theorem dX9_codeBehind_56 : decode cX9_codeBehind 56 = .ok (.iadd, 1) := by decide +kernel
theorem dX9_codeBehind_57 : decode cX9_codeBehind 57 = .ok (.invokestatic 137, 3) := by decide +kernel
theorem dX9_codeBehind_60 : decode cX9_codeBehind 60 = .ok (.ireturn, 1) := by decide +kernel
theorem dX9_book_0 : decode cX9_book 0 = .ok (.aload_n 0, 1) := by decide +kernel
theorem dX9_book_1 : decode cX9_book 1 = .ok (.aload_n 0, 1) := by decide +kernel
theorem dX9_book_2 : decode cX9_book 2 = .ok (.getfield 12, 3) := by decide +kernel
theorem dX9_book_5 : decode cX9_book 5 = .ok (.getfield 290, 3) := by decide +kernel
theorem dX9_book_8 : decode cX9_book 8 = .ok (.iload_n 1, 1) := by decide +kernel
theorem dX9_book_9 : decode cX9_book 9 = .ok (.iload_n 2, 1) := by decide +kernel
theorem dX9_book_10 : decode cX9_book 10 = .ok (.invokevirtual 247, 3) := by decide +kernel
theorem dX9_book_13 : decode cX9_book 13 = .ok (.ireturn, 1) := by decide +kernel
theorem dX9_looked_0 : decode cX9_looked 0 = .ok (.iconst 0, 1) := by decide +kernel
theorem dX9_looked_1 : decode cX9_looked 1 = .ok (.istore_n 1, 1) := by decide +kernel
theorem dX9_looked_2 : decode cX9_looked 2 = .ok (.iload_n 1, 1) := by decide +kernel
theorem dX9_looked_3 : decode cX9_looked 3 = .ok (.aload_n 0, 1) := by decide +kernel
theorem dX9_looked_4 : decode cX9_looked 4 = .ok (.getfield 12, 3) := by decide +kernel
theorem dX9_looked_7 : decode cX9_looked 7 = .ok (.getfield 290, 3) := by decide +kernel
theorem dX9_looked_10 : decode cX9_looked 10 = .ok (.getfield 262, 3) := by decide +kernel
theorem dX9_looked_13 : decode cX9_looked 13 = .ok (.if_icmp .ge 61, 3) := by decide +kernel
theorem dX9_looked_16 : decode cX9_looked 16 = .ok (.aload_n 0, 1) := by decide +kernel
theorem dX9_looked_17 : decode cX9_looked 17 = .ok (.getfield 12, 3) := by decide +kernel
theorem dX9_looked_20 : decode cX9_looked 20 = .ok (.getfield 290, 3) := by decide +kernel
theorem dX9_looked_23 : decode cX9_looked 23 = .ok (.getfield 265, 3) := by decide +kernel
theorem dX9_looked_26 : decode cX9_looked 26 = .ok (.iload_n 1, 1) := by decide +kernel
theorem dX9_looked_27 : decode cX9_looked 27 = .ok (.iaload, 1) := by decide +kernel
theorem dX9_looked_28 : decode cX9_looked 28 = .ok (.istore_n 2, 1) := by decide +kernel
theorem dX9_looked_29 : decode cX9_looked 29 = .ok (.aload_n 0, 1) := by decide +kernel
theorem dX9_looked_30 : decode cX9_looked 30 = .ok (.getfield 12, 3) := by decide +kernel
theorem dX9_looked_33 : decode cX9_looked 33 = .ok (.iload_n 2, 1) := by decide +kernel
theorem dX9_looked_34 : decode cX9_looked 34 = .ok (.invokevirtual 75, 3) := by decide +kernel
theorem dX9_looked_37 : decode cX9_looked 37 = .ok (.ifCond .eq 29, 3) := by decide +kernel
theorem dX9_looked_40 : decode cX9_looked 40 = .ok (.aload_n 0, 1) := by decide +kernel
theorem dX9_looked_41 : decode cX9_looked 41 = .ok (.getfield 12, 3) := by decide +kernel
theorem dX9_looked_44 : decode cX9_looked 44 = .ok (.getfield 82, 3) := by decide +kernel
theorem dX9_looked_47 : decode cX9_looked 47 = .ok (.iload_n 2, 1) := by decide +kernel
theorem dX9_looked_48 : decode cX9_looked 48 = .ok (.invokestatic 85, 3) := by decide +kernel
theorem dX9_looked_51 : decode cX9_looked 51 = .ok (.aload_n 0, 1) := by decide +kernel
theorem dX9_looked_52 : decode cX9_looked 52 = .ok (.getfield 12, 3) := by decide +kernel
theorem dX9_looked_55 : decode cX9_looked 55 = .ok (.getfield 290, 3) := by decide +kernel
theorem dX9_looked_58 : decode cX9_looked 58 = .ok (.getfield 266, 3) := by decide +kernel
theorem dX9_looked_61 : decode cX9_looked 61 = .ok (.iload_n 1, 1) := by decide +kernel
theorem dX9_looked_62 : decode cX9_looked 62 = .ok (.iaload, 1) := by decide +kernel
theorem dX9_looked_63 : decode cX9_looked 63 = .ok (.if_icmp .eq 5, 3) := by decide +kernel
theorem dX9_looked_66 : decode cX9_looked 66 = .ok (.iload_n 1, 1) := by decide +kernel
theorem dX9_looked_67 : decode cX9_looked 67 = .ok (.ireturn, 1) := by decide +kernel
theorem dX9_looked_68 : decode cX9_looked 68 = .ok (.iinc 1 1, 3) := by decide +kernel
theorem dX9_looked_71 : decode cX9_looked 71 = .ok (.goto (-69), 3) := by decide +kernel
theorem dX9_looked_74 : decode cX9_looked 74 = .ok (.bipush (-5), 2) := by decide +kernel
theorem dX9_looked_76 : decode cX9_looked 76 = .ok (.ireturn, 1) := by decide +kernel
theorem dX9_addSaying_0 : decode cX9_addSaying 0 = .ok (.iload_n 2, 1) := by decide +kernel
theorem dX9_addSaying_1 : decode cX9_addSaying 1 = .ok (.iconst (-1), 1) := by decide +kernel
theorem dX9_addSaying_2 : decode cX9_addSaying 2 = .ok (.if_icmp .ne 10, 3) := by decide +kernel
theorem dX9_addSaying_5 : decode cX9_addSaying 5 = .ok (.aload_n 1, 1) := by decide +kernel
theorem dX9_addSaying_6 : decode cX9_addSaying 6 = .ok (.iconst 0, 1) := by decide +kernel
theorem dX9_addSaying_7 : decode cX9_addSaying 7 = .ok (.putfield 262, 3) := by decide +kernel
theorem dX9_addSaying_10 : decode cX9_addSaying 10 = .ok (.iconst 0, 1) := by decide +kernel
theorem dX9_addSaying_11 : decode cX9_addSaying 11 = .ok (.ireturn, 1) := by decide +kernel
theorem dX9_addSaying_12 : decode cX9_addSaying 12 = .ok (.aload_n 0, 1) := by decide +kernel
theorem dX9_addSaying_13 : decode cX9_addSaying 13 = .ok (.getfield 12, 3) := by decide +kernel
theorem dX9_addSaying_16 : decode cX9_addSaying 16 = .ok (.iload_n 2, 1) := by decide +kernel
theorem dX9_addSaying_17 : decode cX9_addSaying 17 = .ok (.invokevirtual 75, 3) := by decide +kernel
theorem dX9_addSaying_20 : decode cX9_addSaying 20 = .ok (.ifCond .ne 5, 3) := by decide +kernel
theorem dX9_addSaying_23 : decode cX9_addSaying 23 = .ok (.iconst (-1), 1) := by decide +kernel
theorem dX9_addSaying_24 : decode cX9_addSaying 24 = .ok (.ireturn, 1) := by decide +kernel
theorem dX9_addSaying_25 : decode cX9_addSaying 25 = .ok (.iload_n 3, 1) := by decide +kernel
theorem dX9_addSaying_26 : decode cX9_addSaying 26 = .ok (.invokestatic 79, 3) := by decide +kernel
theorem dX9_addSaying_29 : decode cX9_addSaying 29 = .ok (.ifCond .ne 6, 3) := by decide +kernel
theorem dX9_addSaying_32 : decode cX9_addSaying 32 = .ok (.bipush (-2), 2) := by decide +kernel
theorem dX9_addSaying_34 : decode cX9_addSaying 34 = .ok (.ireturn, 1) := by decide +kernel
theorem dX9_addSaying_35 : decode cX9_addSaying 35 = .ok (.aload_n 1, 1) := by decide +kernel
theorem dX9_addSaying_36 : decode cX9_addSaying 36 = .ok (.iload_n 2, 1) := by decide +kernel
theorem dX9_addSaying_37 : decode cX9_addSaying 37 = .ok (.iload_n 3, 1) := by decide +kernel
theorem dX9_addSaying_38 : decode cX9_addSaying 38 = .ok (.invokevirtual 282, 3) := by decide +kernel
theorem dX9_addSaying_41 : decode cX9_addSaying 41 = .ok (.ifCond .eq 10, 3) := by decide +kernel
theorem dX9_addSaying_44 : decode cX9_addSaying 44 = .ok (.aload_n 1, 1) := by decide +kernel
theorem dX9_addSaying_45 : decode cX9_addSaying 45 = .ok (.getfield 262, 3) := by decide +kernel
theorem dX9_addSaying_48 : decode cX9_addSaying 48 = .ok (.goto 5, 3) := by decide +kernel
theorem dX9_addSaying_51 : decode cX9_addSaying 51 = .ok (.bipush (-4), 2) := by decide +kernel
theorem dX9_addSaying_53 : decode cX9_addSaying 53 = .ok (.ireturn, 1) := by decide +kernel
theorem dX9_judge_0 : decode cX9_judge 0 = .ok (.iload_n 1, 1) := by decide +kernel
theorem dX9_judge_1 : decode cX9_judge 1 = .ok (.invokestatic 293, 3) := by decide +kernel
theorem dX9_judge_4 : decode cX9_judge 4 = .ok (.ifCond .ne 5, 3) := by decide +kernel
theorem dX9_judge_7 : decode cX9_judge 7 = .ok (.iconst (-1), 1) := by decide +kernel
theorem dX9_judge_8 : decode cX9_judge 8 = .ok (.ireturn, 1) := by decide +kernel
theorem dX9_judge_9 : decode cX9_judge 9 = .ok (.aload_n 0, 1) := by decide +kernel
theorem dX9_judge_10 : decode cX9_judge 10 = .ok (.getfield 34, 3) := by decide +kernel
theorem dX9_judge_13 : decode cX9_judge 13 = .ok (.iload_n 1, 1) := by decide +kernel
theorem dX9_judge_14 : decode cX9_judge 14 = .ok (.aaload, 1) := by decide +kernel
theorem dX9_judge_15 : decode cX9_judge 15 = .ok (.astore_n 3, 1) := by decide +kernel
theorem dX9_judge_16 : decode cX9_judge 16 = .ok (.aload_n 3, 1) := by decide +kernel
theorem dX9_judge_17 : decode cX9_judge 17 = .ok (.invokevirtual 296, 3) := by decide +kernel
theorem dX9_judge_20 : decode cX9_judge 20 = .ok (.ifCond .eq 6, 3) := by decide +kernel
theorem dX9_judge_23 : decode cX9_judge 23 = .ok (.bipush 100, 2) := by decide +kernel
theorem dX9_judge_25 : decode cX9_judge 25 = .ok (.ireturn, 1) := by decide +kernel
theorem dX9_judge_26 : decode cX9_judge 26 = .ok (.aload_n 3, 1) := by decide +kernel
theorem dX9_judge_27 : decode cX9_judge 27 = .ok (.getfield 300, 3) := by decide +kernel
theorem dX9_judge_30 : decode cX9_judge 30 = .ok (.iconst 4, 1) := by decide +kernel
theorem dX9_judge_31 : decode cX9_judge 31 = .ok (.if_icmp .eq 6, 3) := by decide +kernel
theorem dX9_judge_34 : decode cX9_judge 34 = .ok (.bipush (-12), 2) := by decide +kernel
theorem dX9_judge_36 : decode cX9_judge 36 = .ok (.ireturn, 1) := by decide +kernel
theorem dX9_judge_37 : decode cX9_judge 37 = .ok (.iconst 0, 1) := by decide +kernel
theorem dX9_judge_38 : decode cX9_judge 38 = .ok (.istore 4, 2) := by decide +kernel
theorem dX9_judge_40 : decode cX9_judge 40 = .ok (.iload 4, 2) := by decide +kernel
theorem dX9_judge_42 : decode cX9_judge 42 = .ok (.aload_n 0, 1) := by decide +kernel
theorem dX9_judge_43 : decode cX9_judge 43 = .ok (.getfield 12, 3) := by decide +kernel
theorem dX9_judge_46 : decode cX9_judge 46 = .ok (.invokevirtual 237, 3) := by decide +kernel
theorem dX9_judge_49 : decode cX9_judge 49 = .ok (.if_icmp .ge 59, 3) := by decide +kernel
theorem dX9_judge_52 : decode cX9_judge 52 = .ok (.iload_n 2, 1) := by decide +kernel
theorem dX9_judge_53 : decode cX9_judge 53 = .ok (.ifCond .lt 14, 3) := by decide +kernel
theorem dX9_judge_56 : decode cX9_judge 56 = .ok (.iload_n 2, 1) := by decide +kernel
theorem dX9_judge_57 : decode cX9_judge 57 = .ok (.aload_n 3, 1) := by decide +kernel
theorem dX9_judge_58 : decode cX9_judge 58 = .ok (.getfield 303, 3) := by decide +kernel
theorem dX9_judge_61 : decode cX9_judge 61 = .ok (.iload 4, 2) := by decide +kernel
theorem dX9_judge_63 : decode cX9_judge 63 = .ok (.isub, 1) := by decide +kernel
theorem dX9_judge_64 : decode cX9_judge 64 = .ok (.if_icmp .lt 9, 3) := by decide +kernel
theorem dX9_judge_67 : decode cX9_judge 67 = .ok (.bipush 100, 2) := by decide +kernel
theorem dX9_judge_69 : decode cX9_judge 69 = .ok (.iload 4, 2) := by decide +kernel
theorem dX9_judge_71 : decode cX9_judge 71 = .ok (.iadd, 1) := by decide +kernel
theorem dX9_judge_72 : decode cX9_judge 72 = .ok (.ireturn, 1) := by decide +kernel
theorem dX9_judge_73 : decode cX9_judge 73 = .ok (.aload_n 3, 1) := by decide +kernel
theorem dX9_judge_74 : decode cX9_judge 74 = .ok (.getfield 304, 3) := by decide +kernel
theorem dX9_judge_77 : decode cX9_judge 77 = .ok (.iload_n 2, 1) := by decide +kernel
theorem dX9_judge_78 : decode cX9_judge 78 = .ok (.iload 4, 2) := by decide +kernel
theorem dX9_judge_80 : decode cX9_judge 80 = .ok (.iadd, 1) := by decide +kernel
theorem dX9_judge_81 : decode cX9_judge 81 = .ok (.laload, 1) := by decide +kernel
theorem dX9_judge_82 : decode cX9_judge 82 = .ok (.aload_n 0, 1) := by decide +kernel
theorem dX9_judge_83 : decode cX9_judge 83 = .ok (.getfield 12, 3) := by decide +kernel
theorem dX9_judge_86 : decode cX9_judge 86 = .ok (.getfield 82, 3) := by decide +kernel
theorem dX9_judge_89 : decode cX9_judge 89 = .ok (.iload 4, 2) := by decide +kernel
theorem dX9_judge_91 : decode cX9_judge 91 = .ok (.invokestatic 85, 3) := by decide +kernel
theorem dX9_judge_94 : decode cX9_judge 94 = .ok (.i2l, 1) := by decide +kernel
theorem dX9_judge_95 : decode cX9_judge 95 = .ok (.lcmp, 1) := by decide +kernel
theorem dX9_judge_96 : decode cX9_judge 96 = .ok (.ifCond .eq 6, 3) := by decide +kernel
theorem dX9_judge_99 : decode cX9_judge 99 = .ok (.iload 4, 2) := by decide +kernel
theorem dX9_judge_101 : decode cX9_judge 101 = .ok (.ireturn, 1) := by decide +kernel
theorem dX9_judge_102 : decode cX9_judge 102 = .ok (.iinc 4 1, 3) := by decide +kernel
theorem dX9_judge_105 : decode cX9_judge 105 = .ok (.goto (-65), 3) := by decide +kernel
theorem dX9_judge_108 : decode cX9_judge 108 = .ok (.bipush (-5), 2) := by decide +kernel
theorem dX9_judge_110 : decode cX9_judge 110 = .ok (.ireturn, 1) := by decide +kernel
theorem dX9_image_0 : decode cX9_image 0 = .ok (.aload_n 0, 1) := by decide +kernel
theorem dX9_image_1 : decode cX9_image 1 = .ok (.getfield 18, 3) := by decide +kernel
theorem dX9_image_4 : decode cX9_image 4 = .ok (.aload_n 0, 1) := by decide +kernel
theorem dX9_image_5 : decode cX9_image 5 = .ok (.getfield 12, 3) := by decide +kernel
theorem dX9_image_8 : decode cX9_image 8 = .ok (.invokevirtual 308, 3) := by decide +kernel
theorem dX9_image_11 : decode cX9_image 11 = .ok (.aload_n 0, 1) := by decide +kernel
theorem dX9_image_12 : decode cX9_image 12 = .ok (.iconst 1, 1) := by decide +kernel
theorem dX9_image_13 : decode cX9_image 13 = .ok (.putfield 21, 3) := by decide +kernel
theorem dX9_image_16 : decode cX9_image 16 = .ok (.aload_n 0, 1) := by decide +kernel
theorem dX9_image_17 : decode cX9_image 17 = .ok (.getfield 12, 3) := by decide +kernel
theorem dX9_image_20 : decode cX9_image 20 = .ok (.getfield 82, 3) := by decide +kernel
theorem dX9_image_23 : decode cX9_image 23 = .ok (.ireturn, 1) := by decide +kernel
theorem dX9_undo_0 : decode cX9_undo 0 = .ok (.aload_n 0, 1) := by decide +kernel
theorem dX9_undo_1 : decode cX9_undo 1 = .ok (.getfield 21, 3) := by decide +kernel
theorem dX9_undo_4 : decode cX9_undo 4 = .ok (.ifCond .ne 6, 3) := by decide +kernel
theorem dX9_undo_7 : decode cX9_undo 7 = .ok (.bipush (-3), 2) := by decide +kernel
theorem dX9_undo_9 : decode cX9_undo 9 = .ok (.ireturn, 1) := by decide +kernel
theorem dX9_undo_10 : decode cX9_undo 10 = .ok (.aload_n 0, 1) := by decide +kernel
theorem dX9_undo_11 : decode cX9_undo 11 = .ok (.getfield 12, 3) := by decide +kernel
theorem dX9_undo_14 : decode cX9_undo 14 = .ok (.aload_n 0, 1) := by decide +kernel
theorem dX9_undo_15 : decode cX9_undo 15 = .ok (.getfield 18, 3) := by decide +kernel
theorem dX9_undo_18 : decode cX9_undo 18 = .ok (.invokevirtual 308, 3) := by decide +kernel
theorem dX9_undo_21 : decode cX9_undo 21 = .ok (.aload_n 0, 1) := by decide +kernel
theorem dX9_undo_22 : decode cX9_undo 22 = .ok (.getfield 12, 3) := by decide +kernel
theorem dX9_undo_25 : decode cX9_undo 25 = .ok (.getfield 82, 3) := by decide +kernel
theorem dX9_undo_28 : decode cX9_undo 28 = .ok (.ireturn, 1) := by decide +kernel
theorem dX9_count_0 : decode cX9_count 0 = .ok (.iload_n 1, 1) := by decide +kernel
theorem dX9_count_1 : decode cX9_count 1 = .ok (.tableswitch 72 0 3 #[31, 42, 53, 64], 31) := by decide +kernel
theorem dX9_count_32 : decode cX9_count 32 = .ok (.aload_n 0, 1) := by decide +kernel
theorem dX9_count_33 : decode cX9_count 33 = .ok (.getfield 12, 3) := by decide +kernel
theorem dX9_count_36 : decode cX9_count 36 = .ok (.getfield 243, 3) := by decide +kernel
theorem dX9_count_39 : decode cX9_count 39 = .ok (.getfield 262, 3) := by decide +kernel
theorem dX9_count_42 : decode cX9_count 42 = .ok (.ireturn, 1) := by decide +kernel
theorem dX9_count_43 : decode cX9_count 43 = .ok (.aload_n 0, 1) := by decide +kernel
theorem dX9_count_44 : decode cX9_count 44 = .ok (.getfield 12, 3) := by decide +kernel
theorem dX9_count_47 : decode cX9_count 47 = .ok (.getfield 276, 3) := by decide +kernel
theorem dX9_count_50 : decode cX9_count 50 = .ok (.getfield 262, 3) := by decide +kernel
theorem dX9_count_53 : decode cX9_count 53 = .ok (.ireturn, 1) := by decide +kernel
theorem dX9_count_54 : decode cX9_count 54 = .ok (.aload_n 0, 1) := by decide +kernel
theorem dX9_count_55 : decode cX9_count 55 = .ok (.getfield 12, 3) := by decide +kernel
theorem dX9_count_58 : decode cX9_count 58 = .ok (.getfield 290, 3) := by decide +kernel
theorem dX9_count_61 : decode cX9_count 61 = .ok (.getfield 262, 3) := by decide +kernel
theorem dX9_count_64 : decode cX9_count 64 = .ok (.ireturn, 1) := by decide +kernel
theorem dX9_count_65 : decode cX9_count 65 = .ok (.aload_n 0, 1) := by decide +kernel
theorem dX9_count_66 : decode cX9_count 66 = .ok (.getfield 28, 3) := by decide +kernel
theorem dX9_count_69 : decode cX9_count 69 = .ok (.getfield 147, 3) := by decide +kernel
theorem dX9_count_72 : decode cX9_count 72 = .ok (.ireturn, 1) := by decide +kernel
theorem dX9_count_73 : decode cX9_count 73 = .ok (.bipush (-2), 2) := by decide +kernel
theorem dX9_count_75 : decode cX9_count 75 = .ok (.ireturn, 1) := by decide +kernel
theorem dX9_tape_0 : decode cX9_tape 0 = .ok (.iload_n 1, 1) := by decide +kernel
theorem dX9_tape_1 : decode cX9_tape 1 = .ok (.invokestatic 293, 3) := by decide +kernel
theorem dX9_tape_4 : decode cX9_tape 4 = .ok (.ifCond .ne 5, 3) := by decide +kernel
theorem dX9_tape_7 : decode cX9_tape 7 = .ok (.iconst (-1), 1) := by decide +kernel
theorem dX9_tape_8 : decode cX9_tape 8 = .ok (.ireturn, 1) := by decide +kernel
theorem dX9_tape_9 : decode cX9_tape 9 = .ok (.iload_n 2, 1) := by decide +kernel
theorem dX9_tape_10 : decode cX9_tape 10 = .ok (.iconst (-1), 1) := by decide +kernel
theorem dX9_tape_11 : decode cX9_tape 11 = .ok (.if_icmp .ne 16, 3) := by decide +kernel
theorem dX9_tape_14 : decode cX9_tape 14 = .ok (.aload_n 0, 1) := by decide +kernel
theorem dX9_tape_15 : decode cX9_tape 15 = .ok (.getfield 34, 3) := by decide +kernel
theorem dX9_tape_18 : decode cX9_tape 18 = .ok (.iload_n 1, 1) := by decide +kernel
theorem dX9_tape_19 : decode cX9_tape 19 = .ok (.aaload, 1) := by decide +kernel
theorem dX9_tape_20 : decode cX9_tape 20 = .ok (.iconst (-1), 1) := by decide +kernel
theorem dX9_tape_21 : decode cX9_tape 21 = .ok (.iconst 0, 1) := by decide +kernel
theorem dX9_tape_22 : decode cX9_tape 22 = .ok (.invokevirtual 312, 3) := by decide +kernel
theorem dX9_tape_25 : decode cX9_tape 25 = .ok (.iconst 1, 1) := by decide +kernel
theorem dX9_tape_26 : decode cX9_tape 26 = .ok (.ireturn, 1) := by decide +kernel
theorem dX9_tape_27 : decode cX9_tape 27 = .ok (.iload_n 2, 1) := by decide +kernel
theorem dX9_tape_28 : decode cX9_tape 28 = .ok (.ifCond .lt 14, 3) := by decide +kernel
theorem dX9_tape_31 : decode cX9_tape 31 = .ok (.iload_n 2, 1) := by decide +kernel
theorem dX9_tape_32 : decode cX9_tape 32 = .ok (.iconst 4, 1) := by decide +kernel
theorem dX9_tape_33 : decode cX9_tape 33 = .ok (.if_icmp .gt 9, 3) := by decide +kernel
theorem dX9_tape_36 : decode cX9_tape 36 = .ok (.iload_n 3, 1) := by decide +kernel
theorem dX9_tape_37 : decode cX9_tape 37 = .ok (.bipush 60, 2) := by decide +kernel
theorem dX9_tape_39 : decode cX9_tape 39 = .ok (.if_icmp .le 6, 3) := by decide +kernel
theorem dX9_tape_42 : decode cX9_tape 42 = .ok (.bipush (-2), 2) := by decide +kernel
theorem dX9_tape_44 : decode cX9_tape 44 = .ok (.ireturn, 1) := by decide +kernel
theorem dX9_tape_45 : decode cX9_tape 45 = .ok (.iload_n 3, 1) := by decide +kernel
theorem dX9_tape_46 : decode cX9_tape 46 = .ok (.ifCond .ge 6, 3) := by decide +kernel
theorem dX9_tape_49 : decode cX9_tape 49 = .ok (.bipush (-14), 2) := by decide +kernel
theorem dX9_tape_51 : decode cX9_tape 51 = .ok (.ireturn, 1) := by decide +kernel
theorem dX9_tape_52 : decode cX9_tape 52 = .ok (.aload_n 0, 1) := by decide +kernel
theorem dX9_tape_53 : decode cX9_tape 53 = .ok (.getfield 34, 3) := by decide +kernel
theorem dX9_tape_56 : decode cX9_tape 56 = .ok (.iload_n 1, 1) := by decide +kernel
theorem dX9_tape_57 : decode cX9_tape 57 = .ok (.aaload, 1) := by decide +kernel
theorem dX9_tape_58 : decode cX9_tape 58 = .ok (.iload_n 2, 1) := by decide +kernel
theorem dX9_tape_59 : decode cX9_tape 59 = .ok (.iload_n 3, 1) := by decide +kernel
theorem dX9_tape_60 : decode cX9_tape 60 = .ok (.invokevirtual 312, 3) := by decide +kernel
theorem dX9_tape_63 : decode cX9_tape 63 = .ok (.iconst 1, 1) := by decide +kernel
theorem dX9_tape_64 : decode cX9_tape 64 = .ok (.ireturn, 1) := by decide +kernel
theorem dX9_item_0 : decode cX9_item 0 = .ok (.iload_n 1, 1) := by decide +kernel
theorem dX9_item_1 : decode cX9_item 1 = .ok (.invokestatic 293, 3) := by decide +kernel
theorem dX9_item_4 : decode cX9_item 4 = .ok (.ifCond .ne 5, 3) := by decide +kernel
theorem dX9_item_7 : decode cX9_item 7 = .ok (.iconst (-1), 1) := by decide +kernel
theorem dX9_item_8 : decode cX9_item 8 = .ok (.ireturn, 1) := by decide +kernel
theorem dX9_item_9 : decode cX9_item 9 = .ok (.aload_n 0, 1) := by decide +kernel
theorem dX9_item_10 : decode cX9_item 10 = .ok (.getfield 34, 3) := by decide +kernel
theorem dX9_item_13 : decode cX9_item 13 = .ok (.iload_n 1, 1) := by decide +kernel
theorem dX9_item_14 : decode cX9_item 14 = .ok (.aaload, 1) := by decide +kernel
theorem dX9_item_15 : decode cX9_item 15 = .ok (.astore 5, 2) := by decide +kernel
theorem dX9_item_17 : decode cX9_item 17 = .ok (.aload 5, 2) := by decide +kernel
theorem dX9_item_19 : decode cX9_item 19 = .ok (.invokevirtual 296, 3) := by decide +kernel
theorem dX9_item_22 : decode cX9_item 22 = .ok (.ifCond .eq 6, 3) := by decide +kernel
theorem dX9_item_25 : decode cX9_item 25 = .ok (.bipush (-11), 2) := by decide +kernel
theorem dX9_item_27 : decode cX9_item 27 = .ok (.ireturn, 1) := by decide +kernel
theorem dX9_item_28 : decode cX9_item 28 = .ok (.aload 5, 2) := by decide +kernel
theorem dX9_item_30 : decode cX9_item 30 = .ok (.iload_n 2, 1) := by decide +kernel
theorem dX9_item_31 : decode cX9_item 31 = .ok (.invokevirtual 315, 3) := by decide +kernel
theorem dX9_item_34 : decode cX9_item 34 = .ok (.ifCond .ne 6, 3) := by decide +kernel
theorem dX9_item_37 : decode cX9_item 37 = .ok (.bipush (-13), 2) := by decide +kernel
theorem dX9_item_39 : decode cX9_item 39 = .ok (.ireturn, 1) := by decide +kernel
theorem dX9_item_40 : decode cX9_item 40 = .ok (.aload 5, 2) := by decide +kernel
theorem dX9_item_42 : decode cX9_item 42 = .ok (.getfield 304, 3) := by decide +kernel
theorem dX9_item_45 : decode cX9_item 45 = .ok (.iload_n 2, 1) := by decide +kernel
theorem dX9_item_46 : decode cX9_item 46 = .ok (.aload 5, 2) := by decide +kernel
theorem dX9_item_48 : decode cX9_item 48 = .ok (.lload_n 3, 1) := by decide +kernel
theorem dX9_item_49 : decode cX9_item 49 = .ok (.invokevirtual 318, 3) := by decide +kernel
theorem dX9_item_52 : decode cX9_item 52 = .ok (.lastore, 1) := by decide +kernel
theorem dX9_item_53 : decode cX9_item 53 = .ok (.iconst 1, 1) := by decide +kernel
theorem dX9_item_54 : decode cX9_item 54 = .ok (.ireturn, 1) := by decide +kernel
theorem dX9_peek_0 : decode cX9_peek 0 = .ok (.iload_n 1, 1) := by decide +kernel
theorem dX9_peek_1 : decode cX9_peek 1 = .ok (.invokestatic 293, 3) := by decide +kernel
theorem dX9_peek_4 : decode cX9_peek 4 = .ok (.ifCond .eq 16, 3) := by decide +kernel
theorem dX9_peek_7 : decode cX9_peek 7 = .ok (.aload_n 0, 1) := by decide +kernel
theorem dX9_peek_8 : decode cX9_peek 8 = .ok (.getfield 34, 3) := by decide +kernel
theorem dX9_peek_11 : decode cX9_peek 11 = .ok (.iload_n 1, 1) := by decide +kernel
theorem dX9_peek_12 : decode cX9_peek 12 = .ok (.aaload, 1) := by decide +kernel
theorem dX9_peek_13 : decode cX9_peek 13 = .ok (.iload_n 2, 1) := by decide +kernel
theorem dX9_peek_14 : decode cX9_peek 14 = .ok (.invokevirtual 315, 3) := by decide +kernel
theorem dX9_peek_17 : decode cX9_peek 17 = .ok (.ifCond .ne 7, 3) := by decide +kernel
theorem dX9_peek_20 : decode cX9_peek 20 = .ok (.ldc2_w 270, 3) := by decide +kernel
theorem dX9_peek_23 : decode cX9_peek 23 = .ok (.lreturn, 1) := by decide +kernel
theorem dX9_peek_24 : decode cX9_peek 24 = .ok (.aload_n 0, 1) := by decide +kernel
theorem dX9_peek_25 : decode cX9_peek 25 = .ok (.getfield 34, 3) := by decide +kernel
theorem dX9_peek_28 : decode cX9_peek 28 = .ok (.iload_n 1, 1) := by decide +kernel
theorem dX9_peek_29 : decode cX9_peek 29 = .ok (.aaload, 1) := by decide +kernel
theorem dX9_peek_30 : decode cX9_peek 30 = .ok (.getfield 304, 3) := by decide +kernel
theorem dX9_peek_33 : decode cX9_peek 33 = .ok (.iload_n 2, 1) := by decide +kernel
theorem dX9_peek_34 : decode cX9_peek 34 = .ok (.laload, 1) := by decide +kernel
theorem dX9_peek_35 : decode cX9_peek 35 = .ok (.lreturn, 1) := by decide +kernel
theorem dX9_shift_0 : decode cX9_shift 0 = .ok (.iload_n 1, 1) := by decide +kernel
theorem dX9_shift_1 : decode cX9_shift 1 = .ok (.invokestatic 293, 3) := by decide +kernel
theorem dX9_shift_4 : decode cX9_shift 4 = .ok (.ifCond .eq 10, 3) := by decide +kernel
theorem dX9_shift_7 : decode cX9_shift 7 = .ok (.iload_n 3, 1) := by decide +kernel
theorem dX9_shift_8 : decode cX9_shift 8 = .ok (.invokestatic 293, 3) := by decide +kernel
theorem dX9_shift_11 : decode cX9_shift 11 = .ok (.ifCond .ne 5, 3) := by decide +kernel
theorem dX9_shift_14 : decode cX9_shift 14 = .ok (.iconst (-1), 1) := by decide +kernel
theorem dX9_shift_15 : decode cX9_shift 15 = .ok (.ireturn, 1) := by decide +kernel
theorem dX9_shift_16 : decode cX9_shift 16 = .ok (.aload_n 0, 1) := by decide +kernel
theorem dX9_shift_17 : decode cX9_shift 17 = .ok (.getfield 34, 3) := by decide +kernel
theorem dX9_shift_20 : decode cX9_shift 20 = .ok (.iload_n 1, 1) := by decide +kernel
theorem dX9_shift_21 : decode cX9_shift 21 = .ok (.aaload, 1) := by decide +kernel
theorem dX9_shift_22 : decode cX9_shift 22 = .ok (.astore 6, 2) := by decide +kernel
theorem dX9_shift_24 : decode cX9_shift 24 = .ok (.aload_n 0, 1) := by decide +kernel
theorem dX9_shift_25 : decode cX9_shift 25 = .ok (.getfield 34, 3) := by decide +kernel
theorem dX9_shift_28 : decode cX9_shift 28 = .ok (.iload_n 3, 1) := by decide +kernel
theorem dX9_shift_29 : decode cX9_shift 29 = .ok (.aaload, 1) := by decide +kernel
theorem dX9_shift_30 : decode cX9_shift 30 = .ok (.astore 7, 2) := by decide +kernel
theorem dX9_shift_32 : decode cX9_shift 32 = .ok (.aload 6, 2) := by decide +kernel
theorem dX9_shift_34 : decode cX9_shift 34 = .ok (.invokevirtual 296, 3) := by decide +kernel
theorem dX9_shift_37 : decode cX9_shift 37 = .ok (.ifCond .ne 11, 3) := by decide +kernel
theorem dX9_shift_40 : decode cX9_shift 40 = .ok (.aload 7, 2) := by decide +kernel
theorem dX9_shift_42 : decode cX9_shift 42 = .ok (.invokevirtual 296, 3) := by decide +kernel
theorem dX9_shift_45 : decode cX9_shift 45 = .ok (.ifCond .eq 6, 3) := by decide +kernel
theorem dX9_shift_48 : decode cX9_shift 48 = .ok (.bipush (-11), 2) := by decide +kernel
theorem dX9_shift_50 : decode cX9_shift 50 = .ok (.ireturn, 1) := by decide +kernel
theorem dX9_shift_51 : decode cX9_shift 51 = .ok (.aload 6, 2) := by decide +kernel
theorem dX9_shift_53 : decode cX9_shift 53 = .ok (.getfield 300, 3) := by decide +kernel
theorem dX9_shift_56 : decode cX9_shift 56 = .ok (.aload 7, 2) := by decide +kernel
theorem dX9_shift_58 : decode cX9_shift 58 = .ok (.getfield 300, 3) := by decide +kernel
theorem dX9_shift_61 : decode cX9_shift 61 = .ok (.if_icmp .eq 6, 3) := by decide +kernel
theorem dX9_shift_64 : decode cX9_shift 64 = .ok (.bipush (-12), 2) := by decide +kernel
theorem dX9_shift_66 : decode cX9_shift 66 = .ok (.ireturn, 1) := by decide +kernel
theorem dX9_shift_67 : decode cX9_shift 67 = .ok (.aload 6, 2) := by decide +kernel
theorem dX9_shift_69 : decode cX9_shift 69 = .ok (.iload_n 2, 1) := by decide +kernel
theorem dX9_shift_70 : decode cX9_shift 70 = .ok (.iload 5, 2) := by decide +kernel
theorem dX9_shift_72 : decode cX9_shift 72 = .ok (.invokevirtual 322, 3) := by decide +kernel
theorem dX9_shift_75 : decode cX9_shift 75 = .ok (.ifCond .eq 15, 3) := by decide +kernel
theorem dX9_shift_78 : decode cX9_shift 78 = .ok (.aload 7, 2) := by decide +kernel
theorem dX9_shift_80 : decode cX9_shift 80 = .ok (.iload 4, 2) := by decide +kernel
theorem dX9_shift_82 : decode cX9_shift 82 = .ok (.iload 5, 2) := by decide +kernel
theorem dX9_shift_84 : decode cX9_shift 84 = .ok (.invokevirtual 322, 3) := by decide +kernel
theorem dX9_shift_87 : decode cX9_shift 87 = .ok (.ifCond .ne 6, 3) := by decide +kernel
theorem dX9_shift_90 : decode cX9_shift 90 = .ok (.bipush (-13), 2) := by decide +kernel
theorem dX9_shift_92 : decode cX9_shift 92 = .ok (.ireturn, 1) := by decide +kernel
theorem dX9_shift_93 : decode cX9_shift 93 = .ok (.aload 6, 2) := by decide +kernel
theorem dX9_shift_95 : decode cX9_shift 95 = .ok (.getfield 304, 3) := by decide +kernel
theorem dX9_shift_98 : decode cX9_shift 98 = .ok (.iload_n 2, 1) := by decide +kernel
theorem dX9_shift_99 : decode cX9_shift 99 = .ok (.aload 7, 2) := by decide +kernel
theorem dX9_shift_101 : decode cX9_shift 101 = .ok (.getfield 304, 3) := by decide +kernel
theorem dX9_shift_104 : decode cX9_shift 104 = .ok (.iload 4, 2) := by decide +kernel
theorem dX9_shift_106 : decode cX9_shift 106 = .ok (.iload 5, 2) := by decide +kernel
theorem dX9_shift_108 : decode cX9_shift 108 = .ok (.invokestatic 325, 3) := by decide +kernel
theorem dX9_shift_111 : decode cX9_shift 111 = .ok (.iload 5, 2) := by decide +kernel
theorem dX9_shift_113 : decode cX9_shift 113 = .ok (.ireturn, 1) := by decide +kernel
theorem dX9_isTape_0 : decode cX9_isTape 0 = .ok (.iload_n 0, 1) := by decide +kernel
theorem dX9_isTape_1 : decode cX9_isTape 1 = .ok (.ifCond .lt 13, 3) := by decide +kernel
theorem dX9_isTape_4 : decode cX9_isTape 4 = .ok (.iload_n 0, 1) := by decide +kernel
theorem dX9_isTape_5 : decode cX9_isTape 5 = .ok (.bipush 6, 2) := by decide +kernel
theorem dX9_isTape_7 : decode cX9_isTape 7 = .ok (.if_icmp .ge 7, 3) := by decide +kernel
theorem dX9_isTape_10 : decode cX9_isTape 10 = .ok (.iconst 1, 1) := by decide +kernel
theorem dX9_isTape_11 : decode cX9_isTape 11 = .ok (.goto 4, 3) := by decide +kernel
theorem dX9_isTape_14 : decode cX9_isTape 14 = .ok (.iconst 0, 1) := by decide +kernel
theorem dX9_isTape_15 : decode cX9_isTape 15 = .ok (.ireturn, 1) := by decide +kernel
theorem dX9_isYesOrNo_0 : decode cX9_isYesOrNo 0 = .ok (.iload_n 0, 1) := by decide +kernel
theorem dX9_isYesOrNo_1 : decode cX9_isYesOrNo 1 = .ok (.ifCond .eq 8, 3) := by decide +kernel
theorem dX9_isYesOrNo_4 : decode cX9_isYesOrNo 4 = .ok (.iload_n 0, 1) := by decide +kernel
theorem dX9_isYesOrNo_5 : decode cX9_isYesOrNo 5 = .ok (.iconst 1, 1) := by decide +kernel
theorem dX9_isYesOrNo_6 : decode cX9_isYesOrNo 6 = .ok (.if_icmp .ne 7, 3) := by decide +kernel
theorem dX9_isYesOrNo_9 : decode cX9_isYesOrNo 9 = .ok (.iconst 1, 1) := by decide +kernel
theorem dX9_isYesOrNo_10 : decode cX9_isYesOrNo 10 = .ok (.goto 4, 3) := by decide +kernel
theorem dX9_isYesOrNo_13 : decode cX9_isYesOrNo 13 = .ok (.iconst 0, 1) := by decide +kernel
theorem dX9_isYesOrNo_14 : decode cX9_isYesOrNo 14 = .ok (.ireturn, 1) := by decide +kernel
theorem dX9_oneIf_0 : decode cX9_oneIf 0 = .ok (.iload_n 0, 1) := by decide +kernel
theorem dX9_oneIf_1 : decode cX9_oneIf 1 = .ok (.ifCond .eq 7, 3) := by decide +kernel
theorem dX9_oneIf_4 : decode cX9_oneIf 4 = .ok (.iconst 1, 1) := by decide +kernel
theorem dX9_oneIf_5 : decode cX9_oneIf 5 = .ok (.goto 4, 3) := by decide +kernel
theorem dX9_oneIf_8 : decode cX9_oneIf 8 = .ok (.iconst 0, 1) := by decide +kernel
theorem dX9_oneIf_9 : decode cX9_oneIf 9 = .ok (.ireturn, 1) := by decide +kernel
