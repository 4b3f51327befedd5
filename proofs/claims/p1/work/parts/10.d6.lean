theorem dX9_meets_167 : decode cX9_meets 167 = .ok (.getfield 411, 3) := by decide +kernel
theorem dX9_meets_170 : decode cX9_meets 170 = .ok (.iconst 4, 1) := by decide +kernel
theorem dX9_meets_171 : decode cX9_meets 171 = .ok (.if_icmp .ne 7, 3) := by decide +kernel
theorem dX9_meets_174 : decode cX9_meets 174 = .ok (.iload_n 2, 1) := by decide +kernel
theorem dX9_meets_175 : decode cX9_meets 175 = .ok (.ifCond .ne 7, 3) := by decide +kernel
theorem dX9_meets_178 : decode cX9_meets 178 = .ok (.iconst 1, 1) := by decide +kernel
theorem dX9_meets_179 : decode cX9_meets 179 = .ok (.goto 4, 3) := by decide +kernel
theorem dX9_meets_182 : decode cX9_meets 182 = .ok (.iconst 0, 1) := by decide +kernel
theorem dX9_meets_183 : decode cX9_meets 183 = .ok (.ireturn, 1) := by decide +kernel
theorem dX9_nearest_0 : decode cX9_nearest 0 = .ok (.aload_n 0, 1) := by decide +kernel
theorem dX9_nearest_1 : decode cX9_nearest 1 = .ok (.iconst 3, 1) := by decide +kernel
theorem dX9_nearest_2 : decode cX9_nearest 2 = .ok (.invokevirtual 440, 3) := by decide +kernel
theorem dX9_nearest_5 : decode cX9_nearest 5 = .ok (.aload_n 0, 1) := by decide +kernel
theorem dX9_nearest_6 : decode cX9_nearest 6 = .ok (.invokevirtual 443, 3) := by decide +kernel
theorem dX9_nearest_9 : decode cX9_nearest 9 = .ok (.aload_n 0, 1) := by decide +kernel
theorem dX9_nearest_10 : decode cX9_nearest 10 = .ok (.getfield 405, 3) := by decide +kernel
theorem dX9_nearest_13 : decode cX9_nearest 13 = .ok (.ifCond .eq 11, 3) := by decide +kernel
theorem dX9_nearest_16 : decode cX9_nearest 16 = .ok (.aload_n 0, 1) := by decide +kernel
theorem dX9_nearest_17 : decode cX9_nearest 17 = .ok (.getfield 408, 3) := by decide +kernel
theorem dX9_nearest_20 : decode cX9_nearest 20 = .ok (.ineg, 1) := by decide +kernel
theorem dX9_nearest_21 : decode cX9_nearest 21 = .ok (.goto 4, 3) := by decide +kernel
theorem dX9_nearest_25 : decode cX9_nearest 25 = .ok (.ireturn, 1) := by decide +kernel
theorem dX9_ruled_0 : decode cX9_ruled 0 = .ok (.aload_n 0, 1) := by decide +kernel
theorem dX9_ruled_1 : decode cX9_ruled 1 = .ok (.getfield 20, 3) := by decide +kernel
theorem dX9_ruled_4 : decode cX9_ruled 4 = .ok (.aload_n 0, 1) := by decide +kernel
theorem dX9_ruled_5 : decode cX9_ruled 5 = .ok (.getfield 248, 3) := by decide +kernel
theorem dX9_ruled_8 : decode cX9_ruled 8 = .ok (.iaload, 1) := by decide +kernel
theorem dX9_ruled_9 : decode cX9_ruled 9 = .ok (.istore_n 3, 1) := by decide +kernel
theorem dX9_ruled_10 : decode cX9_ruled 10 = .ok (.aload_n 0, 1) := by decide +kernel
theorem dX9_ruled_11 : decode cX9_ruled 11 = .ok (.getfield 345, 3) := by decide +kernel
theorem dX9_ruled_14 : decode cX9_ruled 14 = .ok (.ifCond .ne 40, 3) := by decide +kernel
theorem dX9_ruled_17 : decode cX9_ruled 17 = .ok (.iload_n 3, 1) := by decide +kernel
theorem dX9_ruled_18 : decode cX9_ruled 18 = .ok (.iconst 3, 1) := by decide +kernel
theorem dX9_ruled_19 : decode cX9_ruled 19 = .ok (.if_icmp .lt 35, 3) := by decide +kernel
theorem dX9_ruled_54 : decode cX9_ruled 54 = .ok (.iconst (-1), 1) := by decide +kernel
theorem dX9_ruled_55 : decode cX9_ruled 55 = .ok (.ireturn, 1) := by decide +kernel
theorem dX9_seed_0 : decode cX9_seed 0 = .ok (.aload_n 0, 1) := by decide +kernel
theorem dX9_seed_1 : decode cX9_seed 1 = .ok (.getfield 86, 3) := by decide +kernel
theorem dX9_seed_4 : decode cX9_seed 4 = .ok (.istore_n 2, 1) := by decide +kernel
theorem dX9_seed_5 : decode cX9_seed 5 = .ok (.aload_n 0, 1) := by decide +kernel
theorem dX9_seed_6 : decode cX9_seed 6 = .ok (.iload_n 1, 1) := by decide +kernel
theorem dX9_seed_7 : decode cX9_seed 7 = .ok (.putfield 86, 3) := by decide +kernel
theorem dX9_seed_10 : decode cX9_seed 10 = .ok (.iload_n 2, 1) := by decide +kernel
theorem dX9_seed_11 : decode cX9_seed 11 = .ok (.ireturn, 1) := by decide +kernel
theorem dX9_shut_0 : decode cX9_shut 0 = .ok (.aload_n 0, 1) := by decide +kernel
theorem dX9_shut_1 : decode cX9_shut 1 = .ok (.invokevirtual 393, 3) := by decide +kernel
theorem dX9_shut_4 : decode cX9_shut 4 = .ok (.aload_n 0, 1) := by decide +kernel
theorem dX9_shut_5 : decode cX9_shut 5 = .ok (.invokevirtual 381, 3) := by decide +kernel
theorem dX9_shut_8 : decode cX9_shut 8 = .ok (.istore_n 1, 1) := by decide +kernel
theorem dX9_shut_9 : decode cX9_shut 9 = .ok (.iload_n 1, 1) := by decide +kernel
theorem dX9_shut_10 : decode cX9_shut 10 = .ok (.iconst 2, 1) := by decide +kernel
theorem dX9_shut_11 : decode cX9_shut 11 = .ok (.if_icmp .ge 7, 3) := by decide +kernel
theorem dX9_shut_14 : decode cX9_shut 14 = .ok (.iconst 0, 1) := by decide +kernel
theorem dX9_shut_15 : decode cX9_shut 15 = .ok (.goto 15, 3) := by decide +kernel
theorem dX9_shut_30 : decode cX9_shut 30 = .ok (.istore_n 2, 1) := by decide +kernel
theorem dX9_shut_31 : decode cX9_shut 31 = .ok (.iconst 0, 1) := by decide +kernel
theorem dX9_shut_32 : decode cX9_shut 32 = .ok (.istore_n 3, 1) := by decide +kernel
theorem dX9_shut_33 : decode cX9_shut 33 = .ok (.iconst 0, 1) := by decide +kernel
theorem dX9_shut_34 : decode cX9_shut 34 = .ok (.istore 4, 2) := by decide +kernel
theorem dX9_shut_36 : decode cX9_shut 36 = .ok (.iload 4, 2) := by decide +kernel
theorem dX9_shut_38 : decode cX9_shut 38 = .ok (.aload_n 0, 1) := by decide +kernel
theorem dX9_shut_39 : decode cX9_shut 39 = .ok (.getfield 20, 3) := by decide +kernel
theorem dX9_shut_42 : decode cX9_shut 42 = .ok (.aload_n 0, 1) := by decide +kernel
theorem dX9_shut_43 : decode cX9_shut 43 = .ok (.getfield 248, 3) := by decide +kernel
theorem dX9_shut_46 : decode cX9_shut 46 = .ok (.iaload, 1) := by decide +kernel
theorem dX9_shut_47 : decode cX9_shut 47 = .ok (.if_icmp .ge 92, 3) := by decide +kernel
theorem dX9_shut_139 : decode cX9_shut 139 = .ok (.iload_n 3, 1) := by decide +kernel
theorem dX9_shut_140 : decode cX9_shut 140 = .ok (.ireturn, 1) := by decide +kernel
theorem dX9_sides_0 : decode cX9_sides 0 = .ok (.iconst 0, 1) := by decide +kernel
theorem dX9_sides_1 : decode cX9_sides 1 = .ok (.istore_n 1, 1) := by decide +kernel
theorem dX9_sides_2 : decode cX9_sides 2 = .ok (.iload_n 1, 1) := by decide +kernel
theorem dX9_sides_3 : decode cX9_sides 3 = .ok (.aload_n 0, 1) := by decide +kernel
theorem dX9_sides_4 : decode cX9_sides 4 = .ok (.getfield 20, 3) := by decide +kernel
theorem dX9_sides_7 : decode cX9_sides 7 = .ok (.aload_n 0, 1) := by decide +kernel
theorem dX9_sides_8 : decode cX9_sides 8 = .ok (.getfield 248, 3) := by decide +kernel
theorem dX9_sides_11 : decode cX9_sides 11 = .ok (.iaload, 1) := by decide +kernel
theorem dX9_sides_12 : decode cX9_sides 12 = .ok (.if_icmp .ge 81, 3) := by decide +kernel
theorem dX9_sides_93 : decode cX9_sides 93 = .ok (.return_, 1) := by decide +kernel
theorem dX9_sign_0 : decode cX9_sign 0 = .ok (.iload_n 1, 1) := by decide +kernel
theorem dX9_sign_1 : decode cX9_sign 1 = .ok (.aload_n 0, 1) := by decide +kernel
theorem dX9_sign_2 : decode cX9_sign 2 = .ok (.getfield 155, 3) := by decide +kernel
theorem dX9_sign_5 : decode cX9_sign 5 = .ok (.if_icmp .ge 16, 3) := by decide +kernel
theorem dX9_sign_21 : decode cX9_sign 21 = .ok (.iconst 0, 1) := by decide +kernel
theorem dX9_sign_22 : decode cX9_sign 22 = .ok (.ireturn, 1) := by decide +kernel
theorem dX9_since_0 : decode cX9_since 0 = .ok (.aload_n 0, 1) := by decide +kernel
theorem dX9_since_1 : decode cX9_since 1 = .ok (.iload_n 1, 1) := by decide +kernel
theorem dX9_since_2 : decode cX9_since 2 = .ok (.invokevirtual 371, 3) := by decide +kernel
theorem dX9_since_5 : decode cX9_since 5 = .ok (.ifCond .eq 41, 3) := by decide +kernel
theorem dX9_since_46 : decode cX9_since 46 = .ok (.iconst (-1), 1) := by decide +kernel
theorem dX9_since_47 : decode cX9_since 47 = .ok (.ireturn, 1) := by decide +kernel
theorem dX9_stands_0 : decode cX9_stands 0 = .ok (.iconst 0, 1) := by decide +kernel
theorem dX9_stands_1 : decode cX9_stands 1 = .ok (.istore_n 2, 1) := by decide +kernel
theorem dX9_stands_2 : decode cX9_stands 2 = .ok (.iload_n 2, 1) := by decide +kernel
theorem dX9_stands_3 : decode cX9_stands 3 = .ok (.aload_n 0, 1) := by decide +kernel
theorem dX9_stands_4 : decode cX9_stands 4 = .ok (.getfield 20, 3) := by decide +kernel
theorem dX9_stands_7 : decode cX9_stands 7 = .ok (.aload_n 0, 1) := by decide +kernel
theorem dX9_stands_8 : decode cX9_stands 8 = .ok (.getfield 248, 3) := by decide +kernel
theorem dX9_stands_11 : decode cX9_stands 11 = .ok (.iaload, 1) := by decide +kernel
theorem dX9_stands_12 : decode cX9_stands 12 = .ok (.if_icmp .ge 36, 3) := by decide +kernel
theorem dX9_stands_48 : decode cX9_stands 48 = .ok (.iconst (-1), 1) := by decide +kernel
theorem dX9_stands_49 : decode cX9_stands 49 = .ok (.ireturn, 1) := by decide +kernel
theorem dX9_sure_0 : decode cX9_sure 0 = .ok (.aload_n 0, 1) := by decide +kernel
theorem dX9_sure_1 : decode cX9_sure 1 = .ok (.iload_n 1, 1) := by decide +kernel
theorem dX9_sure_2 : decode cX9_sure 2 = .ok (.invokevirtual 371, 3) := by decide +kernel
theorem dX9_sure_5 : decode cX9_sure 5 = .ok (.ifCond .eq 11, 3) := by decide +kernel
theorem dX9_sure_16 : decode cX9_sure 16 = .ok (.iconst (-1), 1) := by decide +kernel
theorem dX9_sure_17 : decode cX9_sure 17 = .ok (.ireturn, 1) := by decide +kernel
theorem dX9_take_0 : decode cX9_take 0 = .ok (.aload_n 0, 1) := by decide +kernel
theorem dX9_take_1 : decode cX9_take 1 = .ok (.getfield 358, 3) := by decide +kernel
theorem dX9_take_4 : decode cX9_take 4 = .ok (.ifCond .ne 5, 3) := by decide +kernel
theorem dX9_take_7 : decode cX9_take 7 = .ok (.iconst (-1), 1) := by decide +kernel
theorem dX9_take_8 : decode cX9_take 8 = .ok (.ireturn, 1) := by decide +kernel
theorem dX9_tell_0 : decode cX9_tell 0 = .ok (.aload_n 0, 1) := by decide +kernel
theorem dX9_tell_1 : decode cX9_tell 1 = .ok (.iload_n 1, 1) := by decide +kernel
theorem dX9_tell_2 : decode cX9_tell 2 = .ok (.invokevirtual 371, 3) := by decide +kernel
theorem dX9_tell_5 : decode cX9_tell 5 = .ok (.ifCond .eq 11, 3) := by decide +kernel
theorem dX9_tell_16 : decode cX9_tell 16 = .ok (.iconst (-1), 1) := by decide +kernel
theorem dX9_tell_17 : decode cX9_tell 17 = .ok (.ireturn, 1) := by decide +kernel
theorem dX9_untell_0 : decode cX9_untell 0 = .ok (.iload_n 1, 1) := by decide +kernel
theorem dX9_untell_1 : decode cX9_untell 1 = .ok (.iconst 0, 1) := by decide +kernel
theorem dX9_untell_2 : decode cX9_untell 2 = .ok (.aload_n 0, 1) := by decide +kernel
theorem dX9_untell_3 : decode cX9_untell 3 = .ok (.getfield 254, 3) := by decide +kernel
theorem dX9_untell_6 : decode cX9_untell 6 = .ok (.iconst 1, 1) := by decide +kernel
theorem dX9_untell_7 : decode cX9_untell 7 = .ok (.isub, 1) := by decide +kernel
theorem dX9_untell_8 : decode cX9_untell 8 = .ok (.invokestatic 361, 3) := by decide +kernel
theorem dX9_untell_11 : decode cX9_untell 11 = .ok (.ifCond .eq 12, 3) := by decide +kernel
theorem dX9_untell_23 : decode cX9_untell 23 = .ok (.iconst 0, 1) := by decide +kernel
theorem dX9_untell_24 : decode cX9_untell 24 = .ok (.ireturn, 1) := by decide +kernel
theorem dX9_up_0 : decode cX9_up 0 = .ok (.aload_n 0, 1) := by decide +kernel
theorem dX9_up_1 : decode cX9_up 1 = .ok (.invokevirtual 381, 3) := by decide +kernel
theorem dX9_up_4 : decode cX9_up 4 = .ok (.istore_n 1, 1) := by decide +kernel
theorem dX9_up_5 : decode cX9_up 5 = .ok (.aload_n 0, 1) := by decide +kernel
theorem dX9_up_6 : decode cX9_up 6 = .ok (.getfield 355, 3) := by decide +kernel
theorem dX9_up_9 : decode cX9_up 9 = .ok (.iload_n 1, 1) := by decide +kernel
theorem dX9_up_10 : decode cX9_up 10 = .ok (.if_icmp .ne 13, 3) := by decide +kernel
theorem dX9_up_13 : decode cX9_up 13 = .ok (.aload_n 0, 1) := by decide +kernel
theorem dX9_up_14 : decode cX9_up 14 = .ok (.getfield 335, 3) := by decide +kernel
theorem dX9_up_17 : decode cX9_up 17 = .ok (.sipush 200, 3) := by decide +kernel
theorem dX9_up_20 : decode cX9_up 20 = .ok (.if_icmp .ne 5, 3) := by decide +kernel
theorem dX9_up_25 : decode cX9_up 25 = .ok (.iconst 0, 1) := by decide +kernel
theorem dX9_up_26 : decode cX9_up 26 = .ok (.istore_n 2, 1) := by decide +kernel
theorem dX9_up_27 : decode cX9_up 27 = .ok (.iload_n 2, 1) := by decide +kernel
theorem dX9_up_28 : decode cX9_up 28 = .ok (.iload_n 1, 1) := by decide +kernel
theorem dX9_up_29 : decode cX9_up 29 = .ok (.if_icmp .ge 21, 3) := by decide +kernel
theorem dX9_up_50 : decode cX9_up 50 = .ok (.aload_n 0, 1) := by decide +kernel
theorem dX9_up_51 : decode cX9_up 51 = .ok (.invokevirtual 393, 3) := by decide +kernel
theorem dX9_up_54 : decode cX9_up 54 = .ok (.aload_n 0, 1) := by decide +kernel
theorem dX9_up_55 : decode cX9_up 55 = .ok (.invokevirtual 396, 3) := by decide +kernel
theorem dX9_up_58 : decode cX9_up 58 = .ok (.ifCond .lt 5, 3) := by decide +kernel
theorem dX9_up_63 : decode cX9_up 63 = .ok (.aload_n 0, 1) := by decide +kernel
theorem dX9_up_64 : decode cX9_up 64 = .ok (.dup, 1) := by decide +kernel
theorem dX9_up_65 : decode cX9_up 65 = .ok (.getfield 335, 3) := by decide +kernel
theorem dX9_up_68 : decode cX9_up 68 = .ok (.iconst 1, 1) := by decide +kernel
theorem dX9_up_69 : decode cX9_up 69 = .ok (.iadd, 1) := by decide +kernel
theorem dX9_up_70 : decode cX9_up 70 = .ok (.putfield 335, 3) := by decide +kernel
theorem dX9_up_73 : decode cX9_up 73 = .ok (.iconst 0, 1) := by decide +kernel
theorem dX9_up_74 : decode cX9_up 74 = .ok (.istore_n 2, 1) := by decide +kernel
theorem dX9_up_75 : decode cX9_up 75 = .ok (.iload_n 2, 1) := by decide +kernel
theorem dX9_up_76 : decode cX9_up 76 = .ok (.iload_n 1, 1) := by decide +kernel
theorem dX9_up_77 : decode cX9_up 77 = .ok (.if_icmp .ge 72, 3) := by decide +kernel
theorem dX9_up_149 : decode cX9_up 149 = .ok (.aload_n 0, 1) := by decide +kernel
theorem dX9_up_150 : decode cX9_up 150 = .ok (.iconst 1, 1) := by decide +kernel
theorem dX9_up_151 : decode cX9_up 151 = .ok (.putfield 348, 3) := by decide +kernel
theorem dX9_up_154 : decode cX9_up 154 = .ok (.aload_n 0, 1) := by decide +kernel
theorem dX9_up_155 : decode cX9_up 155 = .ok (.iconst 0, 1) := by decide +kernel
theorem dX9_up_156 : decode cX9_up 156 = .ok (.putfield 355, 3) := by decide +kernel
theorem dX9_up_159 : decode cX9_up 159 = .ok (.aload_n 0, 1) := by decide +kernel
theorem dX9_up_160 : decode cX9_up 160 = .ok (.getfield 335, 3) := by decide +kernel
theorem dX9_up_163 : decode cX9_up 163 = .ok (.ireturn, 1) := by decide +kernel
theorem dX9_valley_0 : decode cX9_valley 0 = .ok (.aload_n 0, 1) := by decide +kernel
theorem dX9_valley_1 : decode cX9_valley 1 = .ok (.iconst 0, 1) := by decide +kernel
theorem dX9_valley_2 : decode cX9_valley 2 = .ok (.putfield 158, 3) := by decide +kernel
theorem dX9_valley_5 : decode cX9_valley 5 = .ok (.aload_n 0, 1) := by decide +kernel
theorem dX9_valley_6 : decode cX9_valley 6 = .ok (.iconst (-1), 1) := by decide +kernel
theorem dX9_valley_7 : decode cX9_valley 7 = .ok (.putfield 16, 3) := by decide +kernel
theorem dX9_valley_10 : decode cX9_valley 10 = .ok (.aload_n 0, 1) := by decide +kernel
theorem dX9_valley_11 : decode cX9_valley 11 = .ok (.aload_n 0, 1) := by decide +kernel
theorem dX9_valley_12 : decode cX9_valley 12 = .ok (.getfield 245, 3) := by decide +kernel
theorem dX9_valley_15 : decode cX9_valley 15 = .ok (.putfield 155, 3) := by decide +kernel
theorem dX9_valley_18 : decode cX9_valley 18 = .ok (.iconst 0, 1) := by decide +kernel
theorem dX9_valley_19 : decode cX9_valley 19 = .ok (.istore_n 1, 1) := by decide +kernel
theorem dX9_valley_20 : decode cX9_valley 20 = .ok (.iload_n 1, 1) := by decide +kernel
theorem dX9_valley_21 : decode cX9_valley 21 = .ok (.aload_n 0, 1) := by decide +kernel
theorem dX9_valley_22 : decode cX9_valley 22 = .ok (.getfield 155, 3) := by decide +kernel
theorem dX9_valley_25 : decode cX9_valley 25 = .ok (.if_icmp .ge 21, 3) := by decide +kernel
theorem dX9_valley_46 : decode cX9_valley 46 = .ok (.aload_n 0, 1) := by decide +kernel
theorem dX9_valley_47 : decode cX9_valley 47 = .ok (.iconst 0, 1) := by decide +kernel
theorem dX9_valley_48 : decode cX9_valley 48 = .ok (.putfield 245, 3) := by decide +kernel
theorem dX9_valley_51 : decode cX9_valley 51 = .ok (.aload_n 0, 1) := by decide +kernel
theorem dX9_valley_52 : decode cX9_valley 52 = .ok (.iconst 0, 1) := by decide +kernel
theorem dX9_valley_53 : decode cX9_valley 53 = .ok (.putfield 191, 3) := by decide +kernel
theorem dX9_valley_56 : decode cX9_valley 56 = .ok (.aload_n 0, 1) := by decide +kernel
theorem dX9_valley_57 : decode cX9_valley 57 = .ok (.iconst 1, 1) := by decide +kernel
theorem dX9_valley_58 : decode cX9_valley 58 = .ok (.aload_n 0, 1) := by decide +kernel
theorem dX9_valley_59 : decode cX9_valley 59 = .ok (.getfield 248, 3) := by decide +kernel
theorem dX9_valley_62 : decode cX9_valley 62 = .ok (.isub, 1) := by decide +kernel
theorem dX9_valley_63 : decode cX9_valley 63 = .ok (.putfield 239, 3) := by decide +kernel
theorem dX9_valley_66 : decode cX9_valley 66 = .ok (.aload_n 0, 1) := by decide +kernel
theorem dX9_valley_67 : decode cX9_valley 67 = .ok (.invokevirtual 149, 3) := by decide +kernel
theorem dX9_valley_70 : decode cX9_valley 70 = .ok (.aload_n 0, 1) := by decide +kernel
theorem dX9_valley_71 : decode cX9_valley 71 = .ok (.invokevirtual 233, 3) := by decide +kernel
theorem dX9_valley_74 : decode cX9_valley 74 = .ok (.aload_n 0, 1) := by decide +kernel
theorem dX9_valley_75 : decode cX9_valley 75 = .ok (.invokevirtual 229, 3) := by decide +kernel
theorem dX9_valley_78 : decode cX9_valley 78 = .ok (.ifCond .eq 17, 3) := by decide +kernel
theorem dX9_valley_81 : decode cX9_valley 81 = .ok (.aload_n 0, 1) := by decide +kernel
theorem dX9_valley_82 : decode cX9_valley 82 = .ok (.getfield 201, 3) := by decide +kernel
theorem dX9_valley_85 : decode cX9_valley 85 = .ok (.ifCond .eq 10, 3) := by decide +kernel
theorem dX9_valley_95 : decode cX9_valley 95 = .ok (.aload_n 0, 1) := by decide +kernel
theorem dX9_valley_96 : decode cX9_valley 96 = .ok (.invokevirtual 229, 3) := by decide +kernel
theorem dX9_valley_99 : decode cX9_valley 99 = .ok (.ifCond .ne 5, 3) := by decide +kernel
theorem dX9_valley_104 : decode cX9_valley 104 = .ok (.aload_n 0, 1) := by decide +kernel
theorem dX9_valley_105 : decode cX9_valley 105 = .ok (.aload_n 0, 1) := by decide +kernel
theorem dX9_valley_106 : decode cX9_valley 106 = .ok (.getfield 239, 3) := by decide +kernel
theorem dX9_valley_109 : decode cX9_valley 109 = .ok (.putfield 248, 3) := by decide +kernel
theorem dX9_valley_112 : decode cX9_valley 112 = .ok (.aload_n 0, 1) := by decide +kernel
theorem dX9_valley_113 : decode cX9_valley 113 = .ok (.iconst 0, 1) := by decide +kernel
theorem dX9_valley_114 : decode cX9_valley 114 = .ok (.putfield 254, 3) := by decide +kernel
theorem dX9_valley_117 : decode cX9_valley 117 = .ok (.aload_n 0, 1) := by decide +kernel
theorem dX9_valley_118 : decode cX9_valley 118 = .ok (.invokevirtual 152, 3) := by decide +kernel
theorem dX9_valley_121 : decode cX9_valley 121 = .ok (.iconst 0, 1) := by decide +kernel
theorem dX9_valley_122 : decode cX9_valley 122 = .ok (.istore_n 1, 1) := by decide +kernel
theorem dX9_valley_123 : decode cX9_valley 123 = .ok (.iload_n 1, 1) := by decide +kernel
theorem dX9_valley_124 : decode cX9_valley 124 = .ok (.iconst 3, 1) := by decide +kernel
theorem dX9_valley_125 : decode cX9_valley 125 = .ok (.if_icmp .ge 16, 3) := by decide +kernel
theorem dX9_valley_128 : decode cX9_valley 128 = .ok (.aload_n 0, 1) := by decide +kernel
theorem dX9_valley_129 : decode cX9_valley 129 = .ok (.getfield 131, 3) := by decide +kernel
theorem dX9_valley_132 : decode cX9_valley 132 = .ok (.iload_n 1, 1) := by decide +kernel
theorem dX9_valley_133 : decode cX9_valley 133 = .ok (.iconst (-1), 1) := by decide +kernel
theorem dX9_valley_134 : decode cX9_valley 134 = .ok (.iastore, 1) := by decide +kernel
theorem dX9_valley_135 : decode cX9_valley 135 = .ok (.iinc 1 1, 3) := by decide +kernel
theorem dX9_valley_138 : decode cX9_valley 138 = .ok (.goto (-15), 3) := by decide +kernel
theorem dX9_valley_141 : decode cX9_valley 141 = .ok (.aload_n 0, 1) := by decide +kernel
theorem dX9_valley_142 : decode cX9_valley 142 = .ok (.getfield 20, 3) := by decide +kernel
theorem dX9_valley_145 : decode cX9_valley 145 = .ok (.aload_n 0, 1) := by decide +kernel
theorem dX9_valley_146 : decode cX9_valley 146 = .ok (.getfield 248, 3) := by decide +kernel
theorem dX9_valley_149 : decode cX9_valley 149 = .ok (.iaload, 1) := by decide +kernel
theorem dX9_valley_150 : decode cX9_valley 150 = .ok (.ireturn, 1) := by decide +kernel
theorem dX9_worthOfRow_0 : decode cX9_worthOfRow 0 = .ok (.aload_n 0, 1) := by decide +kernel
theorem dX9_worthOfRow_1 : decode cX9_worthOfRow 1 = .ok (.invokevirtual 381, 3) := by decide +kernel
theorem dX9_worthOfRow_4 : decode cX9_worthOfRow 4 = .ok (.istore_n 1, 1) := by decide +kernel
theorem dX9_worthOfRow_5 : decode cX9_worthOfRow 5 = .ok (.iconst 0, 1) := by decide +kernel
theorem dX9_worthOfRow_6 : decode cX9_worthOfRow 6 = .ok (.istore_n 2, 1) := by decide +kernel
theorem dX9_worthOfRow_7 : decode cX9_worthOfRow 7 = .ok (.iconst 0, 1) := by decide +kernel
theorem dX9_worthOfRow_8 : decode cX9_worthOfRow 8 = .ok (.istore_n 3, 1) := by decide +kernel
theorem dX9_worthOfRow_9 : decode cX9_worthOfRow 9 = .ok (.iload_n 3, 1) := by decide +kernel
theorem dX9_worthOfRow_10 : decode cX9_worthOfRow 10 = .ok (.iconst 1, 1) := by decide +kernel
theorem dX9_worthOfRow_11 : decode cX9_worthOfRow 11 = .ok (.iadd, 1) := by decide +kernel
theorem dX9_worthOfRow_12 : decode cX9_worthOfRow 12 = .ok (.iload_n 1, 1) := by decide +kernel
theorem dX9_worthOfRow_13 : decode cX9_worthOfRow 13 = .ok (.if_icmp .ge 30, 3) := by decide +kernel
theorem dX9_worthOfRow_43 : decode cX9_worthOfRow 43 = .ok (.aload_n 0, 1) := by decide +kernel
theorem dX9_worthOfRow_44 : decode cX9_worthOfRow 44 = .ok (.invokevirtual 384, 3) := by decide +kernel
theorem dX9_worthOfRow_47 : decode cX9_worthOfRow 47 = .ok (.ifCond .eq 26, 3) := by decide +kernel
theorem dX9_worthOfRow_73 : decode cX9_worthOfRow 73 = .ok (.iload_n 2, 1) := by decide +kernel
theorem dX9_worthOfRow_74 : decode cX9_worthOfRow 74 = .ok (.ireturn, 1) := by decide +kernel
