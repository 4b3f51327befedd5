theorem dX8_let_0 : decode cX8_let 0 = .ok (.aload_n 0, 1) := by decide +kernel
theorem dX8_let_1 : decode cX8_let 1 = .ok (.iload_n 1, 1) := by decide +kernel
theorem dX8_let_2 : decode cX8_let 2 = .ok (.iload_n 2, 1) := by decide +kernel
theorem dX8_let_3 : decode cX8_let 3 = .ok (.invokevirtual 134, 3) := by decide +kernel
theorem dX8_let_6 : decode cX8_let 6 = .ok (.ifCond .eq 16, 3) := by decide +kernel
theorem dX8_let_22 : decode cX8_let 22 = .ok (.iconst (-1), 1) := by decide +kernel
theorem dX8_let_23 : decode cX8_let 23 = .ok (.ireturn, 1) := by decide +kernel
theorem dX8_lies_0 : decode cX8_lies 0 = .ok (.aload_n 0, 1) := by decide +kernel
theorem dX8_lies_1 : decode cX8_lies 1 = .ok (.getfield 56, 3) := by decide +kernel
theorem dX8_lies_4 : decode cX8_lies 4 = .ok (.iload_n 1, 1) := by decide +kernel
theorem dX8_lies_5 : decode cX8_lies 5 = .ok (.invokevirtual 266, 3) := by decide +kernel
theorem dX8_lies_8 : decode cX8_lies 8 = .ok (.ireturn, 1) := by decide +kernel
theorem dX8_lift_0 : decode cX8_lift 0 = .ok (.aload_n 0, 1) := by decide +kernel
theorem dX8_lift_1 : decode cX8_lift 1 = .ok (.invokevirtual 222, 3) := by decide +kernel
theorem dX8_lift_4 : decode cX8_lift 4 = .ok (.iconst 0, 1) := by decide +kernel
theorem dX8_lift_5 : decode cX8_lift 5 = .ok (.istore_n 1, 1) := by decide +kernel
theorem dX8_lift_6 : decode cX8_lift 6 = .ok (.iload_n 1, 1) := by decide +kernel
theorem dX8_lift_7 : decode cX8_lift 7 = .ok (.aload_n 0, 1) := by decide +kernel
theorem dX8_lift_8 : decode cX8_lift 8 = .ok (.getfield 27, 3) := by decide +kernel
theorem dX8_lift_11 : decode cX8_lift 11 = .ok (.getfield 108, 3) := by decide +kernel
theorem dX8_lift_14 : decode cX8_lift 14 = .ok (.if_icmp .ge 67, 3) := by decide +kernel
theorem dX8_lift_81 : decode cX8_lift 81 = .ok (.aload_n 0, 1) := by decide +kernel
theorem dX8_lift_82 : decode cX8_lift 82 = .ok (.getfield 62, 3) := by decide +kernel
theorem dX8_lift_85 : decode cX8_lift 85 = .ok (.aload_n 0, 1) := by decide +kernel
theorem dX8_lift_86 : decode cX8_lift 86 = .ok (.getfield 56, 3) := by decide +kernel
theorem dX8_lift_89 : decode cX8_lift 89 = .ok (.invokevirtual 227, 3) := by decide +kernel
theorem dX8_lift_92 : decode cX8_lift 92 = .ok (.ifCond .eq 13, 3) := by decide +kernel
theorem dX8_lift_95 : decode cX8_lift 95 = .ok (.aload_n 0, 1) := by decide +kernel
theorem dX8_lift_96 : decode cX8_lift 96 = .ok (.getfield 62, 3) := by decide +kernel
theorem dX8_lift_99 : decode cX8_lift 99 = .ok (.getfield 234, 3) := by decide +kernel
theorem dX8_lift_102 : decode cX8_lift 102 = .ok (.goto 4, 3) := by decide +kernel
theorem dX8_lift_106 : decode cX8_lift 106 = .ok (.ireturn, 1) := by decide +kernel
theorem dX8_mays_0 : decode cX8_mays 0 = .ok (.aload_n 0, 1) := by decide +kernel
theorem dX8_mays_1 : decode cX8_mays 1 = .ok (.getfield 56, 3) := by decide +kernel
theorem dX8_mays_4 : decode cX8_mays 4 = .ok (.iconst (-1), 1) := by decide +kernel
theorem dX8_mays_5 : decode cX8_mays 5 = .ok (.putfield 77, 3) := by decide +kernel
theorem dX8_mays_8 : decode cX8_mays 8 = .ok (.aload_n 0, 1) := by decide +kernel
theorem dX8_mays_9 : decode cX8_mays 9 = .ok (.invokevirtual 164, 3) := by decide +kernel
theorem dX8_mays_12 : decode cX8_mays 12 = .ok (.bipush 7, 2) := by decide +kernel
theorem dX8_mays_14 : decode cX8_mays 14 = .ok (.if_icmp .le 6, 3) := by decide +kernel
theorem dX8_mays_20 : decode cX8_mays 20 = .ok (.aload_n 0, 1) := by decide +kernel
theorem dX8_mays_21 : decode cX8_mays 21 = .ok (.invokevirtual 222, 3) := by decide +kernel
theorem dX8_mays_24 : decode cX8_mays 24 = .ok (.aload_n 0, 1) := by decide +kernel
theorem dX8_mays_25 : decode cX8_mays 25 = .ok (.getfield 69, 3) := by decide +kernel
theorem dX8_mays_28 : decode cX8_mays 28 = .ok (.aload_n 0, 1) := by decide +kernel
theorem dX8_mays_29 : decode cX8_mays 29 = .ok (.getfield 62, 3) := by decide +kernel
theorem dX8_mays_32 : decode cX8_mays 32 = .ok (.invokevirtual 251, 3) := by decide +kernel
theorem dX8_mays_35 : decode cX8_mays 35 = .ok (.aload_n 0, 1) := by decide +kernel
theorem dX8_mays_36 : decode cX8_mays 36 = .ok (.getfield 69, 3) := by decide +kernel
theorem dX8_mays_39 : decode cX8_mays 39 = .ok (.aload_n 0, 1) := by decide +kernel
theorem dX8_mays_40 : decode cX8_mays 40 = .ok (.getfield 56, 3) := by decide +kernel
theorem dX8_mays_43 : decode cX8_mays 43 = .ok (.invokevirtual 255, 3) := by decide +kernel
theorem dX8_mays_46 : decode cX8_mays 46 = .ok (.ireturn, 1) := by decide +kernel
theorem dX8_nearest_0 : decode cX8_nearest 0 = .ok (.aload_n 0, 1) := by decide +kernel
theorem dX8_nearest_1 : decode cX8_nearest 1 = .ok (.invokevirtual 222, 3) := by decide +kernel
theorem dX8_nearest_4 : decode cX8_nearest 4 = .ok (.iconst 0, 1) := by decide +kernel
theorem dX8_nearest_5 : decode cX8_nearest 5 = .ok (.istore_n 1, 1) := by decide +kernel
theorem dX8_nearest_6 : decode cX8_nearest 6 = .ok (.iload_n 1, 1) := by decide +kernel
theorem dX8_nearest_7 : decode cX8_nearest 7 = .ok (.aload_n 0, 1) := by decide +kernel
theorem dX8_nearest_8 : decode cX8_nearest 8 = .ok (.getfield 27, 3) := by decide +kernel
theorem dX8_nearest_11 : decode cX8_nearest 11 = .ok (.getfield 108, 3) := by decide +kernel
theorem dX8_nearest_14 : decode cX8_nearest 14 = .ok (.if_icmp .ge 48, 3) := by decide +kernel
theorem dX8_nearest_62 : decode cX8_nearest 62 = .ok (.aload_n 0, 1) := by decide +kernel
theorem dX8_nearest_63 : decode cX8_nearest 63 = .ok (.getfield 62, 3) := by decide +kernel
theorem dX8_nearest_66 : decode cX8_nearest 66 = .ok (.aload_n 0, 1) := by decide +kernel
theorem dX8_nearest_67 : decode cX8_nearest 67 = .ok (.getfield 56, 3) := by decide +kernel
theorem dX8_nearest_70 : decode cX8_nearest 70 = .ok (.invokevirtual 227, 3) := by decide +kernel
theorem dX8_nearest_73 : decode cX8_nearest 73 = .ok (.ifCond .eq 13, 3) := by decide +kernel
theorem dX8_nearest_76 : decode cX8_nearest 76 = .ok (.aload_n 0, 1) := by decide +kernel
theorem dX8_nearest_77 : decode cX8_nearest 77 = .ok (.getfield 62, 3) := by decide +kernel
theorem dX8_nearest_80 : decode cX8_nearest 80 = .ok (.getfield 234, 3) := by decide +kernel
theorem dX8_nearest_83 : decode cX8_nearest 83 = .ok (.goto 4, 3) := by decide +kernel
theorem dX8_nearest_87 : decode cX8_nearest 87 = .ok (.ireturn, 1) := by decide +kernel
theorem dX8_putOnTape_0 : decode cX8_putOnTape 0 = .ok (.bipush 24, 2) := by decide +kernel
theorem dX8_putOnTape_2 : decode cX8_putOnTape 2 = .ok (.istore_n 2, 1) := by decide +kernel
theorem dX8_putOnTape_3 : decode cX8_putOnTape 3 = .ok (.iload_n 2, 1) := by decide +kernel
theorem dX8_putOnTape_4 : decode cX8_putOnTape 4 = .ok (.ifCond .lt 42, 3) := by decide +kernel
theorem dX8_putOnTape_7 : decode cX8_putOnTape 7 = .ok (.aload_n 0, 1) := by decide +kernel
theorem dX8_putOnTape_8 : decode cX8_putOnTape 8 = .ok (.getfield 13, 3) := by decide +kernel
theorem dX8_putOnTape_11 : decode cX8_putOnTape 11 = .ok (.sipush 1600, 3) := by decide +kernel
theorem dX8_putOnTape_14 : decode cX8_putOnTape 14 = .ok (.if_icmp .ge 26, 3) := by decide +kernel
theorem dX8_putOnTape_17 : decode cX8_putOnTape 17 = .ok (.aload_n 0, 1) := by decide +kernel
theorem dX8_putOnTape_18 : decode cX8_putOnTape 18 = .ok (.getfield 9, 3) := by decide +kernel
theorem dX8_putOnTape_21 : decode cX8_putOnTape 21 = .ok (.aload_n 0, 1) := by decide +kernel
theorem dX8_putOnTape_22 : decode cX8_putOnTape 22 = .ok (.getfield 13, 3) := by decide +kernel
theorem dX8_putOnTape_25 : decode cX8_putOnTape 25 = .ok (.iload_n 1, 1) := by decide +kernel
theorem dX8_putOnTape_26 : decode cX8_putOnTape 26 = .ok (.iload_n 2, 1) := by decide +kernel
theorem dX8_putOnTape_27 : decode cX8_putOnTape 27 = .ok (.iushr, 1) := by decide +kernel
theorem dX8_putOnTape_28 : decode cX8_putOnTape 28 = .ok (.i2b, 1) := by decide +kernel
theorem dX8_putOnTape_29 : decode cX8_putOnTape 29 = .ok (.bastore, 1) := by decide +kernel
theorem dX8_putOnTape_30 : decode cX8_putOnTape 30 = .ok (.aload_n 0, 1) := by decide +kernel
theorem dX8_putOnTape_31 : decode cX8_putOnTape 31 = .ok (.dup, 1) := by decide +kernel
theorem dX8_putOnTape_32 : decode cX8_putOnTape 32 = .ok (.getfield 13, 3) := by decide +kernel
theorem dX8_putOnTape_35 : decode cX8_putOnTape 35 = .ok (.iconst 1, 1) := by decide +kernel
theorem dX8_putOnTape_36 : decode cX8_putOnTape 36 = .ok (.iadd, 1) := by decide +kernel
theorem dX8_putOnTape_37 : decode cX8_putOnTape 37 = .ok (.putfield 13, 3) := by decide +kernel
theorem dX8_putOnTape_40 : decode cX8_putOnTape 40 = .ok (.iinc 2 (-8), 3) := by decide +kernel
theorem dX8_putOnTape_43 : decode cX8_putOnTape 43 = .ok (.goto (-40), 3) := by decide +kernel
theorem dX8_putOnTape_46 : decode cX8_putOnTape 46 = .ok (.return_, 1) := by decide +kernel
theorem dX8_ruled_0 : decode cX8_ruled 0 = .ok (.aload_n 0, 1) := by decide +kernel
theorem dX8_ruled_1 : decode cX8_ruled 1 = .ok (.getfield 27, 3) := by decide +kernel
theorem dX8_ruled_4 : decode cX8_ruled 4 = .ok (.getfield 108, 3) := by decide +kernel
theorem dX8_ruled_7 : decode cX8_ruled 7 = .ok (.istore_n 3, 1) := by decide +kernel
theorem dX8_ruled_8 : decode cX8_ruled 8 = .ok (.aload_n 0, 1) := by decide +kernel
theorem dX8_ruled_9 : decode cX8_ruled 9 = .ok (.getfield 34, 3) := by decide +kernel
theorem dX8_ruled_12 : decode cX8_ruled 12 = .ok (.getfield 142, 3) := by decide +kernel
theorem dX8_ruled_15 : decode cX8_ruled 15 = .ok (.ifCond .ne 36, 3) := by decide +kernel
theorem dX8_ruled_18 : decode cX8_ruled 18 = .ok (.iload_n 3, 1) := by decide +kernel
theorem dX8_ruled_19 : decode cX8_ruled 19 = .ok (.iconst 3, 1) := by decide +kernel
theorem dX8_ruled_20 : decode cX8_ruled 20 = .ok (.if_icmp .lt 31, 3) := by decide +kernel
theorem dX8_ruled_51 : decode cX8_ruled 51 = .ok (.iconst (-1), 1) := by decide +kernel
theorem dX8_ruled_52 : decode cX8_ruled 52 = .ok (.ireturn, 1) := by decide +kernel
theorem dX8_seed_0 : decode cX8_seed 0 = .ok (.aload_n 0, 1) := by decide +kernel
theorem dX8_seed_1 : decode cX8_seed 1 = .ok (.getfield 34, 3) := by decide +kernel
theorem dX8_seed_4 : decode cX8_seed 4 = .ok (.getfield 243, 3) := by decide +kernel
theorem dX8_seed_7 : decode cX8_seed 7 = .ok (.istore_n 2, 1) := by decide +kernel
theorem dX8_seed_8 : decode cX8_seed 8 = .ok (.aload_n 0, 1) := by decide +kernel
theorem dX8_seed_9 : decode cX8_seed 9 = .ok (.getfield 34, 3) := by decide +kernel
theorem dX8_seed_12 : decode cX8_seed 12 = .ok (.iload_n 1, 1) := by decide +kernel
theorem dX8_seed_13 : decode cX8_seed 13 = .ok (.putfield 243, 3) := by decide +kernel
theorem dX8_seed_16 : decode cX8_seed 16 = .ok (.iload_n 2, 1) := by decide +kernel
theorem dX8_seed_17 : decode cX8_seed 17 = .ok (.ireturn, 1) := by decide +kernel
theorem dX8_settleLets_0 : decode cX8_settleLets 0 = .ok (.aload_n 0, 1) := by decide +kernel
theorem dX8_settleLets_1 : decode cX8_settleLets 1 = .ok (.getfield 73, 3) := by decide +kernel
theorem dX8_settleLets_4 : decode cX8_settleLets 4 = .ok (.iconst 0, 1) := by decide +kernel
theorem dX8_settleLets_5 : decode cX8_settleLets 5 = .ok (.invokestatic 111, 3) := by decide +kernel
theorem dX8_settleLets_8 : decode cX8_settleLets 8 = .ok (.iconst 0, 1) := by decide +kernel
theorem dX8_settleLets_9 : decode cX8_settleLets 9 = .ok (.istore_n 1, 1) := by decide +kernel
theorem dX8_settleLets_10 : decode cX8_settleLets 10 = .ok (.iload_n 1, 1) := by decide +kernel
theorem dX8_settleLets_11 : decode cX8_settleLets 11 = .ok (.aload_n 0, 1) := by decide +kernel
theorem dX8_settleLets_12 : decode cX8_settleLets 12 = .ok (.getfield 27, 3) := by decide +kernel
theorem dX8_settleLets_15 : decode cX8_settleLets 15 = .ok (.getfield 108, 3) := by decide +kernel
theorem dX8_settleLets_18 : decode cX8_settleLets 18 = .ok (.if_icmp .ge 76, 3) := by decide +kernel
theorem dX8_settleLets_94 : decode cX8_settleLets 94 = .ok (.return_, 1) := by decide +kernel
theorem dX8_shut_0 : decode cX8_shut 0 = .ok (.aload_n 0, 1) := by decide +kernel
theorem dX8_shut_1 : decode cX8_shut 1 = .ok (.invokevirtual 148, 3) := by decide +kernel
theorem dX8_shut_4 : decode cX8_shut 4 = .ok (.istore_n 1, 1) := by decide +kernel
theorem dX8_shut_5 : decode cX8_shut 5 = .ok (.aload_n 0, 1) := by decide +kernel
theorem dX8_shut_6 : decode cX8_shut 6 = .ok (.invokevirtual 164, 3) := by decide +kernel
theorem dX8_shut_9 : decode cX8_shut 9 = .ok (.istore_n 2, 1) := by decide +kernel
theorem dX8_shut_10 : decode cX8_shut 10 = .ok (.aload_n 0, 1) := by decide +kernel
theorem dX8_shut_11 : decode cX8_shut 11 = .ok (.getfield 27, 3) := by decide +kernel
theorem dX8_shut_14 : decode cX8_shut 14 = .ok (.getfield 186, 3) := by decide +kernel
theorem dX8_shut_17 : decode cX8_shut 17 = .ok (.ifCond .ne 8, 3) := by decide +kernel
theorem dX8_shut_20 : decode cX8_shut 20 = .ok (.iload_n 2, 1) := by decide +kernel
theorem dX8_shut_21 : decode cX8_shut 21 = .ok (.iconst 3, 1) := by decide +kernel
theorem dX8_shut_22 : decode cX8_shut 22 = .ok (.if_icmp .ge 17, 3) := by decide +kernel
theorem dX8_shut_25 : decode cX8_shut 25 = .ok (.iconst 1, 1) := by decide +kernel
theorem dX8_shut_26 : decode cX8_shut 26 = .ok (.iload_n 2, 1) := by decide +kernel
theorem dX8_shut_27 : decode cX8_shut 27 = .ok (.iconst 1, 1) := by decide +kernel
theorem dX8_shut_28 : decode cX8_shut 28 = .ok (.isub, 1) := by decide +kernel
theorem dX8_shut_29 : decode cX8_shut 29 = .ok (.iconst 0, 1) := by decide +kernel
theorem dX8_shut_30 : decode cX8_shut 30 = .ok (.invokestatic 240, 3) := by decide +kernel
theorem dX8_shut_33 : decode cX8_shut 33 = .ok (.invokestatic 206, 3) := by decide +kernel
theorem dX8_shut_36 : decode cX8_shut 36 = .ok (.goto 4, 3) := by decide +kernel
theorem dX8_shut_40 : decode cX8_shut 40 = .ok (.istore_n 3, 1) := by decide +kernel
theorem dX8_shut_41 : decode cX8_shut 41 = .ok (.iconst 0, 1) := by decide +kernel
theorem dX8_shut_42 : decode cX8_shut 42 = .ok (.istore 4, 2) := by decide +kernel
theorem dX8_shut_44 : decode cX8_shut 44 = .ok (.iconst 0, 1) := by decide +kernel
theorem dX8_shut_45 : decode cX8_shut 45 = .ok (.istore 5, 2) := by decide +kernel
theorem dX8_shut_47 : decode cX8_shut 47 = .ok (.iload 5, 2) := by decide +kernel
theorem dX8_shut_49 : decode cX8_shut 49 = .ok (.iload_n 2, 1) := by decide +kernel
theorem dX8_shut_50 : decode cX8_shut 50 = .ok (.if_icmp .ge 26, 3) := by decide +kernel
theorem dX8_shut_76 : decode cX8_shut 76 = .ok (.iload_n 1, 1) := by decide +kernel
theorem dX8_shut_77 : decode cX8_shut 77 = .ok (.aload_n 0, 1) := by decide +kernel
theorem dX8_shut_78 : decode cX8_shut 78 = .ok (.getfield 27, 3) := by decide +kernel
theorem dX8_shut_81 : decode cX8_shut 81 = .ok (.iload 4, 2) := by decide +kernel
theorem dX8_shut_83 : decode cX8_shut 83 = .ok (.invokevirtual 219, 3) := by decide +kernel
theorem dX8_shut_86 : decode cX8_shut 86 = .ok (.iconst (-1), 1) := by decide +kernel
theorem dX8_shut_87 : decode cX8_shut 87 = .ok (.ixor, 1) := by decide +kernel
theorem dX8_shut_88 : decode cX8_shut 88 = .ok (.iand, 1) := by decide +kernel
theorem dX8_shut_89 : decode cX8_shut 89 = .ok (.istore 5, 2) := by decide +kernel
theorem dX8_shut_91 : decode cX8_shut 91 = .ok (.iconst 0, 1) := by decide +kernel
theorem dX8_shut_92 : decode cX8_shut 92 = .ok (.istore 6, 2) := by decide +kernel
theorem dX8_shut_94 : decode cX8_shut 94 = .ok (.iload 6, 2) := by decide +kernel
theorem dX8_shut_96 : decode cX8_shut 96 = .ok (.aload_n 0, 1) := by decide +kernel
theorem dX8_shut_97 : decode cX8_shut 97 = .ok (.getfield 27, 3) := by decide +kernel
theorem dX8_shut_100 : decode cX8_shut 100 = .ok (.getfield 108, 3) := by decide +kernel
theorem dX8_shut_103 : decode cX8_shut 103 = .ok (.if_icmp .ge 34, 3) := by decide +kernel
theorem dX8_shut_137 : decode cX8_shut 137 = .ok (.iload 5, 2) := by decide +kernel
theorem dX8_shut_139 : decode cX8_shut 139 = .ok (.iload_n 1, 1) := by decide +kernel
theorem dX8_shut_140 : decode cX8_shut 140 = .ok (.iand, 1) := by decide +kernel
theorem dX8_shut_141 : decode cX8_shut 141 = .ok (.ireturn, 1) := by decide +kernel
theorem dX8_since_0 : decode cX8_since 0 = .ok (.aload_n 0, 1) := by decide +kernel
theorem dX8_since_1 : decode cX8_since 1 = .ok (.iload_n 1, 1) := by decide +kernel
theorem dX8_since_2 : decode cX8_since 2 = .ok (.iload_n 2, 1) := by decide +kernel
theorem dX8_since_3 : decode cX8_since 3 = .ok (.invokevirtual 134, 3) := by decide +kernel
theorem dX8_since_6 : decode cX8_since 6 = .ok (.ifCond .eq 15, 3) := by decide +kernel
theorem dX8_since_21 : decode cX8_since 21 = .ok (.iconst (-1), 1) := by decide +kernel
theorem dX8_since_22 : decode cX8_since 22 = .ok (.ireturn, 1) := by decide +kernel
theorem dX8_size_0 : decode cX8_size 0 = .ok (.aload_n 0, 1) := by decide +kernel
theorem dX8_size_1 : decode cX8_size 1 = .ok (.invokevirtual 148, 3) := by decide +kernel
theorem dX8_size_4 : decode cX8_size 4 = .ok (.invokestatic 152, 3) := by decide +kernel
theorem dX8_size_7 : decode cX8_size 7 = .ok (.ireturn, 1) := by decide +kernel
theorem dX8_stands_0 : decode cX8_stands 0 = .ok (.aload_n 0, 1) := by decide +kernel
theorem dX8_stands_1 : decode cX8_stands 1 = .ok (.getfield 34, 3) := by decide +kernel
theorem dX8_stands_4 : decode cX8_stands 4 = .ok (.getfield 203, 3) := by decide +kernel
theorem dX8_stands_7 : decode cX8_stands 7 = .ok (.iload_n 1, 1) := by decide +kernel
theorem dX8_stands_8 : decode cX8_stands 8 = .ok (.invokevirtual 266, 3) := by decide +kernel
theorem dX8_stands_11 : decode cX8_stands 11 = .ok (.ireturn, 1) := by decide +kernel
theorem dX8_sure_0 : decode cX8_sure 0 = .ok (.aload_n 0, 1) := by decide +kernel
theorem dX8_sure_1 : decode cX8_sure 1 = .ok (.iload_n 1, 1) := by decide +kernel
theorem dX8_sure_2 : decode cX8_sure 2 = .ok (.invokevirtual 145, 3) := by decide +kernel
theorem dX8_sure_5 : decode cX8_sure 5 = .ok (.ifCond .ne 5, 3) := by decide +kernel
theorem dX8_sure_8 : decode cX8_sure 8 = .ok (.iconst (-1), 1) := by decide +kernel
theorem dX8_sure_9 : decode cX8_sure 9 = .ok (.ireturn, 1) := by decide +kernel
theorem dX8_take_0 : decode cX8_take 0 = .ok (.aload_n 0, 1) := by decide +kernel
theorem dX8_take_1 : decode cX8_take 1 = .ok (.getfield 56, 3) := by decide +kernel
theorem dX8_take_4 : decode cX8_take 4 = .ok (.getfield 77, 3) := by decide +kernel
theorem dX8_take_7 : decode cX8_take 7 = .ok (.iconst (-1), 1) := by decide +kernel
theorem dX8_take_8 : decode cX8_take 8 = .ok (.if_icmp .ne 5, 3) := by decide +kernel
theorem dX8_take_11 : decode cX8_take 11 = .ok (.iconst (-1), 1) := by decide +kernel
theorem dX8_take_12 : decode cX8_take 12 = .ok (.ireturn, 1) := by decide +kernel
theorem dX8_tell_0 : decode cX8_tell 0 = .ok (.aload_n 0, 1) := by decide +kernel
theorem dX8_tell_1 : decode cX8_tell 1 = .ok (.iload_n 1, 1) := by decide +kernel
theorem dX8_tell_2 : decode cX8_tell 2 = .ok (.invokevirtual 145, 3) := by decide +kernel
theorem dX8_tell_5 : decode cX8_tell 5 = .ok (.ifCond .eq 14, 3) := by decide +kernel
theorem dX8_tell_19 : decode cX8_tell 19 = .ok (.iconst (-1), 1) := by decide +kernel
theorem dX8_tell_20 : decode cX8_tell 20 = .ok (.ireturn, 1) := by decide +kernel
theorem dX8_unlawfulPlace_0 : decode cX8_unlawfulPlace 0 = .ok (.iconst 0, 1) := by decide +kernel
theorem dX8_unlawfulPlace_1 : decode cX8_unlawfulPlace 1 = .ok (.istore_n 1, 1) := by decide +kernel
theorem dX8_unlawfulPlace_2 : decode cX8_unlawfulPlace 2 = .ok (.iload_n 1, 1) := by decide +kernel
theorem dX8_unlawfulPlace_3 : decode cX8_unlawfulPlace 3 = .ok (.aload_n 0, 1) := by decide +kernel
theorem dX8_unlawfulPlace_4 : decode cX8_unlawfulPlace 4 = .ok (.getfield 52, 3) := by decide +kernel
theorem dX8_unlawfulPlace_7 : decode cX8_unlawfulPlace 7 = .ok (.getfield 77, 3) := by decide +kernel
theorem dX8_unlawfulPlace_10 : decode cX8_unlawfulPlace 10 = .ok (.if_icmp .ge 76, 3) := by decide +kernel
theorem dX8_unlawfulPlace_86 : decode cX8_unlawfulPlace 86 = .ok (.iconst (-1), 1) := by decide +kernel
theorem dX8_unlawfulPlace_87 : decode cX8_unlawfulPlace 87 = .ok (.ireturn, 1) := by decide +kernel
theorem dX8_untell_0 : decode cX8_untell 0 = .ok (.aload_n 0, 1) := by decide +kernel
theorem dX8_untell_1 : decode cX8_untell 1 = .ok (.getfield 45, 3) := by decide +kernel
theorem dX8_untell_4 : decode cX8_untell 4 = .ok (.iload_n 1, 1) := by decide +kernel
theorem dX8_untell_5 : decode cX8_untell 5 = .ok (.invokevirtual 280, 3) := by decide +kernel
theorem dX8_untell_8 : decode cX8_untell 8 = .ok (.ireturn, 1) := by decide +kernel
theorem dX8_up_0 : decode cX8_up 0 = .ok (.aload_n 0, 1) := by decide +kernel
theorem dX8_up_1 : decode cX8_up 1 = .ok (.getfield 52, 3) := by decide +kernel
theorem dX8_up_4 : decode cX8_up 4 = .ok (.getfield 77, 3) := by decide +kernel
theorem dX8_up_7 : decode cX8_up 7 = .ok (.aload_n 0, 1) := by decide +kernel
theorem dX8_up_8 : decode cX8_up 8 = .ok (.invokevirtual 164, 3) := by decide +kernel
theorem dX8_up_11 : decode cX8_up 11 = .ok (.if_icmp .ne 24, 3) := by decide +kernel
theorem dX8_up_14 : decode cX8_up 14 = .ok (.aload_n 0, 1) := by decide +kernel
theorem dX8_up_15 : decode cX8_up 15 = .ok (.getfield 34, 3) := by decide +kernel
theorem dX8_up_18 : decode cX8_up 18 = .ok (.getfield 121, 3) := by decide +kernel
theorem dX8_up_21 : decode cX8_up 21 = .ok (.sipush 200, 3) := by decide +kernel
theorem dX8_up_24 : decode cX8_up 24 = .ok (.if_icmp .ge 11, 3) := by decide +kernel
theorem dX8_up_27 : decode cX8_up 27 = .ok (.aload_n 0, 1) := by decide +kernel
theorem dX8_up_28 : decode cX8_up 28 = .ok (.invokevirtual 166, 3) := by decide +kernel
theorem dX8_up_31 : decode cX8_up 31 = .ok (.iconst (-1), 1) := by decide +kernel
theorem dX8_up_32 : decode cX8_up 32 = .ok (.if_icmp .eq 5, 3) := by decide +kernel
theorem dX8_up_37 : decode cX8_up 37 = .ok (.aload_n 0, 1) := by decide +kernel
theorem dX8_up_38 : decode cX8_up 38 = .ok (.getfield 34, 3) := by decide +kernel
theorem dX8_up_41 : decode cX8_up 41 = .ok (.dup, 1) := by decide +kernel
theorem dX8_up_42 : decode cX8_up 42 = .ok (.getfield 121, 3) := by decide +kernel
theorem dX8_up_45 : decode cX8_up 45 = .ok (.iconst 1, 1) := by decide +kernel
theorem dX8_up_46 : decode cX8_up 46 = .ok (.iadd, 1) := by decide +kernel
theorem dX8_up_47 : decode cX8_up 47 = .ok (.putfield 121, 3) := by decide +kernel
theorem dX8_up_50 : decode cX8_up 50 = .ok (.iconst 0, 1) := by decide +kernel
theorem dX8_up_51 : decode cX8_up 51 = .ok (.istore_n 1, 1) := by decide +kernel
theorem dX8_up_52 : decode cX8_up 52 = .ok (.iload_n 1, 1) := by decide +kernel
theorem dX8_up_53 : decode cX8_up 53 = .ok (.aload_n 0, 1) := by decide +kernel
theorem dX8_up_54 : decode cX8_up 54 = .ok (.getfield 52, 3) := by decide +kernel
theorem dX8_up_57 : decode cX8_up 57 = .ok (.getfield 77, 3) := by decide +kernel
theorem dX8_up_60 : decode cX8_up 60 = .ok (.if_icmp .ge 45, 3) := by decide +kernel
theorem dX8_up_105 : decode cX8_up 105 = .ok (.aload_n 0, 1) := by decide +kernel
theorem dX8_up_106 : decode cX8_up 106 = .ok (.getfield 34, 3) := by decide +kernel
theorem dX8_up_109 : decode cX8_up 109 = .ok (.getfield 203, 3) := by decide +kernel
theorem dX8_up_112 : decode cX8_up 112 = .ok (.aload_n 0, 1) := by decide +kernel
theorem dX8_up_113 : decode cX8_up 113 = .ok (.getfield 52, 3) := by decide +kernel
theorem dX8_up_116 : decode cX8_up 116 = .ok (.invokevirtual 269, 3) := by decide +kernel
theorem dX8_up_119 : decode cX8_up 119 = .ok (.aload_n 0, 1) := by decide +kernel
theorem dX8_up_120 : decode cX8_up 120 = .ok (.getfield 52, 3) := by decide +kernel
theorem dX8_up_123 : decode cX8_up 123 = .ok (.iconst 0, 1) := by decide +kernel
theorem dX8_up_124 : decode cX8_up 124 = .ok (.putfield 77, 3) := by decide +kernel
theorem dX8_up_127 : decode cX8_up 127 = .ok (.aload_n 0, 1) := by decide +kernel
theorem dX8_up_128 : decode cX8_up 128 = .ok (.invokevirtual 105, 3) := by decide +kernel
theorem dX8_up_131 : decode cX8_up 131 = .ok (.aload_n 0, 1) := by decide +kernel
theorem dX8_up_132 : decode cX8_up 132 = .ok (.getfield 34, 3) := by decide +kernel
theorem dX8_up_135 : decode cX8_up 135 = .ok (.getfield 121, 3) := by decide +kernel
theorem dX8_up_138 : decode cX8_up 138 = .ok (.ireturn, 1) := by decide +kernel
theorem dX8_valley_0 : decode cX8_valley 0 = .ok (.aload_n 0, 1) := by decide +kernel
theorem dX8_valley_1 : decode cX8_valley 1 = .ok (.getfield 20, 3) := by decide +kernel
theorem dX8_valley_4 : decode cX8_valley 4 = .ok (.aload_n 0, 1) := by decide +kernel
theorem dX8_valley_5 : decode cX8_valley 5 = .ok (.getfield 9, 3) := by decide +kernel
theorem dX8_valley_8 : decode cX8_valley 8 = .ok (.aload_n 0, 1) := by decide +kernel
theorem dX8_valley_9 : decode cX8_valley 9 = .ok (.getfield 13, 3) := by decide +kernel
theorem dX8_valley_12 : decode cX8_valley 12 = .ok (.invokevirtual 84, 3) := by decide +kernel
theorem dX8_valley_15 : decode cX8_valley 15 = .ok (.ifCond .ne 5, 3) := by decide +kernel
theorem dX8_valley_20 : decode cX8_valley 20 = .ok (.aload_n 0, 1) := by decide +kernel
theorem dX8_valley_21 : decode cX8_valley 21 = .ok (.aload_n 0, 1) := by decide +kernel
theorem dX8_valley_22 : decode cX8_valley 22 = .ok (.getfield 20, 3) := by decide +kernel
theorem dX8_valley_25 : decode cX8_valley 25 = .ok (.aload_n 0, 1) := by decide +kernel
theorem dX8_valley_26 : decode cX8_valley 26 = .ok (.getfield 27, 3) := by decide +kernel
theorem dX8_valley_29 : decode cX8_valley 29 = .ok (.invokevirtual 88, 3) := by decide +kernel
theorem dX8_valley_32 : decode cX8_valley 32 = .ok (.putfield 27, 3) := by decide +kernel
theorem dX8_valley_35 : decode cX8_valley 35 = .ok (.aload_n 0, 1) := by decide +kernel
theorem dX8_valley_36 : decode cX8_valley 36 = .ok (.iconst 0, 1) := by decide +kernel
theorem dX8_valley_37 : decode cX8_valley 37 = .ok (.putfield 13, 3) := by decide +kernel
theorem dX8_valley_40 : decode cX8_valley 40 = .ok (.aload_n 0, 1) := by decide +kernel
theorem dX8_valley_41 : decode cX8_valley 41 = .ok (.getfield 34, 3) := by decide +kernel
theorem dX8_valley_44 : decode cX8_valley 44 = .ok (.invokevirtual 92, 3) := by decide +kernel
theorem dX8_valley_47 : decode cX8_valley 47 = .ok (.aload_n 0, 1) := by decide +kernel
theorem dX8_valley_48 : decode cX8_valley 48 = .ok (.getfield 45, 3) := by decide +kernel
theorem dX8_valley_51 : decode cX8_valley 51 = .ok (.iconst 0, 1) := by decide +kernel
theorem dX8_valley_52 : decode cX8_valley 52 = .ok (.putfield 95, 3) := by decide +kernel
theorem dX8_valley_55 : decode cX8_valley 55 = .ok (.iconst 0, 1) := by decide +kernel
theorem dX8_valley_56 : decode cX8_valley 56 = .ok (.istore_n 1, 1) := by decide +kernel
theorem dX8_valley_57 : decode cX8_valley 57 = .ok (.iload_n 1, 1) := by decide +kernel
theorem dX8_valley_58 : decode cX8_valley 58 = .ok (.iconst 3, 1) := by decide +kernel
theorem dX8_valley_59 : decode cX8_valley 59 = .ok (.if_icmp .ge 19, 3) := by decide +kernel
theorem dX8_valley_62 : decode cX8_valley 62 = .ok (.aload_n 0, 1) := by decide +kernel
theorem dX8_valley_63 : decode cX8_valley 63 = .ok (.getfield 38, 3) := by decide +kernel
theorem dX8_valley_66 : decode cX8_valley 66 = .ok (.iload_n 1, 1) := by decide +kernel
theorem dX8_valley_67 : decode cX8_valley 67 = .ok (.aaload, 1) := by decide +kernel
theorem dX8_valley_68 : decode cX8_valley 68 = .ok (.iconst 0, 1) := by decide +kernel
theorem dX8_valley_69 : decode cX8_valley 69 = .ok (.putfield 98, 3) := by decide +kernel
theorem dX8_valley_72 : decode cX8_valley 72 = .ok (.iinc 1 1, 3) := by decide +kernel
theorem dX8_valley_75 : decode cX8_valley 75 = .ok (.goto (-18), 3) := by decide +kernel
theorem dX8_valley_78 : decode cX8_valley 78 = .ok (.aload_n 0, 1) := by decide +kernel
theorem dX8_valley_79 : decode cX8_valley 79 = .ok (.invokevirtual 102, 3) := by decide +kernel
theorem dX8_valley_82 : decode cX8_valley 82 = .ok (.aload_n 0, 1) := by decide +kernel
theorem dX8_valley_83 : decode cX8_valley 83 = .ok (.invokevirtual 105, 3) := by decide +kernel
theorem dX8_valley_86 : decode cX8_valley 86 = .ok (.aload_n 0, 1) := by decide +kernel
theorem dX8_valley_87 : decode cX8_valley 87 = .ok (.getfield 27, 3) := by decide +kernel
theorem dX8_valley_90 : decode cX8_valley 90 = .ok (.getfield 108, 3) := by decide +kernel
theorem dX8_valley_93 : decode cX8_valley 93 = .ok (.ireturn, 1) := by decide +kernel
theorem dX8_worthOfTold_0 : decode cX8_worthOfTold 0 = .ok (.iconst 0, 1) := by decide +kernel
theorem dX8_worthOfTold_1 : decode cX8_worthOfTold 1 = .ok (.istore_n 1, 1) := by decide +kernel
theorem dX8_worthOfTold_2 : decode cX8_worthOfTold 2 = .ok (.iconst 0, 1) := by decide +kernel
theorem dX8_worthOfTold_3 : decode cX8_worthOfTold 3 = .ok (.istore_n 2, 1) := by decide +kernel
theorem dX8_worthOfTold_4 : decode cX8_worthOfTold 4 = .ok (.iload_n 2, 1) := by decide +kernel
theorem dX8_worthOfTold_5 : decode cX8_worthOfTold 5 = .ok (.aload_n 0, 1) := by decide +kernel
theorem dX8_worthOfTold_6 : decode cX8_worthOfTold 6 = .ok (.getfield 52, 3) := by decide +kernel
theorem dX8_worthOfTold_9 : decode cX8_worthOfTold 9 = .ok (.getfield 77, 3) := by decide +kernel
theorem dX8_worthOfTold_12 : decode cX8_worthOfTold 12 = .ok (.if_icmp .ge 53, 3) := by decide +kernel
theorem dX8_worthOfTold_65 : decode cX8_worthOfTold 65 = .ok (.iload_n 1, 1) := by decide +kernel
theorem dX8_worthOfTold_66 : decode cX8_worthOfTold 66 = .ok (.ireturn, 1) := by decide +kernel
theorem dX9_about_0 : decode cX9_about 0 = .ok (.iload_n 1, 1) := by decide +kernel
theorem dX9_about_1 : decode cX9_about 1 = .ok (.tableswitch 128 0 9 #[55, 65, 70, 75, 80, 85, 90, 95, 100, 110], 55) := by decide +kernel
theorem dX9_about_56 : decode cX9_about 56 = .ok (.aload_n 0, 1) := by decide +kernel
theorem dX9_about_57 : decode cX9_about 57 = .ok (.getfield 20, 3) := by decide +kernel
theorem dX9_about_60 : decode cX9_about 60 = .ok (.aload_n 0, 1) := by decide +kernel
theorem dX9_about_61 : decode cX9_about 61 = .ok (.getfield 248, 3) := by decide +kernel
theorem dX9_about_64 : decode cX9_about 64 = .ok (.iaload, 1) := by decide +kernel
theorem dX9_about_65 : decode cX9_about 65 = .ok (.ireturn, 1) := by decide +kernel
theorem dX9_about_66 : decode cX9_about 66 = .ok (.aload_n 0, 1) := by decide +kernel
theorem dX9_about_67 : decode cX9_about 67 = .ok (.invokevirtual 381, 3) := by decide +kernel
theorem dX9_about_70 : decode cX9_about 70 = .ok (.ireturn, 1) := by decide +kernel
theorem dX9_about_71 : decode cX9_about 71 = .ok (.aload_n 0, 1) := by decide +kernel
theorem dX9_about_72 : decode cX9_about 72 = .ok (.getfield 335, 3) := by decide +kernel
theorem dX9_about_75 : decode cX9_about 75 = .ok (.ireturn, 1) := by decide +kernel
theorem dX9_about_76 : decode cX9_about 76 = .ok (.aload_n 0, 1) := by decide +kernel
theorem dX9_about_77 : decode cX9_about 77 = .ok (.getfield 355, 3) := by decide +kernel
theorem dX9_about_80 : decode cX9_about 80 = .ok (.ireturn, 1) := by decide +kernel
theorem dX9_about_81 : decode cX9_about 81 = .ok (.aload_n 0, 1) := by decide +kernel
theorem dX9_about_82 : decode cX9_about 82 = .ok (.getfield 254, 3) := by decide +kernel
theorem dX9_about_85 : decode cX9_about 85 = .ok (.ireturn, 1) := by decide +kernel
theorem dX9_about_86 : decode cX9_about 86 = .ok (.aload_n 0, 1) := by decide +kernel
theorem dX9_about_87 : decode cX9_about 87 = .ok (.getfield 477, 3) := by decide +kernel
theorem dX9_about_90 : decode cX9_about 90 = .ok (.ireturn, 1) := by decide +kernel
theorem dX9_about_91 : decode cX9_about 91 = .ok (.aload_n 0, 1) := by decide +kernel
theorem dX9_about_92 : decode cX9_about 92 = .ok (.getfield 245, 3) := by decide +kernel
theorem dX9_about_95 : decode cX9_about 95 = .ok (.ireturn, 1) := by decide +kernel
theorem dX9_about_96 : decode cX9_about 96 = .ok (.aload_n 0, 1) := by decide +kernel
theorem dX9_about_97 : decode cX9_about 97 = .ok (.getfield 86, 3) := by decide +kernel
theorem dX9_about_100 : decode cX9_about 100 = .ok (.ireturn, 1) := by decide +kernel
theorem dX9_about_101 : decode cX9_about 101 = .ok (.aload_n 0, 1) := by decide +kernel
theorem dX9_about_102 : decode cX9_about 102 = .ok (.getfield 30, 3) := by decide +kernel
theorem dX9_about_105 : decode cX9_about 105 = .ok (.aload_n 0, 1) := by decide +kernel
theorem dX9_about_106 : decode cX9_about 106 = .ok (.getfield 248, 3) := by decide +kernel
theorem dX9_about_109 : decode cX9_about 109 = .ok (.iaload, 1) := by decide +kernel
theorem dX9_about_110 : decode cX9_about 110 = .ok (.ireturn, 1) := by decide +kernel
theorem dX9_about_111 : decode cX9_about 111 = .ok (.aload_n 0, 1) := by decide +kernel
theorem dX9_about_112 : decode cX9_about 112 = .ok (.getfield 52, 3) := by decide +kernel
theorem dX9_about_115 : decode cX9_about 115 = .ok (.aload_n 0, 1) := by decide +kernel
theorem dX9_about_116 : decode cX9_about 116 = .ok (.getfield 248, 3) := by decide +kernel
theorem dX9_about_119 : decode cX9_about 119 = .ok (.baload, 1) := by decide +kernel
theorem dX9_about_120 : decode cX9_about 120 = .ok (.ifCond .eq 7, 3) := by decide +kernel
theorem dX9_about_127 : decode cX9_about 127 = .ok (.iconst 0, 1) := by decide +kernel
theorem dX9_about_128 : decode cX9_about 128 = .ok (.ireturn, 1) := by decide +kernel
theorem dX9_about_129 : decode cX9_about 129 = .ok (.iconst (-1), 1) := by decide +kernel
theorem dX9_about_130 : decode cX9_about 130 = .ok (.ireturn, 1) := by decide +kernel
theorem dX9_at_0 : decode cX9_at 0 = .ok (.aload_n 0, 1) := by decide +kernel
theorem dX9_at_1 : decode cX9_at 1 = .ok (.iload_n 1, 1) := by decide +kernel
theorem dX9_at_2 : decode cX9_at 2 = .ok (.invokevirtual 371, 3) := by decide +kernel
theorem dX9_at_5 : decode cX9_at 5 = .ok (.ifCond .eq 24, 3) := by decide +kernel
theorem dX9_at_29 : decode cX9_at 29 = .ok (.iconst (-1), 1) := by decide +kernel
theorem dX9_at_30 : decode cX9_at 30 = .ok (.ireturn, 1) := by decide +kernel
theorem dX9_back_0 : decode cX9_back 0 = .ok (.iload_n 1, 1) := by decide +kernel
theorem dX9_back_1 : decode cX9_back 1 = .ok (.iconst 0, 1) := by decide +kernel
theorem dX9_back_2 : decode cX9_back 2 = .ok (.iconst 2, 1) := by decide +kernel
theorem dX9_back_3 : decode cX9_back 3 = .ok (.invokestatic 361, 3) := by decide +kernel
theorem dX9_back_6 : decode cX9_back 6 = .ok (.ifCond .eq 12, 3) := by decide +kernel
theorem dX9_back_9 : decode cX9_back 9 = .ok (.aload_n 0, 1) := by decide +kernel
theorem dX9_back_10 : decode cX9_back 10 = .ok (.getfield 131, 3) := by decide +kernel
theorem dX9_back_13 : decode cX9_back 13 = .ok (.iload_n 1, 1) := by decide +kernel
theorem dX9_back_14 : decode cX9_back 14 = .ok (.iaload, 1) := by decide +kernel
theorem dX9_back_15 : decode cX9_back 15 = .ok (.ifCond .ge 5, 3) := by decide +kernel
theorem dX9_back_18 : decode cX9_back 18 = .ok (.iconst (-1), 1) := by decide +kernel
theorem dX9_back_19 : decode cX9_back 19 = .ok (.ireturn, 1) := by decide +kernel
theorem dX9_begin_0 : decode cX9_begin 0 = .ok (.iconst 0, 1) := by decide +kernel
theorem dX9_begin_1 : decode cX9_begin 1 = .ok (.istore_n 1, 1) := by decide +kernel
theorem dX9_begin_2 : decode cX9_begin 2 = .ok (.iload_n 1, 1) := by decide +kernel
theorem dX9_begin_3 : decode cX9_begin 3 = .ok (.bipush 81, 2) := by decide +kernel
theorem dX9_begin_5 : decode cX9_begin 5 = .ok (.if_icmp .ge 16, 3) := by decide +kernel
theorem dX9_begin_8 : decode cX9_begin 8 = .ok (.aload_n 0, 1) := by decide +kernel
theorem dX9_begin_9 : decode cX9_begin 9 = .ok (.getfield 77, 3) := by decide +kernel
theorem dX9_begin_12 : decode cX9_begin 12 = .ok (.iload_n 1, 1) := by decide +kernel
theorem dX9_begin_13 : decode cX9_begin 13 = .ok (.iconst 0, 1) := by decide +kernel
theorem dX9_begin_14 : decode cX9_begin 14 = .ok (.iastore, 1) := by decide +kernel
theorem dX9_begin_15 : decode cX9_begin 15 = .ok (.iinc 1 1, 3) := by decide +kernel
theorem dX9_begin_18 : decode cX9_begin 18 = .ok (.goto (-16), 3) := by decide +kernel
theorem dX9_begin_21 : decode cX9_begin 21 = .ok (.aload_n 0, 1) := by decide +kernel
theorem dX9_begin_22 : decode cX9_begin 22 = .ok (.iconst 0, 1) := by decide +kernel
theorem dX9_begin_23 : decode cX9_begin 23 = .ok (.putfield 335, 3) := by decide +kernel
theorem dX9_begin_26 : decode cX9_begin 26 = .ok (.aload_n 0, 1) := by decide +kernel
theorem dX9_begin_27 : decode cX9_begin 27 = .ok (.iconst 0, 1) := by decide +kernel
theorem dX9_begin_28 : decode cX9_begin 28 = .ok (.putfield 345, 3) := by decide +kernel
theorem dX9_begin_31 : decode cX9_begin 31 = .ok (.aload_n 0, 1) := by decide +kernel
theorem dX9_begin_32 : decode cX9_begin 32 = .ok (.iconst 0, 1) := by decide +kernel
theorem dX9_begin_33 : decode cX9_begin 33 = .ok (.putfield 348, 3) := by decide +kernel
theorem dX9_begin_36 : decode cX9_begin 36 = .ok (.aload_n 0, 1) := by decide +kernel
theorem dX9_begin_37 : decode cX9_begin 37 = .ok (.invokevirtual 352, 3) := by decide +kernel
theorem dX9_begin_40 : decode cX9_begin 40 = .ok (.return_, 1) := by decide +kernel
theorem dX9_beside_0 : decode cX9_beside 0 = .ok (.aload_n 0, 1) := by decide +kernel
theorem dX9_beside_1 : decode cX9_beside 1 = .ok (.iload_n 1, 1) := by decide +kernel
theorem dX9_beside_2 : decode cX9_beside 2 = .ok (.invokevirtual 371, 3) := by decide +kernel
theorem dX9_beside_5 : decode cX9_beside 5 = .ok (.ifCond .eq 27, 3) := by decide +kernel
theorem dX9_beside_32 : decode cX9_beside 32 = .ok (.iconst (-1), 1) := by decide +kernel
theorem dX9_beside_33 : decode cX9_beside 33 = .ok (.ireturn, 1) := by decide +kernel
theorem dX9_bitsOf_0 : decode cX9_bitsOf 0 = .ok (.iconst 0, 1) := by decide +kernel
theorem dX9_bitsOf_1 : decode cX9_bitsOf 1 = .ok (.istore_n 1, 1) := by decide +kernel
theorem dX9_bitsOf_2 : decode cX9_bitsOf 2 = .ok (.iconst 0, 1) := by decide +kernel
theorem dX9_bitsOf_3 : decode cX9_bitsOf 3 = .ok (.istore_n 2, 1) := by decide +kernel
theorem dX9_bitsOf_4 : decode cX9_bitsOf 4 = .ok (.iload_n 2, 1) := by decide +kernel
theorem dX9_bitsOf_5 : decode cX9_bitsOf 5 = .ok (.bipush 31, 2) := by decide +kernel
theorem dX9_bitsOf_7 : decode cX9_bitsOf 7 = .ok (.if_icmp .ge 17, 3) := by decide +kernel
theorem dX9_bitsOf_10 : decode cX9_bitsOf 10 = .ok (.iload_n 1, 1) := by decide +kernel
theorem dX9_bitsOf_11 : decode cX9_bitsOf 11 = .ok (.iload_n 0, 1) := by decide +kernel
theorem dX9_bitsOf_12 : decode cX9_bitsOf 12 = .ok (.iload_n 2, 1) := by decide +kernel
theorem dX9_bitsOf_13 : decode cX9_bitsOf 13 = .ok (.ishr, 1) := by decide +kernel
theorem dX9_bitsOf_14 : decode cX9_bitsOf 14 = .ok (.iconst 1, 1) := by decide +kernel
theorem dX9_bitsOf_15 : decode cX9_bitsOf 15 = .ok (.iand, 1) := by decide +kernel
theorem dX9_bitsOf_16 : decode cX9_bitsOf 16 = .ok (.iadd, 1) := by decide +kernel
theorem dX9_bitsOf_17 : decode cX9_bitsOf 17 = .ok (.istore_n 1, 1) := by decide +kernel
theorem dX9_bitsOf_18 : decode cX9_bitsOf 18 = .ok (.iinc 2 1, 3) := by decide +kernel
theorem dX9_bitsOf_21 : decode cX9_bitsOf 21 = .ok (.goto (-17), 3) := by decide +kernel
theorem dX9_bitsOf_24 : decode cX9_bitsOf 24 = .ok (.iload_n 1, 1) := by decide +kernel
theorem dX9_bitsOf_25 : decode cX9_bitsOf 25 = .ok (.ireturn, 1) := by decide +kernel
theorem dX9_burns_0 : decode cX9_burns 0 = .ok (.aload_n 0, 1) := by decide +kernel
theorem dX9_burns_1 : decode cX9_burns 1 = .ok (.iload_n 1, 1) := by decide +kernel
theorem dX9_burns_2 : decode cX9_burns 2 = .ok (.invokevirtual 371, 3) := by decide +kernel
theorem dX9_burns_5 : decode cX9_burns 5 = .ok (.ifCond .eq 12, 3) := by decide +kernel
theorem dX9_burns_17 : decode cX9_burns 17 = .ok (.iconst 0, 1) := by decide +kernel
theorem dX9_burns_18 : decode cX9_burns 18 = .ok (.ireturn, 1) := by decide +kernel
theorem dX9_canBe_0 : decode cX9_canBe 0 = .ok (.iload_n 1, 1) := by decide +kernel
theorem dX9_canBe_1 : decode cX9_canBe 1 = .ok (.ifCond .ne 5, 3) := by decide +kernel
theorem dX9_canBe_4 : decode cX9_canBe 4 = .ok (.iconst 1, 1) := by decide +kernel
theorem dX9_canBe_5 : decode cX9_canBe 5 = .ok (.ireturn, 1) := by decide +kernel
theorem dX9_canBe_6 : decode cX9_canBe 6 = .ok (.iload_n 2, 1) := by decide +kernel
theorem dX9_canBe_7 : decode cX9_canBe 7 = .ok (.istore 4, 2) := by decide +kernel
theorem dX9_canBe_9 : decode cX9_canBe 9 = .ok (.iload 4, 2) := by decide +kernel
theorem dX9_canBe_11 : decode cX9_canBe 11 = .ok (.aload_n 0, 1) := by decide +kernel
theorem dX9_canBe_12 : decode cX9_canBe 12 = .ok (.getfield 459, 3) := by decide +kernel
theorem dX9_canBe_15 : decode cX9_canBe 15 = .ok (.if_icmp .ge 134, 3) := by decide +kernel
theorem dX9_canBe_18 : decode cX9_canBe 18 = .ok (.aload_n 0, 1) := by decide +kernel
theorem dX9_canBe_19 : decode cX9_canBe 19 = .ok (.getfield 104, 3) := by decide +kernel
theorem dX9_canBe_22 : decode cX9_canBe 22 = .ok (.iload 4, 2) := by decide +kernel
theorem dX9_canBe_24 : decode cX9_canBe 24 = .ok (.iaload, 1) := by decide +kernel
theorem dX9_canBe_25 : decode cX9_canBe 25 = .ok (.iload_n 3, 1) := by decide +kernel
theorem dX9_canBe_26 : decode cX9_canBe 26 = .ok (.iand, 1) := by decide +kernel
theorem dX9_canBe_27 : decode cX9_canBe 27 = .ok (.ifCond .eq 6, 3) := by decide +kernel
theorem dX9_canBe_33 : decode cX9_canBe 33 = .ok (.iload_n 1, 1) := by decide +kernel
theorem dX9_canBe_34 : decode cX9_canBe 34 = .ok (.iconst 1, 1) := by decide +kernel
theorem dX9_canBe_35 : decode cX9_canBe 35 = .ok (.if_icmp .ne 5, 3) := by decide +kernel
theorem dX9_canBe_38 : decode cX9_canBe 38 = .ok (.iconst 1, 1) := by decide +kernel
theorem dX9_canBe_39 : decode cX9_canBe 39 = .ok (.ireturn, 1) := by decide +kernel
theorem dX9_classes_0 : decode cX9_classes 0 = .ok (.aload_n 0, 1) := by decide +kernel
theorem dX9_classes_1 : decode cX9_classes 1 = .ok (.invokevirtual 381, 3) := by decide +kernel
theorem dX9_classes_4 : decode cX9_classes 4 = .ok (.istore_n 1, 1) := by decide +kernel
theorem dX9_classes_5 : decode cX9_classes 5 = .ok (.iconst 0, 1) := by decide +kernel
theorem dX9_classes_6 : decode cX9_classes 6 = .ok (.istore_n 2, 1) := by decide +kernel
theorem dX9_classes_7 : decode cX9_classes 7 = .ok (.iconst 0, 1) := by decide +kernel
theorem dX9_classes_8 : decode cX9_classes 8 = .ok (.istore_n 3, 1) := by decide +kernel
theorem dX9_classes_9 : decode cX9_classes 9 = .ok (.iconst 0, 1) := by decide +kernel
theorem dX9_classes_10 : decode cX9_classes 10 = .ok (.istore 4, 2) := by decide +kernel
theorem dX9_classes_12 : decode cX9_classes 12 = .ok (.iload 4, 2) := by decide +kernel
theorem dX9_classes_14 : decode cX9_classes 14 = .ok (.iload_n 1, 1) := by decide +kernel
theorem dX9_classes_15 : decode cX9_classes 15 = .ok (.if_icmp .ge 99, 3) := by decide +kernel
theorem dX9_classes_114 : decode cX9_classes 114 = .ok (.iconst 0, 1) := by decide +kernel
theorem dX9_classes_115 : decode cX9_classes 115 = .ok (.istore 4, 2) := by decide +kernel
theorem dX9_classes_117 : decode cX9_classes 117 = .ok (.iload 4, 2) := by decide +kernel
theorem dX9_classes_119 : decode cX9_classes 119 = .ok (.aload_n 0, 1) := by decide +kernel
theorem dX9_classes_120 : decode cX9_classes 120 = .ok (.getfield 459, 3) := by decide +kernel
theorem dX9_classes_123 : decode cX9_classes 123 = .ok (.if_icmp .ge 21, 3) := by decide +kernel
theorem dX9_classes_144 : decode cX9_classes 144 = .ok (.aload_n 0, 1) := by decide +kernel
theorem dX9_classes_145 : decode cX9_classes 145 = .ok (.getfield 104, 3) := by decide +kernel
theorem dX9_classes_148 : decode cX9_classes 148 = .ok (.aload_n 0, 1) := by decide +kernel
theorem dX9_classes_149 : decode cX9_classes 149 = .ok (.getfield 459, 3) := by decide +kernel
theorem dX9_classes_152 : decode cX9_classes 152 = .ok (.iload_n 2, 1) := by decide +kernel
theorem dX9_classes_153 : decode cX9_classes 153 = .ok (.iastore, 1) := by decide +kernel
theorem dX9_classes_154 : decode cX9_classes 154 = .ok (.aload_n 0, 1) := by decide +kernel
