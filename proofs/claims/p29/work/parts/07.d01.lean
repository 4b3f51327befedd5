theorem dX8_lift_53 : decode cX8_lift 53 = .ok (.iand, 1) := by decide +kernel
theorem dX8_lift_54 : decode cX8_lift 54 = .ok (.isub, 1) := by decide +kernel
theorem dX8_lift_55 : decode cX8_lift 55 = .ok (.iastore, 1) := by decide +kernel
theorem dX8_lift_56 : decode cX8_lift 56 = .ok (.iinc 2 1, 3) := by decide +kernel
theorem dX8_lift_59 : decode cX8_lift 59 = .ok (.goto (-40), 3) := by decide +kernel
theorem dX8_lift_62 : decode cX8_lift 62 = .ok (.aload_n 0, 1) := by decide +kernel
theorem dX8_lift_63 : decode cX8_lift 63 = .ok (.getfield 62, 3) := by decide +kernel
theorem dX8_lift_66 : decode cX8_lift 66 = .ok (.getfield 213, 3) := by decide +kernel
theorem dX8_lift_69 : decode cX8_lift 69 = .ok (.iload_n 1, 1) := by decide +kernel
theorem dX8_lift_70 : decode cX8_lift 70 = .ok (.aload_n 0, 1) := by decide +kernel
theorem dX8_lift_71 : decode cX8_lift 71 = .ok (.invokevirtual 148, 3) := by decide +kernel
theorem dX8_lift_74 : decode cX8_lift 74 = .ok (.iastore, 1) := by decide +kernel
theorem dX8_lift_75 : decode cX8_lift 75 = .ok (.iinc 1 1, 3) := by decide +kernel
theorem dX8_lift_78 : decode cX8_lift 78 = .ok (.goto (-72), 3) := by decide +kernel
theorem dX8_lift_81 : decode cX8_lift 81 = .ok (.aload_n 0, 1) := by decide +kernel
theorem dX8_lift_82 : decode cX8_lift 82 = .ok (.getfield 62, 3) := by decide +kernel
theorem dX8_lift_85 : decode cX8_lift 85 = .ok (.aload_n 0, 1) := by decide +kernel
theorem dX8_lift_86 : decode cX8_lift 86 = .ok (.getfield 56, 3) := by decide +kernel
theorem dX8_lift_89 : decode cX8_lift 89 = .ok (.invokevirtual 227, 3) := by decide +kernel
theorem dX8_lift_92 : decode cX8_lift 92 = .ok (.ifCond .eq 13, 3) := by decide +kernel
theorem dX8_lift_95 : decode cX8_lift 95 = .ok (.aload_n 0, 1) := by decide +kernel
theorem dX8_lift_96 : decode cX8_lift 96 = .ok (.getfield 62, 3) := by decide +kernel
theorem dX8_lift_99 : decode cX8_lift 99 = .ok (.getfield 234, 3) := by decide +kernel
theorem dX8_lift_102 : decode cX8_lift 102 = .ok (.goto 4, 3) := by decide +kernel
theorem dX8_lift_105 : decode cX8_lift 105 = .ok (.iconst (-1), 1) := by decide +kernel
theorem dX8_lift_106 : decode cX8_lift 106 = .ok (.ireturn, 1) := by decide +kernel
theorem dX8_mays_0 : decode cX8_mays 0 = .ok (.aload_n 0, 1) := by decide +kernel
theorem dX8_mays_1 : decode cX8_mays 1 = .ok (.getfield 56, 3) := by decide +kernel
theorem dX8_mays_4 : decode cX8_mays 4 = .ok (.iconst (-1), 1) := by decide +kernel
theorem dX8_mays_5 : decode cX8_mays 5 = .ok (.putfield 77, 3) := by decide +kernel
theorem dX8_mays_8 : decode cX8_mays 8 = .ok (.aload_n 0, 1) := by decide +kernel
theorem dX8_mays_9 : decode cX8_mays 9 = .ok (.invokevirtual 164, 3) := by decide +kernel
theorem dX8_mays_12 : decode cX8_mays 12 = .ok (.bipush 7, 2) := by decide +kernel
theorem dX8_mays_14 : decode cX8_mays 14 = .ok (.if_icmp .le 6, 3) := by decide +kernel
theorem dX8_mays_17 : decode cX8_mays 17 = .ok (.bipush (-2), 2) := by decide +kernel
theorem dX8_mays_19 : decode cX8_mays 19 = .ok (.ireturn, 1) := by decide +kernel
theorem dX8_mays_20 : decode cX8_mays 20 = .ok (.aload_n 0, 1) := by decide +kernel
theorem dX8_mays_21 : decode cX8_mays 21 = .ok (.invokevirtual 222, 3) := by decide +kernel
theorem dX8_mays_24 : decode cX8_mays 24 = .ok (.aload_n 0, 1) := by decide +kernel
theorem dX8_mays_25 : decode cX8_mays 25 = .ok (.getfield 69, 3) := by decide +kernel
theorem dX8_mays_28 : decode cX8_mays 28 = .ok (.aload_n 0, 1) := by decide +kernel
theorem dX8_mays_29 : decode cX8_mays 29 = .ok (.getfield 62, 3) := by decide +kernel
theorem dX8_mays_32 : decode cX8_mays 32 = .ok (.invokevirtual 251, 3) := by decide +kernel
theorem dX8_mays_35 : decode cX8_mays 35 = .ok (.aload_n 0, 1) := by decide +kernel
theorem dX8_mays_36 : decode cX8_mays 36 = .ok (.getfield 69, 3) := by decide +kernel
theorem dX8_mays_39 : decode cX8_mays 39 = .ok (.aload_n 0, 1) := by decide +kernel
theorem dX8_mays_40 : decode cX8_mays 40 = .ok (.getfield 56, 3) := by decide +kernel
theorem dX8_mays_43 : decode cX8_mays 43 = .ok (.invokevirtual 255, 3) := by decide +kernel
theorem dX8_mays_46 : decode cX8_mays 46 = .ok (.ireturn, 1) := by decide +kernel
theorem dX8_nearest_0 : decode cX8_nearest 0 = .ok (.aload_n 0, 1) := by decide +kernel
theorem dX8_nearest_1 : decode cX8_nearest 1 = .ok (.invokevirtual 222, 3) := by decide +kernel
theorem dX8_nearest_4 : decode cX8_nearest 4 = .ok (.iconst 0, 1) := by decide +kernel
theorem dX8_nearest_5 : decode cX8_nearest 5 = .ok (.istore_n 1, 1) := by decide +kernel
theorem dX8_nearest_6 : decode cX8_nearest 6 = .ok (.iload_n 1, 1) := by decide +kernel
theorem dX8_nearest_7 : decode cX8_nearest 7 = .ok (.aload_n 0, 1) := by decide +kernel
theorem dX8_nearest_8 : decode cX8_nearest 8 = .ok (.getfield 27, 3) := by decide +kernel
theorem dX8_nearest_11 : decode cX8_nearest 11 = .ok (.getfield 108, 3) := by decide +kernel
theorem dX8_nearest_14 : decode cX8_nearest 14 = .ok (.if_icmp .ge 48, 3) := by decide +kernel
theorem dX8_nearest_17 : decode cX8_nearest 17 = .ok (.iconst 0, 1) := by decide +kernel
theorem dX8_nearest_18 : decode cX8_nearest 18 = .ok (.istore_n 2, 1) := by decide +kernel
theorem dX8_nearest_19 : decode cX8_nearest 19 = .ok (.iload_n 2, 1) := by decide +kernel
theorem dX8_nearest_20 : decode cX8_nearest 20 = .ok (.aload_n 0, 1) := by decide +kernel
theorem dX8_nearest_21 : decode cX8_nearest 21 = .ok (.getfield 62, 3) := by decide +kernel
theorem dX8_nearest_24 : decode cX8_nearest 24 = .ok (.getfield 216, 3) := by decide +kernel
theorem dX8_nearest_27 : decode cX8_nearest 27 = .ok (.if_icmp .ge 29, 3) := by decide +kernel
theorem dX8_nearest_30 : decode cX8_nearest 30 = .ok (.aload_n 0, 1) := by decide +kernel
theorem dX8_nearest_31 : decode cX8_nearest 31 = .ok (.getfield 62, 3) := by decide +kernel
theorem dX8_nearest_34 : decode cX8_nearest 34 = .ok (.getfield 237, 3) := by decide +kernel
theorem dX8_nearest_37 : decode cX8_nearest 37 = .ok (.iload_n 1, 1) := by decide +kernel
theorem dX8_nearest_38 : decode cX8_nearest 38 = .ok (.bipush 9, 2) := by decide +kernel
theorem dX8_nearest_40 : decode cX8_nearest 40 = .ok (.imul, 1) := by decide +kernel
theorem dX8_nearest_41 : decode cX8_nearest 41 = .ok (.iload_n 2, 1) := by decide +kernel
theorem dX8_nearest_42 : decode cX8_nearest 42 = .ok (.iadd, 1) := by decide +kernel
theorem dX8_nearest_43 : decode cX8_nearest 43 = .ok (.aload_n 0, 1) := by decide +kernel
theorem dX8_nearest_44 : decode cX8_nearest 44 = .ok (.iload_n 1, 1) := by decide +kernel
theorem dX8_nearest_45 : decode cX8_nearest 45 = .ok (.iload_n 2, 1) := by decide +kernel
theorem dX8_nearest_46 : decode cX8_nearest 46 = .ok (.invokevirtual 192, 3) := by decide +kernel
theorem dX8_nearest_49 : decode cX8_nearest 49 = .ok (.iastore, 1) := by decide +kernel
theorem dX8_nearest_50 : decode cX8_nearest 50 = .ok (.iinc 2 1, 3) := by decide +kernel
theorem dX8_nearest_53 : decode cX8_nearest 53 = .ok (.goto (-34), 3) := by decide +kernel
theorem dX8_nearest_56 : decode cX8_nearest 56 = .ok (.iinc 1 1, 3) := by decide +kernel
theorem dX8_nearest_59 : decode cX8_nearest 59 = .ok (.goto (-53), 3) := by decide +kernel
theorem dX8_nearest_62 : decode cX8_nearest 62 = .ok (.aload_n 0, 1) := by decide +kernel
theorem dX8_nearest_63 : decode cX8_nearest 63 = .ok (.getfield 62, 3) := by decide +kernel
theorem dX8_nearest_66 : decode cX8_nearest 66 = .ok (.aload_n 0, 1) := by decide +kernel
theorem dX8_nearest_67 : decode cX8_nearest 67 = .ok (.getfield 56, 3) := by decide +kernel
theorem dX8_nearest_70 : decode cX8_nearest 70 = .ok (.invokevirtual 227, 3) := by decide +kernel
theorem dX8_nearest_73 : decode cX8_nearest 73 = .ok (.ifCond .eq 13, 3) := by decide +kernel
theorem dX8_nearest_76 : decode cX8_nearest 76 = .ok (.aload_n 0, 1) := by decide +kernel
theorem dX8_nearest_77 : decode cX8_nearest 77 = .ok (.getfield 62, 3) := by decide +kernel
theorem dX8_nearest_80 : decode cX8_nearest 80 = .ok (.getfield 234, 3) := by decide +kernel
theorem dX8_nearest_83 : decode cX8_nearest 83 = .ok (.goto 4, 3) := by decide +kernel
theorem dX8_nearest_86 : decode cX8_nearest 86 = .ok (.iconst (-1), 1) := by decide +kernel
theorem dX8_nearest_87 : decode cX8_nearest 87 = .ok (.ireturn, 1) := by decide +kernel
theorem dX8_placeBehind_0 : decode cX8_placeBehind 0 = .ok (.iload_n 1, 1) := by decide +kernel
theorem dX8_placeBehind_1 : decode cX8_placeBehind 1 = .ok (.iconst 1, 1) := by decide +kernel
theorem dX8_placeBehind_2 : decode cX8_placeBehind 2 = .ok (.iadd, 1) := by decide +kernel
theorem dX8_placeBehind_3 : decode cX8_placeBehind 3 = .ok (.aload_n 0, 1) := by decide +kernel
theorem dX8_placeBehind_4 : decode cX8_placeBehind 4 = .ok (.getfield 52, 3) := by decide +kernel
theorem dX8_placeBehind_7 : decode cX8_placeBehind 7 = .ok (.getfield 77, 3) := by decide +kernel
theorem dX8_placeBehind_10 : decode cX8_placeBehind 10 = .ok (.if_icmp .ge 7, 3) := by decide +kernel
theorem dX8_placeBehind_13 : decode cX8_placeBehind 13 = .ok (.iload_n 1, 1) := by decide +kernel
theorem dX8_placeBehind_14 : decode cX8_placeBehind 14 = .ok (.iconst 1, 1) := by decide +kernel
theorem dX8_placeBehind_15 : decode cX8_placeBehind 15 = .ok (.iadd, 1) := by decide +kernel
theorem dX8_placeBehind_16 : decode cX8_placeBehind 16 = .ok (.ireturn, 1) := by decide +kernel
theorem dX8_placeBehind_17 : decode cX8_placeBehind 17 = .ok (.aload_n 0, 1) := by decide +kernel
theorem dX8_placeBehind_18 : decode cX8_placeBehind 18 = .ok (.getfield 27, 3) := by decide +kernel
theorem dX8_placeBehind_21 : decode cX8_placeBehind 21 = .ok (.getfield 186, 3) := by decide +kernel
theorem dX8_placeBehind_24 : decode cX8_placeBehind 24 = .ok (.ifCond .ne 14, 3) := by decide +kernel
theorem dX8_placeBehind_27 : decode cX8_placeBehind 27 = .ok (.aload_n 0, 1) := by decide +kernel
theorem dX8_placeBehind_28 : decode cX8_placeBehind 28 = .ok (.getfield 52, 3) := by decide +kernel
theorem dX8_placeBehind_31 : decode cX8_placeBehind 31 = .ok (.getfield 77, 3) := by decide +kernel
theorem dX8_placeBehind_34 : decode cX8_placeBehind 34 = .ok (.iconst 3, 1) := by decide +kernel
theorem dX8_placeBehind_35 : decode cX8_placeBehind 35 = .ok (.if_icmp .ge 7, 3) := by decide +kernel
theorem dX8_placeBehind_38 : decode cX8_placeBehind 38 = .ok (.iconst (-1), 1) := by decide +kernel
theorem dX8_placeBehind_39 : decode cX8_placeBehind 39 = .ok (.goto 4, 3) := by decide +kernel
theorem dX8_placeBehind_42 : decode cX8_placeBehind 42 = .ok (.iconst 0, 1) := by decide +kernel
theorem dX8_placeBehind_43 : decode cX8_placeBehind 43 = .ok (.ireturn, 1) := by decide +kernel
theorem dX8_putOnTape_0 : decode cX8_putOnTape 0 = .ok (.bipush 24, 2) := by decide +kernel
theorem dX8_putOnTape_2 : decode cX8_putOnTape 2 = .ok (.istore_n 2, 1) := by decide +kernel
theorem dX8_putOnTape_3 : decode cX8_putOnTape 3 = .ok (.iload_n 2, 1) := by decide +kernel
theorem dX8_putOnTape_4 : decode cX8_putOnTape 4 = .ok (.ifCond .lt 42, 3) := by decide +kernel
theorem dX8_putOnTape_7 : decode cX8_putOnTape 7 = .ok (.aload_n 0, 1) := by decide +kernel
theorem dX8_putOnTape_8 : decode cX8_putOnTape 8 = .ok (.getfield 13, 3) := by decide +kernel
theorem dX8_putOnTape_11 : decode cX8_putOnTape 11 = .ok (.sipush 1600, 3) := by decide +kernel
theorem dX8_putOnTape_14 : decode cX8_putOnTape 14 = .ok (.if_icmp .ge 26, 3) := by decide +kernel
theorem dX8_putOnTape_17 : decode cX8_putOnTape 17 = .ok (.aload_n 0, 1) := by decide +kernel
theorem dX8_putOnTape_18 : decode cX8_putOnTape 18 = .ok (.getfield 9, 3) := by decide +kernel
theorem dX8_putOnTape_21 : decode cX8_putOnTape 21 = .ok (.aload_n 0, 1) := by decide +kernel
theorem dX8_putOnTape_22 : decode cX8_putOnTape 22 = .ok (.getfield 13, 3) := by decide +kernel
theorem dX8_putOnTape_25 : decode cX8_putOnTape 25 = .ok (.iload_n 1, 1) := by decide +kernel
theorem dX8_putOnTape_26 : decode cX8_putOnTape 26 = .ok (.iload_n 2, 1) := by decide +kernel
theorem dX8_putOnTape_27 : decode cX8_putOnTape 27 = .ok (.iushr, 1) := by decide +kernel
theorem dX8_putOnTape_28 : decode cX8_putOnTape 28 = .ok (.i2b, 1) := by decide +kernel
theorem dX8_putOnTape_29 : decode cX8_putOnTape 29 = .ok (.bastore, 1) := by decide +kernel
theorem dX8_putOnTape_30 : decode cX8_putOnTape 30 = .ok (.aload_n 0, 1) := by decide +kernel
theorem dX8_putOnTape_31 : decode cX8_putOnTape 31 = .ok (.dup, 1) := by decide +kernel
theorem dX8_putOnTape_32 : decode cX8_putOnTape 32 = .ok (.getfield 13, 3) := by decide +kernel
theorem dX8_putOnTape_35 : decode cX8_putOnTape 35 = .ok (.iconst 1, 1) := by decide +kernel
theorem dX8_putOnTape_36 : decode cX8_putOnTape 36 = .ok (.iadd, 1) := by decide +kernel
theorem dX8_putOnTape_37 : decode cX8_putOnTape 37 = .ok (.putfield 13, 3) := by decide +kernel
theorem dX8_putOnTape_40 : decode cX8_putOnTape 40 = .ok (.iinc 2 (-8), 3) := by decide +kernel
theorem dX8_putOnTape_43 : decode cX8_putOnTape 43 = .ok (.goto (-40), 3) := by decide +kernel
theorem dX8_putOnTape_46 : decode cX8_putOnTape 46 = .ok (.return_, 1) := by decide +kernel
theorem dX8_ruled_0 : decode cX8_ruled 0 = .ok (.aload_n 0, 1) := by decide +kernel
theorem dX8_ruled_1 : decode cX8_ruled 1 = .ok (.getfield 27, 3) := by decide +kernel
theorem dX8_ruled_4 : decode cX8_ruled 4 = .ok (.getfield 108, 3) := by decide +kernel
theorem dX8_ruled_7 : decode cX8_ruled 7 = .ok (.istore_n 3, 1) := by decide +kernel
theorem dX8_ruled_8 : decode cX8_ruled 8 = .ok (.aload_n 0, 1) := by decide +kernel
theorem dX8_ruled_9 : decode cX8_ruled 9 = .ok (.getfield 34, 3) := by decide +kernel
theorem dX8_ruled_12 : decode cX8_ruled 12 = .ok (.getfield 142, 3) := by decide +kernel
theorem dX8_ruled_15 : decode cX8_ruled 15 = .ok (.ifCond .ne 36, 3) := by decide +kernel
theorem dX8_ruled_18 : decode cX8_ruled 18 = .ok (.iload_n 3, 1) := by decide +kernel
theorem dX8_ruled_19 : decode cX8_ruled 19 = .ok (.iconst 3, 1) := by decide +kernel
theorem dX8_ruled_20 : decode cX8_ruled 20 = .ok (.if_icmp .lt 31, 3) := by decide +kernel
theorem dX8_ruled_23 : decode cX8_ruled 23 = .ok (.iload_n 3, 1) := by decide +kernel
theorem dX8_ruled_24 : decode cX8_ruled 24 = .ok (.iconst 2, 1) := by decide +kernel
theorem dX8_ruled_25 : decode cX8_ruled 25 = .ok (.irem, 1) := by decide +kernel
theorem dX8_ruled_26 : decode cX8_ruled 26 = .ok (.ifCond .eq 25, 3) := by decide +kernel
theorem dX8_ruled_29 : decode cX8_ruled 29 = .ok (.iload_n 1, 1) := by decide +kernel
theorem dX8_ruled_30 : decode cX8_ruled 30 = .ok (.ifCond .lt 21, 3) := by decide +kernel
theorem dX8_ruled_33 : decode cX8_ruled 33 = .ok (.iload_n 1, 1) := by decide +kernel
theorem dX8_ruled_34 : decode cX8_ruled 34 = .ok (.iload_n 3, 1) := by decide +kernel
theorem dX8_ruled_35 : decode cX8_ruled 35 = .ok (.iconst 1, 1) := by decide +kernel
theorem dX8_ruled_36 : decode cX8_ruled 36 = .ok (.isub, 1) := by decide +kernel
theorem dX8_ruled_37 : decode cX8_ruled 37 = .ok (.iconst 2, 1) := by decide +kernel
theorem dX8_ruled_38 : decode cX8_ruled 38 = .ok (.idiv, 1) := by decide +kernel
theorem dX8_ruled_39 : decode cX8_ruled 39 = .ok (.if_icmp .ge 12, 3) := by decide +kernel
theorem dX8_ruled_42 : decode cX8_ruled 42 = .ok (.iload_n 2, 1) := by decide +kernel
theorem dX8_ruled_43 : decode cX8_ruled 43 = .ok (.ifCond .lt 8, 3) := by decide +kernel
theorem dX8_ruled_46 : decode cX8_ruled 46 = .ok (.iload_n 2, 1) := by decide +kernel
theorem dX8_ruled_47 : decode cX8_ruled 47 = .ok (.iload_n 3, 1) := by decide +kernel
theorem dX8_ruled_48 : decode cX8_ruled 48 = .ok (.if_icmp .lt 5, 3) := by decide +kernel
theorem dX8_ruled_51 : decode cX8_ruled 51 = .ok (.iconst (-1), 1) := by decide +kernel
theorem dX8_ruled_52 : decode cX8_ruled 52 = .ok (.ireturn, 1) := by decide +kernel
theorem dX8_ruled_53 : decode cX8_ruled 53 = .ok (.iload_n 2, 1) := by decide +kernel
theorem dX8_ruled_54 : decode cX8_ruled 54 = .ok (.ifCond .ne 7, 3) := by decide +kernel
theorem dX8_ruled_57 : decode cX8_ruled 57 = .ok (.iload_n 3, 1) := by decide +kernel
theorem dX8_ruled_58 : decode cX8_ruled 58 = .ok (.iconst 1, 1) := by decide +kernel
theorem dX8_ruled_59 : decode cX8_ruled 59 = .ok (.isub, 1) := by decide +kernel
theorem dX8_ruled_60 : decode cX8_ruled 60 = .ok (.ireturn, 1) := by decide +kernel
theorem dX8_ruled_61 : decode cX8_ruled 61 = .ok (.iload_n 2, 1) := by decide +kernel
theorem dX8_ruled_62 : decode cX8_ruled 62 = .ok (.iconst 2, 1) := by decide +kernel
theorem dX8_ruled_63 : decode cX8_ruled 63 = .ok (.irem, 1) := by decide +kernel
theorem dX8_ruled_64 : decode cX8_ruled 64 = .ok (.ifCond .ne 11, 3) := by decide +kernel
theorem dX8_ruled_67 : decode cX8_ruled 67 = .ok (.iload_n 1, 1) := by decide +kernel
theorem dX8_ruled_68 : decode cX8_ruled 68 = .ok (.iload_n 2, 1) := by decide +kernel
theorem dX8_ruled_69 : decode cX8_ruled 69 = .ok (.iconst 2, 1) := by decide +kernel
theorem dX8_ruled_70 : decode cX8_ruled 70 = .ok (.idiv, 1) := by decide +kernel
theorem dX8_ruled_71 : decode cX8_ruled 71 = .ok (.iadd, 1) := by decide +kernel
theorem dX8_ruled_72 : decode cX8_ruled 72 = .ok (.goto 8, 3) := by decide +kernel
theorem dX8_ruled_75 : decode cX8_ruled 75 = .ok (.iload_n 1, 1) := by decide +kernel
theorem dX8_ruled_76 : decode cX8_ruled 76 = .ok (.iload_n 2, 1) := by decide +kernel
theorem dX8_ruled_77 : decode cX8_ruled 77 = .ok (.iconst 2, 1) := by decide +kernel
theorem dX8_ruled_78 : decode cX8_ruled 78 = .ok (.idiv, 1) := by decide +kernel
theorem dX8_ruled_79 : decode cX8_ruled 79 = .ok (.isub, 1) := by decide +kernel
theorem dX8_ruled_80 : decode cX8_ruled 80 = .ok (.iload_n 3, 1) := by decide +kernel
theorem dX8_ruled_81 : decode cX8_ruled 81 = .ok (.iconst 1, 1) := by decide +kernel
theorem dX8_ruled_82 : decode cX8_ruled 82 = .ok (.isub, 1) := by decide +kernel
theorem dX8_ruled_83 : decode cX8_ruled 83 = .ok (.invokestatic 263, 3) := by decide +kernel
theorem dX8_ruled_86 : decode cX8_ruled 86 = .ok (.ireturn, 1) := by decide +kernel
theorem dX8_seed_0 : decode cX8_seed 0 = .ok (.aload_n 0, 1) := by decide +kernel
theorem dX8_seed_1 : decode cX8_seed 1 = .ok (.getfield 34, 3) := by decide +kernel
theorem dX8_seed_4 : decode cX8_seed 4 = .ok (.getfield 243, 3) := by decide +kernel
theorem dX8_seed_7 : decode cX8_seed 7 = .ok (.istore_n 2, 1) := by decide +kernel
theorem dX8_seed_8 : decode cX8_seed 8 = .ok (.aload_n 0, 1) := by decide +kernel
theorem dX8_seed_9 : decode cX8_seed 9 = .ok (.getfield 34, 3) := by decide +kernel
theorem dX8_seed_12 : decode cX8_seed 12 = .ok (.iload_n 1, 1) := by decide +kernel
theorem dX8_seed_13 : decode cX8_seed 13 = .ok (.putfield 243, 3) := by decide +kernel
theorem dX8_seed_16 : decode cX8_seed 16 = .ok (.iload_n 2, 1) := by decide +kernel
theorem dX8_seed_17 : decode cX8_seed 17 = .ok (.ireturn, 1) := by decide +kernel
theorem dX8_settleLets_0 : decode cX8_settleLets 0 = .ok (.aload_n 0, 1) := by decide +kernel
theorem dX8_settleLets_1 : decode cX8_settleLets 1 = .ok (.getfield 73, 3) := by decide +kernel
theorem dX8_settleLets_4 : decode cX8_settleLets 4 = .ok (.iconst 0, 1) := by decide +kernel
theorem dX8_settleLets_5 : decode cX8_settleLets 5 = .ok (.invokestatic 111, 3) := by decide +kernel
theorem dX8_settleLets_8 : decode cX8_settleLets 8 = .ok (.iconst 0, 1) := by decide +kernel
theorem dX8_settleLets_9 : decode cX8_settleLets 9 = .ok (.istore_n 1, 1) := by decide +kernel
theorem dX8_settleLets_10 : decode cX8_settleLets 10 = .ok (.iload_n 1, 1) := by decide +kernel
theorem dX8_settleLets_11 : decode cX8_settleLets 11 = .ok (.aload_n 0, 1) := by decide +kernel
theorem dX8_settleLets_12 : decode cX8_settleLets 12 = .ok (.getfield 27, 3) := by decide +kernel
theorem dX8_settleLets_15 : decode cX8_settleLets 15 = .ok (.getfield 108, 3) := by decide +kernel
theorem dX8_settleLets_18 : decode cX8_settleLets 18 = .ok (.if_icmp .ge 76, 3) := by decide +kernel
theorem dX8_settleLets_21 : decode cX8_settleLets 21 = .ok (.iconst 0, 1) := by decide +kernel
theorem dX8_settleLets_22 : decode cX8_settleLets 22 = .ok (.istore_n 2, 1) := by decide +kernel
theorem dX8_settleLets_23 : decode cX8_settleLets 23 = .ok (.iload_n 2, 1) := by decide +kernel
theorem dX8_settleLets_24 : decode cX8_settleLets 24 = .ok (.iload_n 1, 1) := by decide +kernel
theorem dX8_settleLets_25 : decode cX8_settleLets 25 = .ok (.if_icmp .ge 63, 3) := by decide +kernel
theorem dX8_settleLets_28 : decode cX8_settleLets 28 = .ok (.aload_n 0, 1) := by decide +kernel
theorem dX8_settleLets_29 : decode cX8_settleLets 29 = .ok (.getfield 27, 3) := by decide +kernel
theorem dX8_settleLets_32 : decode cX8_settleLets 32 = .ok (.iload_n 1, 1) := by decide +kernel
theorem dX8_settleLets_33 : decode cX8_settleLets 33 = .ok (.iload_n 2, 1) := by decide +kernel
theorem dX8_settleLets_34 : decode cX8_settleLets 34 = .ok (.aload_n 0, 1) := by decide +kernel
theorem dX8_settleLets_35 : decode cX8_settleLets 35 = .ok (.getfield 34, 3) := by decide +kernel
theorem dX8_settleLets_38 : decode cX8_settleLets 38 = .ok (.iload_n 1, 1) := by decide +kernel
theorem dX8_settleLets_39 : decode cX8_settleLets 39 = .ok (.iload_n 2, 1) := by decide +kernel
theorem dX8_settleLets_40 : decode cX8_settleLets 40 = .ok (.invokevirtual 117, 3) := by decide +kernel
theorem dX8_settleLets_43 : decode cX8_settleLets 43 = .ok (.aload_n 0, 1) := by decide +kernel
theorem dX8_settleLets_44 : decode cX8_settleLets 44 = .ok (.getfield 34, 3) := by decide +kernel
theorem dX8_settleLets_47 : decode cX8_settleLets 47 = .ok (.getfield 121, 3) := by decide +kernel
theorem dX8_settleLets_50 : decode cX8_settleLets 50 = .ok (.iconst 1, 1) := by decide +kernel
theorem dX8_settleLets_51 : decode cX8_settleLets 51 = .ok (.iadd, 1) := by decide +kernel
theorem dX8_settleLets_52 : decode cX8_settleLets 52 = .ok (.invokevirtual 124, 3) := by decide +kernel
theorem dX8_settleLets_55 : decode cX8_settleLets 55 = .ok (.ifCond .eq 27, 3) := by decide +kernel
theorem dX8_settleLets_58 : decode cX8_settleLets 58 = .ok (.aload_n 0, 1) := by decide +kernel
theorem dX8_settleLets_59 : decode cX8_settleLets 59 = .ok (.getfield 73, 3) := by decide +kernel
theorem dX8_settleLets_62 : decode cX8_settleLets 62 = .ok (.iload_n 1, 1) := by decide +kernel
theorem dX8_settleLets_63 : decode cX8_settleLets 63 = .ok (.dup2, 1) := by decide +kernel
theorem dX8_settleLets_64 : decode cX8_settleLets 64 = .ok (.iaload, 1) := by decide +kernel
theorem dX8_settleLets_65 : decode cX8_settleLets 65 = .ok (.iconst 1, 1) := by decide +kernel
theorem dX8_settleLets_66 : decode cX8_settleLets 66 = .ok (.iload_n 2, 1) := by decide +kernel
theorem dX8_settleLets_67 : decode cX8_settleLets 67 = .ok (.ishl, 1) := by decide +kernel
theorem dX8_settleLets_68 : decode cX8_settleLets 68 = .ok (.ior, 1) := by decide +kernel
theorem dX8_settleLets_69 : decode cX8_settleLets 69 = .ok (.iastore, 1) := by decide +kernel
theorem dX8_settleLets_70 : decode cX8_settleLets 70 = .ok (.aload_n 0, 1) := by decide +kernel
theorem dX8_settleLets_71 : decode cX8_settleLets 71 = .ok (.getfield 73, 3) := by decide +kernel
theorem dX8_settleLets_74 : decode cX8_settleLets 74 = .ok (.iload_n 2, 1) := by decide +kernel
theorem dX8_settleLets_75 : decode cX8_settleLets 75 = .ok (.dup2, 1) := by decide +kernel
theorem dX8_settleLets_76 : decode cX8_settleLets 76 = .ok (.iaload, 1) := by decide +kernel
theorem dX8_settleLets_77 : decode cX8_settleLets 77 = .ok (.iconst 1, 1) := by decide +kernel
theorem dX8_settleLets_78 : decode cX8_settleLets 78 = .ok (.iload_n 1, 1) := by decide +kernel
theorem dX8_settleLets_79 : decode cX8_settleLets 79 = .ok (.ishl, 1) := by decide +kernel
theorem dX8_settleLets_80 : decode cX8_settleLets 80 = .ok (.ior, 1) := by decide +kernel
theorem dX8_settleLets_81 : decode cX8_settleLets 81 = .ok (.iastore, 1) := by decide +kernel
theorem dX8_settleLets_82 : decode cX8_settleLets 82 = .ok (.iinc 2 1, 3) := by decide +kernel
theorem dX8_settleLets_85 : decode cX8_settleLets 85 = .ok (.goto (-62), 3) := by decide +kernel
theorem dX8_settleLets_88 : decode cX8_settleLets 88 = .ok (.iinc 1 1, 3) := by decide +kernel
theorem dX8_settleLets_91 : decode cX8_settleLets 91 = .ok (.goto (-81), 3) := by decide +kernel
theorem dX8_settleLets_94 : decode cX8_settleLets 94 = .ok (.return_, 1) := by decide +kernel
theorem dX8_shut_0 : decode cX8_shut 0 = .ok (.aload_n 0, 1) := by decide +kernel
theorem dX8_shut_1 : decode cX8_shut 1 = .ok (.invokevirtual 148, 3) := by decide +kernel
theorem dX8_shut_4 : decode cX8_shut 4 = .ok (.istore_n 1, 1) := by decide +kernel
theorem dX8_shut_5 : decode cX8_shut 5 = .ok (.aload_n 0, 1) := by decide +kernel
theorem dX8_shut_6 : decode cX8_shut 6 = .ok (.invokevirtual 164, 3) := by decide +kernel
theorem dX8_shut_9 : decode cX8_shut 9 = .ok (.istore_n 2, 1) := by decide +kernel
theorem dX8_shut_10 : decode cX8_shut 10 = .ok (.aload_n 0, 1) := by decide +kernel
theorem dX8_shut_11 : decode cX8_shut 11 = .ok (.getfield 27, 3) := by decide +kernel
theorem dX8_shut_14 : decode cX8_shut 14 = .ok (.getfield 186, 3) := by decide +kernel
theorem dX8_shut_17 : decode cX8_shut 17 = .ok (.ifCond .ne 8, 3) := by decide +kernel
theorem dX8_shut_20 : decode cX8_shut 20 = .ok (.iload_n 2, 1) := by decide +kernel
theorem dX8_shut_21 : decode cX8_shut 21 = .ok (.iconst 3, 1) := by decide +kernel
theorem dX8_shut_22 : decode cX8_shut 22 = .ok (.if_icmp .ge 17, 3) := by decide +kernel
theorem dX8_shut_25 : decode cX8_shut 25 = .ok (.iconst 1, 1) := by decide +kernel
theorem dX8_shut_26 : decode cX8_shut 26 = .ok (.iload_n 2, 1) := by decide +kernel
theorem dX8_shut_27 : decode cX8_shut 27 = .ok (.iconst 1, 1) := by decide +kernel
theorem dX8_shut_28 : decode cX8_shut 28 = .ok (.isub, 1) := by decide +kernel
theorem dX8_shut_29 : decode cX8_shut 29 = .ok (.iconst 0, 1) := by decide +kernel
theorem dX8_shut_30 : decode cX8_shut 30 = .ok (.invokestatic 240, 3) := by decide +kernel
theorem dX8_shut_33 : decode cX8_shut 33 = .ok (.invokestatic 206, 3) := by decide +kernel
theorem dX8_shut_36 : decode cX8_shut 36 = .ok (.goto 4, 3) := by decide +kernel
theorem dX8_shut_39 : decode cX8_shut 39 = .ok (.iconst 2, 1) := by decide +kernel
theorem dX8_shut_40 : decode cX8_shut 40 = .ok (.istore_n 3, 1) := by decide +kernel
theorem dX8_shut_41 : decode cX8_shut 41 = .ok (.iconst 0, 1) := by decide +kernel
theorem dX8_shut_42 : decode cX8_shut 42 = .ok (.istore 4, 2) := by decide +kernel
theorem dX8_shut_44 : decode cX8_shut 44 = .ok (.iconst 0, 1) := by decide +kernel
theorem dX8_shut_45 : decode cX8_shut 45 = .ok (.istore 5, 2) := by decide +kernel
theorem dX8_shut_47 : decode cX8_shut 47 = .ok (.iload 5, 2) := by decide +kernel
theorem dX8_shut_49 : decode cX8_shut 49 = .ok (.iload_n 2, 1) := by decide +kernel
theorem dX8_shut_50 : decode cX8_shut 50 = .ok (.if_icmp .ge 26, 3) := by decide +kernel
theorem dX8_shut_53 : decode cX8_shut 53 = .ok (.iload 4, 2) := by decide +kernel
theorem dX8_shut_55 : decode cX8_shut 55 = .ok (.aload_n 0, 1) := by decide +kernel
theorem dX8_shut_56 : decode cX8_shut 56 = .ok (.getfield 27, 3) := by decide +kernel
theorem dX8_shut_59 : decode cX8_shut 59 = .ok (.getfield 180, 3) := by decide +kernel
theorem dX8_shut_62 : decode cX8_shut 62 = .ok (.iload 5, 2) := by decide +kernel
theorem dX8_shut_64 : decode cX8_shut 64 = .ok (.iaload, 1) := by decide +kernel
theorem dX8_shut_65 : decode cX8_shut 65 = .ok (.invokestatic 240, 3) := by decide +kernel
theorem dX8_shut_68 : decode cX8_shut 68 = .ok (.istore 4, 2) := by decide +kernel
theorem dX8_shut_70 : decode cX8_shut 70 = .ok (.iinc 5 1, 3) := by decide +kernel
theorem dX8_shut_73 : decode cX8_shut 73 = .ok (.goto (-26), 3) := by decide +kernel
theorem dX8_shut_76 : decode cX8_shut 76 = .ok (.iload_n 1, 1) := by decide +kernel
theorem dX8_shut_77 : decode cX8_shut 77 = .ok (.aload_n 0, 1) := by decide +kernel
theorem dX8_shut_78 : decode cX8_shut 78 = .ok (.getfield 27, 3) := by decide +kernel
theorem dX8_shut_81 : decode cX8_shut 81 = .ok (.iload 4, 2) := by decide +kernel
theorem dX8_shut_83 : decode cX8_shut 83 = .ok (.invokevirtual 219, 3) := by decide +kernel
theorem dX8_shut_86 : decode cX8_shut 86 = .ok (.iconst (-1), 1) := by decide +kernel
theorem dX8_shut_87 : decode cX8_shut 87 = .ok (.ixor, 1) := by decide +kernel
theorem dX8_shut_88 : decode cX8_shut 88 = .ok (.iand, 1) := by decide +kernel
theorem dX8_shut_89 : decode cX8_shut 89 = .ok (.istore 5, 2) := by decide +kernel
theorem dX8_shut_91 : decode cX8_shut 91 = .ok (.iconst 0, 1) := by decide +kernel
theorem dX8_shut_92 : decode cX8_shut 92 = .ok (.istore 6, 2) := by decide +kernel
theorem dX8_shut_94 : decode cX8_shut 94 = .ok (.iload 6, 2) := by decide +kernel
theorem dX8_shut_96 : decode cX8_shut 96 = .ok (.aload_n 0, 1) := by decide +kernel
theorem dX8_shut_97 : decode cX8_shut 97 = .ok (.getfield 27, 3) := by decide +kernel
theorem dX8_shut_100 : decode cX8_shut 100 = .ok (.getfield 108, 3) := by decide +kernel
theorem dX8_shut_103 : decode cX8_shut 103 = .ok (.if_icmp .ge 34, 3) := by decide +kernel
theorem dX8_shut_106 : decode cX8_shut 106 = .ok (.aload_n 0, 1) := by decide +kernel
theorem dX8_shut_107 : decode cX8_shut 107 = .ok (.getfield 73, 3) := by decide +kernel
theorem dX8_shut_110 : decode cX8_shut 110 = .ok (.iload 6, 2) := by decide +kernel
theorem dX8_shut_112 : decode cX8_shut 112 = .ok (.iaload, 1) := by decide +kernel
theorem dX8_shut_113 : decode cX8_shut 113 = .ok (.iload_n 1, 1) := by decide +kernel
theorem dX8_shut_114 : decode cX8_shut 114 = .ok (.iand, 1) := by decide +kernel
theorem dX8_shut_115 : decode cX8_shut 115 = .ok (.invokestatic 152, 3) := by decide +kernel
theorem dX8_shut_118 : decode cX8_shut 118 = .ok (.iload_n 3, 1) := by decide +kernel
theorem dX8_shut_119 : decode cX8_shut 119 = .ok (.if_icmp .ge 12, 3) := by decide +kernel
theorem dX8_shut_122 : decode cX8_shut 122 = .ok (.iload 5, 2) := by decide +kernel
theorem dX8_shut_124 : decode cX8_shut 124 = .ok (.iconst 1, 1) := by decide +kernel
theorem dX8_shut_125 : decode cX8_shut 125 = .ok (.iload 6, 2) := by decide +kernel
theorem dX8_shut_127 : decode cX8_shut 127 = .ok (.ishl, 1) := by decide +kernel
theorem dX8_shut_128 : decode cX8_shut 128 = .ok (.ior, 1) := by decide +kernel
theorem dX8_shut_129 : decode cX8_shut 129 = .ok (.istore 5, 2) := by decide +kernel
theorem dX8_shut_131 : decode cX8_shut 131 = .ok (.iinc 6 1, 3) := by decide +kernel
theorem dX8_shut_134 : decode cX8_shut 134 = .ok (.goto (-40), 3) := by decide +kernel
theorem dX8_shut_137 : decode cX8_shut 137 = .ok (.iload 5, 2) := by decide +kernel
theorem dX8_shut_139 : decode cX8_shut 139 = .ok (.iload_n 1, 1) := by decide +kernel
theorem dX8_shut_140 : decode cX8_shut 140 = .ok (.iand, 1) := by decide +kernel
theorem dX8_shut_141 : decode cX8_shut 141 = .ok (.ireturn, 1) := by decide +kernel
theorem dX8_since_0 : decode cX8_since 0 = .ok (.aload_n 0, 1) := by decide +kernel
theorem dX8_since_1 : decode cX8_since 1 = .ok (.iload_n 1, 1) := by decide +kernel
theorem dX8_since_2 : decode cX8_since 2 = .ok (.iload_n 2, 1) := by decide +kernel
theorem dX8_since_3 : decode cX8_since 3 = .ok (.invokevirtual 134, 3) := by decide +kernel
theorem dX8_since_6 : decode cX8_since 6 = .ok (.ifCond .eq 15, 3) := by decide +kernel
theorem dX8_since_9 : decode cX8_since 9 = .ok (.aload_n 0, 1) := by decide +kernel
theorem dX8_since_10 : decode cX8_since 10 = .ok (.getfield 34, 3) := by decide +kernel
theorem dX8_since_13 : decode cX8_since 13 = .ok (.iload_n 1, 1) := by decide +kernel
theorem dX8_since_14 : decode cX8_since 14 = .ok (.iload_n 2, 1) := by decide +kernel
theorem dX8_since_15 : decode cX8_since 15 = .ok (.invokevirtual 117, 3) := by decide +kernel
theorem dX8_since_18 : decode cX8_since 18 = .ok (.goto 4, 3) := by decide +kernel
theorem dX8_since_21 : decode cX8_since 21 = .ok (.iconst (-1), 1) := by decide +kernel
theorem dX8_since_22 : decode cX8_since 22 = .ok (.ireturn, 1) := by decide +kernel
theorem dX8_size_0 : decode cX8_size 0 = .ok (.aload_n 0, 1) := by decide +kernel
theorem dX8_size_1 : decode cX8_size 1 = .ok (.invokevirtual 148, 3) := by decide +kernel
theorem dX8_size_4 : decode cX8_size 4 = .ok (.invokestatic 152, 3) := by decide +kernel
theorem dX8_size_7 : decode cX8_size 7 = .ok (.ireturn, 1) := by decide +kernel
theorem dX8_stands_0 : decode cX8_stands 0 = .ok (.aload_n 0, 1) := by decide +kernel
theorem dX8_stands_1 : decode cX8_stands 1 = .ok (.getfield 34, 3) := by decide +kernel
theorem dX8_stands_4 : decode cX8_stands 4 = .ok (.getfield 203, 3) := by decide +kernel
theorem dX8_stands_7 : decode cX8_stands 7 = .ok (.iload_n 1, 1) := by decide +kernel
theorem dX8_stands_8 : decode cX8_stands 8 = .ok (.invokevirtual 266, 3) := by decide +kernel
theorem dX8_stands_11 : decode cX8_stands 11 = .ok (.ireturn, 1) := by decide +kernel
theorem dX8_sure_0 : decode cX8_sure 0 = .ok (.aload_n 0, 1) := by decide +kernel
theorem dX8_sure_1 : decode cX8_sure 1 = .ok (.iload_n 1, 1) := by decide +kernel
theorem dX8_sure_2 : decode cX8_sure 2 = .ok (.invokevirtual 145, 3) := by decide +kernel
theorem dX8_sure_5 : decode cX8_sure 5 = .ok (.ifCond .ne 5, 3) := by decide +kernel
theorem dX8_sure_8 : decode cX8_sure 8 = .ok (.iconst (-1), 1) := by decide +kernel
theorem dX8_sure_9 : decode cX8_sure 9 = .ok (.ireturn, 1) := by decide +kernel
theorem dX8_sure_10 : decode cX8_sure 10 = .ok (.aload_n 0, 1) := by decide +kernel
theorem dX8_sure_11 : decode cX8_sure 11 = .ok (.invokevirtual 222, 3) := by decide +kernel
theorem dX8_sure_14 : decode cX8_sure 14 = .ok (.aload_n 0, 1) := by decide +kernel
theorem dX8_sure_15 : decode cX8_sure 15 = .ok (.getfield 45, 3) := by decide +kernel
theorem dX8_sure_18 : decode cX8_sure 18 = .ok (.aload_n 0, 1) := by decide +kernel
theorem dX8_sure_19 : decode cX8_sure 19 = .ok (.getfield 62, 3) := by decide +kernel
theorem dX8_sure_22 : decode cX8_sure 22 = .ok (.iload_n 2, 1) := by decide +kernel
theorem dX8_sure_23 : decode cX8_sure 23 = .ok (.invokevirtual 287, 3) := by decide +kernel
theorem dX8_sure_26 : decode cX8_sure 26 = .ok (.aload_n 0, 1) := by decide +kernel
theorem dX8_sure_27 : decode cX8_sure 27 = .ok (.getfield 62, 3) := by decide +kernel
theorem dX8_sure_30 : decode cX8_sure 30 = .ok (.iload_n 1, 1) := by decide +kernel
theorem dX8_sure_31 : decode cX8_sure 31 = .ok (.invokevirtual 291, 3) := by decide +kernel
theorem dX8_sure_34 : decode cX8_sure 34 = .ok (.ireturn, 1) := by decide +kernel
theorem dX8_take_0 : decode cX8_take 0 = .ok (.aload_n 0, 1) := by decide +kernel
theorem dX8_take_1 : decode cX8_take 1 = .ok (.getfield 56, 3) := by decide +kernel
theorem dX8_take_4 : decode cX8_take 4 = .ok (.getfield 77, 3) := by decide +kernel
theorem dX8_take_7 : decode cX8_take 7 = .ok (.iconst (-1), 1) := by decide +kernel
theorem dX8_take_8 : decode cX8_take 8 = .ok (.if_icmp .ne 5, 3) := by decide +kernel
theorem dX8_take_11 : decode cX8_take 11 = .ok (.iconst (-1), 1) := by decide +kernel
theorem dX8_take_12 : decode cX8_take 12 = .ok (.ireturn, 1) := by decide +kernel
theorem dX8_take_13 : decode cX8_take 13 = .ok (.aload_n 0, 1) := by decide +kernel
theorem dX8_take_14 : decode cX8_take 14 = .ok (.getfield 52, 3) := by decide +kernel
theorem dX8_take_17 : decode cX8_take 17 = .ok (.aload_n 0, 1) := by decide +kernel
theorem dX8_take_18 : decode cX8_take 18 = .ok (.getfield 56, 3) := by decide +kernel
theorem dX8_take_21 : decode cX8_take 21 = .ok (.invokevirtual 269, 3) := by decide +kernel
theorem dX8_take_24 : decode cX8_take 24 = .ok (.aload_n 0, 1) := by decide +kernel
theorem dX8_take_25 : decode cX8_take 25 = .ok (.getfield 52, 3) := by decide +kernel
theorem dX8_take_28 : decode cX8_take 28 = .ok (.getfield 77, 3) := by decide +kernel
theorem dX8_take_31 : decode cX8_take 31 = .ok (.ireturn, 1) := by decide +kernel
theorem dX8_tell_0 : decode cX8_tell 0 = .ok (.aload_n 0, 1) := by decide +kernel
theorem dX8_tell_1 : decode cX8_tell 1 = .ok (.iload_n 1, 1) := by decide +kernel
theorem dX8_tell_2 : decode cX8_tell 2 = .ok (.invokevirtual 145, 3) := by decide +kernel
theorem dX8_tell_5 : decode cX8_tell 5 = .ok (.ifCond .eq 14, 3) := by decide +kernel
theorem dX8_tell_8 : decode cX8_tell 8 = .ok (.aload_n 0, 1) := by decide +kernel
theorem dX8_tell_9 : decode cX8_tell 9 = .ok (.getfield 52, 3) := by decide +kernel
theorem dX8_tell_12 : decode cX8_tell 12 = .ok (.iload_n 1, 1) := by decide +kernel
theorem dX8_tell_13 : decode cX8_tell 13 = .ok (.invokevirtual 158, 3) := by decide +kernel
theorem dX8_tell_16 : decode cX8_tell 16 = .ok (.ifCond .eq 5, 3) := by decide +kernel
theorem dX8_tell_19 : decode cX8_tell 19 = .ok (.iconst (-1), 1) := by decide +kernel
theorem dX8_tell_20 : decode cX8_tell 20 = .ok (.ireturn, 1) := by decide +kernel
theorem dX8_tell_21 : decode cX8_tell 21 = .ok (.aload_n 0, 1) := by decide +kernel
theorem dX8_tell_22 : decode cX8_tell 22 = .ok (.getfield 52, 3) := by decide +kernel
theorem dX8_tell_25 : decode cX8_tell 25 = .ok (.iload_n 1, 1) := by decide +kernel
theorem dX8_tell_26 : decode cX8_tell 26 = .ok (.invokevirtual 161, 3) := by decide +kernel
theorem dX8_tell_29 : decode cX8_tell 29 = .ok (.aload_n 0, 1) := by decide +kernel
theorem dX8_tell_30 : decode cX8_tell 30 = .ok (.getfield 52, 3) := by decide +kernel
theorem dX8_tell_33 : decode cX8_tell 33 = .ok (.getfield 77, 3) := by decide +kernel
theorem dX8_tell_36 : decode cX8_tell 36 = .ok (.ireturn, 1) := by decide +kernel
theorem dX8_unlawfulPlace_0 : decode cX8_unlawfulPlace 0 = .ok (.iconst 0, 1) := by decide +kernel
theorem dX8_unlawfulPlace_1 : decode cX8_unlawfulPlace 1 = .ok (.istore_n 1, 1) := by decide +kernel
theorem dX8_unlawfulPlace_2 : decode cX8_unlawfulPlace 2 = .ok (.iload_n 1, 1) := by decide +kernel
theorem dX8_unlawfulPlace_3 : decode cX8_unlawfulPlace 3 = .ok (.aload_n 0, 1) := by decide +kernel
theorem dX8_unlawfulPlace_4 : decode cX8_unlawfulPlace 4 = .ok (.getfield 52, 3) := by decide +kernel
theorem dX8_unlawfulPlace_7 : decode cX8_unlawfulPlace 7 = .ok (.getfield 77, 3) := by decide +kernel
theorem dX8_unlawfulPlace_10 : decode cX8_unlawfulPlace 10 = .ok (.if_icmp .ge 76, 3) := by decide +kernel
theorem dX8_unlawfulPlace_13 : decode cX8_unlawfulPlace 13 = .ok (.aload_n 0, 1) := by decide +kernel
theorem dX8_unlawfulPlace_14 : decode cX8_unlawfulPlace 14 = .ok (.getfield 52, 3) := by decide +kernel
theorem dX8_unlawfulPlace_17 : decode cX8_unlawfulPlace 17 = .ok (.getfield 175, 3) := by decide +kernel
theorem dX8_unlawfulPlace_20 : decode cX8_unlawfulPlace 20 = .ok (.iload_n 1, 1) := by decide +kernel
theorem dX8_unlawfulPlace_21 : decode cX8_unlawfulPlace 21 = .ok (.iaload, 1) := by decide +kernel
theorem dX8_unlawfulPlace_22 : decode cX8_unlawfulPlace 22 = .ok (.istore_n 2, 1) := by decide +kernel
theorem dX8_unlawfulPlace_23 : decode cX8_unlawfulPlace 23 = .ok (.aload_n 0, 1) := by decide +kernel
theorem dX8_unlawfulPlace_24 : decode cX8_unlawfulPlace 24 = .ok (.getfield 27, 3) := by decide +kernel
theorem dX8_unlawfulPlace_27 : decode cX8_unlawfulPlace 27 = .ok (.getfield 177, 3) := by decide +kernel
theorem dX8_unlawfulPlace_30 : decode cX8_unlawfulPlace 30 = .ok (.iload_n 2, 1) := by decide +kernel
theorem dX8_unlawfulPlace_31 : decode cX8_unlawfulPlace 31 = .ok (.iaload, 1) := by decide +kernel
theorem dX8_unlawfulPlace_32 : decode cX8_unlawfulPlace 32 = .ok (.aload_n 0, 1) := by decide +kernel
theorem dX8_unlawfulPlace_33 : decode cX8_unlawfulPlace 33 = .ok (.getfield 27, 3) := by decide +kernel
theorem dX8_unlawfulPlace_36 : decode cX8_unlawfulPlace 36 = .ok (.getfield 180, 3) := by decide +kernel
theorem dX8_unlawfulPlace_39 : decode cX8_unlawfulPlace 39 = .ok (.iload_n 1, 1) := by decide +kernel
theorem dX8_unlawfulPlace_40 : decode cX8_unlawfulPlace 40 = .ok (.iaload, 1) := by decide +kernel
theorem dX8_unlawfulPlace_41 : decode cX8_unlawfulPlace 41 = .ok (.if_icmp .le 5, 3) := by decide +kernel
theorem dX8_unlawfulPlace_44 : decode cX8_unlawfulPlace 44 = .ok (.iload_n 1, 1) := by decide +kernel
theorem dX8_unlawfulPlace_45 : decode cX8_unlawfulPlace 45 = .ok (.ireturn, 1) := by decide +kernel
theorem dX8_unlawfulPlace_46 : decode cX8_unlawfulPlace 46 = .ok (.aload_n 0, 1) := by decide +kernel
theorem dX8_unlawfulPlace_47 : decode cX8_unlawfulPlace 47 = .ok (.iload_n 1, 1) := by decide +kernel
theorem dX8_unlawfulPlace_48 : decode cX8_unlawfulPlace 48 = .ok (.invokevirtual 183, 3) := by decide +kernel
theorem dX8_unlawfulPlace_51 : decode cX8_unlawfulPlace 51 = .ok (.istore_n 3, 1) := by decide +kernel
theorem dX8_unlawfulPlace_52 : decode cX8_unlawfulPlace 52 = .ok (.iload_n 3, 1) := by decide +kernel
theorem dX8_unlawfulPlace_53 : decode cX8_unlawfulPlace 53 = .ok (.iconst (-1), 1) := by decide +kernel
theorem dX8_unlawfulPlace_54 : decode cX8_unlawfulPlace 54 = .ok (.if_icmp .eq 26, 3) := by decide +kernel
theorem dX8_unlawfulPlace_57 : decode cX8_unlawfulPlace 57 = .ok (.aload_n 0, 1) := by decide +kernel
theorem dX8_unlawfulPlace_58 : decode cX8_unlawfulPlace 58 = .ok (.getfield 73, 3) := by decide +kernel
theorem dX8_unlawfulPlace_61 : decode cX8_unlawfulPlace 61 = .ok (.iload_n 2, 1) := by decide +kernel
theorem dX8_unlawfulPlace_62 : decode cX8_unlawfulPlace 62 = .ok (.iaload, 1) := by decide +kernel
theorem dX8_unlawfulPlace_63 : decode cX8_unlawfulPlace 63 = .ok (.aload_n 0, 1) := by decide +kernel
theorem dX8_unlawfulPlace_64 : decode cX8_unlawfulPlace 64 = .ok (.getfield 52, 3) := by decide +kernel
theorem dX8_unlawfulPlace_67 : decode cX8_unlawfulPlace 67 = .ok (.getfield 175, 3) := by decide +kernel
theorem dX8_unlawfulPlace_70 : decode cX8_unlawfulPlace 70 = .ok (.iload_n 3, 1) := by decide +kernel
theorem dX8_unlawfulPlace_71 : decode cX8_unlawfulPlace 71 = .ok (.iaload, 1) := by decide +kernel
theorem dX8_unlawfulPlace_72 : decode cX8_unlawfulPlace 72 = .ok (.ishr, 1) := by decide +kernel
theorem dX8_unlawfulPlace_73 : decode cX8_unlawfulPlace 73 = .ok (.iconst 1, 1) := by decide +kernel
theorem dX8_unlawfulPlace_74 : decode cX8_unlawfulPlace 74 = .ok (.iand, 1) := by decide +kernel
theorem dX8_unlawfulPlace_75 : decode cX8_unlawfulPlace 75 = .ok (.ifCond .ne 5, 3) := by decide +kernel
theorem dX8_unlawfulPlace_78 : decode cX8_unlawfulPlace 78 = .ok (.iload_n 1, 1) := by decide +kernel
theorem dX8_unlawfulPlace_79 : decode cX8_unlawfulPlace 79 = .ok (.ireturn, 1) := by decide +kernel
theorem dX8_unlawfulPlace_80 : decode cX8_unlawfulPlace 80 = .ok (.iinc 1 1, 3) := by decide +kernel
theorem dX8_unlawfulPlace_83 : decode cX8_unlawfulPlace 83 = .ok (.goto (-81), 3) := by decide +kernel
theorem dX8_unlawfulPlace_86 : decode cX8_unlawfulPlace 86 = .ok (.iconst (-1), 1) := by decide +kernel
theorem dX8_unlawfulPlace_87 : decode cX8_unlawfulPlace 87 = .ok (.ireturn, 1) := by decide +kernel
theorem dX8_untell_0 : decode cX8_untell 0 = .ok (.aload_n 0, 1) := by decide +kernel
theorem dX8_untell_1 : decode cX8_untell 1 = .ok (.getfield 45, 3) := by decide +kernel
theorem dX8_untell_4 : decode cX8_untell 4 = .ok (.iload_n 1, 1) := by decide +kernel
theorem dX8_untell_5 : decode cX8_untell 5 = .ok (.invokevirtual 280, 3) := by decide +kernel
theorem dX8_untell_8 : decode cX8_untell 8 = .ok (.ireturn, 1) := by decide +kernel
theorem dX8_up_0 : decode cX8_up 0 = .ok (.aload_n 0, 1) := by decide +kernel
theorem dX8_up_1 : decode cX8_up 1 = .ok (.getfield 52, 3) := by decide +kernel
theorem dX8_up_4 : decode cX8_up 4 = .ok (.getfield 77, 3) := by decide +kernel
theorem dX8_up_7 : decode cX8_up 7 = .ok (.aload_n 0, 1) := by decide +kernel
theorem dX8_up_8 : decode cX8_up 8 = .ok (.invokevirtual 164, 3) := by decide +kernel
theorem dX8_up_11 : decode cX8_up 11 = .ok (.if_icmp .ne 24, 3) := by decide +kernel
theorem dX8_up_14 : decode cX8_up 14 = .ok (.aload_n 0, 1) := by decide +kernel
theorem dX8_up_15 : decode cX8_up 15 = .ok (.getfield 34, 3) := by decide +kernel
theorem dX8_up_18 : decode cX8_up 18 = .ok (.getfield 121, 3) := by decide +kernel
theorem dX8_up_21 : decode cX8_up 21 = .ok (.sipush 200, 3) := by decide +kernel
theorem dX8_up_24 : decode cX8_up 24 = .ok (.if_icmp .ge 11, 3) := by decide +kernel
theorem dX8_up_27 : decode cX8_up 27 = .ok (.aload_n 0, 1) := by decide +kernel
theorem dX8_up_28 : decode cX8_up 28 = .ok (.invokevirtual 166, 3) := by decide +kernel
theorem dX8_up_31 : decode cX8_up 31 = .ok (.iconst (-1), 1) := by decide +kernel
theorem dX8_up_32 : decode cX8_up 32 = .ok (.if_icmp .eq 5, 3) := by decide +kernel
theorem dX8_up_35 : decode cX8_up 35 = .ok (.iconst (-1), 1) := by decide +kernel
theorem dX8_up_36 : decode cX8_up 36 = .ok (.ireturn, 1) := by decide +kernel
theorem dX8_up_37 : decode cX8_up 37 = .ok (.aload_n 0, 1) := by decide +kernel
theorem dX8_up_38 : decode cX8_up 38 = .ok (.getfield 34, 3) := by decide +kernel
theorem dX8_up_41 : decode cX8_up 41 = .ok (.dup, 1) := by decide +kernel
theorem dX8_up_42 : decode cX8_up 42 = .ok (.getfield 121, 3) := by decide +kernel
theorem dX8_up_45 : decode cX8_up 45 = .ok (.iconst 1, 1) := by decide +kernel
theorem dX8_up_46 : decode cX8_up 46 = .ok (.iadd, 1) := by decide +kernel
theorem dX8_up_47 : decode cX8_up 47 = .ok (.putfield 121, 3) := by decide +kernel
theorem dX8_up_50 : decode cX8_up 50 = .ok (.iconst 0, 1) := by decide +kernel
theorem dX8_up_51 : decode cX8_up 51 = .ok (.istore_n 1, 1) := by decide +kernel
theorem dX8_up_52 : decode cX8_up 52 = .ok (.iload_n 1, 1) := by decide +kernel
theorem dX8_up_53 : decode cX8_up 53 = .ok (.aload_n 0, 1) := by decide +kernel
theorem dX8_up_54 : decode cX8_up 54 = .ok (.getfield 52, 3) := by decide +kernel
theorem dX8_up_57 : decode cX8_up 57 = .ok (.getfield 77, 3) := by decide +kernel
theorem dX8_up_60 : decode cX8_up 60 = .ok (.if_icmp .ge 45, 3) := by decide +kernel
theorem dX8_up_63 : decode cX8_up 63 = .ok (.aload_n 0, 1) := by decide +kernel
theorem dX8_up_64 : decode cX8_up 64 = .ok (.iload_n 1, 1) := by decide +kernel
theorem dX8_up_65 : decode cX8_up 65 = .ok (.invokevirtual 183, 3) := by decide +kernel
theorem dX8_up_68 : decode cX8_up 68 = .ok (.istore_n 2, 1) := by decide +kernel
theorem dX8_up_69 : decode cX8_up 69 = .ok (.iload_n 2, 1) := by decide +kernel
theorem dX8_up_70 : decode cX8_up 70 = .ok (.iconst (-1), 1) := by decide +kernel
theorem dX8_up_71 : decode cX8_up 71 = .ok (.if_icmp .eq 28, 3) := by decide +kernel
theorem dX8_up_74 : decode cX8_up 74 = .ok (.aload_n 0, 1) := by decide +kernel
theorem dX8_up_75 : decode cX8_up 75 = .ok (.getfield 34, 3) := by decide +kernel
theorem dX8_up_78 : decode cX8_up 78 = .ok (.aload_n 0, 1) := by decide +kernel
theorem dX8_up_79 : decode cX8_up 79 = .ok (.getfield 52, 3) := by decide +kernel
theorem dX8_up_82 : decode cX8_up 82 = .ok (.getfield 175, 3) := by decide +kernel
theorem dX8_up_85 : decode cX8_up 85 = .ok (.iload_n 1, 1) := by decide +kernel
theorem dX8_up_86 : decode cX8_up 86 = .ok (.iaload, 1) := by decide +kernel
theorem dX8_up_87 : decode cX8_up 87 = .ok (.aload_n 0, 1) := by decide +kernel
theorem dX8_up_88 : decode cX8_up 88 = .ok (.getfield 52, 3) := by decide +kernel
theorem dX8_up_91 : decode cX8_up 91 = .ok (.getfield 175, 3) := by decide +kernel
theorem dX8_up_94 : decode cX8_up 94 = .ok (.iload_n 2, 1) := by decide +kernel
theorem dX8_up_95 : decode cX8_up 95 = .ok (.iaload, 1) := by decide +kernel
theorem dX8_up_96 : decode cX8_up 96 = .ok (.invokevirtual 273, 3) := by decide +kernel
theorem dX8_up_99 : decode cX8_up 99 = .ok (.iinc 1 1, 3) := by decide +kernel
theorem dX8_up_102 : decode cX8_up 102 = .ok (.goto (-50), 3) := by decide +kernel
theorem dX8_up_105 : decode cX8_up 105 = .ok (.aload_n 0, 1) := by decide +kernel
theorem dX8_up_106 : decode cX8_up 106 = .ok (.getfield 34, 3) := by decide +kernel
theorem dX8_up_109 : decode cX8_up 109 = .ok (.getfield 203, 3) := by decide +kernel
theorem dX8_up_112 : decode cX8_up 112 = .ok (.aload_n 0, 1) := by decide +kernel
theorem dX8_up_113 : decode cX8_up 113 = .ok (.getfield 52, 3) := by decide +kernel
theorem dX8_up_116 : decode cX8_up 116 = .ok (.invokevirtual 269, 3) := by decide +kernel
theorem dX8_up_119 : decode cX8_up 119 = .ok (.aload_n 0, 1) := by decide +kernel
theorem dX8_up_120 : decode cX8_up 120 = .ok (.getfield 52, 3) := by decide +kernel
theorem dX8_up_123 : decode cX8_up 123 = .ok (.iconst 0, 1) := by decide +kernel
theorem dX8_up_124 : decode cX8_up 124 = .ok (.putfield 77, 3) := by decide +kernel
theorem dX8_up_127 : decode cX8_up 127 = .ok (.aload_n 0, 1) := by decide +kernel
theorem dX8_up_128 : decode cX8_up 128 = .ok (.invokevirtual 105, 3) := by decide +kernel
theorem dX8_up_131 : decode cX8_up 131 = .ok (.aload_n 0, 1) := by decide +kernel
theorem dX8_up_132 : decode cX8_up 132 = .ok (.getfield 34, 3) := by decide +kernel
theorem dX8_up_135 : decode cX8_up 135 = .ok (.getfield 121, 3) := by decide +kernel
theorem dX8_up_138 : decode cX8_up 138 = .ok (.ireturn, 1) := by decide +kernel
theorem dX8_valley_0 : decode cX8_valley 0 = .ok (.aload_n 0, 1) := by decide +kernel
theorem dX8_valley_1 : decode cX8_valley 1 = .ok (.getfield 20, 3) := by decide +kernel
theorem dX8_valley_4 : decode cX8_valley 4 = .ok (.aload_n 0, 1) := by decide +kernel
theorem dX8_valley_5 : decode cX8_valley 5 = .ok (.getfield 9, 3) := by decide +kernel
theorem dX8_valley_8 : decode cX8_valley 8 = .ok (.aload_n 0, 1) := by decide +kernel
theorem dX8_valley_9 : decode cX8_valley 9 = .ok (.getfield 13, 3) := by decide +kernel
theorem dX8_valley_12 : decode cX8_valley 12 = .ok (.invokevirtual 84, 3) := by decide +kernel
theorem dX8_valley_15 : decode cX8_valley 15 = .ok (.ifCond .ne 5, 3) := by decide +kernel
theorem dX8_valley_18 : decode cX8_valley 18 = .ok (.iconst (-1), 1) := by decide +kernel
theorem dX8_valley_19 : decode cX8_valley 19 = .ok (.ireturn, 1) := by decide +kernel
theorem dX8_valley_20 : decode cX8_valley 20 = .ok (.aload_n 0, 1) := by decide +kernel
theorem dX8_valley_21 : decode cX8_valley 21 = .ok (.aload_n 0, 1) := by decide +kernel
theorem dX8_valley_22 : decode cX8_valley 22 = .ok (.getfield 20, 3) := by decide +kernel
theorem dX8_valley_25 : decode cX8_valley 25 = .ok (.aload_n 0, 1) := by decide +kernel
theorem dX8_valley_26 : decode cX8_valley 26 = .ok (.getfield 27, 3) := by decide +kernel
theorem dX8_valley_29 : decode cX8_valley 29 = .ok (.invokevirtual 88, 3) := by decide +kernel
theorem dX8_valley_32 : decode cX8_valley 32 = .ok (.putfield 27, 3) := by decide +kernel
theorem dX8_valley_35 : decode cX8_valley 35 = .ok (.aload_n 0, 1) := by decide +kernel
theorem dX8_valley_36 : decode cX8_valley 36 = .ok (.iconst 0, 1) := by decide +kernel
theorem dX8_valley_37 : decode cX8_valley 37 = .ok (.putfield 13, 3) := by decide +kernel
theorem dX8_valley_40 : decode cX8_valley 40 = .ok (.aload_n 0, 1) := by decide +kernel
theorem dX8_valley_41 : decode cX8_valley 41 = .ok (.getfield 34, 3) := by decide +kernel
theorem dX8_valley_44 : decode cX8_valley 44 = .ok (.invokevirtual 92, 3) := by decide +kernel
theorem dX8_valley_47 : decode cX8_valley 47 = .ok (.aload_n 0, 1) := by decide +kernel
theorem dX8_valley_48 : decode cX8_valley 48 = .ok (.getfield 45, 3) := by decide +kernel
theorem dX8_valley_51 : decode cX8_valley 51 = .ok (.iconst 0, 1) := by decide +kernel
theorem dX8_valley_52 : decode cX8_valley 52 = .ok (.putfield 95, 3) := by decide +kernel
theorem dX8_valley_55 : decode cX8_valley 55 = .ok (.iconst 0, 1) := by decide +kernel
theorem dX8_valley_56 : decode cX8_valley 56 = .ok (.istore_n 1, 1) := by decide +kernel
theorem dX8_valley_57 : decode cX8_valley 57 = .ok (.iload_n 1, 1) := by decide +kernel
theorem dX8_valley_58 : decode cX8_valley 58 = .ok (.iconst 3, 1) := by decide +kernel
theorem dX8_valley_59 : decode cX8_valley 59 = .ok (.if_icmp .ge 19, 3) := by decide +kernel
theorem dX8_valley_62 : decode cX8_valley 62 = .ok (.aload_n 0, 1) := by decide +kernel
theorem dX8_valley_63 : decode cX8_valley 63 = .ok (.getfield 38, 3) := by decide +kernel
theorem dX8_valley_66 : decode cX8_valley 66 = .ok (.iload_n 1, 1) := by decide +kernel
theorem dX8_valley_67 : decode cX8_valley 67 = .ok (.aaload, 1) := by decide +kernel
theorem dX8_valley_68 : decode cX8_valley 68 = .ok (.iconst 0, 1) := by decide +kernel
theorem dX8_valley_69 : decode cX8_valley 69 = .ok (.putfield 98, 3) := by decide +kernel
theorem dX8_valley_72 : decode cX8_valley 72 = .ok (.iinc 1 1, 3) := by decide +kernel
theorem dX8_valley_75 : decode cX8_valley 75 = .ok (.goto (-18), 3) := by decide +kernel
theorem dX8_valley_78 : decode cX8_valley 78 = .ok (.aload_n 0, 1) := by decide +kernel
theorem dX8_valley_79 : decode cX8_valley 79 = .ok (.invokevirtual 102, 3) := by decide +kernel
theorem dX8_valley_82 : decode cX8_valley 82 = .ok (.aload_n 0, 1) := by decide +kernel
theorem dX8_valley_83 : decode cX8_valley 83 = .ok (.invokevirtual 105, 3) := by decide +kernel
theorem dX8_valley_86 : decode cX8_valley 86 = .ok (.aload_n 0, 1) := by decide +kernel
theorem dX8_valley_87 : decode cX8_valley 87 = .ok (.getfield 27, 3) := by decide +kernel
theorem dX8_valley_90 : decode cX8_valley 90 = .ok (.getfield 108, 3) := by decide +kernel
theorem dX8_valley_93 : decode cX8_valley 93 = .ok (.ireturn, 1) := by decide +kernel
theorem dX8_worthOfTold_0 : decode cX8_worthOfTold 0 = .ok (.iconst 0, 1) := by decide +kernel
theorem dX8_worthOfTold_1 : decode cX8_worthOfTold 1 = .ok (.istore_n 1, 1) := by decide +kernel
theorem dX8_worthOfTold_2 : decode cX8_worthOfTold 2 = .ok (.iconst 0, 1) := by decide +kernel
theorem dX8_worthOfTold_3 : decode cX8_worthOfTold 3 = .ok (.istore_n 2, 1) := by decide +kernel
theorem dX8_worthOfTold_4 : decode cX8_worthOfTold 4 = .ok (.iload_n 2, 1) := by decide +kernel
theorem dX8_worthOfTold_5 : decode cX8_worthOfTold 5 = .ok (.aload_n 0, 1) := by decide +kernel
theorem dX8_worthOfTold_6 : decode cX8_worthOfTold 6 = .ok (.getfield 52, 3) := by decide +kernel
theorem dX8_worthOfTold_9 : decode cX8_worthOfTold 9 = .ok (.getfield 77, 3) := by decide +kernel
theorem dX8_worthOfTold_12 : decode cX8_worthOfTold 12 = .ok (.if_icmp .ge 53, 3) := by decide +kernel
theorem dX8_worthOfTold_15 : decode cX8_worthOfTold 15 = .ok (.aload_n 0, 1) := by decide +kernel
theorem dX8_worthOfTold_16 : decode cX8_worthOfTold 16 = .ok (.iload_n 2, 1) := by decide +kernel
theorem dX8_worthOfTold_17 : decode cX8_worthOfTold 17 = .ok (.invokevirtual 183, 3) := by decide +kernel
theorem dX8_worthOfTold_20 : decode cX8_worthOfTold 20 = .ok (.istore_n 3, 1) := by decide +kernel
theorem dX8_worthOfTold_21 : decode cX8_worthOfTold 21 = .ok (.iload_n 3, 1) := by decide +kernel
theorem dX8_worthOfTold_22 : decode cX8_worthOfTold 22 = .ok (.iconst (-1), 1) := by decide +kernel
theorem dX8_worthOfTold_23 : decode cX8_worthOfTold 23 = .ok (.if_icmp .eq 36, 3) := by decide +kernel
theorem dX8_worthOfTold_26 : decode cX8_worthOfTold 26 = .ok (.iload_n 1, 1) := by decide +kernel
theorem dX8_worthOfTold_27 : decode cX8_worthOfTold 27 = .ok (.aload_n 0, 1) := by decide +kernel
theorem dX8_worthOfTold_28 : decode cX8_worthOfTold 28 = .ok (.getfield 27, 3) := by decide +kernel
theorem dX8_worthOfTold_31 : decode cX8_worthOfTold 31 = .ok (.getfield 189, 3) := by decide +kernel
theorem dX8_worthOfTold_34 : decode cX8_worthOfTold 34 = .ok (.aload_n 0, 1) := by decide +kernel
theorem dX8_worthOfTold_35 : decode cX8_worthOfTold 35 = .ok (.getfield 52, 3) := by decide +kernel
theorem dX8_worthOfTold_38 : decode cX8_worthOfTold 38 = .ok (.getfield 175, 3) := by decide +kernel
theorem dX8_worthOfTold_41 : decode cX8_worthOfTold 41 = .ok (.iload_n 2, 1) := by decide +kernel
theorem dX8_worthOfTold_42 : decode cX8_worthOfTold 42 = .ok (.iaload, 1) := by decide +kernel
theorem dX8_worthOfTold_43 : decode cX8_worthOfTold 43 = .ok (.bipush 9, 2) := by decide +kernel
theorem dX8_worthOfTold_45 : decode cX8_worthOfTold 45 = .ok (.imul, 1) := by decide +kernel
theorem dX8_worthOfTold_46 : decode cX8_worthOfTold 46 = .ok (.aload_n 0, 1) := by decide +kernel
theorem dX8_worthOfTold_47 : decode cX8_worthOfTold 47 = .ok (.getfield 52, 3) := by decide +kernel
theorem dX8_worthOfTold_50 : decode cX8_worthOfTold 50 = .ok (.getfield 175, 3) := by decide +kernel
theorem dX8_worthOfTold_53 : decode cX8_worthOfTold 53 = .ok (.iload_n 3, 1) := by decide +kernel
theorem dX8_worthOfTold_54 : decode cX8_worthOfTold 54 = .ok (.iaload, 1) := by decide +kernel
theorem dX8_worthOfTold_55 : decode cX8_worthOfTold 55 = .ok (.iadd, 1) := by decide +kernel
theorem dX8_worthOfTold_56 : decode cX8_worthOfTold 56 = .ok (.iaload, 1) := by decide +kernel
theorem dX8_worthOfTold_57 : decode cX8_worthOfTold 57 = .ok (.iadd, 1) := by decide +kernel
theorem dX8_worthOfTold_58 : decode cX8_worthOfTold 58 = .ok (.istore_n 1, 1) := by decide +kernel
theorem dX8_worthOfTold_59 : decode cX8_worthOfTold 59 = .ok (.iinc 2 1, 3) := by decide +kernel
theorem dX8_worthOfTold_62 : decode cX8_worthOfTold 62 = .ok (.goto (-58), 3) := by decide +kernel
theorem dX8_worthOfTold_65 : decode cX8_worthOfTold 65 = .ok (.iload_n 1, 1) := by decide +kernel
theorem dX8_worthOfTold_66 : decode cX8_worthOfTold 66 = .ok (.ireturn, 1) := by decide +kernel
