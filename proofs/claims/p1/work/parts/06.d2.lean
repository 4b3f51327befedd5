theorem dX7_pick_10 : decode cX7_pick 10 = .ok (.ifCond .ne 7, 3) := by decide +kernel
theorem dX7_pick_13 : decode cX7_pick 13 = .ok (.iconst 0, 1) := by decide +kernel
theorem dX7_pick_14 : decode cX7_pick 14 = .ok (.goto 4, 3) := by decide +kernel
theorem dX7_pick_18 : decode cX7_pick 18 = .ok (.putfield 71, 3) := by decide +kernel
theorem dX7_pick_21 : decode cX7_pick 21 = .ok (.iload_n 1, 1) := by decide +kernel
theorem dX7_pick_22 : decode cX7_pick 22 = .ok (.istore_n 3, 1) := by decide +kernel
theorem dX7_pick_23 : decode cX7_pick 23 = .ok (.iconst 0, 1) := by decide +kernel
theorem dX7_pick_24 : decode cX7_pick 24 = .ok (.istore 4, 2) := by decide +kernel
theorem dX7_pick_26 : decode cX7_pick 26 = .ok (.iload 4, 2) := by decide +kernel
theorem dX7_pick_28 : decode cX7_pick 28 = .ok (.bipush 9, 2) := by decide +kernel
theorem dX7_pick_30 : decode cX7_pick 30 = .ok (.if_icmp .ge 45, 3) := by decide +kernel
theorem dX7_pick_33 : decode cX7_pick 33 = .ok (.aload_n 2, 1) := by decide +kernel
theorem dX7_pick_34 : decode cX7_pick 34 = .ok (.getfield 71, 3) := by decide +kernel
theorem dX7_pick_37 : decode cX7_pick 37 = .ok (.iconst (-1), 1) := by decide +kernel
theorem dX7_pick_38 : decode cX7_pick 38 = .ok (.if_icmp .ne 37, 3) := by decide +kernel
theorem dX7_pick_75 : decode cX7_pick 75 = .ok (.return_, 1) := by decide +kernel
theorem dX8_about_0 : decode cX8_about 0 = .ok (.iload_n 1, 1) := by decide +kernel
theorem dX8_about_1 : decode cX8_about 1 = .ok (.tableswitch 140 0 9 #[55, 63, 68, 76, 84, 92, 100, 105, 113, 124], 55) := by decide +kernel
theorem dX8_about_56 : decode cX8_about 56 = .ok (.aload_n 0, 1) := by decide +kernel
theorem dX8_about_57 : decode cX8_about 57 = .ok (.getfield 27, 3) := by decide +kernel
theorem dX8_about_60 : decode cX8_about 60 = .ok (.getfield 108, 3) := by decide +kernel
theorem dX8_about_63 : decode cX8_about 63 = .ok (.ireturn, 1) := by decide +kernel
theorem dX8_about_64 : decode cX8_about 64 = .ok (.aload_n 0, 1) := by decide +kernel
theorem dX8_about_65 : decode cX8_about 65 = .ok (.invokevirtual 164, 3) := by decide +kernel
theorem dX8_about_68 : decode cX8_about 68 = .ok (.ireturn, 1) := by decide +kernel
theorem dX8_about_69 : decode cX8_about 69 = .ok (.aload_n 0, 1) := by decide +kernel
theorem dX8_about_70 : decode cX8_about 70 = .ok (.getfield 34, 3) := by decide +kernel
theorem dX8_about_73 : decode cX8_about 73 = .ok (.getfield 121, 3) := by decide +kernel
theorem dX8_about_76 : decode cX8_about 76 = .ok (.ireturn, 1) := by decide +kernel
theorem dX8_about_77 : decode cX8_about 77 = .ok (.aload_n 0, 1) := by decide +kernel
theorem dX8_about_78 : decode cX8_about 78 = .ok (.getfield 52, 3) := by decide +kernel
theorem dX8_about_81 : decode cX8_about 81 = .ok (.getfield 77, 3) := by decide +kernel
theorem dX8_about_84 : decode cX8_about 84 = .ok (.ireturn, 1) := by decide +kernel
theorem dX8_about_85 : decode cX8_about 85 = .ok (.aload_n 0, 1) := by decide +kernel
theorem dX8_about_86 : decode cX8_about 86 = .ok (.getfield 45, 3) := by decide +kernel
theorem dX8_about_89 : decode cX8_about 89 = .ok (.getfield 95, 3) := by decide +kernel
theorem dX8_about_92 : decode cX8_about 92 = .ok (.ireturn, 1) := by decide +kernel
theorem dX8_about_93 : decode cX8_about 93 = .ok (.aload_n 0, 1) := by decide +kernel
theorem dX8_about_94 : decode cX8_about 94 = .ok (.getfield 45, 3) := by decide +kernel
theorem dX8_about_97 : decode cX8_about 97 = .ok (.getfield 283, 3) := by decide +kernel
theorem dX8_about_100 : decode cX8_about 100 = .ok (.ireturn, 1) := by decide +kernel
theorem dX8_about_101 : decode cX8_about 101 = .ok (.aload_n 0, 1) := by decide +kernel
theorem dX8_about_102 : decode cX8_about 102 = .ok (.getfield 13, 3) := by decide +kernel
theorem dX8_about_105 : decode cX8_about 105 = .ok (.ireturn, 1) := by decide +kernel
theorem dX8_about_106 : decode cX8_about 106 = .ok (.aload_n 0, 1) := by decide +kernel
theorem dX8_about_107 : decode cX8_about 107 = .ok (.getfield 34, 3) := by decide +kernel
theorem dX8_about_110 : decode cX8_about 110 = .ok (.getfield 243, 3) := by decide +kernel
theorem dX8_about_113 : decode cX8_about 113 = .ok (.ireturn, 1) := by decide +kernel
theorem dX8_about_114 : decode cX8_about 114 = .ok (.aload_n 0, 1) := by decide +kernel
theorem dX8_about_115 : decode cX8_about 115 = .ok (.getfield 27, 3) := by decide +kernel
theorem dX8_about_118 : decode cX8_about 118 = .ok (.getfield 297, 3) := by decide +kernel
theorem dX8_about_121 : decode cX8_about 121 = .ok (.getfield 301, 3) := by decide +kernel
theorem dX8_about_124 : decode cX8_about 124 = .ok (.ireturn, 1) := by decide +kernel
theorem dX8_about_125 : decode cX8_about 125 = .ok (.aload_n 0, 1) := by decide +kernel
theorem dX8_about_126 : decode cX8_about 126 = .ok (.getfield 27, 3) := by decide +kernel
theorem dX8_about_129 : decode cX8_about 129 = .ok (.getfield 186, 3) := by decide +kernel
theorem dX8_about_132 : decode cX8_about 132 = .ok (.ifCond .eq 7, 3) := by decide +kernel
theorem dX8_about_139 : decode cX8_about 139 = .ok (.iconst 0, 1) := by decide +kernel
theorem dX8_about_140 : decode cX8_about 140 = .ok (.ireturn, 1) := by decide +kernel
theorem dX8_about_141 : decode cX8_about 141 = .ok (.iconst (-1), 1) := by decide +kernel
theorem dX8_about_142 : decode cX8_about 142 = .ok (.ireturn, 1) := by decide +kernel
theorem dX8_askLawful_0 : decode cX8_askLawful 0 = .ok (.aload_n 0, 1) := by decide +kernel
theorem dX8_askLawful_1 : decode cX8_askLawful 1 = .ok (.invokevirtual 148, 3) := by decide +kernel
theorem dX8_askLawful_4 : decode cX8_askLawful 4 = .ok (.istore_n 1, 1) := by decide +kernel
theorem dX8_askLawful_5 : decode cX8_askLawful 5 = .ok (.aload_n 0, 1) := by decide +kernel
theorem dX8_askLawful_6 : decode cX8_askLawful 6 = .ok (.getfield 62, 3) := by decide +kernel
theorem dX8_askLawful_9 : decode cX8_askLawful 9 = .ok (.iload_n 1, 1) := by decide +kernel
theorem dX8_askLawful_10 : decode cX8_askLawful 10 = .ok (.aload_n 0, 1) := by decide +kernel
theorem dX8_askLawful_11 : decode cX8_askLawful 11 = .ok (.getfield 27, 3) := by decide +kernel
theorem dX8_askLawful_14 : decode cX8_askLawful 14 = .ok (.getfield 186, 3) := by decide +kernel
theorem dX8_askLawful_17 : decode cX8_askLawful 17 = .ok (.ifCond .ne 7, 3) := by decide +kernel
theorem dX8_askLawful_20 : decode cX8_askLawful 20 = .ok (.iconst 1, 1) := by decide +kernel
theorem dX8_askLawful_21 : decode cX8_askLawful 21 = .ok (.goto 4, 3) := by decide +kernel
theorem dX8_askLawful_25 : decode cX8_askLawful 25 = .ok (.invokevirtual 209, 3) := by decide +kernel
theorem dX8_askLawful_28 : decode cX8_askLawful 28 = .ok (.iconst 0, 1) := by decide +kernel
theorem dX8_askLawful_29 : decode cX8_askLawful 29 = .ok (.istore_n 2, 1) := by decide +kernel
theorem dX8_askLawful_30 : decode cX8_askLawful 30 = .ok (.iload_n 2, 1) := by decide +kernel
theorem dX8_askLawful_31 : decode cX8_askLawful 31 = .ok (.aload_n 0, 1) := by decide +kernel
theorem dX8_askLawful_32 : decode cX8_askLawful 32 = .ok (.getfield 27, 3) := by decide +kernel
theorem dX8_askLawful_35 : decode cX8_askLawful 35 = .ok (.getfield 108, 3) := by decide +kernel
theorem dX8_askLawful_38 : decode cX8_askLawful 38 = .ok (.if_icmp .ge 26, 3) := by decide +kernel
theorem dX8_askLawful_64 : decode cX8_askLawful 64 = .ok (.iconst 0, 1) := by decide +kernel
theorem dX8_askLawful_65 : decode cX8_askLawful 65 = .ok (.istore_n 2, 1) := by decide +kernel
theorem dX8_askLawful_66 : decode cX8_askLawful 66 = .ok (.iload_n 2, 1) := by decide +kernel
theorem dX8_askLawful_67 : decode cX8_askLawful 67 = .ok (.aload_n 0, 1) := by decide +kernel
theorem dX8_askLawful_68 : decode cX8_askLawful 68 = .ok (.getfield 62, 3) := by decide +kernel
theorem dX8_askLawful_71 : decode cX8_askLawful 71 = .ok (.getfield 216, 3) := by decide +kernel
theorem dX8_askLawful_74 : decode cX8_askLawful 74 = .ok (.if_icmp .ge 36, 3) := by decide +kernel
theorem dX8_askLawful_110 : decode cX8_askLawful 110 = .ok (.return_, 1) := by decide +kernel
theorem dX8_at_0 : decode cX8_at 0 = .ok (.aload_n 0, 1) := by decide +kernel
theorem dX8_at_1 : decode cX8_at 1 = .ok (.iload_n 1, 1) := by decide +kernel
theorem dX8_at_2 : decode cX8_at 2 = .ok (.invokevirtual 138, 3) := by decide +kernel
theorem dX8_at_5 : decode cX8_at 5 = .ok (.ifCond .eq 13, 3) := by decide +kernel
theorem dX8_at_18 : decode cX8_at 18 = .ok (.iconst (-1), 1) := by decide +kernel
theorem dX8_at_19 : decode cX8_at 19 = .ok (.ireturn, 1) := by decide +kernel
theorem dX8_back_0 : decode cX8_back 0 = .ok (.iload_n 1, 1) := by decide +kernel
theorem dX8_back_1 : decode cX8_back 1 = .ok (.ifCond .lt 20, 3) := by decide +kernel
theorem dX8_back_4 : decode cX8_back 4 = .ok (.iload_n 1, 1) := by decide +kernel
theorem dX8_back_5 : decode cX8_back 5 = .ok (.iconst 3, 1) := by decide +kernel
theorem dX8_back_6 : decode cX8_back 6 = .ok (.if_icmp .ge 15, 3) := by decide +kernel
theorem dX8_back_9 : decode cX8_back 9 = .ok (.aload_n 0, 1) := by decide +kernel
theorem dX8_back_10 : decode cX8_back 10 = .ok (.getfield 38, 3) := by decide +kernel
theorem dX8_back_13 : decode cX8_back 13 = .ok (.iload_n 1, 1) := by decide +kernel
theorem dX8_back_14 : decode cX8_back 14 = .ok (.aaload, 1) := by decide +kernel
theorem dX8_back_15 : decode cX8_back 15 = .ok (.getfield 98, 3) := by decide +kernel
theorem dX8_back_18 : decode cX8_back 18 = .ok (.ifCond .ne 5, 3) := by decide +kernel
theorem dX8_back_21 : decode cX8_back 21 = .ok (.iconst (-1), 1) := by decide +kernel
theorem dX8_back_22 : decode cX8_back 22 = .ok (.ireturn, 1) := by decide +kernel
theorem dX8_beside_0 : decode cX8_beside 0 = .ok (.iload_n 1, 1) := by decide +kernel
theorem dX8_beside_1 : decode cX8_beside 1 = .ok (.iload_n 2, 1) := by decide +kernel
theorem dX8_beside_2 : decode cX8_beside 2 = .ok (.if_icmp .eq 19, 3) := by decide +kernel
theorem dX8_beside_5 : decode cX8_beside 5 = .ok (.aload_n 0, 1) := by decide +kernel
theorem dX8_beside_6 : decode cX8_beside 6 = .ok (.iload_n 1, 1) := by decide +kernel
theorem dX8_beside_7 : decode cX8_beside 7 = .ok (.invokevirtual 138, 3) := by decide +kernel
theorem dX8_beside_10 : decode cX8_beside 10 = .ok (.ifCond .eq 11, 3) := by decide +kernel
theorem dX8_beside_21 : decode cX8_beside 21 = .ok (.iconst (-1), 1) := by decide +kernel
theorem dX8_beside_22 : decode cX8_beside 22 = .ok (.ireturn, 1) := by decide +kernel
theorem dX8_burns_0 : decode cX8_burns 0 = .ok (.aload_n 0, 1) := by decide +kernel
theorem dX8_burns_1 : decode cX8_burns 1 = .ok (.iload_n 1, 1) := by decide +kernel
theorem dX8_burns_2 : decode cX8_burns 2 = .ok (.invokevirtual 138, 3) := by decide +kernel
theorem dX8_burns_5 : decode cX8_burns 5 = .ok (.ifCond .eq 12, 3) := by decide +kernel
theorem dX8_burns_17 : decode cX8_burns 17 = .ok (.iconst 0, 1) := by decide +kernel
theorem dX8_burns_18 : decode cX8_burns 18 = .ok (.ireturn, 1) := by decide +kernel
theorem dX8_drawn_0 : decode cX8_drawn 0 = .ok (.aload_n 0, 1) := by decide +kernel
theorem dX8_drawn_1 : decode cX8_drawn 1 = .ok (.invokevirtual 222, 3) := by decide +kernel
theorem dX8_drawn_4 : decode cX8_drawn 4 = .ok (.aload_n 0, 1) := by decide +kernel
theorem dX8_drawn_5 : decode cX8_drawn 5 = .ok (.getfield 62, 3) := by decide +kernel
theorem dX8_drawn_8 : decode cX8_drawn 8 = .ok (.invokevirtual 225, 3) := by decide +kernel
theorem dX8_drawn_11 : decode cX8_drawn 11 = .ok (.istore_n 1, 1) := by decide +kernel
theorem dX8_drawn_12 : decode cX8_drawn 12 = .ok (.iload_n 1, 1) := by decide +kernel
theorem dX8_drawn_13 : decode cX8_drawn 13 = .ok (.ifCond .gt 13, 3) := by decide +kernel
theorem dX8_drawn_26 : decode cX8_drawn 26 = .ok (.aload_n 0, 1) := by decide +kernel
theorem dX8_drawn_27 : decode cX8_drawn 27 = .ok (.getfield 34, 3) := by decide +kernel
theorem dX8_drawn_30 : decode cX8_drawn 30 = .ok (.aload_n 0, 1) := by decide +kernel
theorem dX8_drawn_31 : decode cX8_drawn 31 = .ok (.getfield 34, 3) := by decide +kernel
theorem dX8_drawn_34 : decode cX8_drawn 34 = .ok (.getfield 243, 3) := by decide +kernel
theorem dX8_drawn_37 : decode cX8_drawn 37 = .ok (.ldc 246, 2) := by decide +kernel
theorem dX8_drawn_39 : decode cX8_drawn 39 = .ok (.imul, 1) := by decide +kernel
theorem dX8_drawn_40 : decode cX8_drawn 40 = .ok (.sipush 12345, 3) := by decide +kernel
theorem dX8_drawn_43 : decode cX8_drawn 43 = .ok (.iadd, 1) := by decide +kernel
theorem dX8_drawn_44 : decode cX8_drawn 44 = .ok (.putfield 243, 3) := by decide +kernel
theorem dX8_drawn_47 : decode cX8_drawn 47 = .ok (.aload_n 0, 1) := by decide +kernel
theorem dX8_drawn_48 : decode cX8_drawn 48 = .ok (.getfield 34, 3) := by decide +kernel
theorem dX8_drawn_51 : decode cX8_drawn 51 = .ok (.getfield 243, 3) := by decide +kernel
theorem dX8_drawn_54 : decode cX8_drawn 54 = .ok (.bipush 16, 2) := by decide +kernel
theorem dX8_drawn_56 : decode cX8_drawn 56 = .ok (.iushr, 1) := by decide +kernel
theorem dX8_drawn_57 : decode cX8_drawn 57 = .ok (.iload_n 1, 1) := by decide +kernel
theorem dX8_drawn_58 : decode cX8_drawn 58 = .ok (.irem, 1) := by decide +kernel
theorem dX8_drawn_59 : decode cX8_drawn 59 = .ok (.istore_n 2, 1) := by decide +kernel
theorem dX8_drawn_60 : decode cX8_drawn 60 = .ok (.aload_n 0, 1) := by decide +kernel
theorem dX8_drawn_61 : decode cX8_drawn 61 = .ok (.getfield 62, 3) := by decide +kernel
theorem dX8_drawn_64 : decode cX8_drawn 64 = .ok (.iload_n 2, 1) := by decide +kernel
theorem dX8_drawn_65 : decode cX8_drawn 65 = .ok (.aload_n 0, 1) := by decide +kernel
theorem dX8_drawn_66 : decode cX8_drawn 66 = .ok (.getfield 56, 3) := by decide +kernel
theorem dX8_drawn_69 : decode cX8_drawn 69 = .ok (.invokevirtual 247, 3) := by decide +kernel
theorem dX8_drawn_72 : decode cX8_drawn 72 = .ok (.iload_n 2, 1) := by decide +kernel
theorem dX8_drawn_73 : decode cX8_drawn 73 = .ok (.ireturn, 1) := by decide +kernel
theorem dX8_end_0 : decode cX8_end 0 = .ok (.iload_n 1, 1) := by decide +kernel
theorem dX8_end_1 : decode cX8_end 1 = .ok (.ifCond .lt 11, 3) := by decide +kernel
theorem dX8_end_4 : decode cX8_end 4 = .ok (.iload_n 1, 1) := by decide +kernel
theorem dX8_end_5 : decode cX8_end 5 = .ok (.aload_n 0, 1) := by decide +kernel
theorem dX8_end_6 : decode cX8_end 6 = .ok (.getfield 13, 3) := by decide +kernel
theorem dX8_end_9 : decode cX8_end 9 = .ok (.if_icmp .le 5, 3) := by decide +kernel
theorem dX8_end_12 : decode cX8_end 12 = .ok (.iconst (-1), 1) := by decide +kernel
theorem dX8_end_13 : decode cX8_end 13 = .ok (.ireturn, 1) := by decide +kernel
theorem dX8_end_14 : decode cX8_end 14 = .ok (.aload_n 0, 1) := by decide +kernel
theorem dX8_end_15 : decode cX8_end 15 = .ok (.iload_n 1, 1) := by decide +kernel
theorem dX8_end_16 : decode cX8_end 16 = .ok (.putfield 13, 3) := by decide +kernel
theorem dX8_end_19 : decode cX8_end 19 = .ok (.iload_n 1, 1) := by decide +kernel
theorem dX8_end_20 : decode cX8_end 20 = .ok (.ireturn, 1) := by decide +kernel
theorem dX8_fairest_0 : decode cX8_fairest 0 = .ok (.aload_n 0, 1) := by decide +kernel
theorem dX8_fairest_1 : decode cX8_fairest 1 = .ok (.invokevirtual 222, 3) := by decide +kernel
theorem dX8_fairest_4 : decode cX8_fairest 4 = .ok (.iconst 0, 1) := by decide +kernel
theorem dX8_fairest_5 : decode cX8_fairest 5 = .ok (.istore_n 1, 1) := by decide +kernel
theorem dX8_fairest_6 : decode cX8_fairest 6 = .ok (.iload_n 1, 1) := by decide +kernel
theorem dX8_fairest_7 : decode cX8_fairest 7 = .ok (.bipush 81, 2) := by decide +kernel
theorem dX8_fairest_9 : decode cX8_fairest 9 = .ok (.if_icmp .ge 28, 3) := by decide +kernel
theorem dX8_fairest_12 : decode cX8_fairest 12 = .ok (.aload_n 0, 1) := by decide +kernel
theorem dX8_fairest_13 : decode cX8_fairest 13 = .ok (.getfield 62, 3) := by decide +kernel
theorem dX8_fairest_16 : decode cX8_fairest 16 = .ok (.getfield 231, 3) := by decide +kernel
theorem dX8_fairest_19 : decode cX8_fairest 19 = .ok (.iload_n 1, 1) := by decide +kernel
theorem dX8_fairest_20 : decode cX8_fairest 20 = .ok (.aload_n 0, 1) := by decide +kernel
theorem dX8_fairest_21 : decode cX8_fairest 21 = .ok (.getfield 27, 3) := by decide +kernel
theorem dX8_fairest_24 : decode cX8_fairest 24 = .ok (.getfield 189, 3) := by decide +kernel
theorem dX8_fairest_27 : decode cX8_fairest 27 = .ok (.iload_n 1, 1) := by decide +kernel
theorem dX8_fairest_28 : decode cX8_fairest 28 = .ok (.iaload, 1) := by decide +kernel
theorem dX8_fairest_29 : decode cX8_fairest 29 = .ok (.ineg, 1) := by decide +kernel
theorem dX8_fairest_30 : decode cX8_fairest 30 = .ok (.iastore, 1) := by decide +kernel
theorem dX8_fairest_31 : decode cX8_fairest 31 = .ok (.iinc 1 1, 3) := by decide +kernel
theorem dX8_fairest_34 : decode cX8_fairest 34 = .ok (.goto (-28), 3) := by decide +kernel
theorem dX8_fairest_37 : decode cX8_fairest 37 = .ok (.aload_n 0, 1) := by decide +kernel
theorem dX8_fairest_38 : decode cX8_fairest 38 = .ok (.getfield 62, 3) := by decide +kernel
theorem dX8_fairest_41 : decode cX8_fairest 41 = .ok (.aload_n 0, 1) := by decide +kernel
theorem dX8_fairest_42 : decode cX8_fairest 42 = .ok (.getfield 56, 3) := by decide +kernel
theorem dX8_fairest_45 : decode cX8_fairest 45 = .ok (.invokevirtual 227, 3) := by decide +kernel
theorem dX8_fairest_48 : decode cX8_fairest 48 = .ok (.ifCond .eq 14, 3) := by decide +kernel
theorem dX8_fairest_51 : decode cX8_fairest 51 = .ok (.aload_n 0, 1) := by decide +kernel
theorem dX8_fairest_52 : decode cX8_fairest 52 = .ok (.getfield 62, 3) := by decide +kernel
theorem dX8_fairest_55 : decode cX8_fairest 55 = .ok (.getfield 234, 3) := by decide +kernel
theorem dX8_fairest_58 : decode cX8_fairest 58 = .ok (.ineg, 1) := by decide +kernel
theorem dX8_fairest_59 : decode cX8_fairest 59 = .ok (.goto 4, 3) := by decide +kernel
theorem dX8_fairest_63 : decode cX8_fairest 63 = .ok (.ireturn, 1) := by decide +kernel
theorem dX8_fault_0 : decode cX8_fault 0 = .ok (.iload_n 1, 1) := by decide +kernel
theorem dX8_fault_1 : decode cX8_fault 1 = .ok (.ifCond .ne 11, 3) := by decide +kernel
theorem dX8_fault_4 : decode cX8_fault 4 = .ok (.aload_n 0, 1) := by decide +kernel
theorem dX8_fault_5 : decode cX8_fault 5 = .ok (.getfield 20, 3) := by decide +kernel
theorem dX8_fault_8 : decode cX8_fault 8 = .ok (.getfield 128, 3) := by decide +kernel
theorem dX8_fault_11 : decode cX8_fault 11 = .ok (.ireturn, 1) := by decide +kernel
theorem dX8_fault_12 : decode cX8_fault 12 = .ok (.iload_n 1, 1) := by decide +kernel
theorem dX8_fault_13 : decode cX8_fault 13 = .ok (.iconst 1, 1) := by decide +kernel
theorem dX8_fault_14 : decode cX8_fault 14 = .ok (.if_icmp .ne 13, 3) := by decide +kernel
theorem dX8_fault_17 : decode cX8_fault 17 = .ok (.aload_n 0, 1) := by decide +kernel
theorem dX8_fault_18 : decode cX8_fault 18 = .ok (.getfield 20, 3) := by decide +kernel
theorem dX8_fault_21 : decode cX8_fault 21 = .ok (.getfield 131, 3) := by decide +kernel
theorem dX8_fault_24 : decode cX8_fault 24 = .ok (.goto 4, 3) := by decide +kernel
theorem dX8_fault_27 : decode cX8_fault 27 = .ok (.iconst (-1), 1) := by decide +kernel
theorem dX8_fault_28 : decode cX8_fault 28 = .ok (.ireturn, 1) := by decide +kernel
theorem dX8_feed_0 : decode cX8_feed 0 = .ok (.aload_n 0, 1) := by decide +kernel
theorem dX8_feed_1 : decode cX8_feed 1 = .ok (.getfield 13, 3) := by decide +kernel
theorem dX8_feed_4 : decode cX8_feed 4 = .ok (.bipush 20, 2) := by decide +kernel
theorem dX8_feed_6 : decode cX8_feed 6 = .ok (.iadd, 1) := by decide +kernel
theorem dX8_feed_7 : decode cX8_feed 7 = .ok (.sipush 1600, 3) := by decide +kernel
theorem dX8_feed_10 : decode cX8_feed 10 = .ok (.if_icmp .le 5, 3) := by decide +kernel
theorem dX8_feed_15 : decode cX8_feed 15 = .ok (.aload_n 0, 1) := by decide +kernel
theorem dX8_feed_16 : decode cX8_feed 16 = .ok (.iload_n 1, 1) := by decide +kernel
theorem dX8_feed_17 : decode cX8_feed 17 = .ok (.invokevirtual 80, 3) := by decide +kernel
theorem dX8_feed_20 : decode cX8_feed 20 = .ok (.aload_n 0, 1) := by decide +kernel
theorem dX8_feed_21 : decode cX8_feed 21 = .ok (.iload_n 2, 1) := by decide +kernel
theorem dX8_feed_22 : decode cX8_feed 22 = .ok (.invokevirtual 80, 3) := by decide +kernel
theorem dX8_feed_25 : decode cX8_feed 25 = .ok (.aload_n 0, 1) := by decide +kernel
theorem dX8_feed_26 : decode cX8_feed 26 = .ok (.iload_n 3, 1) := by decide +kernel
theorem dX8_feed_27 : decode cX8_feed 27 = .ok (.invokevirtual 80, 3) := by decide +kernel
theorem dX8_feed_30 : decode cX8_feed 30 = .ok (.aload_n 0, 1) := by decide +kernel
theorem dX8_feed_31 : decode cX8_feed 31 = .ok (.iload 4, 2) := by decide +kernel
theorem dX8_feed_33 : decode cX8_feed 33 = .ok (.invokevirtual 80, 3) := by decide +kernel
theorem dX8_feed_36 : decode cX8_feed 36 = .ok (.aload_n 0, 1) := by decide +kernel
theorem dX8_feed_37 : decode cX8_feed 37 = .ok (.iload 5, 2) := by decide +kernel
theorem dX8_feed_39 : decode cX8_feed 39 = .ok (.invokevirtual 80, 3) := by decide +kernel
theorem dX8_feed_42 : decode cX8_feed 42 = .ok (.aload_n 0, 1) := by decide +kernel
theorem dX8_feed_43 : decode cX8_feed 43 = .ok (.getfield 13, 3) := by decide +kernel
theorem dX8_feed_46 : decode cX8_feed 46 = .ok (.ireturn, 1) := by decide +kernel
theorem dX8_first_0 : decode cX8_first 0 = .ok (.aload_n 0, 1) := by decide +kernel
theorem dX8_first_1 : decode cX8_first 1 = .ok (.invokevirtual 222, 3) := by decide +kernel
theorem dX8_first_4 : decode cX8_first 4 = .ok (.aload_n 0, 1) := by decide +kernel
theorem dX8_first_5 : decode cX8_first 5 = .ok (.getfield 62, 3) := by decide +kernel
theorem dX8_first_8 : decode cX8_first 8 = .ok (.aload_n 0, 1) := by decide +kernel
theorem dX8_first_9 : decode cX8_first 9 = .ok (.getfield 56, 3) := by decide +kernel
theorem dX8_first_12 : decode cX8_first 12 = .ok (.invokevirtual 227, 3) := by decide +kernel
theorem dX8_first_15 : decode cX8_first 15 = .ok (.ifCond .eq 7, 3) := by decide +kernel
theorem dX8_first_18 : decode cX8_first 18 = .ok (.iconst 1, 1) := by decide +kernel
theorem dX8_first_19 : decode cX8_first 19 = .ok (.goto 4, 3) := by decide +kernel
theorem dX8_first_23 : decode cX8_first 23 = .ok (.ireturn, 1) := by decide +kernel
theorem dX8_fits_0 : decode cX8_fits 0 = .ok (.aload_n 0, 1) := by decide +kernel
theorem dX8_fits_1 : decode cX8_fits 1 = .ok (.invokevirtual 222, 3) := by decide +kernel
theorem dX8_fits_4 : decode cX8_fits 4 = .ok (.aload_n 0, 1) := by decide +kernel
theorem dX8_fits_5 : decode cX8_fits 5 = .ok (.getfield 45, 3) := by decide +kernel
theorem dX8_fits_8 : decode cX8_fits 8 = .ok (.aload_n 0, 1) := by decide +kernel
theorem dX8_fits_9 : decode cX8_fits 9 = .ok (.getfield 62, 3) := by decide +kernel
theorem dX8_fits_12 : decode cX8_fits 12 = .ok (.iload_n 1, 1) := by decide +kernel
theorem dX8_fits_13 : decode cX8_fits 13 = .ok (.invokevirtual 287, 3) := by decide +kernel
theorem dX8_fits_16 : decode cX8_fits 16 = .ok (.aload_n 0, 1) := by decide +kernel
theorem dX8_fits_17 : decode cX8_fits 17 = .ok (.getfield 62, 3) := by decide +kernel
theorem dX8_fits_20 : decode cX8_fits 20 = .ok (.invokevirtual 225, 3) := by decide +kernel
theorem dX8_fits_23 : decode cX8_fits 23 = .ok (.ireturn, 1) := by decide +kernel
theorem dX8_forgetOrders_0 : decode cX8_forgetOrders 0 = .ok (.aload_n 0, 1) := by decide +kernel
theorem dX8_forgetOrders_1 : decode cX8_forgetOrders 1 = .ok (.getfield 52, 3) := by decide +kernel
theorem dX8_forgetOrders_4 : decode cX8_forgetOrders 4 = .ok (.iconst 0, 1) := by decide +kernel
theorem dX8_forgetOrders_5 : decode cX8_forgetOrders 5 = .ok (.putfield 77, 3) := by decide +kernel
theorem dX8_forgetOrders_8 : decode cX8_forgetOrders 8 = .ok (.aload_n 0, 1) := by decide +kernel
theorem dX8_forgetOrders_9 : decode cX8_forgetOrders 9 = .ok (.getfield 56, 3) := by decide +kernel
theorem dX8_forgetOrders_12 : decode cX8_forgetOrders 12 = .ok (.iconst (-1), 1) := by decide +kernel
theorem dX8_forgetOrders_13 : decode cX8_forgetOrders 13 = .ok (.putfield 77, 3) := by decide +kernel
theorem dX8_forgetOrders_16 : decode cX8_forgetOrders 16 = .ok (.return_, 1) := by decide +kernel
theorem dX8_game_0 : decode cX8_game 0 = .ok (.aload_n 0, 1) := by decide +kernel
theorem dX8_game_1 : decode cX8_game 1 = .ok (.invokevirtual 164, 3) := by decide +kernel
theorem dX8_game_4 : decode cX8_game 4 = .ok (.bipush 7, 2) := by decide +kernel
theorem dX8_game_6 : decode cX8_game 6 = .ok (.if_icmp .le 6, 3) := by decide +kernel
theorem dX8_game_12 : decode cX8_game 12 = .ok (.aload_n 0, 1) := by decide +kernel
theorem dX8_game_13 : decode cX8_game 13 = .ok (.invokevirtual 222, 3) := by decide +kernel
theorem dX8_game_16 : decode cX8_game 16 = .ok (.aload_n 0, 1) := by decide +kernel
theorem dX8_game_17 : decode cX8_game 17 = .ok (.getfield 69, 3) := by decide +kernel
theorem dX8_game_20 : decode cX8_game 20 = .ok (.aload_n 0, 1) := by decide +kernel
theorem dX8_game_21 : decode cX8_game 21 = .ok (.getfield 62, 3) := by decide +kernel
theorem dX8_game_24 : decode cX8_game 24 = .ok (.invokevirtual 251, 3) := by decide +kernel
theorem dX8_game_27 : decode cX8_game 27 = .ok (.aload_n 0, 1) := by decide +kernel
theorem dX8_game_28 : decode cX8_game 28 = .ok (.getfield 69, 3) := by decide +kernel
theorem dX8_game_31 : decode cX8_game 31 = .ok (.invokevirtual 259, 3) := by decide +kernel
theorem dX8_game_34 : decode cX8_game 34 = .ok (.ifCond .eq 7, 3) := by decide +kernel
theorem dX8_game_37 : decode cX8_game 37 = .ok (.iconst 1, 1) := by decide +kernel
theorem dX8_game_38 : decode cX8_game 38 = .ok (.goto 4, 3) := by decide +kernel
theorem dX8_game_42 : decode cX8_game 42 = .ok (.ireturn, 1) := by decide +kernel
theorem dX8_haulOfTold_0 : decode cX8_haulOfTold 0 = .ok (.iconst 0, 1) := by decide +kernel
theorem dX8_haulOfTold_1 : decode cX8_haulOfTold 1 = .ok (.istore_n 1, 1) := by decide +kernel
theorem dX8_haulOfTold_2 : decode cX8_haulOfTold 2 = .ok (.iconst 0, 1) := by decide +kernel
theorem dX8_haulOfTold_3 : decode cX8_haulOfTold 3 = .ok (.istore_n 2, 1) := by decide +kernel
theorem dX8_haulOfTold_4 : decode cX8_haulOfTold 4 = .ok (.iload_n 2, 1) := by decide +kernel
theorem dX8_haulOfTold_5 : decode cX8_haulOfTold 5 = .ok (.aload_n 0, 1) := by decide +kernel
theorem dX8_haulOfTold_6 : decode cX8_haulOfTold 6 = .ok (.getfield 52, 3) := by decide +kernel
theorem dX8_haulOfTold_9 : decode cX8_haulOfTold 9 = .ok (.getfield 77, 3) := by decide +kernel
theorem dX8_haulOfTold_12 : decode cX8_haulOfTold 12 = .ok (.if_icmp .ge 26, 3) := by decide +kernel
theorem dX8_haulOfTold_38 : decode cX8_haulOfTold 38 = .ok (.iload_n 1, 1) := by decide +kernel
theorem dX8_haulOfTold_39 : decode cX8_haulOfTold 39 = .ok (.ireturn, 1) := by decide +kernel
theorem dX8_housesIn_0 : decode cX8_housesIn 0 = .ok (.iconst 1, 1) := by decide +kernel
theorem dX8_housesIn_1 : decode cX8_housesIn 1 = .ok (.aload_n 0, 1) := by decide +kernel
theorem dX8_housesIn_2 : decode cX8_housesIn 2 = .ok (.getfield 27, 3) := by decide +kernel
theorem dX8_housesIn_5 : decode cX8_housesIn 5 = .ok (.getfield 108, 3) := by decide +kernel
theorem dX8_housesIn_8 : decode cX8_housesIn 8 = .ok (.ishl, 1) := by decide +kernel
theorem dX8_housesIn_9 : decode cX8_housesIn 9 = .ok (.iconst 1, 1) := by decide +kernel
theorem dX8_housesIn_10 : decode cX8_housesIn 10 = .ok (.isub, 1) := by decide +kernel
theorem dX8_housesIn_11 : decode cX8_housesIn 11 = .ok (.aload_n 0, 1) := by decide +kernel
theorem dX8_housesIn_12 : decode cX8_housesIn 12 = .ok (.getfield 34, 3) := by decide +kernel
theorem dX8_housesIn_15 : decode cX8_housesIn 15 = .ok (.getfield 142, 3) := by decide +kernel
theorem dX8_housesIn_18 : decode cX8_housesIn 18 = .ok (.iconst (-1), 1) := by decide +kernel
theorem dX8_housesIn_19 : decode cX8_housesIn 19 = .ok (.ixor, 1) := by decide +kernel
theorem dX8_housesIn_20 : decode cX8_housesIn 20 = .ok (.iand, 1) := by decide +kernel
theorem dX8_housesIn_21 : decode cX8_housesIn 21 = .ok (.ireturn, 1) := by decide +kernel
theorem dX8_hush_0 : decode cX8_hush 0 = .ok (.aload_n 0, 1) := by decide +kernel
theorem dX8_hush_1 : decode cX8_hush 1 = .ok (.getfield 52, 3) := by decide +kernel
theorem dX8_hush_4 : decode cX8_hush 4 = .ok (.getfield 77, 3) := by decide +kernel
theorem dX8_hush_7 : decode cX8_hush 7 = .ok (.istore_n 1, 1) := by decide +kernel
theorem dX8_hush_8 : decode cX8_hush 8 = .ok (.aload_n 0, 1) := by decide +kernel
theorem dX8_hush_9 : decode cX8_hush 9 = .ok (.getfield 52, 3) := by decide +kernel
theorem dX8_hush_12 : decode cX8_hush 12 = .ok (.iconst 0, 1) := by decide +kernel
theorem dX8_hush_13 : decode cX8_hush 13 = .ok (.putfield 77, 3) := by decide +kernel
theorem dX8_hush_16 : decode cX8_hush 16 = .ok (.iload_n 1, 1) := by decide +kernel
theorem dX8_hush_17 : decode cX8_hush 17 = .ok (.ireturn, 1) := by decide +kernel
theorem dX8_image_0 : decode cX8_image 0 = .ok (.iload_n 1, 1) := by decide +kernel
theorem dX8_image_1 : decode cX8_image 1 = .ok (.ifCond .lt 8, 3) := by decide +kernel
theorem dX8_image_4 : decode cX8_image 4 = .ok (.iload_n 1, 1) := by decide +kernel
theorem dX8_image_5 : decode cX8_image 5 = .ok (.iconst 3, 1) := by decide +kernel
theorem dX8_image_6 : decode cX8_image 6 = .ok (.if_icmp .lt 5, 3) := by decide +kernel
theorem dX8_image_9 : decode cX8_image 9 = .ok (.iconst (-1), 1) := by decide +kernel
theorem dX8_image_10 : decode cX8_image 10 = .ok (.ireturn, 1) := by decide +kernel
theorem dX8_image_11 : decode cX8_image 11 = .ok (.aload_n 0, 1) := by decide +kernel
theorem dX8_image_12 : decode cX8_image 12 = .ok (.getfield 38, 3) := by decide +kernel
theorem dX8_image_15 : decode cX8_image 15 = .ok (.iload_n 1, 1) := by decide +kernel
theorem dX8_image_16 : decode cX8_image 16 = .ok (.aaload, 1) := by decide +kernel
theorem dX8_image_17 : decode cX8_image 17 = .ok (.aload_n 0, 1) := by decide +kernel
theorem dX8_image_18 : decode cX8_image 18 = .ok (.getfield 34, 3) := by decide +kernel
theorem dX8_image_21 : decode cX8_image 21 = .ok (.invokevirtual 294, 3) := by decide +kernel
theorem dX8_image_24 : decode cX8_image 24 = .ok (.aload_n 0, 1) := by decide +kernel
theorem dX8_image_25 : decode cX8_image 25 = .ok (.getfield 38, 3) := by decide +kernel
theorem dX8_image_28 : decode cX8_image 28 = .ok (.iload_n 1, 1) := by decide +kernel
theorem dX8_image_29 : decode cX8_image 29 = .ok (.aaload, 1) := by decide +kernel
theorem dX8_image_30 : decode cX8_image 30 = .ok (.iconst 1, 1) := by decide +kernel
theorem dX8_image_31 : decode cX8_image 31 = .ok (.putfield 98, 3) := by decide +kernel
theorem dX8_image_34 : decode cX8_image 34 = .ok (.aload_n 0, 1) := by decide +kernel
theorem dX8_image_35 : decode cX8_image 35 = .ok (.getfield 34, 3) := by decide +kernel
theorem dX8_image_38 : decode cX8_image 38 = .ok (.getfield 121, 3) := by decide +kernel
theorem dX8_image_41 : decode cX8_image 41 = .ok (.ireturn, 1) := by decide +kernel
theorem dX8_init_0 : decode cX8_init 0 = .ok (.aload_n 0, 1) := by decide +kernel
theorem dX8_init_1 : decode cX8_init 1 = .ok (.invokespecial 3, 3) := by decide +kernel
theorem dX8_init_4 : decode cX8_init 4 = .ok (.aload_n 0, 1) := by decide +kernel
theorem dX8_init_5 : decode cX8_init 5 = .ok (.sipush 1600, 3) := by decide +kernel
theorem dX8_init_8 : decode cX8_init 8 = .ok (.newarray .byte, 2) := by decide +kernel
theorem dX8_init_10 : decode cX8_init 10 = .ok (.putfield 9, 3) := by decide +kernel
theorem dX8_init_13 : decode cX8_init 13 = .ok (.aload_n 0, 1) := by decide +kernel
theorem dX8_init_14 : decode cX8_init 14 = .ok (.iconst 0, 1) := by decide +kernel
theorem dX8_init_15 : decode cX8_init 15 = .ok (.putfield 13, 3) := by decide +kernel
theorem dX8_init_18 : decode cX8_init 18 = .ok (.aload_n 0, 1) := by decide +kernel
theorem dX8_init_19 : decode cX8_init 19 = .ok (.new 17, 3) := by decide +kernel
theorem dX8_init_22 : decode cX8_init 22 = .ok (.dup, 1) := by decide +kernel
theorem dX8_init_23 : decode cX8_init 23 = .ok (.invokespecial 19, 3) := by decide +kernel
theorem dX8_init_26 : decode cX8_init 26 = .ok (.putfield 20, 3) := by decide +kernel
theorem dX8_init_29 : decode cX8_init 29 = .ok (.aload_n 0, 1) := by decide +kernel
theorem dX8_init_30 : decode cX8_init 30 = .ok (.new 24, 3) := by decide +kernel
theorem dX8_init_33 : decode cX8_init 33 = .ok (.dup, 1) := by decide +kernel
theorem dX8_init_34 : decode cX8_init 34 = .ok (.invokespecial 26, 3) := by decide +kernel
theorem dX8_init_37 : decode cX8_init 37 = .ok (.putfield 27, 3) := by decide +kernel
theorem dX8_init_40 : decode cX8_init 40 = .ok (.aload_n 0, 1) := by decide +kernel
theorem dX8_init_41 : decode cX8_init 41 = .ok (.new 31, 3) := by decide +kernel
theorem dX8_init_44 : decode cX8_init 44 = .ok (.dup, 1) := by decide +kernel
theorem dX8_init_45 : decode cX8_init 45 = .ok (.invokespecial 33, 3) := by decide +kernel
theorem dX8_init_48 : decode cX8_init 48 = .ok (.putfield 34, 3) := by decide +kernel
theorem dX8_init_51 : decode cX8_init 51 = .ok (.aload_n 0, 1) := by decide +kernel
theorem dX8_init_52 : decode cX8_init 52 = .ok (.iconst 3, 1) := by decide +kernel
theorem dX8_init_53 : decode cX8_init 53 = .ok (.anewarray 31, 3) := by decide +kernel
theorem dX8_init_56 : decode cX8_init 56 = .ok (.putfield 38, 3) := by decide +kernel
theorem dX8_init_59 : decode cX8_init 59 = .ok (.aload_n 0, 1) := by decide +kernel
theorem dX8_init_60 : decode cX8_init 60 = .ok (.new 42, 3) := by decide +kernel
theorem dX8_init_63 : decode cX8_init 63 = .ok (.dup, 1) := by decide +kernel
theorem dX8_init_64 : decode cX8_init 64 = .ok (.invokespecial 44, 3) := by decide +kernel
theorem dX8_init_67 : decode cX8_init 67 = .ok (.putfield 45, 3) := by decide +kernel
theorem dX8_init_70 : decode cX8_init 70 = .ok (.aload_n 0, 1) := by decide +kernel
theorem dX8_init_71 : decode cX8_init 71 = .ok (.new 49, 3) := by decide +kernel
theorem dX8_init_74 : decode cX8_init 74 = .ok (.dup, 1) := by decide +kernel
theorem dX8_init_75 : decode cX8_init 75 = .ok (.invokespecial 51, 3) := by decide +kernel
theorem dX8_init_78 : decode cX8_init 78 = .ok (.putfield 52, 3) := by decide +kernel
theorem dX8_init_81 : decode cX8_init 81 = .ok (.aload_n 0, 1) := by decide +kernel
theorem dX8_init_82 : decode cX8_init 82 = .ok (.new 49, 3) := by decide +kernel
theorem dX8_init_85 : decode cX8_init 85 = .ok (.dup, 1) := by decide +kernel
theorem dX8_init_86 : decode cX8_init 86 = .ok (.invokespecial 51, 3) := by decide +kernel
theorem dX8_init_89 : decode cX8_init 89 = .ok (.putfield 56, 3) := by decide +kernel
theorem dX8_init_92 : decode cX8_init 92 = .ok (.aload_n 0, 1) := by decide +kernel
theorem dX8_init_93 : decode cX8_init 93 = .ok (.new 59, 3) := by decide +kernel
theorem dX8_init_96 : decode cX8_init 96 = .ok (.dup, 1) := by decide +kernel
theorem dX8_init_97 : decode cX8_init 97 = .ok (.invokespecial 61, 3) := by decide +kernel
theorem dX8_init_100 : decode cX8_init 100 = .ok (.putfield 62, 3) := by decide +kernel
theorem dX8_init_103 : decode cX8_init 103 = .ok (.aload_n 0, 1) := by decide +kernel
theorem dX8_init_104 : decode cX8_init 104 = .ok (.new 66, 3) := by decide +kernel
theorem dX8_init_107 : decode cX8_init 107 = .ok (.dup, 1) := by decide +kernel
theorem dX8_init_108 : decode cX8_init 108 = .ok (.invokespecial 68, 3) := by decide +kernel
theorem dX8_init_111 : decode cX8_init 111 = .ok (.putfield 69, 3) := by decide +kernel
theorem dX8_init_114 : decode cX8_init 114 = .ok (.aload_n 0, 1) := by decide +kernel
theorem dX8_init_115 : decode cX8_init 115 = .ok (.bipush 9, 2) := by decide +kernel
theorem dX8_init_117 : decode cX8_init 117 = .ok (.newarray .int, 2) := by decide +kernel
theorem dX8_init_119 : decode cX8_init 119 = .ok (.putfield 73, 3) := by decide +kernel
theorem dX8_init_122 : decode cX8_init 122 = .ok (.iconst 0, 1) := by decide +kernel
theorem dX8_init_123 : decode cX8_init 123 = .ok (.istore_n 1, 1) := by decide +kernel
theorem dX8_init_124 : decode cX8_init 124 = .ok (.iload_n 1, 1) := by decide +kernel
theorem dX8_init_125 : decode cX8_init 125 = .ok (.iconst 3, 1) := by decide +kernel
theorem dX8_init_126 : decode cX8_init 126 = .ok (.if_icmp .ge 22, 3) := by decide +kernel
theorem dX8_init_129 : decode cX8_init 129 = .ok (.aload_n 0, 1) := by decide +kernel
theorem dX8_init_130 : decode cX8_init 130 = .ok (.getfield 38, 3) := by decide +kernel
theorem dX8_init_133 : decode cX8_init 133 = .ok (.iload_n 1, 1) := by decide +kernel
theorem dX8_init_134 : decode cX8_init 134 = .ok (.new 31, 3) := by decide +kernel
theorem dX8_init_137 : decode cX8_init 137 = .ok (.dup, 1) := by decide +kernel
theorem dX8_init_138 : decode cX8_init 138 = .ok (.invokespecial 33, 3) := by decide +kernel
theorem dX8_init_141 : decode cX8_init 141 = .ok (.aastore, 1) := by decide +kernel
theorem dX8_init_142 : decode cX8_init 142 = .ok (.iinc 1 1, 3) := by decide +kernel
theorem dX8_init_145 : decode cX8_init 145 = .ok (.goto (-21), 3) := by decide +kernel
theorem dX8_init_148 : decode cX8_init 148 = .ok (.aload_n 0, 1) := by decide +kernel
theorem dX8_init_149 : decode cX8_init 149 = .ok (.getfield 56, 3) := by decide +kernel
theorem dX8_init_152 : decode cX8_init 152 = .ok (.iconst (-1), 1) := by decide +kernel
theorem dX8_init_153 : decode cX8_init 153 = .ok (.putfield 77, 3) := by decide +kernel
theorem dX8_init_156 : decode cX8_init 156 = .ok (.return_, 1) := by decide +kernel
theorem dX8_isIn_0 : decode cX8_isIn 0 = .ok (.aload_n 0, 1) := by decide +kernel
theorem dX8_isIn_1 : decode cX8_isIn 1 = .ok (.iload_n 1, 1) := by decide +kernel
theorem dX8_isIn_2 : decode cX8_isIn 2 = .ok (.invokevirtual 138, 3) := by decide +kernel
theorem dX8_isIn_5 : decode cX8_isIn 5 = .ok (.ifCond .eq 21, 3) := by decide +kernel
theorem dX8_isIn_26 : decode cX8_isIn 26 = .ok (.iconst 0, 1) := by decide +kernel
theorem dX8_isIn_27 : decode cX8_isIn 27 = .ok (.ireturn, 1) := by decide +kernel
theorem dX8_isPair_0 : decode cX8_isPair 0 = .ok (.iload_n 1, 1) := by decide +kernel
theorem dX8_isPair_1 : decode cX8_isPair 1 = .ok (.iload_n 2, 1) := by decide +kernel
theorem dX8_isPair_2 : decode cX8_isPair 2 = .ok (.if_icmp .eq 23, 3) := by decide +kernel
theorem dX8_isPair_5 : decode cX8_isPair 5 = .ok (.aload_n 0, 1) := by decide +kernel
theorem dX8_isPair_6 : decode cX8_isPair 6 = .ok (.iload_n 1, 1) := by decide +kernel
theorem dX8_isPair_7 : decode cX8_isPair 7 = .ok (.invokevirtual 145, 3) := by decide +kernel
theorem dX8_isPair_10 : decode cX8_isPair 10 = .ok (.ifCond .eq 15, 3) := by decide +kernel
theorem dX8_isPair_25 : decode cX8_isPair 25 = .ok (.iconst 0, 1) := by decide +kernel
theorem dX8_isPair_26 : decode cX8_isPair 26 = .ok (.ireturn, 1) := by decide +kernel
theorem dX8_isTold_0 : decode cX8_isTold 0 = .ok (.iload_n 1, 1) := by decide +kernel
theorem dX8_isTold_1 : decode cX8_isTold 1 = .ok (.ifCond .lt 18, 3) := by decide +kernel
theorem dX8_isTold_4 : decode cX8_isTold 4 = .ok (.iload_n 1, 1) := by decide +kernel
theorem dX8_isTold_5 : decode cX8_isTold 5 = .ok (.aload_n 0, 1) := by decide +kernel
theorem dX8_isTold_6 : decode cX8_isTold 6 = .ok (.getfield 27, 3) := by decide +kernel
theorem dX8_isTold_9 : decode cX8_isTold 9 = .ok (.getfield 108, 3) := by decide +kernel
theorem dX8_isTold_12 : decode cX8_isTold 12 = .ok (.if_icmp .ge 7, 3) := by decide +kernel
theorem dX8_isTold_19 : decode cX8_isTold 19 = .ok (.iconst 0, 1) := by decide +kernel
theorem dX8_isTold_20 : decode cX8_isTold 20 = .ok (.ireturn, 1) := by decide +kernel
theorem dX8_judge_0 : decode cX8_judge 0 = .ok (.aload_n 0, 1) := by decide +kernel
theorem dX8_judge_1 : decode cX8_judge 1 = .ok (.getfield 52, 3) := by decide +kernel
theorem dX8_judge_4 : decode cX8_judge 4 = .ok (.getfield 77, 3) := by decide +kernel
theorem dX8_judge_7 : decode cX8_judge 7 = .ok (.aload_n 0, 1) := by decide +kernel
theorem dX8_judge_8 : decode cX8_judge 8 = .ok (.invokevirtual 164, 3) := by decide +kernel
theorem dX8_judge_11 : decode cX8_judge 11 = .ok (.if_icmp .eq 6, 3) := by decide +kernel
theorem dX8_judge_17 : decode cX8_judge 17 = .ok (.iload_n 1, 1) := by decide +kernel
theorem dX8_judge_18 : decode cX8_judge 18 = .ok (.tableswitch 41 0 2 #[26, 31, 36], 26) := by decide +kernel
theorem dX8_judge_44 : decode cX8_judge 44 = .ok (.aload_n 0, 1) := by decide +kernel
theorem dX8_judge_45 : decode cX8_judge 45 = .ok (.invokevirtual 166, 3) := by decide +kernel
theorem dX8_judge_48 : decode cX8_judge 48 = .ok (.ireturn, 1) := by decide +kernel
theorem dX8_judge_49 : decode cX8_judge 49 = .ok (.aload_n 0, 1) := by decide +kernel
theorem dX8_judge_50 : decode cX8_judge 50 = .ok (.invokevirtual 169, 3) := by decide +kernel
theorem dX8_judge_53 : decode cX8_judge 53 = .ok (.ireturn, 1) := by decide +kernel
theorem dX8_judge_54 : decode cX8_judge 54 = .ok (.aload_n 0, 1) := by decide +kernel
theorem dX8_judge_55 : decode cX8_judge 55 = .ok (.invokevirtual 172, 3) := by decide +kernel
theorem dX8_judge_58 : decode cX8_judge 58 = .ok (.ireturn, 1) := by decide +kernel
theorem dX8_judge_59 : decode cX8_judge 59 = .ok (.bipush (-2), 2) := by decide +kernel
theorem dX8_judge_61 : decode cX8_judge 61 = .ok (.ireturn, 1) := by decide +kernel
theorem dX8_later_0 : decode cX8_later 0 = .ok (.iload_n 1, 1) := by decide +kernel
theorem dX8_later_1 : decode cX8_later 1 = .ok (.ifCond .lt 25, 3) := by decide +kernel
theorem dX8_later_4 : decode cX8_later 4 = .ok (.iload_n 1, 1) := by decide +kernel
theorem dX8_later_5 : decode cX8_later 5 = .ok (.sipush 1000, 3) := by decide +kernel
theorem dX8_later_8 : decode cX8_later 8 = .ok (.if_icmp .gt 18, 3) := by decide +kernel
theorem dX8_later_11 : decode cX8_later 11 = .ok (.aload_n 0, 1) := by decide +kernel
theorem dX8_later_12 : decode cX8_later 12 = .ok (.getfield 45, 3) := by decide +kernel
theorem dX8_later_15 : decode cX8_later 15 = .ok (.getfield 283, 3) := by decide +kernel
theorem dX8_later_18 : decode cX8_later 18 = .ok (.iload_n 1, 1) := by decide +kernel
theorem dX8_later_19 : decode cX8_later 19 = .ok (.iadd, 1) := by decide +kernel
theorem dX8_later_20 : decode cX8_later 20 = .ok (.ldc_w 286, 3) := by decide +kernel
theorem dX8_later_23 : decode cX8_later 23 = .ok (.if_icmp .le 5, 3) := by decide +kernel
theorem dX8_later_26 : decode cX8_later 26 = .ok (.iconst (-1), 1) := by decide +kernel
theorem dX8_later_27 : decode cX8_later 27 = .ok (.ireturn, 1) := by decide +kernel
theorem dX8_later_28 : decode cX8_later 28 = .ok (.aload_n 0, 1) := by decide +kernel
theorem dX8_later_29 : decode cX8_later 29 = .ok (.getfield 45, 3) := by decide +kernel
theorem dX8_later_32 : decode cX8_later 32 = .ok (.dup, 1) := by decide +kernel
theorem dX8_later_33 : decode cX8_later 33 = .ok (.getfield 283, 3) := by decide +kernel
theorem dX8_later_36 : decode cX8_later 36 = .ok (.iload_n 1, 1) := by decide +kernel
theorem dX8_later_37 : decode cX8_later 37 = .ok (.iadd, 1) := by decide +kernel
theorem dX8_later_38 : decode cX8_later 38 = .ok (.putfield 283, 3) := by decide +kernel
theorem dX8_later_41 : decode cX8_later 41 = .ok (.aload_n 0, 1) := by decide +kernel
theorem dX8_later_42 : decode cX8_later 42 = .ok (.getfield 45, 3) := by decide +kernel
theorem dX8_later_45 : decode cX8_later 45 = .ok (.getfield 283, 3) := by decide +kernel
theorem dX8_later_48 : decode cX8_later 48 = .ok (.ireturn, 1) := by decide +kernel
theorem dX8_lawful_0 : decode cX8_lawful 0 = .ok (.aload_n 0, 1) := by decide +kernel
theorem dX8_lawful_1 : decode cX8_lawful 1 = .ok (.invokevirtual 222, 3) := by decide +kernel
theorem dX8_lawful_4 : decode cX8_lawful 4 = .ok (.aload_n 0, 1) := by decide +kernel
theorem dX8_lawful_5 : decode cX8_lawful 5 = .ok (.getfield 62, 3) := by decide +kernel
theorem dX8_lawful_8 : decode cX8_lawful 8 = .ok (.invokevirtual 225, 3) := by decide +kernel
theorem dX8_lawful_11 : decode cX8_lawful 11 = .ok (.ireturn, 1) := by decide +kernel
