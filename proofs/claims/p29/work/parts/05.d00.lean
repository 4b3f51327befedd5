theorem dX9_about_0 : decode cX9_about 0 = .ok (.iload_n 1, 1) := by decide +kernel
theorem dX9_about_1 : decode cX9_about 1 = .ok (.tableswitch 128 0 9 #[55, 65, 70, 75, 80, 85, 90, 95, 100, 110], 55) := by decide +kernel
theorem dX9_about_56 : decode cX9_about 56 = .ok (.aload_n 0, 1) := by decide +kernel
theorem dX9_about_57 : decode cX9_about 57 = .ok (.getfield 20, 3) := by decide +kernel
theorem dX9_about_60 : decode cX9_about 60 = .ok (.aload_n 0, 1) := by decide +kernel
theorem dX9_about_61 : decode cX9_about 61 = .ok (.getfield 248, 3) := by decide +kernel
theorem dX9_about_64 : decode cX9_about 64 = .ok (.iaload, 1) := by decide +kernel
theorem dX9_about_65 : decode cX9_about 65 = .ok (.ireturn, 1) := by decide +kernel
theorem dX9_about_66 : decode cX9_about 66 = .ok (.aload_n 0, 1) := by decide +kernel
theorem dX9_about_67 : decode cX9_about 67 = .ok (.invokevirtual 381, 3) := by decide +kernel
theorem dX9_about_70 : decode cX9_about 70 = .ok (.ireturn, 1) := by decide +kernel
theorem dX9_about_71 : decode cX9_about 71 = .ok (.aload_n 0, 1) := by decide +kernel
theorem dX9_about_72 : decode cX9_about 72 = .ok (.getfield 335, 3) := by decide +kernel
theorem dX9_about_75 : decode cX9_about 75 = .ok (.ireturn, 1) := by decide +kernel
theorem dX9_about_76 : decode cX9_about 76 = .ok (.aload_n 0, 1) := by decide +kernel
theorem dX9_about_77 : decode cX9_about 77 = .ok (.getfield 355, 3) := by decide +kernel
theorem dX9_about_80 : decode cX9_about 80 = .ok (.ireturn, 1) := by decide +kernel
theorem dX9_about_81 : decode cX9_about 81 = .ok (.aload_n 0, 1) := by decide +kernel
theorem dX9_about_82 : decode cX9_about 82 = .ok (.getfield 254, 3) := by decide +kernel
theorem dX9_about_85 : decode cX9_about 85 = .ok (.ireturn, 1) := by decide +kernel
theorem dX9_about_86 : decode cX9_about 86 = .ok (.aload_n 0, 1) := by decide +kernel
theorem dX9_about_87 : decode cX9_about 87 = .ok (.getfield 477, 3) := by decide +kernel
theorem dX9_about_90 : decode cX9_about 90 = .ok (.ireturn, 1) := by decide +kernel
theorem dX9_about_91 : decode cX9_about 91 = .ok (.aload_n 0, 1) := by decide +kernel
theorem dX9_about_92 : decode cX9_about 92 = .ok (.getfield 245, 3) := by decide +kernel
theorem dX9_about_95 : decode cX9_about 95 = .ok (.ireturn, 1) := by decide +kernel
theorem dX9_about_96 : decode cX9_about 96 = .ok (.aload_n 0, 1) := by decide +kernel
theorem dX9_about_97 : decode cX9_about 97 = .ok (.getfield 86, 3) := by decide +kernel
theorem dX9_about_100 : decode cX9_about 100 = .ok (.ireturn, 1) := by decide +kernel
theorem dX9_about_101 : decode cX9_about 101 = .ok (.aload_n 0, 1) := by decide +kernel
theorem dX9_about_102 : decode cX9_about 102 = .ok (.getfield 30, 3) := by decide +kernel
theorem dX9_about_105 : decode cX9_about 105 = .ok (.aload_n 0, 1) := by decide +kernel
theorem dX9_about_106 : decode cX9_about 106 = .ok (.getfield 248, 3) := by decide +kernel
theorem dX9_about_109 : decode cX9_about 109 = .ok (.iaload, 1) := by decide +kernel
theorem dX9_about_110 : decode cX9_about 110 = .ok (.ireturn, 1) := by decide +kernel
theorem dX9_about_111 : decode cX9_about 111 = .ok (.aload_n 0, 1) := by decide +kernel
theorem dX9_about_112 : decode cX9_about 112 = .ok (.getfield 52, 3) := by decide +kernel
theorem dX9_about_115 : decode cX9_about 115 = .ok (.aload_n 0, 1) := by decide +kernel
theorem dX9_about_116 : decode cX9_about 116 = .ok (.getfield 248, 3) := by decide +kernel
theorem dX9_about_119 : decode cX9_about 119 = .ok (.baload, 1) := by decide +kernel
theorem dX9_about_120 : decode cX9_about 120 = .ok (.ifCond .eq 7, 3) := by decide +kernel
theorem dX9_about_123 : decode cX9_about 123 = .ok (.iconst 1, 1) := by decide +kernel
theorem dX9_about_124 : decode cX9_about 124 = .ok (.goto 4, 3) := by decide +kernel
theorem dX9_about_127 : decode cX9_about 127 = .ok (.iconst 0, 1) := by decide +kernel
theorem dX9_about_128 : decode cX9_about 128 = .ok (.ireturn, 1) := by decide +kernel
theorem dX9_about_129 : decode cX9_about 129 = .ok (.iconst (-1), 1) := by decide +kernel
theorem dX9_about_130 : decode cX9_about 130 = .ok (.ireturn, 1) := by decide +kernel
theorem dX9_amount_0 : decode cX9_amount 0 = .ok (.aload_n 0, 1) := by decide +kernel
theorem dX9_amount_1 : decode cX9_amount 1 = .ok (.iload_n 2, 1) := by decide +kernel
theorem dX9_amount_2 : decode cX9_amount 2 = .ok (.invokevirtual 326, 3) := by decide +kernel
theorem dX9_amount_5 : decode cX9_amount 5 = .ok (.istore 4, 2) := by decide +kernel
theorem dX9_amount_7 : decode cX9_amount 7 = .ok (.aload_n 0, 1) := by decide +kernel
theorem dX9_amount_8 : decode cX9_amount 8 = .ok (.iload_n 3, 1) := by decide +kernel
theorem dX9_amount_9 : decode cX9_amount 9 = .ok (.invokevirtual 326, 3) := by decide +kernel
theorem dX9_amount_12 : decode cX9_amount 12 = .ok (.istore 5, 2) := by decide +kernel
theorem dX9_amount_14 : decode cX9_amount 14 = .ok (.aload_n 0, 1) := by decide +kernel
theorem dX9_amount_15 : decode cX9_amount 15 = .ok (.getfield 62, 3) := by decide +kernel
theorem dX9_amount_18 : decode cX9_amount 18 = .ok (.iload_n 1, 1) := by decide +kernel
theorem dX9_amount_19 : decode cX9_amount 19 = .ok (.iaload, 1) := by decide +kernel
theorem dX9_amount_20 : decode cX9_amount 20 = .ok (.lookupswitch 103 #[(104, 74), (108, 59), (110, 52), (115, 89), (119, 96)], 52) := by decide +kernel
theorem dX9_amount_72 : decode cX9_amount 72 = .ok (.aload_n 0, 1) := by decide +kernel
theorem dX9_amount_73 : decode cX9_amount 73 = .ok (.getfield 65, 3) := by decide +kernel
theorem dX9_amount_76 : decode cX9_amount 76 = .ok (.iload_n 1, 1) := by decide +kernel
theorem dX9_amount_77 : decode cX9_amount 77 = .ok (.iaload, 1) := by decide +kernel
theorem dX9_amount_78 : decode cX9_amount 78 = .ok (.ireturn, 1) := by decide +kernel
theorem dX9_amount_79 : decode cX9_amount 79 = .ok (.iload 4, 2) := by decide +kernel
theorem dX9_amount_81 : decode cX9_amount 81 = .ok (.iload 5, 2) := by decide +kernel
theorem dX9_amount_83 : decode cX9_amount 83 = .ok (.if_icmp .ge 8, 3) := by decide +kernel
theorem dX9_amount_86 : decode cX9_amount 86 = .ok (.iload 4, 2) := by decide +kernel
theorem dX9_amount_88 : decode cX9_amount 88 = .ok (.goto 5, 3) := by decide +kernel
theorem dX9_amount_91 : decode cX9_amount 91 = .ok (.iload 5, 2) := by decide +kernel
theorem dX9_amount_93 : decode cX9_amount 93 = .ok (.ireturn, 1) := by decide +kernel
theorem dX9_amount_94 : decode cX9_amount 94 = .ok (.iload 4, 2) := by decide +kernel
theorem dX9_amount_96 : decode cX9_amount 96 = .ok (.iload 5, 2) := by decide +kernel
theorem dX9_amount_98 : decode cX9_amount 98 = .ok (.if_icmp .ge 8, 3) := by decide +kernel
theorem dX9_amount_101 : decode cX9_amount 101 = .ok (.iload 5, 2) := by decide +kernel
theorem dX9_amount_103 : decode cX9_amount 103 = .ok (.goto 5, 3) := by decide +kernel
theorem dX9_amount_106 : decode cX9_amount 106 = .ok (.iload 4, 2) := by decide +kernel
theorem dX9_amount_108 : decode cX9_amount 108 = .ok (.ireturn, 1) := by decide +kernel
theorem dX9_amount_109 : decode cX9_amount 109 = .ok (.aload_n 0, 1) := by decide +kernel
theorem dX9_amount_110 : decode cX9_amount 110 = .ok (.iload_n 2, 1) := by decide +kernel
theorem dX9_amount_111 : decode cX9_amount 111 = .ok (.iload_n 3, 1) := by decide +kernel
theorem dX9_amount_112 : decode cX9_amount 112 = .ok (.invokevirtual 329, 3) := by decide +kernel
theorem dX9_amount_115 : decode cX9_amount 115 = .ok (.ireturn, 1) := by decide +kernel
theorem dX9_amount_116 : decode cX9_amount 116 = .ok (.aload_n 0, 1) := by decide +kernel
theorem dX9_amount_117 : decode cX9_amount 117 = .ok (.iload_n 2, 1) := by decide +kernel
theorem dX9_amount_118 : decode cX9_amount 118 = .ok (.iload_n 3, 1) := by decide +kernel
theorem dX9_amount_119 : decode cX9_amount 119 = .ok (.invokevirtual 332, 3) := by decide +kernel
theorem dX9_amount_122 : decode cX9_amount 122 = .ok (.ireturn, 1) := by decide +kernel
theorem dX9_amount_123 : decode cX9_amount 123 = .ok (.aload_n 0, 1) := by decide +kernel
theorem dX9_amount_124 : decode cX9_amount 124 = .ok (.getfield 335, 3) := by decide +kernel
theorem dX9_amount_127 : decode cX9_amount 127 = .ok (.iconst 1, 1) := by decide +kernel
theorem dX9_amount_128 : decode cX9_amount 128 = .ok (.iadd, 1) := by decide +kernel
theorem dX9_amount_129 : decode cX9_amount 129 = .ok (.ireturn, 1) := by decide +kernel
theorem dX9_areBeside_0 : decode cX9_areBeside 0 = .ok (.aload_n 0, 1) := by decide +kernel
theorem dX9_areBeside_1 : decode cX9_areBeside 1 = .ok (.invokevirtual 381, 3) := by decide +kernel
theorem dX9_areBeside_4 : decode cX9_areBeside 4 = .ok (.istore_n 3, 1) := by decide +kernel
theorem dX9_areBeside_5 : decode cX9_areBeside 5 = .ok (.iconst 0, 1) := by decide +kernel
theorem dX9_areBeside_6 : decode cX9_areBeside 6 = .ok (.istore 4, 2) := by decide +kernel
theorem dX9_areBeside_8 : decode cX9_areBeside 8 = .ok (.iload 4, 2) := by decide +kernel
theorem dX9_areBeside_10 : decode cX9_areBeside 10 = .ok (.iconst 1, 1) := by decide +kernel
theorem dX9_areBeside_11 : decode cX9_areBeside 11 = .ok (.iadd, 1) := by decide +kernel
theorem dX9_areBeside_12 : decode cX9_areBeside 12 = .ok (.iload_n 3, 1) := by decide +kernel
theorem dX9_areBeside_13 : decode cX9_areBeside 13 = .ok (.if_icmp .ge 59, 3) := by decide +kernel
theorem dX9_areBeside_16 : decode cX9_areBeside 16 = .ok (.aload_n 0, 1) := by decide +kernel
theorem dX9_areBeside_17 : decode cX9_areBeside 17 = .ok (.getfield 89, 3) := by decide +kernel
theorem dX9_areBeside_20 : decode cX9_areBeside 20 = .ok (.iload 4, 2) := by decide +kernel
theorem dX9_areBeside_22 : decode cX9_areBeside 22 = .ok (.iaload, 1) := by decide +kernel
theorem dX9_areBeside_23 : decode cX9_areBeside 23 = .ok (.iload_n 1, 1) := by decide +kernel
theorem dX9_areBeside_24 : decode cX9_areBeside 24 = .ok (.if_icmp .ne 16, 3) := by decide +kernel
theorem dX9_areBeside_27 : decode cX9_areBeside 27 = .ok (.aload_n 0, 1) := by decide +kernel
theorem dX9_areBeside_28 : decode cX9_areBeside 28 = .ok (.getfield 89, 3) := by decide +kernel
theorem dX9_areBeside_31 : decode cX9_areBeside 31 = .ok (.iload 4, 2) := by decide +kernel
theorem dX9_areBeside_33 : decode cX9_areBeside 33 = .ok (.iconst 1, 1) := by decide +kernel
theorem dX9_areBeside_34 : decode cX9_areBeside 34 = .ok (.iadd, 1) := by decide +kernel
theorem dX9_areBeside_35 : decode cX9_areBeside 35 = .ok (.iaload, 1) := by decide +kernel
theorem dX9_areBeside_36 : decode cX9_areBeside 36 = .ok (.iload_n 2, 1) := by decide +kernel
theorem dX9_areBeside_37 : decode cX9_areBeside 37 = .ok (.if_icmp .eq 27, 3) := by decide +kernel
theorem dX9_areBeside_40 : decode cX9_areBeside 40 = .ok (.aload_n 0, 1) := by decide +kernel
theorem dX9_areBeside_41 : decode cX9_areBeside 41 = .ok (.getfield 89, 3) := by decide +kernel
theorem dX9_areBeside_44 : decode cX9_areBeside 44 = .ok (.iload 4, 2) := by decide +kernel
theorem dX9_areBeside_46 : decode cX9_areBeside 46 = .ok (.iaload, 1) := by decide +kernel
theorem dX9_areBeside_47 : decode cX9_areBeside 47 = .ok (.iload_n 2, 1) := by decide +kernel
theorem dX9_areBeside_48 : decode cX9_areBeside 48 = .ok (.if_icmp .ne 18, 3) := by decide +kernel
theorem dX9_areBeside_51 : decode cX9_areBeside 51 = .ok (.aload_n 0, 1) := by decide +kernel
theorem dX9_areBeside_52 : decode cX9_areBeside 52 = .ok (.getfield 89, 3) := by decide +kernel
theorem dX9_areBeside_55 : decode cX9_areBeside 55 = .ok (.iload 4, 2) := by decide +kernel
theorem dX9_areBeside_57 : decode cX9_areBeside 57 = .ok (.iconst 1, 1) := by decide +kernel
theorem dX9_areBeside_58 : decode cX9_areBeside 58 = .ok (.iadd, 1) := by decide +kernel
theorem dX9_areBeside_59 : decode cX9_areBeside 59 = .ok (.iaload, 1) := by decide +kernel
theorem dX9_areBeside_60 : decode cX9_areBeside 60 = .ok (.iload_n 1, 1) := by decide +kernel
theorem dX9_areBeside_61 : decode cX9_areBeside 61 = .ok (.if_icmp .ne 5, 3) := by decide +kernel
theorem dX9_areBeside_64 : decode cX9_areBeside 64 = .ok (.iconst 1, 1) := by decide +kernel
theorem dX9_areBeside_65 : decode cX9_areBeside 65 = .ok (.ireturn, 1) := by decide +kernel
theorem dX9_areBeside_66 : decode cX9_areBeside 66 = .ok (.iinc 4 1, 3) := by decide +kernel
theorem dX9_areBeside_69 : decode cX9_areBeside 69 = .ok (.goto (-61), 3) := by decide +kernel
theorem dX9_areBeside_72 : decode cX9_areBeside 72 = .ok (.aload_n 0, 1) := by decide +kernel
theorem dX9_areBeside_73 : decode cX9_areBeside 73 = .ok (.invokevirtual 384, 3) := by decide +kernel
theorem dX9_areBeside_76 : decode cX9_areBeside 76 = .ok (.ifCond .eq 51, 3) := by decide +kernel
theorem dX9_areBeside_79 : decode cX9_areBeside 79 = .ok (.aload_n 0, 1) := by decide +kernel
theorem dX9_areBeside_80 : decode cX9_areBeside 80 = .ok (.getfield 89, 3) := by decide +kernel
theorem dX9_areBeside_83 : decode cX9_areBeside 83 = .ok (.iload_n 3, 1) := by decide +kernel
theorem dX9_areBeside_84 : decode cX9_areBeside 84 = .ok (.iconst 1, 1) := by decide +kernel
theorem dX9_areBeside_85 : decode cX9_areBeside 85 = .ok (.isub, 1) := by decide +kernel
theorem dX9_areBeside_86 : decode cX9_areBeside 86 = .ok (.iaload, 1) := by decide +kernel
theorem dX9_areBeside_87 : decode cX9_areBeside 87 = .ok (.iload_n 1, 1) := by decide +kernel
theorem dX9_areBeside_88 : decode cX9_areBeside 88 = .ok (.if_icmp .ne 13, 3) := by decide +kernel
theorem dX9_areBeside_91 : decode cX9_areBeside 91 = .ok (.aload_n 0, 1) := by decide +kernel
theorem dX9_areBeside_92 : decode cX9_areBeside 92 = .ok (.getfield 89, 3) := by decide +kernel
theorem dX9_areBeside_95 : decode cX9_areBeside 95 = .ok (.iconst 0, 1) := by decide +kernel
theorem dX9_areBeside_96 : decode cX9_areBeside 96 = .ok (.iaload, 1) := by decide +kernel
theorem dX9_areBeside_97 : decode cX9_areBeside 97 = .ok (.iload_n 2, 1) := by decide +kernel
theorem dX9_areBeside_98 : decode cX9_areBeside 98 = .ok (.if_icmp .eq 25, 3) := by decide +kernel
theorem dX9_areBeside_101 : decode cX9_areBeside 101 = .ok (.aload_n 0, 1) := by decide +kernel
theorem dX9_areBeside_102 : decode cX9_areBeside 102 = .ok (.getfield 89, 3) := by decide +kernel
theorem dX9_areBeside_105 : decode cX9_areBeside 105 = .ok (.iload_n 3, 1) := by decide +kernel
theorem dX9_areBeside_106 : decode cX9_areBeside 106 = .ok (.iconst 1, 1) := by decide +kernel
theorem dX9_areBeside_107 : decode cX9_areBeside 107 = .ok (.isub, 1) := by decide +kernel
theorem dX9_areBeside_108 : decode cX9_areBeside 108 = .ok (.iaload, 1) := by decide +kernel
theorem dX9_areBeside_109 : decode cX9_areBeside 109 = .ok (.iload_n 2, 1) := by decide +kernel
theorem dX9_areBeside_110 : decode cX9_areBeside 110 = .ok (.if_icmp .ne 17, 3) := by decide +kernel
theorem dX9_areBeside_113 : decode cX9_areBeside 113 = .ok (.aload_n 0, 1) := by decide +kernel
theorem dX9_areBeside_114 : decode cX9_areBeside 114 = .ok (.getfield 89, 3) := by decide +kernel
theorem dX9_areBeside_117 : decode cX9_areBeside 117 = .ok (.iconst 0, 1) := by decide +kernel
theorem dX9_areBeside_118 : decode cX9_areBeside 118 = .ok (.iaload, 1) := by decide +kernel
theorem dX9_areBeside_119 : decode cX9_areBeside 119 = .ok (.iload_n 1, 1) := by decide +kernel
theorem dX9_areBeside_120 : decode cX9_areBeside 120 = .ok (.if_icmp .ne 7, 3) := by decide +kernel
theorem dX9_areBeside_123 : decode cX9_areBeside 123 = .ok (.iconst 1, 1) := by decide +kernel
theorem dX9_areBeside_124 : decode cX9_areBeside 124 = .ok (.goto 4, 3) := by decide +kernel
theorem dX9_areBeside_127 : decode cX9_areBeside 127 = .ok (.iconst 0, 1) := by decide +kernel
theorem dX9_areBeside_128 : decode cX9_areBeside 128 = .ok (.ireturn, 1) := by decide +kernel
theorem dX9_areLet_0 : decode cX9_areLet 0 = .ok (.aload_n 0, 1) := by decide +kernel
theorem dX9_areLet_1 : decode cX9_areLet 1 = .ok (.getfield 42, 3) := by decide +kernel
theorem dX9_areLet_4 : decode cX9_areLet 4 = .ok (.bipush 9, 2) := by decide +kernel
theorem dX9_areLet_6 : decode cX9_areLet 6 = .ok (.aload_n 0, 1) := by decide +kernel
theorem dX9_areLet_7 : decode cX9_areLet 7 = .ok (.getfield 248, 3) := by decide +kernel
theorem dX9_areLet_10 : decode cX9_areLet 10 = .ok (.imul, 1) := by decide +kernel
theorem dX9_areLet_11 : decode cX9_areLet 11 = .ok (.iload_n 1, 1) := by decide +kernel
theorem dX9_areLet_12 : decode cX9_areLet 12 = .ok (.iadd, 1) := by decide +kernel
theorem dX9_areLet_13 : decode cX9_areLet 13 = .ok (.iaload, 1) := by decide +kernel
theorem dX9_areLet_14 : decode cX9_areLet 14 = .ok (.iload_n 2, 1) := by decide +kernel
theorem dX9_areLet_15 : decode cX9_areLet 15 = .ok (.ishr, 1) := by decide +kernel
theorem dX9_areLet_16 : decode cX9_areLet 16 = .ok (.iconst 1, 1) := by decide +kernel
theorem dX9_areLet_17 : decode cX9_areLet 17 = .ok (.iand, 1) := by decide +kernel
theorem dX9_areLet_18 : decode cX9_areLet 18 = .ok (.ifCond .ne 16, 3) := by decide +kernel
theorem dX9_areLet_21 : decode cX9_areLet 21 = .ok (.aload_n 0, 1) := by decide +kernel
theorem dX9_areLet_22 : decode cX9_areLet 22 = .ok (.iload_n 1, 1) := by decide +kernel
theorem dX9_areLet_23 : decode cX9_areLet 23 = .ok (.iload_n 2, 1) := by decide +kernel
theorem dX9_areLet_24 : decode cX9_areLet 24 = .ok (.invokevirtual 368, 3) := by decide +kernel
theorem dX9_areLet_27 : decode cX9_areLet 27 = .ok (.ifCond .eq 7, 3) := by decide +kernel
theorem dX9_areLet_30 : decode cX9_areLet 30 = .ok (.iconst 1, 1) := by decide +kernel
theorem dX9_areLet_31 : decode cX9_areLet 31 = .ok (.goto 4, 3) := by decide +kernel
theorem dX9_areLet_34 : decode cX9_areLet 34 = .ok (.iconst 0, 1) := by decide +kernel
theorem dX9_areLet_35 : decode cX9_areLet 35 = .ok (.ireturn, 1) := by decide +kernel
theorem dX9_at_0 : decode cX9_at 0 = .ok (.aload_n 0, 1) := by decide +kernel
theorem dX9_at_1 : decode cX9_at 1 = .ok (.iload_n 1, 1) := by decide +kernel
theorem dX9_at_2 : decode cX9_at 2 = .ok (.invokevirtual 371, 3) := by decide +kernel
theorem dX9_at_5 : decode cX9_at 5 = .ok (.ifCond .eq 24, 3) := by decide +kernel
theorem dX9_at_8 : decode cX9_at 8 = .ok (.iload_n 2, 1) := by decide +kernel
theorem dX9_at_9 : decode cX9_at 9 = .ok (.iconst 0, 1) := by decide +kernel
theorem dX9_at_10 : decode cX9_at 10 = .ok (.bipush 8, 2) := by decide +kernel
theorem dX9_at_12 : decode cX9_at 12 = .ok (.invokestatic 361, 3) := by decide +kernel
theorem dX9_at_15 : decode cX9_at 15 = .ok (.ifCond .eq 14, 3) := by decide +kernel
theorem dX9_at_18 : decode cX9_at 18 = .ok (.aload_n 0, 1) := by decide +kernel
theorem dX9_at_19 : decode cX9_at 19 = .ok (.iconst 0, 1) := by decide +kernel
theorem dX9_at_20 : decode cX9_at 20 = .ok (.iload_n 1, 1) := by decide +kernel
theorem dX9_at_21 : decode cX9_at 21 = .ok (.iload_n 2, 1) := by decide +kernel
theorem dX9_at_22 : decode cX9_at 22 = .ok (.iload_n 3, 1) := by decide +kernel
theorem dX9_at_23 : decode cX9_at 23 = .ok (.invokevirtual 480, 3) := by decide +kernel
theorem dX9_at_26 : decode cX9_at 26 = .ok (.goto 4, 3) := by decide +kernel
theorem dX9_at_29 : decode cX9_at 29 = .ok (.iconst (-1), 1) := by decide +kernel
theorem dX9_at_30 : decode cX9_at 30 = .ok (.ireturn, 1) := by decide +kernel
theorem dX9_back_0 : decode cX9_back 0 = .ok (.iload_n 1, 1) := by decide +kernel
theorem dX9_back_1 : decode cX9_back 1 = .ok (.iconst 0, 1) := by decide +kernel
theorem dX9_back_2 : decode cX9_back 2 = .ok (.iconst 2, 1) := by decide +kernel
theorem dX9_back_3 : decode cX9_back 3 = .ok (.invokestatic 361, 3) := by decide +kernel
theorem dX9_back_6 : decode cX9_back 6 = .ok (.ifCond .eq 12, 3) := by decide +kernel
theorem dX9_back_9 : decode cX9_back 9 = .ok (.aload_n 0, 1) := by decide +kernel
theorem dX9_back_10 : decode cX9_back 10 = .ok (.getfield 131, 3) := by decide +kernel
theorem dX9_back_13 : decode cX9_back 13 = .ok (.iload_n 1, 1) := by decide +kernel
theorem dX9_back_14 : decode cX9_back 14 = .ok (.iaload, 1) := by decide +kernel
theorem dX9_back_15 : decode cX9_back 15 = .ok (.ifCond .ge 5, 3) := by decide +kernel
theorem dX9_back_18 : decode cX9_back 18 = .ok (.iconst (-1), 1) := by decide +kernel
theorem dX9_back_19 : decode cX9_back 19 = .ok (.ireturn, 1) := by decide +kernel
theorem dX9_back_20 : decode cX9_back 20 = .ok (.aload_n 0, 1) := by decide +kernel
theorem dX9_back_21 : decode cX9_back 21 = .ok (.aload_n 0, 1) := by decide +kernel
theorem dX9_back_22 : decode cX9_back 22 = .ok (.getfield 131, 3) := by decide +kernel
theorem dX9_back_25 : decode cX9_back 25 = .ok (.iload_n 1, 1) := by decide +kernel
theorem dX9_back_26 : decode cX9_back 26 = .ok (.iaload, 1) := by decide +kernel
theorem dX9_back_27 : decode cX9_back 27 = .ok (.putfield 335, 3) := by decide +kernel
theorem dX9_back_30 : decode cX9_back 30 = .ok (.aload_n 0, 1) := by decide +kernel
theorem dX9_back_31 : decode cX9_back 31 = .ok (.aload_n 0, 1) := by decide +kernel
theorem dX9_back_32 : decode cX9_back 32 = .ok (.getfield 134, 3) := by decide +kernel
theorem dX9_back_35 : decode cX9_back 35 = .ok (.iload_n 1, 1) := by decide +kernel
theorem dX9_back_36 : decode cX9_back 36 = .ok (.iaload, 1) := by decide +kernel
theorem dX9_back_37 : decode cX9_back 37 = .ok (.putfield 345, 3) := by decide +kernel
theorem dX9_back_40 : decode cX9_back 40 = .ok (.aload_n 0, 1) := by decide +kernel
theorem dX9_back_41 : decode cX9_back 41 = .ok (.aload_n 0, 1) := by decide +kernel
theorem dX9_back_42 : decode cX9_back 42 = .ok (.getfield 137, 3) := by decide +kernel
theorem dX9_back_45 : decode cX9_back 45 = .ok (.iload_n 1, 1) := by decide +kernel
theorem dX9_back_46 : decode cX9_back 46 = .ok (.iaload, 1) := by decide +kernel
theorem dX9_back_47 : decode cX9_back 47 = .ok (.putfield 86, 3) := by decide +kernel
theorem dX9_back_50 : decode cX9_back 50 = .ok (.aload_n 0, 1) := by decide +kernel
theorem dX9_back_51 : decode cX9_back 51 = .ok (.aload_n 0, 1) := by decide +kernel
theorem dX9_back_52 : decode cX9_back 52 = .ok (.getfield 146, 3) := by decide +kernel
theorem dX9_back_55 : decode cX9_back 55 = .ok (.iload_n 1, 1) := by decide +kernel
theorem dX9_back_56 : decode cX9_back 56 = .ok (.baload, 1) := by decide +kernel
theorem dX9_back_57 : decode cX9_back 57 = .ok (.putfield 348, 3) := by decide +kernel
theorem dX9_back_60 : decode cX9_back 60 = .ok (.iconst 0, 1) := by decide +kernel
theorem dX9_back_61 : decode cX9_back 61 = .ok (.istore_n 2, 1) := by decide +kernel
theorem dX9_back_62 : decode cX9_back 62 = .ok (.iload_n 2, 1) := by decide +kernel
theorem dX9_back_63 : decode cX9_back 63 = .ok (.bipush 81, 2) := by decide +kernel
theorem dX9_back_65 : decode cX9_back 65 = .ok (.if_icmp .ge 26, 3) := by decide +kernel
theorem dX9_back_68 : decode cX9_back 68 = .ok (.aload_n 0, 1) := by decide +kernel
theorem dX9_back_69 : decode cX9_back 69 = .ok (.getfield 77, 3) := by decide +kernel
theorem dX9_back_72 : decode cX9_back 72 = .ok (.iload_n 2, 1) := by decide +kernel
theorem dX9_back_73 : decode cX9_back 73 = .ok (.aload_n 0, 1) := by decide +kernel
theorem dX9_back_74 : decode cX9_back 74 = .ok (.getfield 140, 3) := by decide +kernel
theorem dX9_back_77 : decode cX9_back 77 = .ok (.bipush 81, 2) := by decide +kernel
theorem dX9_back_79 : decode cX9_back 79 = .ok (.iload_n 1, 1) := by decide +kernel
theorem dX9_back_80 : decode cX9_back 80 = .ok (.imul, 1) := by decide +kernel
theorem dX9_back_81 : decode cX9_back 81 = .ok (.iload_n 2, 1) := by decide +kernel
theorem dX9_back_82 : decode cX9_back 82 = .ok (.iadd, 1) := by decide +kernel
theorem dX9_back_83 : decode cX9_back 83 = .ok (.iaload, 1) := by decide +kernel
theorem dX9_back_84 : decode cX9_back 84 = .ok (.iastore, 1) := by decide +kernel
theorem dX9_back_85 : decode cX9_back 85 = .ok (.iinc 2 1, 3) := by decide +kernel
theorem dX9_back_88 : decode cX9_back 88 = .ok (.goto (-26), 3) := by decide +kernel
theorem dX9_back_91 : decode cX9_back 91 = .ok (.iconst 0, 1) := by decide +kernel
theorem dX9_back_92 : decode cX9_back 92 = .ok (.istore_n 2, 1) := by decide +kernel
theorem dX9_back_93 : decode cX9_back 93 = .ok (.iload_n 2, 1) := by decide +kernel
theorem dX9_back_94 : decode cX9_back 94 = .ok (.bipush 9, 2) := by decide +kernel
theorem dX9_back_96 : decode cX9_back 96 = .ok (.if_icmp .ge 26, 3) := by decide +kernel
theorem dX9_back_99 : decode cX9_back 99 = .ok (.aload_n 0, 1) := by decide +kernel
theorem dX9_back_100 : decode cX9_back 100 = .ok (.getfield 80, 3) := by decide +kernel
theorem dX9_back_103 : decode cX9_back 103 = .ok (.iload_n 2, 1) := by decide +kernel
theorem dX9_back_104 : decode cX9_back 104 = .ok (.aload_n 0, 1) := by decide +kernel
theorem dX9_back_105 : decode cX9_back 105 = .ok (.getfield 143, 3) := by decide +kernel
theorem dX9_back_108 : decode cX9_back 108 = .ok (.bipush 9, 2) := by decide +kernel
theorem dX9_back_110 : decode cX9_back 110 = .ok (.iload_n 1, 1) := by decide +kernel
theorem dX9_back_111 : decode cX9_back 111 = .ok (.imul, 1) := by decide +kernel
theorem dX9_back_112 : decode cX9_back 112 = .ok (.iload_n 2, 1) := by decide +kernel
theorem dX9_back_113 : decode cX9_back 113 = .ok (.iadd, 1) := by decide +kernel
theorem dX9_back_114 : decode cX9_back 114 = .ok (.iaload, 1) := by decide +kernel
theorem dX9_back_115 : decode cX9_back 115 = .ok (.iastore, 1) := by decide +kernel
theorem dX9_back_116 : decode cX9_back 116 = .ok (.iinc 2 1, 3) := by decide +kernel
theorem dX9_back_119 : decode cX9_back 119 = .ok (.goto (-26), 3) := by decide +kernel
theorem dX9_back_122 : decode cX9_back 122 = .ok (.aload_n 0, 1) := by decide +kernel
theorem dX9_back_123 : decode cX9_back 123 = .ok (.invokevirtual 352, 3) := by decide +kernel
theorem dX9_back_126 : decode cX9_back 126 = .ok (.aload_n 0, 1) := by decide +kernel
theorem dX9_back_127 : decode cX9_back 127 = .ok (.getfield 335, 3) := by decide +kernel
theorem dX9_back_130 : decode cX9_back 130 = .ok (.ireturn, 1) := by decide +kernel
theorem dX9_bearsAt_0 : decode cX9_bearsAt 0 = .ok (.aload_n 0, 1) := by decide +kernel
theorem dX9_bearsAt_1 : decode cX9_bearsAt 1 = .ok (.iload_n 2, 1) := by decide +kernel
theorem dX9_bearsAt_2 : decode cX9_bearsAt 2 = .ok (.invokevirtual 326, 3) := by decide +kernel
theorem dX9_bearsAt_5 : decode cX9_bearsAt 5 = .ok (.aload_n 0, 1) := by decide +kernel
theorem dX9_bearsAt_6 : decode cX9_bearsAt 6 = .ok (.getfield 39, 3) := by decide +kernel
theorem dX9_bearsAt_9 : decode cX9_bearsAt 9 = .ok (.bipush 9, 2) := by decide +kernel
theorem dX9_bearsAt_11 : decode cX9_bearsAt 11 = .ok (.aload_n 0, 1) := by decide +kernel
theorem dX9_bearsAt_12 : decode cX9_bearsAt 12 = .ok (.getfield 248, 3) := by decide +kernel
theorem dX9_bearsAt_15 : decode cX9_bearsAt 15 = .ok (.imul, 1) := by decide +kernel
theorem dX9_bearsAt_16 : decode cX9_bearsAt 16 = .ok (.iload_n 1, 1) := by decide +kernel
theorem dX9_bearsAt_17 : decode cX9_bearsAt 17 = .ok (.iadd, 1) := by decide +kernel
theorem dX9_bearsAt_18 : decode cX9_bearsAt 18 = .ok (.iaload, 1) := by decide +kernel
theorem dX9_bearsAt_19 : decode cX9_bearsAt 19 = .ok (.if_icmp .gt 7, 3) := by decide +kernel
theorem dX9_bearsAt_22 : decode cX9_bearsAt 22 = .ok (.iconst 1, 1) := by decide +kernel
theorem dX9_bearsAt_23 : decode cX9_bearsAt 23 = .ok (.goto 4, 3) := by decide +kernel
theorem dX9_bearsAt_26 : decode cX9_bearsAt 26 = .ok (.iconst 0, 1) := by decide +kernel
theorem dX9_bearsAt_27 : decode cX9_bearsAt 27 = .ok (.ireturn, 1) := by decide +kernel
theorem dX9_begin_0 : decode cX9_begin 0 = .ok (.iconst 0, 1) := by decide +kernel
theorem dX9_begin_1 : decode cX9_begin 1 = .ok (.istore_n 1, 1) := by decide +kernel
theorem dX9_begin_2 : decode cX9_begin 2 = .ok (.iload_n 1, 1) := by decide +kernel
theorem dX9_begin_3 : decode cX9_begin 3 = .ok (.bipush 81, 2) := by decide +kernel
theorem dX9_begin_5 : decode cX9_begin 5 = .ok (.if_icmp .ge 16, 3) := by decide +kernel
theorem dX9_begin_8 : decode cX9_begin 8 = .ok (.aload_n 0, 1) := by decide +kernel
theorem dX9_begin_9 : decode cX9_begin 9 = .ok (.getfield 77, 3) := by decide +kernel
theorem dX9_begin_12 : decode cX9_begin 12 = .ok (.iload_n 1, 1) := by decide +kernel
theorem dX9_begin_13 : decode cX9_begin 13 = .ok (.iconst 0, 1) := by decide +kernel
theorem dX9_begin_14 : decode cX9_begin 14 = .ok (.iastore, 1) := by decide +kernel
theorem dX9_begin_15 : decode cX9_begin 15 = .ok (.iinc 1 1, 3) := by decide +kernel
theorem dX9_begin_18 : decode cX9_begin 18 = .ok (.goto (-16), 3) := by decide +kernel
theorem dX9_begin_21 : decode cX9_begin 21 = .ok (.aload_n 0, 1) := by decide +kernel
theorem dX9_begin_22 : decode cX9_begin 22 = .ok (.iconst 0, 1) := by decide +kernel
theorem dX9_begin_23 : decode cX9_begin 23 = .ok (.putfield 335, 3) := by decide +kernel
theorem dX9_begin_26 : decode cX9_begin 26 = .ok (.aload_n 0, 1) := by decide +kernel
theorem dX9_begin_27 : decode cX9_begin 27 = .ok (.iconst 0, 1) := by decide +kernel
theorem dX9_begin_28 : decode cX9_begin 28 = .ok (.putfield 345, 3) := by decide +kernel
theorem dX9_begin_31 : decode cX9_begin 31 = .ok (.aload_n 0, 1) := by decide +kernel
theorem dX9_begin_32 : decode cX9_begin 32 = .ok (.iconst 0, 1) := by decide +kernel
theorem dX9_begin_33 : decode cX9_begin 33 = .ok (.putfield 348, 3) := by decide +kernel
theorem dX9_begin_36 : decode cX9_begin 36 = .ok (.aload_n 0, 1) := by decide +kernel
theorem dX9_begin_37 : decode cX9_begin 37 = .ok (.invokevirtual 352, 3) := by decide +kernel
theorem dX9_begin_40 : decode cX9_begin 40 = .ok (.return_, 1) := by decide +kernel
theorem dX9_behindUnit_0 : decode cX9_behindUnit 0 = .ok (.aload_n 0, 1) := by decide +kernel
theorem dX9_behindUnit_1 : decode cX9_behindUnit 1 = .ok (.invokevirtual 320, 3) := by decide +kernel
theorem dX9_behindUnit_4 : decode cX9_behindUnit 4 = .ok (.istore_n 1, 1) := by decide +kernel
theorem dX9_behindUnit_5 : decode cX9_behindUnit 5 = .ok (.iload_n 1, 1) := by decide +kernel
theorem dX9_behindUnit_6 : decode cX9_behindUnit 6 = .ok (.iconst 4, 1) := by decide +kernel
theorem dX9_behindUnit_7 : decode cX9_behindUnit 7 = .ok (.if_icmp .ne 16, 3) := by decide +kernel
theorem dX9_behindUnit_10 : decode cX9_behindUnit 10 = .ok (.aload_n 0, 1) := by decide +kernel
theorem dX9_behindUnit_11 : decode cX9_behindUnit 11 = .ok (.invokevirtual 323, 3) := by decide +kernel
theorem dX9_behindUnit_14 : decode cX9_behindUnit 14 = .ok (.ifCond .eq 9, 3) := by decide +kernel
theorem dX9_behindUnit_17 : decode cX9_behindUnit 17 = .ok (.aload_n 0, 1) := by decide +kernel
theorem dX9_behindUnit_18 : decode cX9_behindUnit 18 = .ok (.invokevirtual 236, 3) := by decide +kernel
theorem dX9_behindUnit_21 : decode cX9_behindUnit 21 = .ok (.iconst 1, 1) := by decide +kernel
theorem dX9_behindUnit_22 : decode cX9_behindUnit 22 = .ok (.ireturn, 1) := by decide +kernel
theorem dX9_behindUnit_23 : decode cX9_behindUnit 23 = .ok (.aload_n 0, 1) := by decide +kernel
theorem dX9_behindUnit_24 : decode cX9_behindUnit 24 = .ok (.getfield 68, 3) := by decide +kernel
theorem dX9_behindUnit_27 : decode cX9_behindUnit 27 = .ok (.aload_n 0, 1) := by decide +kernel
theorem dX9_behindUnit_28 : decode cX9_behindUnit 28 = .ok (.getfield 299, 3) := by decide +kernel
theorem dX9_behindUnit_31 : decode cX9_behindUnit 31 = .ok (.iconst 1, 1) := by decide +kernel
theorem dX9_behindUnit_32 : decode cX9_behindUnit 32 = .ok (.isub, 1) := by decide +kernel
theorem dX9_behindUnit_33 : decode cX9_behindUnit 33 = .ok (.iaload, 1) := by decide +kernel
theorem dX9_behindUnit_34 : decode cX9_behindUnit 34 = .ok (.bipush 6, 2) := by decide +kernel
theorem dX9_behindUnit_36 : decode cX9_behindUnit 36 = .ok (.if_icmp .gt 68, 3) := by decide +kernel
theorem dX9_behindUnit_39 : decode cX9_behindUnit 39 = .ok (.aload_n 0, 1) := by decide +kernel
theorem dX9_behindUnit_40 : decode cX9_behindUnit 40 = .ok (.getfield 68, 3) := by decide +kernel
theorem dX9_behindUnit_43 : decode cX9_behindUnit 43 = .ok (.aload_n 0, 1) := by decide +kernel
theorem dX9_behindUnit_44 : decode cX9_behindUnit 44 = .ok (.getfield 299, 3) := by decide +kernel
theorem dX9_behindUnit_47 : decode cX9_behindUnit 47 = .ok (.iconst 1, 1) := by decide +kernel
theorem dX9_behindUnit_48 : decode cX9_behindUnit 48 = .ok (.isub, 1) := by decide +kernel
theorem dX9_behindUnit_49 : decode cX9_behindUnit 49 = .ok (.iaload, 1) := by decide +kernel
theorem dX9_behindUnit_50 : decode cX9_behindUnit 50 = .ok (.iload_n 1, 1) := by decide +kernel
theorem dX9_behindUnit_51 : decode cX9_behindUnit 51 = .ok (.if_icmp .lt 53, 3) := by decide +kernel
theorem dX9_behindUnit_54 : decode cX9_behindUnit 54 = .ok (.aload_n 0, 1) := by decide +kernel
theorem dX9_behindUnit_55 : decode cX9_behindUnit 55 = .ok (.dup, 1) := by decide +kernel
theorem dX9_behindUnit_56 : decode cX9_behindUnit 56 = .ok (.getfield 299, 3) := by decide +kernel
theorem dX9_behindUnit_59 : decode cX9_behindUnit 59 = .ok (.iconst 1, 1) := by decide +kernel
theorem dX9_behindUnit_60 : decode cX9_behindUnit 60 = .ok (.isub, 1) := by decide +kernel
theorem dX9_behindUnit_61 : decode cX9_behindUnit 61 = .ok (.putfield 299, 3) := by decide +kernel
theorem dX9_behindUnit_64 : decode cX9_behindUnit 64 = .ok (.aload_n 0, 1) := by decide +kernel
theorem dX9_behindUnit_65 : decode cX9_behindUnit 65 = .ok (.getfield 68, 3) := by decide +kernel
theorem dX9_behindUnit_68 : decode cX9_behindUnit 68 = .ok (.aload_n 0, 1) := by decide +kernel
theorem dX9_behindUnit_69 : decode cX9_behindUnit 69 = .ok (.getfield 299, 3) := by decide +kernel
theorem dX9_behindUnit_72 : decode cX9_behindUnit 72 = .ok (.iaload, 1) := by decide +kernel
theorem dX9_behindUnit_73 : decode cX9_behindUnit 73 = .ok (.iconst 3, 1) := by decide +kernel
theorem dX9_behindUnit_74 : decode cX9_behindUnit 74 = .ok (.if_icmp .ne 13, 3) := by decide +kernel
theorem dX9_behindUnit_77 : decode cX9_behindUnit 77 = .ok (.aload_n 0, 1) := by decide +kernel
theorem dX9_behindUnit_78 : decode cX9_behindUnit 78 = .ok (.dup, 1) := by decide +kernel
theorem dX9_behindUnit_79 : decode cX9_behindUnit 79 = .ok (.getfield 302, 3) := by decide +kernel
theorem dX9_behindUnit_82 : decode cX9_behindUnit 82 = .ok (.iconst 1, 1) := by decide +kernel
theorem dX9_behindUnit_83 : decode cX9_behindUnit 83 = .ok (.isub, 1) := by decide +kernel
theorem dX9_behindUnit_84 : decode cX9_behindUnit 84 = .ok (.putfield 302, 3) := by decide +kernel
theorem dX9_behindUnit_87 : decode cX9_behindUnit 87 = .ok (.aload_n 0, 1) := by decide +kernel
theorem dX9_behindUnit_88 : decode cX9_behindUnit 88 = .ok (.aload_n 0, 1) := by decide +kernel
theorem dX9_behindUnit_89 : decode cX9_behindUnit 89 = .ok (.getfield 71, 3) := by decide +kernel
theorem dX9_behindUnit_92 : decode cX9_behindUnit 92 = .ok (.aload_n 0, 1) := by decide +kernel
theorem dX9_behindUnit_93 : decode cX9_behindUnit 93 = .ok (.getfield 299, 3) := by decide +kernel
theorem dX9_behindUnit_96 : decode cX9_behindUnit 96 = .ok (.iaload, 1) := by decide +kernel
theorem dX9_behindUnit_97 : decode cX9_behindUnit 97 = .ok (.iconst 0, 1) := by decide +kernel
theorem dX9_behindUnit_98 : decode cX9_behindUnit 98 = .ok (.invokevirtual 317, 3) := by decide +kernel
theorem dX9_behindUnit_101 : decode cX9_behindUnit 101 = .ok (.goto (-78), 3) := by decide +kernel
theorem dX9_behindUnit_104 : decode cX9_behindUnit 104 = .ok (.iload_n 1, 1) := by decide +kernel
theorem dX9_behindUnit_105 : decode cX9_behindUnit 105 = .ok (.ifCond .le 42, 3) := by decide +kernel
theorem dX9_behindUnit_108 : decode cX9_behindUnit 108 = .ok (.aload_n 0, 1) := by decide +kernel
theorem dX9_behindUnit_109 : decode cX9_behindUnit 109 = .ok (.iload_n 1, 1) := by decide +kernel
theorem dX9_behindUnit_110 : decode cX9_behindUnit 110 = .ok (.iload_n 1, 1) := by decide +kernel
theorem dX9_behindUnit_111 : decode cX9_behindUnit 111 = .ok (.iconst 2, 1) := by decide +kernel
theorem dX9_behindUnit_112 : decode cX9_behindUnit 112 = .ok (.if_icmp .ne 8, 3) := by decide +kernel
theorem dX9_behindUnit_115 : decode cX9_behindUnit 115 = .ok (.bipush 38, 2) := by decide +kernel
theorem dX9_behindUnit_117 : decode cX9_behindUnit 117 = .ok (.goto 21, 3) := by decide +kernel
theorem dX9_behindUnit_120 : decode cX9_behindUnit 120 = .ok (.iload_n 1, 1) := by decide +kernel
theorem dX9_behindUnit_121 : decode cX9_behindUnit 121 = .ok (.iconst 1, 1) := by decide +kernel
theorem dX9_behindUnit_122 : decode cX9_behindUnit 122 = .ok (.if_icmp .ne 8, 3) := by decide +kernel
theorem dX9_behindUnit_125 : decode cX9_behindUnit 125 = .ok (.bipush 124, 2) := by decide +kernel
theorem dX9_behindUnit_127 : decode cX9_behindUnit 127 = .ok (.goto 11, 3) := by decide +kernel
theorem dX9_behindUnit_130 : decode cX9_behindUnit 130 = .ok (.aload_n 0, 1) := by decide +kernel
theorem dX9_behindUnit_131 : decode cX9_behindUnit 131 = .ok (.aload_n 0, 1) := by decide +kernel
theorem dX9_behindUnit_132 : decode cX9_behindUnit 132 = .ok (.getfield 194, 3) := by decide +kernel
theorem dX9_behindUnit_135 : decode cX9_behindUnit 135 = .ok (.invokevirtual 197, 3) := by decide +kernel
theorem dX9_behindUnit_138 : decode cX9_behindUnit 138 = .ok (.invokevirtual 305, 3) := by decide +kernel
theorem dX9_behindUnit_141 : decode cX9_behindUnit 141 = .ok (.aload_n 0, 1) := by decide +kernel
theorem dX9_behindUnit_142 : decode cX9_behindUnit 142 = .ok (.invokevirtual 233, 3) := by decide +kernel
theorem dX9_behindUnit_145 : decode cX9_behindUnit 145 = .ok (.iconst 1, 1) := by decide +kernel
theorem dX9_behindUnit_146 : decode cX9_behindUnit 146 = .ok (.ireturn, 1) := by decide +kernel
theorem dX9_behindUnit_147 : decode cX9_behindUnit 147 = .ok (.aload_n 0, 1) := by decide +kernel
theorem dX9_behindUnit_148 : decode cX9_behindUnit 148 = .ok (.dup, 1) := by decide +kernel
theorem dX9_behindUnit_149 : decode cX9_behindUnit 149 = .ok (.getfield 299, 3) := by decide +kernel
theorem dX9_behindUnit_152 : decode cX9_behindUnit 152 = .ok (.iconst 1, 1) := by decide +kernel
theorem dX9_behindUnit_153 : decode cX9_behindUnit 153 = .ok (.isub, 1) := by decide +kernel
theorem dX9_behindUnit_154 : decode cX9_behindUnit 154 = .ok (.putfield 299, 3) := by decide +kernel
theorem dX9_behindUnit_157 : decode cX9_behindUnit 157 = .ok (.aload_n 0, 1) := by decide +kernel
theorem dX9_behindUnit_158 : decode cX9_behindUnit 158 = .ok (.getfield 68, 3) := by decide +kernel
theorem dX9_behindUnit_161 : decode cX9_behindUnit 161 = .ok (.aload_n 0, 1) := by decide +kernel
theorem dX9_behindUnit_162 : decode cX9_behindUnit 162 = .ok (.getfield 299, 3) := by decide +kernel
theorem dX9_behindUnit_165 : decode cX9_behindUnit 165 = .ok (.iaload, 1) := by decide +kernel
theorem dX9_behindUnit_166 : decode cX9_behindUnit 166 = .ok (.bipush 7, 2) := by decide +kernel
theorem dX9_behindUnit_168 : decode cX9_behindUnit 168 = .ok (.if_icmp .ne 23, 3) := by decide +kernel
theorem dX9_behindUnit_171 : decode cX9_behindUnit 171 = .ok (.aload_n 0, 1) := by decide +kernel
theorem dX9_behindUnit_172 : decode cX9_behindUnit 172 = .ok (.dup, 1) := by decide +kernel
theorem dX9_behindUnit_173 : decode cX9_behindUnit 173 = .ok (.getfield 302, 3) := by decide +kernel
theorem dX9_behindUnit_176 : decode cX9_behindUnit 176 = .ok (.iconst 1, 1) := by decide +kernel
theorem dX9_behindUnit_177 : decode cX9_behindUnit 177 = .ok (.isub, 1) := by decide +kernel
theorem dX9_behindUnit_178 : decode cX9_behindUnit 178 = .ok (.putfield 302, 3) := by decide +kernel
theorem dX9_behindUnit_181 : decode cX9_behindUnit 181 = .ok (.aload_n 0, 1) := by decide +kernel
theorem dX9_behindUnit_182 : decode cX9_behindUnit 182 = .ok (.aload_n 0, 1) := by decide +kernel
theorem dX9_behindUnit_183 : decode cX9_behindUnit 183 = .ok (.bipush 41, 2) := by decide +kernel
theorem dX9_behindUnit_185 : decode cX9_behindUnit 185 = .ok (.invokevirtual 279, 3) := by decide +kernel
theorem dX9_behindUnit_188 : decode cX9_behindUnit 188 = .ok (.invokevirtual 282, 3) := by decide +kernel
theorem dX9_behindUnit_191 : decode cX9_behindUnit 191 = .ok (.iconst 0, 1) := by decide +kernel
theorem dX9_behindUnit_192 : decode cX9_behindUnit 192 = .ok (.ireturn, 1) := by decide +kernel
theorem dX9_beside_0 : decode cX9_beside 0 = .ok (.aload_n 0, 1) := by decide +kernel
theorem dX9_beside_1 : decode cX9_beside 1 = .ok (.iload_n 1, 1) := by decide +kernel
theorem dX9_beside_2 : decode cX9_beside 2 = .ok (.invokevirtual 371, 3) := by decide +kernel
theorem dX9_beside_5 : decode cX9_beside 5 = .ok (.ifCond .eq 27, 3) := by decide +kernel
theorem dX9_beside_8 : decode cX9_beside 8 = .ok (.aload_n 0, 1) := by decide +kernel
theorem dX9_beside_9 : decode cX9_beside 9 = .ok (.iload_n 2, 1) := by decide +kernel
theorem dX9_beside_10 : decode cX9_beside 10 = .ok (.invokevirtual 371, 3) := by decide +kernel
theorem dX9_beside_13 : decode cX9_beside 13 = .ok (.ifCond .eq 19, 3) := by decide +kernel
theorem dX9_beside_16 : decode cX9_beside 16 = .ok (.iload_n 1, 1) := by decide +kernel
theorem dX9_beside_17 : decode cX9_beside 17 = .ok (.iload_n 2, 1) := by decide +kernel
theorem dX9_beside_18 : decode cX9_beside 18 = .ok (.if_icmp .eq 14, 3) := by decide +kernel
theorem dX9_beside_21 : decode cX9_beside 21 = .ok (.aload_n 0, 1) := by decide +kernel
theorem dX9_beside_22 : decode cX9_beside 22 = .ok (.iconst 1, 1) := by decide +kernel
theorem dX9_beside_23 : decode cX9_beside 23 = .ok (.iload_n 1, 1) := by decide +kernel
theorem dX9_beside_24 : decode cX9_beside 24 = .ok (.iload_n 2, 1) := by decide +kernel
theorem dX9_beside_25 : decode cX9_beside 25 = .ok (.iload_n 3, 1) := by decide +kernel
theorem dX9_beside_26 : decode cX9_beside 26 = .ok (.invokevirtual 480, 3) := by decide +kernel
theorem dX9_beside_29 : decode cX9_beside 29 = .ok (.goto 4, 3) := by decide +kernel
theorem dX9_beside_32 : decode cX9_beside 32 = .ok (.iconst (-1), 1) := by decide +kernel
theorem dX9_beside_33 : decode cX9_beside 33 = .ok (.ireturn, 1) := by decide +kernel
theorem dX9_bitsOf_0 : decode cX9_bitsOf 0 = .ok (.iconst 0, 1) := by decide +kernel
theorem dX9_bitsOf_1 : decode cX9_bitsOf 1 = .ok (.istore_n 1, 1) := by decide +kernel
theorem dX9_bitsOf_2 : decode cX9_bitsOf 2 = .ok (.iconst 0, 1) := by decide +kernel
theorem dX9_bitsOf_3 : decode cX9_bitsOf 3 = .ok (.istore_n 2, 1) := by decide +kernel
theorem dX9_bitsOf_4 : decode cX9_bitsOf 4 = .ok (.iload_n 2, 1) := by decide +kernel
theorem dX9_bitsOf_5 : decode cX9_bitsOf 5 = .ok (.bipush 31, 2) := by decide +kernel
theorem dX9_bitsOf_7 : decode cX9_bitsOf 7 = .ok (.if_icmp .ge 17, 3) := by decide +kernel
theorem dX9_bitsOf_10 : decode cX9_bitsOf 10 = .ok (.iload_n 1, 1) := by decide +kernel
theorem dX9_bitsOf_11 : decode cX9_bitsOf 11 = .ok (.iload_n 0, 1) := by decide +kernel
theorem dX9_bitsOf_12 : decode cX9_bitsOf 12 = .ok (.iload_n 2, 1) := by decide +kernel
theorem dX9_bitsOf_13 : decode cX9_bitsOf 13 = .ok (.ishr, 1) := by decide +kernel
theorem dX9_bitsOf_14 : decode cX9_bitsOf 14 = .ok (.iconst 1, 1) := by decide +kernel
theorem dX9_bitsOf_15 : decode cX9_bitsOf 15 = .ok (.iand, 1) := by decide +kernel
theorem dX9_bitsOf_16 : decode cX9_bitsOf 16 = .ok (.iadd, 1) := by decide +kernel
theorem dX9_bitsOf_17 : decode cX9_bitsOf 17 = .ok (.istore_n 1, 1) := by decide +kernel
theorem dX9_bitsOf_18 : decode cX9_bitsOf 18 = .ok (.iinc 2 1, 3) := by decide +kernel
theorem dX9_bitsOf_21 : decode cX9_bitsOf 21 = .ok (.goto (-17), 3) := by decide +kernel
theorem dX9_bitsOf_24 : decode cX9_bitsOf 24 = .ok (.iload_n 1, 1) := by decide +kernel
theorem dX9_bitsOf_25 : decode cX9_bitsOf 25 = .ok (.ireturn, 1) := by decide +kernel
theorem dX9_burns_0 : decode cX9_burns 0 = .ok (.aload_n 0, 1) := by decide +kernel
theorem dX9_burns_1 : decode cX9_burns 1 = .ok (.iload_n 1, 1) := by decide +kernel
theorem dX9_burns_2 : decode cX9_burns 2 = .ok (.invokevirtual 371, 3) := by decide +kernel
theorem dX9_burns_5 : decode cX9_burns 5 = .ok (.ifCond .eq 12, 3) := by decide +kernel
theorem dX9_burns_8 : decode cX9_burns 8 = .ok (.aload_n 0, 1) := by decide +kernel
theorem dX9_burns_9 : decode cX9_burns 9 = .ok (.iload_n 1, 1) := by decide +kernel
theorem dX9_burns_10 : decode cX9_burns 10 = .ok (.invokevirtual 374, 3) := by decide +kernel
theorem dX9_burns_13 : decode cX9_burns 13 = .ok (.iload_n 2, 1) := by decide +kernel
theorem dX9_burns_14 : decode cX9_burns 14 = .ok (.if_icmp .ne 5, 3) := by decide +kernel
theorem dX9_burns_17 : decode cX9_burns 17 = .ok (.iconst 0, 1) := by decide +kernel
theorem dX9_burns_18 : decode cX9_burns 18 = .ok (.ireturn, 1) := by decide +kernel
theorem dX9_burns_19 : decode cX9_burns 19 = .ok (.aload_n 0, 1) := by decide +kernel
theorem dX9_burns_20 : decode cX9_burns 20 = .ok (.dup, 1) := by decide +kernel
theorem dX9_burns_21 : decode cX9_burns 21 = .ok (.getfield 345, 3) := by decide +kernel
theorem dX9_burns_24 : decode cX9_burns 24 = .ok (.iconst 1, 1) := by decide +kernel
theorem dX9_burns_25 : decode cX9_burns 25 = .ok (.iload_n 1, 1) := by decide +kernel
theorem dX9_burns_26 : decode cX9_burns 26 = .ok (.ishl, 1) := by decide +kernel
theorem dX9_burns_27 : decode cX9_burns 27 = .ok (.ixor, 1) := by decide +kernel
theorem dX9_burns_28 : decode cX9_burns 28 = .ok (.putfield 345, 3) := by decide +kernel
theorem dX9_burns_31 : decode cX9_burns 31 = .ok (.aload_n 0, 1) := by decide +kernel
theorem dX9_burns_32 : decode cX9_burns 32 = .ok (.iconst 0, 1) := by decide +kernel
theorem dX9_burns_33 : decode cX9_burns 33 = .ok (.putfield 348, 3) := by decide +kernel
theorem dX9_burns_36 : decode cX9_burns 36 = .ok (.aload_n 0, 1) := by decide +kernel
theorem dX9_burns_37 : decode cX9_burns 37 = .ok (.invokevirtual 352, 3) := by decide +kernel
theorem dX9_burns_40 : decode cX9_burns 40 = .ok (.iconst 1, 1) := by decide +kernel
theorem dX9_burns_41 : decode cX9_burns 41 = .ok (.ireturn, 1) := by decide +kernel
theorem dX9_canBe_0 : decode cX9_canBe 0 = .ok (.iload_n 1, 1) := by decide +kernel
theorem dX9_canBe_1 : decode cX9_canBe 1 = .ok (.ifCond .ne 5, 3) := by decide +kernel
theorem dX9_canBe_4 : decode cX9_canBe 4 = .ok (.iconst 1, 1) := by decide +kernel
theorem dX9_canBe_5 : decode cX9_canBe 5 = .ok (.ireturn, 1) := by decide +kernel
theorem dX9_canBe_6 : decode cX9_canBe 6 = .ok (.iload_n 2, 1) := by decide +kernel
theorem dX9_canBe_7 : decode cX9_canBe 7 = .ok (.istore 4, 2) := by decide +kernel
theorem dX9_canBe_9 : decode cX9_canBe 9 = .ok (.iload 4, 2) := by decide +kernel
theorem dX9_canBe_11 : decode cX9_canBe 11 = .ok (.aload_n 0, 1) := by decide +kernel
theorem dX9_canBe_12 : decode cX9_canBe 12 = .ok (.getfield 459, 3) := by decide +kernel
theorem dX9_canBe_15 : decode cX9_canBe 15 = .ok (.if_icmp .ge 134, 3) := by decide +kernel
theorem dX9_canBe_18 : decode cX9_canBe 18 = .ok (.aload_n 0, 1) := by decide +kernel
theorem dX9_canBe_19 : decode cX9_canBe 19 = .ok (.getfield 104, 3) := by decide +kernel
theorem dX9_canBe_22 : decode cX9_canBe 22 = .ok (.iload 4, 2) := by decide +kernel
theorem dX9_canBe_24 : decode cX9_canBe 24 = .ok (.iaload, 1) := by decide +kernel
theorem dX9_canBe_25 : decode cX9_canBe 25 = .ok (.iload_n 3, 1) := by decide +kernel
theorem dX9_canBe_26 : decode cX9_canBe 26 = .ok (.iand, 1) := by decide +kernel
theorem dX9_canBe_27 : decode cX9_canBe 27 = .ok (.ifCond .eq 6, 3) := by decide +kernel
theorem dX9_canBe_30 : decode cX9_canBe 30 = .ok (.goto 113, 3) := by decide +kernel
theorem dX9_canBe_33 : decode cX9_canBe 33 = .ok (.iload_n 1, 1) := by decide +kernel
theorem dX9_canBe_34 : decode cX9_canBe 34 = .ok (.iconst 1, 1) := by decide +kernel
theorem dX9_canBe_35 : decode cX9_canBe 35 = .ok (.if_icmp .ne 5, 3) := by decide +kernel
theorem dX9_canBe_38 : decode cX9_canBe 38 = .ok (.iconst 1, 1) := by decide +kernel
theorem dX9_canBe_39 : decode cX9_canBe 39 = .ok (.ireturn, 1) := by decide +kernel
theorem dX9_canBe_40 : decode cX9_canBe 40 = .ok (.iload_n 3, 1) := by decide +kernel
theorem dX9_canBe_41 : decode cX9_canBe 41 = .ok (.aload_n 0, 1) := by decide +kernel
theorem dX9_canBe_42 : decode cX9_canBe 42 = .ok (.getfield 104, 3) := by decide +kernel
theorem dX9_canBe_45 : decode cX9_canBe 45 = .ok (.iload 4, 2) := by decide +kernel
theorem dX9_canBe_47 : decode cX9_canBe 47 = .ok (.iaload, 1) := by decide +kernel
theorem dX9_canBe_48 : decode cX9_canBe 48 = .ok (.ior, 1) := by decide +kernel
theorem dX9_canBe_49 : decode cX9_canBe 49 = .ok (.istore 5, 2) := by decide +kernel
theorem dX9_canBe_51 : decode cX9_canBe 51 = .ok (.iload 4, 2) := by decide +kernel
theorem dX9_canBe_53 : decode cX9_canBe 53 = .ok (.iconst 1, 1) := by decide +kernel
theorem dX9_canBe_54 : decode cX9_canBe 54 = .ok (.iadd, 1) := by decide +kernel
theorem dX9_canBe_55 : decode cX9_canBe 55 = .ok (.istore 6, 2) := by decide +kernel
theorem dX9_canBe_57 : decode cX9_canBe 57 = .ok (.iload 6, 2) := by decide +kernel
theorem dX9_canBe_59 : decode cX9_canBe 59 = .ok (.aload_n 0, 1) := by decide +kernel
theorem dX9_canBe_60 : decode cX9_canBe 60 = .ok (.getfield 459, 3) := by decide +kernel
theorem dX9_canBe_63 : decode cX9_canBe 63 = .ok (.if_icmp .ge 80, 3) := by decide +kernel
theorem dX9_canBe_66 : decode cX9_canBe 66 = .ok (.aload_n 0, 1) := by decide +kernel
theorem dX9_canBe_67 : decode cX9_canBe 67 = .ok (.getfield 104, 3) := by decide +kernel
theorem dX9_canBe_70 : decode cX9_canBe 70 = .ok (.iload 6, 2) := by decide +kernel
theorem dX9_canBe_72 : decode cX9_canBe 72 = .ok (.iaload, 1) := by decide +kernel
theorem dX9_canBe_73 : decode cX9_canBe 73 = .ok (.iload 5, 2) := by decide +kernel
theorem dX9_canBe_75 : decode cX9_canBe 75 = .ok (.iand, 1) := by decide +kernel
theorem dX9_canBe_76 : decode cX9_canBe 76 = .ok (.ifCond .eq 6, 3) := by decide +kernel
theorem dX9_canBe_79 : decode cX9_canBe 79 = .ok (.goto 58, 3) := by decide +kernel
theorem dX9_canBe_82 : decode cX9_canBe 82 = .ok (.iload_n 1, 1) := by decide +kernel
theorem dX9_canBe_83 : decode cX9_canBe 83 = .ok (.iconst 2, 1) := by decide +kernel
theorem dX9_canBe_84 : decode cX9_canBe 84 = .ok (.if_icmp .ne 5, 3) := by decide +kernel
theorem dX9_canBe_87 : decode cX9_canBe 87 = .ok (.iconst 1, 1) := by decide +kernel
theorem dX9_canBe_88 : decode cX9_canBe 88 = .ok (.ireturn, 1) := by decide +kernel
theorem dX9_canBe_89 : decode cX9_canBe 89 = .ok (.iload 5, 2) := by decide +kernel
theorem dX9_canBe_91 : decode cX9_canBe 91 = .ok (.aload_n 0, 1) := by decide +kernel
theorem dX9_canBe_92 : decode cX9_canBe 92 = .ok (.getfield 104, 3) := by decide +kernel
theorem dX9_canBe_95 : decode cX9_canBe 95 = .ok (.iload 6, 2) := by decide +kernel
theorem dX9_canBe_97 : decode cX9_canBe 97 = .ok (.iaload, 1) := by decide +kernel
theorem dX9_canBe_98 : decode cX9_canBe 98 = .ok (.ior, 1) := by decide +kernel
theorem dX9_canBe_99 : decode cX9_canBe 99 = .ok (.istore 7, 2) := by decide +kernel
theorem dX9_canBe_101 : decode cX9_canBe 101 = .ok (.iload 6, 2) := by decide +kernel
theorem dX9_canBe_103 : decode cX9_canBe 103 = .ok (.iconst 1, 1) := by decide +kernel
theorem dX9_canBe_104 : decode cX9_canBe 104 = .ok (.iadd, 1) := by decide +kernel
theorem dX9_canBe_105 : decode cX9_canBe 105 = .ok (.istore 8, 2) := by decide +kernel
theorem dX9_canBe_107 : decode cX9_canBe 107 = .ok (.iload 8, 2) := by decide +kernel
theorem dX9_canBe_109 : decode cX9_canBe 109 = .ok (.aload_n 0, 1) := by decide +kernel
theorem dX9_canBe_110 : decode cX9_canBe 110 = .ok (.getfield 459, 3) := by decide +kernel
theorem dX9_canBe_113 : decode cX9_canBe 113 = .ok (.if_icmp .ge 24, 3) := by decide +kernel
theorem dX9_canBe_116 : decode cX9_canBe 116 = .ok (.aload_n 0, 1) := by decide +kernel
theorem dX9_canBe_117 : decode cX9_canBe 117 = .ok (.getfield 104, 3) := by decide +kernel
theorem dX9_canBe_120 : decode cX9_canBe 120 = .ok (.iload 8, 2) := by decide +kernel
theorem dX9_canBe_122 : decode cX9_canBe 122 = .ok (.iaload, 1) := by decide +kernel
theorem dX9_canBe_123 : decode cX9_canBe 123 = .ok (.iload 7, 2) := by decide +kernel
theorem dX9_canBe_125 : decode cX9_canBe 125 = .ok (.iand, 1) := by decide +kernel
theorem dX9_canBe_126 : decode cX9_canBe 126 = .ok (.ifCond .ne 5, 3) := by decide +kernel
theorem dX9_canBe_129 : decode cX9_canBe 129 = .ok (.iconst 1, 1) := by decide +kernel
theorem dX9_canBe_130 : decode cX9_canBe 130 = .ok (.ireturn, 1) := by decide +kernel
theorem dX9_canBe_131 : decode cX9_canBe 131 = .ok (.iinc 8 1, 3) := by decide +kernel
theorem dX9_canBe_134 : decode cX9_canBe 134 = .ok (.goto (-27), 3) := by decide +kernel
theorem dX9_canBe_137 : decode cX9_canBe 137 = .ok (.iinc 6 1, 3) := by decide +kernel
theorem dX9_canBe_140 : decode cX9_canBe 140 = .ok (.goto (-83), 3) := by decide +kernel
theorem dX9_canBe_143 : decode cX9_canBe 143 = .ok (.iinc 4 1, 3) := by decide +kernel
theorem dX9_canBe_146 : decode cX9_canBe 146 = .ok (.goto (-137), 3) := by decide +kernel
theorem dX9_canBe_149 : decode cX9_canBe 149 = .ok (.iconst 0, 1) := by decide +kernel
theorem dX9_canBe_150 : decode cX9_canBe 150 = .ok (.ireturn, 1) := by decide +kernel
theorem dX9_canStand_0 : decode cX9_canStand 0 = .ok (.iload_n 3, 1) := by decide +kernel
theorem dX9_canStand_1 : decode cX9_canStand 1 = .ok (.iload_n 2, 1) := by decide +kernel
theorem dX9_canStand_2 : decode cX9_canStand 2 = .ok (.ishr, 1) := by decide +kernel
theorem dX9_canStand_3 : decode cX9_canStand 3 = .ok (.iconst 1, 1) := by decide +kernel
theorem dX9_canStand_4 : decode cX9_canStand 4 = .ok (.iand, 1) := by decide +kernel
theorem dX9_canStand_5 : decode cX9_canStand 5 = .ok (.iconst 1, 1) := by decide +kernel
theorem dX9_canStand_6 : decode cX9_canStand 6 = .ok (.if_icmp .eq 12, 3) := by decide +kernel
theorem dX9_canStand_9 : decode cX9_canStand 9 = .ok (.aload_n 0, 1) := by decide +kernel
theorem dX9_canStand_10 : decode cX9_canStand 10 = .ok (.iload_n 1, 1) := by decide +kernel
theorem dX9_canStand_11 : decode cX9_canStand 11 = .ok (.iload_n 2, 1) := by decide +kernel
theorem dX9_canStand_12 : decode cX9_canStand 12 = .ok (.invokevirtual 399, 3) := by decide +kernel
theorem dX9_canStand_15 : decode cX9_canStand 15 = .ok (.ifCond .ne 5, 3) := by decide +kernel
theorem dX9_canStand_18 : decode cX9_canStand 18 = .ok (.iconst 0, 1) := by decide +kernel
theorem dX9_canStand_19 : decode cX9_canStand 19 = .ok (.ireturn, 1) := by decide +kernel
theorem dX9_canStand_20 : decode cX9_canStand 20 = .ok (.iload_n 1, 1) := by decide +kernel
theorem dX9_canStand_21 : decode cX9_canStand 21 = .ok (.ifCond .le 21, 3) := by decide +kernel
theorem dX9_canStand_24 : decode cX9_canStand 24 = .ok (.aload_n 0, 1) := by decide +kernel
theorem dX9_canStand_25 : decode cX9_canStand 25 = .ok (.aload_n 0, 1) := by decide +kernel
theorem dX9_canStand_26 : decode cX9_canStand 26 = .ok (.getfield 89, 3) := by decide +kernel
theorem dX9_canStand_29 : decode cX9_canStand 29 = .ok (.iload_n 1, 1) := by decide +kernel
theorem dX9_canStand_30 : decode cX9_canStand 30 = .ok (.iconst 1, 1) := by decide +kernel
theorem dX9_canStand_31 : decode cX9_canStand 31 = .ok (.isub, 1) := by decide +kernel
theorem dX9_canStand_32 : decode cX9_canStand 32 = .ok (.iaload, 1) := by decide +kernel
theorem dX9_canStand_33 : decode cX9_canStand 33 = .ok (.iload_n 2, 1) := by decide +kernel
theorem dX9_canStand_34 : decode cX9_canStand 34 = .ok (.invokevirtual 402, 3) := by decide +kernel
theorem dX9_canStand_37 : decode cX9_canStand 37 = .ok (.ifCond .ne 5, 3) := by decide +kernel
theorem dX9_canStand_40 : decode cX9_canStand 40 = .ok (.iconst 0, 1) := by decide +kernel
theorem dX9_canStand_41 : decode cX9_canStand 41 = .ok (.ireturn, 1) := by decide +kernel
theorem dX9_canStand_42 : decode cX9_canStand 42 = .ok (.iload_n 1, 1) := by decide +kernel
theorem dX9_canStand_43 : decode cX9_canStand 43 = .ok (.iconst 1, 1) := by decide +kernel
theorem dX9_canStand_44 : decode cX9_canStand 44 = .ok (.iadd, 1) := by decide +kernel
theorem dX9_canStand_45 : decode cX9_canStand 45 = .ok (.iload 4, 2) := by decide +kernel
theorem dX9_canStand_47 : decode cX9_canStand 47 = .ok (.if_icmp .lt 24, 3) := by decide +kernel
theorem dX9_canStand_50 : decode cX9_canStand 50 = .ok (.aload_n 0, 1) := by decide +kernel
theorem dX9_canStand_51 : decode cX9_canStand 51 = .ok (.invokevirtual 384, 3) := by decide +kernel
theorem dX9_canStand_54 : decode cX9_canStand 54 = .ok (.ifCond .eq 17, 3) := by decide +kernel
theorem dX9_canStand_57 : decode cX9_canStand 57 = .ok (.aload_n 0, 1) := by decide +kernel
theorem dX9_canStand_58 : decode cX9_canStand 58 = .ok (.iload_n 2, 1) := by decide +kernel
theorem dX9_canStand_59 : decode cX9_canStand 59 = .ok (.aload_n 0, 1) := by decide +kernel
theorem dX9_canStand_60 : decode cX9_canStand 60 = .ok (.getfield 89, 3) := by decide +kernel
theorem dX9_canStand_63 : decode cX9_canStand 63 = .ok (.iconst 0, 1) := by decide +kernel
theorem dX9_canStand_64 : decode cX9_canStand 64 = .ok (.iaload, 1) := by decide +kernel
theorem dX9_canStand_65 : decode cX9_canStand 65 = .ok (.invokevirtual 402, 3) := by decide +kernel
theorem dX9_canStand_68 : decode cX9_canStand 68 = .ok (.ifCond .eq 7, 3) := by decide +kernel
theorem dX9_canStand_71 : decode cX9_canStand 71 = .ok (.iconst 1, 1) := by decide +kernel
theorem dX9_canStand_72 : decode cX9_canStand 72 = .ok (.goto 4, 3) := by decide +kernel
theorem dX9_canStand_75 : decode cX9_canStand 75 = .ok (.iconst 0, 1) := by decide +kernel
theorem dX9_canStand_76 : decode cX9_canStand 76 = .ok (.ireturn, 1) := by decide +kernel
theorem dX9_classes_0 : decode cX9_classes 0 = .ok (.aload_n 0, 1) := by decide +kernel
theorem dX9_classes_1 : decode cX9_classes 1 = .ok (.invokevirtual 381, 3) := by decide +kernel
theorem dX9_classes_4 : decode cX9_classes 4 = .ok (.istore_n 1, 1) := by decide +kernel
theorem dX9_classes_5 : decode cX9_classes 5 = .ok (.iconst 0, 1) := by decide +kernel
theorem dX9_classes_6 : decode cX9_classes 6 = .ok (.istore_n 2, 1) := by decide +kernel
theorem dX9_classes_7 : decode cX9_classes 7 = .ok (.iconst 0, 1) := by decide +kernel
theorem dX9_classes_8 : decode cX9_classes 8 = .ok (.istore_n 3, 1) := by decide +kernel
theorem dX9_classes_9 : decode cX9_classes 9 = .ok (.iconst 0, 1) := by decide +kernel
theorem dX9_classes_10 : decode cX9_classes 10 = .ok (.istore 4, 2) := by decide +kernel
theorem dX9_classes_12 : decode cX9_classes 12 = .ok (.iload 4, 2) := by decide +kernel
theorem dX9_classes_14 : decode cX9_classes 14 = .ok (.iload_n 1, 1) := by decide +kernel
theorem dX9_classes_15 : decode cX9_classes 15 = .ok (.if_icmp .ge 99, 3) := by decide +kernel
theorem dX9_classes_18 : decode cX9_classes 18 = .ok (.iload_n 3, 1) := by decide +kernel
theorem dX9_classes_19 : decode cX9_classes 19 = .ok (.aload_n 0, 1) := by decide +kernel
theorem dX9_classes_20 : decode cX9_classes 20 = .ok (.getfield 89, 3) := by decide +kernel
theorem dX9_classes_23 : decode cX9_classes 23 = .ok (.iload 4, 2) := by decide +kernel
theorem dX9_classes_25 : decode cX9_classes 25 = .ok (.iaload, 1) := by decide +kernel
theorem dX9_classes_26 : decode cX9_classes 26 = .ok (.iconst 4, 1) := by decide +kernel
theorem dX9_classes_27 : decode cX9_classes 27 = .ok (.iload 4, 2) := by decide +kernel
theorem dX9_classes_29 : decode cX9_classes 29 = .ok (.imul, 1) := by decide +kernel
theorem dX9_classes_30 : decode cX9_classes 30 = .ok (.ishl, 1) := by decide +kernel
theorem dX9_classes_31 : decode cX9_classes 31 = .ok (.ior, 1) := by decide +kernel
theorem dX9_classes_32 : decode cX9_classes 32 = .ok (.istore_n 3, 1) := by decide +kernel
theorem dX9_classes_33 : decode cX9_classes 33 = .ok (.iload 4, 2) := by decide +kernel
theorem dX9_classes_35 : decode cX9_classes 35 = .ok (.iconst 1, 1) := by decide +kernel
theorem dX9_classes_36 : decode cX9_classes 36 = .ok (.iadd, 1) := by decide +kernel
theorem dX9_classes_37 : decode cX9_classes 37 = .ok (.iload_n 1, 1) := by decide +kernel
theorem dX9_classes_38 : decode cX9_classes 38 = .ok (.if_icmp .ge 36, 3) := by decide +kernel
theorem dX9_classes_41 : decode cX9_classes 41 = .ok (.iload_n 2, 1) := by decide +kernel
theorem dX9_classes_42 : decode cX9_classes 42 = .ok (.aload_n 0, 1) := by decide +kernel
theorem dX9_classes_43 : decode cX9_classes 43 = .ok (.aload_n 0, 1) := by decide +kernel
theorem dX9_classes_44 : decode cX9_classes 44 = .ok (.getfield 89, 3) := by decide +kernel
theorem dX9_classes_47 : decode cX9_classes 47 = .ok (.iload 4, 2) := by decide +kernel
theorem dX9_classes_49 : decode cX9_classes 49 = .ok (.iaload, 1) := by decide +kernel
theorem dX9_classes_50 : decode cX9_classes 50 = .ok (.invokevirtual 453, 3) := by decide +kernel
theorem dX9_classes_53 : decode cX9_classes 53 = .ok (.aload_n 0, 1) := by decide +kernel
theorem dX9_classes_54 : decode cX9_classes 54 = .ok (.aload_n 0, 1) := by decide +kernel
theorem dX9_classes_55 : decode cX9_classes 55 = .ok (.getfield 89, 3) := by decide +kernel
theorem dX9_classes_58 : decode cX9_classes 58 = .ok (.iload 4, 2) := by decide +kernel
theorem dX9_classes_60 : decode cX9_classes 60 = .ok (.iconst 1, 1) := by decide +kernel
theorem dX9_classes_61 : decode cX9_classes 61 = .ok (.iadd, 1) := by decide +kernel
theorem dX9_classes_62 : decode cX9_classes 62 = .ok (.iaload, 1) := by decide +kernel
theorem dX9_classes_63 : decode cX9_classes 63 = .ok (.invokevirtual 453, 3) := by decide +kernel
theorem dX9_classes_66 : decode cX9_classes 66 = .ok (.invokestatic 456, 3) := by decide +kernel
theorem dX9_classes_69 : decode cX9_classes 69 = .ok (.ior, 1) := by decide +kernel
theorem dX9_classes_70 : decode cX9_classes 70 = .ok (.istore_n 2, 1) := by decide +kernel
theorem dX9_classes_71 : decode cX9_classes 71 = .ok (.goto 37, 3) := by decide +kernel
theorem dX9_classes_74 : decode cX9_classes 74 = .ok (.aload_n 0, 1) := by decide +kernel
theorem dX9_classes_75 : decode cX9_classes 75 = .ok (.invokevirtual 384, 3) := by decide +kernel
theorem dX9_classes_78 : decode cX9_classes 78 = .ok (.ifCond .eq 30, 3) := by decide +kernel
theorem dX9_classes_81 : decode cX9_classes 81 = .ok (.iload_n 2, 1) := by decide +kernel
theorem dX9_classes_82 : decode cX9_classes 82 = .ok (.aload_n 0, 1) := by decide +kernel
theorem dX9_classes_83 : decode cX9_classes 83 = .ok (.aload_n 0, 1) := by decide +kernel
theorem dX9_classes_84 : decode cX9_classes 84 = .ok (.getfield 89, 3) := by decide +kernel
theorem dX9_classes_87 : decode cX9_classes 87 = .ok (.iload 4, 2) := by decide +kernel
theorem dX9_classes_89 : decode cX9_classes 89 = .ok (.iaload, 1) := by decide +kernel
theorem dX9_classes_90 : decode cX9_classes 90 = .ok (.invokevirtual 453, 3) := by decide +kernel
theorem dX9_classes_93 : decode cX9_classes 93 = .ok (.aload_n 0, 1) := by decide +kernel
theorem dX9_classes_94 : decode cX9_classes 94 = .ok (.aload_n 0, 1) := by decide +kernel
theorem dX9_classes_95 : decode cX9_classes 95 = .ok (.getfield 89, 3) := by decide +kernel
theorem dX9_classes_98 : decode cX9_classes 98 = .ok (.iconst 0, 1) := by decide +kernel
theorem dX9_classes_99 : decode cX9_classes 99 = .ok (.iaload, 1) := by decide +kernel
theorem dX9_classes_100 : decode cX9_classes 100 = .ok (.invokevirtual 453, 3) := by decide +kernel
theorem dX9_classes_103 : decode cX9_classes 103 = .ok (.invokestatic 456, 3) := by decide +kernel
theorem dX9_classes_106 : decode cX9_classes 106 = .ok (.ior, 1) := by decide +kernel
theorem dX9_classes_107 : decode cX9_classes 107 = .ok (.istore_n 2, 1) := by decide +kernel
theorem dX9_classes_108 : decode cX9_classes 108 = .ok (.iinc 4 1, 3) := by decide +kernel
theorem dX9_classes_111 : decode cX9_classes 111 = .ok (.goto (-99), 3) := by decide +kernel
theorem dX9_classes_114 : decode cX9_classes 114 = .ok (.iconst 0, 1) := by decide +kernel
theorem dX9_classes_115 : decode cX9_classes 115 = .ok (.istore 4, 2) := by decide +kernel
theorem dX9_classes_117 : decode cX9_classes 117 = .ok (.iload 4, 2) := by decide +kernel
theorem dX9_classes_119 : decode cX9_classes 119 = .ok (.aload_n 0, 1) := by decide +kernel
theorem dX9_classes_120 : decode cX9_classes 120 = .ok (.getfield 459, 3) := by decide +kernel
theorem dX9_classes_123 : decode cX9_classes 123 = .ok (.if_icmp .ge 21, 3) := by decide +kernel
theorem dX9_classes_126 : decode cX9_classes 126 = .ok (.aload_n 0, 1) := by decide +kernel
theorem dX9_classes_127 : decode cX9_classes 127 = .ok (.getfield 104, 3) := by decide +kernel
theorem dX9_classes_130 : decode cX9_classes 130 = .ok (.iload 4, 2) := by decide +kernel
theorem dX9_classes_132 : decode cX9_classes 132 = .ok (.iaload, 1) := by decide +kernel
theorem dX9_classes_133 : decode cX9_classes 133 = .ok (.iload_n 2, 1) := by decide +kernel
theorem dX9_classes_134 : decode cX9_classes 134 = .ok (.if_icmp .ne 4, 3) := by decide +kernel
theorem dX9_classes_137 : decode cX9_classes 137 = .ok (.return_, 1) := by decide +kernel
theorem dX9_classes_138 : decode cX9_classes 138 = .ok (.iinc 4 1, 3) := by decide +kernel
theorem dX9_classes_141 : decode cX9_classes 141 = .ok (.goto (-24), 3) := by decide +kernel
theorem dX9_classes_144 : decode cX9_classes 144 = .ok (.aload_n 0, 1) := by decide +kernel
theorem dX9_classes_145 : decode cX9_classes 145 = .ok (.getfield 104, 3) := by decide +kernel
theorem dX9_classes_148 : decode cX9_classes 148 = .ok (.aload_n 0, 1) := by decide +kernel
theorem dX9_classes_149 : decode cX9_classes 149 = .ok (.getfield 459, 3) := by decide +kernel
theorem dX9_classes_152 : decode cX9_classes 152 = .ok (.iload_n 2, 1) := by decide +kernel
theorem dX9_classes_153 : decode cX9_classes 153 = .ok (.iastore, 1) := by decide +kernel
theorem dX9_classes_154 : decode cX9_classes 154 = .ok (.aload_n 0, 1) := by decide +kernel
theorem dX9_classes_155 : decode cX9_classes 155 = .ok (.getfield 107, 3) := by decide +kernel
theorem dX9_classes_158 : decode cX9_classes 158 = .ok (.aload_n 0, 1) := by decide +kernel
theorem dX9_classes_159 : decode cX9_classes 159 = .ok (.getfield 459, 3) := by decide +kernel
theorem dX9_classes_162 : decode cX9_classes 162 = .ok (.iload_n 3, 1) := by decide +kernel
theorem dX9_classes_163 : decode cX9_classes 163 = .ok (.iastore, 1) := by decide +kernel
theorem dX9_classes_164 : decode cX9_classes 164 = .ok (.aload_n 0, 1) := by decide +kernel
theorem dX9_classes_165 : decode cX9_classes 165 = .ok (.dup, 1) := by decide +kernel
theorem dX9_classes_166 : decode cX9_classes 166 = .ok (.getfield 459, 3) := by decide +kernel
theorem dX9_classes_169 : decode cX9_classes 169 = .ok (.iconst 1, 1) := by decide +kernel
theorem dX9_classes_170 : decode cX9_classes 170 = .ok (.iadd, 1) := by decide +kernel
theorem dX9_classes_171 : decode cX9_classes 171 = .ok (.putfield 459, 3) := by decide +kernel
theorem dX9_classes_174 : decode cX9_classes 174 = .ok (.return_, 1) := by decide +kernel
theorem dX9_clearBank_0 : decode cX9_clearBank 0 = .ok (.aload_n 0, 1) := by decide +kernel
theorem dX9_clearBank_1 : decode cX9_clearBank 1 = .ok (.getfield 20, 3) := by decide +kernel
theorem dX9_clearBank_4 : decode cX9_clearBank 4 = .ok (.aload_n 0, 1) := by decide +kernel
theorem dX9_clearBank_5 : decode cX9_clearBank 5 = .ok (.getfield 239, 3) := by decide +kernel
theorem dX9_clearBank_8 : decode cX9_clearBank 8 = .ok (.iconst 0, 1) := by decide +kernel
theorem dX9_clearBank_9 : decode cX9_clearBank 9 = .ok (.iastore, 1) := by decide +kernel
theorem dX9_clearBank_10 : decode cX9_clearBank 10 = .ok (.aload_n 0, 1) := by decide +kernel
theorem dX9_clearBank_11 : decode cX9_clearBank 11 = .ok (.getfield 24, 3) := by decide +kernel
theorem dX9_clearBank_14 : decode cX9_clearBank 14 = .ok (.aload_n 0, 1) := by decide +kernel
theorem dX9_clearBank_15 : decode cX9_clearBank 15 = .ok (.getfield 239, 3) := by decide +kernel
theorem dX9_clearBank_18 : decode cX9_clearBank 18 = .ok (.iconst 0, 1) := by decide +kernel
theorem dX9_clearBank_19 : decode cX9_clearBank 19 = .ok (.iastore, 1) := by decide +kernel
theorem dX9_clearBank_20 : decode cX9_clearBank 20 = .ok (.aload_n 0, 1) := by decide +kernel
theorem dX9_clearBank_21 : decode cX9_clearBank 21 = .ok (.getfield 27, 3) := by decide +kernel
theorem dX9_clearBank_24 : decode cX9_clearBank 24 = .ok (.aload_n 0, 1) := by decide +kernel
theorem dX9_clearBank_25 : decode cX9_clearBank 25 = .ok (.getfield 239, 3) := by decide +kernel
theorem dX9_clearBank_28 : decode cX9_clearBank 28 = .ok (.iconst 0, 1) := by decide +kernel
theorem dX9_clearBank_29 : decode cX9_clearBank 29 = .ok (.iastore, 1) := by decide +kernel
theorem dX9_clearBank_30 : decode cX9_clearBank 30 = .ok (.aload_n 0, 1) := by decide +kernel
theorem dX9_clearBank_31 : decode cX9_clearBank 31 = .ok (.getfield 30, 3) := by decide +kernel
theorem dX9_clearBank_34 : decode cX9_clearBank 34 = .ok (.aload_n 0, 1) := by decide +kernel
theorem dX9_clearBank_35 : decode cX9_clearBank 35 = .ok (.getfield 239, 3) := by decide +kernel
theorem dX9_clearBank_38 : decode cX9_clearBank 38 = .ok (.iconst 0, 1) := by decide +kernel
theorem dX9_clearBank_39 : decode cX9_clearBank 39 = .ok (.iastore, 1) := by decide +kernel
theorem dX9_clearBank_40 : decode cX9_clearBank 40 = .ok (.aload_n 0, 1) := by decide +kernel
theorem dX9_clearBank_41 : decode cX9_clearBank 41 = .ok (.getfield 48, 3) := by decide +kernel
theorem dX9_clearBank_44 : decode cX9_clearBank 44 = .ok (.aload_n 0, 1) := by decide +kernel
theorem dX9_clearBank_45 : decode cX9_clearBank 45 = .ok (.getfield 239, 3) := by decide +kernel
theorem dX9_clearBank_48 : decode cX9_clearBank 48 = .ok (.iconst 0, 1) := by decide +kernel
theorem dX9_clearBank_49 : decode cX9_clearBank 49 = .ok (.bastore, 1) := by decide +kernel
theorem dX9_clearBank_50 : decode cX9_clearBank 50 = .ok (.aload_n 0, 1) := by decide +kernel
theorem dX9_clearBank_51 : decode cX9_clearBank 51 = .ok (.getfield 52, 3) := by decide +kernel
theorem dX9_clearBank_54 : decode cX9_clearBank 54 = .ok (.aload_n 0, 1) := by decide +kernel
theorem dX9_clearBank_55 : decode cX9_clearBank 55 = .ok (.getfield 239, 3) := by decide +kernel
theorem dX9_clearBank_58 : decode cX9_clearBank 58 = .ok (.iconst 0, 1) := by decide +kernel
theorem dX9_clearBank_59 : decode cX9_clearBank 59 = .ok (.bastore, 1) := by decide +kernel
theorem dX9_clearBank_60 : decode cX9_clearBank 60 = .ok (.aload_n 0, 1) := by decide +kernel
theorem dX9_clearBank_61 : decode cX9_clearBank 61 = .ok (.getfield 55, 3) := by decide +kernel
theorem dX9_clearBank_64 : decode cX9_clearBank 64 = .ok (.aload_n 0, 1) := by decide +kernel
theorem dX9_clearBank_65 : decode cX9_clearBank 65 = .ok (.getfield 239, 3) := by decide +kernel
theorem dX9_clearBank_68 : decode cX9_clearBank 68 = .ok (.iconst 0, 1) := by decide +kernel
theorem dX9_clearBank_69 : decode cX9_clearBank 69 = .ok (.bastore, 1) := by decide +kernel
theorem dX9_clearBank_70 : decode cX9_clearBank 70 = .ok (.aload_n 0, 1) := by decide +kernel
theorem dX9_clearBank_71 : decode cX9_clearBank 71 = .ok (.sipush 500, 3) := by decide +kernel
theorem dX9_clearBank_74 : decode cX9_clearBank 74 = .ok (.aload_n 0, 1) := by decide +kernel
theorem dX9_clearBank_75 : decode cX9_clearBank 75 = .ok (.getfield 239, 3) := by decide +kernel
theorem dX9_clearBank_78 : decode cX9_clearBank 78 = .ok (.imul, 1) := by decide +kernel
theorem dX9_clearBank_79 : decode cX9_clearBank 79 = .ok (.putfield 242, 3) := by decide +kernel
theorem dX9_clearBank_82 : decode cX9_clearBank 82 = .ok (.aload_n 0, 1) := by decide +kernel
theorem dX9_clearBank_83 : decode cX9_clearBank 83 = .ok (.getfield 33, 3) := by decide +kernel
theorem dX9_clearBank_86 : decode cX9_clearBank 86 = .ok (.aload_n 0, 1) := by decide +kernel
theorem dX9_clearBank_87 : decode cX9_clearBank 87 = .ok (.getfield 239, 3) := by decide +kernel
theorem dX9_clearBank_90 : decode cX9_clearBank 90 = .ok (.aload_n 0, 1) := by decide +kernel
theorem dX9_clearBank_91 : decode cX9_clearBank 91 = .ok (.getfield 242, 3) := by decide +kernel
theorem dX9_clearBank_94 : decode cX9_clearBank 94 = .ok (.iastore, 1) := by decide +kernel
theorem dX9_clearBank_95 : decode cX9_clearBank 95 = .ok (.bipush 9, 2) := by decide +kernel
theorem dX9_clearBank_97 : decode cX9_clearBank 97 = .ok (.aload_n 0, 1) := by decide +kernel
theorem dX9_clearBank_98 : decode cX9_clearBank 98 = .ok (.getfield 239, 3) := by decide +kernel
theorem dX9_clearBank_101 : decode cX9_clearBank 101 = .ok (.imul, 1) := by decide +kernel
theorem dX9_clearBank_102 : decode cX9_clearBank 102 = .ok (.istore_n 1, 1) := by decide +kernel
theorem dX9_clearBank_103 : decode cX9_clearBank 103 = .ok (.iload_n 1, 1) := by decide +kernel
theorem dX9_clearBank_104 : decode cX9_clearBank 104 = .ok (.bipush 9, 2) := by decide +kernel
theorem dX9_clearBank_106 : decode cX9_clearBank 106 = .ok (.aload_n 0, 1) := by decide +kernel
theorem dX9_clearBank_107 : decode cX9_clearBank 107 = .ok (.getfield 239, 3) := by decide +kernel
theorem dX9_clearBank_110 : decode cX9_clearBank 110 = .ok (.imul, 1) := by decide +kernel
theorem dX9_clearBank_111 : decode cX9_clearBank 111 = .ok (.bipush 9, 2) := by decide +kernel
theorem dX9_clearBank_113 : decode cX9_clearBank 113 = .ok (.iadd, 1) := by decide +kernel
theorem dX9_clearBank_114 : decode cX9_clearBank 114 = .ok (.if_icmp .ge 51, 3) := by decide +kernel
theorem dX9_clearBank_117 : decode cX9_clearBank 117 = .ok (.aload_n 0, 1) := by decide +kernel
theorem dX9_clearBank_118 : decode cX9_clearBank 118 = .ok (.getfield 42, 3) := by decide +kernel
theorem dX9_clearBank_121 : decode cX9_clearBank 121 = .ok (.iload_n 1, 1) := by decide +kernel
theorem dX9_clearBank_122 : decode cX9_clearBank 122 = .ok (.iconst 0, 1) := by decide +kernel
theorem dX9_clearBank_123 : decode cX9_clearBank 123 = .ok (.iastore, 1) := by decide +kernel
theorem dX9_clearBank_124 : decode cX9_clearBank 124 = .ok (.aload_n 0, 1) := by decide +kernel
theorem dX9_clearBank_125 : decode cX9_clearBank 125 = .ok (.getfield 39, 3) := by decide +kernel
theorem dX9_clearBank_128 : decode cX9_clearBank 128 = .ok (.iload_n 1, 1) := by decide +kernel
theorem dX9_clearBank_129 : decode cX9_clearBank 129 = .ok (.sipush 999, 3) := by decide +kernel
theorem dX9_clearBank_132 : decode cX9_clearBank 132 = .ok (.iastore, 1) := by decide +kernel
theorem dX9_clearBank_133 : decode cX9_clearBank 133 = .ok (.iconst 0, 1) := by decide +kernel
theorem dX9_clearBank_134 : decode cX9_clearBank 134 = .ok (.istore_n 2, 1) := by decide +kernel
theorem dX9_clearBank_135 : decode cX9_clearBank 135 = .ok (.iload_n 2, 1) := by decide +kernel
theorem dX9_clearBank_136 : decode cX9_clearBank 136 = .ok (.bipush 9, 2) := by decide +kernel
theorem dX9_clearBank_138 : decode cX9_clearBank 138 = .ok (.if_icmp .ge 21, 3) := by decide +kernel
theorem dX9_clearBank_141 : decode cX9_clearBank 141 = .ok (.aload_n 0, 1) := by decide +kernel
theorem dX9_clearBank_142 : decode cX9_clearBank 142 = .ok (.getfield 45, 3) := by decide +kernel
theorem dX9_clearBank_145 : decode cX9_clearBank 145 = .ok (.bipush 9, 2) := by decide +kernel
theorem dX9_clearBank_147 : decode cX9_clearBank 147 = .ok (.iload_n 1, 1) := by decide +kernel
theorem dX9_clearBank_148 : decode cX9_clearBank 148 = .ok (.imul, 1) := by decide +kernel
theorem dX9_clearBank_149 : decode cX9_clearBank 149 = .ok (.iload_n 2, 1) := by decide +kernel
theorem dX9_clearBank_150 : decode cX9_clearBank 150 = .ok (.iadd, 1) := by decide +kernel
theorem dX9_clearBank_151 : decode cX9_clearBank 151 = .ok (.iconst 0, 1) := by decide +kernel
theorem dX9_clearBank_152 : decode cX9_clearBank 152 = .ok (.iastore, 1) := by decide +kernel
theorem dX9_clearBank_153 : decode cX9_clearBank 153 = .ok (.iinc 2 1, 3) := by decide +kernel
theorem dX9_clearBank_156 : decode cX9_clearBank 156 = .ok (.goto (-21), 3) := by decide +kernel
theorem dX9_clearBank_159 : decode cX9_clearBank 159 = .ok (.iinc 1 1, 3) := by decide +kernel
theorem dX9_clearBank_162 : decode cX9_clearBank 162 = .ok (.goto (-59), 3) := by decide +kernel
theorem dX9_clearBank_165 : decode cX9_clearBank 165 = .ok (.return_, 1) := by decide +kernel
theorem dX9_comes_0 : decode cX9_comes 0 = .ok (.iconst 0, 1) := by decide +kernel
theorem dX9_comes_1 : decode cX9_comes 1 = .ok (.istore_n 3, 1) := by decide +kernel
theorem dX9_comes_2 : decode cX9_comes 2 = .ok (.sipush 500, 3) := by decide +kernel
theorem dX9_comes_5 : decode cX9_comes 5 = .ok (.aload_n 0, 1) := by decide +kernel
theorem dX9_comes_6 : decode cX9_comes 6 = .ok (.getfield 248, 3) := by decide +kernel
theorem dX9_comes_9 : decode cX9_comes 9 = .ok (.imul, 1) := by decide +kernel
theorem dX9_comes_10 : decode cX9_comes 10 = .ok (.istore 4, 2) := by decide +kernel
theorem dX9_comes_12 : decode cX9_comes 12 = .ok (.iload 4, 2) := by decide +kernel
theorem dX9_comes_14 : decode cX9_comes 14 = .ok (.aload_n 0, 1) := by decide +kernel
theorem dX9_comes_15 : decode cX9_comes 15 = .ok (.getfield 33, 3) := by decide +kernel
theorem dX9_comes_18 : decode cX9_comes 18 = .ok (.aload_n 0, 1) := by decide +kernel
theorem dX9_comes_19 : decode cX9_comes 19 = .ok (.getfield 248, 3) := by decide +kernel
theorem dX9_comes_22 : decode cX9_comes 22 = .ok (.iaload, 1) := by decide +kernel
theorem dX9_comes_23 : decode cX9_comes 23 = .ok (.if_icmp .ge 110, 3) := by decide +kernel
theorem dX9_comes_26 : decode cX9_comes 26 = .ok (.aload_n 0, 1) := by decide +kernel
theorem dX9_comes_27 : decode cX9_comes 27 = .ok (.getfield 62, 3) := by decide +kernel
theorem dX9_comes_30 : decode cX9_comes 30 = .ok (.iload 4, 2) := by decide +kernel
theorem dX9_comes_32 : decode cX9_comes 32 = .ok (.iaload, 1) := by decide +kernel
theorem dX9_comes_33 : decode cX9_comes 33 = .ok (.istore 5, 2) := by decide +kernel
theorem dX9_comes_35 : decode cX9_comes 35 = .ok (.iload 5, 2) := by decide +kernel
theorem dX9_comes_37 : decode cX9_comes 37 = .ok (.bipush 126, 2) := by decide +kernel
theorem dX9_comes_39 : decode cX9_comes 39 = .ok (.if_icmp .ne 30, 3) := by decide +kernel
theorem dX9_comes_42 : decode cX9_comes 42 = .ok (.aload_n 0, 1) := by decide +kernel
theorem dX9_comes_43 : decode cX9_comes 43 = .ok (.getfield 74, 3) := by decide +kernel
theorem dX9_comes_46 : decode cX9_comes 46 = .ok (.iload_n 3, 1) := by decide +kernel
theorem dX9_comes_47 : decode cX9_comes 47 = .ok (.iconst 1, 1) := by decide +kernel
theorem dX9_comes_48 : decode cX9_comes 48 = .ok (.isub, 1) := by decide +kernel
theorem dX9_comes_49 : decode cX9_comes 49 = .ok (.aload_n 0, 1) := by decide +kernel
theorem dX9_comes_50 : decode cX9_comes 50 = .ok (.getfield 74, 3) := by decide +kernel
theorem dX9_comes_53 : decode cX9_comes 53 = .ok (.iload_n 3, 1) := by decide +kernel
theorem dX9_comes_54 : decode cX9_comes 54 = .ok (.iconst 1, 1) := by decide +kernel
theorem dX9_comes_55 : decode cX9_comes 55 = .ok (.isub, 1) := by decide +kernel
theorem dX9_comes_56 : decode cX9_comes 56 = .ok (.iaload, 1) := by decide +kernel
theorem dX9_comes_57 : decode cX9_comes 57 = .ok (.ifCond .ne 7, 3) := by decide +kernel
theorem dX9_comes_60 : decode cX9_comes 60 = .ok (.iconst 1, 1) := by decide +kernel
theorem dX9_comes_61 : decode cX9_comes 61 = .ok (.goto 4, 3) := by decide +kernel
theorem dX9_comes_64 : decode cX9_comes 64 = .ok (.iconst 0, 1) := by decide +kernel
theorem dX9_comes_65 : decode cX9_comes 65 = .ok (.iastore, 1) := by decide +kernel
theorem dX9_comes_66 : decode cX9_comes 66 = .ok (.goto 61, 3) := by decide +kernel
theorem dX9_comes_69 : decode cX9_comes 69 = .ok (.iload 5, 2) := by decide +kernel
theorem dX9_comes_71 : decode cX9_comes 71 = .ok (.invokestatic 204, 3) := by decide +kernel
theorem dX9_comes_74 : decode cX9_comes 74 = .ok (.ifCond .eq 23, 3) := by decide +kernel
theorem dX9_comes_77 : decode cX9_comes 77 = .ok (.aload_n 0, 1) := by decide +kernel
theorem dX9_comes_78 : decode cX9_comes 78 = .ok (.getfield 74, 3) := by decide +kernel
theorem dX9_comes_81 : decode cX9_comes 81 = .ok (.iload_n 3, 1) := by decide +kernel
theorem dX9_comes_82 : decode cX9_comes 82 = .ok (.aload_n 0, 1) := by decide +kernel
theorem dX9_comes_83 : decode cX9_comes 83 = .ok (.iload 4, 2) := by decide +kernel
theorem dX9_comes_85 : decode cX9_comes 85 = .ok (.iload_n 1, 1) := by decide +kernel
theorem dX9_comes_86 : decode cX9_comes 86 = .ok (.iload_n 2, 1) := by decide +kernel
theorem dX9_comes_87 : decode cX9_comes 87 = .ok (.invokevirtual 338, 3) := by decide +kernel
theorem dX9_comes_90 : decode cX9_comes 90 = .ok (.iastore, 1) := by decide +kernel
theorem dX9_comes_91 : decode cX9_comes 91 = .ok (.iinc 3 1, 3) := by decide +kernel
theorem dX9_comes_94 : decode cX9_comes 94 = .ok (.goto 33, 3) := by decide +kernel
theorem dX9_comes_97 : decode cX9_comes 97 = .ok (.iinc 3 (-1), 3) := by decide +kernel
theorem dX9_comes_100 : decode cX9_comes 100 = .ok (.aload_n 0, 1) := by decide +kernel
theorem dX9_comes_101 : decode cX9_comes 101 = .ok (.getfield 74, 3) := by decide +kernel
theorem dX9_comes_104 : decode cX9_comes 104 = .ok (.iload_n 3, 1) := by decide +kernel
theorem dX9_comes_105 : decode cX9_comes 105 = .ok (.iconst 1, 1) := by decide +kernel
theorem dX9_comes_106 : decode cX9_comes 106 = .ok (.isub, 1) := by decide +kernel
theorem dX9_comes_107 : decode cX9_comes 107 = .ok (.iload 5, 2) := by decide +kernel
theorem dX9_comes_109 : decode cX9_comes 109 = .ok (.aload_n 0, 1) := by decide +kernel
theorem dX9_comes_110 : decode cX9_comes 110 = .ok (.getfield 74, 3) := by decide +kernel
theorem dX9_comes_113 : decode cX9_comes 113 = .ok (.iload_n 3, 1) := by decide +kernel
theorem dX9_comes_114 : decode cX9_comes 114 = .ok (.iconst 1, 1) := by decide +kernel
theorem dX9_comes_115 : decode cX9_comes 115 = .ok (.isub, 1) := by decide +kernel
theorem dX9_comes_116 : decode cX9_comes 116 = .ok (.iaload, 1) := by decide +kernel
theorem dX9_comes_117 : decode cX9_comes 117 = .ok (.aload_n 0, 1) := by decide +kernel
theorem dX9_comes_118 : decode cX9_comes 118 = .ok (.getfield 74, 3) := by decide +kernel
theorem dX9_comes_121 : decode cX9_comes 121 = .ok (.iload_n 3, 1) := by decide +kernel
theorem dX9_comes_122 : decode cX9_comes 122 = .ok (.iaload, 1) := by decide +kernel
theorem dX9_comes_123 : decode cX9_comes 123 = .ok (.invokestatic 342, 3) := by decide +kernel
theorem dX9_comes_126 : decode cX9_comes 126 = .ok (.iastore, 1) := by decide +kernel
theorem dX9_comes_127 : decode cX9_comes 127 = .ok (.iinc 4 1, 3) := by decide +kernel
theorem dX9_comes_130 : decode cX9_comes 130 = .ok (.goto (-118), 3) := by decide +kernel
theorem dX9_comes_133 : decode cX9_comes 133 = .ok (.aload_n 0, 1) := by decide +kernel
theorem dX9_comes_134 : decode cX9_comes 134 = .ok (.getfield 55, 3) := by decide +kernel
theorem dX9_comes_137 : decode cX9_comes 137 = .ok (.aload_n 0, 1) := by decide +kernel
theorem dX9_comes_138 : decode cX9_comes 138 = .ok (.getfield 248, 3) := by decide +kernel
theorem dX9_comes_141 : decode cX9_comes 141 = .ok (.baload, 1) := by decide +kernel
theorem dX9_comes_142 : decode cX9_comes 142 = .ok (.ifCond .eq 12, 3) := by decide +kernel
theorem dX9_comes_145 : decode cX9_comes 145 = .ok (.aload_n 0, 1) := by decide +kernel
theorem dX9_comes_146 : decode cX9_comes 146 = .ok (.getfield 74, 3) := by decide +kernel
theorem dX9_comes_149 : decode cX9_comes 149 = .ok (.iconst 0, 1) := by decide +kernel
theorem dX9_comes_150 : decode cX9_comes 150 = .ok (.iaload, 1) := by decide +kernel
theorem dX9_comes_151 : decode cX9_comes 151 = .ok (.goto 19, 3) := by decide +kernel
theorem dX9_comes_154 : decode cX9_comes 154 = .ok (.aload_n 0, 1) := by decide +kernel
theorem dX9_comes_155 : decode cX9_comes 155 = .ok (.iload_n 1, 1) := by decide +kernel
theorem dX9_comes_156 : decode cX9_comes 156 = .ok (.iload_n 2, 1) := by decide +kernel
theorem dX9_comes_157 : decode cX9_comes 157 = .ok (.invokevirtual 329, 3) := by decide +kernel
theorem dX9_comes_160 : decode cX9_comes 160 = .ok (.bipush 99, 2) := by decide +kernel
theorem dX9_comes_162 : decode cX9_comes 162 = .ok (.if_icmp .ne 7, 3) := by decide +kernel
theorem dX9_comes_165 : decode cX9_comes 165 = .ok (.iconst 1, 1) := by decide +kernel
theorem dX9_comes_166 : decode cX9_comes 166 = .ok (.goto 4, 3) := by decide +kernel
theorem dX9_comes_169 : decode cX9_comes 169 = .ok (.iconst 0, 1) := by decide +kernel
theorem dX9_comes_170 : decode cX9_comes 170 = .ok (.ireturn, 1) := by decide +kernel
theorem dX9_doFit_0 : decode cX9_doFit 0 = .ok (.iconst 0, 1) := by decide +kernel
theorem dX9_doFit_1 : decode cX9_doFit 1 = .ok (.istore_n 1, 1) := by decide +kernel
theorem dX9_doFit_2 : decode cX9_doFit 2 = .ok (.iload_n 1, 1) := by decide +kernel
theorem dX9_doFit_3 : decode cX9_doFit 3 = .ok (.aload_n 0, 1) := by decide +kernel
theorem dX9_doFit_4 : decode cX9_doFit 4 = .ok (.getfield 254, 3) := by decide +kernel
theorem dX9_doFit_7 : decode cX9_doFit 7 = .ok (.if_icmp .ge 126, 3) := by decide +kernel
theorem dX9_doFit_10 : decode cX9_doFit 10 = .ok (.aload_n 0, 1) := by decide +kernel
theorem dX9_doFit_11 : decode cX9_doFit 11 = .ok (.getfield 116, 3) := by decide +kernel
theorem dX9_doFit_14 : decode cX9_doFit 14 = .ok (.iload_n 1, 1) := by decide +kernel
theorem dX9_doFit_15 : decode cX9_doFit 15 = .ok (.iaload, 1) := by decide +kernel
theorem dX9_doFit_16 : decode cX9_doFit 16 = .ok (.aload_n 0, 1) := by decide +kernel
theorem dX9_doFit_17 : decode cX9_doFit 17 = .ok (.getfield 485, 3) := by decide +kernel
theorem dX9_doFit_20 : decode cX9_doFit 20 = .ok (.if_icmp .gt 107, 3) := by decide +kernel
theorem dX9_doFit_23 : decode cX9_doFit 23 = .ok (.aload_n 0, 1) := by decide +kernel
theorem dX9_doFit_24 : decode cX9_doFit 24 = .ok (.getfield 119, 3) := by decide +kernel
theorem dX9_doFit_27 : decode cX9_doFit 27 = .ok (.iload_n 1, 1) := by decide +kernel
theorem dX9_doFit_28 : decode cX9_doFit 28 = .ok (.iaload, 1) := by decide +kernel
theorem dX9_doFit_29 : decode cX9_doFit 29 = .ok (.ifCond .lt 19, 3) := by decide +kernel
theorem dX9_doFit_32 : decode cX9_doFit 32 = .ok (.aload_n 0, 1) := by decide +kernel
theorem dX9_doFit_33 : decode cX9_doFit 33 = .ok (.getfield 119, 3) := by decide +kernel
theorem dX9_doFit_36 : decode cX9_doFit 36 = .ok (.iload_n 1, 1) := by decide +kernel
theorem dX9_doFit_37 : decode cX9_doFit 37 = .ok (.iaload, 1) := by decide +kernel
theorem dX9_doFit_38 : decode cX9_doFit 38 = .ok (.aload_n 0, 1) := by decide +kernel
theorem dX9_doFit_39 : decode cX9_doFit 39 = .ok (.getfield 485, 3) := by decide +kernel
theorem dX9_doFit_42 : decode cX9_doFit 42 = .ok (.if_icmp .gt 6, 3) := by decide +kernel
theorem dX9_doFit_45 : decode cX9_doFit 45 = .ok (.goto 82, 3) := by decide +kernel
theorem dX9_doFit_48 : decode cX9_doFit 48 = .ok (.aload_n 0, 1) := by decide +kernel
theorem dX9_doFit_49 : decode cX9_doFit 49 = .ok (.getfield 125, 3) := by decide +kernel
theorem dX9_doFit_52 : decode cX9_doFit 52 = .ok (.iload_n 1, 1) := by decide +kernel
theorem dX9_doFit_53 : decode cX9_doFit 53 = .ok (.baload, 1) := by decide +kernel
theorem dX9_doFit_54 : decode cX9_doFit 54 = .ok (.ifCond .eq 22, 3) := by decide +kernel
theorem dX9_doFit_57 : decode cX9_doFit 57 = .ok (.aload_n 0, 1) := by decide +kernel
theorem dX9_doFit_58 : decode cX9_doFit 58 = .ok (.aload_n 0, 1) := by decide +kernel
theorem dX9_doFit_59 : decode cX9_doFit 59 = .ok (.getfield 110, 3) := by decide +kernel
theorem dX9_doFit_62 : decode cX9_doFit 62 = .ok (.iload_n 1, 1) := by decide +kernel
theorem dX9_doFit_63 : decode cX9_doFit 63 = .ok (.iaload, 1) := by decide +kernel
theorem dX9_doFit_64 : decode cX9_doFit 64 = .ok (.aload_n 0, 1) := by decide +kernel
theorem dX9_doFit_65 : decode cX9_doFit 65 = .ok (.getfield 113, 3) := by decide +kernel
theorem dX9_doFit_68 : decode cX9_doFit 68 = .ok (.iload_n 1, 1) := by decide +kernel
theorem dX9_doFit_69 : decode cX9_doFit 69 = .ok (.iaload, 1) := by decide +kernel
theorem dX9_doFit_70 : decode cX9_doFit 70 = .ok (.invokevirtual 488, 3) := by decide +kernel
theorem dX9_doFit_73 : decode cX9_doFit 73 = .ok (.goto 41, 3) := by decide +kernel
theorem dX9_doFit_76 : decode cX9_doFit 76 = .ok (.aload_n 0, 1) := by decide +kernel
theorem dX9_doFit_77 : decode cX9_doFit 77 = .ok (.getfield 113, 3) := by decide +kernel
theorem dX9_doFit_80 : decode cX9_doFit 80 = .ok (.iload_n 1, 1) := by decide +kernel
theorem dX9_doFit_81 : decode cX9_doFit 81 = .ok (.iaload, 1) := by decide +kernel
theorem dX9_doFit_82 : decode cX9_doFit 82 = .ok (.aload_n 0, 1) := by decide +kernel
theorem dX9_doFit_83 : decode cX9_doFit 83 = .ok (.invokevirtual 381, 3) := by decide +kernel
theorem dX9_doFit_86 : decode cX9_doFit 86 = .ok (.if_icmp .ge 27, 3) := by decide +kernel
theorem dX9_doFit_89 : decode cX9_doFit 89 = .ok (.aload_n 0, 1) := by decide +kernel
theorem dX9_doFit_90 : decode cX9_doFit 90 = .ok (.getfield 89, 3) := by decide +kernel
theorem dX9_doFit_93 : decode cX9_doFit 93 = .ok (.aload_n 0, 1) := by decide +kernel
theorem dX9_doFit_94 : decode cX9_doFit 94 = .ok (.getfield 113, 3) := by decide +kernel
theorem dX9_doFit_97 : decode cX9_doFit 97 = .ok (.iload_n 1, 1) := by decide +kernel
theorem dX9_doFit_98 : decode cX9_doFit 98 = .ok (.iaload, 1) := by decide +kernel
theorem dX9_doFit_99 : decode cX9_doFit 99 = .ok (.iaload, 1) := by decide +kernel
theorem dX9_doFit_100 : decode cX9_doFit 100 = .ok (.aload_n 0, 1) := by decide +kernel
theorem dX9_doFit_101 : decode cX9_doFit 101 = .ok (.getfield 110, 3) := by decide +kernel
theorem dX9_doFit_104 : decode cX9_doFit 104 = .ok (.iload_n 1, 1) := by decide +kernel
theorem dX9_doFit_105 : decode cX9_doFit 105 = .ok (.iaload, 1) := by decide +kernel
theorem dX9_doFit_106 : decode cX9_doFit 106 = .ok (.if_icmp .ne 7, 3) := by decide +kernel
theorem dX9_doFit_109 : decode cX9_doFit 109 = .ok (.iconst 1, 1) := by decide +kernel
theorem dX9_doFit_110 : decode cX9_doFit 110 = .ok (.goto 4, 3) := by decide +kernel
theorem dX9_doFit_113 : decode cX9_doFit 113 = .ok (.iconst 0, 1) := by decide +kernel
theorem dX9_doFit_114 : decode cX9_doFit 114 = .ok (.istore_n 2, 1) := by decide +kernel
theorem dX9_doFit_115 : decode cX9_doFit 115 = .ok (.iload_n 2, 1) := by decide +kernel
theorem dX9_doFit_116 : decode cX9_doFit 116 = .ok (.aload_n 0, 1) := by decide +kernel
theorem dX9_doFit_117 : decode cX9_doFit 117 = .ok (.getfield 128, 3) := by decide +kernel
theorem dX9_doFit_120 : decode cX9_doFit 120 = .ok (.iload_n 1, 1) := by decide +kernel
theorem dX9_doFit_121 : decode cX9_doFit 121 = .ok (.baload, 1) := by decide +kernel
theorem dX9_doFit_122 : decode cX9_doFit 122 = .ok (.if_icmp .eq 5, 3) := by decide +kernel
theorem dX9_doFit_125 : decode cX9_doFit 125 = .ok (.iconst 0, 1) := by decide +kernel
theorem dX9_doFit_126 : decode cX9_doFit 126 = .ok (.ireturn, 1) := by decide +kernel
theorem dX9_doFit_127 : decode cX9_doFit 127 = .ok (.iinc 1 1, 3) := by decide +kernel
theorem dX9_doFit_130 : decode cX9_doFit 130 = .ok (.goto (-128), 3) := by decide +kernel
theorem dX9_doFit_133 : decode cX9_doFit 133 = .ok (.iconst 1, 1) := by decide +kernel
theorem dX9_doFit_134 : decode cX9_doFit 134 = .ok (.ireturn, 1) := by decide +kernel
theorem dX9_draw_0 : decode cX9_draw 0 = .ok (.aload_n 0, 1) := by decide +kernel
theorem dX9_draw_1 : decode cX9_draw 1 = .ok (.aload_n 0, 1) := by decide +kernel
theorem dX9_draw_2 : decode cX9_draw 2 = .ok (.getfield 86, 3) := by decide +kernel
theorem dX9_draw_5 : decode cX9_draw 5 = .ok (.ldc_w 446, 3) := by decide +kernel
theorem dX9_draw_8 : decode cX9_draw 8 = .ok (.imul, 1) := by decide +kernel
theorem dX9_draw_9 : decode cX9_draw 9 = .ok (.sipush 12345, 3) := by decide +kernel
theorem dX9_draw_12 : decode cX9_draw 12 = .ok (.iadd, 1) := by decide +kernel
theorem dX9_draw_13 : decode cX9_draw 13 = .ok (.putfield 86, 3) := by decide +kernel
theorem dX9_draw_16 : decode cX9_draw 16 = .ok (.aload_n 0, 1) := by decide +kernel
theorem dX9_draw_17 : decode cX9_draw 17 = .ok (.getfield 86, 3) := by decide +kernel
theorem dX9_draw_20 : decode cX9_draw 20 = .ok (.bipush 16, 2) := by decide +kernel
theorem dX9_draw_22 : decode cX9_draw 22 = .ok (.iushr, 1) := by decide +kernel
theorem dX9_draw_23 : decode cX9_draw 23 = .ok (.iload_n 1, 1) := by decide +kernel
theorem dX9_draw_24 : decode cX9_draw 24 = .ok (.irem, 1) := by decide +kernel
theorem dX9_draw_25 : decode cX9_draw 25 = .ok (.ireturn, 1) := by decide +kernel
theorem dX9_drawn_0 : decode cX9_drawn 0 = .ok (.aload_n 0, 1) := by decide +kernel
theorem dX9_drawn_1 : decode cX9_drawn 1 = .ok (.iconst 0, 1) := by decide +kernel
theorem dX9_drawn_2 : decode cX9_drawn 2 = .ok (.invokevirtual 440, 3) := by decide +kernel
theorem dX9_drawn_5 : decode cX9_drawn 5 = .ok (.aload_n 0, 1) := by decide +kernel
theorem dX9_drawn_6 : decode cX9_drawn 6 = .ok (.iconst 0, 1) := by decide +kernel
theorem dX9_drawn_7 : decode cX9_drawn 7 = .ok (.putfield 358, 3) := by decide +kernel
theorem dX9_drawn_10 : decode cX9_drawn 10 = .ok (.aload_n 0, 1) := by decide +kernel
theorem dX9_drawn_11 : decode cX9_drawn 11 = .ok (.getfield 423, 3) := by decide +kernel
theorem dX9_drawn_14 : decode cX9_drawn 14 = .ok (.ifCond .ne 5, 3) := by decide +kernel
theorem dX9_drawn_17 : decode cX9_drawn 17 = .ok (.iconst (-1), 1) := by decide +kernel
theorem dX9_drawn_18 : decode cX9_drawn 18 = .ok (.ireturn, 1) := by decide +kernel
theorem dX9_drawn_19 : decode cX9_drawn 19 = .ok (.aload_n 0, 1) := by decide +kernel
theorem dX9_drawn_20 : decode cX9_drawn 20 = .ok (.aload_n 0, 1) := by decide +kernel
theorem dX9_drawn_21 : decode cX9_drawn 21 = .ok (.aload_n 0, 1) := by decide +kernel
theorem dX9_drawn_22 : decode cX9_drawn 22 = .ok (.getfield 423, 3) := by decide +kernel
theorem dX9_drawn_25 : decode cX9_drawn 25 = .ok (.invokevirtual 447, 3) := by decide +kernel
theorem dX9_drawn_28 : decode cX9_drawn 28 = .ok (.putfield 426, 3) := by decide +kernel
theorem dX9_drawn_31 : decode cX9_drawn 31 = .ok (.aload_n 0, 1) := by decide +kernel
theorem dX9_drawn_32 : decode cX9_drawn 32 = .ok (.iconst 4, 1) := by decide +kernel
theorem dX9_drawn_33 : decode cX9_drawn 33 = .ok (.invokevirtual 440, 3) := by decide +kernel
theorem dX9_drawn_36 : decode cX9_drawn 36 = .ok (.aload_n 0, 1) := by decide +kernel
theorem dX9_drawn_37 : decode cX9_drawn 37 = .ok (.invokevirtual 443, 3) := by decide +kernel
theorem dX9_drawn_40 : decode cX9_drawn 40 = .ok (.aload_n 0, 1) := by decide +kernel
theorem dX9_drawn_41 : decode cX9_drawn 41 = .ok (.getfield 426, 3) := by decide +kernel
theorem dX9_drawn_44 : decode cX9_drawn 44 = .ok (.ireturn, 1) := by decide +kernel
theorem dX9_e_0 : decode cX9_e 0 = .ok (.aload_n 0, 1) := by decide +kernel
theorem dX9_e_1 : decode cX9_e 1 = .ok (.iconst 0, 1) := by decide +kernel
theorem dX9_e_2 : decode cX9_e 2 = .ok (.putfield 299, 3) := by decide +kernel
theorem dX9_e_5 : decode cX9_e 5 = .ok (.aload_n 0, 1) := by decide +kernel
theorem dX9_e_6 : decode cX9_e 6 = .ok (.iconst 0, 1) := by decide +kernel
theorem dX9_e_7 : decode cX9_e 7 = .ok (.putfield 302, 3) := by decide +kernel
theorem dX9_e_10 : decode cX9_e 10 = .ok (.aload_n 0, 1) := by decide +kernel
theorem dX9_e_11 : decode cX9_e 11 = .ok (.bipush 8, 2) := by decide +kernel
theorem dX9_e_13 : decode cX9_e 13 = .ok (.iconst 0, 1) := by decide +kernel
theorem dX9_e_14 : decode cX9_e 14 = .ok (.invokevirtual 305, 3) := by decide +kernel
theorem dX9_e_17 : decode cX9_e 17 = .ok (.iconst 1, 1) := by decide +kernel
theorem dX9_e_18 : decode cX9_e 18 = .ok (.istore_n 1, 1) := by decide +kernel
theorem dX9_e_19 : decode cX9_e 19 = .ok (.aload_n 0, 1) := by decide +kernel
theorem dX9_e_20 : decode cX9_e 20 = .ok (.invokevirtual 229, 3) := by decide +kernel
theorem dX9_e_23 : decode cX9_e 23 = .ok (.ifCond .eq 29, 3) := by decide +kernel
theorem dX9_e_26 : decode cX9_e 26 = .ok (.aload_n 0, 1) := by decide +kernel
theorem dX9_e_27 : decode cX9_e 27 = .ok (.getfield 299, 3) := by decide +kernel
theorem dX9_e_30 : decode cX9_e 30 = .ok (.ifCond .le 22, 3) := by decide +kernel
theorem dX9_e_33 : decode cX9_e 33 = .ok (.iload_n 1, 1) := by decide +kernel
theorem dX9_e_34 : decode cX9_e 34 = .ok (.ifCond .eq 10, 3) := by decide +kernel
theorem dX9_e_37 : decode cX9_e 37 = .ok (.aload_n 0, 1) := by decide +kernel
theorem dX9_e_38 : decode cX9_e 38 = .ok (.invokevirtual 308, 3) := by decide +kernel
theorem dX9_e_41 : decode cX9_e 41 = .ok (.goto 7, 3) := by decide +kernel
theorem dX9_e_44 : decode cX9_e 44 = .ok (.aload_n 0, 1) := by decide +kernel
theorem dX9_e_45 : decode cX9_e 45 = .ok (.invokevirtual 311, 3) := by decide +kernel
theorem dX9_e_48 : decode cX9_e 48 = .ok (.istore_n 1, 1) := by decide +kernel
theorem dX9_e_49 : decode cX9_e 49 = .ok (.goto (-30), 3) := by decide +kernel
theorem dX9_e_52 : decode cX9_e 52 = .ok (.return_, 1) := by decide +kernel
theorem dX9_emit_0 : decode cX9_emit 0 = .ok (.aload_n 0, 1) := by decide +kernel
theorem dX9_emit_1 : decode cX9_emit 1 = .ok (.getfield 62, 3) := by decide +kernel
theorem dX9_emit_4 : decode cX9_emit 4 = .ok (.aload_n 0, 1) := by decide +kernel
theorem dX9_emit_5 : decode cX9_emit 5 = .ok (.getfield 242, 3) := by decide +kernel
theorem dX9_emit_8 : decode cX9_emit 8 = .ok (.iload_n 1, 1) := by decide +kernel
theorem dX9_emit_9 : decode cX9_emit 9 = .ok (.iastore, 1) := by decide +kernel
theorem dX9_emit_10 : decode cX9_emit 10 = .ok (.aload_n 0, 1) := by decide +kernel
theorem dX9_emit_11 : decode cX9_emit 11 = .ok (.getfield 65, 3) := by decide +kernel
theorem dX9_emit_14 : decode cX9_emit 14 = .ok (.aload_n 0, 1) := by decide +kernel
theorem dX9_emit_15 : decode cX9_emit 15 = .ok (.getfield 242, 3) := by decide +kernel
theorem dX9_emit_18 : decode cX9_emit 18 = .ok (.iload_n 2, 1) := by decide +kernel
theorem dX9_emit_19 : decode cX9_emit 19 = .ok (.iastore, 1) := by decide +kernel
theorem dX9_emit_20 : decode cX9_emit 20 = .ok (.aload_n 0, 1) := by decide +kernel
theorem dX9_emit_21 : decode cX9_emit 21 = .ok (.dup, 1) := by decide +kernel
theorem dX9_emit_22 : decode cX9_emit 22 = .ok (.getfield 242, 3) := by decide +kernel
theorem dX9_emit_25 : decode cX9_emit 25 = .ok (.iconst 1, 1) := by decide +kernel
theorem dX9_emit_26 : decode cX9_emit 26 = .ok (.iadd, 1) := by decide +kernel
theorem dX9_emit_27 : decode cX9_emit 27 = .ok (.putfield 242, 3) := by decide +kernel
theorem dX9_emit_30 : decode cX9_emit 30 = .ok (.return_, 1) := by decide +kernel
theorem dX9_end_0 : decode cX9_end 0 = .ok (.iload_n 1, 1) := by decide +kernel
theorem dX9_end_1 : decode cX9_end 1 = .ok (.ifCond .lt 11, 3) := by decide +kernel
theorem dX9_end_4 : decode cX9_end 4 = .ok (.iload_n 1, 1) := by decide +kernel
theorem dX9_end_5 : decode cX9_end 5 = .ok (.aload_n 0, 1) := by decide +kernel
theorem dX9_end_6 : decode cX9_end 6 = .ok (.getfield 245, 3) := by decide +kernel
theorem dX9_end_9 : decode cX9_end 9 = .ok (.if_icmp .le 5, 3) := by decide +kernel
theorem dX9_end_12 : decode cX9_end 12 = .ok (.iconst (-1), 1) := by decide +kernel
theorem dX9_end_13 : decode cX9_end 13 = .ok (.ireturn, 1) := by decide +kernel
theorem dX9_end_14 : decode cX9_end 14 = .ok (.aload_n 0, 1) := by decide +kernel
theorem dX9_end_15 : decode cX9_end 15 = .ok (.iload_n 1, 1) := by decide +kernel
theorem dX9_end_16 : decode cX9_end 16 = .ok (.putfield 245, 3) := by decide +kernel
theorem dX9_end_19 : decode cX9_end 19 = .ok (.iload_n 1, 1) := by decide +kernel
theorem dX9_end_20 : decode cX9_end 20 = .ok (.ireturn, 1) := by decide +kernel
theorem dX9_fails_0 : decode cX9_fails 0 = .ok (.aload_n 0, 1) := by decide +kernel
theorem dX9_fails_1 : decode cX9_fails 1 = .ok (.getfield 158, 3) := by decide +kernel
theorem dX9_fails_4 : decode cX9_fails 4 = .ok (.ifCond .le 4, 3) := by decide +kernel
theorem dX9_fails_7 : decode cX9_fails 7 = .ok (.return_, 1) := by decide +kernel
theorem dX9_fails_8 : decode cX9_fails 8 = .ok (.aload_n 0, 1) := by decide +kernel
theorem dX9_fails_9 : decode cX9_fails 9 = .ok (.iload_n 1, 1) := by decide +kernel
theorem dX9_fails_10 : decode cX9_fails 10 = .ok (.putfield 158, 3) := by decide +kernel
theorem dX9_fails_13 : decode cX9_fails 13 = .ok (.aload_n 0, 1) := by decide +kernel
theorem dX9_fails_14 : decode cX9_fails 14 = .ok (.iload_n 2, 1) := by decide +kernel
theorem dX9_fails_15 : decode cX9_fails 15 = .ok (.putfield 16, 3) := by decide +kernel
theorem dX9_fails_18 : decode cX9_fails 18 = .ok (.return_, 1) := by decide +kernel
theorem dX9_fairest_0 : decode cX9_fairest 0 = .ok (.aload_n 0, 1) := by decide +kernel
theorem dX9_fairest_1 : decode cX9_fairest 1 = .ok (.iconst 2, 1) := by decide +kernel
theorem dX9_fairest_2 : decode cX9_fairest 2 = .ok (.invokevirtual 440, 3) := by decide +kernel
theorem dX9_fairest_5 : decode cX9_fairest 5 = .ok (.aload_n 0, 1) := by decide +kernel
theorem dX9_fairest_6 : decode cX9_fairest 6 = .ok (.invokevirtual 443, 3) := by decide +kernel
theorem dX9_fairest_9 : decode cX9_fairest 9 = .ok (.aload_n 0, 1) := by decide +kernel
theorem dX9_fairest_10 : decode cX9_fairest 10 = .ok (.getfield 405, 3) := by decide +kernel
theorem dX9_fairest_13 : decode cX9_fairest 13 = .ok (.ifCond .eq 10, 3) := by decide +kernel
theorem dX9_fairest_16 : decode cX9_fairest 16 = .ok (.aload_n 0, 1) := by decide +kernel
theorem dX9_fairest_17 : decode cX9_fairest 17 = .ok (.getfield 408, 3) := by decide +kernel
theorem dX9_fairest_20 : decode cX9_fairest 20 = .ok (.goto 4, 3) := by decide +kernel
theorem dX9_fairest_23 : decode cX9_fairest 23 = .ok (.iconst (-1), 1) := by decide +kernel
theorem dX9_fairest_24 : decode cX9_fairest 24 = .ok (.ireturn, 1) := by decide +kernel
theorem dX9_fault_0 : decode cX9_fault 0 = .ok (.iload_n 1, 1) := by decide +kernel
theorem dX9_fault_1 : decode cX9_fault 1 = .ok (.ifCond .ne 10, 3) := by decide +kernel
theorem dX9_fault_4 : decode cX9_fault 4 = .ok (.aload_n 0, 1) := by decide +kernel
theorem dX9_fault_5 : decode cX9_fault 5 = .ok (.getfield 158, 3) := by decide +kernel
theorem dX9_fault_8 : decode cX9_fault 8 = .ok (.goto 16, 3) := by decide +kernel
theorem dX9_fault_11 : decode cX9_fault 11 = .ok (.iload_n 1, 1) := by decide +kernel
theorem dX9_fault_12 : decode cX9_fault 12 = .ok (.iconst 1, 1) := by decide +kernel
theorem dX9_fault_13 : decode cX9_fault 13 = .ok (.if_icmp .ne 10, 3) := by decide +kernel
theorem dX9_fault_16 : decode cX9_fault 16 = .ok (.aload_n 0, 1) := by decide +kernel
theorem dX9_fault_17 : decode cX9_fault 17 = .ok (.getfield 16, 3) := by decide +kernel
theorem dX9_fault_20 : decode cX9_fault 20 = .ok (.goto 4, 3) := by decide +kernel
theorem dX9_fault_23 : decode cX9_fault 23 = .ok (.iconst (-1), 1) := by decide +kernel
theorem dX9_fault_24 : decode cX9_fault 24 = .ok (.ireturn, 1) := by decide +kernel
theorem dX9_feed_0 : decode cX9_feed 0 = .ok (.aload_n 0, 1) := by decide +kernel
theorem dX9_feed_1 : decode cX9_feed 1 = .ok (.getfield 245, 3) := by decide +kernel
theorem dX9_feed_4 : decode cX9_feed 4 = .ok (.bipush 20, 2) := by decide +kernel
theorem dX9_feed_6 : decode cX9_feed 6 = .ok (.iadd, 1) := by decide +kernel
theorem dX9_feed_7 : decode cX9_feed 7 = .ok (.sipush 1600, 3) := by decide +kernel
theorem dX9_feed_10 : decode cX9_feed 10 = .ok (.if_icmp .le 5, 3) := by decide +kernel
theorem dX9_feed_13 : decode cX9_feed 13 = .ok (.iconst (-1), 1) := by decide +kernel
theorem dX9_feed_14 : decode cX9_feed 14 = .ok (.ireturn, 1) := by decide +kernel
theorem dX9_feed_15 : decode cX9_feed 15 = .ok (.iconst 0, 1) := by decide +kernel
theorem dX9_feed_16 : decode cX9_feed 16 = .ok (.istore 6, 2) := by decide +kernel
theorem dX9_feed_18 : decode cX9_feed 18 = .ok (.iload 6, 2) := by decide +kernel
theorem dX9_feed_20 : decode cX9_feed 20 = .ok (.bipush 20, 2) := by decide +kernel
theorem dX9_feed_22 : decode cX9_feed 22 = .ok (.if_icmp .ge 83, 3) := by decide +kernel
theorem dX9_feed_25 : decode cX9_feed 25 = .ok (.iload 6, 2) := by decide +kernel
theorem dX9_feed_27 : decode cX9_feed 27 = .ok (.iconst 4, 1) := by decide +kernel
theorem dX9_feed_28 : decode cX9_feed 28 = .ok (.if_icmp .ge 7, 3) := by decide +kernel
theorem dX9_feed_31 : decode cX9_feed 31 = .ok (.iload_n 1, 1) := by decide +kernel
theorem dX9_feed_32 : decode cX9_feed 32 = .ok (.goto 39, 3) := by decide +kernel
theorem dX9_feed_35 : decode cX9_feed 35 = .ok (.iload 6, 2) := by decide +kernel
theorem dX9_feed_37 : decode cX9_feed 37 = .ok (.bipush 8, 2) := by decide +kernel
theorem dX9_feed_39 : decode cX9_feed 39 = .ok (.if_icmp .ge 7, 3) := by decide +kernel
theorem dX9_feed_42 : decode cX9_feed 42 = .ok (.iload_n 2, 1) := by decide +kernel
theorem dX9_feed_43 : decode cX9_feed 43 = .ok (.goto 28, 3) := by decide +kernel
theorem dX9_feed_46 : decode cX9_feed 46 = .ok (.iload 6, 2) := by decide +kernel
theorem dX9_feed_48 : decode cX9_feed 48 = .ok (.bipush 12, 2) := by decide +kernel
theorem dX9_feed_50 : decode cX9_feed 50 = .ok (.if_icmp .ge 7, 3) := by decide +kernel
theorem dX9_feed_53 : decode cX9_feed 53 = .ok (.iload_n 3, 1) := by decide +kernel
theorem dX9_feed_54 : decode cX9_feed 54 = .ok (.goto 17, 3) := by decide +kernel
theorem dX9_feed_57 : decode cX9_feed 57 = .ok (.iload 6, 2) := by decide +kernel
theorem dX9_feed_59 : decode cX9_feed 59 = .ok (.bipush 16, 2) := by decide +kernel
theorem dX9_feed_61 : decode cX9_feed 61 = .ok (.if_icmp .ge 8, 3) := by decide +kernel
theorem dX9_feed_64 : decode cX9_feed 64 = .ok (.iload 4, 2) := by decide +kernel
theorem dX9_feed_66 : decode cX9_feed 66 = .ok (.goto 5, 3) := by decide +kernel
theorem dX9_feed_69 : decode cX9_feed 69 = .ok (.iload 5, 2) := by decide +kernel
theorem dX9_feed_71 : decode cX9_feed 71 = .ok (.istore 7, 2) := by decide +kernel
theorem dX9_feed_73 : decode cX9_feed 73 = .ok (.aload_n 0, 1) := by decide +kernel
theorem dX9_feed_74 : decode cX9_feed 74 = .ok (.getfield 7, 3) := by decide +kernel
theorem dX9_feed_77 : decode cX9_feed 77 = .ok (.aload_n 0, 1) := by decide +kernel
theorem dX9_feed_78 : decode cX9_feed 78 = .ok (.getfield 245, 3) := by decide +kernel
theorem dX9_feed_81 : decode cX9_feed 81 = .ok (.iload 6, 2) := by decide +kernel
theorem dX9_feed_83 : decode cX9_feed 83 = .ok (.iadd, 1) := by decide +kernel
theorem dX9_feed_84 : decode cX9_feed 84 = .ok (.iload 7, 2) := by decide +kernel
theorem dX9_feed_86 : decode cX9_feed 86 = .ok (.bipush 24, 2) := by decide +kernel
theorem dX9_feed_88 : decode cX9_feed 88 = .ok (.bipush 8, 2) := by decide +kernel
theorem dX9_feed_90 : decode cX9_feed 90 = .ok (.iload 6, 2) := by decide +kernel
theorem dX9_feed_92 : decode cX9_feed 92 = .ok (.iconst 3, 1) := by decide +kernel
theorem dX9_feed_93 : decode cX9_feed 93 = .ok (.iand, 1) := by decide +kernel
theorem dX9_feed_94 : decode cX9_feed 94 = .ok (.imul, 1) := by decide +kernel
theorem dX9_feed_95 : decode cX9_feed 95 = .ok (.isub, 1) := by decide +kernel
theorem dX9_feed_96 : decode cX9_feed 96 = .ok (.ishr, 1) := by decide +kernel
theorem dX9_feed_97 : decode cX9_feed 97 = .ok (.i2b, 1) := by decide +kernel
theorem dX9_feed_98 : decode cX9_feed 98 = .ok (.bastore, 1) := by decide +kernel
theorem dX9_feed_99 : decode cX9_feed 99 = .ok (.iinc 6 1, 3) := by decide +kernel
theorem dX9_feed_102 : decode cX9_feed 102 = .ok (.goto (-84), 3) := by decide +kernel
theorem dX9_feed_105 : decode cX9_feed 105 = .ok (.aload_n 0, 1) := by decide +kernel
theorem dX9_feed_106 : decode cX9_feed 106 = .ok (.dup, 1) := by decide +kernel
theorem dX9_feed_107 : decode cX9_feed 107 = .ok (.getfield 245, 3) := by decide +kernel
theorem dX9_feed_110 : decode cX9_feed 110 = .ok (.bipush 20, 2) := by decide +kernel
theorem dX9_feed_112 : decode cX9_feed 112 = .ok (.iadd, 1) := by decide +kernel
theorem dX9_feed_113 : decode cX9_feed 113 = .ok (.putfield 245, 3) := by decide +kernel
theorem dX9_feed_116 : decode cX9_feed 116 = .ok (.aload_n 0, 1) := by decide +kernel
theorem dX9_feed_117 : decode cX9_feed 117 = .ok (.getfield 245, 3) := by decide +kernel
theorem dX9_feed_120 : decode cX9_feed 120 = .ok (.ireturn, 1) := by decide +kernel
theorem dX9_first_0 : decode cX9_first 0 = .ok (.aload_n 0, 1) := by decide +kernel
theorem dX9_first_1 : decode cX9_first 1 = .ok (.iconst 1, 1) := by decide +kernel
theorem dX9_first_2 : decode cX9_first 2 = .ok (.invokevirtual 440, 3) := by decide +kernel
theorem dX9_first_5 : decode cX9_first 5 = .ok (.aload_n 0, 1) := by decide +kernel
theorem dX9_first_6 : decode cX9_first 6 = .ok (.invokevirtual 443, 3) := by decide +kernel
theorem dX9_first_9 : decode cX9_first 9 = .ok (.aload_n 0, 1) := by decide +kernel
theorem dX9_first_10 : decode cX9_first 10 = .ok (.getfield 405, 3) := by decide +kernel
theorem dX9_first_13 : decode cX9_first 13 = .ok (.ifCond .eq 7, 3) := by decide +kernel
theorem dX9_first_16 : decode cX9_first 16 = .ok (.iconst 1, 1) := by decide +kernel
theorem dX9_first_17 : decode cX9_first 17 = .ok (.goto 4, 3) := by decide +kernel
theorem dX9_first_20 : decode cX9_first 20 = .ok (.iconst 0, 1) := by decide +kernel
theorem dX9_first_21 : decode cX9_first 21 = .ok (.ireturn, 1) := by decide +kernel
theorem dX9_firstWrong_0 : decode cX9_firstWrong 0 = .ok (.aload_n 0, 1) := by decide +kernel
theorem dX9_firstWrong_1 : decode cX9_firstWrong 1 = .ok (.invokevirtual 381, 3) := by decide +kernel
theorem dX9_firstWrong_4 : decode cX9_firstWrong 4 = .ok (.istore_n 1, 1) := by decide +kernel
theorem dX9_firstWrong_5 : decode cX9_firstWrong 5 = .ok (.iconst 0, 1) := by decide +kernel
theorem dX9_firstWrong_6 : decode cX9_firstWrong 6 = .ok (.istore_n 2, 1) := by decide +kernel
theorem dX9_firstWrong_7 : decode cX9_firstWrong 7 = .ok (.iload_n 2, 1) := by decide +kernel
theorem dX9_firstWrong_8 : decode cX9_firstWrong 8 = .ok (.iload_n 1, 1) := by decide +kernel
theorem dX9_firstWrong_9 : decode cX9_firstWrong 9 = .ok (.if_icmp .ge 88, 3) := by decide +kernel
theorem dX9_firstWrong_12 : decode cX9_firstWrong 12 = .ok (.aload_n 0, 1) := by decide +kernel
theorem dX9_firstWrong_13 : decode cX9_firstWrong 13 = .ok (.iload_n 2, 1) := by decide +kernel
theorem dX9_firstWrong_14 : decode cX9_firstWrong 14 = .ok (.aload_n 0, 1) := by decide +kernel
theorem dX9_firstWrong_15 : decode cX9_firstWrong 15 = .ok (.getfield 89, 3) := by decide +kernel
theorem dX9_firstWrong_18 : decode cX9_firstWrong 18 = .ok (.iload_n 2, 1) := by decide +kernel
theorem dX9_firstWrong_19 : decode cX9_firstWrong 19 = .ok (.iaload, 1) := by decide +kernel
theorem dX9_firstWrong_20 : decode cX9_firstWrong 20 = .ok (.invokevirtual 399, 3) := by decide +kernel
theorem dX9_firstWrong_23 : decode cX9_firstWrong 23 = .ok (.ifCond .ne 5, 3) := by decide +kernel
theorem dX9_firstWrong_26 : decode cX9_firstWrong 26 = .ok (.iload_n 2, 1) := by decide +kernel
theorem dX9_firstWrong_27 : decode cX9_firstWrong 27 = .ok (.ireturn, 1) := by decide +kernel
theorem dX9_firstWrong_28 : decode cX9_firstWrong 28 = .ok (.iload_n 2, 1) := by decide +kernel
theorem dX9_firstWrong_29 : decode cX9_firstWrong 29 = .ok (.iconst 1, 1) := by decide +kernel
theorem dX9_firstWrong_30 : decode cX9_firstWrong 30 = .ok (.iadd, 1) := by decide +kernel
theorem dX9_firstWrong_31 : decode cX9_firstWrong 31 = .ok (.iload_n 1, 1) := by decide +kernel
theorem dX9_firstWrong_32 : decode cX9_firstWrong 32 = .ok (.if_icmp .ge 24, 3) := by decide +kernel
theorem dX9_firstWrong_35 : decode cX9_firstWrong 35 = .ok (.aload_n 0, 1) := by decide +kernel
theorem dX9_firstWrong_36 : decode cX9_firstWrong 36 = .ok (.aload_n 0, 1) := by decide +kernel
theorem dX9_firstWrong_37 : decode cX9_firstWrong 37 = .ok (.getfield 89, 3) := by decide +kernel
theorem dX9_firstWrong_40 : decode cX9_firstWrong 40 = .ok (.iload_n 2, 1) := by decide +kernel
theorem dX9_firstWrong_41 : decode cX9_firstWrong 41 = .ok (.iaload, 1) := by decide +kernel
theorem dX9_firstWrong_42 : decode cX9_firstWrong 42 = .ok (.aload_n 0, 1) := by decide +kernel
theorem dX9_firstWrong_43 : decode cX9_firstWrong 43 = .ok (.getfield 89, 3) := by decide +kernel
theorem dX9_firstWrong_46 : decode cX9_firstWrong 46 = .ok (.iload_n 2, 1) := by decide +kernel
theorem dX9_firstWrong_47 : decode cX9_firstWrong 47 = .ok (.iconst 1, 1) := by decide +kernel
theorem dX9_firstWrong_48 : decode cX9_firstWrong 48 = .ok (.iadd, 1) := by decide +kernel
theorem dX9_firstWrong_49 : decode cX9_firstWrong 49 = .ok (.iaload, 1) := by decide +kernel
theorem dX9_firstWrong_50 : decode cX9_firstWrong 50 = .ok (.invokevirtual 402, 3) := by decide +kernel
theorem dX9_firstWrong_53 : decode cX9_firstWrong 53 = .ok (.ifCond .eq 36, 3) := by decide +kernel
theorem dX9_firstWrong_56 : decode cX9_firstWrong 56 = .ok (.iload_n 2, 1) := by decide +kernel
theorem dX9_firstWrong_57 : decode cX9_firstWrong 57 = .ok (.iconst 1, 1) := by decide +kernel
theorem dX9_firstWrong_58 : decode cX9_firstWrong 58 = .ok (.iadd, 1) := by decide +kernel
theorem dX9_firstWrong_59 : decode cX9_firstWrong 59 = .ok (.iload_n 1, 1) := by decide +kernel
theorem dX9_firstWrong_60 : decode cX9_firstWrong 60 = .ok (.if_icmp .ne 31, 3) := by decide +kernel
theorem dX9_firstWrong_63 : decode cX9_firstWrong 63 = .ok (.aload_n 0, 1) := by decide +kernel
theorem dX9_firstWrong_64 : decode cX9_firstWrong 64 = .ok (.invokevirtual 384, 3) := by decide +kernel
theorem dX9_firstWrong_67 : decode cX9_firstWrong 67 = .ok (.ifCond .eq 24, 3) := by decide +kernel
theorem dX9_firstWrong_70 : decode cX9_firstWrong 70 = .ok (.aload_n 0, 1) := by decide +kernel
theorem dX9_firstWrong_71 : decode cX9_firstWrong 71 = .ok (.aload_n 0, 1) := by decide +kernel
theorem dX9_firstWrong_72 : decode cX9_firstWrong 72 = .ok (.getfield 89, 3) := by decide +kernel
theorem dX9_firstWrong_75 : decode cX9_firstWrong 75 = .ok (.iload_n 2, 1) := by decide +kernel
theorem dX9_firstWrong_76 : decode cX9_firstWrong 76 = .ok (.iaload, 1) := by decide +kernel
theorem dX9_firstWrong_77 : decode cX9_firstWrong 77 = .ok (.aload_n 0, 1) := by decide +kernel
theorem dX9_firstWrong_78 : decode cX9_firstWrong 78 = .ok (.getfield 89, 3) := by decide +kernel
theorem dX9_firstWrong_81 : decode cX9_firstWrong 81 = .ok (.iconst 0, 1) := by decide +kernel
theorem dX9_firstWrong_82 : decode cX9_firstWrong 82 = .ok (.iaload, 1) := by decide +kernel
theorem dX9_firstWrong_83 : decode cX9_firstWrong 83 = .ok (.invokevirtual 402, 3) := by decide +kernel
theorem dX9_firstWrong_86 : decode cX9_firstWrong 86 = .ok (.ifCond .ne 5, 3) := by decide +kernel
theorem dX9_firstWrong_89 : decode cX9_firstWrong 89 = .ok (.iload_n 2, 1) := by decide +kernel
theorem dX9_firstWrong_90 : decode cX9_firstWrong 90 = .ok (.ireturn, 1) := by decide +kernel
theorem dX9_firstWrong_91 : decode cX9_firstWrong 91 = .ok (.iinc 2 1, 3) := by decide +kernel
theorem dX9_firstWrong_94 : decode cX9_firstWrong 94 = .ok (.goto (-87), 3) := by decide +kernel
theorem dX9_firstWrong_97 : decode cX9_firstWrong 97 = .ok (.iconst (-1), 1) := by decide +kernel
theorem dX9_firstWrong_98 : decode cX9_firstWrong 98 = .ok (.ireturn, 1) := by decide +kernel
theorem dX9_fits_0 : decode cX9_fits 0 = .ok (.aload_n 0, 1) := by decide +kernel
theorem dX9_fits_1 : decode cX9_fits 1 = .ok (.iload_n 1, 1) := by decide +kernel
theorem dX9_fits_2 : decode cX9_fits 2 = .ok (.putfield 485, 3) := by decide +kernel
theorem dX9_fits_5 : decode cX9_fits 5 = .ok (.aload_n 0, 1) := by decide +kernel
theorem dX9_fits_6 : decode cX9_fits 6 = .ok (.iconst 5, 1) := by decide +kernel
theorem dX9_fits_7 : decode cX9_fits 7 = .ok (.invokevirtual 440, 3) := by decide +kernel
theorem dX9_fits_10 : decode cX9_fits 10 = .ok (.aload_n 0, 1) := by decide +kernel
theorem dX9_fits_11 : decode cX9_fits 11 = .ok (.getfield 423, 3) := by decide +kernel
theorem dX9_fits_14 : decode cX9_fits 14 = .ok (.ireturn, 1) := by decide +kernel
theorem dX9_forget_0 : decode cX9_forget 0 = .ok (.aload_n 0, 1) := by decide +kernel
theorem dX9_forget_1 : decode cX9_forget 1 = .ok (.iconst 0, 1) := by decide +kernel
theorem dX9_forget_2 : decode cX9_forget 2 = .ok (.putfield 355, 3) := by decide +kernel
theorem dX9_forget_5 : decode cX9_forget 5 = .ok (.aload_n 0, 1) := by decide +kernel
theorem dX9_forget_6 : decode cX9_forget 6 = .ok (.iconst 0, 1) := by decide +kernel
theorem dX9_forget_7 : decode cX9_forget 7 = .ok (.putfield 358, 3) := by decide +kernel
theorem dX9_forget_10 : decode cX9_forget 10 = .ok (.return_, 1) := by decide +kernel
theorem dX9_game_0 : decode cX9_game 0 = .ok (.aload_n 0, 1) := by decide +kernel
theorem dX9_game_1 : decode cX9_game 1 = .ok (.getfield 358, 3) := by decide +kernel
theorem dX9_game_4 : decode cX9_game 4 = .ok (.istore_n 1, 1) := by decide +kernel
theorem dX9_game_5 : decode cX9_game 5 = .ok (.aload_n 0, 1) := by decide +kernel
theorem dX9_game_6 : decode cX9_game 6 = .ok (.invokevirtual 462, 3) := by decide +kernel
theorem dX9_game_9 : decode cX9_game 9 = .ok (.istore_n 2, 1) := by decide +kernel
theorem dX9_game_10 : decode cX9_game 10 = .ok (.aload_n 0, 1) := by decide +kernel
theorem dX9_game_11 : decode cX9_game 11 = .ok (.iload_n 1, 1) := by decide +kernel
theorem dX9_game_12 : decode cX9_game 12 = .ok (.putfield 358, 3) := by decide +kernel
theorem dX9_game_15 : decode cX9_game 15 = .ok (.iload_n 2, 1) := by decide +kernel
theorem dX9_game_16 : decode cX9_game 16 = .ok (.ifCond .ne 6, 3) := by decide +kernel
theorem dX9_game_19 : decode cX9_game 19 = .ok (.bipush (-2), 2) := by decide +kernel
theorem dX9_game_21 : decode cX9_game 21 = .ok (.ireturn, 1) := by decide +kernel
theorem dX9_game_22 : decode cX9_game 22 = .ok (.iconst 0, 1) := by decide +kernel
theorem dX9_game_23 : decode cX9_game 23 = .ok (.istore_n 3, 1) := by decide +kernel
theorem dX9_game_24 : decode cX9_game 24 = .ok (.iload_n 3, 1) := by decide +kernel
theorem dX9_game_25 : decode cX9_game 25 = .ok (.aload_n 0, 1) := by decide +kernel
theorem dX9_game_26 : decode cX9_game 26 = .ok (.getfield 459, 3) := by decide +kernel
theorem dX9_game_29 : decode cX9_game 29 = .ok (.if_icmp .ge 33, 3) := by decide +kernel
theorem dX9_game_32 : decode cX9_game 32 = .ok (.aload_n 0, 1) := by decide +kernel
theorem dX9_game_33 : decode cX9_game 33 = .ok (.getfield 104, 3) := by decide +kernel
theorem dX9_game_36 : decode cX9_game 36 = .ok (.iload_n 3, 1) := by decide +kernel
theorem dX9_game_37 : decode cX9_game 37 = .ok (.iaload, 1) := by decide +kernel
theorem dX9_game_38 : decode cX9_game 38 = .ok (.ifCond .eq 16, 3) := by decide +kernel
theorem dX9_game_41 : decode cX9_game 41 = .ok (.aload_n 0, 1) := by decide +kernel
theorem dX9_game_42 : decode cX9_game 42 = .ok (.aload_n 0, 1) := by decide +kernel
theorem dX9_game_43 : decode cX9_game 43 = .ok (.getfield 104, 3) := by decide +kernel
theorem dX9_game_46 : decode cX9_game 46 = .ok (.iload_n 3, 1) := by decide +kernel
theorem dX9_game_47 : decode cX9_game 47 = .ok (.iaload, 1) := by decide +kernel
theorem dX9_game_48 : decode cX9_game 48 = .ok (.invokevirtual 471, 3) := by decide +kernel
theorem dX9_game_51 : decode cX9_game 51 = .ok (.ifCond .eq 5, 3) := by decide +kernel
theorem dX9_game_54 : decode cX9_game 54 = .ok (.iconst 1, 1) := by decide +kernel
theorem dX9_game_55 : decode cX9_game 55 = .ok (.ireturn, 1) := by decide +kernel
theorem dX9_game_56 : decode cX9_game 56 = .ok (.iinc 3 1, 3) := by decide +kernel
theorem dX9_game_59 : decode cX9_game 59 = .ok (.goto (-35), 3) := by decide +kernel
theorem dX9_game_62 : decode cX9_game 62 = .ok (.iconst 0, 1) := by decide +kernel
theorem dX9_game_63 : decode cX9_game 63 = .ok (.ireturn, 1) := by decide +kernel
theorem dX9_goOn_0 : decode cX9_goOn 0 = .ok (.aload_n 0, 1) := by decide +kernel
theorem dX9_goOn_1 : decode cX9_goOn 1 = .ok (.aload_n 0, 1) := by decide +kernel
theorem dX9_goOn_2 : decode cX9_goOn 2 = .ok (.getfield 191, 3) := by decide +kernel
theorem dX9_goOn_5 : decode cX9_goOn 5 = .ok (.putfield 194, 3) := by decide +kernel
theorem dX9_goOn_8 : decode cX9_goOn 8 = .ok (.aload_n 0, 1) := by decide +kernel
theorem dX9_goOn_9 : decode cX9_goOn 9 = .ok (.getfield 194, 3) := by decide +kernel
theorem dX9_goOn_12 : decode cX9_goOn 12 = .ok (.aload_n 0, 1) := by decide +kernel
theorem dX9_goOn_13 : decode cX9_goOn 13 = .ok (.getfield 155, 3) := by decide +kernel
theorem dX9_goOn_16 : decode cX9_goOn 16 = .ok (.if_icmp .ge 42, 3) := by decide +kernel
theorem dX9_goOn_19 : decode cX9_goOn 19 = .ok (.aload_n 0, 1) := by decide +kernel
theorem dX9_goOn_20 : decode cX9_goOn 20 = .ok (.aload_n 0, 1) := by decide +kernel
theorem dX9_goOn_21 : decode cX9_goOn 21 = .ok (.getfield 194, 3) := by decide +kernel
theorem dX9_goOn_24 : decode cX9_goOn 24 = .ok (.invokevirtual 197, 3) := by decide +kernel
theorem dX9_goOn_27 : decode cX9_goOn 27 = .ok (.bipush 32, 2) := by decide +kernel
theorem dX9_goOn_29 : decode cX9_goOn 29 = .ok (.if_icmp .eq 16, 3) := by decide +kernel
theorem dX9_goOn_32 : decode cX9_goOn 32 = .ok (.aload_n 0, 1) := by decide +kernel
theorem dX9_goOn_33 : decode cX9_goOn 33 = .ok (.aload_n 0, 1) := by decide +kernel
theorem dX9_goOn_34 : decode cX9_goOn 34 = .ok (.getfield 194, 3) := by decide +kernel
theorem dX9_goOn_37 : decode cX9_goOn 37 = .ok (.invokevirtual 197, 3) := by decide +kernel
theorem dX9_goOn_40 : decode cX9_goOn 40 = .ok (.bipush 10, 2) := by decide +kernel
theorem dX9_goOn_42 : decode cX9_goOn 42 = .ok (.if_icmp .ne 16, 3) := by decide +kernel
theorem dX9_goOn_45 : decode cX9_goOn 45 = .ok (.aload_n 0, 1) := by decide +kernel
theorem dX9_goOn_46 : decode cX9_goOn 46 = .ok (.dup, 1) := by decide +kernel
theorem dX9_goOn_47 : decode cX9_goOn 47 = .ok (.getfield 194, 3) := by decide +kernel
theorem dX9_goOn_50 : decode cX9_goOn 50 = .ok (.iconst 1, 1) := by decide +kernel
theorem dX9_goOn_51 : decode cX9_goOn 51 = .ok (.iadd, 1) := by decide +kernel
theorem dX9_goOn_52 : decode cX9_goOn 52 = .ok (.putfield 194, 3) := by decide +kernel
theorem dX9_goOn_55 : decode cX9_goOn 55 = .ok (.goto (-47), 3) := by decide +kernel
theorem dX9_goOn_58 : decode cX9_goOn 58 = .ok (.aload_n 0, 1) := by decide +kernel
theorem dX9_goOn_59 : decode cX9_goOn 59 = .ok (.aload_n 0, 1) := by decide +kernel
theorem dX9_goOn_60 : decode cX9_goOn 60 = .ok (.getfield 194, 3) := by decide +kernel
theorem dX9_goOn_63 : decode cX9_goOn 63 = .ok (.invokevirtual 197, 3) := by decide +kernel
theorem dX9_goOn_66 : decode cX9_goOn 66 = .ok (.istore_n 1, 1) := by decide +kernel
theorem dX9_goOn_67 : decode cX9_goOn 67 = .ok (.aload_n 0, 1) := by decide +kernel
theorem dX9_goOn_68 : decode cX9_goOn 68 = .ok (.aload_n 0, 1) := by decide +kernel
theorem dX9_goOn_69 : decode cX9_goOn 69 = .ok (.getfield 194, 3) := by decide +kernel
theorem dX9_goOn_72 : decode cX9_goOn 72 = .ok (.iconst 1, 1) := by decide +kernel
theorem dX9_goOn_73 : decode cX9_goOn 73 = .ok (.iadd, 1) := by decide +kernel
theorem dX9_goOn_74 : decode cX9_goOn 74 = .ok (.putfield 191, 3) := by decide +kernel
theorem dX9_goOn_77 : decode cX9_goOn 77 = .ok (.aload_n 0, 1) := by decide +kernel
theorem dX9_goOn_78 : decode cX9_goOn 78 = .ok (.getfield 194, 3) := by decide +kernel
theorem dX9_goOn_81 : decode cX9_goOn 81 = .ok (.aload_n 0, 1) := by decide +kernel
theorem dX9_goOn_82 : decode cX9_goOn 82 = .ok (.getfield 155, 3) := by decide +kernel
theorem dX9_goOn_85 : decode cX9_goOn 85 = .ok (.if_icmp .lt 27, 3) := by decide +kernel
theorem dX9_goOn_88 : decode cX9_goOn 88 = .ok (.aload_n 0, 1) := by decide +kernel
theorem dX9_goOn_89 : decode cX9_goOn 89 = .ok (.iconst 0, 1) := by decide +kernel
theorem dX9_goOn_90 : decode cX9_goOn 90 = .ok (.putfield 201, 3) := by decide +kernel
theorem dX9_goOn_93 : decode cX9_goOn 93 = .ok (.aload_n 0, 1) := by decide +kernel
theorem dX9_goOn_94 : decode cX9_goOn 94 = .ok (.aload_n 0, 1) := by decide +kernel
theorem dX9_goOn_95 : decode cX9_goOn 95 = .ok (.getfield 155, 3) := by decide +kernel
theorem dX9_goOn_98 : decode cX9_goOn 98 = .ok (.putfield 194, 3) := by decide +kernel
theorem dX9_goOn_101 : decode cX9_goOn 101 = .ok (.aload_n 0, 1) := by decide +kernel
theorem dX9_goOn_102 : decode cX9_goOn 102 = .ok (.aload_n 0, 1) := by decide +kernel
theorem dX9_goOn_103 : decode cX9_goOn 103 = .ok (.getfield 155, 3) := by decide +kernel
theorem dX9_goOn_106 : decode cX9_goOn 106 = .ok (.putfield 191, 3) := by decide +kernel
theorem dX9_goOn_109 : decode cX9_goOn 109 = .ok (.goto 268, 3) := by decide +kernel
theorem dX9_goOn_112 : decode cX9_goOn 112 = .ok (.iload_n 1, 1) := by decide +kernel
theorem dX9_goOn_113 : decode cX9_goOn 113 = .ok (.invokestatic 204, 3) := by decide +kernel
theorem dX9_goOn_116 : decode cX9_goOn 116 = .ok (.ifCond .eq 123, 3) := by decide +kernel
theorem dX9_goOn_119 : decode cX9_goOn 119 = .ok (.aload_n 0, 1) := by decide +kernel
theorem dX9_goOn_120 : decode cX9_goOn 120 = .ok (.aload_n 0, 1) := by decide +kernel
theorem dX9_goOn_121 : decode cX9_goOn 121 = .ok (.getfield 191, 3) := by decide +kernel
theorem dX9_goOn_124 : decode cX9_goOn 124 = .ok (.invokevirtual 197, 3) := by decide +kernel
theorem dX9_goOn_127 : decode cX9_goOn 127 = .ok (.invokestatic 204, 3) := by decide +kernel
theorem dX9_goOn_130 : decode cX9_goOn 130 = .ok (.ifCond .eq 16, 3) := by decide +kernel
theorem dX9_goOn_133 : decode cX9_goOn 133 = .ok (.aload_n 0, 1) := by decide +kernel
theorem dX9_goOn_134 : decode cX9_goOn 134 = .ok (.dup, 1) := by decide +kernel
theorem dX9_goOn_135 : decode cX9_goOn 135 = .ok (.getfield 191, 3) := by decide +kernel
theorem dX9_goOn_138 : decode cX9_goOn 138 = .ok (.iconst 1, 1) := by decide +kernel
theorem dX9_goOn_139 : decode cX9_goOn 139 = .ok (.iadd, 1) := by decide +kernel
theorem dX9_goOn_140 : decode cX9_goOn 140 = .ok (.putfield 191, 3) := by decide +kernel
theorem dX9_goOn_143 : decode cX9_goOn 143 = .ok (.goto (-24), 3) := by decide +kernel
theorem dX9_goOn_146 : decode cX9_goOn 146 = .ok (.aload_n 0, 1) := by decide +kernel
theorem dX9_goOn_147 : decode cX9_goOn 147 = .ok (.lconst 0, 1) := by decide +kernel
theorem dX9_goOn_148 : decode cX9_goOn 148 = .ok (.putfield 208, 3) := by decide +kernel
theorem dX9_goOn_151 : decode cX9_goOn 151 = .ok (.aload_n 0, 1) := by decide +kernel
theorem dX9_goOn_152 : decode cX9_goOn 152 = .ok (.getfield 194, 3) := by decide +kernel
theorem dX9_goOn_155 : decode cX9_goOn 155 = .ok (.istore_n 2, 1) := by decide +kernel
theorem dX9_goOn_156 : decode cX9_goOn 156 = .ok (.iload_n 2, 1) := by decide +kernel
theorem dX9_goOn_157 : decode cX9_goOn 157 = .ok (.aload_n 0, 1) := by decide +kernel
theorem dX9_goOn_158 : decode cX9_goOn 158 = .ok (.getfield 191, 3) := by decide +kernel
theorem dX9_goOn_161 : decode cX9_goOn 161 = .ok (.if_icmp .ge 38, 3) := by decide +kernel
theorem dX9_goOn_164 : decode cX9_goOn 164 = .ok (.iload_n 2, 1) := by decide +kernel
theorem dX9_goOn_165 : decode cX9_goOn 165 = .ok (.aload_n 0, 1) := by decide +kernel
theorem dX9_goOn_166 : decode cX9_goOn 166 = .ok (.getfield 194, 3) := by decide +kernel
theorem dX9_goOn_169 : decode cX9_goOn 169 = .ok (.bipush 8, 2) := by decide +kernel
theorem dX9_goOn_171 : decode cX9_goOn 171 = .ok (.iadd, 1) := by decide +kernel
theorem dX9_goOn_172 : decode cX9_goOn 172 = .ok (.if_icmp .ge 27, 3) := by decide +kernel
theorem dX9_goOn_175 : decode cX9_goOn 175 = .ok (.aload_n 0, 1) := by decide +kernel
theorem dX9_goOn_176 : decode cX9_goOn 176 = .ok (.aload_n 0, 1) := by decide +kernel
theorem dX9_goOn_177 : decode cX9_goOn 177 = .ok (.getfield 208, 3) := by decide +kernel
theorem dX9_goOn_180 : decode cX9_goOn 180 = .ok (.bipush 8, 2) := by decide +kernel
theorem dX9_goOn_182 : decode cX9_goOn 182 = .ok (.lshl, 1) := by decide +kernel
theorem dX9_goOn_183 : decode cX9_goOn 183 = .ok (.aload_n 0, 1) := by decide +kernel
theorem dX9_goOn_184 : decode cX9_goOn 184 = .ok (.iload_n 2, 1) := by decide +kernel
theorem dX9_goOn_185 : decode cX9_goOn 185 = .ok (.invokevirtual 197, 3) := by decide +kernel
theorem dX9_goOn_188 : decode cX9_goOn 188 = .ok (.i2l, 1) := by decide +kernel
theorem dX9_goOn_189 : decode cX9_goOn 189 = .ok (.lor, 1) := by decide +kernel
theorem dX9_goOn_190 : decode cX9_goOn 190 = .ok (.putfield 208, 3) := by decide +kernel
theorem dX9_goOn_193 : decode cX9_goOn 193 = .ok (.iinc 2 1, 3) := by decide +kernel
theorem dX9_goOn_196 : decode cX9_goOn 196 = .ok (.goto (-40), 3) := by decide +kernel
theorem dX9_goOn_199 : decode cX9_goOn 199 = .ok (.aload_n 0, 1) := by decide +kernel
theorem dX9_goOn_200 : decode cX9_goOn 200 = .ok (.aload_n 0, 1) := by decide +kernel
theorem dX9_goOn_201 : decode cX9_goOn 201 = .ok (.getfield 191, 3) := by decide +kernel
theorem dX9_goOn_204 : decode cX9_goOn 204 = .ok (.aload_n 0, 1) := by decide +kernel
theorem dX9_goOn_205 : decode cX9_goOn 205 = .ok (.getfield 194, 3) := by decide +kernel
theorem dX9_goOn_208 : decode cX9_goOn 208 = .ok (.isub, 1) := by decide +kernel
theorem dX9_goOn_209 : decode cX9_goOn 209 = .ok (.bipush 8, 2) := by decide +kernel
theorem dX9_goOn_211 : decode cX9_goOn 211 = .ok (.if_icmp .le 7, 3) := by decide +kernel
theorem dX9_goOn_214 : decode cX9_goOn 214 = .ok (.iconst 1, 1) := by decide +kernel
theorem dX9_goOn_215 : decode cX9_goOn 215 = .ok (.goto 18, 3) := by decide +kernel
theorem dX9_goOn_218 : decode cX9_goOn 218 = .ok (.aload_n 0, 1) := by decide +kernel
theorem dX9_goOn_219 : decode cX9_goOn 219 = .ok (.getfield 208, 3) := by decide +kernel
theorem dX9_goOn_222 : decode cX9_goOn 222 = .ok (.invokestatic 212, 3) := by decide +kernel
theorem dX9_goOn_225 : decode cX9_goOn 225 = .ok (.ifCond .eq 7, 3) := by decide +kernel
theorem dX9_goOn_228 : decode cX9_goOn 228 = .ok (.iconst 3, 1) := by decide +kernel
theorem dX9_goOn_229 : decode cX9_goOn 229 = .ok (.goto 4, 3) := by decide +kernel
theorem dX9_goOn_232 : decode cX9_goOn 232 = .ok (.iconst 2, 1) := by decide +kernel
theorem dX9_goOn_233 : decode cX9_goOn 233 = .ok (.putfield 201, 3) := by decide +kernel
theorem dX9_goOn_236 : decode cX9_goOn 236 = .ok (.goto 141, 3) := by decide +kernel
theorem dX9_goOn_239 : decode cX9_goOn 239 = .ok (.iload_n 1, 1) := by decide +kernel
theorem dX9_goOn_240 : decode cX9_goOn 240 = .ok (.invokestatic 216, 3) := by decide +kernel
theorem dX9_goOn_243 : decode cX9_goOn 243 = .ok (.ifCond .eq 118, 3) := by decide +kernel
theorem dX9_goOn_246 : decode cX9_goOn 246 = .ok (.aload_n 0, 1) := by decide +kernel
theorem dX9_goOn_247 : decode cX9_goOn 247 = .ok (.iconst 0, 1) := by decide +kernel
theorem dX9_goOn_248 : decode cX9_goOn 248 = .ok (.putfield 219, 3) := by decide +kernel
theorem dX9_goOn_251 : decode cX9_goOn 251 = .ok (.aload_n 0, 1) := by decide +kernel
theorem dX9_goOn_252 : decode cX9_goOn 252 = .ok (.aload_n 0, 1) := by decide +kernel
theorem dX9_goOn_253 : decode cX9_goOn 253 = .ok (.getfield 194, 3) := by decide +kernel
theorem dX9_goOn_256 : decode cX9_goOn 256 = .ok (.putfield 191, 3) := by decide +kernel
theorem dX9_goOn_259 : decode cX9_goOn 259 = .ok (.aload_n 0, 1) := by decide +kernel
theorem dX9_goOn_260 : decode cX9_goOn 260 = .ok (.aload_n 0, 1) := by decide +kernel
theorem dX9_goOn_261 : decode cX9_goOn 261 = .ok (.getfield 191, 3) := by decide +kernel
theorem dX9_goOn_264 : decode cX9_goOn 264 = .ok (.invokevirtual 197, 3) := by decide +kernel
theorem dX9_goOn_267 : decode cX9_goOn 267 = .ok (.invokestatic 216, 3) := by decide +kernel
theorem dX9_goOn_270 : decode cX9_goOn 270 = .ok (.ifCond .eq 52, 3) := by decide +kernel
theorem dX9_goOn_273 : decode cX9_goOn 273 = .ok (.aload_n 0, 1) := by decide +kernel
theorem dX9_goOn_274 : decode cX9_goOn 274 = .ok (.getfield 191, 3) := by decide +kernel
theorem dX9_goOn_277 : decode cX9_goOn 277 = .ok (.aload_n 0, 1) := by decide +kernel
theorem dX9_goOn_278 : decode cX9_goOn 278 = .ok (.getfield 194, 3) := by decide +kernel
theorem dX9_goOn_281 : decode cX9_goOn 281 = .ok (.isub, 1) := by decide +kernel
theorem dX9_goOn_282 : decode cX9_goOn 282 = .ok (.iconst 4, 1) := by decide +kernel
theorem dX9_goOn_283 : decode cX9_goOn 283 = .ok (.if_icmp .ge 26, 3) := by decide +kernel
theorem dX9_goOn_286 : decode cX9_goOn 286 = .ok (.aload_n 0, 1) := by decide +kernel
theorem dX9_goOn_287 : decode cX9_goOn 287 = .ok (.bipush 10, 2) := by decide +kernel
theorem dX9_goOn_289 : decode cX9_goOn 289 = .ok (.aload_n 0, 1) := by decide +kernel
theorem dX9_goOn_290 : decode cX9_goOn 290 = .ok (.getfield 219, 3) := by decide +kernel
theorem dX9_goOn_293 : decode cX9_goOn 293 = .ok (.imul, 1) := by decide +kernel
theorem dX9_goOn_294 : decode cX9_goOn 294 = .ok (.aload_n 0, 1) := by decide +kernel
theorem dX9_goOn_295 : decode cX9_goOn 295 = .ok (.aload_n 0, 1) := by decide +kernel
theorem dX9_goOn_296 : decode cX9_goOn 296 = .ok (.getfield 191, 3) := by decide +kernel
theorem dX9_goOn_299 : decode cX9_goOn 299 = .ok (.invokevirtual 197, 3) := by decide +kernel
theorem dX9_goOn_302 : decode cX9_goOn 302 = .ok (.iadd, 1) := by decide +kernel
theorem dX9_goOn_303 : decode cX9_goOn 303 = .ok (.bipush 48, 2) := by decide +kernel
theorem dX9_goOn_305 : decode cX9_goOn 305 = .ok (.isub, 1) := by decide +kernel
theorem dX9_goOn_306 : decode cX9_goOn 306 = .ok (.putfield 219, 3) := by decide +kernel
theorem dX9_goOn_309 : decode cX9_goOn 309 = .ok (.aload_n 0, 1) := by decide +kernel
theorem dX9_goOn_310 : decode cX9_goOn 310 = .ok (.dup, 1) := by decide +kernel
theorem dX9_goOn_311 : decode cX9_goOn 311 = .ok (.getfield 191, 3) := by decide +kernel
theorem dX9_goOn_314 : decode cX9_goOn 314 = .ok (.iconst 1, 1) := by decide +kernel
theorem dX9_goOn_315 : decode cX9_goOn 315 = .ok (.iadd, 1) := by decide +kernel
theorem dX9_goOn_316 : decode cX9_goOn 316 = .ok (.putfield 191, 3) := by decide +kernel
theorem dX9_goOn_319 : decode cX9_goOn 319 = .ok (.goto (-60), 3) := by decide +kernel
theorem dX9_goOn_322 : decode cX9_goOn 322 = .ok (.aload_n 0, 1) := by decide +kernel
theorem dX9_goOn_323 : decode cX9_goOn 323 = .ok (.aload_n 0, 1) := by decide +kernel
theorem dX9_goOn_324 : decode cX9_goOn 324 = .ok (.getfield 191, 3) := by decide +kernel
theorem dX9_goOn_327 : decode cX9_goOn 327 = .ok (.aload_n 0, 1) := by decide +kernel
theorem dX9_goOn_328 : decode cX9_goOn 328 = .ok (.getfield 194, 3) := by decide +kernel
theorem dX9_goOn_331 : decode cX9_goOn 331 = .ok (.isub, 1) := by decide +kernel
theorem dX9_goOn_332 : decode cX9_goOn 332 = .ok (.iconst 4, 1) := by decide +kernel
theorem dX9_goOn_333 : decode cX9_goOn 333 = .ok (.if_icmp .gt 17, 3) := by decide +kernel
theorem dX9_goOn_336 : decode cX9_goOn 336 = .ok (.aload_n 0, 1) := by decide +kernel
theorem dX9_goOn_337 : decode cX9_goOn 337 = .ok (.aload_n 0, 1) := by decide +kernel
theorem dX9_goOn_338 : decode cX9_goOn 338 = .ok (.getfield 191, 3) := by decide +kernel
theorem dX9_goOn_341 : decode cX9_goOn 341 = .ok (.invokevirtual 197, 3) := by decide +kernel
theorem dX9_goOn_344 : decode cX9_goOn 344 = .ok (.invokestatic 204, 3) := by decide +kernel
theorem dX9_goOn_347 : decode cX9_goOn 347 = .ok (.ifCond .eq 7, 3) := by decide +kernel
theorem dX9_goOn_350 : decode cX9_goOn 350 = .ok (.iconst 1, 1) := by decide +kernel
theorem dX9_goOn_351 : decode cX9_goOn 351 = .ok (.goto 4, 3) := by decide +kernel
theorem dX9_goOn_354 : decode cX9_goOn 354 = .ok (.iconst 4, 1) := by decide +kernel
theorem dX9_goOn_355 : decode cX9_goOn 355 = .ok (.putfield 201, 3) := by decide +kernel
theorem dX9_goOn_358 : decode cX9_goOn 358 = .ok (.goto 19, 3) := by decide +kernel
theorem dX9_goOn_361 : decode cX9_goOn 361 = .ok (.aload_n 0, 1) := by decide +kernel
theorem dX9_goOn_362 : decode cX9_goOn 362 = .ok (.iload_n 1, 1) := by decide +kernel
theorem dX9_goOn_363 : decode cX9_goOn 363 = .ok (.invokestatic 222, 3) := by decide +kernel
theorem dX9_goOn_366 : decode cX9_goOn 366 = .ok (.ifCond .eq 7, 3) := by decide +kernel
theorem dX9_goOn_369 : decode cX9_goOn 369 = .ok (.iconst 5, 1) := by decide +kernel
theorem dX9_goOn_370 : decode cX9_goOn 370 = .ok (.goto 4, 3) := by decide +kernel
theorem dX9_goOn_373 : decode cX9_goOn 373 = .ok (.iconst 1, 1) := by decide +kernel
theorem dX9_goOn_374 : decode cX9_goOn 374 = .ok (.putfield 201, 3) := by decide +kernel
theorem dX9_goOn_377 : decode cX9_goOn 377 = .ok (.return_, 1) := by decide +kernel
theorem dX9_goThrough_0 : decode cX9_goThrough 0 = .ok (.aload_n 0, 1) := by decide +kernel
theorem dX9_goThrough_1 : decode cX9_goThrough 1 = .ok (.invokevirtual 393, 3) := by decide +kernel
theorem dX9_goThrough_4 : decode cX9_goThrough 4 = .ok (.aload_n 0, 1) := by decide +kernel
theorem dX9_goThrough_5 : decode cX9_goThrough 5 = .ok (.iload_n 1, 1) := by decide +kernel
theorem dX9_goThrough_6 : decode cX9_goThrough 6 = .ok (.putfield 411, 3) := by decide +kernel
theorem dX9_goThrough_9 : decode cX9_goThrough 9 = .ok (.aload_n 0, 1) := by decide +kernel
theorem dX9_goThrough_10 : decode cX9_goThrough 10 = .ok (.iconst 0, 1) := by decide +kernel
theorem dX9_goThrough_11 : decode cX9_goThrough 11 = .ok (.putfield 423, 3) := by decide +kernel
theorem dX9_goThrough_14 : decode cX9_goThrough 14 = .ok (.aload_n 0, 1) := by decide +kernel
theorem dX9_goThrough_15 : decode cX9_goThrough 15 = .ok (.iconst 0, 1) := by decide +kernel
theorem dX9_goThrough_16 : decode cX9_goThrough 16 = .ok (.putfield 405, 3) := by decide +kernel
theorem dX9_goThrough_19 : decode cX9_goThrough 19 = .ok (.aload_n 0, 1) := by decide +kernel
theorem dX9_goThrough_20 : decode cX9_goThrough 20 = .ok (.invokevirtual 381, 3) := by decide +kernel
theorem dX9_goThrough_23 : decode cX9_goThrough 23 = .ok (.istore_n 2, 1) := by decide +kernel
theorem dX9_goThrough_24 : decode cX9_goThrough 24 = .ok (.aload_n 0, 1) := by decide +kernel
theorem dX9_goThrough_25 : decode cX9_goThrough 25 = .ok (.getfield 345, 3) := by decide +kernel
theorem dX9_goThrough_28 : decode cX9_goThrough 28 = .ok (.istore_n 3, 1) := by decide +kernel
theorem dX9_goThrough_29 : decode cX9_goThrough 29 = .ok (.iconst 0, 1) := by decide +kernel
theorem dX9_goThrough_30 : decode cX9_goThrough 30 = .ok (.istore 4, 2) := by decide +kernel
theorem dX9_goThrough_32 : decode cX9_goThrough 32 = .ok (.iload_n 2, 1) := by decide +kernel
theorem dX9_goThrough_33 : decode cX9_goThrough 33 = .ok (.ifCond .ne 8, 3) := by decide +kernel
theorem dX9_goThrough_36 : decode cX9_goThrough 36 = .ok (.aload_n 0, 1) := by decide +kernel
theorem dX9_goThrough_37 : decode cX9_goThrough 37 = .ok (.invokevirtual 433, 3) := by decide +kernel
theorem dX9_goThrough_40 : decode cX9_goThrough 40 = .ok (.pop, 1) := by decide +kernel
theorem dX9_goThrough_41 : decode cX9_goThrough 41 = .ok (.aload_n 0, 1) := by decide +kernel
theorem dX9_goThrough_42 : decode cX9_goThrough 42 = .ok (.getfield 89, 3) := by decide +kernel
theorem dX9_goThrough_45 : decode cX9_goThrough 45 = .ok (.iconst 0, 1) := by decide +kernel
theorem dX9_goThrough_46 : decode cX9_goThrough 46 = .ok (.iconst (-1), 1) := by decide +kernel
theorem dX9_goThrough_47 : decode cX9_goThrough 47 = .ok (.iastore, 1) := by decide +kernel
theorem dX9_goThrough_48 : decode cX9_goThrough 48 = .ok (.iload 4, 2) := by decide +kernel
theorem dX9_goThrough_50 : decode cX9_goThrough 50 = .ok (.ifCond .lt 156, 3) := by decide +kernel
theorem dX9_goThrough_53 : decode cX9_goThrough 53 = .ok (.iload_n 2, 1) := by decide +kernel
theorem dX9_goThrough_54 : decode cX9_goThrough 54 = .ok (.ifCond .le 152, 3) := by decide +kernel
theorem dX9_goThrough_57 : decode cX9_goThrough 57 = .ok (.aload_n 0, 1) := by decide +kernel
theorem dX9_goThrough_58 : decode cX9_goThrough 58 = .ok (.getfield 89, 3) := by decide +kernel
theorem dX9_goThrough_61 : decode cX9_goThrough 61 = .ok (.iload 4, 2) := by decide +kernel
theorem dX9_goThrough_63 : decode cX9_goThrough 63 = .ok (.iaload, 1) := by decide +kernel
theorem dX9_goThrough_64 : decode cX9_goThrough 64 = .ok (.ifCond .lt 17, 3) := by decide +kernel
theorem dX9_goThrough_67 : decode cX9_goThrough 67 = .ok (.iload_n 3, 1) := by decide +kernel
theorem dX9_goThrough_68 : decode cX9_goThrough 68 = .ok (.iconst 1, 1) := by decide +kernel
theorem dX9_goThrough_69 : decode cX9_goThrough 69 = .ok (.aload_n 0, 1) := by decide +kernel
theorem dX9_goThrough_70 : decode cX9_goThrough 70 = .ok (.getfield 89, 3) := by decide +kernel
theorem dX9_goThrough_73 : decode cX9_goThrough 73 = .ok (.iload 4, 2) := by decide +kernel
theorem dX9_goThrough_75 : decode cX9_goThrough 75 = .ok (.iaload, 1) := by decide +kernel
theorem dX9_goThrough_76 : decode cX9_goThrough 76 = .ok (.ishl, 1) := by decide +kernel
theorem dX9_goThrough_77 : decode cX9_goThrough 77 = .ok (.iconst (-1), 1) := by decide +kernel
theorem dX9_goThrough_78 : decode cX9_goThrough 78 = .ok (.ixor, 1) := by decide +kernel
theorem dX9_goThrough_79 : decode cX9_goThrough 79 = .ok (.iand, 1) := by decide +kernel
theorem dX9_goThrough_80 : decode cX9_goThrough 80 = .ok (.istore_n 3, 1) := by decide +kernel
theorem dX9_goThrough_81 : decode cX9_goThrough 81 = .ok (.aload_n 0, 1) := by decide +kernel
theorem dX9_goThrough_82 : decode cX9_goThrough 82 = .ok (.getfield 89, 3) := by decide +kernel
theorem dX9_goThrough_85 : decode cX9_goThrough 85 = .ok (.iload 4, 2) := by decide +kernel
theorem dX9_goThrough_87 : decode cX9_goThrough 87 = .ok (.iaload, 1) := by decide +kernel
theorem dX9_goThrough_88 : decode cX9_goThrough 88 = .ok (.iconst 1, 1) := by decide +kernel
theorem dX9_goThrough_89 : decode cX9_goThrough 89 = .ok (.iadd, 1) := by decide +kernel
theorem dX9_goThrough_90 : decode cX9_goThrough 90 = .ok (.istore 5, 2) := by decide +kernel
theorem dX9_goThrough_92 : decode cX9_goThrough 92 = .ok (.iload 5, 2) := by decide +kernel
theorem dX9_goThrough_94 : decode cX9_goThrough 94 = .ok (.aload_n 0, 1) := by decide +kernel
theorem dX9_goThrough_95 : decode cX9_goThrough 95 = .ok (.getfield 20, 3) := by decide +kernel
theorem dX9_goThrough_98 : decode cX9_goThrough 98 = .ok (.aload_n 0, 1) := by decide +kernel
theorem dX9_goThrough_99 : decode cX9_goThrough 99 = .ok (.getfield 248, 3) := by decide +kernel
theorem dX9_goThrough_102 : decode cX9_goThrough 102 = .ok (.iaload, 1) := by decide +kernel
theorem dX9_goThrough_103 : decode cX9_goThrough 103 = .ok (.if_icmp .ge 22, 3) := by decide +kernel
theorem dX9_goThrough_106 : decode cX9_goThrough 106 = .ok (.aload_n 0, 1) := by decide +kernel
theorem dX9_goThrough_107 : decode cX9_goThrough 107 = .ok (.iload 4, 2) := by decide +kernel
theorem dX9_goThrough_109 : decode cX9_goThrough 109 = .ok (.iload 5, 2) := by decide +kernel
theorem dX9_goThrough_111 : decode cX9_goThrough 111 = .ok (.iload_n 3, 1) := by decide +kernel
theorem dX9_goThrough_112 : decode cX9_goThrough 112 = .ok (.iload_n 2, 1) := by decide +kernel
theorem dX9_goThrough_113 : decode cX9_goThrough 113 = .ok (.invokevirtual 436, 3) := by decide +kernel
theorem dX9_goThrough_116 : decode cX9_goThrough 116 = .ok (.ifCond .ne 9, 3) := by decide +kernel
theorem dX9_goThrough_119 : decode cX9_goThrough 119 = .ok (.iinc 5 1, 3) := by decide +kernel
theorem dX9_goThrough_122 : decode cX9_goThrough 122 = .ok (.goto (-30), 3) := by decide +kernel
theorem dX9_goThrough_125 : decode cX9_goThrough 125 = .ok (.aload_n 0, 1) := by decide +kernel
theorem dX9_goThrough_126 : decode cX9_goThrough 126 = .ok (.getfield 89, 3) := by decide +kernel
theorem dX9_goThrough_129 : decode cX9_goThrough 129 = .ok (.iload 4, 2) := by decide +kernel
theorem dX9_goThrough_131 : decode cX9_goThrough 131 = .ok (.iload 5, 2) := by decide +kernel
theorem dX9_goThrough_133 : decode cX9_goThrough 133 = .ok (.iastore, 1) := by decide +kernel
theorem dX9_goThrough_134 : decode cX9_goThrough 134 = .ok (.iload 5, 2) := by decide +kernel
theorem dX9_goThrough_136 : decode cX9_goThrough 136 = .ok (.aload_n 0, 1) := by decide +kernel
theorem dX9_goThrough_137 : decode cX9_goThrough 137 = .ok (.getfield 20, 3) := by decide +kernel
theorem dX9_goThrough_140 : decode cX9_goThrough 140 = .ok (.aload_n 0, 1) := by decide +kernel
theorem dX9_goThrough_141 : decode cX9_goThrough 141 = .ok (.getfield 248, 3) := by decide +kernel
theorem dX9_goThrough_144 : decode cX9_goThrough 144 = .ok (.iaload, 1) := by decide +kernel
theorem dX9_goThrough_145 : decode cX9_goThrough 145 = .ok (.if_icmp .ne 17, 3) := by decide +kernel
theorem dX9_goThrough_148 : decode cX9_goThrough 148 = .ok (.aload_n 0, 1) := by decide +kernel
theorem dX9_goThrough_149 : decode cX9_goThrough 149 = .ok (.getfield 89, 3) := by decide +kernel
theorem dX9_goThrough_152 : decode cX9_goThrough 152 = .ok (.iload 4, 2) := by decide +kernel
theorem dX9_goThrough_154 : decode cX9_goThrough 154 = .ok (.iconst (-1), 1) := by decide +kernel
theorem dX9_goThrough_155 : decode cX9_goThrough 155 = .ok (.iastore, 1) := by decide +kernel
theorem dX9_goThrough_156 : decode cX9_goThrough 156 = .ok (.iinc 4 (-1), 3) := by decide +kernel
theorem dX9_goThrough_159 : decode cX9_goThrough 159 = .ok (.goto 44, 3) := by decide +kernel
theorem dX9_goThrough_162 : decode cX9_goThrough 162 = .ok (.iload 4, 2) := by decide +kernel
theorem dX9_goThrough_164 : decode cX9_goThrough 164 = .ok (.iconst 1, 1) := by decide +kernel
theorem dX9_goThrough_165 : decode cX9_goThrough 165 = .ok (.iadd, 1) := by decide +kernel
theorem dX9_goThrough_166 : decode cX9_goThrough 166 = .ok (.iload_n 2, 1) := by decide +kernel
theorem dX9_goThrough_167 : decode cX9_goThrough 167 = .ok (.if_icmp .ne 18, 3) := by decide +kernel
theorem dX9_goThrough_170 : decode cX9_goThrough 170 = .ok (.iload_n 3, 1) := by decide +kernel
theorem dX9_goThrough_171 : decode cX9_goThrough 171 = .ok (.iconst 1, 1) := by decide +kernel
theorem dX9_goThrough_172 : decode cX9_goThrough 172 = .ok (.iload 5, 2) := by decide +kernel
theorem dX9_goThrough_174 : decode cX9_goThrough 174 = .ok (.ishl, 1) := by decide +kernel
theorem dX9_goThrough_175 : decode cX9_goThrough 175 = .ok (.ior, 1) := by decide +kernel
theorem dX9_goThrough_176 : decode cX9_goThrough 176 = .ok (.istore_n 3, 1) := by decide +kernel
theorem dX9_goThrough_177 : decode cX9_goThrough 177 = .ok (.aload_n 0, 1) := by decide +kernel
theorem dX9_goThrough_178 : decode cX9_goThrough 178 = .ok (.invokevirtual 433, 3) := by decide +kernel
theorem dX9_goThrough_181 : decode cX9_goThrough 181 = .ok (.ifCond .ne 22, 3) := by decide +kernel
theorem dX9_goThrough_184 : decode cX9_goThrough 184 = .ok (.return_, 1) := by decide +kernel
theorem dX9_goThrough_185 : decode cX9_goThrough 185 = .ok (.iload_n 3, 1) := by decide +kernel
theorem dX9_goThrough_186 : decode cX9_goThrough 186 = .ok (.iconst 1, 1) := by decide +kernel
theorem dX9_goThrough_187 : decode cX9_goThrough 187 = .ok (.iload 5, 2) := by decide +kernel
theorem dX9_goThrough_189 : decode cX9_goThrough 189 = .ok (.ishl, 1) := by decide +kernel
theorem dX9_goThrough_190 : decode cX9_goThrough 190 = .ok (.ior, 1) := by decide +kernel
theorem dX9_goThrough_191 : decode cX9_goThrough 191 = .ok (.istore_n 3, 1) := by decide +kernel
theorem dX9_goThrough_192 : decode cX9_goThrough 192 = .ok (.iinc 4 1, 3) := by decide +kernel
theorem dX9_goThrough_195 : decode cX9_goThrough 195 = .ok (.aload_n 0, 1) := by decide +kernel
theorem dX9_goThrough_196 : decode cX9_goThrough 196 = .ok (.getfield 89, 3) := by decide +kernel
theorem dX9_goThrough_199 : decode cX9_goThrough 199 = .ok (.iload 4, 2) := by decide +kernel
theorem dX9_goThrough_201 : decode cX9_goThrough 201 = .ok (.iconst (-1), 1) := by decide +kernel
theorem dX9_goThrough_202 : decode cX9_goThrough 202 = .ok (.iastore, 1) := by decide +kernel
theorem dX9_goThrough_203 : decode cX9_goThrough 203 = .ok (.goto (-155), 3) := by decide +kernel
theorem dX9_goThrough_206 : decode cX9_goThrough 206 = .ok (.return_, 1) := by decide +kernel
theorem dX9_haulOfRow_0 : decode cX9_haulOfRow 0 = .ok (.aload_n 0, 1) := by decide +kernel
theorem dX9_haulOfRow_1 : decode cX9_haulOfRow 1 = .ok (.invokevirtual 381, 3) := by decide +kernel
theorem dX9_haulOfRow_4 : decode cX9_haulOfRow 4 = .ok (.istore_n 1, 1) := by decide +kernel
theorem dX9_haulOfRow_5 : decode cX9_haulOfRow 5 = .ok (.iconst 0, 1) := by decide +kernel
theorem dX9_haulOfRow_6 : decode cX9_haulOfRow 6 = .ok (.istore_n 2, 1) := by decide +kernel
theorem dX9_haulOfRow_7 : decode cX9_haulOfRow 7 = .ok (.iconst 0, 1) := by decide +kernel
theorem dX9_haulOfRow_8 : decode cX9_haulOfRow 8 = .ok (.istore_n 3, 1) := by decide +kernel
theorem dX9_haulOfRow_9 : decode cX9_haulOfRow 9 = .ok (.iload_n 3, 1) := by decide +kernel
theorem dX9_haulOfRow_10 : decode cX9_haulOfRow 10 = .ok (.iload_n 1, 1) := by decide +kernel
theorem dX9_haulOfRow_11 : decode cX9_haulOfRow 11 = .ok (.if_icmp .ge 110, 3) := by decide +kernel
theorem dX9_haulOfRow_14 : decode cX9_haulOfRow 14 = .ok (.aload_n 0, 1) := by decide +kernel
theorem dX9_haulOfRow_15 : decode cX9_haulOfRow 15 = .ok (.getfield 348, 3) := by decide +kernel
theorem dX9_haulOfRow_18 : decode cX9_haulOfRow 18 = .ok (.ifCond .eq 103, 3) := by decide +kernel
theorem dX9_haulOfRow_21 : decode cX9_haulOfRow 21 = .ok (.iload_n 3, 1) := by decide +kernel
theorem dX9_haulOfRow_22 : decode cX9_haulOfRow 22 = .ok (.aload_n 0, 1) := by decide +kernel
theorem dX9_haulOfRow_23 : decode cX9_haulOfRow 23 = .ok (.getfield 80, 3) := by decide +kernel
theorem dX9_haulOfRow_26 : decode cX9_haulOfRow 26 = .ok (.aload_n 0, 1) := by decide +kernel
theorem dX9_haulOfRow_27 : decode cX9_haulOfRow 27 = .ok (.getfield 89, 3) := by decide +kernel
theorem dX9_haulOfRow_30 : decode cX9_haulOfRow 30 = .ok (.iload_n 3, 1) := by decide +kernel
theorem dX9_haulOfRow_31 : decode cX9_haulOfRow 31 = .ok (.iaload, 1) := by decide +kernel
theorem dX9_haulOfRow_32 : decode cX9_haulOfRow 32 = .ok (.iaload, 1) := by decide +kernel
theorem dX9_haulOfRow_33 : decode cX9_haulOfRow 33 = .ok (.if_icmp .ge 19, 3) := by decide +kernel
theorem dX9_haulOfRow_36 : decode cX9_haulOfRow 36 = .ok (.aload_n 0, 1) := by decide +kernel
theorem dX9_haulOfRow_37 : decode cX9_haulOfRow 37 = .ok (.getfield 80, 3) := by decide +kernel
theorem dX9_haulOfRow_40 : decode cX9_haulOfRow 40 = .ok (.aload_n 0, 1) := by decide +kernel
theorem dX9_haulOfRow_41 : decode cX9_haulOfRow 41 = .ok (.getfield 89, 3) := by decide +kernel
theorem dX9_haulOfRow_44 : decode cX9_haulOfRow 44 = .ok (.iload_n 3, 1) := by decide +kernel
theorem dX9_haulOfRow_45 : decode cX9_haulOfRow 45 = .ok (.iaload, 1) := by decide +kernel
theorem dX9_haulOfRow_46 : decode cX9_haulOfRow 46 = .ok (.iaload, 1) := by decide +kernel
theorem dX9_haulOfRow_47 : decode cX9_haulOfRow 47 = .ok (.iload_n 3, 1) := by decide +kernel
theorem dX9_haulOfRow_48 : decode cX9_haulOfRow 48 = .ok (.isub, 1) := by decide +kernel
theorem dX9_haulOfRow_49 : decode cX9_haulOfRow 49 = .ok (.goto 16, 3) := by decide +kernel
theorem dX9_haulOfRow_52 : decode cX9_haulOfRow 52 = .ok (.iload_n 3, 1) := by decide +kernel
theorem dX9_haulOfRow_53 : decode cX9_haulOfRow 53 = .ok (.aload_n 0, 1) := by decide +kernel
theorem dX9_haulOfRow_54 : decode cX9_haulOfRow 54 = .ok (.getfield 80, 3) := by decide +kernel
theorem dX9_haulOfRow_57 : decode cX9_haulOfRow 57 = .ok (.aload_n 0, 1) := by decide +kernel
theorem dX9_haulOfRow_58 : decode cX9_haulOfRow 58 = .ok (.getfield 89, 3) := by decide +kernel
theorem dX9_haulOfRow_61 : decode cX9_haulOfRow 61 = .ok (.iload_n 3, 1) := by decide +kernel
theorem dX9_haulOfRow_62 : decode cX9_haulOfRow 62 = .ok (.iaload, 1) := by decide +kernel
theorem dX9_haulOfRow_63 : decode cX9_haulOfRow 63 = .ok (.iaload, 1) := by decide +kernel
theorem dX9_haulOfRow_64 : decode cX9_haulOfRow 64 = .ok (.isub, 1) := by decide +kernel
theorem dX9_haulOfRow_65 : decode cX9_haulOfRow 65 = .ok (.istore 4, 2) := by decide +kernel
theorem dX9_haulOfRow_67 : decode cX9_haulOfRow 67 = .ok (.aload_n 0, 1) := by decide +kernel
theorem dX9_haulOfRow_68 : decode cX9_haulOfRow 68 = .ok (.getfield 52, 3) := by decide +kernel
theorem dX9_haulOfRow_71 : decode cX9_haulOfRow 71 = .ok (.aload_n 0, 1) := by decide +kernel
theorem dX9_haulOfRow_72 : decode cX9_haulOfRow 72 = .ok (.getfield 248, 3) := by decide +kernel
theorem dX9_haulOfRow_75 : decode cX9_haulOfRow 75 = .ok (.baload, 1) := by decide +kernel
theorem dX9_haulOfRow_76 : decode cX9_haulOfRow 76 = .ok (.ifCond .ne 12, 3) := by decide +kernel
theorem dX9_haulOfRow_79 : decode cX9_haulOfRow 79 = .ok (.iload_n 1, 1) := by decide +kernel
theorem dX9_haulOfRow_80 : decode cX9_haulOfRow 80 = .ok (.iload 4, 2) := by decide +kernel
theorem dX9_haulOfRow_82 : decode cX9_haulOfRow 82 = .ok (.isub, 1) := by decide +kernel
theorem dX9_haulOfRow_83 : decode cX9_haulOfRow 83 = .ok (.iload 4, 2) := by decide +kernel
theorem dX9_haulOfRow_85 : decode cX9_haulOfRow 85 = .ok (.if_icmp .le 8, 3) := by decide +kernel
theorem dX9_haulOfRow_88 : decode cX9_haulOfRow 88 = .ok (.iload 4, 2) := by decide +kernel
theorem dX9_haulOfRow_90 : decode cX9_haulOfRow 90 = .ok (.goto 7, 3) := by decide +kernel
theorem dX9_haulOfRow_93 : decode cX9_haulOfRow 93 = .ok (.iload_n 1, 1) := by decide +kernel
theorem dX9_haulOfRow_94 : decode cX9_haulOfRow 94 = .ok (.iload 4, 2) := by decide +kernel
theorem dX9_haulOfRow_96 : decode cX9_haulOfRow 96 = .ok (.isub, 1) := by decide +kernel
theorem dX9_haulOfRow_97 : decode cX9_haulOfRow 97 = .ok (.istore 5, 2) := by decide +kernel
theorem dX9_haulOfRow_99 : decode cX9_haulOfRow 99 = .ok (.iload_n 2, 1) := by decide +kernel
theorem dX9_haulOfRow_100 : decode cX9_haulOfRow 100 = .ok (.aload_n 0, 1) := by decide +kernel
theorem dX9_haulOfRow_101 : decode cX9_haulOfRow 101 = .ok (.aload_n 0, 1) := by decide +kernel
theorem dX9_haulOfRow_102 : decode cX9_haulOfRow 102 = .ok (.getfield 89, 3) := by decide +kernel
theorem dX9_haulOfRow_105 : decode cX9_haulOfRow 105 = .ok (.iload_n 3, 1) := by decide +kernel
theorem dX9_haulOfRow_106 : decode cX9_haulOfRow 106 = .ok (.iaload, 1) := by decide +kernel
theorem dX9_haulOfRow_107 : decode cX9_haulOfRow 107 = .ok (.invokevirtual 326, 3) := by decide +kernel
theorem dX9_haulOfRow_110 : decode cX9_haulOfRow 110 = .ok (.iload 5, 2) := by decide +kernel
theorem dX9_haulOfRow_112 : decode cX9_haulOfRow 112 = .ok (.imul, 1) := by decide +kernel
theorem dX9_haulOfRow_113 : decode cX9_haulOfRow 113 = .ok (.iadd, 1) := by decide +kernel
theorem dX9_haulOfRow_114 : decode cX9_haulOfRow 114 = .ok (.istore_n 2, 1) := by decide +kernel
theorem dX9_haulOfRow_115 : decode cX9_haulOfRow 115 = .ok (.iinc 3 1, 3) := by decide +kernel
theorem dX9_haulOfRow_118 : decode cX9_haulOfRow 118 = .ok (.goto (-109), 3) := by decide +kernel
theorem dX9_haulOfRow_121 : decode cX9_haulOfRow 121 = .ok (.iload_n 2, 1) := by decide +kernel
theorem dX9_haulOfRow_122 : decode cX9_haulOfRow 122 = .ok (.ireturn, 1) := by decide +kernel
theorem dX9_here_0 : decode cX9_here 0 = .ok (.iconst 0, 1) := by decide +kernel
theorem dX9_here_1 : decode cX9_here 1 = .ok (.istore_n 1, 1) := by decide +kernel
theorem dX9_here_2 : decode cX9_here 2 = .ok (.iload_n 1, 1) := by decide +kernel
theorem dX9_here_3 : decode cX9_here 3 = .ok (.aload_n 0, 1) := by decide +kernel
theorem dX9_here_4 : decode cX9_here 4 = .ok (.getfield 20, 3) := by decide +kernel
theorem dX9_here_7 : decode cX9_here 7 = .ok (.aload_n 0, 1) := by decide +kernel
theorem dX9_here_8 : decode cX9_here 8 = .ok (.getfield 239, 3) := by decide +kernel
theorem dX9_here_11 : decode cX9_here 11 = .ok (.iaload, 1) := by decide +kernel
theorem dX9_here_12 : decode cX9_here 12 = .ok (.if_icmp .ge 41, 3) := by decide +kernel
theorem dX9_here_15 : decode cX9_here 15 = .ok (.aload_n 0, 1) := by decide +kernel
theorem dX9_here_16 : decode cX9_here 16 = .ok (.getfield 201, 3) := by decide +kernel
theorem dX9_here_19 : decode cX9_here 19 = .ok (.iconst 2, 1) := by decide +kernel
theorem dX9_here_20 : decode cX9_here 20 = .ok (.if_icmp .ne 27, 3) := by decide +kernel
theorem dX9_here_23 : decode cX9_here 23 = .ok (.aload_n 0, 1) := by decide +kernel
theorem dX9_here_24 : decode cX9_here 24 = .ok (.getfield 58, 3) := by decide +kernel
theorem dX9_here_27 : decode cX9_here 27 = .ok (.bipush 9, 2) := by decide +kernel
theorem dX9_here_29 : decode cX9_here 29 = .ok (.aload_n 0, 1) := by decide +kernel
theorem dX9_here_30 : decode cX9_here 30 = .ok (.getfield 239, 3) := by decide +kernel
theorem dX9_here_33 : decode cX9_here 33 = .ok (.imul, 1) := by decide +kernel
theorem dX9_here_34 : decode cX9_here 34 = .ok (.iload_n 1, 1) := by decide +kernel
theorem dX9_here_35 : decode cX9_here 35 = .ok (.iadd, 1) := by decide +kernel
theorem dX9_here_36 : decode cX9_here 36 = .ok (.laload, 1) := by decide +kernel
theorem dX9_here_37 : decode cX9_here 37 = .ok (.aload_n 0, 1) := by decide +kernel
theorem dX9_here_38 : decode cX9_here 38 = .ok (.getfield 208, 3) := by decide +kernel
theorem dX9_here_41 : decode cX9_here 41 = .ok (.lcmp, 1) := by decide +kernel
theorem dX9_here_42 : decode cX9_here 42 = .ok (.ifCond .ne 5, 3) := by decide +kernel
theorem dX9_here_45 : decode cX9_here 45 = .ok (.iload_n 1, 1) := by decide +kernel
theorem dX9_here_46 : decode cX9_here 46 = .ok (.ireturn, 1) := by decide +kernel
theorem dX9_here_47 : decode cX9_here 47 = .ok (.iinc 1 1, 3) := by decide +kernel
theorem dX9_here_50 : decode cX9_here 50 = .ok (.goto (-48), 3) := by decide +kernel
theorem dX9_here_53 : decode cX9_here 53 = .ok (.iconst (-1), 1) := by decide +kernel
theorem dX9_here_54 : decode cX9_here 54 = .ok (.ireturn, 1) := by decide +kernel
theorem dX9_hush_0 : decode cX9_hush 0 = .ok (.aload_n 0, 1) := by decide +kernel
theorem dX9_hush_1 : decode cX9_hush 1 = .ok (.getfield 355, 3) := by decide +kernel
theorem dX9_hush_4 : decode cX9_hush 4 = .ok (.istore_n 1, 1) := by decide +kernel
theorem dX9_hush_5 : decode cX9_hush 5 = .ok (.aload_n 0, 1) := by decide +kernel
theorem dX9_hush_6 : decode cX9_hush 6 = .ok (.iconst 0, 1) := by decide +kernel
theorem dX9_hush_7 : decode cX9_hush 7 = .ok (.putfield 355, 3) := by decide +kernel
theorem dX9_hush_10 : decode cX9_hush 10 = .ok (.iload_n 1, 1) := by decide +kernel
theorem dX9_hush_11 : decode cX9_hush 11 = .ok (.ireturn, 1) := by decide +kernel
theorem dX9_image_0 : decode cX9_image 0 = .ok (.iload_n 1, 1) := by decide +kernel
theorem dX9_image_1 : decode cX9_image 1 = .ok (.iconst 0, 1) := by decide +kernel
theorem dX9_image_2 : decode cX9_image 2 = .ok (.iconst 2, 1) := by decide +kernel
theorem dX9_image_3 : decode cX9_image 3 = .ok (.invokestatic 361, 3) := by decide +kernel
theorem dX9_image_6 : decode cX9_image 6 = .ok (.ifCond .ne 5, 3) := by decide +kernel
theorem dX9_image_9 : decode cX9_image 9 = .ok (.iconst (-1), 1) := by decide +kernel
theorem dX9_image_10 : decode cX9_image 10 = .ok (.ireturn, 1) := by decide +kernel
theorem dX9_image_11 : decode cX9_image 11 = .ok (.aload_n 0, 1) := by decide +kernel
theorem dX9_image_12 : decode cX9_image 12 = .ok (.getfield 131, 3) := by decide +kernel
theorem dX9_image_15 : decode cX9_image 15 = .ok (.iload_n 1, 1) := by decide +kernel
theorem dX9_image_16 : decode cX9_image 16 = .ok (.aload_n 0, 1) := by decide +kernel
theorem dX9_image_17 : decode cX9_image 17 = .ok (.getfield 335, 3) := by decide +kernel
theorem dX9_image_20 : decode cX9_image 20 = .ok (.iastore, 1) := by decide +kernel
theorem dX9_image_21 : decode cX9_image 21 = .ok (.aload_n 0, 1) := by decide +kernel
theorem dX9_image_22 : decode cX9_image 22 = .ok (.getfield 134, 3) := by decide +kernel
theorem dX9_image_25 : decode cX9_image 25 = .ok (.iload_n 1, 1) := by decide +kernel
theorem dX9_image_26 : decode cX9_image 26 = .ok (.aload_n 0, 1) := by decide +kernel
theorem dX9_image_27 : decode cX9_image 27 = .ok (.getfield 345, 3) := by decide +kernel
theorem dX9_image_30 : decode cX9_image 30 = .ok (.iastore, 1) := by decide +kernel
theorem dX9_image_31 : decode cX9_image 31 = .ok (.aload_n 0, 1) := by decide +kernel
theorem dX9_image_32 : decode cX9_image 32 = .ok (.getfield 137, 3) := by decide +kernel
theorem dX9_image_35 : decode cX9_image 35 = .ok (.iload_n 1, 1) := by decide +kernel
theorem dX9_image_36 : decode cX9_image 36 = .ok (.aload_n 0, 1) := by decide +kernel
theorem dX9_image_37 : decode cX9_image 37 = .ok (.getfield 86, 3) := by decide +kernel
theorem dX9_image_40 : decode cX9_image 40 = .ok (.iastore, 1) := by decide +kernel
theorem dX9_image_41 : decode cX9_image 41 = .ok (.aload_n 0, 1) := by decide +kernel
theorem dX9_image_42 : decode cX9_image 42 = .ok (.getfield 146, 3) := by decide +kernel
theorem dX9_image_45 : decode cX9_image 45 = .ok (.iload_n 1, 1) := by decide +kernel
theorem dX9_image_46 : decode cX9_image 46 = .ok (.aload_n 0, 1) := by decide +kernel
theorem dX9_image_47 : decode cX9_image 47 = .ok (.getfield 348, 3) := by decide +kernel
theorem dX9_image_50 : decode cX9_image 50 = .ok (.bastore, 1) := by decide +kernel
theorem dX9_image_51 : decode cX9_image 51 = .ok (.iconst 0, 1) := by decide +kernel
theorem dX9_image_52 : decode cX9_image 52 = .ok (.istore_n 2, 1) := by decide +kernel
theorem dX9_image_53 : decode cX9_image 53 = .ok (.iload_n 2, 1) := by decide +kernel
theorem dX9_image_54 : decode cX9_image 54 = .ok (.bipush 81, 2) := by decide +kernel
theorem dX9_image_56 : decode cX9_image 56 = .ok (.if_icmp .ge 26, 3) := by decide +kernel
theorem dX9_image_59 : decode cX9_image 59 = .ok (.aload_n 0, 1) := by decide +kernel
theorem dX9_image_60 : decode cX9_image 60 = .ok (.getfield 140, 3) := by decide +kernel
theorem dX9_image_63 : decode cX9_image 63 = .ok (.bipush 81, 2) := by decide +kernel
theorem dX9_image_65 : decode cX9_image 65 = .ok (.iload_n 1, 1) := by decide +kernel
theorem dX9_image_66 : decode cX9_image 66 = .ok (.imul, 1) := by decide +kernel
theorem dX9_image_67 : decode cX9_image 67 = .ok (.iload_n 2, 1) := by decide +kernel
theorem dX9_image_68 : decode cX9_image 68 = .ok (.iadd, 1) := by decide +kernel
theorem dX9_image_69 : decode cX9_image 69 = .ok (.aload_n 0, 1) := by decide +kernel
theorem dX9_image_70 : decode cX9_image 70 = .ok (.getfield 77, 3) := by decide +kernel
theorem dX9_image_73 : decode cX9_image 73 = .ok (.iload_n 2, 1) := by decide +kernel
theorem dX9_image_74 : decode cX9_image 74 = .ok (.iaload, 1) := by decide +kernel
theorem dX9_image_75 : decode cX9_image 75 = .ok (.iastore, 1) := by decide +kernel
theorem dX9_image_76 : decode cX9_image 76 = .ok (.iinc 2 1, 3) := by decide +kernel
theorem dX9_image_79 : decode cX9_image 79 = .ok (.goto (-26), 3) := by decide +kernel
theorem dX9_image_82 : decode cX9_image 82 = .ok (.iconst 0, 1) := by decide +kernel
theorem dX9_image_83 : decode cX9_image 83 = .ok (.istore_n 2, 1) := by decide +kernel
theorem dX9_image_84 : decode cX9_image 84 = .ok (.iload_n 2, 1) := by decide +kernel
theorem dX9_image_85 : decode cX9_image 85 = .ok (.bipush 9, 2) := by decide +kernel
theorem dX9_image_87 : decode cX9_image 87 = .ok (.if_icmp .ge 26, 3) := by decide +kernel
theorem dX9_image_90 : decode cX9_image 90 = .ok (.aload_n 0, 1) := by decide +kernel
theorem dX9_image_91 : decode cX9_image 91 = .ok (.getfield 143, 3) := by decide +kernel
theorem dX9_image_94 : decode cX9_image 94 = .ok (.bipush 9, 2) := by decide +kernel
theorem dX9_image_96 : decode cX9_image 96 = .ok (.iload_n 1, 1) := by decide +kernel
theorem dX9_image_97 : decode cX9_image 97 = .ok (.imul, 1) := by decide +kernel
theorem dX9_image_98 : decode cX9_image 98 = .ok (.iload_n 2, 1) := by decide +kernel
theorem dX9_image_99 : decode cX9_image 99 = .ok (.iadd, 1) := by decide +kernel
theorem dX9_image_100 : decode cX9_image 100 = .ok (.aload_n 0, 1) := by decide +kernel
theorem dX9_image_101 : decode cX9_image 101 = .ok (.getfield 80, 3) := by decide +kernel
theorem dX9_image_104 : decode cX9_image 104 = .ok (.iload_n 2, 1) := by decide +kernel
theorem dX9_image_105 : decode cX9_image 105 = .ok (.iaload, 1) := by decide +kernel
theorem dX9_image_106 : decode cX9_image 106 = .ok (.iastore, 1) := by decide +kernel
theorem dX9_image_107 : decode cX9_image 107 = .ok (.iinc 2 1, 3) := by decide +kernel
theorem dX9_image_110 : decode cX9_image 110 = .ok (.goto (-26), 3) := by decide +kernel
theorem dX9_image_113 : decode cX9_image 113 = .ok (.aload_n 0, 1) := by decide +kernel
theorem dX9_image_114 : decode cX9_image 114 = .ok (.getfield 335, 3) := by decide +kernel
theorem dX9_image_117 : decode cX9_image 117 = .ok (.ireturn, 1) := by decide +kernel
theorem dX9_isBehind_0 : decode cX9_isBehind 0 = .ok (.aload_n 0, 1) := by decide +kernel
theorem dX9_isBehind_1 : decode cX9_isBehind 1 = .ok (.getfield 48, 3) := by decide +kernel
theorem dX9_isBehind_4 : decode cX9_isBehind 4 = .ok (.aload_n 0, 1) := by decide +kernel
theorem dX9_isBehind_5 : decode cX9_isBehind 5 = .ok (.getfield 239, 3) := by decide +kernel
theorem dX9_isBehind_8 : decode cX9_isBehind 8 = .ok (.baload, 1) := by decide +kernel
theorem dX9_isBehind_9 : decode cX9_isBehind 9 = .ok (.ifCond .ne 51, 3) := by decide +kernel
theorem dX9_isBehind_12 : decode cX9_isBehind 12 = .ok (.aload_n 0, 1) := by decide +kernel
theorem dX9_isBehind_13 : decode cX9_isBehind 13 = .ok (.getfield 52, 3) := by decide +kernel
theorem dX9_isBehind_16 : decode cX9_isBehind 16 = .ok (.aload_n 0, 1) := by decide +kernel
theorem dX9_isBehind_17 : decode cX9_isBehind 17 = .ok (.getfield 239, 3) := by decide +kernel
theorem dX9_isBehind_20 : decode cX9_isBehind 20 = .ok (.baload, 1) := by decide +kernel
theorem dX9_isBehind_21 : decode cX9_isBehind 21 = .ok (.ifCond .ne 39, 3) := by decide +kernel
theorem dX9_isBehind_24 : decode cX9_isBehind 24 = .ok (.aload_n 0, 1) := by decide +kernel
theorem dX9_isBehind_25 : decode cX9_isBehind 25 = .ok (.getfield 55, 3) := by decide +kernel
theorem dX9_isBehind_28 : decode cX9_isBehind 28 = .ok (.aload_n 0, 1) := by decide +kernel
theorem dX9_isBehind_29 : decode cX9_isBehind 29 = .ok (.getfield 239, 3) := by decide +kernel
theorem dX9_isBehind_32 : decode cX9_isBehind 32 = .ok (.baload, 1) := by decide +kernel
theorem dX9_isBehind_33 : decode cX9_isBehind 33 = .ok (.ifCond .ne 27, 3) := by decide +kernel
theorem dX9_isBehind_36 : decode cX9_isBehind 36 = .ok (.aload_n 0, 1) := by decide +kernel
theorem dX9_isBehind_37 : decode cX9_isBehind 37 = .ok (.getfield 24, 3) := by decide +kernel
theorem dX9_isBehind_40 : decode cX9_isBehind 40 = .ok (.aload_n 0, 1) := by decide +kernel
theorem dX9_isBehind_41 : decode cX9_isBehind 41 = .ok (.getfield 239, 3) := by decide +kernel
theorem dX9_isBehind_44 : decode cX9_isBehind 44 = .ok (.iaload, 1) := by decide +kernel
theorem dX9_isBehind_45 : decode cX9_isBehind 45 = .ok (.ifCond .gt 15, 3) := by decide +kernel
theorem dX9_isBehind_48 : decode cX9_isBehind 48 = .ok (.aload_n 0, 1) := by decide +kernel
theorem dX9_isBehind_49 : decode cX9_isBehind 49 = .ok (.getfield 27, 3) := by decide +kernel
theorem dX9_isBehind_52 : decode cX9_isBehind 52 = .ok (.aload_n 0, 1) := by decide +kernel
theorem dX9_isBehind_53 : decode cX9_isBehind 53 = .ok (.getfield 239, 3) := by decide +kernel
theorem dX9_isBehind_56 : decode cX9_isBehind 56 = .ok (.iaload, 1) := by decide +kernel
theorem dX9_isBehind_57 : decode cX9_isBehind 57 = .ok (.ifCond .le 7, 3) := by decide +kernel
theorem dX9_isBehind_60 : decode cX9_isBehind 60 = .ok (.iconst 1, 1) := by decide +kernel
theorem dX9_isBehind_61 : decode cX9_isBehind 61 = .ok (.goto 4, 3) := by decide +kernel
theorem dX9_isBehind_64 : decode cX9_isBehind 64 = .ok (.iconst 0, 1) := by decide +kernel
theorem dX9_isBehind_65 : decode cX9_isBehind 65 = .ok (.ireturn, 1) := by decide +kernel
theorem dX9_isCompared_0 : decode cX9_isCompared 0 = .ok (.aload_n 0, 1) := by decide +kernel
theorem dX9_isCompared_1 : decode cX9_isCompared 1 = .ok (.getfield 299, 3) := by decide +kernel
theorem dX9_isCompared_4 : decode cX9_isCompared 4 = .ok (.iconst 1, 1) := by decide +kernel
theorem dX9_isCompared_5 : decode cX9_isCompared 5 = .ok (.isub, 1) := by decide +kernel
theorem dX9_isCompared_6 : decode cX9_isCompared 6 = .ok (.istore_n 1, 1) := by decide +kernel
theorem dX9_isCompared_7 : decode cX9_isCompared 7 = .ok (.aload_n 0, 1) := by decide +kernel
theorem dX9_isCompared_8 : decode cX9_isCompared 8 = .ok (.getfield 68, 3) := by decide +kernel
theorem dX9_isCompared_11 : decode cX9_isCompared 11 = .ok (.iload_n 1, 1) := by decide +kernel
theorem dX9_isCompared_12 : decode cX9_isCompared 12 = .ok (.iaload, 1) := by decide +kernel
theorem dX9_isCompared_13 : decode cX9_isCompared 13 = .ok (.iconst 5, 1) := by decide +kernel
theorem dX9_isCompared_14 : decode cX9_isCompared 14 = .ok (.if_icmp .eq 14, 3) := by decide +kernel
theorem dX9_isCompared_17 : decode cX9_isCompared 17 = .ok (.aload_n 0, 1) := by decide +kernel
theorem dX9_isCompared_18 : decode cX9_isCompared 18 = .ok (.getfield 68, 3) := by decide +kernel
theorem dX9_isCompared_21 : decode cX9_isCompared 21 = .ok (.iload_n 1, 1) := by decide +kernel
theorem dX9_isCompared_22 : decode cX9_isCompared 22 = .ok (.iaload, 1) := by decide +kernel
theorem dX9_isCompared_23 : decode cX9_isCompared 23 = .ok (.bipush 6, 2) := by decide +kernel
theorem dX9_isCompared_25 : decode cX9_isCompared 25 = .ok (.if_icmp .ne 9, 3) := by decide +kernel
theorem dX9_isCompared_28 : decode cX9_isCompared 28 = .ok (.iinc 1 (-1), 3) := by decide +kernel
theorem dX9_isCompared_31 : decode cX9_isCompared 31 = .ok (.goto (-24), 3) := by decide +kernel
theorem dX9_isCompared_34 : decode cX9_isCompared 34 = .ok (.aload_n 0, 1) := by decide +kernel
theorem dX9_isCompared_35 : decode cX9_isCompared 35 = .ok (.getfield 68, 3) := by decide +kernel
theorem dX9_isCompared_38 : decode cX9_isCompared 38 = .ok (.iload_n 1, 1) := by decide +kernel
theorem dX9_isCompared_39 : decode cX9_isCompared 39 = .ok (.iaload, 1) := by decide +kernel
theorem dX9_isCompared_40 : decode cX9_isCompared 40 = .ok (.iconst 4, 1) := by decide +kernel
theorem dX9_isCompared_41 : decode cX9_isCompared 41 = .ok (.if_icmp .ne 7, 3) := by decide +kernel
theorem dX9_isCompared_44 : decode cX9_isCompared 44 = .ok (.iconst 1, 1) := by decide +kernel
theorem dX9_isCompared_45 : decode cX9_isCompared 45 = .ok (.goto 4, 3) := by decide +kernel
theorem dX9_isCompared_48 : decode cX9_isCompared 48 = .ok (.iconst 0, 1) := by decide +kernel
theorem dX9_isCompared_49 : decode cX9_isCompared 49 = .ok (.ireturn, 1) := by decide +kernel
theorem dX9_isDigit_0 : decode cX9_isDigit 0 = .ok (.iload_n 0, 1) := by decide +kernel
theorem dX9_isDigit_1 : decode cX9_isDigit 1 = .ok (.bipush 48, 2) := by decide +kernel
theorem dX9_isDigit_3 : decode cX9_isDigit 3 = .ok (.if_icmp .lt 13, 3) := by decide +kernel
theorem dX9_isDigit_6 : decode cX9_isDigit 6 = .ok (.iload_n 0, 1) := by decide +kernel
theorem dX9_isDigit_7 : decode cX9_isDigit 7 = .ok (.bipush 57, 2) := by decide +kernel
theorem dX9_isDigit_9 : decode cX9_isDigit 9 = .ok (.if_icmp .gt 7, 3) := by decide +kernel
theorem dX9_isDigit_12 : decode cX9_isDigit 12 = .ok (.iconst 1, 1) := by decide +kernel
theorem dX9_isDigit_13 : decode cX9_isDigit 13 = .ok (.goto 4, 3) := by decide +kernel
theorem dX9_isDigit_16 : decode cX9_isDigit 16 = .ok (.iconst 0, 1) := by decide +kernel
theorem dX9_isDigit_17 : decode cX9_isDigit 17 = .ok (.ireturn, 1) := by decide +kernel
theorem dX9_isFull_0 : decode cX9_isFull 0 = .ok (.aload_n 0, 1) := by decide +kernel
theorem dX9_isFull_1 : decode cX9_isFull 1 = .ok (.ldc2_w 161, 3) := by decide +kernel
theorem dX9_isFull_4 : decode cX9_isFull 4 = .ok (.invokevirtual 257, 3) := by decide +kernel
theorem dX9_isFull_7 : decode cX9_isFull 7 = .ok (.ifCond .eq 30, 3) := by decide +kernel
theorem dX9_isFull_10 : decode cX9_isFull 10 = .ok (.aload_n 0, 1) := by decide +kernel
theorem dX9_isFull_11 : decode cX9_isFull 11 = .ok (.getfield 20, 3) := by decide +kernel
theorem dX9_isFull_14 : decode cX9_isFull 14 = .ok (.aload_n 0, 1) := by decide +kernel
theorem dX9_isFull_15 : decode cX9_isFull 15 = .ok (.getfield 239, 3) := by decide +kernel
theorem dX9_isFull_18 : decode cX9_isFull 18 = .ok (.iaload, 1) := by decide +kernel
theorem dX9_isFull_19 : decode cX9_isFull 19 = .ok (.bipush 9, 2) := by decide +kernel
theorem dX9_isFull_21 : decode cX9_isFull 21 = .ok (.if_icmp .eq 10, 3) := by decide +kernel
theorem dX9_isFull_24 : decode cX9_isFull 24 = .ok (.aload_n 0, 1) := by decide +kernel
theorem dX9_isFull_25 : decode cX9_isFull 25 = .ok (.invokevirtual 260, 3) := by decide +kernel
theorem dX9_isFull_28 : decode cX9_isFull 28 = .ok (.ifCond .eq 7, 3) := by decide +kernel
theorem dX9_isFull_31 : decode cX9_isFull 31 = .ok (.iconst 1, 1) := by decide +kernel
theorem dX9_isFull_32 : decode cX9_isFull 32 = .ok (.goto 4, 3) := by decide +kernel
theorem dX9_isFull_35 : decode cX9_isFull 35 = .ok (.iconst 0, 1) := by decide +kernel
theorem dX9_isFull_36 : decode cX9_isFull 36 = .ok (.ireturn, 1) := by decide +kernel
theorem dX9_isFull_37 : decode cX9_isFull 37 = .ok (.aload_n 0, 1) := by decide +kernel
theorem dX9_isFull_38 : decode cX9_isFull 38 = .ok (.ldc2_w 165, 3) := by decide +kernel
theorem dX9_isFull_41 : decode cX9_isFull 41 = .ok (.invokevirtual 257, 3) := by decide +kernel
theorem dX9_isFull_44 : decode cX9_isFull 44 = .ok (.ifCond .eq 13, 3) := by decide +kernel
theorem dX9_isFull_47 : decode cX9_isFull 47 = .ok (.aload_n 0, 1) := by decide +kernel
theorem dX9_isFull_48 : decode cX9_isFull 48 = .ok (.getfield 48, 3) := by decide +kernel
theorem dX9_isFull_51 : decode cX9_isFull 51 = .ok (.aload_n 0, 1) := by decide +kernel
theorem dX9_isFull_52 : decode cX9_isFull 52 = .ok (.getfield 239, 3) := by decide +kernel
theorem dX9_isFull_55 : decode cX9_isFull 55 = .ok (.baload, 1) := by decide +kernel
theorem dX9_isFull_56 : decode cX9_isFull 56 = .ok (.ireturn, 1) := by decide +kernel
theorem dX9_isFull_57 : decode cX9_isFull 57 = .ok (.aload_n 0, 1) := by decide +kernel
theorem dX9_isFull_58 : decode cX9_isFull 58 = .ok (.ldc2_w 167, 3) := by decide +kernel
theorem dX9_isFull_61 : decode cX9_isFull 61 = .ok (.invokevirtual 257, 3) := by decide +kernel
theorem dX9_isFull_64 : decode cX9_isFull 64 = .ok (.ifCond .eq 23, 3) := by decide +kernel
theorem dX9_isFull_67 : decode cX9_isFull 67 = .ok (.aload_n 0, 1) := by decide +kernel
theorem dX9_isFull_68 : decode cX9_isFull 68 = .ok (.getfield 24, 3) := by decide +kernel
theorem dX9_isFull_71 : decode cX9_isFull 71 = .ok (.aload_n 0, 1) := by decide +kernel
theorem dX9_isFull_72 : decode cX9_isFull 72 = .ok (.getfield 239, 3) := by decide +kernel
theorem dX9_isFull_75 : decode cX9_isFull 75 = .ok (.iaload, 1) := by decide +kernel
theorem dX9_isFull_76 : decode cX9_isFull 76 = .ok (.bipush 20, 2) := by decide +kernel
theorem dX9_isFull_78 : decode cX9_isFull 78 = .ok (.if_icmp .ne 7, 3) := by decide +kernel
theorem dX9_isFull_81 : decode cX9_isFull 81 = .ok (.iconst 1, 1) := by decide +kernel
theorem dX9_isFull_82 : decode cX9_isFull 82 = .ok (.goto 4, 3) := by decide +kernel
theorem dX9_isFull_85 : decode cX9_isFull 85 = .ok (.iconst 0, 1) := by decide +kernel
theorem dX9_isFull_86 : decode cX9_isFull 86 = .ok (.ireturn, 1) := by decide +kernel
theorem dX9_isFull_87 : decode cX9_isFull 87 = .ok (.aload_n 0, 1) := by decide +kernel
theorem dX9_isFull_88 : decode cX9_isFull 88 = .ok (.ldc2_w 169, 3) := by decide +kernel
theorem dX9_isFull_91 : decode cX9_isFull 91 = .ok (.invokevirtual 257, 3) := by decide +kernel
theorem dX9_isFull_94 : decode cX9_isFull 94 = .ok (.ifCond .eq 23, 3) := by decide +kernel
theorem dX9_isFull_97 : decode cX9_isFull 97 = .ok (.aload_n 0, 1) := by decide +kernel
theorem dX9_isFull_98 : decode cX9_isFull 98 = .ok (.getfield 27, 3) := by decide +kernel
theorem dX9_isFull_101 : decode cX9_isFull 101 = .ok (.aload_n 0, 1) := by decide +kernel
theorem dX9_isFull_102 : decode cX9_isFull 102 = .ok (.getfield 239, 3) := by decide +kernel
theorem dX9_isFull_105 : decode cX9_isFull 105 = .ok (.iaload, 1) := by decide +kernel
theorem dX9_isFull_106 : decode cX9_isFull 106 = .ok (.bipush 20, 2) := by decide +kernel
theorem dX9_isFull_108 : decode cX9_isFull 108 = .ok (.if_icmp .ne 7, 3) := by decide +kernel
theorem dX9_isFull_111 : decode cX9_isFull 111 = .ok (.iconst 1, 1) := by decide +kernel
theorem dX9_isFull_112 : decode cX9_isFull 112 = .ok (.goto 4, 3) := by decide +kernel
theorem dX9_isFull_115 : decode cX9_isFull 115 = .ok (.iconst 0, 1) := by decide +kernel
theorem dX9_isFull_116 : decode cX9_isFull 116 = .ok (.ireturn, 1) := by decide +kernel
theorem dX9_isFull_117 : decode cX9_isFull 117 = .ok (.aload_n 0, 1) := by decide +kernel
theorem dX9_isFull_118 : decode cX9_isFull 118 = .ok (.ldc2_w 173, 3) := by decide +kernel
theorem dX9_isFull_121 : decode cX9_isFull 121 = .ok (.invokevirtual 257, 3) := by decide +kernel
theorem dX9_isFull_124 : decode cX9_isFull 124 = .ok (.ifCond .eq 13, 3) := by decide +kernel
theorem dX9_isFull_127 : decode cX9_isFull 127 = .ok (.aload_n 0, 1) := by decide +kernel
theorem dX9_isFull_128 : decode cX9_isFull 128 = .ok (.getfield 52, 3) := by decide +kernel
theorem dX9_isFull_131 : decode cX9_isFull 131 = .ok (.aload_n 0, 1) := by decide +kernel
theorem dX9_isFull_132 : decode cX9_isFull 132 = .ok (.getfield 239, 3) := by decide +kernel
theorem dX9_isFull_135 : decode cX9_isFull 135 = .ok (.baload, 1) := by decide +kernel
theorem dX9_isFull_136 : decode cX9_isFull 136 = .ok (.ireturn, 1) := by decide +kernel
theorem dX9_isFull_137 : decode cX9_isFull 137 = .ok (.aload_n 0, 1) := by decide +kernel
theorem dX9_isFull_138 : decode cX9_isFull 138 = .ok (.ldc2_w 175, 3) := by decide +kernel
theorem dX9_isFull_141 : decode cX9_isFull 141 = .ok (.invokevirtual 257, 3) := by decide +kernel
theorem dX9_isFull_144 : decode cX9_isFull 144 = .ok (.ifCond .eq 15, 3) := by decide +kernel
theorem dX9_isFull_147 : decode cX9_isFull 147 = .ok (.aload_n 0, 1) := by decide +kernel
theorem dX9_isFull_148 : decode cX9_isFull 148 = .ok (.getfield 55, 3) := by decide +kernel
theorem dX9_isFull_151 : decode cX9_isFull 151 = .ok (.aload_n 0, 1) := by decide +kernel
theorem dX9_isFull_152 : decode cX9_isFull 152 = .ok (.getfield 239, 3) := by decide +kernel
theorem dX9_isFull_155 : decode cX9_isFull 155 = .ok (.baload, 1) := by decide +kernel
theorem dX9_isFull_156 : decode cX9_isFull 156 = .ok (.ifCond .eq 7, 3) := by decide +kernel
theorem dX9_isFull_159 : decode cX9_isFull 159 = .ok (.iconst 1, 1) := by decide +kernel
theorem dX9_isFull_160 : decode cX9_isFull 160 = .ok (.goto 4, 3) := by decide +kernel
theorem dX9_isFull_163 : decode cX9_isFull 163 = .ok (.iconst 0, 1) := by decide +kernel
theorem dX9_isFull_164 : decode cX9_isFull 164 = .ok (.ireturn, 1) := by decide +kernel
theorem dX9_isGood_0 : decode cX9_isGood 0 = .ok (.aload_n 0, 1) := by decide +kernel
theorem dX9_isGood_1 : decode cX9_isGood 1 = .ok (.getfield 158, 3) := by decide +kernel
theorem dX9_isGood_4 : decode cX9_isGood 4 = .ok (.ifCond .ne 7, 3) := by decide +kernel
theorem dX9_isGood_7 : decode cX9_isGood 7 = .ok (.iconst 1, 1) := by decide +kernel
theorem dX9_isGood_8 : decode cX9_isGood 8 = .ok (.goto 4, 3) := by decide +kernel
theorem dX9_isGood_11 : decode cX9_isGood 11 = .ok (.iconst 0, 1) := by decide +kernel
theorem dX9_isGood_12 : decode cX9_isGood 12 = .ok (.ireturn, 1) := by decide +kernel
theorem dX9_isHouse_0 : decode cX9_isHouse 0 = .ok (.iload_n 1, 1) := by decide +kernel
theorem dX9_isHouse_1 : decode cX9_isHouse 1 = .ok (.iconst 0, 1) := by decide +kernel
theorem dX9_isHouse_2 : decode cX9_isHouse 2 = .ok (.aload_n 0, 1) := by decide +kernel
theorem dX9_isHouse_3 : decode cX9_isHouse 3 = .ok (.getfield 20, 3) := by decide +kernel
theorem dX9_isHouse_6 : decode cX9_isHouse 6 = .ok (.aload_n 0, 1) := by decide +kernel
theorem dX9_isHouse_7 : decode cX9_isHouse 7 = .ok (.getfield 248, 3) := by decide +kernel
theorem dX9_isHouse_10 : decode cX9_isHouse 10 = .ok (.iaload, 1) := by decide +kernel
theorem dX9_isHouse_11 : decode cX9_isHouse 11 = .ok (.iconst 1, 1) := by decide +kernel
theorem dX9_isHouse_12 : decode cX9_isHouse 12 = .ok (.isub, 1) := by decide +kernel
theorem dX9_isHouse_13 : decode cX9_isHouse 13 = .ok (.invokestatic 361, 3) := by decide +kernel
theorem dX9_isHouse_16 : decode cX9_isHouse 16 = .ok (.ireturn, 1) := by decide +kernel
theorem dX9_isIn_0 : decode cX9_isIn 0 = .ok (.iload_n 0, 1) := by decide +kernel
theorem dX9_isIn_1 : decode cX9_isIn 1 = .ok (.iload_n 1, 1) := by decide +kernel
theorem dX9_isIn_2 : decode cX9_isIn 2 = .ok (.if_icmp .lt 12, 3) := by decide +kernel
theorem dX9_isIn_5 : decode cX9_isIn 5 = .ok (.iload_n 0, 1) := by decide +kernel
theorem dX9_isIn_6 : decode cX9_isIn 6 = .ok (.iload_n 2, 1) := by decide +kernel
theorem dX9_isIn_7 : decode cX9_isIn 7 = .ok (.if_icmp .gt 7, 3) := by decide +kernel
theorem dX9_isIn_10 : decode cX9_isIn 10 = .ok (.iconst 1, 1) := by decide +kernel
theorem dX9_isIn_11 : decode cX9_isIn 11 = .ok (.goto 4, 3) := by decide +kernel
theorem dX9_isIn_14 : decode cX9_isIn 14 = .ok (.iconst 0, 1) := by decide +kernel
theorem dX9_isIn_15 : decode cX9_isIn 15 = .ok (.ireturn, 1) := by decide +kernel
theorem dX9_isKept_0 : decode cX9_isKept 0 = .ok (.lload_n 0, 1) := by decide +kernel
theorem dX9_isKept_1 : decode cX9_isKept 1 = .ok (.ldc2_w 161, 3) := by decide +kernel
theorem dX9_isKept_4 : decode cX9_isKept 4 = .ok (.lcmp, 1) := by decide +kernel
theorem dX9_isKept_5 : decode cX9_isKept 5 = .ok (.ifCond .eq 59, 3) := by decide +kernel
theorem dX9_isKept_8 : decode cX9_isKept 8 = .ok (.lload_n 0, 1) := by decide +kernel
theorem dX9_isKept_9 : decode cX9_isKept 9 = .ok (.ldc2_w 163, 3) := by decide +kernel
theorem dX9_isKept_12 : decode cX9_isKept 12 = .ok (.lcmp, 1) := by decide +kernel
theorem dX9_isKept_13 : decode cX9_isKept 13 = .ok (.ifCond .eq 51, 3) := by decide +kernel
theorem dX9_isKept_16 : decode cX9_isKept 16 = .ok (.lload_n 0, 1) := by decide +kernel
theorem dX9_isKept_17 : decode cX9_isKept 17 = .ok (.ldc2_w 165, 3) := by decide +kernel
theorem dX9_isKept_20 : decode cX9_isKept 20 = .ok (.lcmp, 1) := by decide +kernel
theorem dX9_isKept_21 : decode cX9_isKept 21 = .ok (.ifCond .eq 43, 3) := by decide +kernel
theorem dX9_isKept_24 : decode cX9_isKept 24 = .ok (.lload_n 0, 1) := by decide +kernel
theorem dX9_isKept_25 : decode cX9_isKept 25 = .ok (.ldc2_w 167, 3) := by decide +kernel
theorem dX9_isKept_28 : decode cX9_isKept 28 = .ok (.lcmp, 1) := by decide +kernel
theorem dX9_isKept_29 : decode cX9_isKept 29 = .ok (.ifCond .eq 35, 3) := by decide +kernel
theorem dX9_isKept_32 : decode cX9_isKept 32 = .ok (.lload_n 0, 1) := by decide +kernel
theorem dX9_isKept_33 : decode cX9_isKept 33 = .ok (.ldc2_w 169, 3) := by decide +kernel
theorem dX9_isKept_36 : decode cX9_isKept 36 = .ok (.lcmp, 1) := by decide +kernel
theorem dX9_isKept_37 : decode cX9_isKept 37 = .ok (.ifCond .eq 27, 3) := by decide +kernel
theorem dX9_isKept_40 : decode cX9_isKept 40 = .ok (.lload_n 0, 1) := by decide +kernel
theorem dX9_isKept_41 : decode cX9_isKept 41 = .ok (.ldc2_w 171, 3) := by decide +kernel
theorem dX9_isKept_44 : decode cX9_isKept 44 = .ok (.lcmp, 1) := by decide +kernel
theorem dX9_isKept_45 : decode cX9_isKept 45 = .ok (.ifCond .eq 19, 3) := by decide +kernel
theorem dX9_isKept_48 : decode cX9_isKept 48 = .ok (.lload_n 0, 1) := by decide +kernel
theorem dX9_isKept_49 : decode cX9_isKept 49 = .ok (.ldc2_w 173, 3) := by decide +kernel
theorem dX9_isKept_52 : decode cX9_isKept 52 = .ok (.lcmp, 1) := by decide +kernel
theorem dX9_isKept_53 : decode cX9_isKept 53 = .ok (.ifCond .eq 11, 3) := by decide +kernel
theorem dX9_isKept_56 : decode cX9_isKept 56 = .ok (.lload_n 0, 1) := by decide +kernel
theorem dX9_isKept_57 : decode cX9_isKept 57 = .ok (.ldc2_w 175, 3) := by decide +kernel
theorem dX9_isKept_60 : decode cX9_isKept 60 = .ok (.lcmp, 1) := by decide +kernel
theorem dX9_isKept_61 : decode cX9_isKept 61 = .ok (.ifCond .ne 7, 3) := by decide +kernel
theorem dX9_isKept_64 : decode cX9_isKept 64 = .ok (.iconst 1, 1) := by decide +kernel
theorem dX9_isKept_65 : decode cX9_isKept 65 = .ok (.goto 4, 3) := by decide +kernel
theorem dX9_isKept_68 : decode cX9_isKept 68 = .ok (.iconst 0, 1) := by decide +kernel
theorem dX9_isKept_69 : decode cX9_isKept 69 = .ok (.istore_n 2, 1) := by decide +kernel
theorem dX9_isKept_70 : decode cX9_isKept 70 = .ok (.iload_n 2, 1) := by decide +kernel
theorem dX9_isKept_71 : decode cX9_isKept 71 = .ok (.ifCond .ne 59, 3) := by decide +kernel
theorem dX9_isKept_74 : decode cX9_isKept 74 = .ok (.lload_n 0, 1) := by decide +kernel
theorem dX9_isKept_75 : decode cX9_isKept 75 = .ok (.ldc2_w 177, 3) := by decide +kernel
theorem dX9_isKept_78 : decode cX9_isKept 78 = .ok (.lcmp, 1) := by decide +kernel
theorem dX9_isKept_79 : decode cX9_isKept 79 = .ok (.ifCond .eq 51, 3) := by decide +kernel
theorem dX9_isKept_82 : decode cX9_isKept 82 = .ok (.lload_n 0, 1) := by decide +kernel
theorem dX9_isKept_83 : decode cX9_isKept 83 = .ok (.ldc2_w 179, 3) := by decide +kernel
theorem dX9_isKept_86 : decode cX9_isKept 86 = .ok (.lcmp, 1) := by decide +kernel
theorem dX9_isKept_87 : decode cX9_isKept 87 = .ok (.ifCond .eq 43, 3) := by decide +kernel
theorem dX9_isKept_90 : decode cX9_isKept 90 = .ok (.lload_n 0, 1) := by decide +kernel
theorem dX9_isKept_91 : decode cX9_isKept 91 = .ok (.ldc2_w 181, 3) := by decide +kernel
theorem dX9_isKept_94 : decode cX9_isKept 94 = .ok (.lcmp, 1) := by decide +kernel
theorem dX9_isKept_95 : decode cX9_isKept 95 = .ok (.ifCond .eq 35, 3) := by decide +kernel
theorem dX9_isKept_98 : decode cX9_isKept 98 = .ok (.lload_n 0, 1) := by decide +kernel
theorem dX9_isKept_99 : decode cX9_isKept 99 = .ok (.ldc2_w 183, 3) := by decide +kernel
theorem dX9_isKept_102 : decode cX9_isKept 102 = .ok (.lcmp, 1) := by decide +kernel
theorem dX9_isKept_103 : decode cX9_isKept 103 = .ok (.ifCond .eq 27, 3) := by decide +kernel
theorem dX9_isKept_106 : decode cX9_isKept 106 = .ok (.lload_n 0, 1) := by decide +kernel
theorem dX9_isKept_107 : decode cX9_isKept 107 = .ok (.ldc2_w 185, 3) := by decide +kernel
theorem dX9_isKept_110 : decode cX9_isKept 110 = .ok (.lcmp, 1) := by decide +kernel
theorem dX9_isKept_111 : decode cX9_isKept 111 = .ok (.ifCond .eq 19, 3) := by decide +kernel
theorem dX9_isKept_114 : decode cX9_isKept 114 = .ok (.lload_n 0, 1) := by decide +kernel
theorem dX9_isKept_115 : decode cX9_isKept 115 = .ok (.ldc2_w 187, 3) := by decide +kernel
theorem dX9_isKept_118 : decode cX9_isKept 118 = .ok (.lcmp, 1) := by decide +kernel
theorem dX9_isKept_119 : decode cX9_isKept 119 = .ok (.ifCond .eq 11, 3) := by decide +kernel
theorem dX9_isKept_122 : decode cX9_isKept 122 = .ok (.lload_n 0, 1) := by decide +kernel
theorem dX9_isKept_123 : decode cX9_isKept 123 = .ok (.ldc2_w 189, 3) := by decide +kernel
theorem dX9_isKept_126 : decode cX9_isKept 126 = .ok (.lcmp, 1) := by decide +kernel
theorem dX9_isKept_127 : decode cX9_isKept 127 = .ok (.ifCond .ne 7, 3) := by decide +kernel
theorem dX9_isKept_130 : decode cX9_isKept 130 = .ok (.iconst 1, 1) := by decide +kernel
theorem dX9_isKept_131 : decode cX9_isKept 131 = .ok (.goto 4, 3) := by decide +kernel
theorem dX9_isKept_134 : decode cX9_isKept 134 = .ok (.iconst 0, 1) := by decide +kernel
theorem dX9_isKept_135 : decode cX9_isKept 135 = .ok (.ireturn, 1) := by decide +kernel
theorem dX9_isLeft_0 : decode cX9_isLeft 0 = .ok (.iconst 0, 1) := by decide +kernel
theorem dX9_isLeft_1 : decode cX9_isLeft 1 = .ok (.istore_n 2, 1) := by decide +kernel
theorem dX9_isLeft_2 : decode cX9_isLeft 2 = .ok (.iload_n 2, 1) := by decide +kernel
theorem dX9_isLeft_3 : decode cX9_isLeft 3 = .ok (.aload_n 0, 1) := by decide +kernel
theorem dX9_isLeft_4 : decode cX9_isLeft 4 = .ok (.getfield 459, 3) := by decide +kernel
theorem dX9_isLeft_7 : decode cX9_isLeft 7 = .ok (.if_icmp .ge 22, 3) := by decide +kernel
theorem dX9_isLeft_10 : decode cX9_isLeft 10 = .ok (.aload_n 0, 1) := by decide +kernel
theorem dX9_isLeft_11 : decode cX9_isLeft 11 = .ok (.getfield 104, 3) := by decide +kernel
theorem dX9_isLeft_14 : decode cX9_isLeft 14 = .ok (.iload_n 2, 1) := by decide +kernel
theorem dX9_isLeft_15 : decode cX9_isLeft 15 = .ok (.iaload, 1) := by decide +kernel
theorem dX9_isLeft_16 : decode cX9_isLeft 16 = .ok (.iload_n 1, 1) := by decide +kernel
theorem dX9_isLeft_17 : decode cX9_isLeft 17 = .ok (.iand, 1) := by decide +kernel
theorem dX9_isLeft_18 : decode cX9_isLeft 18 = .ok (.ifCond .ne 5, 3) := by decide +kernel
theorem dX9_isLeft_21 : decode cX9_isLeft 21 = .ok (.iconst 1, 1) := by decide +kernel
theorem dX9_isLeft_22 : decode cX9_isLeft 22 = .ok (.ireturn, 1) := by decide +kernel
theorem dX9_isLeft_23 : decode cX9_isLeft 23 = .ok (.iinc 2 1, 3) := by decide +kernel
theorem dX9_isLeft_26 : decode cX9_isLeft 26 = .ok (.goto (-24), 3) := by decide +kernel
theorem dX9_isLeft_29 : decode cX9_isLeft 29 = .ok (.iconst 0, 1) := by decide +kernel
theorem dX9_isLeft_30 : decode cX9_isLeft 30 = .ok (.ireturn, 1) := by decide +kernel
theorem dX9_isLet_0 : decode cX9_isLet 0 = .ok (.aload_n 0, 1) := by decide +kernel
theorem dX9_isLet_1 : decode cX9_isLet 1 = .ok (.getfield 92, 3) := by decide +kernel
theorem dX9_isLet_4 : decode cX9_isLet 4 = .ok (.iload_n 1, 1) := by decide +kernel
theorem dX9_isLet_5 : decode cX9_isLet 5 = .ok (.iaload, 1) := by decide +kernel
theorem dX9_isLet_6 : decode cX9_isLet 6 = .ok (.iload_n 2, 1) := by decide +kernel
theorem dX9_isLet_7 : decode cX9_isLet 7 = .ok (.ishr, 1) := by decide +kernel
theorem dX9_isLet_8 : decode cX9_isLet 8 = .ok (.iconst 1, 1) := by decide +kernel
theorem dX9_isLet_9 : decode cX9_isLet 9 = .ok (.iand, 1) := by decide +kernel
theorem dX9_isLet_10 : decode cX9_isLet 10 = .ok (.iconst 1, 1) := by decide +kernel
theorem dX9_isLet_11 : decode cX9_isLet 11 = .ok (.if_icmp .ne 7, 3) := by decide +kernel
theorem dX9_isLet_14 : decode cX9_isLet 14 = .ok (.iconst 1, 1) := by decide +kernel
theorem dX9_isLet_15 : decode cX9_isLet 15 = .ok (.goto 4, 3) := by decide +kernel
theorem dX9_isLet_18 : decode cX9_isLet 18 = .ok (.iconst 0, 1) := by decide +kernel
theorem dX9_isLet_19 : decode cX9_isLet 19 = .ok (.ireturn, 1) := by decide +kernel
theorem dX9_isLetter_0 : decode cX9_isLetter 0 = .ok (.iload_n 0, 1) := by decide +kernel
theorem dX9_isLetter_1 : decode cX9_isLetter 1 = .ok (.bipush 97, 2) := by decide +kernel
theorem dX9_isLetter_3 : decode cX9_isLetter 3 = .ok (.if_icmp .lt 13, 3) := by decide +kernel
theorem dX9_isLetter_6 : decode cX9_isLetter 6 = .ok (.iload_n 0, 1) := by decide +kernel
theorem dX9_isLetter_7 : decode cX9_isLetter 7 = .ok (.bipush 122, 2) := by decide +kernel
theorem dX9_isLetter_9 : decode cX9_isLetter 9 = .ok (.if_icmp .gt 7, 3) := by decide +kernel
theorem dX9_isLetter_12 : decode cX9_isLetter 12 = .ok (.iconst 1, 1) := by decide +kernel
theorem dX9_isLetter_13 : decode cX9_isLetter 13 = .ok (.goto 4, 3) := by decide +kernel
theorem dX9_isLetter_16 : decode cX9_isLetter 16 = .ok (.iconst 0, 1) := by decide +kernel
theorem dX9_isLetter_17 : decode cX9_isLetter 17 = .ok (.ireturn, 1) := by decide +kernel
theorem dX9_isOut_0 : decode cX9_isOut 0 = .ok (.aload_n 0, 1) := by decide +kernel
theorem dX9_isOut_1 : decode cX9_isOut 1 = .ok (.getfield 345, 3) := by decide +kernel
theorem dX9_isOut_4 : decode cX9_isOut 4 = .ok (.iload_n 1, 1) := by decide +kernel
theorem dX9_isOut_5 : decode cX9_isOut 5 = .ok (.ishr, 1) := by decide +kernel
theorem dX9_isOut_6 : decode cX9_isOut 6 = .ok (.iconst 1, 1) := by decide +kernel
theorem dX9_isOut_7 : decode cX9_isOut 7 = .ok (.iand, 1) := by decide +kernel
theorem dX9_isOut_8 : decode cX9_isOut 8 = .ok (.iconst 1, 1) := by decide +kernel
theorem dX9_isOut_9 : decode cX9_isOut 9 = .ok (.if_icmp .ne 7, 3) := by decide +kernel
theorem dX9_isOut_12 : decode cX9_isOut 12 = .ok (.iconst 1, 1) := by decide +kernel
theorem dX9_isOut_13 : decode cX9_isOut 13 = .ok (.goto 4, 3) := by decide +kernel
theorem dX9_isOut_16 : decode cX9_isOut 16 = .ok (.iconst 0, 1) := by decide +kernel
theorem dX9_isOut_17 : decode cX9_isOut 17 = .ok (.ireturn, 1) := by decide +kernel
theorem dX9_isRing_0 : decode cX9_isRing 0 = .ok (.aload_n 0, 1) := by decide +kernel
theorem dX9_isRing_1 : decode cX9_isRing 1 = .ok (.getfield 52, 3) := by decide +kernel
theorem dX9_isRing_4 : decode cX9_isRing 4 = .ok (.aload_n 0, 1) := by decide +kernel
theorem dX9_isRing_5 : decode cX9_isRing 5 = .ok (.getfield 248, 3) := by decide +kernel
theorem dX9_isRing_8 : decode cX9_isRing 8 = .ok (.baload, 1) := by decide +kernel
theorem dX9_isRing_9 : decode cX9_isRing 9 = .ok (.ifCond .ne 15, 3) := by decide +kernel
theorem dX9_isRing_12 : decode cX9_isRing 12 = .ok (.aload_n 0, 1) := by decide +kernel
theorem dX9_isRing_13 : decode cX9_isRing 13 = .ok (.invokevirtual 381, 3) := by decide +kernel
theorem dX9_isRing_16 : decode cX9_isRing 16 = .ok (.iconst 2, 1) := by decide +kernel
theorem dX9_isRing_17 : decode cX9_isRing 17 = .ok (.if_icmp .le 7, 3) := by decide +kernel
theorem dX9_isRing_20 : decode cX9_isRing 20 = .ok (.iconst 1, 1) := by decide +kernel
theorem dX9_isRing_21 : decode cX9_isRing 21 = .ok (.goto 4, 3) := by decide +kernel
theorem dX9_isRing_24 : decode cX9_isRing 24 = .ok (.iconst 0, 1) := by decide +kernel
theorem dX9_isRing_25 : decode cX9_isRing 25 = .ok (.ireturn, 1) := by decide +kernel
theorem dX9_isSign_0 : decode cX9_isSign 0 = .ok (.iload_n 0, 1) := by decide +kernel
theorem dX9_isSign_1 : decode cX9_isSign 1 = .ok (.bipush 59, 2) := by decide +kernel
theorem dX9_isSign_3 : decode cX9_isSign 3 = .ok (.if_icmp .eq 57, 3) := by decide +kernel
theorem dX9_isSign_6 : decode cX9_isSign 6 = .ok (.iload_n 0, 1) := by decide +kernel
theorem dX9_isSign_7 : decode cX9_isSign 7 = .ok (.bipush 40, 2) := by decide +kernel
theorem dX9_isSign_9 : decode cX9_isSign 9 = .ok (.if_icmp .eq 51, 3) := by decide +kernel
theorem dX9_isSign_12 : decode cX9_isSign 12 = .ok (.iload_n 0, 1) := by decide +kernel
theorem dX9_isSign_13 : decode cX9_isSign 13 = .ok (.bipush 41, 2) := by decide +kernel
theorem dX9_isSign_15 : decode cX9_isSign 15 = .ok (.if_icmp .eq 45, 3) := by decide +kernel
theorem dX9_isSign_18 : decode cX9_isSign 18 = .ok (.iload_n 0, 1) := by decide +kernel
theorem dX9_isSign_19 : decode cX9_isSign 19 = .ok (.bipush 60, 2) := by decide +kernel
theorem dX9_isSign_21 : decode cX9_isSign 21 = .ok (.if_icmp .eq 39, 3) := by decide +kernel
theorem dX9_isSign_24 : decode cX9_isSign 24 = .ok (.iload_n 0, 1) := by decide +kernel
theorem dX9_isSign_25 : decode cX9_isSign 25 = .ok (.bipush 62, 2) := by decide +kernel
theorem dX9_isSign_27 : decode cX9_isSign 27 = .ok (.if_icmp .eq 33, 3) := by decide +kernel
theorem dX9_isSign_30 : decode cX9_isSign 30 = .ok (.iload_n 0, 1) := by decide +kernel
theorem dX9_isSign_31 : decode cX9_isSign 31 = .ok (.bipush 61, 2) := by decide +kernel
theorem dX9_isSign_33 : decode cX9_isSign 33 = .ok (.if_icmp .eq 27, 3) := by decide +kernel
theorem dX9_isSign_36 : decode cX9_isSign 36 = .ok (.iload_n 0, 1) := by decide +kernel
theorem dX9_isSign_37 : decode cX9_isSign 37 = .ok (.bipush 43, 2) := by decide +kernel
theorem dX9_isSign_39 : decode cX9_isSign 39 = .ok (.if_icmp .eq 21, 3) := by decide +kernel
theorem dX9_isSign_42 : decode cX9_isSign 42 = .ok (.iload_n 0, 1) := by decide +kernel
theorem dX9_isSign_43 : decode cX9_isSign 43 = .ok (.bipush 45, 2) := by decide +kernel
theorem dX9_isSign_45 : decode cX9_isSign 45 = .ok (.if_icmp .eq 15, 3) := by decide +kernel
theorem dX9_isSign_48 : decode cX9_isSign 48 = .ok (.iload_n 0, 1) := by decide +kernel
theorem dX9_isSign_49 : decode cX9_isSign 49 = .ok (.bipush 42, 2) := by decide +kernel
theorem dX9_isSign_51 : decode cX9_isSign 51 = .ok (.if_icmp .eq 9, 3) := by decide +kernel
theorem dX9_isSign_54 : decode cX9_isSign 54 = .ok (.iload_n 0, 1) := by decide +kernel
theorem dX9_isSign_55 : decode cX9_isSign 55 = .ok (.bipush 47, 2) := by decide +kernel
theorem dX9_isSign_57 : decode cX9_isSign 57 = .ok (.if_icmp .ne 7, 3) := by decide +kernel
theorem dX9_isSign_60 : decode cX9_isSign 60 = .ok (.iconst 1, 1) := by decide +kernel
theorem dX9_isSign_61 : decode cX9_isSign 61 = .ok (.goto 4, 3) := by decide +kernel
theorem dX9_isSign_64 : decode cX9_isSign 64 = .ok (.iconst 0, 1) := by decide +kernel
theorem dX9_isSign_65 : decode cX9_isSign 65 = .ok (.ireturn, 1) := by decide +kernel
theorem dX9_isSignHere_0 : decode cX9_isSignHere 0 = .ok (.aload_n 0, 1) := by decide +kernel
theorem dX9_isSignHere_1 : decode cX9_isSignHere 1 = .ok (.getfield 201, 3) := by decide +kernel
theorem dX9_isSignHere_4 : decode cX9_isSignHere 4 = .ok (.iconst 5, 1) := by decide +kernel
theorem dX9_isSignHere_5 : decode cX9_isSignHere 5 = .ok (.if_icmp .ne 19, 3) := by decide +kernel
theorem dX9_isSignHere_8 : decode cX9_isSignHere 8 = .ok (.aload_n 0, 1) := by decide +kernel
theorem dX9_isSignHere_9 : decode cX9_isSignHere 9 = .ok (.aload_n 0, 1) := by decide +kernel
theorem dX9_isSignHere_10 : decode cX9_isSignHere 10 = .ok (.getfield 194, 3) := by decide +kernel
theorem dX9_isSignHere_13 : decode cX9_isSignHere 13 = .ok (.invokevirtual 197, 3) := by decide +kernel
theorem dX9_isSignHere_16 : decode cX9_isSignHere 16 = .ok (.iload_n 1, 1) := by decide +kernel
theorem dX9_isSignHere_17 : decode cX9_isSignHere 17 = .ok (.if_icmp .ne 7, 3) := by decide +kernel
theorem dX9_isSignHere_20 : decode cX9_isSignHere 20 = .ok (.iconst 1, 1) := by decide +kernel
theorem dX9_isSignHere_21 : decode cX9_isSignHere 21 = .ok (.goto 4, 3) := by decide +kernel
theorem dX9_isSignHere_24 : decode cX9_isSignHere 24 = .ok (.iconst 0, 1) := by decide +kernel
theorem dX9_isSignHere_25 : decode cX9_isSignHere 25 = .ok (.ireturn, 1) := by decide +kernel
theorem dX9_isWord_0 : decode cX9_isWord 0 = .ok (.aload_n 0, 1) := by decide +kernel
theorem dX9_isWord_1 : decode cX9_isWord 1 = .ok (.getfield 201, 3) := by decide +kernel
theorem dX9_isWord_4 : decode cX9_isWord 4 = .ok (.iconst 3, 1) := by decide +kernel
theorem dX9_isWord_5 : decode cX9_isWord 5 = .ok (.if_icmp .ne 16, 3) := by decide +kernel
theorem dX9_isWord_8 : decode cX9_isWord 8 = .ok (.aload_n 0, 1) := by decide +kernel
theorem dX9_isWord_9 : decode cX9_isWord 9 = .ok (.getfield 208, 3) := by decide +kernel
theorem dX9_isWord_12 : decode cX9_isWord 12 = .ok (.lload_n 1, 1) := by decide +kernel
theorem dX9_isWord_13 : decode cX9_isWord 13 = .ok (.lcmp, 1) := by decide +kernel
theorem dX9_isWord_14 : decode cX9_isWord 14 = .ok (.ifCond .ne 7, 3) := by decide +kernel
theorem dX9_isWord_17 : decode cX9_isWord 17 = .ok (.iconst 1, 1) := by decide +kernel
theorem dX9_isWord_18 : decode cX9_isWord 18 = .ok (.goto 4, 3) := by decide +kernel
theorem dX9_isWord_21 : decode cX9_isWord 21 = .ok (.iconst 0, 1) := by decide +kernel
theorem dX9_isWord_22 : decode cX9_isWord 22 = .ok (.ireturn, 1) := by decide +kernel
theorem dX9_judge_0 : decode cX9_judge 0 = .ok (.aload_n 0, 1) := by decide +kernel
theorem dX9_judge_1 : decode cX9_judge 1 = .ok (.invokevirtual 381, 3) := by decide +kernel
theorem dX9_judge_4 : decode cX9_judge 4 = .ok (.istore_n 2, 1) := by decide +kernel
theorem dX9_judge_5 : decode cX9_judge 5 = .ok (.aload_n 0, 1) := by decide +kernel
theorem dX9_judge_6 : decode cX9_judge 6 = .ok (.getfield 355, 3) := by decide +kernel
theorem dX9_judge_9 : decode cX9_judge 9 = .ok (.iload_n 2, 1) := by decide +kernel
theorem dX9_judge_10 : decode cX9_judge 10 = .ok (.if_icmp .ne 12, 3) := by decide +kernel
theorem dX9_judge_13 : decode cX9_judge 13 = .ok (.iload_n 1, 1) := by decide +kernel
theorem dX9_judge_14 : decode cX9_judge 14 = .ok (.iconst 0, 1) := by decide +kernel
theorem dX9_judge_15 : decode cX9_judge 15 = .ok (.iconst 2, 1) := by decide +kernel
theorem dX9_judge_16 : decode cX9_judge 16 = .ok (.invokestatic 361, 3) := by decide +kernel
theorem dX9_judge_19 : decode cX9_judge 19 = .ok (.ifCond .ne 6, 3) := by decide +kernel
theorem dX9_judge_22 : decode cX9_judge 22 = .ok (.bipush (-2), 2) := by decide +kernel
theorem dX9_judge_24 : decode cX9_judge 24 = .ok (.ireturn, 1) := by decide +kernel
theorem dX9_judge_25 : decode cX9_judge 25 = .ok (.iconst 0, 1) := by decide +kernel
theorem dX9_judge_26 : decode cX9_judge 26 = .ok (.istore_n 3, 1) := by decide +kernel
theorem dX9_judge_27 : decode cX9_judge 27 = .ok (.iload_n 3, 1) := by decide +kernel
theorem dX9_judge_28 : decode cX9_judge 28 = .ok (.iload_n 2, 1) := by decide +kernel
theorem dX9_judge_29 : decode cX9_judge 29 = .ok (.if_icmp .ge 21, 3) := by decide +kernel
theorem dX9_judge_32 : decode cX9_judge 32 = .ok (.aload_n 0, 1) := by decide +kernel
theorem dX9_judge_33 : decode cX9_judge 33 = .ok (.getfield 89, 3) := by decide +kernel
theorem dX9_judge_36 : decode cX9_judge 36 = .ok (.iload_n 3, 1) := by decide +kernel
theorem dX9_judge_37 : decode cX9_judge 37 = .ok (.aload_n 0, 1) := by decide +kernel
theorem dX9_judge_38 : decode cX9_judge 38 = .ok (.getfield 83, 3) := by decide +kernel
theorem dX9_judge_41 : decode cX9_judge 41 = .ok (.iload_n 3, 1) := by decide +kernel
theorem dX9_judge_42 : decode cX9_judge 42 = .ok (.iaload, 1) := by decide +kernel
theorem dX9_judge_43 : decode cX9_judge 43 = .ok (.iastore, 1) := by decide +kernel
theorem dX9_judge_44 : decode cX9_judge 44 = .ok (.iinc 3 1, 3) := by decide +kernel
theorem dX9_judge_47 : decode cX9_judge 47 = .ok (.goto (-20), 3) := by decide +kernel
theorem dX9_judge_50 : decode cX9_judge 50 = .ok (.iload_n 1, 1) := by decide +kernel
theorem dX9_judge_51 : decode cX9_judge 51 = .ok (.ifCond .le 20, 3) := by decide +kernel
theorem dX9_judge_54 : decode cX9_judge 54 = .ok (.iload_n 1, 1) := by decide +kernel
theorem dX9_judge_55 : decode cX9_judge 55 = .ok (.iconst 1, 1) := by decide +kernel
theorem dX9_judge_56 : decode cX9_judge 56 = .ok (.if_icmp .ne 10, 3) := by decide +kernel
theorem dX9_judge_59 : decode cX9_judge 59 = .ok (.aload_n 0, 1) := by decide +kernel
theorem dX9_judge_60 : decode cX9_judge 60 = .ok (.invokevirtual 387, 3) := by decide +kernel
theorem dX9_judge_63 : decode cX9_judge 63 = .ok (.goto 7, 3) := by decide +kernel
theorem dX9_judge_66 : decode cX9_judge 66 = .ok (.aload_n 0, 1) := by decide +kernel
theorem dX9_judge_67 : decode cX9_judge 67 = .ok (.invokevirtual 390, 3) := by decide +kernel
theorem dX9_judge_70 : decode cX9_judge 70 = .ok (.ireturn, 1) := by decide +kernel
theorem dX9_judge_71 : decode cX9_judge 71 = .ok (.aload_n 0, 1) := by decide +kernel
theorem dX9_judge_72 : decode cX9_judge 72 = .ok (.invokevirtual 393, 3) := by decide +kernel
theorem dX9_judge_75 : decode cX9_judge 75 = .ok (.aload_n 0, 1) := by decide +kernel
theorem dX9_judge_76 : decode cX9_judge 76 = .ok (.invokevirtual 396, 3) := by decide +kernel
theorem dX9_judge_79 : decode cX9_judge 79 = .ok (.ireturn, 1) := by decide +kernel
theorem dX9_keepBest_0 : decode cX9_keepBest 0 = .ok (.aload_n 0, 1) := by decide +kernel
theorem dX9_keepBest_1 : decode cX9_keepBest 1 = .ok (.iconst 1, 1) := by decide +kernel
theorem dX9_keepBest_2 : decode cX9_keepBest 2 = .ok (.putfield 405, 3) := by decide +kernel
theorem dX9_keepBest_5 : decode cX9_keepBest 5 = .ok (.aload_n 0, 1) := by decide +kernel
theorem dX9_keepBest_6 : decode cX9_keepBest 6 = .ok (.iload_n 1, 1) := by decide +kernel
theorem dX9_keepBest_7 : decode cX9_keepBest 7 = .ok (.putfield 408, 3) := by decide +kernel
theorem dX9_keepBest_10 : decode cX9_keepBest 10 = .ok (.iconst 0, 1) := by decide +kernel
theorem dX9_keepBest_11 : decode cX9_keepBest 11 = .ok (.istore_n 2, 1) := by decide +kernel
theorem dX9_keepBest_12 : decode cX9_keepBest 12 = .ok (.iload_n 2, 1) := by decide +kernel
theorem dX9_keepBest_13 : decode cX9_keepBest 13 = .ok (.aload_n 0, 1) := by decide +kernel
theorem dX9_keepBest_14 : decode cX9_keepBest 14 = .ok (.invokevirtual 381, 3) := by decide +kernel
theorem dX9_keepBest_17 : decode cX9_keepBest 17 = .ok (.if_icmp .ge 21, 3) := by decide +kernel
theorem dX9_keepBest_20 : decode cX9_keepBest 20 = .ok (.aload_n 0, 1) := by decide +kernel
theorem dX9_keepBest_21 : decode cX9_keepBest 21 = .ok (.getfield 98, 3) := by decide +kernel
theorem dX9_keepBest_24 : decode cX9_keepBest 24 = .ok (.iload_n 2, 1) := by decide +kernel
theorem dX9_keepBest_25 : decode cX9_keepBest 25 = .ok (.aload_n 0, 1) := by decide +kernel
theorem dX9_keepBest_26 : decode cX9_keepBest 26 = .ok (.getfield 89, 3) := by decide +kernel
theorem dX9_keepBest_29 : decode cX9_keepBest 29 = .ok (.iload_n 2, 1) := by decide +kernel
theorem dX9_keepBest_30 : decode cX9_keepBest 30 = .ok (.iaload, 1) := by decide +kernel
theorem dX9_keepBest_31 : decode cX9_keepBest 31 = .ok (.iastore, 1) := by decide +kernel
theorem dX9_keepBest_32 : decode cX9_keepBest 32 = .ok (.iinc 2 1, 3) := by decide +kernel
theorem dX9_keepBest_35 : decode cX9_keepBest 35 = .ok (.goto (-23), 3) := by decide +kernel
theorem dX9_keepBest_38 : decode cX9_keepBest 38 = .ok (.return_, 1) := by decide +kernel
theorem dX9_known_0 : decode cX9_known 0 = .ok (.aload_n 0, 1) := by decide +kernel
theorem dX9_known_1 : decode cX9_known 1 = .ok (.invokevirtual 229, 3) := by decide +kernel
theorem dX9_known_4 : decode cX9_known 4 = .ok (.ifCond .ne 5, 3) := by decide +kernel
theorem dX9_known_7 : decode cX9_known 7 = .ok (.iconst 0, 1) := by decide +kernel
theorem dX9_known_8 : decode cX9_known 8 = .ok (.ireturn, 1) := by decide +kernel
theorem dX9_known_9 : decode cX9_known 9 = .ok (.aload_n 0, 1) := by decide +kernel
theorem dX9_known_10 : decode cX9_known 10 = .ok (.getfield 201, 3) := by decide +kernel
theorem dX9_known_13 : decode cX9_known 13 = .ok (.iconst 2, 1) := by decide +kernel
theorem dX9_known_14 : decode cX9_known 14 = .ok (.if_icmp .eq 10, 3) := by decide +kernel
theorem dX9_known_17 : decode cX9_known 17 = .ok (.aload_n 0, 1) := by decide +kernel
theorem dX9_known_18 : decode cX9_known 18 = .ok (.invokevirtual 236, 3) := by decide +kernel
theorem dX9_known_21 : decode cX9_known 21 = .ok (.goto 16, 3) := by decide +kernel
theorem dX9_known_24 : decode cX9_known 24 = .ok (.iload_n 1, 1) := by decide +kernel
theorem dX9_known_25 : decode cX9_known 25 = .ok (.ifCond .ge 12, 3) := by decide +kernel
theorem dX9_known_28 : decode cX9_known 28 = .ok (.aload_n 0, 1) := by decide +kernel
theorem dX9_known_29 : decode cX9_known 29 = .ok (.iconst 5, 1) := by decide +kernel
theorem dX9_known_30 : decode cX9_known 30 = .ok (.aload_n 0, 1) := by decide +kernel
theorem dX9_known_31 : decode cX9_known 31 = .ok (.getfield 194, 3) := by decide +kernel
theorem dX9_known_34 : decode cX9_known 34 = .ok (.invokevirtual 225, 3) := by decide +kernel
theorem dX9_known_37 : decode cX9_known 37 = .ok (.aload_n 0, 1) := by decide +kernel
theorem dX9_known_38 : decode cX9_known 38 = .ok (.invokevirtual 229, 3) := by decide +kernel
theorem dX9_known_41 : decode cX9_known 41 = .ok (.ifCond .eq 7, 3) := by decide +kernel
theorem dX9_known_44 : decode cX9_known 44 = .ok (.aload_n 0, 1) := by decide +kernel
theorem dX9_known_45 : decode cX9_known 45 = .ok (.invokevirtual 233, 3) := by decide +kernel
theorem dX9_known_48 : decode cX9_known 48 = .ok (.iload_n 1, 1) := by decide +kernel
theorem dX9_known_49 : decode cX9_known 49 = .ok (.ifCond .ge 7, 3) := by decide +kernel
theorem dX9_known_52 : decode cX9_known 52 = .ok (.iconst 0, 1) := by decide +kernel
theorem dX9_known_53 : decode cX9_known 53 = .ok (.goto 4, 3) := by decide +kernel
theorem dX9_known_56 : decode cX9_known 56 = .ok (.iload_n 1, 1) := by decide +kernel
theorem dX9_known_57 : decode cX9_known 57 = .ok (.ireturn, 1) := by decide +kernel
theorem dX9_later_0 : decode cX9_later 0 = .ok (.iload_n 1, 1) := by decide +kernel
theorem dX9_later_1 : decode cX9_later 1 = .ok (.iconst 0, 1) := by decide +kernel
theorem dX9_later_2 : decode cX9_later 2 = .ok (.sipush 1000, 3) := by decide +kernel
theorem dX9_later_5 : decode cX9_later 5 = .ok (.invokestatic 361, 3) := by decide +kernel
theorem dX9_later_8 : decode cX9_later 8 = .ok (.ifCond .eq 15, 3) := by decide +kernel
theorem dX9_later_11 : decode cX9_later 11 = .ok (.aload_n 0, 1) := by decide +kernel
theorem dX9_later_12 : decode cX9_later 12 = .ok (.getfield 477, 3) := by decide +kernel
theorem dX9_later_15 : decode cX9_later 15 = .ok (.iload_n 1, 1) := by decide +kernel
theorem dX9_later_16 : decode cX9_later 16 = .ok (.iadd, 1) := by decide +kernel
theorem dX9_later_17 : decode cX9_later 17 = .ok (.ldc_w 484, 3) := by decide +kernel
theorem dX9_later_20 : decode cX9_later 20 = .ok (.if_icmp .le 5, 3) := by decide +kernel
theorem dX9_later_23 : decode cX9_later 23 = .ok (.iconst (-1), 1) := by decide +kernel
theorem dX9_later_24 : decode cX9_later 24 = .ok (.ireturn, 1) := by decide +kernel
theorem dX9_later_25 : decode cX9_later 25 = .ok (.aload_n 0, 1) := by decide +kernel
theorem dX9_later_26 : decode cX9_later 26 = .ok (.dup, 1) := by decide +kernel
theorem dX9_later_27 : decode cX9_later 27 = .ok (.getfield 477, 3) := by decide +kernel
theorem dX9_later_30 : decode cX9_later 30 = .ok (.iload_n 1, 1) := by decide +kernel
theorem dX9_later_31 : decode cX9_later 31 = .ok (.iadd, 1) := by decide +kernel
theorem dX9_later_32 : decode cX9_later 32 = .ok (.putfield 477, 3) := by decide +kernel
theorem dX9_later_35 : decode cX9_later 35 = .ok (.aload_n 0, 1) := by decide +kernel
theorem dX9_later_36 : decode cX9_later 36 = .ok (.getfield 477, 3) := by decide +kernel
theorem dX9_later_39 : decode cX9_later 39 = .ok (.ireturn, 1) := by decide +kernel
theorem dX9_lawful_0 : decode cX9_lawful 0 = .ok (.aload_n 0, 1) := by decide +kernel
theorem dX9_lawful_1 : decode cX9_lawful 1 = .ok (.iconst 0, 1) := by decide +kernel
theorem dX9_lawful_2 : decode cX9_lawful 2 = .ok (.invokevirtual 440, 3) := by decide +kernel
theorem dX9_lawful_5 : decode cX9_lawful 5 = .ok (.aload_n 0, 1) := by decide +kernel
theorem dX9_lawful_6 : decode cX9_lawful 6 = .ok (.getfield 423, 3) := by decide +kernel
theorem dX9_lawful_9 : decode cX9_lawful 9 = .ok (.ireturn, 1) := by decide +kernel
theorem dX9_layBest_0 : decode cX9_layBest 0 = .ok (.aload_n 0, 1) := by decide +kernel
theorem dX9_layBest_1 : decode cX9_layBest 1 = .ok (.aload_n 0, 1) := by decide +kernel
theorem dX9_layBest_2 : decode cX9_layBest 2 = .ok (.getfield 405, 3) := by decide +kernel
theorem dX9_layBest_5 : decode cX9_layBest 5 = .ok (.putfield 358, 3) := by decide +kernel
theorem dX9_layBest_8 : decode cX9_layBest 8 = .ok (.iconst 0, 1) := by decide +kernel
theorem dX9_layBest_9 : decode cX9_layBest 9 = .ok (.istore_n 1, 1) := by decide +kernel
theorem dX9_layBest_10 : decode cX9_layBest 10 = .ok (.iload_n 1, 1) := by decide +kernel
theorem dX9_layBest_11 : decode cX9_layBest 11 = .ok (.aload_n 0, 1) := by decide +kernel
theorem dX9_layBest_12 : decode cX9_layBest 12 = .ok (.invokevirtual 381, 3) := by decide +kernel
theorem dX9_layBest_15 : decode cX9_layBest 15 = .ok (.if_icmp .ge 28, 3) := by decide +kernel
theorem dX9_layBest_18 : decode cX9_layBest 18 = .ok (.aload_n 0, 1) := by decide +kernel
theorem dX9_layBest_19 : decode cX9_layBest 19 = .ok (.getfield 405, 3) := by decide +kernel
theorem dX9_layBest_22 : decode cX9_layBest 22 = .ok (.ifCond .eq 21, 3) := by decide +kernel
theorem dX9_layBest_25 : decode cX9_layBest 25 = .ok (.aload_n 0, 1) := by decide +kernel
theorem dX9_layBest_26 : decode cX9_layBest 26 = .ok (.getfield 95, 3) := by decide +kernel
theorem dX9_layBest_29 : decode cX9_layBest 29 = .ok (.iload_n 1, 1) := by decide +kernel
theorem dX9_layBest_30 : decode cX9_layBest 30 = .ok (.aload_n 0, 1) := by decide +kernel
theorem dX9_layBest_31 : decode cX9_layBest 31 = .ok (.getfield 98, 3) := by decide +kernel
theorem dX9_layBest_34 : decode cX9_layBest 34 = .ok (.iload_n 1, 1) := by decide +kernel
theorem dX9_layBest_35 : decode cX9_layBest 35 = .ok (.iaload, 1) := by decide +kernel
theorem dX9_layBest_36 : decode cX9_layBest 36 = .ok (.iastore, 1) := by decide +kernel
theorem dX9_layBest_37 : decode cX9_layBest 37 = .ok (.iinc 1 1, 3) := by decide +kernel
theorem dX9_layBest_40 : decode cX9_layBest 40 = .ok (.goto (-30), 3) := by decide +kernel
theorem dX9_layBest_43 : decode cX9_layBest 43 = .ok (.return_, 1) := by decide +kernel
theorem dX9_layClasses_0 : decode cX9_layClasses 0 = .ok (.aload_n 0, 1) := by decide +kernel
theorem dX9_layClasses_1 : decode cX9_layClasses 1 = .ok (.iconst 0, 1) := by decide +kernel
theorem dX9_layClasses_2 : decode cX9_layClasses 2 = .ok (.putfield 358, 3) := by decide +kernel
theorem dX9_layClasses_5 : decode cX9_layClasses 5 = .ok (.aload_n 0, 1) := by decide +kernel
theorem dX9_layClasses_6 : decode cX9_layClasses 6 = .ok (.invokevirtual 381, 3) := by decide +kernel
theorem dX9_layClasses_9 : decode cX9_layClasses 9 = .ok (.bipush 7, 2) := by decide +kernel
theorem dX9_layClasses_11 : decode cX9_layClasses 11 = .ok (.if_icmp .le 5, 3) := by decide +kernel
theorem dX9_layClasses_14 : decode cX9_layClasses 14 = .ok (.iconst 0, 1) := by decide +kernel
theorem dX9_layClasses_15 : decode cX9_layClasses 15 = .ok (.ireturn, 1) := by decide +kernel
theorem dX9_layClasses_16 : decode cX9_layClasses 16 = .ok (.aload_n 0, 1) := by decide +kernel
theorem dX9_layClasses_17 : decode cX9_layClasses 17 = .ok (.iconst 0, 1) := by decide +kernel
theorem dX9_layClasses_18 : decode cX9_layClasses 18 = .ok (.putfield 459, 3) := by decide +kernel
theorem dX9_layClasses_21 : decode cX9_layClasses 21 = .ok (.aload_n 0, 1) := by decide +kernel
theorem dX9_layClasses_22 : decode cX9_layClasses 22 = .ok (.bipush 6, 2) := by decide +kernel
theorem dX9_layClasses_24 : decode cX9_layClasses 24 = .ok (.invokevirtual 440, 3) := by decide +kernel
theorem dX9_layClasses_27 : decode cX9_layClasses 27 = .ok (.iconst 1, 1) := by decide +kernel
theorem dX9_layClasses_28 : decode cX9_layClasses 28 = .ok (.ireturn, 1) := by decide +kernel
theorem dX9_layLets_0 : decode cX9_layLets 0 = .ok (.iconst 0, 1) := by decide +kernel
theorem dX9_layLets_1 : decode cX9_layLets 1 = .ok (.istore_n 1, 1) := by decide +kernel
theorem dX9_layLets_2 : decode cX9_layLets 2 = .ok (.iload_n 1, 1) := by decide +kernel
theorem dX9_layLets_3 : decode cX9_layLets 3 = .ok (.aload_n 0, 1) := by decide +kernel
theorem dX9_layLets_4 : decode cX9_layLets 4 = .ok (.getfield 20, 3) := by decide +kernel
theorem dX9_layLets_7 : decode cX9_layLets 7 = .ok (.aload_n 0, 1) := by decide +kernel
theorem dX9_layLets_8 : decode cX9_layLets 8 = .ok (.getfield 248, 3) := by decide +kernel
theorem dX9_layLets_11 : decode cX9_layLets 11 = .ok (.iaload, 1) := by decide +kernel
theorem dX9_layLets_12 : decode cX9_layLets 12 = .ok (.if_icmp .ge 79, 3) := by decide +kernel
theorem dX9_layLets_15 : decode cX9_layLets 15 = .ok (.aload_n 0, 1) := by decide +kernel
theorem dX9_layLets_16 : decode cX9_layLets 16 = .ok (.getfield 92, 3) := by decide +kernel
theorem dX9_layLets_19 : decode cX9_layLets 19 = .ok (.iload_n 1, 1) := by decide +kernel
theorem dX9_layLets_20 : decode cX9_layLets 20 = .ok (.iconst 0, 1) := by decide +kernel
theorem dX9_layLets_21 : decode cX9_layLets 21 = .ok (.iastore, 1) := by decide +kernel
theorem dX9_layLets_22 : decode cX9_layLets 22 = .ok (.iconst 0, 1) := by decide +kernel
theorem dX9_layLets_23 : decode cX9_layLets 23 = .ok (.istore_n 2, 1) := by decide +kernel
theorem dX9_layLets_24 : decode cX9_layLets 24 = .ok (.iload_n 2, 1) := by decide +kernel
theorem dX9_layLets_25 : decode cX9_layLets 25 = .ok (.aload_n 0, 1) := by decide +kernel
theorem dX9_layLets_26 : decode cX9_layLets 26 = .ok (.getfield 20, 3) := by decide +kernel
theorem dX9_layLets_29 : decode cX9_layLets 29 = .ok (.aload_n 0, 1) := by decide +kernel
theorem dX9_layLets_30 : decode cX9_layLets 30 = .ok (.getfield 248, 3) := by decide +kernel
theorem dX9_layLets_33 : decode cX9_layLets 33 = .ok (.iaload, 1) := by decide +kernel
theorem dX9_layLets_34 : decode cX9_layLets 34 = .ok (.if_icmp .ge 51, 3) := by decide +kernel
theorem dX9_layLets_37 : decode cX9_layLets 37 = .ok (.iload_n 1, 1) := by decide +kernel
theorem dX9_layLets_38 : decode cX9_layLets 38 = .ok (.iload_n 2, 1) := by decide +kernel
theorem dX9_layLets_39 : decode cX9_layLets 39 = .ok (.if_icmp .eq 40, 3) := by decide +kernel
theorem dX9_layLets_42 : decode cX9_layLets 42 = .ok (.aload_n 0, 1) := by decide +kernel
theorem dX9_layLets_43 : decode cX9_layLets 43 = .ok (.iload_n 1, 1) := by decide +kernel
theorem dX9_layLets_44 : decode cX9_layLets 44 = .ok (.invokevirtual 374, 3) := by decide +kernel
theorem dX9_layLets_47 : decode cX9_layLets 47 = .ok (.ifCond .ne 32, 3) := by decide +kernel
theorem dX9_layLets_50 : decode cX9_layLets 50 = .ok (.aload_n 0, 1) := by decide +kernel
theorem dX9_layLets_51 : decode cX9_layLets 51 = .ok (.iload_n 2, 1) := by decide +kernel
theorem dX9_layLets_52 : decode cX9_layLets 52 = .ok (.invokevirtual 374, 3) := by decide +kernel
theorem dX9_layLets_55 : decode cX9_layLets 55 = .ok (.ifCond .ne 24, 3) := by decide +kernel
theorem dX9_layLets_58 : decode cX9_layLets 58 = .ok (.aload_n 0, 1) := by decide +kernel
theorem dX9_layLets_59 : decode cX9_layLets 59 = .ok (.iload_n 1, 1) := by decide +kernel
theorem dX9_layLets_60 : decode cX9_layLets 60 = .ok (.iload_n 2, 1) := by decide +kernel
theorem dX9_layLets_61 : decode cX9_layLets 61 = .ok (.invokevirtual 377, 3) := by decide +kernel
theorem dX9_layLets_64 : decode cX9_layLets 64 = .ok (.ifCond .eq 15, 3) := by decide +kernel
theorem dX9_layLets_67 : decode cX9_layLets 67 = .ok (.aload_n 0, 1) := by decide +kernel
theorem dX9_layLets_68 : decode cX9_layLets 68 = .ok (.getfield 92, 3) := by decide +kernel
theorem dX9_layLets_71 : decode cX9_layLets 71 = .ok (.iload_n 1, 1) := by decide +kernel
theorem dX9_layLets_72 : decode cX9_layLets 72 = .ok (.dup2, 1) := by decide +kernel
theorem dX9_layLets_73 : decode cX9_layLets 73 = .ok (.iaload, 1) := by decide +kernel
theorem dX9_layLets_74 : decode cX9_layLets 74 = .ok (.iconst 1, 1) := by decide +kernel
theorem dX9_layLets_75 : decode cX9_layLets 75 = .ok (.iload_n 2, 1) := by decide +kernel
theorem dX9_layLets_76 : decode cX9_layLets 76 = .ok (.ishl, 1) := by decide +kernel
theorem dX9_layLets_77 : decode cX9_layLets 77 = .ok (.ior, 1) := by decide +kernel
theorem dX9_layLets_78 : decode cX9_layLets 78 = .ok (.iastore, 1) := by decide +kernel
theorem dX9_layLets_79 : decode cX9_layLets 79 = .ok (.iinc 2 1, 3) := by decide +kernel
theorem dX9_layLets_82 : decode cX9_layLets 82 = .ok (.goto (-58), 3) := by decide +kernel
theorem dX9_layLets_85 : decode cX9_layLets 85 = .ok (.iinc 1 1, 3) := by decide +kernel
theorem dX9_layLets_88 : decode cX9_layLets 88 = .ok (.goto (-86), 3) := by decide +kernel
theorem dX9_layLets_91 : decode cX9_layLets 91 = .ok (.return_, 1) := by decide +kernel
theorem dX9_let_0 : decode cX9_let 0 = .ok (.aload_n 0, 1) := by decide +kernel
theorem dX9_let_1 : decode cX9_let 1 = .ok (.iload_n 1, 1) := by decide +kernel
theorem dX9_let_2 : decode cX9_let 2 = .ok (.invokevirtual 371, 3) := by decide +kernel
theorem dX9_let_5 : decode cX9_let 5 = .ok (.ifCond .eq 32, 3) := by decide +kernel
theorem dX9_let_8 : decode cX9_let 8 = .ok (.aload_n 0, 1) := by decide +kernel
theorem dX9_let_9 : decode cX9_let 9 = .ok (.iload_n 2, 1) := by decide +kernel
theorem dX9_let_10 : decode cX9_let 10 = .ok (.invokevirtual 371, 3) := by decide +kernel
theorem dX9_let_13 : decode cX9_let 13 = .ok (.ifCond .eq 24, 3) := by decide +kernel
theorem dX9_let_16 : decode cX9_let 16 = .ok (.iload_n 1, 1) := by decide +kernel
theorem dX9_let_17 : decode cX9_let 17 = .ok (.iload_n 2, 1) := by decide +kernel
theorem dX9_let_18 : decode cX9_let 18 = .ok (.if_icmp .eq 19, 3) := by decide +kernel
theorem dX9_let_21 : decode cX9_let 21 = .ok (.aload_n 0, 1) := by decide +kernel
theorem dX9_let_22 : decode cX9_let 22 = .ok (.iload_n 1, 1) := by decide +kernel
theorem dX9_let_23 : decode cX9_let 23 = .ok (.invokevirtual 374, 3) := by decide +kernel
theorem dX9_let_26 : decode cX9_let 26 = .ok (.ifCond .ne 11, 3) := by decide +kernel
theorem dX9_let_29 : decode cX9_let 29 = .ok (.aload_n 0, 1) := by decide +kernel
theorem dX9_let_30 : decode cX9_let 30 = .ok (.iload_n 2, 1) := by decide +kernel
theorem dX9_let_31 : decode cX9_let 31 = .ok (.invokevirtual 374, 3) := by decide +kernel
theorem dX9_let_34 : decode cX9_let 34 = .ok (.ifCond .eq 7, 3) := by decide +kernel
theorem dX9_let_37 : decode cX9_let 37 = .ok (.iconst (-1), 1) := by decide +kernel
theorem dX9_let_38 : decode cX9_let 38 = .ok (.goto 17, 3) := by decide +kernel
theorem dX9_let_41 : decode cX9_let 41 = .ok (.aload_n 0, 1) := by decide +kernel
theorem dX9_let_42 : decode cX9_let 42 = .ok (.iload_n 1, 1) := by decide +kernel
theorem dX9_let_43 : decode cX9_let 43 = .ok (.iload_n 2, 1) := by decide +kernel
theorem dX9_let_44 : decode cX9_let 44 = .ok (.invokevirtual 377, 3) := by decide +kernel
theorem dX9_let_47 : decode cX9_let 47 = .ok (.ifCond .eq 7, 3) := by decide +kernel
theorem dX9_let_50 : decode cX9_let 50 = .ok (.iconst 1, 1) := by decide +kernel
theorem dX9_let_51 : decode cX9_let 51 = .ok (.goto 4, 3) := by decide +kernel
theorem dX9_let_54 : decode cX9_let 54 = .ok (.iconst 0, 1) := by decide +kernel
theorem dX9_let_55 : decode cX9_let 55 = .ok (.ireturn, 1) := by decide +kernel
theorem dX9_letter_0 : decode cX9_letter 0 = .ok (.aload_n 0, 1) := by decide +kernel
theorem dX9_letter_1 : decode cX9_letter 1 = .ok (.getfield 254, 3) := by decide +kernel
theorem dX9_letter_4 : decode cX9_letter 4 = .ok (.bipush 20, 2) := by decide +kernel
theorem dX9_letter_6 : decode cX9_letter 6 = .ok (.if_icmp .ne 5, 3) := by decide +kernel
theorem dX9_letter_9 : decode cX9_letter 9 = .ok (.iconst (-1), 1) := by decide +kernel
theorem dX9_letter_10 : decode cX9_letter 10 = .ok (.ireturn, 1) := by decide +kernel
theorem dX9_letter_11 : decode cX9_letter 11 = .ok (.aload_n 0, 1) := by decide +kernel
theorem dX9_letter_12 : decode cX9_letter 12 = .ok (.getfield 125, 3) := by decide +kernel
theorem dX9_letter_15 : decode cX9_letter 15 = .ok (.aload_n 0, 1) := by decide +kernel
theorem dX9_letter_16 : decode cX9_letter 16 = .ok (.getfield 254, 3) := by decide +kernel
theorem dX9_letter_19 : decode cX9_letter 19 = .ok (.iload_n 1, 1) := by decide +kernel
theorem dX9_letter_20 : decode cX9_letter 20 = .ok (.bastore, 1) := by decide +kernel
theorem dX9_letter_21 : decode cX9_letter 21 = .ok (.aload_n 0, 1) := by decide +kernel
theorem dX9_letter_22 : decode cX9_letter 22 = .ok (.getfield 110, 3) := by decide +kernel
theorem dX9_letter_25 : decode cX9_letter 25 = .ok (.aload_n 0, 1) := by decide +kernel
theorem dX9_letter_26 : decode cX9_letter 26 = .ok (.getfield 254, 3) := by decide +kernel
theorem dX9_letter_29 : decode cX9_letter 29 = .ok (.iload_n 2, 1) := by decide +kernel
theorem dX9_letter_30 : decode cX9_letter 30 = .ok (.iastore, 1) := by decide +kernel
theorem dX9_letter_31 : decode cX9_letter 31 = .ok (.aload_n 0, 1) := by decide +kernel
theorem dX9_letter_32 : decode cX9_letter 32 = .ok (.getfield 113, 3) := by decide +kernel
theorem dX9_letter_35 : decode cX9_letter 35 = .ok (.aload_n 0, 1) := by decide +kernel
theorem dX9_letter_36 : decode cX9_letter 36 = .ok (.getfield 254, 3) := by decide +kernel
theorem dX9_letter_39 : decode cX9_letter 39 = .ok (.iload_n 3, 1) := by decide +kernel
theorem dX9_letter_40 : decode cX9_letter 40 = .ok (.iastore, 1) := by decide +kernel
theorem dX9_letter_41 : decode cX9_letter 41 = .ok (.aload_n 0, 1) := by decide +kernel
theorem dX9_letter_42 : decode cX9_letter 42 = .ok (.getfield 128, 3) := by decide +kernel
theorem dX9_letter_45 : decode cX9_letter 45 = .ok (.aload_n 0, 1) := by decide +kernel
theorem dX9_letter_46 : decode cX9_letter 46 = .ok (.getfield 254, 3) := by decide +kernel
theorem dX9_letter_49 : decode cX9_letter 49 = .ok (.iload 4, 2) := by decide +kernel
theorem dX9_letter_51 : decode cX9_letter 51 = .ok (.bastore, 1) := by decide +kernel
theorem dX9_letter_52 : decode cX9_letter 52 = .ok (.aload_n 0, 1) := by decide +kernel
theorem dX9_letter_53 : decode cX9_letter 53 = .ok (.getfield 116, 3) := by decide +kernel
theorem dX9_letter_56 : decode cX9_letter 56 = .ok (.aload_n 0, 1) := by decide +kernel
theorem dX9_letter_57 : decode cX9_letter 57 = .ok (.getfield 254, 3) := by decide +kernel
theorem dX9_letter_60 : decode cX9_letter 60 = .ok (.aload_n 0, 1) := by decide +kernel
theorem dX9_letter_61 : decode cX9_letter 61 = .ok (.getfield 477, 3) := by decide +kernel
theorem dX9_letter_64 : decode cX9_letter 64 = .ok (.iastore, 1) := by decide +kernel
theorem dX9_letter_65 : decode cX9_letter 65 = .ok (.aload_n 0, 1) := by decide +kernel
theorem dX9_letter_66 : decode cX9_letter 66 = .ok (.getfield 119, 3) := by decide +kernel
theorem dX9_letter_69 : decode cX9_letter 69 = .ok (.aload_n 0, 1) := by decide +kernel
theorem dX9_letter_70 : decode cX9_letter 70 = .ok (.getfield 254, 3) := by decide +kernel
theorem dX9_letter_73 : decode cX9_letter 73 = .ok (.iconst (-1), 1) := by decide +kernel
theorem dX9_letter_74 : decode cX9_letter 74 = .ok (.iastore, 1) := by decide +kernel
theorem dX9_letter_75 : decode cX9_letter 75 = .ok (.aload_n 0, 1) := by decide +kernel
theorem dX9_letter_76 : decode cX9_letter 76 = .ok (.dup, 1) := by decide +kernel
theorem dX9_letter_77 : decode cX9_letter 77 = .ok (.getfield 254, 3) := by decide +kernel
theorem dX9_letter_80 : decode cX9_letter 80 = .ok (.iconst 1, 1) := by decide +kernel
theorem dX9_letter_81 : decode cX9_letter 81 = .ok (.iadd, 1) := by decide +kernel
theorem dX9_letter_82 : decode cX9_letter 82 = .ok (.putfield 254, 3) := by decide +kernel
theorem dX9_letter_85 : decode cX9_letter 85 = .ok (.aload_n 0, 1) := by decide +kernel
theorem dX9_letter_86 : decode cX9_letter 86 = .ok (.getfield 254, 3) := by decide +kernel
theorem dX9_letter_89 : decode cX9_letter 89 = .ok (.iconst 1, 1) := by decide +kernel
theorem dX9_letter_90 : decode cX9_letter 90 = .ok (.isub, 1) := by decide +kernel
theorem dX9_letter_91 : decode cX9_letter 91 = .ok (.ireturn, 1) := by decide +kernel
theorem dX9_lies_0 : decode cX9_lies 0 = .ok (.aload_n 0, 1) := by decide +kernel
theorem dX9_lies_1 : decode cX9_lies 1 = .ok (.getfield 358, 3) := by decide +kernel
theorem dX9_lies_4 : decode cX9_lies 4 = .ok (.ifCond .eq 26, 3) := by decide +kernel
theorem dX9_lies_7 : decode cX9_lies 7 = .ok (.iload_n 1, 1) := by decide +kernel
theorem dX9_lies_8 : decode cX9_lies 8 = .ok (.iconst 0, 1) := by decide +kernel
theorem dX9_lies_9 : decode cX9_lies 9 = .ok (.aload_n 0, 1) := by decide +kernel
theorem dX9_lies_10 : decode cX9_lies 10 = .ok (.invokevirtual 381, 3) := by decide +kernel
theorem dX9_lies_13 : decode cX9_lies 13 = .ok (.iconst 1, 1) := by decide +kernel
theorem dX9_lies_14 : decode cX9_lies 14 = .ok (.isub, 1) := by decide +kernel
theorem dX9_lies_15 : decode cX9_lies 15 = .ok (.invokestatic 361, 3) := by decide +kernel
theorem dX9_lies_18 : decode cX9_lies 18 = .ok (.ifCond .eq 12, 3) := by decide +kernel
theorem dX9_lies_21 : decode cX9_lies 21 = .ok (.aload_n 0, 1) := by decide +kernel
theorem dX9_lies_22 : decode cX9_lies 22 = .ok (.getfield 95, 3) := by decide +kernel
theorem dX9_lies_25 : decode cX9_lies 25 = .ok (.iload_n 1, 1) := by decide +kernel
theorem dX9_lies_26 : decode cX9_lies 26 = .ok (.iaload, 1) := by decide +kernel
theorem dX9_lies_27 : decode cX9_lies 27 = .ok (.goto 4, 3) := by decide +kernel
theorem dX9_lies_30 : decode cX9_lies 30 = .ok (.iconst (-1), 1) := by decide +kernel
theorem dX9_lies_31 : decode cX9_lies 31 = .ok (.ireturn, 1) := by decide +kernel
theorem dX9_lift_0 : decode cX9_lift 0 = .ok (.aload_n 0, 1) := by decide +kernel
theorem dX9_lift_1 : decode cX9_lift 1 = .ok (.invokevirtual 393, 3) := by decide +kernel
theorem dX9_lift_4 : decode cX9_lift 4 = .ok (.aload_n 0, 1) := by decide +kernel
theorem dX9_lift_5 : decode cX9_lift 5 = .ok (.iconst 0, 1) := by decide +kernel
theorem dX9_lift_6 : decode cX9_lift 6 = .ok (.putfield 405, 3) := by decide +kernel
theorem dX9_lift_9 : decode cX9_lift 9 = .ok (.aload_n 0, 1) := by decide +kernel
theorem dX9_lift_10 : decode cX9_lift 10 = .ok (.invokevirtual 381, 3) := by decide +kernel
theorem dX9_lift_13 : decode cX9_lift 13 = .ok (.istore_n 1, 1) := by decide +kernel
theorem dX9_lift_14 : decode cX9_lift 14 = .ok (.aload_n 0, 1) := by decide +kernel
theorem dX9_lift_15 : decode cX9_lift 15 = .ok (.getfield 345, 3) := by decide +kernel
theorem dX9_lift_18 : decode cX9_lift 18 = .ok (.istore_n 2, 1) := by decide +kernel
theorem dX9_lift_19 : decode cX9_lift 19 = .ok (.iconst 0, 1) := by decide +kernel
theorem dX9_lift_20 : decode cX9_lift 20 = .ok (.istore_n 3, 1) := by decide +kernel
theorem dX9_lift_21 : decode cX9_lift 21 = .ok (.iload_n 1, 1) := by decide +kernel
theorem dX9_lift_22 : decode cX9_lift 22 = .ok (.ifCond .ne 8, 3) := by decide +kernel
theorem dX9_lift_25 : decode cX9_lift 25 = .ok (.aload_n 0, 1) := by decide +kernel
theorem dX9_lift_26 : decode cX9_lift 26 = .ok (.iconst 0, 1) := by decide +kernel
theorem dX9_lift_27 : decode cX9_lift 27 = .ok (.invokevirtual 429, 3) := by decide +kernel
theorem dX9_lift_30 : decode cX9_lift 30 = .ok (.aload_n 0, 1) := by decide +kernel
theorem dX9_lift_31 : decode cX9_lift 31 = .ok (.getfield 89, 3) := by decide +kernel
theorem dX9_lift_34 : decode cX9_lift 34 = .ok (.iconst 0, 1) := by decide +kernel
theorem dX9_lift_35 : decode cX9_lift 35 = .ok (.iconst (-1), 1) := by decide +kernel
theorem dX9_lift_36 : decode cX9_lift 36 = .ok (.iastore, 1) := by decide +kernel
theorem dX9_lift_37 : decode cX9_lift 37 = .ok (.iload_n 3, 1) := by decide +kernel
theorem dX9_lift_38 : decode cX9_lift 38 = .ok (.ifCond .lt 190, 3) := by decide +kernel
theorem dX9_lift_41 : decode cX9_lift 41 = .ok (.iload_n 1, 1) := by decide +kernel
theorem dX9_lift_42 : decode cX9_lift 42 = .ok (.ifCond .le 186, 3) := by decide +kernel
theorem dX9_lift_45 : decode cX9_lift 45 = .ok (.aload_n 0, 1) := by decide +kernel
theorem dX9_lift_46 : decode cX9_lift 46 = .ok (.getfield 89, 3) := by decide +kernel
theorem dX9_lift_49 : decode cX9_lift 49 = .ok (.iload_n 3, 1) := by decide +kernel
theorem dX9_lift_50 : decode cX9_lift 50 = .ok (.iaload, 1) := by decide +kernel
theorem dX9_lift_51 : decode cX9_lift 51 = .ok (.ifCond .lt 16, 3) := by decide +kernel
theorem dX9_lift_54 : decode cX9_lift 54 = .ok (.iload_n 2, 1) := by decide +kernel
theorem dX9_lift_55 : decode cX9_lift 55 = .ok (.iconst 1, 1) := by decide +kernel
theorem dX9_lift_56 : decode cX9_lift 56 = .ok (.aload_n 0, 1) := by decide +kernel
theorem dX9_lift_57 : decode cX9_lift 57 = .ok (.getfield 89, 3) := by decide +kernel
theorem dX9_lift_60 : decode cX9_lift 60 = .ok (.iload_n 3, 1) := by decide +kernel
theorem dX9_lift_61 : decode cX9_lift 61 = .ok (.iaload, 1) := by decide +kernel
theorem dX9_lift_62 : decode cX9_lift 62 = .ok (.ishl, 1) := by decide +kernel
theorem dX9_lift_63 : decode cX9_lift 63 = .ok (.iconst (-1), 1) := by decide +kernel
theorem dX9_lift_64 : decode cX9_lift 64 = .ok (.ixor, 1) := by decide +kernel
theorem dX9_lift_65 : decode cX9_lift 65 = .ok (.iand, 1) := by decide +kernel
theorem dX9_lift_66 : decode cX9_lift 66 = .ok (.istore_n 2, 1) := by decide +kernel
theorem dX9_lift_67 : decode cX9_lift 67 = .ok (.aload_n 0, 1) := by decide +kernel
theorem dX9_lift_68 : decode cX9_lift 68 = .ok (.getfield 89, 3) := by decide +kernel
theorem dX9_lift_71 : decode cX9_lift 71 = .ok (.iload_n 3, 1) := by decide +kernel
theorem dX9_lift_72 : decode cX9_lift 72 = .ok (.iaload, 1) := by decide +kernel
theorem dX9_lift_73 : decode cX9_lift 73 = .ok (.iconst 1, 1) := by decide +kernel
theorem dX9_lift_74 : decode cX9_lift 74 = .ok (.iadd, 1) := by decide +kernel
theorem dX9_lift_75 : decode cX9_lift 75 = .ok (.istore 4, 2) := by decide +kernel
theorem dX9_lift_77 : decode cX9_lift 77 = .ok (.iload 4, 2) := by decide +kernel
theorem dX9_lift_79 : decode cX9_lift 79 = .ok (.aload_n 0, 1) := by decide +kernel
theorem dX9_lift_80 : decode cX9_lift 80 = .ok (.getfield 20, 3) := by decide +kernel
theorem dX9_lift_83 : decode cX9_lift 83 = .ok (.aload_n 0, 1) := by decide +kernel
theorem dX9_lift_84 : decode cX9_lift 84 = .ok (.getfield 248, 3) := by decide +kernel
theorem dX9_lift_87 : decode cX9_lift 87 = .ok (.iaload, 1) := by decide +kernel
theorem dX9_lift_88 : decode cX9_lift 88 = .ok (.if_icmp .ge 51, 3) := by decide +kernel
theorem dX9_lift_91 : decode cX9_lift 91 = .ok (.iload_n 2, 1) := by decide +kernel
theorem dX9_lift_92 : decode cX9_lift 92 = .ok (.iload 4, 2) := by decide +kernel
theorem dX9_lift_94 : decode cX9_lift 94 = .ok (.ishr, 1) := by decide +kernel
theorem dX9_lift_95 : decode cX9_lift 95 = .ok (.iconst 1, 1) := by decide +kernel
theorem dX9_lift_96 : decode cX9_lift 96 = .ok (.iand, 1) := by decide +kernel
theorem dX9_lift_97 : decode cX9_lift 97 = .ok (.iconst 1, 1) := by decide +kernel
theorem dX9_lift_98 : decode cX9_lift 98 = .ok (.if_icmp .eq 35, 3) := by decide +kernel
theorem dX9_lift_101 : decode cX9_lift 101 = .ok (.aload_n 0, 1) := by decide +kernel
theorem dX9_lift_102 : decode cX9_lift 102 = .ok (.iload_n 3, 1) := by decide +kernel
theorem dX9_lift_103 : decode cX9_lift 103 = .ok (.iload 4, 2) := by decide +kernel
theorem dX9_lift_105 : decode cX9_lift 105 = .ok (.invokevirtual 399, 3) := by decide +kernel
theorem dX9_lift_108 : decode cX9_lift 108 = .ok (.ifCond .eq 25, 3) := by decide +kernel
theorem dX9_lift_111 : decode cX9_lift 111 = .ok (.aload_n 0, 1) := by decide +kernel
theorem dX9_lift_112 : decode cX9_lift 112 = .ok (.getfield 405, 3) := by decide +kernel
theorem dX9_lift_115 : decode cX9_lift 115 = .ok (.ifCond .eq 24, 3) := by decide +kernel
theorem dX9_lift_118 : decode cX9_lift 118 = .ok (.aload_n 0, 1) := by decide +kernel
theorem dX9_lift_119 : decode cX9_lift 119 = .ok (.iload_n 3, 1) := by decide +kernel
theorem dX9_lift_120 : decode cX9_lift 120 = .ok (.iload 4, 2) := by decide +kernel
theorem dX9_lift_122 : decode cX9_lift 122 = .ok (.iload_n 1, 1) := by decide +kernel
theorem dX9_lift_123 : decode cX9_lift 123 = .ok (.invokevirtual 450, 3) := by decide +kernel
theorem dX9_lift_126 : decode cX9_lift 126 = .ok (.aload_n 0, 1) := by decide +kernel
theorem dX9_lift_127 : decode cX9_lift 127 = .ok (.getfield 408, 3) := by decide +kernel
theorem dX9_lift_130 : decode cX9_lift 130 = .ok (.if_icmp .lt 9, 3) := by decide +kernel
theorem dX9_lift_133 : decode cX9_lift 133 = .ok (.iinc 4 1, 3) := by decide +kernel
theorem dX9_lift_136 : decode cX9_lift 136 = .ok (.goto (-59), 3) := by decide +kernel
theorem dX9_lift_139 : decode cX9_lift 139 = .ok (.iload 4, 2) := by decide +kernel
theorem dX9_lift_141 : decode cX9_lift 141 = .ok (.aload_n 0, 1) := by decide +kernel
theorem dX9_lift_142 : decode cX9_lift 142 = .ok (.getfield 20, 3) := by decide +kernel
theorem dX9_lift_145 : decode cX9_lift 145 = .ok (.aload_n 0, 1) := by decide +kernel
theorem dX9_lift_146 : decode cX9_lift 146 = .ok (.getfield 248, 3) := by decide +kernel
theorem dX9_lift_149 : decode cX9_lift 149 = .ok (.iaload, 1) := by decide +kernel
theorem dX9_lift_150 : decode cX9_lift 150 = .ok (.if_icmp .ne 16, 3) := by decide +kernel
theorem dX9_lift_153 : decode cX9_lift 153 = .ok (.aload_n 0, 1) := by decide +kernel
theorem dX9_lift_154 : decode cX9_lift 154 = .ok (.getfield 89, 3) := by decide +kernel
theorem dX9_lift_157 : decode cX9_lift 157 = .ok (.iload_n 3, 1) := by decide +kernel
theorem dX9_lift_158 : decode cX9_lift 158 = .ok (.iconst (-1), 1) := by decide +kernel
theorem dX9_lift_159 : decode cX9_lift 159 = .ok (.iastore, 1) := by decide +kernel
theorem dX9_lift_160 : decode cX9_lift 160 = .ok (.iinc 3 (-1), 3) := by decide +kernel
theorem dX9_lift_163 : decode cX9_lift 163 = .ok (.goto (-126), 3) := by decide +kernel
theorem dX9_lift_166 : decode cX9_lift 166 = .ok (.aload_n 0, 1) := by decide +kernel
theorem dX9_lift_167 : decode cX9_lift 167 = .ok (.getfield 89, 3) := by decide +kernel
theorem dX9_lift_170 : decode cX9_lift 170 = .ok (.iload_n 3, 1) := by decide +kernel
theorem dX9_lift_171 : decode cX9_lift 171 = .ok (.iload 4, 2) := by decide +kernel
theorem dX9_lift_173 : decode cX9_lift 173 = .ok (.iastore, 1) := by decide +kernel
theorem dX9_lift_174 : decode cX9_lift 174 = .ok (.iload_n 2, 1) := by decide +kernel
theorem dX9_lift_175 : decode cX9_lift 175 = .ok (.iconst 1, 1) := by decide +kernel
theorem dX9_lift_176 : decode cX9_lift 176 = .ok (.iload 4, 2) := by decide +kernel
theorem dX9_lift_178 : decode cX9_lift 178 = .ok (.ishl, 1) := by decide +kernel
theorem dX9_lift_179 : decode cX9_lift 179 = .ok (.ior, 1) := by decide +kernel
theorem dX9_lift_180 : decode cX9_lift 180 = .ok (.istore_n 2, 1) := by decide +kernel
theorem dX9_lift_181 : decode cX9_lift 181 = .ok (.aload_n 0, 1) := by decide +kernel
theorem dX9_lift_182 : decode cX9_lift 182 = .ok (.getfield 101, 3) := by decide +kernel
theorem dX9_lift_185 : decode cX9_lift 185 = .ok (.iload_n 3, 1) := by decide +kernel
theorem dX9_lift_186 : decode cX9_lift 186 = .ok (.aload_n 0, 1) := by decide +kernel
theorem dX9_lift_187 : decode cX9_lift 187 = .ok (.iload_n 3, 1) := by decide +kernel
theorem dX9_lift_188 : decode cX9_lift 188 = .ok (.iload 4, 2) := by decide +kernel
theorem dX9_lift_190 : decode cX9_lift 190 = .ok (.iload_n 1, 1) := by decide +kernel
theorem dX9_lift_191 : decode cX9_lift 191 = .ok (.invokevirtual 450, 3) := by decide +kernel
theorem dX9_lift_194 : decode cX9_lift 194 = .ok (.iastore, 1) := by decide +kernel
theorem dX9_lift_195 : decode cX9_lift 195 = .ok (.iload_n 3, 1) := by decide +kernel
theorem dX9_lift_196 : decode cX9_lift 196 = .ok (.iconst 1, 1) := by decide +kernel
theorem dX9_lift_197 : decode cX9_lift 197 = .ok (.iadd, 1) := by decide +kernel
theorem dX9_lift_198 : decode cX9_lift 198 = .ok (.iload_n 1, 1) := by decide +kernel
theorem dX9_lift_199 : decode cX9_lift 199 = .ok (.if_icmp .ne 16, 3) := by decide +kernel
theorem dX9_lift_202 : decode cX9_lift 202 = .ok (.aload_n 0, 1) := by decide +kernel
theorem dX9_lift_203 : decode cX9_lift 203 = .ok (.aload_n 0, 1) := by decide +kernel
theorem dX9_lift_204 : decode cX9_lift 204 = .ok (.getfield 101, 3) := by decide +kernel
theorem dX9_lift_207 : decode cX9_lift 207 = .ok (.iload_n 3, 1) := by decide +kernel
theorem dX9_lift_208 : decode cX9_lift 208 = .ok (.iaload, 1) := by decide +kernel
theorem dX9_lift_209 : decode cX9_lift 209 = .ok (.invokevirtual 429, 3) := by decide +kernel
theorem dX9_lift_212 : decode cX9_lift 212 = .ok (.goto 13, 3) := by decide +kernel
theorem dX9_lift_215 : decode cX9_lift 215 = .ok (.iinc 3 1, 3) := by decide +kernel
theorem dX9_lift_218 : decode cX9_lift 218 = .ok (.aload_n 0, 1) := by decide +kernel
theorem dX9_lift_219 : decode cX9_lift 219 = .ok (.getfield 89, 3) := by decide +kernel
theorem dX9_lift_222 : decode cX9_lift 222 = .ok (.iload_n 3, 1) := by decide +kernel
theorem dX9_lift_223 : decode cX9_lift 223 = .ok (.iconst (-1), 1) := by decide +kernel
theorem dX9_lift_224 : decode cX9_lift 224 = .ok (.iastore, 1) := by decide +kernel
theorem dX9_lift_225 : decode cX9_lift 225 = .ok (.goto (-188), 3) := by decide +kernel
theorem dX9_lift_228 : decode cX9_lift 228 = .ok (.aload_n 0, 1) := by decide +kernel
theorem dX9_lift_229 : decode cX9_lift 229 = .ok (.invokevirtual 443, 3) := by decide +kernel
theorem dX9_lift_232 : decode cX9_lift 232 = .ok (.aload_n 0, 1) := by decide +kernel
theorem dX9_lift_233 : decode cX9_lift 233 = .ok (.getfield 405, 3) := by decide +kernel
theorem dX9_lift_236 : decode cX9_lift 236 = .ok (.ifCond .eq 10, 3) := by decide +kernel
theorem dX9_lift_239 : decode cX9_lift 239 = .ok (.aload_n 0, 1) := by decide +kernel
theorem dX9_lift_240 : decode cX9_lift 240 = .ok (.getfield 408, 3) := by decide +kernel
theorem dX9_lift_243 : decode cX9_lift 243 = .ok (.goto 4, 3) := by decide +kernel
theorem dX9_lift_246 : decode cX9_lift 246 = .ok (.iconst (-1), 1) := by decide +kernel
theorem dX9_lift_247 : decode cX9_lift 247 = .ok (.ireturn, 1) := by decide +kernel
theorem dX9_loses_0 : decode cX9_loses 0 = .ok (.iconst 0, 1) := by decide +kernel
theorem dX9_loses_1 : decode cX9_loses 1 = .ok (.istore_n 2, 1) := by decide +kernel
theorem dX9_loses_2 : decode cX9_loses 2 = .ok (.iload_n 2, 1) := by decide +kernel
theorem dX9_loses_3 : decode cX9_loses 3 = .ok (.aload_n 0, 1) := by decide +kernel
theorem dX9_loses_4 : decode cX9_loses 4 = .ok (.getfield 459, 3) := by decide +kernel
theorem dX9_loses_7 : decode cX9_loses 7 = .ok (.if_icmp .ge 37, 3) := by decide +kernel
theorem dX9_loses_10 : decode cX9_loses 10 = .ok (.aload_n 0, 1) := by decide +kernel
theorem dX9_loses_11 : decode cX9_loses 11 = .ok (.getfield 104, 3) := by decide +kernel
theorem dX9_loses_14 : decode cX9_loses 14 = .ok (.iload_n 2, 1) := by decide +kernel
theorem dX9_loses_15 : decode cX9_loses 15 = .ok (.iaload, 1) := by decide +kernel
theorem dX9_loses_16 : decode cX9_loses 16 = .ok (.iload_n 1, 1) := by decide +kernel
theorem dX9_loses_17 : decode cX9_loses 17 = .ok (.iand, 1) := by decide +kernel
theorem dX9_loses_18 : decode cX9_loses 18 = .ok (.ifCond .ne 20, 3) := by decide +kernel
theorem dX9_loses_21 : decode cX9_loses 21 = .ok (.aload_n 0, 1) := by decide +kernel
theorem dX9_loses_22 : decode cX9_loses 22 = .ok (.iload_n 1, 1) := by decide +kernel
theorem dX9_loses_23 : decode cX9_loses 23 = .ok (.aload_n 0, 1) := by decide +kernel
theorem dX9_loses_24 : decode cX9_loses 24 = .ok (.getfield 104, 3) := by decide +kernel
theorem dX9_loses_27 : decode cX9_loses 27 = .ok (.iload_n 2, 1) := by decide +kernel
theorem dX9_loses_28 : decode cX9_loses 28 = .ok (.iaload, 1) := by decide +kernel
theorem dX9_loses_29 : decode cX9_loses 29 = .ok (.ior, 1) := by decide +kernel
theorem dX9_loses_30 : decode cX9_loses 30 = .ok (.invokevirtual 468, 3) := by decide +kernel
theorem dX9_loses_33 : decode cX9_loses 33 = .ok (.ifCond .ne 5, 3) := by decide +kernel
theorem dX9_loses_36 : decode cX9_loses 36 = .ok (.iconst 0, 1) := by decide +kernel
theorem dX9_loses_37 : decode cX9_loses 37 = .ok (.ireturn, 1) := by decide +kernel
theorem dX9_loses_38 : decode cX9_loses 38 = .ok (.iinc 2 1, 3) := by decide +kernel
theorem dX9_loses_41 : decode cX9_loses 41 = .ok (.goto (-39), 3) := by decide +kernel
theorem dX9_loses_44 : decode cX9_loses 44 = .ok (.iconst 1, 1) := by decide +kernel
theorem dX9_loses_45 : decode cX9_loses 45 = .ok (.ireturn, 1) := by decide +kernel
theorem dX9_manyIn_0 : decode cX9_manyIn 0 = .ok (.aload_n 0, 1) := by decide +kernel
theorem dX9_manyIn_1 : decode cX9_manyIn 1 = .ok (.getfield 20, 3) := by decide +kernel
theorem dX9_manyIn_4 : decode cX9_manyIn 4 = .ok (.aload_n 0, 1) := by decide +kernel
theorem dX9_manyIn_5 : decode cX9_manyIn 5 = .ok (.getfield 248, 3) := by decide +kernel
theorem dX9_manyIn_8 : decode cX9_manyIn 8 = .ok (.iaload, 1) := by decide +kernel
theorem dX9_manyIn_9 : decode cX9_manyIn 9 = .ok (.aload_n 0, 1) := by decide +kernel
theorem dX9_manyIn_10 : decode cX9_manyIn 10 = .ok (.getfield 345, 3) := by decide +kernel
theorem dX9_manyIn_13 : decode cX9_manyIn 13 = .ok (.invokestatic 365, 3) := by decide +kernel
theorem dX9_manyIn_16 : decode cX9_manyIn 16 = .ok (.isub, 1) := by decide +kernel
theorem dX9_manyIn_17 : decode cX9_manyIn 17 = .ok (.ireturn, 1) := by decide +kernel
theorem dX9_mays_0 : decode cX9_mays 0 = .ok (.aload_n 0, 1) := by decide +kernel
theorem dX9_mays_1 : decode cX9_mays 1 = .ok (.invokevirtual 462, 3) := by decide +kernel
theorem dX9_mays_4 : decode cX9_mays 4 = .ok (.ifCond .ne 6, 3) := by decide +kernel
theorem dX9_mays_7 : decode cX9_mays 7 = .ok (.bipush (-2), 2) := by decide +kernel
theorem dX9_mays_9 : decode cX9_mays 9 = .ok (.ireturn, 1) := by decide +kernel
theorem dX9_mays_10 : decode cX9_mays 10 = .ok (.aload_n 0, 1) := by decide +kernel
theorem dX9_mays_11 : decode cX9_mays 11 = .ok (.getfield 459, 3) := by decide +kernel
theorem dX9_mays_14 : decode cX9_mays 14 = .ok (.ifCond .ne 5, 3) := by decide +kernel
theorem dX9_mays_17 : decode cX9_mays 17 = .ok (.iconst 0, 1) := by decide +kernel
theorem dX9_mays_18 : decode cX9_mays 18 = .ok (.ireturn, 1) := by decide +kernel
theorem dX9_mays_19 : decode cX9_mays 19 = .ok (.aload_n 0, 1) := by decide +kernel
theorem dX9_mays_20 : decode cX9_mays 20 = .ok (.getfield 104, 3) := by decide +kernel
theorem dX9_mays_23 : decode cX9_mays 23 = .ok (.iconst 0, 1) := by decide +kernel
theorem dX9_mays_24 : decode cX9_mays 24 = .ok (.iaload, 1) := by decide +kernel
theorem dX9_mays_25 : decode cX9_mays 25 = .ok (.ifCond .ne 7, 3) := by decide +kernel
theorem dX9_mays_28 : decode cX9_mays 28 = .ok (.iconst 1, 1) := by decide +kernel
theorem dX9_mays_29 : decode cX9_mays 29 = .ok (.goto 4, 3) := by decide +kernel
theorem dX9_mays_32 : decode cX9_mays 32 = .ok (.iconst 3, 1) := by decide +kernel
theorem dX9_mays_33 : decode cX9_mays 33 = .ok (.istore_n 1, 1) := by decide +kernel
theorem dX9_mays_34 : decode cX9_mays 34 = .ok (.aload_n 0, 1) := by decide +kernel
theorem dX9_mays_35 : decode cX9_mays 35 = .ok (.iload_n 1, 1) := by decide +kernel
theorem dX9_mays_36 : decode cX9_mays 36 = .ok (.iconst 0, 1) := by decide +kernel
theorem dX9_mays_37 : decode cX9_mays 37 = .ok (.iconst 0, 1) := by decide +kernel
theorem dX9_mays_38 : decode cX9_mays 38 = .ok (.invokevirtual 465, 3) := by decide +kernel
theorem dX9_mays_41 : decode cX9_mays 41 = .ok (.ifCond .ne 9, 3) := by decide +kernel
theorem dX9_mays_44 : decode cX9_mays 44 = .ok (.iinc 1 (-1), 3) := by decide +kernel
theorem dX9_mays_47 : decode cX9_mays 47 = .ok (.goto (-13), 3) := by decide +kernel
theorem dX9_mays_50 : decode cX9_mays 50 = .ok (.iconst 0, 1) := by decide +kernel
theorem dX9_mays_51 : decode cX9_mays 51 = .ok (.istore_n 2, 1) := by decide +kernel
theorem dX9_mays_52 : decode cX9_mays 52 = .ok (.aload_n 0, 1) := by decide +kernel
theorem dX9_mays_53 : decode cX9_mays 53 = .ok (.iload_n 1, 1) := by decide +kernel
theorem dX9_mays_54 : decode cX9_mays 54 = .ok (.iconst 1, 1) := by decide +kernel
theorem dX9_mays_55 : decode cX9_mays 55 = .ok (.isub, 1) := by decide +kernel
theorem dX9_mays_56 : decode cX9_mays 56 = .ok (.iload_n 2, 1) := by decide +kernel
theorem dX9_mays_57 : decode cX9_mays 57 = .ok (.iconst 1, 1) := by decide +kernel
theorem dX9_mays_58 : decode cX9_mays 58 = .ok (.iadd, 1) := by decide +kernel
theorem dX9_mays_59 : decode cX9_mays 59 = .ok (.aload_n 0, 1) := by decide +kernel
theorem dX9_mays_60 : decode cX9_mays 60 = .ok (.getfield 104, 3) := by decide +kernel
theorem dX9_mays_63 : decode cX9_mays 63 = .ok (.iload_n 2, 1) := by decide +kernel
theorem dX9_mays_64 : decode cX9_mays 64 = .ok (.iaload, 1) := by decide +kernel
theorem dX9_mays_65 : decode cX9_mays 65 = .ok (.invokevirtual 465, 3) := by decide +kernel
theorem dX9_mays_68 : decode cX9_mays 68 = .ok (.ifCond .ne 9, 3) := by decide +kernel
theorem dX9_mays_71 : decode cX9_mays 71 = .ok (.iinc 2 1, 3) := by decide +kernel
theorem dX9_mays_74 : decode cX9_mays 74 = .ok (.goto (-22), 3) := by decide +kernel
theorem dX9_mays_77 : decode cX9_mays 77 = .ok (.aload_n 0, 1) := by decide +kernel
theorem dX9_mays_78 : decode cX9_mays 78 = .ok (.iconst 1, 1) := by decide +kernel
theorem dX9_mays_79 : decode cX9_mays 79 = .ok (.putfield 358, 3) := by decide +kernel
theorem dX9_mays_82 : decode cX9_mays 82 = .ok (.iconst 0, 1) := by decide +kernel
theorem dX9_mays_83 : decode cX9_mays 83 = .ok (.istore_n 3, 1) := by decide +kernel
theorem dX9_mays_84 : decode cX9_mays 84 = .ok (.iload_n 3, 1) := by decide +kernel
theorem dX9_mays_85 : decode cX9_mays 85 = .ok (.aload_n 0, 1) := by decide +kernel
theorem dX9_mays_86 : decode cX9_mays 86 = .ok (.invokevirtual 381, 3) := by decide +kernel
theorem dX9_mays_89 : decode cX9_mays 89 = .ok (.if_icmp .ge 28, 3) := by decide +kernel
theorem dX9_mays_92 : decode cX9_mays 92 = .ok (.aload_n 0, 1) := by decide +kernel
theorem dX9_mays_93 : decode cX9_mays 93 = .ok (.getfield 95, 3) := by decide +kernel
theorem dX9_mays_96 : decode cX9_mays 96 = .ok (.iload_n 3, 1) := by decide +kernel
theorem dX9_mays_97 : decode cX9_mays 97 = .ok (.aload_n 0, 1) := by decide +kernel
theorem dX9_mays_98 : decode cX9_mays 98 = .ok (.getfield 107, 3) := by decide +kernel
theorem dX9_mays_101 : decode cX9_mays 101 = .ok (.iload_n 2, 1) := by decide +kernel
theorem dX9_mays_102 : decode cX9_mays 102 = .ok (.iaload, 1) := by decide +kernel
theorem dX9_mays_103 : decode cX9_mays 103 = .ok (.iconst 4, 1) := by decide +kernel
theorem dX9_mays_104 : decode cX9_mays 104 = .ok (.iload_n 3, 1) := by decide +kernel
theorem dX9_mays_105 : decode cX9_mays 105 = .ok (.imul, 1) := by decide +kernel
theorem dX9_mays_106 : decode cX9_mays 106 = .ok (.ishr, 1) := by decide +kernel
theorem dX9_mays_107 : decode cX9_mays 107 = .ok (.bipush 15, 2) := by decide +kernel
theorem dX9_mays_109 : decode cX9_mays 109 = .ok (.iand, 1) := by decide +kernel
theorem dX9_mays_110 : decode cX9_mays 110 = .ok (.iastore, 1) := by decide +kernel
theorem dX9_mays_111 : decode cX9_mays 111 = .ok (.iinc 3 1, 3) := by decide +kernel
theorem dX9_mays_114 : decode cX9_mays 114 = .ok (.goto (-30), 3) := by decide +kernel
theorem dX9_mays_117 : decode cX9_mays 117 = .ok (.iload_n 1, 1) := by decide +kernel
theorem dX9_mays_118 : decode cX9_mays 118 = .ok (.ireturn, 1) := by decide +kernel
theorem dX9_meets_0 : decode cX9_meets 0 = .ok (.aload_n 0, 1) := by decide +kernel
theorem dX9_meets_1 : decode cX9_meets 1 = .ok (.getfield 411, 3) := by decide +kernel
theorem dX9_meets_4 : decode cX9_meets 4 = .ok (.iconst 5, 1) := by decide +kernel
theorem dX9_meets_5 : decode cX9_meets 5 = .ok (.if_icmp .ne 12, 3) := by decide +kernel
theorem dX9_meets_8 : decode cX9_meets 8 = .ok (.aload_n 0, 1) := by decide +kernel
theorem dX9_meets_9 : decode cX9_meets 9 = .ok (.invokevirtual 414, 3) := by decide +kernel
theorem dX9_meets_12 : decode cX9_meets 12 = .ok (.ifCond .ne 5, 3) := by decide +kernel
theorem dX9_meets_15 : decode cX9_meets 15 = .ok (.iconst 1, 1) := by decide +kernel
theorem dX9_meets_16 : decode cX9_meets 16 = .ok (.ireturn, 1) := by decide +kernel
theorem dX9_meets_17 : decode cX9_meets 17 = .ok (.aload_n 0, 1) := by decide +kernel
theorem dX9_meets_18 : decode cX9_meets 18 = .ok (.getfield 411, 3) := by decide +kernel
theorem dX9_meets_21 : decode cX9_meets 21 = .ok (.iconst 5, 1) := by decide +kernel
theorem dX9_meets_22 : decode cX9_meets 22 = .ok (.if_icmp .ne 7, 3) := by decide +kernel
theorem dX9_meets_25 : decode cX9_meets 25 = .ok (.aload_n 0, 1) := by decide +kernel
theorem dX9_meets_26 : decode cX9_meets 26 = .ok (.invokevirtual 417, 3) := by decide +kernel
theorem dX9_meets_29 : decode cX9_meets 29 = .ok (.aload_n 0, 1) := by decide +kernel
theorem dX9_meets_30 : decode cX9_meets 30 = .ok (.getfield 411, 3) := by decide +kernel
theorem dX9_meets_33 : decode cX9_meets 33 = .ok (.bipush 6, 2) := by decide +kernel
theorem dX9_meets_35 : decode cX9_meets 35 = .ok (.if_icmp .ne 7, 3) := by decide +kernel
theorem dX9_meets_38 : decode cX9_meets 38 = .ok (.aload_n 0, 1) := by decide +kernel
theorem dX9_meets_39 : decode cX9_meets 39 = .ok (.invokevirtual 420, 3) := by decide +kernel
theorem dX9_meets_42 : decode cX9_meets 42 = .ok (.aload_n 0, 1) := by decide +kernel
theorem dX9_meets_43 : decode cX9_meets 43 = .ok (.getfield 411, 3) := by decide +kernel
theorem dX9_meets_46 : decode cX9_meets 46 = .ok (.iconst 2, 1) := by decide +kernel
theorem dX9_meets_47 : decode cX9_meets 47 = .ok (.if_icmp .ne 10, 3) := by decide +kernel
theorem dX9_meets_50 : decode cX9_meets 50 = .ok (.aload_n 0, 1) := by decide +kernel
theorem dX9_meets_51 : decode cX9_meets 51 = .ok (.invokevirtual 387, 3) := by decide +kernel
theorem dX9_meets_54 : decode cX9_meets 54 = .ok (.goto 20, 3) := by decide +kernel
theorem dX9_meets_57 : decode cX9_meets 57 = .ok (.aload_n 0, 1) := by decide +kernel
theorem dX9_meets_58 : decode cX9_meets 58 = .ok (.getfield 411, 3) := by decide +kernel
theorem dX9_meets_61 : decode cX9_meets 61 = .ok (.iconst 3, 1) := by decide +kernel
theorem dX9_meets_62 : decode cX9_meets 62 = .ok (.if_icmp .ne 11, 3) := by decide +kernel
theorem dX9_meets_65 : decode cX9_meets 65 = .ok (.aload_n 0, 1) := by decide +kernel
theorem dX9_meets_66 : decode cX9_meets 66 = .ok (.invokevirtual 390, 3) := by decide +kernel
theorem dX9_meets_69 : decode cX9_meets 69 = .ok (.ineg, 1) := by decide +kernel
theorem dX9_meets_70 : decode cX9_meets 70 = .ok (.goto 4, 3) := by decide +kernel
theorem dX9_meets_73 : decode cX9_meets 73 = .ok (.iconst 0, 1) := by decide +kernel
theorem dX9_meets_74 : decode cX9_meets 74 = .ok (.istore_n 1, 1) := by decide +kernel
theorem dX9_meets_75 : decode cX9_meets 75 = .ok (.aload_n 0, 1) := by decide +kernel
theorem dX9_meets_76 : decode cX9_meets 76 = .ok (.getfield 411, 3) := by decide +kernel
theorem dX9_meets_79 : decode cX9_meets 79 = .ok (.iconst 4, 1) := by decide +kernel
theorem dX9_meets_80 : decode cX9_meets 80 = .ok (.if_icmp .ne 22, 3) := by decide +kernel
theorem dX9_meets_83 : decode cX9_meets 83 = .ok (.aload_n 0, 1) := by decide +kernel
theorem dX9_meets_84 : decode cX9_meets 84 = .ok (.getfield 423, 3) := by decide +kernel
theorem dX9_meets_87 : decode cX9_meets 87 = .ok (.aload_n 0, 1) := by decide +kernel
theorem dX9_meets_88 : decode cX9_meets 88 = .ok (.getfield 426, 3) := by decide +kernel
theorem dX9_meets_91 : decode cX9_meets 91 = .ok (.if_icmp .ne 7, 3) := by decide +kernel
theorem dX9_meets_94 : decode cX9_meets 94 = .ok (.iconst 1, 1) := by decide +kernel
theorem dX9_meets_95 : decode cX9_meets 95 = .ok (.goto 43, 3) := by decide +kernel
theorem dX9_meets_98 : decode cX9_meets 98 = .ok (.iconst 0, 1) := by decide +kernel
theorem dX9_meets_99 : decode cX9_meets 99 = .ok (.goto 39, 3) := by decide +kernel
theorem dX9_meets_102 : decode cX9_meets 102 = .ok (.aload_n 0, 1) := by decide +kernel
theorem dX9_meets_103 : decode cX9_meets 103 = .ok (.getfield 405, 3) := by decide +kernel
theorem dX9_meets_106 : decode cX9_meets 106 = .ok (.ifCond .eq 27, 3) := by decide +kernel
theorem dX9_meets_109 : decode cX9_meets 109 = .ok (.aload_n 0, 1) := by decide +kernel
theorem dX9_meets_110 : decode cX9_meets 110 = .ok (.getfield 411, 3) := by decide +kernel
theorem dX9_meets_113 : decode cX9_meets 113 = .ok (.iconst 2, 1) := by decide +kernel
theorem dX9_meets_114 : decode cX9_meets 114 = .ok (.if_icmp .eq 11, 3) := by decide +kernel
theorem dX9_meets_117 : decode cX9_meets 117 = .ok (.aload_n 0, 1) := by decide +kernel
theorem dX9_meets_118 : decode cX9_meets 118 = .ok (.getfield 411, 3) := by decide +kernel
theorem dX9_meets_121 : decode cX9_meets 121 = .ok (.iconst 3, 1) := by decide +kernel
theorem dX9_meets_122 : decode cX9_meets 122 = .ok (.if_icmp .ne 15, 3) := by decide +kernel
theorem dX9_meets_125 : decode cX9_meets 125 = .ok (.iload_n 1, 1) := by decide +kernel
theorem dX9_meets_126 : decode cX9_meets 126 = .ok (.aload_n 0, 1) := by decide +kernel
theorem dX9_meets_127 : decode cX9_meets 127 = .ok (.getfield 408, 3) := by decide +kernel
theorem dX9_meets_130 : decode cX9_meets 130 = .ok (.if_icmp .le 7, 3) := by decide +kernel
theorem dX9_meets_133 : decode cX9_meets 133 = .ok (.iconst 1, 1) := by decide +kernel
theorem dX9_meets_134 : decode cX9_meets 134 = .ok (.goto 4, 3) := by decide +kernel
theorem dX9_meets_137 : decode cX9_meets 137 = .ok (.iconst 0, 1) := by decide +kernel
theorem dX9_meets_138 : decode cX9_meets 138 = .ok (.istore_n 2, 1) := by decide +kernel
theorem dX9_meets_139 : decode cX9_meets 139 = .ok (.iload_n 2, 1) := by decide +kernel
theorem dX9_meets_140 : decode cX9_meets 140 = .ok (.ifCond .eq 8, 3) := by decide +kernel
theorem dX9_meets_143 : decode cX9_meets 143 = .ok (.aload_n 0, 1) := by decide +kernel
theorem dX9_meets_144 : decode cX9_meets 144 = .ok (.iload_n 1, 1) := by decide +kernel
theorem dX9_meets_145 : decode cX9_meets 145 = .ok (.invokevirtual 429, 3) := by decide +kernel
theorem dX9_meets_148 : decode cX9_meets 148 = .ok (.aload_n 0, 1) := by decide +kernel
theorem dX9_meets_149 : decode cX9_meets 149 = .ok (.dup, 1) := by decide +kernel
theorem dX9_meets_150 : decode cX9_meets 150 = .ok (.getfield 423, 3) := by decide +kernel
theorem dX9_meets_153 : decode cX9_meets 153 = .ok (.iconst 1, 1) := by decide +kernel
theorem dX9_meets_154 : decode cX9_meets 154 = .ok (.iadd, 1) := by decide +kernel
theorem dX9_meets_155 : decode cX9_meets 155 = .ok (.putfield 423, 3) := by decide +kernel
theorem dX9_meets_158 : decode cX9_meets 158 = .ok (.aload_n 0, 1) := by decide +kernel
theorem dX9_meets_159 : decode cX9_meets 159 = .ok (.getfield 411, 3) := by decide +kernel
theorem dX9_meets_162 : decode cX9_meets 162 = .ok (.iconst 1, 1) := by decide +kernel
theorem dX9_meets_163 : decode cX9_meets 163 = .ok (.if_icmp .eq 19, 3) := by decide +kernel
theorem dX9_meets_166 : decode cX9_meets 166 = .ok (.aload_n 0, 1) := by decide +kernel
theorem dX9_meets_167 : decode cX9_meets 167 = .ok (.getfield 411, 3) := by decide +kernel
theorem dX9_meets_170 : decode cX9_meets 170 = .ok (.iconst 4, 1) := by decide +kernel
theorem dX9_meets_171 : decode cX9_meets 171 = .ok (.if_icmp .ne 7, 3) := by decide +kernel
theorem dX9_meets_174 : decode cX9_meets 174 = .ok (.iload_n 2, 1) := by decide +kernel
theorem dX9_meets_175 : decode cX9_meets 175 = .ok (.ifCond .ne 7, 3) := by decide +kernel
theorem dX9_meets_178 : decode cX9_meets 178 = .ok (.iconst 1, 1) := by decide +kernel
theorem dX9_meets_179 : decode cX9_meets 179 = .ok (.goto 4, 3) := by decide +kernel
theorem dX9_meets_182 : decode cX9_meets 182 = .ok (.iconst 0, 1) := by decide +kernel
theorem dX9_meets_183 : decode cX9_meets 183 = .ok (.ireturn, 1) := by decide +kernel
theorem dX9_misplaced_0 : decode cX9_misplaced 0 = .ok (.aload_n 0, 1) := by decide +kernel
theorem dX9_misplaced_1 : decode cX9_misplaced 1 = .ok (.aload_n 0, 1) := by decide +kernel
theorem dX9_misplaced_2 : decode cX9_misplaced 2 = .ok (.getfield 201, 3) := by decide +kernel
theorem dX9_misplaced_5 : decode cX9_misplaced 5 = .ok (.iconst 1, 1) := by decide +kernel
theorem dX9_misplaced_6 : decode cX9_misplaced 6 = .ok (.if_icmp .ne 7, 3) := by decide +kernel
theorem dX9_misplaced_9 : decode cX9_misplaced 9 = .ok (.iconst 1, 1) := by decide +kernel
theorem dX9_misplaced_10 : decode cX9_misplaced 10 = .ok (.goto 4, 3) := by decide +kernel
theorem dX9_misplaced_13 : decode cX9_misplaced 13 = .ok (.iconst 2, 1) := by decide +kernel
theorem dX9_misplaced_14 : decode cX9_misplaced 14 = .ok (.aload_n 0, 1) := by decide +kernel
theorem dX9_misplaced_15 : decode cX9_misplaced 15 = .ok (.getfield 194, 3) := by decide +kernel
theorem dX9_misplaced_18 : decode cX9_misplaced 18 = .ok (.invokevirtual 225, 3) := by decide +kernel
theorem dX9_misplaced_21 : decode cX9_misplaced 21 = .ok (.return_, 1) := by decide +kernel
theorem dX9_must_0 : decode cX9_must 0 = .ok (.aload_n 0, 1) := by decide +kernel
theorem dX9_must_1 : decode cX9_must 1 = .ok (.invokevirtual 229, 3) := by decide +kernel
theorem dX9_must_4 : decode cX9_must 4 = .ok (.ifCond .ne 4, 3) := by decide +kernel
theorem dX9_must_7 : decode cX9_must 7 = .ok (.return_, 1) := by decide +kernel
theorem dX9_must_8 : decode cX9_must 8 = .ok (.iload_n 1, 1) := by decide +kernel
theorem dX9_must_9 : decode cX9_must 9 = .ok (.ifCond .eq 10, 3) := by decide +kernel
theorem dX9_must_12 : decode cX9_must 12 = .ok (.aload_n 0, 1) := by decide +kernel
theorem dX9_must_13 : decode cX9_must 13 = .ok (.invokevirtual 233, 3) := by decide +kernel
theorem dX9_must_16 : decode cX9_must 16 = .ok (.goto 7, 3) := by decide +kernel
theorem dX9_must_19 : decode cX9_must 19 = .ok (.aload_n 0, 1) := by decide +kernel
theorem dX9_must_20 : decode cX9_must 20 = .ok (.invokevirtual 236, 3) := by decide +kernel
theorem dX9_must_23 : decode cX9_must 23 = .ok (.return_, 1) := by decide +kernel
theorem dX9_nearest_0 : decode cX9_nearest 0 = .ok (.aload_n 0, 1) := by decide +kernel
theorem dX9_nearest_1 : decode cX9_nearest 1 = .ok (.iconst 3, 1) := by decide +kernel
theorem dX9_nearest_2 : decode cX9_nearest 2 = .ok (.invokevirtual 440, 3) := by decide +kernel
theorem dX9_nearest_5 : decode cX9_nearest 5 = .ok (.aload_n 0, 1) := by decide +kernel
theorem dX9_nearest_6 : decode cX9_nearest 6 = .ok (.invokevirtual 443, 3) := by decide +kernel
theorem dX9_nearest_9 : decode cX9_nearest 9 = .ok (.aload_n 0, 1) := by decide +kernel
theorem dX9_nearest_10 : decode cX9_nearest 10 = .ok (.getfield 405, 3) := by decide +kernel
theorem dX9_nearest_13 : decode cX9_nearest 13 = .ok (.ifCond .eq 11, 3) := by decide +kernel
theorem dX9_nearest_16 : decode cX9_nearest 16 = .ok (.aload_n 0, 1) := by decide +kernel
theorem dX9_nearest_17 : decode cX9_nearest 17 = .ok (.getfield 408, 3) := by decide +kernel
theorem dX9_nearest_20 : decode cX9_nearest 20 = .ok (.ineg, 1) := by decide +kernel
theorem dX9_nearest_21 : decode cX9_nearest 21 = .ok (.goto 4, 3) := by decide +kernel
theorem dX9_nearest_24 : decode cX9_nearest 24 = .ok (.iconst (-1), 1) := by decide +kernel
theorem dX9_nearest_25 : decode cX9_nearest 25 = .ok (.ireturn, 1) := by decide +kernel
theorem dX9_numeral_0 : decode cX9_numeral 0 = .ok (.aload_n 0, 1) := by decide +kernel
theorem dX9_numeral_1 : decode cX9_numeral 1 = .ok (.invokevirtual 229, 3) := by decide +kernel
theorem dX9_numeral_4 : decode cX9_numeral 4 = .ok (.ifCond .ne 5, 3) := by decide +kernel
theorem dX9_numeral_7 : decode cX9_numeral 7 = .ok (.iload_n 1, 1) := by decide +kernel
theorem dX9_numeral_8 : decode cX9_numeral 8 = .ok (.ireturn, 1) := by decide +kernel
theorem dX9_numeral_9 : decode cX9_numeral 9 = .ok (.aload_n 0, 1) := by decide +kernel
theorem dX9_numeral_10 : decode cX9_numeral 10 = .ok (.getfield 201, 3) := by decide +kernel
theorem dX9_numeral_13 : decode cX9_numeral 13 = .ok (.iconst 4, 1) := by decide +kernel
theorem dX9_numeral_14 : decode cX9_numeral 14 = .ok (.if_icmp .eq 7, 3) := by decide +kernel
theorem dX9_numeral_17 : decode cX9_numeral 17 = .ok (.aload_n 0, 1) := by decide +kernel
theorem dX9_numeral_18 : decode cX9_numeral 18 = .ok (.invokevirtual 236, 3) := by decide +kernel
theorem dX9_numeral_21 : decode cX9_numeral 21 = .ok (.aload_n 0, 1) := by decide +kernel
theorem dX9_numeral_22 : decode cX9_numeral 22 = .ok (.invokevirtual 229, 3) := by decide +kernel
theorem dX9_numeral_25 : decode cX9_numeral 25 = .ok (.ifCond .eq 28, 3) := by decide +kernel
theorem dX9_numeral_28 : decode cX9_numeral 28 = .ok (.aload_n 0, 1) := by decide +kernel
theorem dX9_numeral_29 : decode cX9_numeral 29 = .ok (.getfield 219, 3) := by decide +kernel
theorem dX9_numeral_32 : decode cX9_numeral 32 = .ok (.iload_n 1, 1) := by decide +kernel
theorem dX9_numeral_33 : decode cX9_numeral 33 = .ok (.if_icmp .lt 11, 3) := by decide +kernel
theorem dX9_numeral_36 : decode cX9_numeral 36 = .ok (.aload_n 0, 1) := by decide +kernel
theorem dX9_numeral_37 : decode cX9_numeral 37 = .ok (.getfield 219, 3) := by decide +kernel
theorem dX9_numeral_40 : decode cX9_numeral 40 = .ok (.iload_n 2, 1) := by decide +kernel
theorem dX9_numeral_41 : decode cX9_numeral 41 = .ok (.if_icmp .le 12, 3) := by decide +kernel
theorem dX9_numeral_44 : decode cX9_numeral 44 = .ok (.aload_n 0, 1) := by decide +kernel
theorem dX9_numeral_45 : decode cX9_numeral 45 = .ok (.iconst 4, 1) := by decide +kernel
theorem dX9_numeral_46 : decode cX9_numeral 46 = .ok (.aload_n 0, 1) := by decide +kernel
theorem dX9_numeral_47 : decode cX9_numeral 47 = .ok (.getfield 194, 3) := by decide +kernel
theorem dX9_numeral_50 : decode cX9_numeral 50 = .ok (.invokevirtual 225, 3) := by decide +kernel
theorem dX9_numeral_53 : decode cX9_numeral 53 = .ok (.aload_n 0, 1) := by decide +kernel
theorem dX9_numeral_54 : decode cX9_numeral 54 = .ok (.getfield 219, 3) := by decide +kernel
theorem dX9_numeral_57 : decode cX9_numeral 57 = .ok (.istore_n 3, 1) := by decide +kernel
theorem dX9_numeral_58 : decode cX9_numeral 58 = .ok (.aload_n 0, 1) := by decide +kernel
theorem dX9_numeral_59 : decode cX9_numeral 59 = .ok (.invokevirtual 229, 3) := by decide +kernel
theorem dX9_numeral_62 : decode cX9_numeral 62 = .ok (.ifCond .eq 7, 3) := by decide +kernel
theorem dX9_numeral_65 : decode cX9_numeral 65 = .ok (.aload_n 0, 1) := by decide +kernel
theorem dX9_numeral_66 : decode cX9_numeral 66 = .ok (.invokevirtual 233, 3) := by decide +kernel
theorem dX9_numeral_69 : decode cX9_numeral 69 = .ok (.aload_n 0, 1) := by decide +kernel
theorem dX9_numeral_70 : decode cX9_numeral 70 = .ok (.invokevirtual 229, 3) := by decide +kernel
theorem dX9_numeral_73 : decode cX9_numeral 73 = .ok (.ifCond .eq 7, 3) := by decide +kernel
theorem dX9_numeral_76 : decode cX9_numeral 76 = .ok (.iload_n 3, 1) := by decide +kernel
theorem dX9_numeral_77 : decode cX9_numeral 77 = .ok (.goto 4, 3) := by decide +kernel
theorem dX9_numeral_80 : decode cX9_numeral 80 = .ok (.iload_n 1, 1) := by decide +kernel
theorem dX9_numeral_81 : decode cX9_numeral 81 = .ok (.ireturn, 1) := by decide +kernel
theorem dX9_pairBit_0 : decode cX9_pairBit 0 = .ok (.iload_n 0, 1) := by decide +kernel
theorem dX9_pairBit_1 : decode cX9_pairBit 1 = .ok (.iload_n 1, 1) := by decide +kernel
theorem dX9_pairBit_2 : decode cX9_pairBit 2 = .ok (.if_icmp .ge 7, 3) := by decide +kernel
theorem dX9_pairBit_5 : decode cX9_pairBit 5 = .ok (.iload_n 0, 1) := by decide +kernel
theorem dX9_pairBit_6 : decode cX9_pairBit 6 = .ok (.goto 4, 3) := by decide +kernel
theorem dX9_pairBit_9 : decode cX9_pairBit 9 = .ok (.iload_n 1, 1) := by decide +kernel
theorem dX9_pairBit_10 : decode cX9_pairBit 10 = .ok (.istore_n 2, 1) := by decide +kernel
theorem dX9_pairBit_11 : decode cX9_pairBit 11 = .ok (.iload_n 0, 1) := by decide +kernel
theorem dX9_pairBit_12 : decode cX9_pairBit 12 = .ok (.iload_n 1, 1) := by decide +kernel
theorem dX9_pairBit_13 : decode cX9_pairBit 13 = .ok (.if_icmp .ge 7, 3) := by decide +kernel
theorem dX9_pairBit_16 : decode cX9_pairBit 16 = .ok (.iload_n 1, 1) := by decide +kernel
theorem dX9_pairBit_17 : decode cX9_pairBit 17 = .ok (.goto 4, 3) := by decide +kernel
theorem dX9_pairBit_20 : decode cX9_pairBit 20 = .ok (.iload_n 0, 1) := by decide +kernel
theorem dX9_pairBit_21 : decode cX9_pairBit 21 = .ok (.istore_n 3, 1) := by decide +kernel
theorem dX9_pairBit_22 : decode cX9_pairBit 22 = .ok (.iconst 1, 1) := by decide +kernel
theorem dX9_pairBit_23 : decode cX9_pairBit 23 = .ok (.iload_n 3, 1) := by decide +kernel
theorem dX9_pairBit_24 : decode cX9_pairBit 24 = .ok (.iload_n 3, 1) := by decide +kernel
theorem dX9_pairBit_25 : decode cX9_pairBit 25 = .ok (.iconst 1, 1) := by decide +kernel
theorem dX9_pairBit_26 : decode cX9_pairBit 26 = .ok (.isub, 1) := by decide +kernel
theorem dX9_pairBit_27 : decode cX9_pairBit 27 = .ok (.imul, 1) := by decide +kernel
theorem dX9_pairBit_28 : decode cX9_pairBit 28 = .ok (.iconst 2, 1) := by decide +kernel
theorem dX9_pairBit_29 : decode cX9_pairBit 29 = .ok (.idiv, 1) := by decide +kernel
theorem dX9_pairBit_30 : decode cX9_pairBit 30 = .ok (.iload_n 2, 1) := by decide +kernel
theorem dX9_pairBit_31 : decode cX9_pairBit 31 = .ok (.iadd, 1) := by decide +kernel
theorem dX9_pairBit_32 : decode cX9_pairBit 32 = .ok (.ishl, 1) := by decide +kernel
theorem dX9_pairBit_33 : decode cX9_pairBit 33 = .ok (.ireturn, 1) := by decide +kernel
theorem dX9_pushE_0 : decode cX9_pushE 0 = .ok (.aload_n 0, 1) := by decide +kernel
theorem dX9_pushE_1 : decode cX9_pushE 1 = .ok (.getfield 68, 3) := by decide +kernel
theorem dX9_pushE_4 : decode cX9_pushE 4 = .ok (.aload_n 0, 1) := by decide +kernel
theorem dX9_pushE_5 : decode cX9_pushE 5 = .ok (.getfield 299, 3) := by decide +kernel
theorem dX9_pushE_8 : decode cX9_pushE 8 = .ok (.iload_n 1, 1) := by decide +kernel
theorem dX9_pushE_9 : decode cX9_pushE 9 = .ok (.iastore, 1) := by decide +kernel
theorem dX9_pushE_10 : decode cX9_pushE 10 = .ok (.aload_n 0, 1) := by decide +kernel
theorem dX9_pushE_11 : decode cX9_pushE 11 = .ok (.getfield 71, 3) := by decide +kernel
theorem dX9_pushE_14 : decode cX9_pushE 14 = .ok (.aload_n 0, 1) := by decide +kernel
theorem dX9_pushE_15 : decode cX9_pushE 15 = .ok (.getfield 299, 3) := by decide +kernel
theorem dX9_pushE_18 : decode cX9_pushE 18 = .ok (.iload_n 2, 1) := by decide +kernel
theorem dX9_pushE_19 : decode cX9_pushE 19 = .ok (.iastore, 1) := by decide +kernel
theorem dX9_pushE_20 : decode cX9_pushE 20 = .ok (.aload_n 0, 1) := by decide +kernel
theorem dX9_pushE_21 : decode cX9_pushE 21 = .ok (.dup, 1) := by decide +kernel
theorem dX9_pushE_22 : decode cX9_pushE 22 = .ok (.getfield 299, 3) := by decide +kernel
theorem dX9_pushE_25 : decode cX9_pushE 25 = .ok (.iconst 1, 1) := by decide +kernel
theorem dX9_pushE_26 : decode cX9_pushE 26 = .ok (.iadd, 1) := by decide +kernel
theorem dX9_pushE_27 : decode cX9_pushE 27 = .ok (.putfield 299, 3) := by decide +kernel
theorem dX9_pushE_30 : decode cX9_pushE 30 = .ok (.return_, 1) := by decide +kernel
theorem dX9_rankHere_0 : decode cX9_rankHere 0 = .ok (.aload_n 0, 1) := by decide +kernel
theorem dX9_rankHere_1 : decode cX9_rankHere 1 = .ok (.ldc2_w 185, 3) := by decide +kernel
theorem dX9_rankHere_4 : decode cX9_rankHere 4 = .ok (.invokevirtual 257, 3) := by decide +kernel
theorem dX9_rankHere_7 : decode cX9_rankHere 7 = .ok (.ifCond .eq 5, 3) := by decide +kernel
theorem dX9_rankHere_10 : decode cX9_rankHere 10 = .ok (.iconst 2, 1) := by decide +kernel
theorem dX9_rankHere_11 : decode cX9_rankHere 11 = .ok (.ireturn, 1) := by decide +kernel
theorem dX9_rankHere_12 : decode cX9_rankHere 12 = .ok (.aload_n 0, 1) := by decide +kernel
theorem dX9_rankHere_13 : decode cX9_rankHere 13 = .ok (.ldc2_w 187, 3) := by decide +kernel
theorem dX9_rankHere_16 : decode cX9_rankHere 16 = .ok (.invokevirtual 257, 3) := by decide +kernel
theorem dX9_rankHere_19 : decode cX9_rankHere 19 = .ok (.ifCond .eq 5, 3) := by decide +kernel
theorem dX9_rankHere_22 : decode cX9_rankHere 22 = .ok (.iconst 1, 1) := by decide +kernel
theorem dX9_rankHere_23 : decode cX9_rankHere 23 = .ok (.ireturn, 1) := by decide +kernel
theorem dX9_rankHere_24 : decode cX9_rankHere 24 = .ok (.aload_n 0, 1) := by decide +kernel
theorem dX9_rankHere_25 : decode cX9_rankHere 25 = .ok (.bipush 60, 2) := by decide +kernel
theorem dX9_rankHere_27 : decode cX9_rankHere 27 = .ok (.invokevirtual 279, 3) := by decide +kernel
theorem dX9_rankHere_30 : decode cX9_rankHere 30 = .ok (.ifCond .ne 21, 3) := by decide +kernel
theorem dX9_rankHere_33 : decode cX9_rankHere 33 = .ok (.aload_n 0, 1) := by decide +kernel
theorem dX9_rankHere_34 : decode cX9_rankHere 34 = .ok (.bipush 62, 2) := by decide +kernel
theorem dX9_rankHere_36 : decode cX9_rankHere 36 = .ok (.invokevirtual 279, 3) := by decide +kernel
theorem dX9_rankHere_39 : decode cX9_rankHere 39 = .ok (.ifCond .ne 12, 3) := by decide +kernel
theorem dX9_rankHere_42 : decode cX9_rankHere 42 = .ok (.aload_n 0, 1) := by decide +kernel
theorem dX9_rankHere_43 : decode cX9_rankHere 43 = .ok (.bipush 61, 2) := by decide +kernel
theorem dX9_rankHere_45 : decode cX9_rankHere 45 = .ok (.invokevirtual 279, 3) := by decide +kernel
theorem dX9_rankHere_48 : decode cX9_rankHere 48 = .ok (.ifCond .eq 5, 3) := by decide +kernel
theorem dX9_rankHere_51 : decode cX9_rankHere 51 = .ok (.iconst 4, 1) := by decide +kernel
theorem dX9_rankHere_52 : decode cX9_rankHere 52 = .ok (.ireturn, 1) := by decide +kernel
theorem dX9_rankHere_53 : decode cX9_rankHere 53 = .ok (.aload_n 0, 1) := by decide +kernel
theorem dX9_rankHere_54 : decode cX9_rankHere 54 = .ok (.bipush 43, 2) := by decide +kernel
theorem dX9_rankHere_56 : decode cX9_rankHere 56 = .ok (.invokevirtual 279, 3) := by decide +kernel
theorem dX9_rankHere_59 : decode cX9_rankHere 59 = .ok (.ifCond .ne 12, 3) := by decide +kernel
theorem dX9_rankHere_62 : decode cX9_rankHere 62 = .ok (.aload_n 0, 1) := by decide +kernel
theorem dX9_rankHere_63 : decode cX9_rankHere 63 = .ok (.bipush 45, 2) := by decide +kernel
theorem dX9_rankHere_65 : decode cX9_rankHere 65 = .ok (.invokevirtual 279, 3) := by decide +kernel
theorem dX9_rankHere_68 : decode cX9_rankHere 68 = .ok (.ifCond .eq 5, 3) := by decide +kernel
theorem dX9_rankHere_71 : decode cX9_rankHere 71 = .ok (.iconst 5, 1) := by decide +kernel
theorem dX9_rankHere_72 : decode cX9_rankHere 72 = .ok (.ireturn, 1) := by decide +kernel
theorem dX9_rankHere_73 : decode cX9_rankHere 73 = .ok (.aload_n 0, 1) := by decide +kernel
theorem dX9_rankHere_74 : decode cX9_rankHere 74 = .ok (.bipush 42, 2) := by decide +kernel
theorem dX9_rankHere_76 : decode cX9_rankHere 76 = .ok (.invokevirtual 279, 3) := by decide +kernel
theorem dX9_rankHere_79 : decode cX9_rankHere 79 = .ok (.ifCond .ne 12, 3) := by decide +kernel
theorem dX9_rankHere_82 : decode cX9_rankHere 82 = .ok (.aload_n 0, 1) := by decide +kernel
theorem dX9_rankHere_83 : decode cX9_rankHere 83 = .ok (.bipush 47, 2) := by decide +kernel
theorem dX9_rankHere_85 : decode cX9_rankHere 85 = .ok (.invokevirtual 279, 3) := by decide +kernel
theorem dX9_rankHere_88 : decode cX9_rankHere 88 = .ok (.ifCond .eq 8, 3) := by decide +kernel
theorem dX9_rankHere_91 : decode cX9_rankHere 91 = .ok (.bipush 6, 2) := by decide +kernel
theorem dX9_rankHere_93 : decode cX9_rankHere 93 = .ok (.goto 4, 3) := by decide +kernel
theorem dX9_rankHere_96 : decode cX9_rankHere 96 = .ok (.iconst 0, 1) := by decide +kernel
theorem dX9_rankHere_97 : decode cX9_rankHere 97 = .ok (.ireturn, 1) := by decide +kernel
theorem dX9_rankOf_0 : decode cX9_rankOf 0 = .ok (.iconst 0, 1) := by decide +kernel
theorem dX9_rankOf_1 : decode cX9_rankOf 1 = .ok (.istore_n 2, 1) := by decide +kernel
theorem dX9_rankOf_2 : decode cX9_rankOf 2 = .ok (.iconst 0, 1) := by decide +kernel
theorem dX9_rankOf_3 : decode cX9_rankOf 3 = .ok (.istore_n 3, 1) := by decide +kernel
theorem dX9_rankOf_4 : decode cX9_rankOf 4 = .ok (.iload_n 3, 1) := by decide +kernel
theorem dX9_rankOf_5 : decode cX9_rankOf 5 = .ok (.iload_n 1, 1) := by decide +kernel
theorem dX9_rankOf_6 : decode cX9_rankOf 6 = .ok (.if_icmp .ge 25, 3) := by decide +kernel
theorem dX9_rankOf_9 : decode cX9_rankOf 9 = .ok (.iload_n 2, 1) := by decide +kernel
theorem dX9_rankOf_10 : decode cX9_rankOf 10 = .ok (.aload_n 0, 1) := by decide +kernel
theorem dX9_rankOf_11 : decode cX9_rankOf 11 = .ok (.iload_n 3, 1) := by decide +kernel
theorem dX9_rankOf_12 : decode cX9_rankOf 12 = .ok (.invokevirtual 374, 3) := by decide +kernel
theorem dX9_rankOf_15 : decode cX9_rankOf 15 = .ok (.ifCond .eq 7, 3) := by decide +kernel
theorem dX9_rankOf_18 : decode cX9_rankOf 18 = .ok (.iconst 0, 1) := by decide +kernel
theorem dX9_rankOf_19 : decode cX9_rankOf 19 = .ok (.goto 4, 3) := by decide +kernel
theorem dX9_rankOf_22 : decode cX9_rankOf 22 = .ok (.iconst 1, 1) := by decide +kernel
theorem dX9_rankOf_23 : decode cX9_rankOf 23 = .ok (.iadd, 1) := by decide +kernel
theorem dX9_rankOf_24 : decode cX9_rankOf 24 = .ok (.istore_n 2, 1) := by decide +kernel
theorem dX9_rankOf_25 : decode cX9_rankOf 25 = .ok (.iinc 3 1, 3) := by decide +kernel
theorem dX9_rankOf_28 : decode cX9_rankOf 28 = .ok (.goto (-24), 3) := by decide +kernel
theorem dX9_rankOf_31 : decode cX9_rankOf 31 = .ok (.iload_n 2, 1) := by decide +kernel
theorem dX9_rankOf_32 : decode cX9_rankOf 32 = .ok (.ireturn, 1) := by decide +kernel
theorem dX9_readBears_0 : decode cX9_readBears 0 = .ok (.aload_n 0, 1) := by decide +kernel
theorem dX9_readBears_1 : decode cX9_readBears 1 = .ok (.getfield 48, 3) := by decide +kernel
theorem dX9_readBears_4 : decode cX9_readBears 4 = .ok (.aload_n 0, 1) := by decide +kernel
theorem dX9_readBears_5 : decode cX9_readBears 5 = .ok (.getfield 239, 3) := by decide +kernel
theorem dX9_readBears_8 : decode cX9_readBears 8 = .ok (.iconst 1, 1) := by decide +kernel
theorem dX9_readBears_9 : decode cX9_readBears 9 = .ok (.bastore, 1) := by decide +kernel
theorem dX9_readBears_10 : decode cX9_readBears 10 = .ok (.aload_n 0, 1) := by decide +kernel
theorem dX9_readBears_11 : decode cX9_readBears 11 = .ok (.getfield 20, 3) := by decide +kernel
theorem dX9_readBears_14 : decode cX9_readBears 14 = .ok (.aload_n 0, 1) := by decide +kernel
theorem dX9_readBears_15 : decode cX9_readBears 15 = .ok (.getfield 239, 3) := by decide +kernel
theorem dX9_readBears_18 : decode cX9_readBears 18 = .ok (.iaload, 1) := by decide +kernel
theorem dX9_readBears_19 : decode cX9_readBears 19 = .ok (.ifCond .ne 7, 3) := by decide +kernel
theorem dX9_readBears_22 : decode cX9_readBears 22 = .ok (.aload_n 0, 1) := by decide +kernel
theorem dX9_readBears_23 : decode cX9_readBears 23 = .ok (.invokevirtual 236, 3) := by decide +kernel
theorem dX9_readBears_26 : decode cX9_readBears 26 = .ok (.iconst 0, 1) := by decide +kernel
theorem dX9_readBears_27 : decode cX9_readBears 27 = .ok (.istore_n 1, 1) := by decide +kernel
theorem dX9_readBears_28 : decode cX9_readBears 28 = .ok (.iload_n 1, 1) := by decide +kernel
theorem dX9_readBears_29 : decode cX9_readBears 29 = .ok (.aload_n 0, 1) := by decide +kernel
theorem dX9_readBears_30 : decode cX9_readBears 30 = .ok (.getfield 20, 3) := by decide +kernel
theorem dX9_readBears_33 : decode cX9_readBears 33 = .ok (.aload_n 0, 1) := by decide +kernel
theorem dX9_readBears_34 : decode cX9_readBears 34 = .ok (.getfield 239, 3) := by decide +kernel
theorem dX9_readBears_37 : decode cX9_readBears 37 = .ok (.iaload, 1) := by decide +kernel
theorem dX9_readBears_38 : decode cX9_readBears 38 = .ok (.if_icmp .ge 31, 3) := by decide +kernel
theorem dX9_readBears_41 : decode cX9_readBears 41 = .ok (.aload_n 0, 1) := by decide +kernel
theorem dX9_readBears_42 : decode cX9_readBears 42 = .ok (.getfield 39, 3) := by decide +kernel
theorem dX9_readBears_45 : decode cX9_readBears 45 = .ok (.bipush 9, 2) := by decide +kernel
theorem dX9_readBears_47 : decode cX9_readBears 47 = .ok (.aload_n 0, 1) := by decide +kernel
theorem dX9_readBears_48 : decode cX9_readBears 48 = .ok (.getfield 239, 3) := by decide +kernel
theorem dX9_readBears_51 : decode cX9_readBears 51 = .ok (.imul, 1) := by decide +kernel
theorem dX9_readBears_52 : decode cX9_readBears 52 = .ok (.iload_n 1, 1) := by decide +kernel
theorem dX9_readBears_53 : decode cX9_readBears 53 = .ok (.iadd, 1) := by decide +kernel
theorem dX9_readBears_54 : decode cX9_readBears 54 = .ok (.aload_n 0, 1) := by decide +kernel
theorem dX9_readBears_55 : decode cX9_readBears 55 = .ok (.iconst 0, 1) := by decide +kernel
theorem dX9_readBears_56 : decode cX9_readBears 56 = .ok (.sipush 999, 3) := by decide +kernel
theorem dX9_readBears_59 : decode cX9_readBears 59 = .ok (.invokevirtual 289, 3) := by decide +kernel
theorem dX9_readBears_62 : decode cX9_readBears 62 = .ok (.iastore, 1) := by decide +kernel
theorem dX9_readBears_63 : decode cX9_readBears 63 = .ok (.iinc 1 1, 3) := by decide +kernel
theorem dX9_readBears_66 : decode cX9_readBears 66 = .ok (.goto (-38), 3) := by decide +kernel
theorem dX9_readBears_69 : decode cX9_readBears 69 = .ok (.return_, 1) := by decide +kernel
theorem dX9_readHouse_0 : decode cX9_readHouse 0 = .ok (.bipush 9, 2) := by decide +kernel
theorem dX9_readHouse_2 : decode cX9_readHouse 2 = .ok (.aload_n 0, 1) := by decide +kernel
theorem dX9_readHouse_3 : decode cX9_readHouse 3 = .ok (.getfield 239, 3) := by decide +kernel
theorem dX9_readHouse_6 : decode cX9_readHouse 6 = .ok (.imul, 1) := by decide +kernel
theorem dX9_readHouse_7 : decode cX9_readHouse 7 = .ok (.aload_n 0, 1) := by decide +kernel
theorem dX9_readHouse_8 : decode cX9_readHouse 8 = .ok (.getfield 20, 3) := by decide +kernel
theorem dX9_readHouse_11 : decode cX9_readHouse 11 = .ok (.aload_n 0, 1) := by decide +kernel
theorem dX9_readHouse_12 : decode cX9_readHouse 12 = .ok (.getfield 239, 3) := by decide +kernel
theorem dX9_readHouse_15 : decode cX9_readHouse 15 = .ok (.iaload, 1) := by decide +kernel
theorem dX9_readHouse_16 : decode cX9_readHouse 16 = .ok (.iadd, 1) := by decide +kernel
theorem dX9_readHouse_17 : decode cX9_readHouse 17 = .ok (.istore_n 1, 1) := by decide +kernel
theorem dX9_readHouse_18 : decode cX9_readHouse 18 = .ok (.aload_n 0, 1) := by decide +kernel
theorem dX9_readHouse_19 : decode cX9_readHouse 19 = .ok (.getfield 201, 3) := by decide +kernel
theorem dX9_readHouse_22 : decode cX9_readHouse 22 = .ok (.iconst 2, 1) := by decide +kernel
theorem dX9_readHouse_23 : decode cX9_readHouse 23 = .ok (.if_icmp .eq 10, 3) := by decide +kernel
theorem dX9_readHouse_26 : decode cX9_readHouse 26 = .ok (.aload_n 0, 1) := by decide +kernel
theorem dX9_readHouse_27 : decode cX9_readHouse 27 = .ok (.invokevirtual 236, 3) := by decide +kernel
theorem dX9_readHouse_30 : decode cX9_readHouse 30 = .ok (.goto 19, 3) := by decide +kernel
theorem dX9_readHouse_33 : decode cX9_readHouse 33 = .ok (.aload_n 0, 1) := by decide +kernel
theorem dX9_readHouse_34 : decode cX9_readHouse 34 = .ok (.invokevirtual 285, 3) := by decide +kernel
theorem dX9_readHouse_37 : decode cX9_readHouse 37 = .ok (.ifCond .lt 12, 3) := by decide +kernel
theorem dX9_readHouse_40 : decode cX9_readHouse 40 = .ok (.aload_n 0, 1) := by decide +kernel
theorem dX9_readHouse_41 : decode cX9_readHouse 41 = .ok (.iconst 3, 1) := by decide +kernel
theorem dX9_readHouse_42 : decode cX9_readHouse 42 = .ok (.aload_n 0, 1) := by decide +kernel
theorem dX9_readHouse_43 : decode cX9_readHouse 43 = .ok (.getfield 194, 3) := by decide +kernel
theorem dX9_readHouse_46 : decode cX9_readHouse 46 = .ok (.invokevirtual 225, 3) := by decide +kernel
theorem dX9_readHouse_49 : decode cX9_readHouse 49 = .ok (.aload_n 0, 1) := by decide +kernel
theorem dX9_readHouse_50 : decode cX9_readHouse 50 = .ok (.invokevirtual 229, 3) := by decide +kernel
theorem dX9_readHouse_53 : decode cX9_readHouse 53 = .ok (.ifCond .ne 4, 3) := by decide +kernel
theorem dX9_readHouse_56 : decode cX9_readHouse 56 = .ok (.return_, 1) := by decide +kernel
theorem dX9_readHouse_57 : decode cX9_readHouse 57 = .ok (.aload_n 0, 1) := by decide +kernel
theorem dX9_readHouse_58 : decode cX9_readHouse 58 = .ok (.getfield 58, 3) := by decide +kernel
theorem dX9_readHouse_61 : decode cX9_readHouse 61 = .ok (.iload_n 1, 1) := by decide +kernel
theorem dX9_readHouse_62 : decode cX9_readHouse 62 = .ok (.aload_n 0, 1) := by decide +kernel
theorem dX9_readHouse_63 : decode cX9_readHouse 63 = .ok (.getfield 208, 3) := by decide +kernel
theorem dX9_readHouse_66 : decode cX9_readHouse 66 = .ok (.lastore, 1) := by decide +kernel
theorem dX9_readHouse_67 : decode cX9_readHouse 67 = .ok (.aload_n 0, 1) := by decide +kernel
theorem dX9_readHouse_68 : decode cX9_readHouse 68 = .ok (.invokevirtual 233, 3) := by decide +kernel
theorem dX9_readHouse_71 : decode cX9_readHouse 71 = .ok (.aload_n 0, 1) := by decide +kernel
theorem dX9_readHouse_72 : decode cX9_readHouse 72 = .ok (.aload_n 0, 1) := by decide +kernel
theorem dX9_readHouse_73 : decode cX9_readHouse 73 = .ok (.ldc2_w 163, 3) := by decide +kernel
theorem dX9_readHouse_76 : decode cX9_readHouse 76 = .ok (.invokevirtual 257, 3) := by decide +kernel
theorem dX9_readHouse_79 : decode cX9_readHouse 79 = .ok (.invokevirtual 282, 3) := by decide +kernel
theorem dX9_readHouse_82 : decode cX9_readHouse 82 = .ok (.aload_n 0, 1) := by decide +kernel
theorem dX9_readHouse_83 : decode cX9_readHouse 83 = .ok (.getfield 36, 3) := by decide +kernel
theorem dX9_readHouse_86 : decode cX9_readHouse 86 = .ok (.iload_n 1, 1) := by decide +kernel
theorem dX9_readHouse_87 : decode cX9_readHouse 87 = .ok (.aload_n 0, 1) := by decide +kernel
theorem dX9_readHouse_88 : decode cX9_readHouse 88 = .ok (.iconst 1, 1) := by decide +kernel
theorem dX9_readHouse_89 : decode cX9_readHouse 89 = .ok (.bipush 99, 2) := by decide +kernel
theorem dX9_readHouse_91 : decode cX9_readHouse 91 = .ok (.invokevirtual 289, 3) := by decide +kernel
theorem dX9_readHouse_94 : decode cX9_readHouse 94 = .ok (.iastore, 1) := by decide +kernel
theorem dX9_readHouse_95 : decode cX9_readHouse 95 = .ok (.aload_n 0, 1) := by decide +kernel
theorem dX9_readHouse_96 : decode cX9_readHouse 96 = .ok (.getfield 20, 3) := by decide +kernel
theorem dX9_readHouse_99 : decode cX9_readHouse 99 = .ok (.aload_n 0, 1) := by decide +kernel
theorem dX9_readHouse_100 : decode cX9_readHouse 100 = .ok (.getfield 239, 3) := by decide +kernel
theorem dX9_readHouse_103 : decode cX9_readHouse 103 = .ok (.dup2, 1) := by decide +kernel
theorem dX9_readHouse_104 : decode cX9_readHouse 104 = .ok (.iaload, 1) := by decide +kernel
theorem dX9_readHouse_105 : decode cX9_readHouse 105 = .ok (.iconst 1, 1) := by decide +kernel
theorem dX9_readHouse_106 : decode cX9_readHouse 106 = .ok (.iadd, 1) := by decide +kernel
theorem dX9_readHouse_107 : decode cX9_readHouse 107 = .ok (.iastore, 1) := by decide +kernel
theorem dX9_readHouse_108 : decode cX9_readHouse 108 = .ok (.return_, 1) := by decide +kernel
theorem dX9_readLaw_0 : decode cX9_readLaw 0 = .ok (.aload_n 0, 1) := by decide +kernel
theorem dX9_readLaw_1 : decode cX9_readLaw 1 = .ok (.getfield 55, 3) := by decide +kernel
theorem dX9_readLaw_4 : decode cX9_readLaw 4 = .ok (.aload_n 0, 1) := by decide +kernel
theorem dX9_readLaw_5 : decode cX9_readLaw 5 = .ok (.getfield 239, 3) := by decide +kernel
theorem dX9_readLaw_8 : decode cX9_readLaw 8 = .ok (.iconst 1, 1) := by decide +kernel
theorem dX9_readLaw_9 : decode cX9_readLaw 9 = .ok (.bastore, 1) := by decide +kernel
theorem dX9_readLaw_10 : decode cX9_readLaw 10 = .ok (.aload_n 0, 1) := by decide +kernel
theorem dX9_readLaw_11 : decode cX9_readLaw 11 = .ok (.invokevirtual 296, 3) := by decide +kernel
theorem dX9_readLaw_14 : decode cX9_readLaw 14 = .ok (.aload_n 0, 1) := by decide +kernel
theorem dX9_readLaw_15 : decode cX9_readLaw 15 = .ok (.getfield 33, 3) := by decide +kernel
theorem dX9_readLaw_18 : decode cX9_readLaw 18 = .ok (.aload_n 0, 1) := by decide +kernel
theorem dX9_readLaw_19 : decode cX9_readLaw 19 = .ok (.getfield 239, 3) := by decide +kernel
theorem dX9_readLaw_22 : decode cX9_readLaw 22 = .ok (.aload_n 0, 1) := by decide +kernel
theorem dX9_readLaw_23 : decode cX9_readLaw 23 = .ok (.getfield 242, 3) := by decide +kernel
theorem dX9_readLaw_26 : decode cX9_readLaw 26 = .ok (.iastore, 1) := by decide +kernel
theorem dX9_readLaw_27 : decode cX9_readLaw 27 = .ok (.return_, 1) := by decide +kernel
theorem dX9_readLine_0 : decode cX9_readLine 0 = .ok (.aload_n 0, 1) := by decide +kernel
theorem dX9_readLine_1 : decode cX9_readLine 1 = .ok (.getfield 208, 3) := by decide +kernel
theorem dX9_readLine_4 : decode cX9_readLine 4 = .ok (.lstore_n 1, 1) := by decide +kernel
theorem dX9_readLine_5 : decode cX9_readLine 5 = .ok (.aload_n 0, 1) := by decide +kernel
theorem dX9_readLine_6 : decode cX9_readLine 6 = .ok (.getfield 201, 3) := by decide +kernel
theorem dX9_readLine_9 : decode cX9_readLine 9 = .ok (.iconst 3, 1) := by decide +kernel
theorem dX9_readLine_10 : decode cX9_readLine 10 = .ok (.if_icmp .ne 10, 3) := by decide +kernel
theorem dX9_readLine_13 : decode cX9_readLine 13 = .ok (.aload_n 0, 1) := by decide +kernel
theorem dX9_readLine_14 : decode cX9_readLine 14 = .ok (.invokevirtual 263, 3) := by decide +kernel
theorem dX9_readLine_17 : decode cX9_readLine 17 = .ok (.ifCond .eq 7, 3) := by decide +kernel
theorem dX9_readLine_20 : decode cX9_readLine 20 = .ok (.aload_n 0, 1) := by decide +kernel
theorem dX9_readLine_21 : decode cX9_readLine 21 = .ok (.invokevirtual 236, 3) := by decide +kernel
theorem dX9_readLine_24 : decode cX9_readLine 24 = .ok (.aload_n 0, 1) := by decide +kernel
theorem dX9_readLine_25 : decode cX9_readLine 25 = .ok (.invokevirtual 229, 3) := by decide +kernel
theorem dX9_readLine_28 : decode cX9_readLine 28 = .ok (.ifCond .ne 4, 3) := by decide +kernel
theorem dX9_readLine_31 : decode cX9_readLine 31 = .ok (.return_, 1) := by decide +kernel
theorem dX9_readLine_32 : decode cX9_readLine 32 = .ok (.aload_n 0, 1) := by decide +kernel
theorem dX9_readLine_33 : decode cX9_readLine 33 = .ok (.invokevirtual 233, 3) := by decide +kernel
theorem dX9_readLine_36 : decode cX9_readLine 36 = .ok (.lload_n 1, 1) := by decide +kernel
theorem dX9_readLine_37 : decode cX9_readLine 37 = .ok (.ldc2_w 161, 3) := by decide +kernel
theorem dX9_readLine_40 : decode cX9_readLine 40 = .ok (.lcmp, 1) := by decide +kernel
theorem dX9_readLine_41 : decode cX9_readLine 41 = .ok (.ifCond .ne 7, 3) := by decide +kernel
theorem dX9_readLine_44 : decode cX9_readLine 44 = .ok (.aload_n 0, 1) := by decide +kernel
theorem dX9_readLine_45 : decode cX9_readLine 45 = .ok (.invokevirtual 266, 3) := by decide +kernel
theorem dX9_readLine_48 : decode cX9_readLine 48 = .ok (.lload_n 1, 1) := by decide +kernel
theorem dX9_readLine_49 : decode cX9_readLine 49 = .ok (.ldc2_w 165, 3) := by decide +kernel
theorem dX9_readLine_52 : decode cX9_readLine 52 = .ok (.lcmp, 1) := by decide +kernel
theorem dX9_readLine_53 : decode cX9_readLine 53 = .ok (.ifCond .ne 7, 3) := by decide +kernel
theorem dX9_readLine_56 : decode cX9_readLine 56 = .ok (.aload_n 0, 1) := by decide +kernel
theorem dX9_readLine_57 : decode cX9_readLine 57 = .ok (.invokevirtual 269, 3) := by decide +kernel
theorem dX9_readLine_60 : decode cX9_readLine 60 = .ok (.lload_n 1, 1) := by decide +kernel
theorem dX9_readLine_61 : decode cX9_readLine 61 = .ok (.ldc2_w 167, 3) := by decide +kernel
theorem dX9_readLine_64 : decode cX9_readLine 64 = .ok (.lcmp, 1) := by decide +kernel
theorem dX9_readLine_65 : decode cX9_readLine 65 = .ok (.ifCond .eq 11, 3) := by decide +kernel
theorem dX9_readLine_68 : decode cX9_readLine 68 = .ok (.lload_n 1, 1) := by decide +kernel
theorem dX9_readLine_69 : decode cX9_readLine 69 = .ok (.ldc2_w 169, 3) := by decide +kernel
theorem dX9_readLine_72 : decode cX9_readLine 72 = .ok (.lcmp, 1) := by decide +kernel
theorem dX9_readLine_73 : decode cX9_readLine 73 = .ok (.ifCond .ne 20, 3) := by decide +kernel
theorem dX9_readLine_76 : decode cX9_readLine 76 = .ok (.aload_n 0, 1) := by decide +kernel
theorem dX9_readLine_77 : decode cX9_readLine 77 = .ok (.lload_n 1, 1) := by decide +kernel
theorem dX9_readLine_78 : decode cX9_readLine 78 = .ok (.ldc2_w 169, 3) := by decide +kernel
theorem dX9_readLine_81 : decode cX9_readLine 81 = .ok (.lcmp, 1) := by decide +kernel
theorem dX9_readLine_82 : decode cX9_readLine 82 = .ok (.ifCond .ne 7, 3) := by decide +kernel
theorem dX9_readLine_85 : decode cX9_readLine 85 = .ok (.iconst 1, 1) := by decide +kernel
theorem dX9_readLine_86 : decode cX9_readLine 86 = .ok (.goto 4, 3) := by decide +kernel
theorem dX9_readLine_89 : decode cX9_readLine 89 = .ok (.iconst 0, 1) := by decide +kernel
theorem dX9_readLine_90 : decode cX9_readLine 90 = .ok (.invokevirtual 272, 3) := by decide +kernel
theorem dX9_readLine_93 : decode cX9_readLine 93 = .ok (.lload_n 1, 1) := by decide +kernel
theorem dX9_readLine_94 : decode cX9_readLine 94 = .ok (.ldc2_w 175, 3) := by decide +kernel
theorem dX9_readLine_97 : decode cX9_readLine 97 = .ok (.lcmp, 1) := by decide +kernel
theorem dX9_readLine_98 : decode cX9_readLine 98 = .ok (.ifCond .ne 7, 3) := by decide +kernel
theorem dX9_readLine_101 : decode cX9_readLine 101 = .ok (.aload_n 0, 1) := by decide +kernel
theorem dX9_readLine_102 : decode cX9_readLine 102 = .ok (.invokevirtual 276, 3) := by decide +kernel
theorem dX9_readLine_105 : decode cX9_readLine 105 = .ok (.lload_n 1, 1) := by decide +kernel
theorem dX9_readLine_106 : decode cX9_readLine 106 = .ok (.ldc2_w 173, 3) := by decide +kernel
theorem dX9_readLine_109 : decode cX9_readLine 109 = .ok (.lcmp, 1) := by decide +kernel
theorem dX9_readLine_110 : decode cX9_readLine 110 = .ok (.ifCond .ne 13, 3) := by decide +kernel
theorem dX9_readLine_113 : decode cX9_readLine 113 = .ok (.aload_n 0, 1) := by decide +kernel
theorem dX9_readLine_114 : decode cX9_readLine 114 = .ok (.getfield 52, 3) := by decide +kernel
theorem dX9_readLine_117 : decode cX9_readLine 117 = .ok (.aload_n 0, 1) := by decide +kernel
theorem dX9_readLine_118 : decode cX9_readLine 118 = .ok (.getfield 239, 3) := by decide +kernel
theorem dX9_readLine_121 : decode cX9_readLine 121 = .ok (.iconst 1, 1) := by decide +kernel
theorem dX9_readLine_122 : decode cX9_readLine 122 = .ok (.bastore, 1) := by decide +kernel
theorem dX9_readLine_123 : decode cX9_readLine 123 = .ok (.aload_n 0, 1) := by decide +kernel
theorem dX9_readLine_124 : decode cX9_readLine 124 = .ok (.aload_n 0, 1) := by decide +kernel
theorem dX9_readLine_125 : decode cX9_readLine 125 = .ok (.bipush 59, 2) := by decide +kernel
theorem dX9_readLine_127 : decode cX9_readLine 127 = .ok (.invokevirtual 279, 3) := by decide +kernel
theorem dX9_readLine_130 : decode cX9_readLine 130 = .ok (.invokevirtual 282, 3) := by decide +kernel
theorem dX9_readLine_133 : decode cX9_readLine 133 = .ok (.return_, 1) := by decide +kernel
theorem dX9_readPair_0 : decode cX9_readPair 0 = .ok (.aload_n 0, 1) := by decide +kernel
theorem dX9_readPair_1 : decode cX9_readPair 1 = .ok (.aload_n 0, 1) := by decide +kernel
theorem dX9_readPair_2 : decode cX9_readPair 2 = .ok (.invokevirtual 285, 3) := by decide +kernel
theorem dX9_readPair_5 : decode cX9_readPair 5 = .ok (.invokevirtual 293, 3) := by decide +kernel
theorem dX9_readPair_8 : decode cX9_readPair 8 = .ok (.istore_n 2, 1) := by decide +kernel
theorem dX9_readPair_9 : decode cX9_readPair 9 = .ok (.aload_n 0, 1) := by decide +kernel
theorem dX9_readPair_10 : decode cX9_readPair 10 = .ok (.invokevirtual 285, 3) := by decide +kernel
theorem dX9_readPair_13 : decode cX9_readPair 13 = .ok (.istore_n 3, 1) := by decide +kernel
theorem dX9_readPair_14 : decode cX9_readPair 14 = .ok (.bipush 9, 2) := by decide +kernel
theorem dX9_readPair_16 : decode cX9_readPair 16 = .ok (.aload_n 0, 1) := by decide +kernel
theorem dX9_readPair_17 : decode cX9_readPair 17 = .ok (.getfield 239, 3) := by decide +kernel
theorem dX9_readPair_20 : decode cX9_readPair 20 = .ok (.imul, 1) := by decide +kernel
theorem dX9_readPair_21 : decode cX9_readPair 21 = .ok (.iload_n 2, 1) := by decide +kernel
theorem dX9_readPair_22 : decode cX9_readPair 22 = .ok (.iadd, 1) := by decide +kernel
theorem dX9_readPair_23 : decode cX9_readPair 23 = .ok (.istore 4, 2) := by decide +kernel
theorem dX9_readPair_25 : decode cX9_readPair 25 = .ok (.iload_n 3, 1) := by decide +kernel
theorem dX9_readPair_26 : decode cX9_readPair 26 = .ok (.ifCond .lt 44, 3) := by decide +kernel
theorem dX9_readPair_29 : decode cX9_readPair 29 = .ok (.iload_n 1, 1) := by decide +kernel
theorem dX9_readPair_30 : decode cX9_readPair 30 = .ok (.ifCond .eq 21, 3) := by decide +kernel
theorem dX9_readPair_33 : decode cX9_readPair 33 = .ok (.aload_n 0, 1) := by decide +kernel
theorem dX9_readPair_34 : decode cX9_readPair 34 = .ok (.getfield 45, 3) := by decide +kernel
theorem dX9_readPair_37 : decode cX9_readPair 37 = .ok (.bipush 9, 2) := by decide +kernel
theorem dX9_readPair_39 : decode cX9_readPair 39 = .ok (.iload 4, 2) := by decide +kernel
theorem dX9_readPair_41 : decode cX9_readPair 41 = .ok (.imul, 1) := by decide +kernel
theorem dX9_readPair_42 : decode cX9_readPair 42 = .ok (.iload_n 3, 1) := by decide +kernel
theorem dX9_readPair_43 : decode cX9_readPair 43 = .ok (.iadd, 1) := by decide +kernel
theorem dX9_readPair_44 : decode cX9_readPair 44 = .ok (.iaload, 1) := by decide +kernel
theorem dX9_readPair_45 : decode cX9_readPair 45 = .ok (.ifCond .le 25, 3) := by decide +kernel
theorem dX9_readPair_48 : decode cX9_readPair 48 = .ok (.goto 18, 3) := by decide +kernel
theorem dX9_readPair_51 : decode cX9_readPair 51 = .ok (.aload_n 0, 1) := by decide +kernel
theorem dX9_readPair_52 : decode cX9_readPair 52 = .ok (.getfield 42, 3) := by decide +kernel
theorem dX9_readPair_55 : decode cX9_readPair 55 = .ok (.iload 4, 2) := by decide +kernel
theorem dX9_readPair_57 : decode cX9_readPair 57 = .ok (.iaload, 1) := by decide +kernel
theorem dX9_readPair_58 : decode cX9_readPair 58 = .ok (.iload_n 3, 1) := by decide +kernel
theorem dX9_readPair_59 : decode cX9_readPair 59 = .ok (.ishr, 1) := by decide +kernel
theorem dX9_readPair_60 : decode cX9_readPair 60 = .ok (.iconst 1, 1) := by decide +kernel
theorem dX9_readPair_61 : decode cX9_readPair 61 = .ok (.iand, 1) := by decide +kernel
theorem dX9_readPair_62 : decode cX9_readPair 62 = .ok (.iconst 1, 1) := by decide +kernel
theorem dX9_readPair_63 : decode cX9_readPair 63 = .ok (.if_icmp .ne 7, 3) := by decide +kernel
theorem dX9_readPair_66 : decode cX9_readPair 66 = .ok (.iconst 1, 1) := by decide +kernel
theorem dX9_readPair_67 : decode cX9_readPair 67 = .ok (.goto 4, 3) := by decide +kernel
theorem dX9_readPair_70 : decode cX9_readPair 70 = .ok (.iconst 0, 1) := by decide +kernel
theorem dX9_readPair_71 : decode cX9_readPair 71 = .ok (.istore 5, 2) := by decide +kernel
theorem dX9_readPair_73 : decode cX9_readPair 73 = .ok (.aload_n 0, 1) := by decide +kernel
theorem dX9_readPair_74 : decode cX9_readPair 74 = .ok (.invokevirtual 229, 3) := by decide +kernel
theorem dX9_readPair_77 : decode cX9_readPair 77 = .ok (.ifCond .eq 26, 3) := by decide +kernel
theorem dX9_readPair_80 : decode cX9_readPair 80 = .ok (.iload_n 3, 1) := by decide +kernel
theorem dX9_readPair_81 : decode cX9_readPair 81 = .ok (.ifCond .lt 22, 3) := by decide +kernel
theorem dX9_readPair_84 : decode cX9_readPair 84 = .ok (.iload_n 2, 1) := by decide +kernel
theorem dX9_readPair_85 : decode cX9_readPair 85 = .ok (.iload_n 3, 1) := by decide +kernel
theorem dX9_readPair_86 : decode cX9_readPair 86 = .ok (.if_icmp .eq 8, 3) := by decide +kernel
theorem dX9_readPair_89 : decode cX9_readPair 89 = .ok (.iload 5, 2) := by decide +kernel
theorem dX9_readPair_91 : decode cX9_readPair 91 = .ok (.ifCond .eq 12, 3) := by decide +kernel
theorem dX9_readPair_94 : decode cX9_readPair 94 = .ok (.aload_n 0, 1) := by decide +kernel
theorem dX9_readPair_95 : decode cX9_readPair 95 = .ok (.iconst 3, 1) := by decide +kernel
theorem dX9_readPair_96 : decode cX9_readPair 96 = .ok (.aload_n 0, 1) := by decide +kernel
theorem dX9_readPair_97 : decode cX9_readPair 97 = .ok (.getfield 194, 3) := by decide +kernel
theorem dX9_readPair_100 : decode cX9_readPair 100 = .ok (.invokevirtual 225, 3) := by decide +kernel
theorem dX9_readPair_103 : decode cX9_readPair 103 = .ok (.aload_n 0, 1) := by decide +kernel
theorem dX9_readPair_104 : decode cX9_readPair 104 = .ok (.iload_n 3, 1) := by decide +kernel
theorem dX9_readPair_105 : decode cX9_readPair 105 = .ok (.invokevirtual 293, 3) := by decide +kernel
theorem dX9_readPair_108 : decode cX9_readPair 108 = .ok (.istore_n 3, 1) := by decide +kernel
theorem dX9_readPair_109 : decode cX9_readPair 109 = .ok (.iconst 0, 1) := by decide +kernel
theorem dX9_readPair_110 : decode cX9_readPair 110 = .ok (.istore 6, 2) := by decide +kernel
theorem dX9_readPair_112 : decode cX9_readPair 112 = .ok (.iload_n 1, 1) := by decide +kernel
theorem dX9_readPair_113 : decode cX9_readPair 113 = .ok (.ifCond .eq 23, 3) := by decide +kernel
theorem dX9_readPair_116 : decode cX9_readPair 116 = .ok (.aload_n 0, 1) := by decide +kernel
theorem dX9_readPair_117 : decode cX9_readPair 117 = .ok (.aload_n 0, 1) := by decide +kernel
theorem dX9_readPair_118 : decode cX9_readPair 118 = .ok (.ldc2_w 171, 3) := by decide +kernel
theorem dX9_readPair_121 : decode cX9_readPair 121 = .ok (.invokevirtual 257, 3) := by decide +kernel
theorem dX9_readPair_124 : decode cX9_readPair 124 = .ok (.invokevirtual 282, 3) := by decide +kernel
theorem dX9_readPair_127 : decode cX9_readPair 127 = .ok (.aload_n 0, 1) := by decide +kernel
theorem dX9_readPair_128 : decode cX9_readPair 128 = .ok (.iconst 1, 1) := by decide +kernel
theorem dX9_readPair_129 : decode cX9_readPair 129 = .ok (.bipush 99, 2) := by decide +kernel
theorem dX9_readPair_131 : decode cX9_readPair 131 = .ok (.invokevirtual 289, 3) := by decide +kernel
theorem dX9_readPair_134 : decode cX9_readPair 134 = .ok (.istore 6, 2) := by decide +kernel
theorem dX9_readPair_136 : decode cX9_readPair 136 = .ok (.aload_n 0, 1) := by decide +kernel
theorem dX9_readPair_137 : decode cX9_readPair 137 = .ok (.invokevirtual 229, 3) := by decide +kernel
theorem dX9_readPair_140 : decode cX9_readPair 140 = .ok (.ifCond .ne 4, 3) := by decide +kernel
theorem dX9_readPair_143 : decode cX9_readPair 143 = .ok (.return_, 1) := by decide +kernel
theorem dX9_readPair_144 : decode cX9_readPair 144 = .ok (.iload_n 1, 1) := by decide +kernel
theorem dX9_readPair_145 : decode cX9_readPair 145 = .ok (.ifCond .eq 54, 3) := by decide +kernel
theorem dX9_readPair_148 : decode cX9_readPair 148 = .ok (.aload_n 0, 1) := by decide +kernel
theorem dX9_readPair_149 : decode cX9_readPair 149 = .ok (.getfield 45, 3) := by decide +kernel
theorem dX9_readPair_152 : decode cX9_readPair 152 = .ok (.bipush 9, 2) := by decide +kernel
theorem dX9_readPair_154 : decode cX9_readPair 154 = .ok (.iload 4, 2) := by decide +kernel
theorem dX9_readPair_156 : decode cX9_readPair 156 = .ok (.imul, 1) := by decide +kernel
theorem dX9_readPair_157 : decode cX9_readPair 157 = .ok (.iload_n 3, 1) := by decide +kernel
theorem dX9_readPair_158 : decode cX9_readPair 158 = .ok (.iadd, 1) := by decide +kernel
theorem dX9_readPair_159 : decode cX9_readPair 159 = .ok (.iload 6, 2) := by decide +kernel
theorem dX9_readPair_161 : decode cX9_readPair 161 = .ok (.iastore, 1) := by decide +kernel
theorem dX9_readPair_162 : decode cX9_readPair 162 = .ok (.aload_n 0, 1) := by decide +kernel
theorem dX9_readPair_163 : decode cX9_readPair 163 = .ok (.getfield 45, 3) := by decide +kernel
theorem dX9_readPair_166 : decode cX9_readPair 166 = .ok (.bipush 9, 2) := by decide +kernel
theorem dX9_readPair_168 : decode cX9_readPair 168 = .ok (.bipush 9, 2) := by decide +kernel
theorem dX9_readPair_170 : decode cX9_readPair 170 = .ok (.aload_n 0, 1) := by decide +kernel
theorem dX9_readPair_171 : decode cX9_readPair 171 = .ok (.getfield 239, 3) := by decide +kernel
theorem dX9_readPair_174 : decode cX9_readPair 174 = .ok (.imul, 1) := by decide +kernel
theorem dX9_readPair_175 : decode cX9_readPair 175 = .ok (.iload_n 3, 1) := by decide +kernel
theorem dX9_readPair_176 : decode cX9_readPair 176 = .ok (.iadd, 1) := by decide +kernel
theorem dX9_readPair_177 : decode cX9_readPair 177 = .ok (.imul, 1) := by decide +kernel
theorem dX9_readPair_178 : decode cX9_readPair 178 = .ok (.iload_n 2, 1) := by decide +kernel
theorem dX9_readPair_179 : decode cX9_readPair 179 = .ok (.iadd, 1) := by decide +kernel
theorem dX9_readPair_180 : decode cX9_readPair 180 = .ok (.iload 6, 2) := by decide +kernel
theorem dX9_readPair_182 : decode cX9_readPair 182 = .ok (.iastore, 1) := by decide +kernel
theorem dX9_readPair_183 : decode cX9_readPair 183 = .ok (.aload_n 0, 1) := by decide +kernel
theorem dX9_readPair_184 : decode cX9_readPair 184 = .ok (.getfield 27, 3) := by decide +kernel
theorem dX9_readPair_187 : decode cX9_readPair 187 = .ok (.aload_n 0, 1) := by decide +kernel
theorem dX9_readPair_188 : decode cX9_readPair 188 = .ok (.getfield 239, 3) := by decide +kernel
theorem dX9_readPair_191 : decode cX9_readPair 191 = .ok (.dup2, 1) := by decide +kernel
theorem dX9_readPair_192 : decode cX9_readPair 192 = .ok (.iaload, 1) := by decide +kernel
theorem dX9_readPair_193 : decode cX9_readPair 193 = .ok (.iconst 1, 1) := by decide +kernel
theorem dX9_readPair_194 : decode cX9_readPair 194 = .ok (.iadd, 1) := by decide +kernel
theorem dX9_readPair_195 : decode cX9_readPair 195 = .ok (.iastore, 1) := by decide +kernel
theorem dX9_readPair_196 : decode cX9_readPair 196 = .ok (.goto 49, 3) := by decide +kernel
theorem dX9_readPair_199 : decode cX9_readPair 199 = .ok (.aload_n 0, 1) := by decide +kernel
theorem dX9_readPair_200 : decode cX9_readPair 200 = .ok (.getfield 42, 3) := by decide +kernel
theorem dX9_readPair_203 : decode cX9_readPair 203 = .ok (.iload 4, 2) := by decide +kernel
theorem dX9_readPair_205 : decode cX9_readPair 205 = .ok (.dup2, 1) := by decide +kernel
theorem dX9_readPair_206 : decode cX9_readPair 206 = .ok (.iaload, 1) := by decide +kernel
theorem dX9_readPair_207 : decode cX9_readPair 207 = .ok (.iconst 1, 1) := by decide +kernel
theorem dX9_readPair_208 : decode cX9_readPair 208 = .ok (.iload_n 3, 1) := by decide +kernel
theorem dX9_readPair_209 : decode cX9_readPair 209 = .ok (.ishl, 1) := by decide +kernel
theorem dX9_readPair_210 : decode cX9_readPair 210 = .ok (.ior, 1) := by decide +kernel
theorem dX9_readPair_211 : decode cX9_readPair 211 = .ok (.iastore, 1) := by decide +kernel
theorem dX9_readPair_212 : decode cX9_readPair 212 = .ok (.aload_n 0, 1) := by decide +kernel
theorem dX9_readPair_213 : decode cX9_readPair 213 = .ok (.getfield 42, 3) := by decide +kernel
theorem dX9_readPair_216 : decode cX9_readPair 216 = .ok (.bipush 9, 2) := by decide +kernel
theorem dX9_readPair_218 : decode cX9_readPair 218 = .ok (.aload_n 0, 1) := by decide +kernel
theorem dX9_readPair_219 : decode cX9_readPair 219 = .ok (.getfield 239, 3) := by decide +kernel
theorem dX9_readPair_222 : decode cX9_readPair 222 = .ok (.imul, 1) := by decide +kernel
theorem dX9_readPair_223 : decode cX9_readPair 223 = .ok (.iload_n 3, 1) := by decide +kernel
theorem dX9_readPair_224 : decode cX9_readPair 224 = .ok (.iadd, 1) := by decide +kernel
theorem dX9_readPair_225 : decode cX9_readPair 225 = .ok (.dup2, 1) := by decide +kernel
theorem dX9_readPair_226 : decode cX9_readPair 226 = .ok (.iaload, 1) := by decide +kernel
theorem dX9_readPair_227 : decode cX9_readPair 227 = .ok (.iconst 1, 1) := by decide +kernel
theorem dX9_readPair_228 : decode cX9_readPair 228 = .ok (.iload_n 2, 1) := by decide +kernel
theorem dX9_readPair_229 : decode cX9_readPair 229 = .ok (.ishl, 1) := by decide +kernel
theorem dX9_readPair_230 : decode cX9_readPair 230 = .ok (.ior, 1) := by decide +kernel
theorem dX9_readPair_231 : decode cX9_readPair 231 = .ok (.iastore, 1) := by decide +kernel
theorem dX9_readPair_232 : decode cX9_readPair 232 = .ok (.aload_n 0, 1) := by decide +kernel
theorem dX9_readPair_233 : decode cX9_readPair 233 = .ok (.getfield 24, 3) := by decide +kernel
theorem dX9_readPair_236 : decode cX9_readPair 236 = .ok (.aload_n 0, 1) := by decide +kernel
theorem dX9_readPair_237 : decode cX9_readPair 237 = .ok (.getfield 239, 3) := by decide +kernel
theorem dX9_readPair_240 : decode cX9_readPair 240 = .ok (.dup2, 1) := by decide +kernel
theorem dX9_readPair_241 : decode cX9_readPair 241 = .ok (.iaload, 1) := by decide +kernel
theorem dX9_readPair_242 : decode cX9_readPair 242 = .ok (.iconst 1, 1) := by decide +kernel
theorem dX9_readPair_243 : decode cX9_readPair 243 = .ok (.iadd, 1) := by decide +kernel
theorem dX9_readPair_244 : decode cX9_readPair 244 = .ok (.iastore, 1) := by decide +kernel
theorem dX9_readPair_245 : decode cX9_readPair 245 = .ok (.return_, 1) := by decide +kernel
theorem dX9_ruled_0 : decode cX9_ruled 0 = .ok (.aload_n 0, 1) := by decide +kernel
theorem dX9_ruled_1 : decode cX9_ruled 1 = .ok (.getfield 20, 3) := by decide +kernel
theorem dX9_ruled_4 : decode cX9_ruled 4 = .ok (.aload_n 0, 1) := by decide +kernel
theorem dX9_ruled_5 : decode cX9_ruled 5 = .ok (.getfield 248, 3) := by decide +kernel
theorem dX9_ruled_8 : decode cX9_ruled 8 = .ok (.iaload, 1) := by decide +kernel
theorem dX9_ruled_9 : decode cX9_ruled 9 = .ok (.istore_n 3, 1) := by decide +kernel
theorem dX9_ruled_10 : decode cX9_ruled 10 = .ok (.aload_n 0, 1) := by decide +kernel
theorem dX9_ruled_11 : decode cX9_ruled 11 = .ok (.getfield 345, 3) := by decide +kernel
theorem dX9_ruled_14 : decode cX9_ruled 14 = .ok (.ifCond .ne 40, 3) := by decide +kernel
theorem dX9_ruled_17 : decode cX9_ruled 17 = .ok (.iload_n 3, 1) := by decide +kernel
theorem dX9_ruled_18 : decode cX9_ruled 18 = .ok (.iconst 3, 1) := by decide +kernel
theorem dX9_ruled_19 : decode cX9_ruled 19 = .ok (.if_icmp .lt 35, 3) := by decide +kernel
theorem dX9_ruled_22 : decode cX9_ruled 22 = .ok (.iload_n 3, 1) := by decide +kernel
theorem dX9_ruled_23 : decode cX9_ruled 23 = .ok (.iconst 2, 1) := by decide +kernel
theorem dX9_ruled_24 : decode cX9_ruled 24 = .ok (.irem, 1) := by decide +kernel
theorem dX9_ruled_25 : decode cX9_ruled 25 = .ok (.ifCond .eq 29, 3) := by decide +kernel
theorem dX9_ruled_28 : decode cX9_ruled 28 = .ok (.iload_n 1, 1) := by decide +kernel
theorem dX9_ruled_29 : decode cX9_ruled 29 = .ok (.iconst 0, 1) := by decide +kernel
theorem dX9_ruled_30 : decode cX9_ruled 30 = .ok (.iload_n 3, 1) := by decide +kernel
theorem dX9_ruled_31 : decode cX9_ruled 31 = .ok (.iconst 1, 1) := by decide +kernel
theorem dX9_ruled_32 : decode cX9_ruled 32 = .ok (.isub, 1) := by decide +kernel
theorem dX9_ruled_33 : decode cX9_ruled 33 = .ok (.iconst 2, 1) := by decide +kernel
theorem dX9_ruled_34 : decode cX9_ruled 34 = .ok (.idiv, 1) := by decide +kernel
theorem dX9_ruled_35 : decode cX9_ruled 35 = .ok (.iconst 1, 1) := by decide +kernel
theorem dX9_ruled_36 : decode cX9_ruled 36 = .ok (.isub, 1) := by decide +kernel
theorem dX9_ruled_37 : decode cX9_ruled 37 = .ok (.invokestatic 361, 3) := by decide +kernel
theorem dX9_ruled_40 : decode cX9_ruled 40 = .ok (.ifCond .eq 14, 3) := by decide +kernel
theorem dX9_ruled_43 : decode cX9_ruled 43 = .ok (.iload_n 2, 1) := by decide +kernel
theorem dX9_ruled_44 : decode cX9_ruled 44 = .ok (.iconst 0, 1) := by decide +kernel
theorem dX9_ruled_45 : decode cX9_ruled 45 = .ok (.iload_n 3, 1) := by decide +kernel
theorem dX9_ruled_46 : decode cX9_ruled 46 = .ok (.iconst 1, 1) := by decide +kernel
theorem dX9_ruled_47 : decode cX9_ruled 47 = .ok (.isub, 1) := by decide +kernel
theorem dX9_ruled_48 : decode cX9_ruled 48 = .ok (.invokestatic 361, 3) := by decide +kernel
theorem dX9_ruled_51 : decode cX9_ruled 51 = .ok (.ifCond .ne 5, 3) := by decide +kernel
theorem dX9_ruled_54 : decode cX9_ruled 54 = .ok (.iconst (-1), 1) := by decide +kernel
theorem dX9_ruled_55 : decode cX9_ruled 55 = .ok (.ireturn, 1) := by decide +kernel
theorem dX9_ruled_56 : decode cX9_ruled 56 = .ok (.iload_n 2, 1) := by decide +kernel
theorem dX9_ruled_57 : decode cX9_ruled 57 = .ok (.ifCond .ne 7, 3) := by decide +kernel
theorem dX9_ruled_60 : decode cX9_ruled 60 = .ok (.iload_n 3, 1) := by decide +kernel
theorem dX9_ruled_61 : decode cX9_ruled 61 = .ok (.iconst 1, 1) := by decide +kernel
theorem dX9_ruled_62 : decode cX9_ruled 62 = .ok (.isub, 1) := by decide +kernel
theorem dX9_ruled_63 : decode cX9_ruled 63 = .ok (.ireturn, 1) := by decide +kernel
theorem dX9_ruled_64 : decode cX9_ruled 64 = .ok (.iload_n 2, 1) := by decide +kernel
theorem dX9_ruled_65 : decode cX9_ruled 65 = .ok (.iconst 2, 1) := by decide +kernel
theorem dX9_ruled_66 : decode cX9_ruled 66 = .ok (.irem, 1) := by decide +kernel
theorem dX9_ruled_67 : decode cX9_ruled 67 = .ok (.ifCond .ne 15, 3) := by decide +kernel
theorem dX9_ruled_70 : decode cX9_ruled 70 = .ok (.iload_n 1, 1) := by decide +kernel
theorem dX9_ruled_71 : decode cX9_ruled 71 = .ok (.iload_n 2, 1) := by decide +kernel
theorem dX9_ruled_72 : decode cX9_ruled 72 = .ok (.iconst 2, 1) := by decide +kernel
theorem dX9_ruled_73 : decode cX9_ruled 73 = .ok (.idiv, 1) := by decide +kernel
theorem dX9_ruled_74 : decode cX9_ruled 74 = .ok (.iadd, 1) := by decide +kernel
theorem dX9_ruled_75 : decode cX9_ruled 75 = .ok (.iload_n 3, 1) := by decide +kernel
theorem dX9_ruled_76 : decode cX9_ruled 76 = .ok (.iconst 1, 1) := by decide +kernel
theorem dX9_ruled_77 : decode cX9_ruled 77 = .ok (.isub, 1) := by decide +kernel
theorem dX9_ruled_78 : decode cX9_ruled 78 = .ok (.irem, 1) := by decide +kernel
theorem dX9_ruled_79 : decode cX9_ruled 79 = .ok (.goto 16, 3) := by decide +kernel
theorem dX9_ruled_82 : decode cX9_ruled 82 = .ok (.iload_n 1, 1) := by decide +kernel
theorem dX9_ruled_83 : decode cX9_ruled 83 = .ok (.iload_n 2, 1) := by decide +kernel
theorem dX9_ruled_84 : decode cX9_ruled 84 = .ok (.iconst 2, 1) := by decide +kernel
theorem dX9_ruled_85 : decode cX9_ruled 85 = .ok (.idiv, 1) := by decide +kernel
theorem dX9_ruled_86 : decode cX9_ruled 86 = .ok (.isub, 1) := by decide +kernel
theorem dX9_ruled_87 : decode cX9_ruled 87 = .ok (.iload_n 3, 1) := by decide +kernel
theorem dX9_ruled_88 : decode cX9_ruled 88 = .ok (.iadd, 1) := by decide +kernel
theorem dX9_ruled_89 : decode cX9_ruled 89 = .ok (.iconst 1, 1) := by decide +kernel
theorem dX9_ruled_90 : decode cX9_ruled 90 = .ok (.isub, 1) := by decide +kernel
theorem dX9_ruled_91 : decode cX9_ruled 91 = .ok (.iload_n 3, 1) := by decide +kernel
theorem dX9_ruled_92 : decode cX9_ruled 92 = .ok (.iconst 1, 1) := by decide +kernel
theorem dX9_ruled_93 : decode cX9_ruled 93 = .ok (.isub, 1) := by decide +kernel
theorem dX9_ruled_94 : decode cX9_ruled 94 = .ok (.irem, 1) := by decide +kernel
theorem dX9_ruled_95 : decode cX9_ruled 95 = .ok (.ireturn, 1) := by decide +kernel
theorem dX9_seed_0 : decode cX9_seed 0 = .ok (.aload_n 0, 1) := by decide +kernel
theorem dX9_seed_1 : decode cX9_seed 1 = .ok (.getfield 86, 3) := by decide +kernel
theorem dX9_seed_4 : decode cX9_seed 4 = .ok (.istore_n 2, 1) := by decide +kernel
theorem dX9_seed_5 : decode cX9_seed 5 = .ok (.aload_n 0, 1) := by decide +kernel
theorem dX9_seed_6 : decode cX9_seed 6 = .ok (.iload_n 1, 1) := by decide +kernel
theorem dX9_seed_7 : decode cX9_seed 7 = .ok (.putfield 86, 3) := by decide +kernel
theorem dX9_seed_10 : decode cX9_seed 10 = .ok (.iload_n 2, 1) := by decide +kernel
theorem dX9_seed_11 : decode cX9_seed 11 = .ok (.ireturn, 1) := by decide +kernel
theorem dX9_shut_0 : decode cX9_shut 0 = .ok (.aload_n 0, 1) := by decide +kernel
theorem dX9_shut_1 : decode cX9_shut 1 = .ok (.invokevirtual 393, 3) := by decide +kernel
theorem dX9_shut_4 : decode cX9_shut 4 = .ok (.aload_n 0, 1) := by decide +kernel
theorem dX9_shut_5 : decode cX9_shut 5 = .ok (.invokevirtual 381, 3) := by decide +kernel
theorem dX9_shut_8 : decode cX9_shut 8 = .ok (.istore_n 1, 1) := by decide +kernel
theorem dX9_shut_9 : decode cX9_shut 9 = .ok (.iload_n 1, 1) := by decide +kernel
theorem dX9_shut_10 : decode cX9_shut 10 = .ok (.iconst 2, 1) := by decide +kernel
theorem dX9_shut_11 : decode cX9_shut 11 = .ok (.if_icmp .ge 7, 3) := by decide +kernel
theorem dX9_shut_14 : decode cX9_shut 14 = .ok (.iconst 0, 1) := by decide +kernel
theorem dX9_shut_15 : decode cX9_shut 15 = .ok (.goto 15, 3) := by decide +kernel
theorem dX9_shut_18 : decode cX9_shut 18 = .ok (.aload_n 0, 1) := by decide +kernel
theorem dX9_shut_19 : decode cX9_shut 19 = .ok (.invokevirtual 384, 3) := by decide +kernel
theorem dX9_shut_22 : decode cX9_shut 22 = .ok (.ifCond .eq 7, 3) := by decide +kernel
theorem dX9_shut_25 : decode cX9_shut 25 = .ok (.iconst 2, 1) := by decide +kernel
theorem dX9_shut_26 : decode cX9_shut 26 = .ok (.goto 4, 3) := by decide +kernel
theorem dX9_shut_29 : decode cX9_shut 29 = .ok (.iconst 1, 1) := by decide +kernel
theorem dX9_shut_30 : decode cX9_shut 30 = .ok (.istore_n 2, 1) := by decide +kernel
theorem dX9_shut_31 : decode cX9_shut 31 = .ok (.iconst 0, 1) := by decide +kernel
theorem dX9_shut_32 : decode cX9_shut 32 = .ok (.istore_n 3, 1) := by decide +kernel
theorem dX9_shut_33 : decode cX9_shut 33 = .ok (.iconst 0, 1) := by decide +kernel
theorem dX9_shut_34 : decode cX9_shut 34 = .ok (.istore 4, 2) := by decide +kernel
theorem dX9_shut_36 : decode cX9_shut 36 = .ok (.iload 4, 2) := by decide +kernel
theorem dX9_shut_38 : decode cX9_shut 38 = .ok (.aload_n 0, 1) := by decide +kernel
theorem dX9_shut_39 : decode cX9_shut 39 = .ok (.getfield 20, 3) := by decide +kernel
theorem dX9_shut_42 : decode cX9_shut 42 = .ok (.aload_n 0, 1) := by decide +kernel
theorem dX9_shut_43 : decode cX9_shut 43 = .ok (.getfield 248, 3) := by decide +kernel
theorem dX9_shut_46 : decode cX9_shut 46 = .ok (.iaload, 1) := by decide +kernel
theorem dX9_shut_47 : decode cX9_shut 47 = .ok (.if_icmp .ge 92, 3) := by decide +kernel
theorem dX9_shut_50 : decode cX9_shut 50 = .ok (.aload_n 0, 1) := by decide +kernel
theorem dX9_shut_51 : decode cX9_shut 51 = .ok (.iload 4, 2) := by decide +kernel
theorem dX9_shut_53 : decode cX9_shut 53 = .ok (.invokevirtual 374, 3) := by decide +kernel
theorem dX9_shut_56 : decode cX9_shut 56 = .ok (.ifCond .eq 6, 3) := by decide +kernel
theorem dX9_shut_59 : decode cX9_shut 59 = .ok (.goto 74, 3) := by decide +kernel
theorem dX9_shut_62 : decode cX9_shut 62 = .ok (.iconst 0, 1) := by decide +kernel
theorem dX9_shut_63 : decode cX9_shut 63 = .ok (.istore 5, 2) := by decide +kernel
theorem dX9_shut_65 : decode cX9_shut 65 = .ok (.iconst 0, 1) := by decide +kernel
theorem dX9_shut_66 : decode cX9_shut 66 = .ok (.istore 6, 2) := by decide +kernel
theorem dX9_shut_68 : decode cX9_shut 68 = .ok (.iload 6, 2) := by decide +kernel
theorem dX9_shut_70 : decode cX9_shut 70 = .ok (.iload_n 1, 1) := by decide +kernel
theorem dX9_shut_71 : decode cX9_shut 71 = .ok (.if_icmp .ge 32, 3) := by decide +kernel
theorem dX9_shut_74 : decode cX9_shut 74 = .ok (.iload 5, 2) := by decide +kernel
theorem dX9_shut_76 : decode cX9_shut 76 = .ok (.ifCond .ne 14, 3) := by decide +kernel
theorem dX9_shut_79 : decode cX9_shut 79 = .ok (.aload_n 0, 1) := by decide +kernel
theorem dX9_shut_80 : decode cX9_shut 80 = .ok (.iload 6, 2) := by decide +kernel
theorem dX9_shut_82 : decode cX9_shut 82 = .ok (.iload 4, 2) := by decide +kernel
theorem dX9_shut_84 : decode cX9_shut 84 = .ok (.invokevirtual 399, 3) := by decide +kernel
theorem dX9_shut_87 : decode cX9_shut 87 = .ok (.ifCond .eq 7, 3) := by decide +kernel
theorem dX9_shut_90 : decode cX9_shut 90 = .ok (.iconst 1, 1) := by decide +kernel
theorem dX9_shut_91 : decode cX9_shut 91 = .ok (.goto 4, 3) := by decide +kernel
theorem dX9_shut_94 : decode cX9_shut 94 = .ok (.iconst 0, 1) := by decide +kernel
theorem dX9_shut_95 : decode cX9_shut 95 = .ok (.istore 5, 2) := by decide +kernel
theorem dX9_shut_97 : decode cX9_shut 97 = .ok (.iinc 6 1, 3) := by decide +kernel
theorem dX9_shut_100 : decode cX9_shut 100 = .ok (.goto (-32), 3) := by decide +kernel
theorem dX9_shut_103 : decode cX9_shut 103 = .ok (.iload_n 3, 1) := by decide +kernel
theorem dX9_shut_104 : decode cX9_shut 104 = .ok (.iload 5, 2) := by decide +kernel
theorem dX9_shut_106 : decode cX9_shut 106 = .ok (.ifCond .eq 17, 3) := by decide +kernel
theorem dX9_shut_109 : decode cX9_shut 109 = .ok (.aload_n 0, 1) := by decide +kernel
theorem dX9_shut_110 : decode cX9_shut 110 = .ok (.getfield 92, 3) := by decide +kernel
theorem dX9_shut_113 : decode cX9_shut 113 = .ok (.iload 4, 2) := by decide +kernel
theorem dX9_shut_115 : decode cX9_shut 115 = .ok (.iaload, 1) := by decide +kernel
theorem dX9_shut_116 : decode cX9_shut 116 = .ok (.invokestatic 365, 3) := by decide +kernel
theorem dX9_shut_119 : decode cX9_shut 119 = .ok (.iload_n 2, 1) := by decide +kernel
theorem dX9_shut_120 : decode cX9_shut 120 = .ok (.if_icmp .ge 10, 3) := by decide +kernel
theorem dX9_shut_123 : decode cX9_shut 123 = .ok (.iconst 1, 1) := by decide +kernel
theorem dX9_shut_124 : decode cX9_shut 124 = .ok (.iload 4, 2) := by decide +kernel
theorem dX9_shut_126 : decode cX9_shut 126 = .ok (.ishl, 1) := by decide +kernel
theorem dX9_shut_127 : decode cX9_shut 127 = .ok (.goto 4, 3) := by decide +kernel
theorem dX9_shut_130 : decode cX9_shut 130 = .ok (.iconst 0, 1) := by decide +kernel
theorem dX9_shut_131 : decode cX9_shut 131 = .ok (.ior, 1) := by decide +kernel
theorem dX9_shut_132 : decode cX9_shut 132 = .ok (.istore_n 3, 1) := by decide +kernel
theorem dX9_shut_133 : decode cX9_shut 133 = .ok (.iinc 4 1, 3) := by decide +kernel
theorem dX9_shut_136 : decode cX9_shut 136 = .ok (.goto (-100), 3) := by decide +kernel
theorem dX9_shut_139 : decode cX9_shut 139 = .ok (.iload_n 3, 1) := by decide +kernel
theorem dX9_shut_140 : decode cX9_shut 140 = .ok (.ireturn, 1) := by decide +kernel
theorem dX9_sides_0 : decode cX9_sides 0 = .ok (.iconst 0, 1) := by decide +kernel
theorem dX9_sides_1 : decode cX9_sides 1 = .ok (.istore_n 1, 1) := by decide +kernel
theorem dX9_sides_2 : decode cX9_sides 2 = .ok (.iload_n 1, 1) := by decide +kernel
theorem dX9_sides_3 : decode cX9_sides 3 = .ok (.aload_n 0, 1) := by decide +kernel
theorem dX9_sides_4 : decode cX9_sides 4 = .ok (.getfield 20, 3) := by decide +kernel
theorem dX9_sides_7 : decode cX9_sides 7 = .ok (.aload_n 0, 1) := by decide +kernel
theorem dX9_sides_8 : decode cX9_sides 8 = .ok (.getfield 248, 3) := by decide +kernel
theorem dX9_sides_11 : decode cX9_sides 11 = .ok (.iaload, 1) := by decide +kernel
theorem dX9_sides_12 : decode cX9_sides 12 = .ok (.if_icmp .ge 81, 3) := by decide +kernel
theorem dX9_sides_15 : decode cX9_sides 15 = .ok (.iconst 0, 1) := by decide +kernel
theorem dX9_sides_16 : decode cX9_sides 16 = .ok (.istore_n 2, 1) := by decide +kernel
theorem dX9_sides_17 : decode cX9_sides 17 = .ok (.iconst 0, 1) := by decide +kernel
theorem dX9_sides_18 : decode cX9_sides 18 = .ok (.istore_n 3, 1) := by decide +kernel
theorem dX9_sides_19 : decode cX9_sides 19 = .ok (.iload_n 3, 1) := by decide +kernel
theorem dX9_sides_20 : decode cX9_sides 20 = .ok (.aload_n 0, 1) := by decide +kernel
theorem dX9_sides_21 : decode cX9_sides 21 = .ok (.getfield 20, 3) := by decide +kernel
theorem dX9_sides_24 : decode cX9_sides 24 = .ok (.aload_n 0, 1) := by decide +kernel
theorem dX9_sides_25 : decode cX9_sides 25 = .ok (.getfield 248, 3) := by decide +kernel
theorem dX9_sides_28 : decode cX9_sides 28 = .ok (.iaload, 1) := by decide +kernel
theorem dX9_sides_29 : decode cX9_sides 29 = .ok (.if_icmp .ge 33, 3) := by decide +kernel
theorem dX9_sides_32 : decode cX9_sides 32 = .ok (.iload_n 2, 1) := by decide +kernel
theorem dX9_sides_33 : decode cX9_sides 33 = .ok (.iload_n 1, 1) := by decide +kernel
theorem dX9_sides_34 : decode cX9_sides 34 = .ok (.iload_n 3, 1) := by decide +kernel
theorem dX9_sides_35 : decode cX9_sides 35 = .ok (.if_icmp .eq 18, 3) := by decide +kernel
theorem dX9_sides_38 : decode cX9_sides 38 = .ok (.aload_n 0, 1) := by decide +kernel
theorem dX9_sides_39 : decode cX9_sides 39 = .ok (.iload_n 1, 1) := by decide +kernel
theorem dX9_sides_40 : decode cX9_sides 40 = .ok (.iload_n 3, 1) := by decide +kernel
theorem dX9_sides_41 : decode cX9_sides 41 = .ok (.invokevirtual 488, 3) := by decide +kernel
theorem dX9_sides_44 : decode cX9_sides 44 = .ok (.ifCond .eq 9, 3) := by decide +kernel
theorem dX9_sides_47 : decode cX9_sides 47 = .ok (.iconst 1, 1) := by decide +kernel
theorem dX9_sides_48 : decode cX9_sides 48 = .ok (.iload_n 3, 1) := by decide +kernel
theorem dX9_sides_49 : decode cX9_sides 49 = .ok (.ishl, 1) := by decide +kernel
theorem dX9_sides_50 : decode cX9_sides 50 = .ok (.goto 4, 3) := by decide +kernel
theorem dX9_sides_53 : decode cX9_sides 53 = .ok (.iconst 0, 1) := by decide +kernel
theorem dX9_sides_54 : decode cX9_sides 54 = .ok (.ior, 1) := by decide +kernel
theorem dX9_sides_55 : decode cX9_sides 55 = .ok (.istore_n 2, 1) := by decide +kernel
theorem dX9_sides_56 : decode cX9_sides 56 = .ok (.iinc 3 1, 3) := by decide +kernel
theorem dX9_sides_59 : decode cX9_sides 59 = .ok (.goto (-40), 3) := by decide +kernel
theorem dX9_sides_62 : decode cX9_sides 62 = .ok (.aload_n 0, 1) := by decide +kernel
theorem dX9_sides_63 : decode cX9_sides 63 = .ok (.getfield 122, 3) := by decide +kernel
theorem dX9_sides_66 : decode cX9_sides 66 = .ok (.iload_n 1, 1) := by decide +kernel
theorem dX9_sides_67 : decode cX9_sides 67 = .ok (.aload_n 0, 1) := by decide +kernel
theorem dX9_sides_68 : decode cX9_sides 68 = .ok (.getfield 423, 3) := by decide +kernel
theorem dX9_sides_71 : decode cX9_sides 71 = .ok (.ifCond .ne 7, 3) := by decide +kernel
theorem dX9_sides_74 : decode cX9_sides 74 = .ok (.iload_n 2, 1) := by decide +kernel
theorem dX9_sides_75 : decode cX9_sides 75 = .ok (.goto 11, 3) := by decide +kernel
theorem dX9_sides_78 : decode cX9_sides 78 = .ok (.aload_n 0, 1) := by decide +kernel
theorem dX9_sides_79 : decode cX9_sides 79 = .ok (.getfield 122, 3) := by decide +kernel
theorem dX9_sides_82 : decode cX9_sides 82 = .ok (.iload_n 1, 1) := by decide +kernel
theorem dX9_sides_83 : decode cX9_sides 83 = .ok (.iaload, 1) := by decide +kernel
theorem dX9_sides_84 : decode cX9_sides 84 = .ok (.iload_n 2, 1) := by decide +kernel
theorem dX9_sides_85 : decode cX9_sides 85 = .ok (.iand, 1) := by decide +kernel
theorem dX9_sides_86 : decode cX9_sides 86 = .ok (.iastore, 1) := by decide +kernel
theorem dX9_sides_87 : decode cX9_sides 87 = .ok (.iinc 1 1, 3) := by decide +kernel
theorem dX9_sides_90 : decode cX9_sides 90 = .ok (.goto (-88), 3) := by decide +kernel
theorem dX9_sides_93 : decode cX9_sides 93 = .ok (.return_, 1) := by decide +kernel
theorem dX9_sign_0 : decode cX9_sign 0 = .ok (.iload_n 1, 1) := by decide +kernel
theorem dX9_sign_1 : decode cX9_sign 1 = .ok (.aload_n 0, 1) := by decide +kernel
theorem dX9_sign_2 : decode cX9_sign 2 = .ok (.getfield 155, 3) := by decide +kernel
theorem dX9_sign_5 : decode cX9_sign 5 = .ok (.if_icmp .ge 16, 3) := by decide +kernel
theorem dX9_sign_8 : decode cX9_sign 8 = .ok (.aload_n 0, 1) := by decide +kernel
theorem dX9_sign_9 : decode cX9_sign 9 = .ok (.getfield 13, 3) := by decide +kernel
theorem dX9_sign_12 : decode cX9_sign 12 = .ok (.iload_n 1, 1) := by decide +kernel
theorem dX9_sign_13 : decode cX9_sign 13 = .ok (.baload, 1) := by decide +kernel
theorem dX9_sign_14 : decode cX9_sign 14 = .ok (.sipush 255, 3) := by decide +kernel
theorem dX9_sign_17 : decode cX9_sign 17 = .ok (.iand, 1) := by decide +kernel
theorem dX9_sign_18 : decode cX9_sign 18 = .ok (.goto 4, 3) := by decide +kernel
theorem dX9_sign_21 : decode cX9_sign 21 = .ok (.iconst 0, 1) := by decide +kernel
theorem dX9_sign_22 : decode cX9_sign 22 = .ok (.ireturn, 1) := by decide +kernel
theorem dX9_since_0 : decode cX9_since 0 = .ok (.aload_n 0, 1) := by decide +kernel
theorem dX9_since_1 : decode cX9_since 1 = .ok (.iload_n 1, 1) := by decide +kernel
theorem dX9_since_2 : decode cX9_since 2 = .ok (.invokevirtual 371, 3) := by decide +kernel
theorem dX9_since_5 : decode cX9_since 5 = .ok (.ifCond .eq 41, 3) := by decide +kernel
theorem dX9_since_8 : decode cX9_since 8 = .ok (.aload_n 0, 1) := by decide +kernel
theorem dX9_since_9 : decode cX9_since 9 = .ok (.iload_n 2, 1) := by decide +kernel
theorem dX9_since_10 : decode cX9_since 10 = .ok (.invokevirtual 371, 3) := by decide +kernel
theorem dX9_since_13 : decode cX9_since 13 = .ok (.ifCond .eq 33, 3) := by decide +kernel
theorem dX9_since_16 : decode cX9_since 16 = .ok (.iload_n 1, 1) := by decide +kernel
theorem dX9_since_17 : decode cX9_since 17 = .ok (.iload_n 2, 1) := by decide +kernel
theorem dX9_since_18 : decode cX9_since 18 = .ok (.if_icmp .eq 28, 3) := by decide +kernel
theorem dX9_since_21 : decode cX9_since 21 = .ok (.aload_n 0, 1) := by decide +kernel
theorem dX9_since_22 : decode cX9_since 22 = .ok (.iload_n 1, 1) := by decide +kernel
theorem dX9_since_23 : decode cX9_since 23 = .ok (.invokevirtual 374, 3) := by decide +kernel
theorem dX9_since_26 : decode cX9_since 26 = .ok (.ifCond .ne 20, 3) := by decide +kernel
theorem dX9_since_29 : decode cX9_since 29 = .ok (.aload_n 0, 1) := by decide +kernel
theorem dX9_since_30 : decode cX9_since 30 = .ok (.iload_n 2, 1) := by decide +kernel
theorem dX9_since_31 : decode cX9_since 31 = .ok (.invokevirtual 374, 3) := by decide +kernel
theorem dX9_since_34 : decode cX9_since 34 = .ok (.ifCond .ne 12, 3) := by decide +kernel
theorem dX9_since_37 : decode cX9_since 37 = .ok (.aload_n 0, 1) := by decide +kernel
theorem dX9_since_38 : decode cX9_since 38 = .ok (.iload_n 1, 1) := by decide +kernel
theorem dX9_since_39 : decode cX9_since 39 = .ok (.iload_n 2, 1) := by decide +kernel
theorem dX9_since_40 : decode cX9_since 40 = .ok (.invokevirtual 329, 3) := by decide +kernel
theorem dX9_since_43 : decode cX9_since 43 = .ok (.goto 4, 3) := by decide +kernel
theorem dX9_since_46 : decode cX9_since 46 = .ok (.iconst (-1), 1) := by decide +kernel
theorem dX9_since_47 : decode cX9_since 47 = .ok (.ireturn, 1) := by decide +kernel
theorem dX9_sinceOf_0 : decode cX9_sinceOf 0 = .ok (.aload_n 0, 1) := by decide +kernel
theorem dX9_sinceOf_1 : decode cX9_sinceOf 1 = .ok (.getfield 77, 3) := by decide +kernel
theorem dX9_sinceOf_4 : decode cX9_sinceOf 4 = .ok (.bipush 9, 2) := by decide +kernel
theorem dX9_sinceOf_6 : decode cX9_sinceOf 6 = .ok (.iload_n 1, 1) := by decide +kernel
theorem dX9_sinceOf_7 : decode cX9_sinceOf 7 = .ok (.imul, 1) := by decide +kernel
theorem dX9_sinceOf_8 : decode cX9_sinceOf 8 = .ok (.iload_n 2, 1) := by decide +kernel
theorem dX9_sinceOf_9 : decode cX9_sinceOf 9 = .ok (.iadd, 1) := by decide +kernel
theorem dX9_sinceOf_10 : decode cX9_sinceOf 10 = .ok (.iaload, 1) := by decide +kernel
theorem dX9_sinceOf_11 : decode cX9_sinceOf 11 = .ok (.istore_n 3, 1) := by decide +kernel
theorem dX9_sinceOf_12 : decode cX9_sinceOf 12 = .ok (.iload_n 3, 1) := by decide +kernel
theorem dX9_sinceOf_13 : decode cX9_sinceOf 13 = .ok (.ifCond .eq 16, 3) := by decide +kernel
theorem dX9_sinceOf_16 : decode cX9_sinceOf 16 = .ok (.aload_n 0, 1) := by decide +kernel
theorem dX9_sinceOf_17 : decode cX9_sinceOf 17 = .ok (.getfield 335, 3) := by decide +kernel
theorem dX9_sinceOf_20 : decode cX9_sinceOf 20 = .ok (.iload_n 3, 1) := by decide +kernel
theorem dX9_sinceOf_21 : decode cX9_sinceOf 21 = .ok (.isub, 1) := by decide +kernel
theorem dX9_sinceOf_22 : decode cX9_sinceOf 22 = .ok (.iconst 1, 1) := by decide +kernel
theorem dX9_sinceOf_23 : decode cX9_sinceOf 23 = .ok (.iadd, 1) := by decide +kernel
theorem dX9_sinceOf_24 : decode cX9_sinceOf 24 = .ok (.bipush 99, 2) := by decide +kernel
theorem dX9_sinceOf_26 : decode cX9_sinceOf 26 = .ok (.if_icmp .le 8, 3) := by decide +kernel
theorem dX9_sinceOf_29 : decode cX9_sinceOf 29 = .ok (.bipush 99, 2) := by decide +kernel
theorem dX9_sinceOf_31 : decode cX9_sinceOf 31 = .ok (.goto 11, 3) := by decide +kernel
theorem dX9_sinceOf_34 : decode cX9_sinceOf 34 = .ok (.aload_n 0, 1) := by decide +kernel
theorem dX9_sinceOf_35 : decode cX9_sinceOf 35 = .ok (.getfield 335, 3) := by decide +kernel
theorem dX9_sinceOf_38 : decode cX9_sinceOf 38 = .ok (.iload_n 3, 1) := by decide +kernel
theorem dX9_sinceOf_39 : decode cX9_sinceOf 39 = .ok (.isub, 1) := by decide +kernel
theorem dX9_sinceOf_40 : decode cX9_sinceOf 40 = .ok (.iconst 1, 1) := by decide +kernel
theorem dX9_sinceOf_41 : decode cX9_sinceOf 41 = .ok (.iadd, 1) := by decide +kernel
theorem dX9_sinceOf_42 : decode cX9_sinceOf 42 = .ok (.ireturn, 1) := by decide +kernel
theorem dX9_stands_0 : decode cX9_stands 0 = .ok (.iconst 0, 1) := by decide +kernel
theorem dX9_stands_1 : decode cX9_stands 1 = .ok (.istore_n 2, 1) := by decide +kernel
theorem dX9_stands_2 : decode cX9_stands 2 = .ok (.iload_n 2, 1) := by decide +kernel
theorem dX9_stands_3 : decode cX9_stands 3 = .ok (.aload_n 0, 1) := by decide +kernel
theorem dX9_stands_4 : decode cX9_stands 4 = .ok (.getfield 20, 3) := by decide +kernel
theorem dX9_stands_7 : decode cX9_stands 7 = .ok (.aload_n 0, 1) := by decide +kernel
theorem dX9_stands_8 : decode cX9_stands 8 = .ok (.getfield 248, 3) := by decide +kernel
theorem dX9_stands_11 : decode cX9_stands 11 = .ok (.iaload, 1) := by decide +kernel
theorem dX9_stands_12 : decode cX9_stands 12 = .ok (.if_icmp .ge 36, 3) := by decide +kernel
theorem dX9_stands_15 : decode cX9_stands 15 = .ok (.aload_n 0, 1) := by decide +kernel
theorem dX9_stands_16 : decode cX9_stands 16 = .ok (.getfield 348, 3) := by decide +kernel
theorem dX9_stands_19 : decode cX9_stands 19 = .ok (.ifCond .eq 23, 3) := by decide +kernel
theorem dX9_stands_22 : decode cX9_stands 22 = .ok (.aload_n 0, 1) := by decide +kernel
theorem dX9_stands_23 : decode cX9_stands 23 = .ok (.iload_n 2, 1) := by decide +kernel
theorem dX9_stands_24 : decode cX9_stands 24 = .ok (.invokevirtual 374, 3) := by decide +kernel
theorem dX9_stands_27 : decode cX9_stands 27 = .ok (.ifCond .ne 15, 3) := by decide +kernel
theorem dX9_stands_30 : decode cX9_stands 30 = .ok (.aload_n 0, 1) := by decide +kernel
theorem dX9_stands_31 : decode cX9_stands 31 = .ok (.getfield 80, 3) := by decide +kernel
theorem dX9_stands_34 : decode cX9_stands 34 = .ok (.iload_n 2, 1) := by decide +kernel
theorem dX9_stands_35 : decode cX9_stands 35 = .ok (.iaload, 1) := by decide +kernel
theorem dX9_stands_36 : decode cX9_stands 36 = .ok (.iload_n 1, 1) := by decide +kernel
theorem dX9_stands_37 : decode cX9_stands 37 = .ok (.if_icmp .ne 5, 3) := by decide +kernel
theorem dX9_stands_40 : decode cX9_stands 40 = .ok (.iload_n 2, 1) := by decide +kernel
theorem dX9_stands_41 : decode cX9_stands 41 = .ok (.ireturn, 1) := by decide +kernel
theorem dX9_stands_42 : decode cX9_stands 42 = .ok (.iinc 2 1, 3) := by decide +kernel
theorem dX9_stands_45 : decode cX9_stands 45 = .ok (.goto (-43), 3) := by decide +kernel
theorem dX9_stands_48 : decode cX9_stands 48 = .ok (.iconst (-1), 1) := by decide +kernel
theorem dX9_stands_49 : decode cX9_stands 49 = .ok (.ireturn, 1) := by decide +kernel
theorem dX9_sure_0 : decode cX9_sure 0 = .ok (.aload_n 0, 1) := by decide +kernel
theorem dX9_sure_1 : decode cX9_sure 1 = .ok (.iload_n 1, 1) := by decide +kernel
theorem dX9_sure_2 : decode cX9_sure 2 = .ok (.invokevirtual 371, 3) := by decide +kernel
theorem dX9_sure_5 : decode cX9_sure 5 = .ok (.ifCond .eq 11, 3) := by decide +kernel
theorem dX9_sure_8 : decode cX9_sure 8 = .ok (.aload_n 0, 1) := by decide +kernel
theorem dX9_sure_9 : decode cX9_sure 9 = .ok (.iload_n 1, 1) := by decide +kernel
theorem dX9_sure_10 : decode cX9_sure 10 = .ok (.invokevirtual 374, 3) := by decide +kernel
theorem dX9_sure_13 : decode cX9_sure 13 = .ok (.ifCond .eq 5, 3) := by decide +kernel
theorem dX9_sure_16 : decode cX9_sure 16 = .ok (.iconst (-1), 1) := by decide +kernel
theorem dX9_sure_17 : decode cX9_sure 17 = .ok (.ireturn, 1) := by decide +kernel
theorem dX9_sure_18 : decode cX9_sure 18 = .ok (.aload_n 0, 1) := by decide +kernel
theorem dX9_sure_19 : decode cX9_sure 19 = .ok (.iload_n 2, 1) := by decide +kernel
theorem dX9_sure_20 : decode cX9_sure 20 = .ok (.invokevirtual 491, 3) := by decide +kernel
theorem dX9_sure_23 : decode cX9_sure 23 = .ok (.ifCond .ne 7, 3) := by decide +kernel
theorem dX9_sure_26 : decode cX9_sure 26 = .ok (.iconst (-1), 1) := by decide +kernel
theorem dX9_sure_27 : decode cX9_sure 27 = .ok (.goto 9, 3) := by decide +kernel
theorem dX9_sure_30 : decode cX9_sure 30 = .ok (.aload_n 0, 1) := by decide +kernel
theorem dX9_sure_31 : decode cX9_sure 31 = .ok (.getfield 122, 3) := by decide +kernel
theorem dX9_sure_34 : decode cX9_sure 34 = .ok (.iload_n 1, 1) := by decide +kernel
theorem dX9_sure_35 : decode cX9_sure 35 = .ok (.iaload, 1) := by decide +kernel
theorem dX9_sure_36 : decode cX9_sure 36 = .ok (.ireturn, 1) := by decide +kernel
theorem dX9_take_0 : decode cX9_take 0 = .ok (.aload_n 0, 1) := by decide +kernel
theorem dX9_take_1 : decode cX9_take 1 = .ok (.getfield 358, 3) := by decide +kernel
theorem dX9_take_4 : decode cX9_take 4 = .ok (.ifCond .ne 5, 3) := by decide +kernel
theorem dX9_take_7 : decode cX9_take 7 = .ok (.iconst (-1), 1) := by decide +kernel
theorem dX9_take_8 : decode cX9_take 8 = .ok (.ireturn, 1) := by decide +kernel
theorem dX9_take_9 : decode cX9_take 9 = .ok (.aload_n 0, 1) := by decide +kernel
theorem dX9_take_10 : decode cX9_take 10 = .ok (.aload_n 0, 1) := by decide +kernel
theorem dX9_take_11 : decode cX9_take 11 = .ok (.invokevirtual 381, 3) := by decide +kernel
theorem dX9_take_14 : decode cX9_take 14 = .ok (.putfield 355, 3) := by decide +kernel
theorem dX9_take_17 : decode cX9_take 17 = .ok (.iconst 0, 1) := by decide +kernel
theorem dX9_take_18 : decode cX9_take 18 = .ok (.istore_n 1, 1) := by decide +kernel
theorem dX9_take_19 : decode cX9_take 19 = .ok (.iload_n 1, 1) := by decide +kernel
theorem dX9_take_20 : decode cX9_take 20 = .ok (.aload_n 0, 1) := by decide +kernel
theorem dX9_take_21 : decode cX9_take 21 = .ok (.getfield 355, 3) := by decide +kernel
theorem dX9_take_24 : decode cX9_take 24 = .ok (.if_icmp .ge 21, 3) := by decide +kernel
theorem dX9_take_27 : decode cX9_take 27 = .ok (.aload_n 0, 1) := by decide +kernel
theorem dX9_take_28 : decode cX9_take 28 = .ok (.getfield 83, 3) := by decide +kernel
theorem dX9_take_31 : decode cX9_take 31 = .ok (.iload_n 1, 1) := by decide +kernel
theorem dX9_take_32 : decode cX9_take 32 = .ok (.aload_n 0, 1) := by decide +kernel
theorem dX9_take_33 : decode cX9_take 33 = .ok (.getfield 95, 3) := by decide +kernel
theorem dX9_take_36 : decode cX9_take 36 = .ok (.iload_n 1, 1) := by decide +kernel
theorem dX9_take_37 : decode cX9_take 37 = .ok (.iaload, 1) := by decide +kernel
theorem dX9_take_38 : decode cX9_take 38 = .ok (.iastore, 1) := by decide +kernel
theorem dX9_take_39 : decode cX9_take 39 = .ok (.iinc 1 1, 3) := by decide +kernel
theorem dX9_take_42 : decode cX9_take 42 = .ok (.goto (-23), 3) := by decide +kernel
theorem dX9_take_45 : decode cX9_take 45 = .ok (.aload_n 0, 1) := by decide +kernel
theorem dX9_take_46 : decode cX9_take 46 = .ok (.getfield 355, 3) := by decide +kernel
theorem dX9_take_49 : decode cX9_take 49 = .ok (.ireturn, 1) := by decide +kernel
theorem dX9_tell_0 : decode cX9_tell 0 = .ok (.aload_n 0, 1) := by decide +kernel
theorem dX9_tell_1 : decode cX9_tell 1 = .ok (.iload_n 1, 1) := by decide +kernel
theorem dX9_tell_2 : decode cX9_tell 2 = .ok (.invokevirtual 371, 3) := by decide +kernel
theorem dX9_tell_5 : decode cX9_tell 5 = .ok (.ifCond .eq 11, 3) := by decide +kernel
theorem dX9_tell_8 : decode cX9_tell 8 = .ok (.aload_n 0, 1) := by decide +kernel
theorem dX9_tell_9 : decode cX9_tell 9 = .ok (.iload_n 1, 1) := by decide +kernel
theorem dX9_tell_10 : decode cX9_tell 10 = .ok (.invokevirtual 374, 3) := by decide +kernel
theorem dX9_tell_13 : decode cX9_tell 13 = .ok (.ifCond .eq 5, 3) := by decide +kernel
theorem dX9_tell_16 : decode cX9_tell 16 = .ok (.iconst (-1), 1) := by decide +kernel
theorem dX9_tell_17 : decode cX9_tell 17 = .ok (.ireturn, 1) := by decide +kernel
theorem dX9_tell_18 : decode cX9_tell 18 = .ok (.iconst 0, 1) := by decide +kernel
theorem dX9_tell_19 : decode cX9_tell 19 = .ok (.istore_n 2, 1) := by decide +kernel
theorem dX9_tell_20 : decode cX9_tell 20 = .ok (.iload_n 2, 1) := by decide +kernel
theorem dX9_tell_21 : decode cX9_tell 21 = .ok (.aload_n 0, 1) := by decide +kernel
theorem dX9_tell_22 : decode cX9_tell 22 = .ok (.getfield 355, 3) := by decide +kernel
theorem dX9_tell_25 : decode cX9_tell 25 = .ok (.if_icmp .ge 21, 3) := by decide +kernel
theorem dX9_tell_28 : decode cX9_tell 28 = .ok (.aload_n 0, 1) := by decide +kernel
theorem dX9_tell_29 : decode cX9_tell 29 = .ok (.getfield 83, 3) := by decide +kernel
theorem dX9_tell_32 : decode cX9_tell 32 = .ok (.iload_n 2, 1) := by decide +kernel
theorem dX9_tell_33 : decode cX9_tell 33 = .ok (.iaload, 1) := by decide +kernel
theorem dX9_tell_34 : decode cX9_tell 34 = .ok (.iload_n 1, 1) := by decide +kernel
theorem dX9_tell_35 : decode cX9_tell 35 = .ok (.if_icmp .ne 5, 3) := by decide +kernel
theorem dX9_tell_38 : decode cX9_tell 38 = .ok (.iconst (-1), 1) := by decide +kernel
theorem dX9_tell_39 : decode cX9_tell 39 = .ok (.ireturn, 1) := by decide +kernel
theorem dX9_tell_40 : decode cX9_tell 40 = .ok (.iinc 2 1, 3) := by decide +kernel
theorem dX9_tell_43 : decode cX9_tell 43 = .ok (.goto (-23), 3) := by decide +kernel
theorem dX9_tell_46 : decode cX9_tell 46 = .ok (.aload_n 0, 1) := by decide +kernel
theorem dX9_tell_47 : decode cX9_tell 47 = .ok (.getfield 83, 3) := by decide +kernel
theorem dX9_tell_50 : decode cX9_tell 50 = .ok (.aload_n 0, 1) := by decide +kernel
theorem dX9_tell_51 : decode cX9_tell 51 = .ok (.getfield 355, 3) := by decide +kernel
theorem dX9_tell_54 : decode cX9_tell 54 = .ok (.iload_n 1, 1) := by decide +kernel
theorem dX9_tell_55 : decode cX9_tell 55 = .ok (.iastore, 1) := by decide +kernel
theorem dX9_tell_56 : decode cX9_tell 56 = .ok (.aload_n 0, 1) := by decide +kernel
theorem dX9_tell_57 : decode cX9_tell 57 = .ok (.dup, 1) := by decide +kernel
theorem dX9_tell_58 : decode cX9_tell 58 = .ok (.getfield 355, 3) := by decide +kernel
theorem dX9_tell_61 : decode cX9_tell 61 = .ok (.iconst 1, 1) := by decide +kernel
theorem dX9_tell_62 : decode cX9_tell 62 = .ok (.iadd, 1) := by decide +kernel
theorem dX9_tell_63 : decode cX9_tell 63 = .ok (.putfield 355, 3) := by decide +kernel
theorem dX9_tell_66 : decode cX9_tell 66 = .ok (.aload_n 0, 1) := by decide +kernel
theorem dX9_tell_67 : decode cX9_tell 67 = .ok (.getfield 355, 3) := by decide +kernel
theorem dX9_tell_70 : decode cX9_tell 70 = .ok (.ireturn, 1) := by decide +kernel
theorem dX9_together_0 : decode cX9_together 0 = .ok (.aload_n 0, 1) := by decide +kernel
theorem dX9_together_1 : decode cX9_together 1 = .ok (.getfield 77, 3) := by decide +kernel
theorem dX9_together_4 : decode cX9_together 4 = .ok (.bipush 9, 2) := by decide +kernel
theorem dX9_together_6 : decode cX9_together 6 = .ok (.iload_n 1, 1) := by decide +kernel
theorem dX9_together_7 : decode cX9_together 7 = .ok (.imul, 1) := by decide +kernel
theorem dX9_together_8 : decode cX9_together 8 = .ok (.iload_n 2, 1) := by decide +kernel
theorem dX9_together_9 : decode cX9_together 9 = .ok (.iadd, 1) := by decide +kernel
theorem dX9_together_10 : decode cX9_together 10 = .ok (.aload_n 0, 1) := by decide +kernel
theorem dX9_together_11 : decode cX9_together 11 = .ok (.getfield 335, 3) := by decide +kernel
theorem dX9_together_14 : decode cX9_together 14 = .ok (.iastore, 1) := by decide +kernel
theorem dX9_together_15 : decode cX9_together 15 = .ok (.aload_n 0, 1) := by decide +kernel
theorem dX9_together_16 : decode cX9_together 16 = .ok (.getfield 77, 3) := by decide +kernel
theorem dX9_together_19 : decode cX9_together 19 = .ok (.bipush 9, 2) := by decide +kernel
theorem dX9_together_21 : decode cX9_together 21 = .ok (.iload_n 2, 1) := by decide +kernel
theorem dX9_together_22 : decode cX9_together 22 = .ok (.imul, 1) := by decide +kernel
theorem dX9_together_23 : decode cX9_together 23 = .ok (.iload_n 1, 1) := by decide +kernel
theorem dX9_together_24 : decode cX9_together 24 = .ok (.iadd, 1) := by decide +kernel
theorem dX9_together_25 : decode cX9_together 25 = .ok (.aload_n 0, 1) := by decide +kernel
theorem dX9_together_26 : decode cX9_together 26 = .ok (.getfield 335, 3) := by decide +kernel
theorem dX9_together_29 : decode cX9_together 29 = .ok (.iastore, 1) := by decide +kernel
theorem dX9_together_30 : decode cX9_together 30 = .ok (.return_, 1) := by decide +kernel
theorem dX9_two_0 : decode cX9_two 0 = .ok (.iload_n 0, 1) := by decide +kernel
theorem dX9_two_1 : decode cX9_two 1 = .ok (.tableswitch 186 38 62 #[172, 186, 186, 186, 123, 115, 186, 119, 186, 127, 186, 186, 186, 186, 186, 186, 186, 186, 186, 186, 186, 186, 139, 161, 150], 115) := by decide +kernel
theorem dX9_two_116 : decode cX9_two 116 = .ok (.iload_n 1, 1) := by decide +kernel
theorem dX9_two_117 : decode cX9_two 117 = .ok (.iload_n 2, 1) := by decide +kernel
theorem dX9_two_118 : decode cX9_two 118 = .ok (.iadd, 1) := by decide +kernel
theorem dX9_two_119 : decode cX9_two 119 = .ok (.ireturn, 1) := by decide +kernel
theorem dX9_two_120 : decode cX9_two 120 = .ok (.iload_n 1, 1) := by decide +kernel
theorem dX9_two_121 : decode cX9_two 121 = .ok (.iload_n 2, 1) := by decide +kernel
theorem dX9_two_122 : decode cX9_two 122 = .ok (.isub, 1) := by decide +kernel
theorem dX9_two_123 : decode cX9_two 123 = .ok (.ireturn, 1) := by decide +kernel
theorem dX9_two_124 : decode cX9_two 124 = .ok (.iload_n 1, 1) := by decide +kernel
theorem dX9_two_125 : decode cX9_two 125 = .ok (.iload_n 2, 1) := by decide +kernel
theorem dX9_two_126 : decode cX9_two 126 = .ok (.imul, 1) := by decide +kernel
theorem dX9_two_127 : decode cX9_two 127 = .ok (.ireturn, 1) := by decide +kernel
theorem dX9_two_128 : decode cX9_two 128 = .ok (.iload_n 2, 1) := by decide +kernel
theorem dX9_two_129 : decode cX9_two 129 = .ok (.ifCond .ne 7, 3) := by decide +kernel
theorem dX9_two_132 : decode cX9_two 132 = .ok (.iconst 0, 1) := by decide +kernel
theorem dX9_two_133 : decode cX9_two 133 = .ok (.goto 6, 3) := by decide +kernel
theorem dX9_two_136 : decode cX9_two 136 = .ok (.iload_n 1, 1) := by decide +kernel
theorem dX9_two_137 : decode cX9_two 137 = .ok (.iload_n 2, 1) := by decide +kernel
theorem dX9_two_138 : decode cX9_two 138 = .ok (.idiv, 1) := by decide +kernel
theorem dX9_two_139 : decode cX9_two 139 = .ok (.ireturn, 1) := by decide +kernel
theorem dX9_two_140 : decode cX9_two 140 = .ok (.iload_n 1, 1) := by decide +kernel
theorem dX9_two_141 : decode cX9_two 141 = .ok (.iload_n 2, 1) := by decide +kernel
theorem dX9_two_142 : decode cX9_two 142 = .ok (.if_icmp .ge 7, 3) := by decide +kernel
theorem dX9_two_145 : decode cX9_two 145 = .ok (.iconst 1, 1) := by decide +kernel
theorem dX9_two_146 : decode cX9_two 146 = .ok (.goto 4, 3) := by decide +kernel
theorem dX9_two_149 : decode cX9_two 149 = .ok (.iconst 0, 1) := by decide +kernel
theorem dX9_two_150 : decode cX9_two 150 = .ok (.ireturn, 1) := by decide +kernel
theorem dX9_two_151 : decode cX9_two 151 = .ok (.iload_n 1, 1) := by decide +kernel
theorem dX9_two_152 : decode cX9_two 152 = .ok (.iload_n 2, 1) := by decide +kernel
theorem dX9_two_153 : decode cX9_two 153 = .ok (.if_icmp .le 7, 3) := by decide +kernel
theorem dX9_two_156 : decode cX9_two 156 = .ok (.iconst 1, 1) := by decide +kernel
theorem dX9_two_157 : decode cX9_two 157 = .ok (.goto 4, 3) := by decide +kernel
theorem dX9_two_160 : decode cX9_two 160 = .ok (.iconst 0, 1) := by decide +kernel
theorem dX9_two_161 : decode cX9_two 161 = .ok (.ireturn, 1) := by decide +kernel
theorem dX9_two_162 : decode cX9_two 162 = .ok (.iload_n 1, 1) := by decide +kernel
theorem dX9_two_163 : decode cX9_two 163 = .ok (.iload_n 2, 1) := by decide +kernel
theorem dX9_two_164 : decode cX9_two 164 = .ok (.if_icmp .ne 7, 3) := by decide +kernel
theorem dX9_two_167 : decode cX9_two 167 = .ok (.iconst 1, 1) := by decide +kernel
theorem dX9_two_168 : decode cX9_two 168 = .ok (.goto 4, 3) := by decide +kernel
theorem dX9_two_171 : decode cX9_two 171 = .ok (.iconst 0, 1) := by decide +kernel
theorem dX9_two_172 : decode cX9_two 172 = .ok (.ireturn, 1) := by decide +kernel
theorem dX9_two_173 : decode cX9_two 173 = .ok (.iload_n 1, 1) := by decide +kernel
theorem dX9_two_174 : decode cX9_two 174 = .ok (.ifCond .eq 11, 3) := by decide +kernel
theorem dX9_two_177 : decode cX9_two 177 = .ok (.iload_n 2, 1) := by decide +kernel
theorem dX9_two_178 : decode cX9_two 178 = .ok (.ifCond .eq 7, 3) := by decide +kernel
theorem dX9_two_181 : decode cX9_two 181 = .ok (.iconst 1, 1) := by decide +kernel
theorem dX9_two_182 : decode cX9_two 182 = .ok (.goto 4, 3) := by decide +kernel
theorem dX9_two_185 : decode cX9_two 185 = .ok (.iconst 0, 1) := by decide +kernel
theorem dX9_two_186 : decode cX9_two 186 = .ok (.ireturn, 1) := by decide +kernel
theorem dX9_two_187 : decode cX9_two 187 = .ok (.iload_n 1, 1) := by decide +kernel
theorem dX9_two_188 : decode cX9_two 188 = .ok (.ifCond .ne 7, 3) := by decide +kernel
theorem dX9_two_191 : decode cX9_two 191 = .ok (.iload_n 2, 1) := by decide +kernel
theorem dX9_two_192 : decode cX9_two 192 = .ok (.ifCond .eq 7, 3) := by decide +kernel
theorem dX9_two_195 : decode cX9_two 195 = .ok (.iconst 1, 1) := by decide +kernel
theorem dX9_two_196 : decode cX9_two 196 = .ok (.goto 4, 3) := by decide +kernel
theorem dX9_two_199 : decode cX9_two 199 = .ok (.iconst 0, 1) := by decide +kernel
theorem dX9_two_200 : decode cX9_two 200 = .ok (.ireturn, 1) := by decide +kernel
theorem dX9_unit_0 : decode cX9_unit 0 = .ok (.aload_n 0, 1) := by decide +kernel
theorem dX9_unit_1 : decode cX9_unit 1 = .ok (.getfield 68, 3) := by decide +kernel
theorem dX9_unit_4 : decode cX9_unit 4 = .ok (.aload_n 0, 1) := by decide +kernel
theorem dX9_unit_5 : decode cX9_unit 5 = .ok (.getfield 299, 3) := by decide +kernel
theorem dX9_unit_8 : decode cX9_unit 8 = .ok (.iconst 1, 1) := by decide +kernel
theorem dX9_unit_9 : decode cX9_unit 9 = .ok (.isub, 1) := by decide +kernel
theorem dX9_unit_10 : decode cX9_unit 10 = .ok (.iaload, 1) := by decide +kernel
theorem dX9_unit_11 : decode cX9_unit 11 = .ok (.iconst 3, 1) := by decide +kernel
theorem dX9_unit_12 : decode cX9_unit 12 = .ok (.if_icmp .le 19, 3) := by decide +kernel
theorem dX9_unit_15 : decode cX9_unit 15 = .ok (.aload_n 0, 1) := by decide +kernel
theorem dX9_unit_16 : decode cX9_unit 16 = .ok (.getfield 68, 3) := by decide +kernel
theorem dX9_unit_19 : decode cX9_unit 19 = .ok (.aload_n 0, 1) := by decide +kernel
theorem dX9_unit_20 : decode cX9_unit 20 = .ok (.getfield 299, 3) := by decide +kernel
theorem dX9_unit_23 : decode cX9_unit 23 = .ok (.iconst 1, 1) := by decide +kernel
theorem dX9_unit_24 : decode cX9_unit 24 = .ok (.isub, 1) := by decide +kernel
theorem dX9_unit_25 : decode cX9_unit 25 = .ok (.iaload, 1) := by decide +kernel
theorem dX9_unit_26 : decode cX9_unit 26 = .ok (.bipush 7, 2) := by decide +kernel
theorem dX9_unit_28 : decode cX9_unit 28 = .ok (.if_icmp .lt 7, 3) := by decide +kernel
theorem dX9_unit_31 : decode cX9_unit 31 = .ok (.iconst 1, 1) := by decide +kernel
theorem dX9_unit_32 : decode cX9_unit 32 = .ok (.goto 4, 3) := by decide +kernel
theorem dX9_unit_35 : decode cX9_unit 35 = .ok (.iconst 0, 1) := by decide +kernel
theorem dX9_unit_36 : decode cX9_unit 36 = .ok (.istore_n 1, 1) := by decide +kernel
theorem dX9_unit_37 : decode cX9_unit 37 = .ok (.iload_n 1, 1) := by decide +kernel
theorem dX9_unit_38 : decode cX9_unit 38 = .ok (.ifCond .eq 17, 3) := by decide +kernel
theorem dX9_unit_41 : decode cX9_unit 41 = .ok (.aload_n 0, 1) := by decide +kernel
theorem dX9_unit_42 : decode cX9_unit 42 = .ok (.ldc2_w 189, 3) := by decide +kernel
theorem dX9_unit_45 : decode cX9_unit 45 = .ok (.invokevirtual 257, 3) := by decide +kernel
theorem dX9_unit_48 : decode cX9_unit 48 = .ok (.ifCond .eq 7, 3) := by decide +kernel
theorem dX9_unit_51 : decode cX9_unit 51 = .ok (.iconst 1, 1) := by decide +kernel
theorem dX9_unit_52 : decode cX9_unit 52 = .ok (.goto 4, 3) := by decide +kernel
theorem dX9_unit_55 : decode cX9_unit 55 = .ok (.iconst 0, 1) := by decide +kernel
theorem dX9_unit_56 : decode cX9_unit 56 = .ok (.istore_n 2, 1) := by decide +kernel
theorem dX9_unit_57 : decode cX9_unit 57 = .ok (.aload_n 0, 1) := by decide +kernel
theorem dX9_unit_58 : decode cX9_unit 58 = .ok (.bipush 40, 2) := by decide +kernel
theorem dX9_unit_60 : decode cX9_unit 60 = .ok (.invokevirtual 279, 3) := by decide +kernel
theorem dX9_unit_63 : decode cX9_unit 63 = .ok (.istore_n 3, 1) := by decide +kernel
theorem dX9_unit_64 : decode cX9_unit 64 = .ok (.aload_n 0, 1) := by decide +kernel
theorem dX9_unit_65 : decode cX9_unit 65 = .ok (.invokevirtual 314, 3) := by decide +kernel
theorem dX9_unit_68 : decode cX9_unit 68 = .ok (.istore 4, 2) := by decide +kernel
theorem dX9_unit_70 : decode cX9_unit 70 = .ok (.iload_n 2, 1) := by decide +kernel
theorem dX9_unit_71 : decode cX9_unit 71 = .ok (.ifCond .ne 34, 3) := by decide +kernel
theorem dX9_unit_74 : decode cX9_unit 74 = .ok (.iload 4, 2) := by decide +kernel
theorem dX9_unit_76 : decode cX9_unit 76 = .ok (.ifCond .ne 15, 3) := by decide +kernel
theorem dX9_unit_79 : decode cX9_unit 79 = .ok (.aload_n 0, 1) := by decide +kernel
theorem dX9_unit_80 : decode cX9_unit 80 = .ok (.getfield 201, 3) := by decide +kernel
theorem dX9_unit_83 : decode cX9_unit 83 = .ok (.iconst 4, 1) := by decide +kernel
theorem dX9_unit_84 : decode cX9_unit 84 = .ok (.if_icmp .eq 7, 3) := by decide +kernel
theorem dX9_unit_87 : decode cX9_unit 87 = .ok (.iload_n 3, 1) := by decide +kernel
theorem dX9_unit_88 : decode cX9_unit 88 = .ok (.ifCond .eq 34, 3) := by decide +kernel
theorem dX9_unit_91 : decode cX9_unit 91 = .ok (.aload_n 0, 1) := by decide +kernel
theorem dX9_unit_92 : decode cX9_unit 92 = .ok (.getfield 30, 3) := by decide +kernel
theorem dX9_unit_95 : decode cX9_unit 95 = .ok (.aload_n 0, 1) := by decide +kernel
theorem dX9_unit_96 : decode cX9_unit 96 = .ok (.getfield 239, 3) := by decide +kernel
theorem dX9_unit_99 : decode cX9_unit 99 = .ok (.iaload, 1) := by decide +kernel
theorem dX9_unit_100 : decode cX9_unit 100 = .ok (.bipush 40, 2) := by decide +kernel
theorem dX9_unit_102 : decode cX9_unit 102 = .ok (.if_icmp .eq 20, 3) := by decide +kernel
theorem dX9_unit_105 : decode cX9_unit 105 = .ok (.iload_n 2, 1) := by decide +kernel
theorem dX9_unit_106 : decode cX9_unit 106 = .ok (.ifCond .ne 7, 3) := by decide +kernel
theorem dX9_unit_109 : decode cX9_unit 109 = .ok (.iload_n 3, 1) := by decide +kernel
theorem dX9_unit_110 : decode cX9_unit 110 = .ok (.ifCond .eq 16, 3) := by decide +kernel
theorem dX9_unit_113 : decode cX9_unit 113 = .ok (.aload_n 0, 1) := by decide +kernel
theorem dX9_unit_114 : decode cX9_unit 114 = .ok (.getfield 302, 3) := by decide +kernel
theorem dX9_unit_117 : decode cX9_unit 117 = .ok (.bipush 7, 2) := by decide +kernel
theorem dX9_unit_119 : decode cX9_unit 119 = .ok (.if_icmp .ne 7, 3) := by decide +kernel
theorem dX9_unit_122 : decode cX9_unit 122 = .ok (.aload_n 0, 1) := by decide +kernel
theorem dX9_unit_123 : decode cX9_unit 123 = .ok (.invokevirtual 236, 3) := by decide +kernel
theorem dX9_unit_126 : decode cX9_unit 126 = .ok (.aload_n 0, 1) := by decide +kernel
theorem dX9_unit_127 : decode cX9_unit 127 = .ok (.invokevirtual 229, 3) := by decide +kernel
theorem dX9_unit_130 : decode cX9_unit 130 = .ok (.ifCond .ne 5, 3) := by decide +kernel
theorem dX9_unit_133 : decode cX9_unit 133 = .ok (.iconst 1, 1) := by decide +kernel
theorem dX9_unit_134 : decode cX9_unit 134 = .ok (.ireturn, 1) := by decide +kernel
theorem dX9_unit_135 : decode cX9_unit 135 = .ok (.aload_n 0, 1) := by decide +kernel
theorem dX9_unit_136 : decode cX9_unit 136 = .ok (.getfield 30, 3) := by decide +kernel
theorem dX9_unit_139 : decode cX9_unit 139 = .ok (.aload_n 0, 1) := by decide +kernel
theorem dX9_unit_140 : decode cX9_unit 140 = .ok (.getfield 239, 3) := by decide +kernel
theorem dX9_unit_143 : decode cX9_unit 143 = .ok (.dup2, 1) := by decide +kernel
theorem dX9_unit_144 : decode cX9_unit 144 = .ok (.iaload, 1) := by decide +kernel
theorem dX9_unit_145 : decode cX9_unit 145 = .ok (.iload_n 2, 1) := by decide +kernel
theorem dX9_unit_146 : decode cX9_unit 146 = .ok (.ifCond .eq 7, 3) := by decide +kernel
theorem dX9_unit_149 : decode cX9_unit 149 = .ok (.iconst 0, 1) := by decide +kernel
theorem dX9_unit_150 : decode cX9_unit 150 = .ok (.goto 4, 3) := by decide +kernel
theorem dX9_unit_153 : decode cX9_unit 153 = .ok (.iconst 1, 1) := by decide +kernel
theorem dX9_unit_154 : decode cX9_unit 154 = .ok (.iadd, 1) := by decide +kernel
theorem dX9_unit_155 : decode cX9_unit 155 = .ok (.iastore, 1) := by decide +kernel
theorem dX9_unit_156 : decode cX9_unit 156 = .ok (.iload 4, 2) := by decide +kernel
theorem dX9_unit_158 : decode cX9_unit 158 = .ok (.ifCond .ne 10, 3) := by decide +kernel
theorem dX9_unit_161 : decode cX9_unit 161 = .ok (.aload_n 0, 1) := by decide +kernel
theorem dX9_unit_162 : decode cX9_unit 162 = .ok (.getfield 219, 3) := by decide +kernel
theorem dX9_unit_165 : decode cX9_unit 165 = .ok (.goto 4, 3) := by decide +kernel
theorem dX9_unit_168 : decode cX9_unit 168 = .ok (.iconst 0, 1) := by decide +kernel
theorem dX9_unit_169 : decode cX9_unit 169 = .ok (.istore 5, 2) := by decide +kernel
theorem dX9_unit_171 : decode cX9_unit 171 = .ok (.aload_n 0, 1) := by decide +kernel
theorem dX9_unit_172 : decode cX9_unit 172 = .ok (.invokevirtual 233, 3) := by decide +kernel
theorem dX9_unit_175 : decode cX9_unit 175 = .ok (.iload_n 2, 1) := by decide +kernel
theorem dX9_unit_176 : decode cX9_unit 176 = .ok (.ifCond .ne 7, 3) := by decide +kernel
theorem dX9_unit_179 : decode cX9_unit 179 = .ok (.iload_n 3, 1) := by decide +kernel
theorem dX9_unit_180 : decode cX9_unit 180 = .ok (.ifCond .eq 31, 3) := by decide +kernel
theorem dX9_unit_183 : decode cX9_unit 183 = .ok (.aload_n 0, 1) := by decide +kernel
theorem dX9_unit_184 : decode cX9_unit 184 = .ok (.iload_n 2, 1) := by decide +kernel
theorem dX9_unit_185 : decode cX9_unit 185 = .ok (.ifCond .eq 7, 3) := by decide +kernel
theorem dX9_unit_188 : decode cX9_unit 188 = .ok (.iconst 3, 1) := by decide +kernel
theorem dX9_unit_189 : decode cX9_unit 189 = .ok (.goto 5, 3) := by decide +kernel
theorem dX9_unit_192 : decode cX9_unit 192 = .ok (.bipush 7, 2) := by decide +kernel
theorem dX9_unit_194 : decode cX9_unit 194 = .ok (.bipush 126, 2) := by decide +kernel
theorem dX9_unit_196 : decode cX9_unit 196 = .ok (.invokevirtual 305, 3) := by decide +kernel
theorem dX9_unit_199 : decode cX9_unit 199 = .ok (.aload_n 0, 1) := by decide +kernel
theorem dX9_unit_200 : decode cX9_unit 200 = .ok (.dup, 1) := by decide +kernel
theorem dX9_unit_201 : decode cX9_unit 201 = .ok (.getfield 302, 3) := by decide +kernel
theorem dX9_unit_204 : decode cX9_unit 204 = .ok (.iconst 1, 1) := by decide +kernel
theorem dX9_unit_205 : decode cX9_unit 205 = .ok (.iadd, 1) := by decide +kernel
theorem dX9_unit_206 : decode cX9_unit 206 = .ok (.putfield 302, 3) := by decide +kernel
theorem dX9_unit_209 : decode cX9_unit 209 = .ok (.iconst 1, 1) := by decide +kernel
theorem dX9_unit_210 : decode cX9_unit 210 = .ok (.ireturn, 1) := by decide +kernel
