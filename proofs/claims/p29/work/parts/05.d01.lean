theorem dX9_unit_211 : decode cX9_unit 211 = .ok (.aload_n 0, 1) := by decide +kernel
theorem dX9_unit_212 : decode cX9_unit 212 = .ok (.iload 4, 2) := by decide +kernel
theorem dX9_unit_214 : decode cX9_unit 214 = .ok (.ifCond .ne 8, 3) := by decide +kernel
theorem dX9_unit_217 : decode cX9_unit 217 = .ok (.bipush 110, 2) := by decide +kernel
theorem dX9_unit_219 : decode cX9_unit 219 = .ok (.goto 5, 3) := by decide +kernel
theorem dX9_unit_222 : decode cX9_unit 222 = .ok (.iload 4, 2) := by decide +kernel
theorem dX9_unit_224 : decode cX9_unit 224 = .ok (.iload 5, 2) := by decide +kernel
theorem dX9_unit_226 : decode cX9_unit 226 = .ok (.invokevirtual 317, 3) := by decide +kernel
theorem dX9_unit_229 : decode cX9_unit 229 = .ok (.iconst 0, 1) := by decide +kernel
theorem dX9_unit_230 : decode cX9_unit 230 = .ok (.ireturn, 1) := by decide +kernel
theorem dX9_untell_0 : decode cX9_untell 0 = .ok (.iload_n 1, 1) := by decide +kernel
theorem dX9_untell_1 : decode cX9_untell 1 = .ok (.iconst 0, 1) := by decide +kernel
theorem dX9_untell_2 : decode cX9_untell 2 = .ok (.aload_n 0, 1) := by decide +kernel
theorem dX9_untell_3 : decode cX9_untell 3 = .ok (.getfield 254, 3) := by decide +kernel
theorem dX9_untell_6 : decode cX9_untell 6 = .ok (.iconst 1, 1) := by decide +kernel
theorem dX9_untell_7 : decode cX9_untell 7 = .ok (.isub, 1) := by decide +kernel
theorem dX9_untell_8 : decode cX9_untell 8 = .ok (.invokestatic 361, 3) := by decide +kernel
theorem dX9_untell_11 : decode cX9_untell 11 = .ok (.ifCond .eq 12, 3) := by decide +kernel
theorem dX9_untell_14 : decode cX9_untell 14 = .ok (.aload_n 0, 1) := by decide +kernel
theorem dX9_untell_15 : decode cX9_untell 15 = .ok (.getfield 119, 3) := by decide +kernel
theorem dX9_untell_18 : decode cX9_untell 18 = .ok (.iload_n 1, 1) := by decide +kernel
theorem dX9_untell_19 : decode cX9_untell 19 = .ok (.iaload, 1) := by decide +kernel
theorem dX9_untell_20 : decode cX9_untell 20 = .ok (.ifCond .lt 5, 3) := by decide +kernel
theorem dX9_untell_23 : decode cX9_untell 23 = .ok (.iconst 0, 1) := by decide +kernel
theorem dX9_untell_24 : decode cX9_untell 24 = .ok (.ireturn, 1) := by decide +kernel
theorem dX9_untell_25 : decode cX9_untell 25 = .ok (.aload_n 0, 1) := by decide +kernel
theorem dX9_untell_26 : decode cX9_untell 26 = .ok (.getfield 119, 3) := by decide +kernel
theorem dX9_untell_29 : decode cX9_untell 29 = .ok (.iload_n 1, 1) := by decide +kernel
theorem dX9_untell_30 : decode cX9_untell 30 = .ok (.aload_n 0, 1) := by decide +kernel
theorem dX9_untell_31 : decode cX9_untell 31 = .ok (.getfield 477, 3) := by decide +kernel
theorem dX9_untell_34 : decode cX9_untell 34 = .ok (.iastore, 1) := by decide +kernel
theorem dX9_untell_35 : decode cX9_untell 35 = .ok (.iconst 1, 1) := by decide +kernel
theorem dX9_untell_36 : decode cX9_untell 36 = .ok (.ireturn, 1) := by decide +kernel
theorem dX9_up_0 : decode cX9_up 0 = .ok (.aload_n 0, 1) := by decide +kernel
theorem dX9_up_1 : decode cX9_up 1 = .ok (.invokevirtual 381, 3) := by decide +kernel
theorem dX9_up_4 : decode cX9_up 4 = .ok (.istore_n 1, 1) := by decide +kernel
theorem dX9_up_5 : decode cX9_up 5 = .ok (.aload_n 0, 1) := by decide +kernel
theorem dX9_up_6 : decode cX9_up 6 = .ok (.getfield 355, 3) := by decide +kernel
theorem dX9_up_9 : decode cX9_up 9 = .ok (.iload_n 1, 1) := by decide +kernel
theorem dX9_up_10 : decode cX9_up 10 = .ok (.if_icmp .ne 13, 3) := by decide +kernel
theorem dX9_up_13 : decode cX9_up 13 = .ok (.aload_n 0, 1) := by decide +kernel
theorem dX9_up_14 : decode cX9_up 14 = .ok (.getfield 335, 3) := by decide +kernel
theorem dX9_up_17 : decode cX9_up 17 = .ok (.sipush 200, 3) := by decide +kernel
theorem dX9_up_20 : decode cX9_up 20 = .ok (.if_icmp .ne 5, 3) := by decide +kernel
theorem dX9_up_23 : decode cX9_up 23 = .ok (.iconst (-1), 1) := by decide +kernel
theorem dX9_up_24 : decode cX9_up 24 = .ok (.ireturn, 1) := by decide +kernel
theorem dX9_up_25 : decode cX9_up 25 = .ok (.iconst 0, 1) := by decide +kernel
theorem dX9_up_26 : decode cX9_up 26 = .ok (.istore_n 2, 1) := by decide +kernel
theorem dX9_up_27 : decode cX9_up 27 = .ok (.iload_n 2, 1) := by decide +kernel
theorem dX9_up_28 : decode cX9_up 28 = .ok (.iload_n 1, 1) := by decide +kernel
theorem dX9_up_29 : decode cX9_up 29 = .ok (.if_icmp .ge 21, 3) := by decide +kernel
theorem dX9_up_32 : decode cX9_up 32 = .ok (.aload_n 0, 1) := by decide +kernel
theorem dX9_up_33 : decode cX9_up 33 = .ok (.getfield 89, 3) := by decide +kernel
theorem dX9_up_36 : decode cX9_up 36 = .ok (.iload_n 2, 1) := by decide +kernel
theorem dX9_up_37 : decode cX9_up 37 = .ok (.aload_n 0, 1) := by decide +kernel
theorem dX9_up_38 : decode cX9_up 38 = .ok (.getfield 83, 3) := by decide +kernel
theorem dX9_up_41 : decode cX9_up 41 = .ok (.iload_n 2, 1) := by decide +kernel
theorem dX9_up_42 : decode cX9_up 42 = .ok (.iaload, 1) := by decide +kernel
theorem dX9_up_43 : decode cX9_up 43 = .ok (.iastore, 1) := by decide +kernel
theorem dX9_up_44 : decode cX9_up 44 = .ok (.iinc 2 1, 3) := by decide +kernel
theorem dX9_up_47 : decode cX9_up 47 = .ok (.goto (-20), 3) := by decide +kernel
theorem dX9_up_50 : decode cX9_up 50 = .ok (.aload_n 0, 1) := by decide +kernel
theorem dX9_up_51 : decode cX9_up 51 = .ok (.invokevirtual 393, 3) := by decide +kernel
theorem dX9_up_54 : decode cX9_up 54 = .ok (.aload_n 0, 1) := by decide +kernel
theorem dX9_up_55 : decode cX9_up 55 = .ok (.invokevirtual 396, 3) := by decide +kernel
theorem dX9_up_58 : decode cX9_up 58 = .ok (.ifCond .lt 5, 3) := by decide +kernel
theorem dX9_up_61 : decode cX9_up 61 = .ok (.iconst (-1), 1) := by decide +kernel
theorem dX9_up_62 : decode cX9_up 62 = .ok (.ireturn, 1) := by decide +kernel
theorem dX9_up_63 : decode cX9_up 63 = .ok (.aload_n 0, 1) := by decide +kernel
theorem dX9_up_64 : decode cX9_up 64 = .ok (.dup, 1) := by decide +kernel
theorem dX9_up_65 : decode cX9_up 65 = .ok (.getfield 335, 3) := by decide +kernel
theorem dX9_up_68 : decode cX9_up 68 = .ok (.iconst 1, 1) := by decide +kernel
theorem dX9_up_69 : decode cX9_up 69 = .ok (.iadd, 1) := by decide +kernel
theorem dX9_up_70 : decode cX9_up 70 = .ok (.putfield 335, 3) := by decide +kernel
theorem dX9_up_73 : decode cX9_up 73 = .ok (.iconst 0, 1) := by decide +kernel
theorem dX9_up_74 : decode cX9_up 74 = .ok (.istore_n 2, 1) := by decide +kernel
theorem dX9_up_75 : decode cX9_up 75 = .ok (.iload_n 2, 1) := by decide +kernel
theorem dX9_up_76 : decode cX9_up 76 = .ok (.iload_n 1, 1) := by decide +kernel
theorem dX9_up_77 : decode cX9_up 77 = .ok (.if_icmp .ge 72, 3) := by decide +kernel
theorem dX9_up_80 : decode cX9_up 80 = .ok (.aload_n 0, 1) := by decide +kernel
theorem dX9_up_81 : decode cX9_up 81 = .ok (.getfield 80, 3) := by decide +kernel
theorem dX9_up_84 : decode cX9_up 84 = .ok (.aload_n 0, 1) := by decide +kernel
theorem dX9_up_85 : decode cX9_up 85 = .ok (.getfield 89, 3) := by decide +kernel
theorem dX9_up_88 : decode cX9_up 88 = .ok (.iload_n 2, 1) := by decide +kernel
theorem dX9_up_89 : decode cX9_up 89 = .ok (.iaload, 1) := by decide +kernel
theorem dX9_up_90 : decode cX9_up 90 = .ok (.iload_n 2, 1) := by decide +kernel
theorem dX9_up_91 : decode cX9_up 91 = .ok (.iastore, 1) := by decide +kernel
theorem dX9_up_92 : decode cX9_up 92 = .ok (.iload_n 2, 1) := by decide +kernel
theorem dX9_up_93 : decode cX9_up 93 = .ok (.iconst 1, 1) := by decide +kernel
theorem dX9_up_94 : decode cX9_up 94 = .ok (.iadd, 1) := by decide +kernel
theorem dX9_up_95 : decode cX9_up 95 = .ok (.iload_n 1, 1) := by decide +kernel
theorem dX9_up_96 : decode cX9_up 96 = .ok (.if_icmp .ge 24, 3) := by decide +kernel
theorem dX9_up_99 : decode cX9_up 99 = .ok (.aload_n 0, 1) := by decide +kernel
theorem dX9_up_100 : decode cX9_up 100 = .ok (.aload_n 0, 1) := by decide +kernel
theorem dX9_up_101 : decode cX9_up 101 = .ok (.getfield 89, 3) := by decide +kernel
theorem dX9_up_104 : decode cX9_up 104 = .ok (.iload_n 2, 1) := by decide +kernel
theorem dX9_up_105 : decode cX9_up 105 = .ok (.iaload, 1) := by decide +kernel
theorem dX9_up_106 : decode cX9_up 106 = .ok (.aload_n 0, 1) := by decide +kernel
theorem dX9_up_107 : decode cX9_up 107 = .ok (.getfield 89, 3) := by decide +kernel
theorem dX9_up_110 : decode cX9_up 110 = .ok (.iload_n 2, 1) := by decide +kernel
theorem dX9_up_111 : decode cX9_up 111 = .ok (.iconst 1, 1) := by decide +kernel
theorem dX9_up_112 : decode cX9_up 112 = .ok (.iadd, 1) := by decide +kernel
theorem dX9_up_113 : decode cX9_up 113 = .ok (.iaload, 1) := by decide +kernel
theorem dX9_up_114 : decode cX9_up 114 = .ok (.invokevirtual 474, 3) := by decide +kernel
theorem dX9_up_117 : decode cX9_up 117 = .ok (.goto 26, 3) := by decide +kernel
theorem dX9_up_120 : decode cX9_up 120 = .ok (.aload_n 0, 1) := by decide +kernel
theorem dX9_up_121 : decode cX9_up 121 = .ok (.invokevirtual 384, 3) := by decide +kernel
theorem dX9_up_124 : decode cX9_up 124 = .ok (.ifCond .eq 19, 3) := by decide +kernel
theorem dX9_up_127 : decode cX9_up 127 = .ok (.aload_n 0, 1) := by decide +kernel
theorem dX9_up_128 : decode cX9_up 128 = .ok (.aload_n 0, 1) := by decide +kernel
theorem dX9_up_129 : decode cX9_up 129 = .ok (.getfield 89, 3) := by decide +kernel
theorem dX9_up_132 : decode cX9_up 132 = .ok (.iload_n 2, 1) := by decide +kernel
theorem dX9_up_133 : decode cX9_up 133 = .ok (.iaload, 1) := by decide +kernel
theorem dX9_up_134 : decode cX9_up 134 = .ok (.aload_n 0, 1) := by decide +kernel
theorem dX9_up_135 : decode cX9_up 135 = .ok (.getfield 89, 3) := by decide +kernel
theorem dX9_up_138 : decode cX9_up 138 = .ok (.iconst 0, 1) := by decide +kernel
theorem dX9_up_139 : decode cX9_up 139 = .ok (.iaload, 1) := by decide +kernel
theorem dX9_up_140 : decode cX9_up 140 = .ok (.invokevirtual 474, 3) := by decide +kernel
theorem dX9_up_143 : decode cX9_up 143 = .ok (.iinc 2 1, 3) := by decide +kernel
theorem dX9_up_146 : decode cX9_up 146 = .ok (.goto (-71), 3) := by decide +kernel
theorem dX9_up_149 : decode cX9_up 149 = .ok (.aload_n 0, 1) := by decide +kernel
theorem dX9_up_150 : decode cX9_up 150 = .ok (.iconst 1, 1) := by decide +kernel
theorem dX9_up_151 : decode cX9_up 151 = .ok (.putfield 348, 3) := by decide +kernel
theorem dX9_up_154 : decode cX9_up 154 = .ok (.aload_n 0, 1) := by decide +kernel
theorem dX9_up_155 : decode cX9_up 155 = .ok (.iconst 0, 1) := by decide +kernel
theorem dX9_up_156 : decode cX9_up 156 = .ok (.putfield 355, 3) := by decide +kernel
theorem dX9_up_159 : decode cX9_up 159 = .ok (.aload_n 0, 1) := by decide +kernel
theorem dX9_up_160 : decode cX9_up 160 = .ok (.getfield 335, 3) := by decide +kernel
theorem dX9_up_163 : decode cX9_up 163 = .ok (.ireturn, 1) := by decide +kernel
theorem dX9_valley_0 : decode cX9_valley 0 = .ok (.aload_n 0, 1) := by decide +kernel
theorem dX9_valley_1 : decode cX9_valley 1 = .ok (.iconst 0, 1) := by decide +kernel
theorem dX9_valley_2 : decode cX9_valley 2 = .ok (.putfield 158, 3) := by decide +kernel
theorem dX9_valley_5 : decode cX9_valley 5 = .ok (.aload_n 0, 1) := by decide +kernel
theorem dX9_valley_6 : decode cX9_valley 6 = .ok (.iconst (-1), 1) := by decide +kernel
theorem dX9_valley_7 : decode cX9_valley 7 = .ok (.putfield 16, 3) := by decide +kernel
theorem dX9_valley_10 : decode cX9_valley 10 = .ok (.aload_n 0, 1) := by decide +kernel
theorem dX9_valley_11 : decode cX9_valley 11 = .ok (.aload_n 0, 1) := by decide +kernel
theorem dX9_valley_12 : decode cX9_valley 12 = .ok (.getfield 245, 3) := by decide +kernel
theorem dX9_valley_15 : decode cX9_valley 15 = .ok (.putfield 155, 3) := by decide +kernel
theorem dX9_valley_18 : decode cX9_valley 18 = .ok (.iconst 0, 1) := by decide +kernel
theorem dX9_valley_19 : decode cX9_valley 19 = .ok (.istore_n 1, 1) := by decide +kernel
theorem dX9_valley_20 : decode cX9_valley 20 = .ok (.iload_n 1, 1) := by decide +kernel
theorem dX9_valley_21 : decode cX9_valley 21 = .ok (.aload_n 0, 1) := by decide +kernel
theorem dX9_valley_22 : decode cX9_valley 22 = .ok (.getfield 155, 3) := by decide +kernel
theorem dX9_valley_25 : decode cX9_valley 25 = .ok (.if_icmp .ge 21, 3) := by decide +kernel
theorem dX9_valley_28 : decode cX9_valley 28 = .ok (.aload_n 0, 1) := by decide +kernel
theorem dX9_valley_29 : decode cX9_valley 29 = .ok (.getfield 13, 3) := by decide +kernel
theorem dX9_valley_32 : decode cX9_valley 32 = .ok (.iload_n 1, 1) := by decide +kernel
theorem dX9_valley_33 : decode cX9_valley 33 = .ok (.aload_n 0, 1) := by decide +kernel
theorem dX9_valley_34 : decode cX9_valley 34 = .ok (.getfield 7, 3) := by decide +kernel
theorem dX9_valley_37 : decode cX9_valley 37 = .ok (.iload_n 1, 1) := by decide +kernel
theorem dX9_valley_38 : decode cX9_valley 38 = .ok (.baload, 1) := by decide +kernel
theorem dX9_valley_39 : decode cX9_valley 39 = .ok (.bastore, 1) := by decide +kernel
theorem dX9_valley_40 : decode cX9_valley 40 = .ok (.iinc 1 1, 3) := by decide +kernel
theorem dX9_valley_43 : decode cX9_valley 43 = .ok (.goto (-23), 3) := by decide +kernel
theorem dX9_valley_46 : decode cX9_valley 46 = .ok (.aload_n 0, 1) := by decide +kernel
theorem dX9_valley_47 : decode cX9_valley 47 = .ok (.iconst 0, 1) := by decide +kernel
theorem dX9_valley_48 : decode cX9_valley 48 = .ok (.putfield 245, 3) := by decide +kernel
theorem dX9_valley_51 : decode cX9_valley 51 = .ok (.aload_n 0, 1) := by decide +kernel
theorem dX9_valley_52 : decode cX9_valley 52 = .ok (.iconst 0, 1) := by decide +kernel
theorem dX9_valley_53 : decode cX9_valley 53 = .ok (.putfield 191, 3) := by decide +kernel
theorem dX9_valley_56 : decode cX9_valley 56 = .ok (.aload_n 0, 1) := by decide +kernel
theorem dX9_valley_57 : decode cX9_valley 57 = .ok (.iconst 1, 1) := by decide +kernel
theorem dX9_valley_58 : decode cX9_valley 58 = .ok (.aload_n 0, 1) := by decide +kernel
theorem dX9_valley_59 : decode cX9_valley 59 = .ok (.getfield 248, 3) := by decide +kernel
theorem dX9_valley_62 : decode cX9_valley 62 = .ok (.isub, 1) := by decide +kernel
theorem dX9_valley_63 : decode cX9_valley 63 = .ok (.putfield 239, 3) := by decide +kernel
theorem dX9_valley_66 : decode cX9_valley 66 = .ok (.aload_n 0, 1) := by decide +kernel
theorem dX9_valley_67 : decode cX9_valley 67 = .ok (.invokevirtual 149, 3) := by decide +kernel
theorem dX9_valley_70 : decode cX9_valley 70 = .ok (.aload_n 0, 1) := by decide +kernel
theorem dX9_valley_71 : decode cX9_valley 71 = .ok (.invokevirtual 233, 3) := by decide +kernel
theorem dX9_valley_74 : decode cX9_valley 74 = .ok (.aload_n 0, 1) := by decide +kernel
theorem dX9_valley_75 : decode cX9_valley 75 = .ok (.invokevirtual 229, 3) := by decide +kernel
theorem dX9_valley_78 : decode cX9_valley 78 = .ok (.ifCond .eq 17, 3) := by decide +kernel
theorem dX9_valley_81 : decode cX9_valley 81 = .ok (.aload_n 0, 1) := by decide +kernel
theorem dX9_valley_82 : decode cX9_valley 82 = .ok (.getfield 201, 3) := by decide +kernel
theorem dX9_valley_85 : decode cX9_valley 85 = .ok (.ifCond .eq 10, 3) := by decide +kernel
theorem dX9_valley_88 : decode cX9_valley 88 = .ok (.aload_n 0, 1) := by decide +kernel
theorem dX9_valley_89 : decode cX9_valley 89 = .ok (.invokevirtual 251, 3) := by decide +kernel
theorem dX9_valley_92 : decode cX9_valley 92 = .ok (.goto (-18), 3) := by decide +kernel
theorem dX9_valley_95 : decode cX9_valley 95 = .ok (.aload_n 0, 1) := by decide +kernel
theorem dX9_valley_96 : decode cX9_valley 96 = .ok (.invokevirtual 229, 3) := by decide +kernel
theorem dX9_valley_99 : decode cX9_valley 99 = .ok (.ifCond .ne 5, 3) := by decide +kernel
theorem dX9_valley_102 : decode cX9_valley 102 = .ok (.iconst (-1), 1) := by decide +kernel
theorem dX9_valley_103 : decode cX9_valley 103 = .ok (.ireturn, 1) := by decide +kernel
theorem dX9_valley_104 : decode cX9_valley 104 = .ok (.aload_n 0, 1) := by decide +kernel
theorem dX9_valley_105 : decode cX9_valley 105 = .ok (.aload_n 0, 1) := by decide +kernel
theorem dX9_valley_106 : decode cX9_valley 106 = .ok (.getfield 239, 3) := by decide +kernel
theorem dX9_valley_109 : decode cX9_valley 109 = .ok (.putfield 248, 3) := by decide +kernel
theorem dX9_valley_112 : decode cX9_valley 112 = .ok (.aload_n 0, 1) := by decide +kernel
theorem dX9_valley_113 : decode cX9_valley 113 = .ok (.iconst 0, 1) := by decide +kernel
theorem dX9_valley_114 : decode cX9_valley 114 = .ok (.putfield 254, 3) := by decide +kernel
theorem dX9_valley_117 : decode cX9_valley 117 = .ok (.aload_n 0, 1) := by decide +kernel
theorem dX9_valley_118 : decode cX9_valley 118 = .ok (.invokevirtual 152, 3) := by decide +kernel
theorem dX9_valley_121 : decode cX9_valley 121 = .ok (.iconst 0, 1) := by decide +kernel
theorem dX9_valley_122 : decode cX9_valley 122 = .ok (.istore_n 1, 1) := by decide +kernel
theorem dX9_valley_123 : decode cX9_valley 123 = .ok (.iload_n 1, 1) := by decide +kernel
theorem dX9_valley_124 : decode cX9_valley 124 = .ok (.iconst 3, 1) := by decide +kernel
theorem dX9_valley_125 : decode cX9_valley 125 = .ok (.if_icmp .ge 16, 3) := by decide +kernel
theorem dX9_valley_128 : decode cX9_valley 128 = .ok (.aload_n 0, 1) := by decide +kernel
theorem dX9_valley_129 : decode cX9_valley 129 = .ok (.getfield 131, 3) := by decide +kernel
theorem dX9_valley_132 : decode cX9_valley 132 = .ok (.iload_n 1, 1) := by decide +kernel
theorem dX9_valley_133 : decode cX9_valley 133 = .ok (.iconst (-1), 1) := by decide +kernel
theorem dX9_valley_134 : decode cX9_valley 134 = .ok (.iastore, 1) := by decide +kernel
theorem dX9_valley_135 : decode cX9_valley 135 = .ok (.iinc 1 1, 3) := by decide +kernel
theorem dX9_valley_138 : decode cX9_valley 138 = .ok (.goto (-15), 3) := by decide +kernel
theorem dX9_valley_141 : decode cX9_valley 141 = .ok (.aload_n 0, 1) := by decide +kernel
theorem dX9_valley_142 : decode cX9_valley 142 = .ok (.getfield 20, 3) := by decide +kernel
theorem dX9_valley_145 : decode cX9_valley 145 = .ok (.aload_n 0, 1) := by decide +kernel
theorem dX9_valley_146 : decode cX9_valley 146 = .ok (.getfield 248, 3) := by decide +kernel
theorem dX9_valley_149 : decode cX9_valley 149 = .ok (.iaload, 1) := by decide +kernel
theorem dX9_valley_150 : decode cX9_valley 150 = .ok (.ireturn, 1) := by decide +kernel
theorem dX9_weightOf_0 : decode cX9_weightOf 0 = .ok (.aload_n 0, 1) := by decide +kernel
theorem dX9_weightOf_1 : decode cX9_weightOf 1 = .ok (.getfield 36, 3) := by decide +kernel
theorem dX9_weightOf_4 : decode cX9_weightOf 4 = .ok (.bipush 9, 2) := by decide +kernel
theorem dX9_weightOf_6 : decode cX9_weightOf 6 = .ok (.aload_n 0, 1) := by decide +kernel
theorem dX9_weightOf_7 : decode cX9_weightOf 7 = .ok (.getfield 248, 3) := by decide +kernel
theorem dX9_weightOf_10 : decode cX9_weightOf 10 = .ok (.imul, 1) := by decide +kernel
theorem dX9_weightOf_11 : decode cX9_weightOf 11 = .ok (.iload_n 1, 1) := by decide +kernel
theorem dX9_weightOf_12 : decode cX9_weightOf 12 = .ok (.iadd, 1) := by decide +kernel
theorem dX9_weightOf_13 : decode cX9_weightOf 13 = .ok (.iaload, 1) := by decide +kernel
theorem dX9_weightOf_14 : decode cX9_weightOf 14 = .ok (.ireturn, 1) := by decide +kernel
theorem dX9_wordHere_0 : decode cX9_wordHere 0 = .ok (.aload_n 0, 1) := by decide +kernel
theorem dX9_wordHere_1 : decode cX9_wordHere 1 = .ok (.ldc2_w 177, 3) := by decide +kernel
theorem dX9_wordHere_4 : decode cX9_wordHere 4 = .ok (.invokevirtual 257, 3) := by decide +kernel
theorem dX9_wordHere_7 : decode cX9_wordHere 7 = .ok (.ifCond .eq 6, 3) := by decide +kernel
theorem dX9_wordHere_10 : decode cX9_wordHere 10 = .ok (.bipush 108, 2) := by decide +kernel
theorem dX9_wordHere_12 : decode cX9_wordHere 12 = .ok (.ireturn, 1) := by decide +kernel
theorem dX9_wordHere_13 : decode cX9_wordHere 13 = .ok (.aload_n 0, 1) := by decide +kernel
theorem dX9_wordHere_14 : decode cX9_wordHere 14 = .ok (.ldc2_w 179, 3) := by decide +kernel
theorem dX9_wordHere_17 : decode cX9_wordHere 17 = .ok (.invokevirtual 257, 3) := by decide +kernel
theorem dX9_wordHere_20 : decode cX9_wordHere 20 = .ok (.ifCond .eq 6, 3) := by decide +kernel
theorem dX9_wordHere_23 : decode cX9_wordHere 23 = .ok (.bipush 104, 2) := by decide +kernel
theorem dX9_wordHere_25 : decode cX9_wordHere 25 = .ok (.ireturn, 1) := by decide +kernel
theorem dX9_wordHere_26 : decode cX9_wordHere 26 = .ok (.aload_n 0, 1) := by decide +kernel
theorem dX9_wordHere_27 : decode cX9_wordHere 27 = .ok (.ldc2_w 181, 3) := by decide +kernel
theorem dX9_wordHere_30 : decode cX9_wordHere 30 = .ok (.invokevirtual 257, 3) := by decide +kernel
theorem dX9_wordHere_33 : decode cX9_wordHere 33 = .ok (.ifCond .eq 6, 3) := by decide +kernel
theorem dX9_wordHere_36 : decode cX9_wordHere 36 = .ok (.bipush 115, 2) := by decide +kernel
theorem dX9_wordHere_38 : decode cX9_wordHere 38 = .ok (.ireturn, 1) := by decide +kernel
theorem dX9_wordHere_39 : decode cX9_wordHere 39 = .ok (.aload_n 0, 1) := by decide +kernel
theorem dX9_wordHere_40 : decode cX9_wordHere 40 = .ok (.ldc2_w 171, 3) := by decide +kernel
theorem dX9_wordHere_43 : decode cX9_wordHere 43 = .ok (.invokevirtual 257, 3) := by decide +kernel
theorem dX9_wordHere_46 : decode cX9_wordHere 46 = .ok (.ifCond .eq 6, 3) := by decide +kernel
theorem dX9_wordHere_49 : decode cX9_wordHere 49 = .ok (.bipush 119, 2) := by decide +kernel
theorem dX9_wordHere_51 : decode cX9_wordHere 51 = .ok (.ireturn, 1) := by decide +kernel
theorem dX9_wordHere_52 : decode cX9_wordHere 52 = .ok (.aload_n 0, 1) := by decide +kernel
theorem dX9_wordHere_53 : decode cX9_wordHere 53 = .ok (.ldc2_w 183, 3) := by decide +kernel
theorem dX9_wordHere_56 : decode cX9_wordHere 56 = .ok (.invokevirtual 257, 3) := by decide +kernel
theorem dX9_wordHere_59 : decode cX9_wordHere 59 = .ok (.ifCond .eq 8, 3) := by decide +kernel
theorem dX9_wordHere_62 : decode cX9_wordHere 62 = .ok (.bipush 121, 2) := by decide +kernel
theorem dX9_wordHere_64 : decode cX9_wordHere 64 = .ok (.goto 4, 3) := by decide +kernel
theorem dX9_wordHere_67 : decode cX9_wordHere 67 = .ok (.iconst 0, 1) := by decide +kernel
theorem dX9_wordHere_68 : decode cX9_wordHere 68 = .ok (.ireturn, 1) := by decide +kernel
theorem dX9_worthOf_0 : decode cX9_worthOf 0 = .ok (.aload_n 0, 1) := by decide +kernel
theorem dX9_worthOf_1 : decode cX9_worthOf 1 = .ok (.getfield 45, 3) := by decide +kernel
theorem dX9_worthOf_4 : decode cX9_worthOf 4 = .ok (.bipush 9, 2) := by decide +kernel
theorem dX9_worthOf_6 : decode cX9_worthOf 6 = .ok (.bipush 9, 2) := by decide +kernel
theorem dX9_worthOf_8 : decode cX9_worthOf 8 = .ok (.aload_n 0, 1) := by decide +kernel
theorem dX9_worthOf_9 : decode cX9_worthOf 9 = .ok (.getfield 248, 3) := by decide +kernel
theorem dX9_worthOf_12 : decode cX9_worthOf 12 = .ok (.imul, 1) := by decide +kernel
theorem dX9_worthOf_13 : decode cX9_worthOf 13 = .ok (.iload_n 1, 1) := by decide +kernel
theorem dX9_worthOf_14 : decode cX9_worthOf 14 = .ok (.iadd, 1) := by decide +kernel
theorem dX9_worthOf_15 : decode cX9_worthOf 15 = .ok (.imul, 1) := by decide +kernel
theorem dX9_worthOf_16 : decode cX9_worthOf 16 = .ok (.iload_n 2, 1) := by decide +kernel
theorem dX9_worthOf_17 : decode cX9_worthOf 17 = .ok (.iadd, 1) := by decide +kernel
theorem dX9_worthOf_18 : decode cX9_worthOf 18 = .ok (.iaload, 1) := by decide +kernel
theorem dX9_worthOf_19 : decode cX9_worthOf 19 = .ok (.ireturn, 1) := by decide +kernel
theorem dX9_worthOfRow_0 : decode cX9_worthOfRow 0 = .ok (.aload_n 0, 1) := by decide +kernel
theorem dX9_worthOfRow_1 : decode cX9_worthOfRow 1 = .ok (.invokevirtual 381, 3) := by decide +kernel
theorem dX9_worthOfRow_4 : decode cX9_worthOfRow 4 = .ok (.istore_n 1, 1) := by decide +kernel
theorem dX9_worthOfRow_5 : decode cX9_worthOfRow 5 = .ok (.iconst 0, 1) := by decide +kernel
theorem dX9_worthOfRow_6 : decode cX9_worthOfRow 6 = .ok (.istore_n 2, 1) := by decide +kernel
theorem dX9_worthOfRow_7 : decode cX9_worthOfRow 7 = .ok (.iconst 0, 1) := by decide +kernel
theorem dX9_worthOfRow_8 : decode cX9_worthOfRow 8 = .ok (.istore_n 3, 1) := by decide +kernel
theorem dX9_worthOfRow_9 : decode cX9_worthOfRow 9 = .ok (.iload_n 3, 1) := by decide +kernel
theorem dX9_worthOfRow_10 : decode cX9_worthOfRow 10 = .ok (.iconst 1, 1) := by decide +kernel
theorem dX9_worthOfRow_11 : decode cX9_worthOfRow 11 = .ok (.iadd, 1) := by decide +kernel
theorem dX9_worthOfRow_12 : decode cX9_worthOfRow 12 = .ok (.iload_n 1, 1) := by decide +kernel
theorem dX9_worthOfRow_13 : decode cX9_worthOfRow 13 = .ok (.if_icmp .ge 30, 3) := by decide +kernel
theorem dX9_worthOfRow_16 : decode cX9_worthOfRow 16 = .ok (.iload_n 2, 1) := by decide +kernel
theorem dX9_worthOfRow_17 : decode cX9_worthOfRow 17 = .ok (.aload_n 0, 1) := by decide +kernel
theorem dX9_worthOfRow_18 : decode cX9_worthOfRow 18 = .ok (.aload_n 0, 1) := by decide +kernel
theorem dX9_worthOfRow_19 : decode cX9_worthOfRow 19 = .ok (.getfield 89, 3) := by decide +kernel
theorem dX9_worthOfRow_22 : decode cX9_worthOfRow 22 = .ok (.iload_n 3, 1) := by decide +kernel
theorem dX9_worthOfRow_23 : decode cX9_worthOfRow 23 = .ok (.iaload, 1) := by decide +kernel
theorem dX9_worthOfRow_24 : decode cX9_worthOfRow 24 = .ok (.aload_n 0, 1) := by decide +kernel
theorem dX9_worthOfRow_25 : decode cX9_worthOfRow 25 = .ok (.getfield 89, 3) := by decide +kernel
theorem dX9_worthOfRow_28 : decode cX9_worthOfRow 28 = .ok (.iload_n 3, 1) := by decide +kernel
theorem dX9_worthOfRow_29 : decode cX9_worthOfRow 29 = .ok (.iconst 1, 1) := by decide +kernel
theorem dX9_worthOfRow_30 : decode cX9_worthOfRow 30 = .ok (.iadd, 1) := by decide +kernel
theorem dX9_worthOfRow_31 : decode cX9_worthOfRow 31 = .ok (.iaload, 1) := by decide +kernel
theorem dX9_worthOfRow_32 : decode cX9_worthOfRow 32 = .ok (.invokevirtual 332, 3) := by decide +kernel
theorem dX9_worthOfRow_35 : decode cX9_worthOfRow 35 = .ok (.iadd, 1) := by decide +kernel
theorem dX9_worthOfRow_36 : decode cX9_worthOfRow 36 = .ok (.istore_n 2, 1) := by decide +kernel
theorem dX9_worthOfRow_37 : decode cX9_worthOfRow 37 = .ok (.iinc 3 1, 3) := by decide +kernel
theorem dX9_worthOfRow_40 : decode cX9_worthOfRow 40 = .ok (.goto (-31), 3) := by decide +kernel
theorem dX9_worthOfRow_43 : decode cX9_worthOfRow 43 = .ok (.aload_n 0, 1) := by decide +kernel
theorem dX9_worthOfRow_44 : decode cX9_worthOfRow 44 = .ok (.invokevirtual 384, 3) := by decide +kernel
theorem dX9_worthOfRow_47 : decode cX9_worthOfRow 47 = .ok (.ifCond .eq 26, 3) := by decide +kernel
theorem dX9_worthOfRow_50 : decode cX9_worthOfRow 50 = .ok (.iload_n 2, 1) := by decide +kernel
theorem dX9_worthOfRow_51 : decode cX9_worthOfRow 51 = .ok (.aload_n 0, 1) := by decide +kernel
theorem dX9_worthOfRow_52 : decode cX9_worthOfRow 52 = .ok (.aload_n 0, 1) := by decide +kernel
theorem dX9_worthOfRow_53 : decode cX9_worthOfRow 53 = .ok (.getfield 89, 3) := by decide +kernel
theorem dX9_worthOfRow_56 : decode cX9_worthOfRow 56 = .ok (.iload_n 1, 1) := by decide +kernel
theorem dX9_worthOfRow_57 : decode cX9_worthOfRow 57 = .ok (.iconst 1, 1) := by decide +kernel
theorem dX9_worthOfRow_58 : decode cX9_worthOfRow 58 = .ok (.isub, 1) := by decide +kernel
theorem dX9_worthOfRow_59 : decode cX9_worthOfRow 59 = .ok (.iaload, 1) := by decide +kernel
theorem dX9_worthOfRow_60 : decode cX9_worthOfRow 60 = .ok (.aload_n 0, 1) := by decide +kernel
theorem dX9_worthOfRow_61 : decode cX9_worthOfRow 61 = .ok (.getfield 89, 3) := by decide +kernel
theorem dX9_worthOfRow_64 : decode cX9_worthOfRow 64 = .ok (.iconst 0, 1) := by decide +kernel
theorem dX9_worthOfRow_65 : decode cX9_worthOfRow 65 = .ok (.iaload, 1) := by decide +kernel
theorem dX9_worthOfRow_66 : decode cX9_worthOfRow 66 = .ok (.invokevirtual 332, 3) := by decide +kernel
theorem dX9_worthOfRow_69 : decode cX9_worthOfRow 69 = .ok (.iadd, 1) := by decide +kernel
theorem dX9_worthOfRow_70 : decode cX9_worthOfRow 70 = .ok (.goto 4, 3) := by decide +kernel
theorem dX9_worthOfRow_73 : decode cX9_worthOfRow 73 = .ok (.iload_n 2, 1) := by decide +kernel
theorem dX9_worthOfRow_74 : decode cX9_worthOfRow 74 = .ok (.ireturn, 1) := by decide +kernel
theorem dX9_wrongAt_0 : decode cX9_wrongAt 0 = .ok (.iload_n 1, 1) := by decide +kernel
theorem dX9_wrongAt_1 : decode cX9_wrongAt 1 = .ok (.ifCond .ne 7, 3) := by decide +kernel
theorem dX9_wrongAt_4 : decode cX9_wrongAt 4 = .ok (.iconst 0, 1) := by decide +kernel
theorem dX9_wrongAt_5 : decode cX9_wrongAt 5 = .ok (.goto 33, 3) := by decide +kernel
theorem dX9_wrongAt_8 : decode cX9_wrongAt 8 = .ok (.aload_n 0, 1) := by decide +kernel
theorem dX9_wrongAt_9 : decode cX9_wrongAt 9 = .ok (.getfield 101, 3) := by decide +kernel
theorem dX9_wrongAt_12 : decode cX9_wrongAt 12 = .ok (.iload_n 1, 1) := by decide +kernel
theorem dX9_wrongAt_13 : decode cX9_wrongAt 13 = .ok (.iconst 1, 1) := by decide +kernel
theorem dX9_wrongAt_14 : decode cX9_wrongAt 14 = .ok (.isub, 1) := by decide +kernel
theorem dX9_wrongAt_15 : decode cX9_wrongAt 15 = .ok (.iaload, 1) := by decide +kernel
theorem dX9_wrongAt_16 : decode cX9_wrongAt 16 = .ok (.aload_n 0, 1) := by decide +kernel
theorem dX9_wrongAt_17 : decode cX9_wrongAt 17 = .ok (.aload_n 0, 1) := by decide +kernel
theorem dX9_wrongAt_18 : decode cX9_wrongAt 18 = .ok (.getfield 89, 3) := by decide +kernel
theorem dX9_wrongAt_21 : decode cX9_wrongAt 21 = .ok (.iload_n 1, 1) := by decide +kernel
theorem dX9_wrongAt_22 : decode cX9_wrongAt 22 = .ok (.iconst 1, 1) := by decide +kernel
theorem dX9_wrongAt_23 : decode cX9_wrongAt 23 = .ok (.isub, 1) := by decide +kernel
theorem dX9_wrongAt_24 : decode cX9_wrongAt 24 = .ok (.iaload, 1) := by decide +kernel
theorem dX9_wrongAt_25 : decode cX9_wrongAt 25 = .ok (.iload_n 2, 1) := by decide +kernel
theorem dX9_wrongAt_26 : decode cX9_wrongAt 26 = .ok (.invokevirtual 402, 3) := by decide +kernel
theorem dX9_wrongAt_29 : decode cX9_wrongAt 29 = .ok (.ifCond .eq 7, 3) := by decide +kernel
theorem dX9_wrongAt_32 : decode cX9_wrongAt 32 = .ok (.iconst 0, 1) := by decide +kernel
theorem dX9_wrongAt_33 : decode cX9_wrongAt 33 = .ok (.goto 4, 3) := by decide +kernel
theorem dX9_wrongAt_36 : decode cX9_wrongAt 36 = .ok (.iconst 1, 1) := by decide +kernel
theorem dX9_wrongAt_37 : decode cX9_wrongAt 37 = .ok (.iadd, 1) := by decide +kernel
theorem dX9_wrongAt_38 : decode cX9_wrongAt 38 = .ok (.istore 4, 2) := by decide +kernel
theorem dX9_wrongAt_40 : decode cX9_wrongAt 40 = .ok (.iload_n 1, 1) := by decide +kernel
theorem dX9_wrongAt_41 : decode cX9_wrongAt 41 = .ok (.iconst 1, 1) := by decide +kernel
theorem dX9_wrongAt_42 : decode cX9_wrongAt 42 = .ok (.iadd, 1) := by decide +kernel
theorem dX9_wrongAt_43 : decode cX9_wrongAt 43 = .ok (.iload_n 3, 1) := by decide +kernel
theorem dX9_wrongAt_44 : decode cX9_wrongAt 44 = .ok (.if_icmp .ne 31, 3) := by decide +kernel
theorem dX9_wrongAt_47 : decode cX9_wrongAt 47 = .ok (.aload_n 0, 1) := by decide +kernel
theorem dX9_wrongAt_48 : decode cX9_wrongAt 48 = .ok (.invokevirtual 384, 3) := by decide +kernel
theorem dX9_wrongAt_51 : decode cX9_wrongAt 51 = .ok (.ifCond .eq 24, 3) := by decide +kernel
theorem dX9_wrongAt_54 : decode cX9_wrongAt 54 = .ok (.aload_n 0, 1) := by decide +kernel
theorem dX9_wrongAt_55 : decode cX9_wrongAt 55 = .ok (.iload_n 2, 1) := by decide +kernel
theorem dX9_wrongAt_56 : decode cX9_wrongAt 56 = .ok (.aload_n 0, 1) := by decide +kernel
theorem dX9_wrongAt_57 : decode cX9_wrongAt 57 = .ok (.getfield 89, 3) := by decide +kernel
theorem dX9_wrongAt_60 : decode cX9_wrongAt 60 = .ok (.iconst 0, 1) := by decide +kernel
theorem dX9_wrongAt_61 : decode cX9_wrongAt 61 = .ok (.iaload, 1) := by decide +kernel
theorem dX9_wrongAt_62 : decode cX9_wrongAt 62 = .ok (.invokevirtual 402, 3) := by decide +kernel
theorem dX9_wrongAt_65 : decode cX9_wrongAt 65 = .ok (.ifCond .ne 10, 3) := by decide +kernel
theorem dX9_wrongAt_68 : decode cX9_wrongAt 68 = .ok (.iload 4, 2) := by decide +kernel
theorem dX9_wrongAt_70 : decode cX9_wrongAt 70 = .ok (.iconst 1, 1) := by decide +kernel
theorem dX9_wrongAt_71 : decode cX9_wrongAt 71 = .ok (.iadd, 1) := by decide +kernel
theorem dX9_wrongAt_72 : decode cX9_wrongAt 72 = .ok (.goto 5, 3) := by decide +kernel
theorem dX9_wrongAt_75 : decode cX9_wrongAt 75 = .ok (.iload 4, 2) := by decide +kernel
theorem dX9_wrongAt_77 : decode cX9_wrongAt 77 = .ok (.ireturn, 1) := by decide +kernel
