theorem dJ6_bitCount_0f7a4_0 : decode cJ6_bitCount_0f7a4 0 = .ok (.iload_n 0, 1) := by decide +kernel
theorem dJ6_bitCount_0f7a4_1 : decode cJ6_bitCount_0f7a4 1 = .ok (.iload_n 0, 1) := by decide +kernel
theorem dJ6_bitCount_0f7a4_2 : decode cJ6_bitCount_0f7a4 2 = .ok (.iconst 1, 1) := by decide +kernel
theorem dJ6_bitCount_0f7a4_3 : decode cJ6_bitCount_0f7a4 3 = .ok (.iushr, 1) := by decide +kernel
theorem dJ6_bitCount_0f7a4_4 : decode cJ6_bitCount_0f7a4 4 = .ok (.ldc_w 265, 3) := by decide +kernel
theorem dJ6_bitCount_0f7a4_7 : decode cJ6_bitCount_0f7a4 7 = .ok (.iand, 1) := by decide +kernel
theorem dJ6_bitCount_0f7a4_8 : decode cJ6_bitCount_0f7a4 8 = .ok (.isub, 1) := by decide +kernel
theorem dJ6_bitCount_0f7a4_9 : decode cJ6_bitCount_0f7a4 9 = .ok (.istore_n 0, 1) := by decide +kernel
theorem dJ6_bitCount_0f7a4_10 : decode cJ6_bitCount_0f7a4 10 = .ok (.iload_n 0, 1) := by decide +kernel
theorem dJ6_bitCount_0f7a4_11 : decode cJ6_bitCount_0f7a4 11 = .ok (.ldc_w 266, 3) := by decide +kernel
theorem dJ6_bitCount_0f7a4_14 : decode cJ6_bitCount_0f7a4 14 = .ok (.iand, 1) := by decide +kernel
theorem dJ6_bitCount_0f7a4_15 : decode cJ6_bitCount_0f7a4 15 = .ok (.iload_n 0, 1) := by decide +kernel
theorem dJ6_bitCount_0f7a4_16 : decode cJ6_bitCount_0f7a4 16 = .ok (.iconst 2, 1) := by decide +kernel
theorem dJ6_bitCount_0f7a4_17 : decode cJ6_bitCount_0f7a4 17 = .ok (.iushr, 1) := by decide +kernel
theorem dJ6_bitCount_0f7a4_18 : decode cJ6_bitCount_0f7a4 18 = .ok (.ldc_w 266, 3) := by decide +kernel
theorem dJ6_bitCount_0f7a4_21 : decode cJ6_bitCount_0f7a4 21 = .ok (.iand, 1) := by decide +kernel
theorem dJ6_bitCount_0f7a4_22 : decode cJ6_bitCount_0f7a4 22 = .ok (.iadd, 1) := by decide +kernel
theorem dJ6_bitCount_0f7a4_23 : decode cJ6_bitCount_0f7a4 23 = .ok (.istore_n 0, 1) := by decide +kernel
theorem dJ6_bitCount_0f7a4_24 : decode cJ6_bitCount_0f7a4 24 = .ok (.iload_n 0, 1) := by decide +kernel
theorem dJ6_bitCount_0f7a4_25 : decode cJ6_bitCount_0f7a4 25 = .ok (.iload_n 0, 1) := by decide +kernel
theorem dJ6_bitCount_0f7a4_26 : decode cJ6_bitCount_0f7a4 26 = .ok (.iconst 4, 1) := by decide +kernel
theorem dJ6_bitCount_0f7a4_27 : decode cJ6_bitCount_0f7a4 27 = .ok (.iushr, 1) := by decide +kernel
theorem dJ6_bitCount_0f7a4_28 : decode cJ6_bitCount_0f7a4 28 = .ok (.iadd, 1) := by decide +kernel
theorem dJ6_bitCount_0f7a4_29 : decode cJ6_bitCount_0f7a4 29 = .ok (.ldc_w 267, 3) := by decide +kernel
theorem dJ6_bitCount_0f7a4_32 : decode cJ6_bitCount_0f7a4 32 = .ok (.iand, 1) := by decide +kernel
theorem dJ6_bitCount_0f7a4_33 : decode cJ6_bitCount_0f7a4 33 = .ok (.istore_n 0, 1) := by decide +kernel
theorem dJ6_bitCount_0f7a4_34 : decode cJ6_bitCount_0f7a4 34 = .ok (.iload_n 0, 1) := by decide +kernel
theorem dJ6_bitCount_0f7a4_35 : decode cJ6_bitCount_0f7a4 35 = .ok (.iload_n 0, 1) := by decide +kernel
theorem dJ6_bitCount_0f7a4_36 : decode cJ6_bitCount_0f7a4 36 = .ok (.bipush 8, 2) := by decide +kernel
theorem dJ6_bitCount_0f7a4_38 : decode cJ6_bitCount_0f7a4 38 = .ok (.iushr, 1) := by decide +kernel
theorem dJ6_bitCount_0f7a4_39 : decode cJ6_bitCount_0f7a4 39 = .ok (.iadd, 1) := by decide +kernel
theorem dJ6_bitCount_0f7a4_40 : decode cJ6_bitCount_0f7a4 40 = .ok (.istore_n 0, 1) := by decide +kernel
theorem dJ6_bitCount_0f7a4_41 : decode cJ6_bitCount_0f7a4 41 = .ok (.iload_n 0, 1) := by decide +kernel
theorem dJ6_bitCount_0f7a4_42 : decode cJ6_bitCount_0f7a4 42 = .ok (.iload_n 0, 1) := by decide +kernel
theorem dJ6_bitCount_0f7a4_43 : decode cJ6_bitCount_0f7a4 43 = .ok (.bipush 16, 2) := by decide +kernel
theorem dJ6_bitCount_0f7a4_45 : decode cJ6_bitCount_0f7a4 45 = .ok (.iushr, 1) := by decide +kernel
theorem dJ6_bitCount_0f7a4_46 : decode cJ6_bitCount_0f7a4 46 = .ok (.iadd, 1) := by decide +kernel
theorem dJ6_bitCount_0f7a4_47 : decode cJ6_bitCount_0f7a4 47 = .ok (.istore_n 0, 1) := by decide +kernel
theorem dJ6_bitCount_0f7a4_48 : decode cJ6_bitCount_0f7a4 48 = .ok (.iload_n 0, 1) := by decide +kernel
theorem dJ6_bitCount_0f7a4_49 : decode cJ6_bitCount_0f7a4 49 = .ok (.bipush 63, 2) := by decide +kernel
theorem dJ6_bitCount_0f7a4_51 : decode cJ6_bitCount_0f7a4 51 = .ok (.iand, 1) := by decide +kernel
theorem dJ6_bitCount_0f7a4_52 : decode cJ6_bitCount_0f7a4 52 = .ok (.ireturn, 1) := by decide +kernel
theorem dJ7_fill_53178_0 : decode cJ7_fill_53178 0 = .ok (.iconst 0, 1) := by decide +kernel
theorem dJ7_fill_53178_1 : decode cJ7_fill_53178 1 = .ok (.istore_n 2, 1) := by decide +kernel
theorem dJ7_fill_53178_2 : decode cJ7_fill_53178 2 = .ok (.aload_n 0, 1) := by decide +kernel
theorem dJ7_fill_53178_3 : decode cJ7_fill_53178 3 = .ok (.arraylength, 1) := by decide +kernel
theorem dJ7_fill_53178_4 : decode cJ7_fill_53178 4 = .ok (.istore_n 3, 1) := by decide +kernel
theorem dJ7_fill_53178_5 : decode cJ7_fill_53178 5 = .ok (.iload_n 2, 1) := by decide +kernel
theorem dJ7_fill_53178_6 : decode cJ7_fill_53178 6 = .ok (.iload_n 3, 1) := by decide +kernel
theorem dJ7_fill_53178_7 : decode cJ7_fill_53178 7 = .ok (.if_icmp .ge 13, 3) := by decide +kernel
theorem dJ7_fill_53178_10 : decode cJ7_fill_53178 10 = .ok (.aload_n 0, 1) := by decide +kernel
theorem dJ7_fill_53178_11 : decode cJ7_fill_53178 11 = .ok (.iload_n 2, 1) := by decide +kernel
theorem dJ7_fill_53178_12 : decode cJ7_fill_53178 12 = .ok (.iload_n 1, 1) := by decide +kernel
theorem dJ7_fill_53178_13 : decode cJ7_fill_53178 13 = .ok (.iastore, 1) := by decide +kernel
theorem dJ7_fill_53178_14 : decode cJ7_fill_53178 14 = .ok (.iinc 2 1, 3) := by decide +kernel
theorem dJ7_fill_53178_17 : decode cJ7_fill_53178 17 = .ok (.goto (-12), 3) := by decide +kernel
theorem dJ7_fill_53178_20 : decode cJ7_fill_53178 20 = .ok (.return_, 1) := by decide +kernel
theorem dJ9_floorMod_7cf53_0 : decode cJ9_floorMod_7cf53 0 = .ok (.iload_n 0, 1) := by decide +kernel
theorem dJ9_floorMod_7cf53_1 : decode cJ9_floorMod_7cf53 1 = .ok (.iload_n 1, 1) := by decide +kernel
theorem dJ9_floorMod_7cf53_2 : decode cJ9_floorMod_7cf53 2 = .ok (.irem, 1) := by decide +kernel
theorem dJ9_floorMod_7cf53_3 : decode cJ9_floorMod_7cf53 3 = .ok (.istore_n 2, 1) := by decide +kernel
theorem dJ9_floorMod_7cf53_4 : decode cJ9_floorMod_7cf53 4 = .ok (.iload_n 0, 1) := by decide +kernel
theorem dJ9_floorMod_7cf53_5 : decode cJ9_floorMod_7cf53 5 = .ok (.iload_n 1, 1) := by decide +kernel
theorem dJ9_floorMod_7cf53_6 : decode cJ9_floorMod_7cf53 6 = .ok (.ixor, 1) := by decide +kernel
theorem dJ9_floorMod_7cf53_7 : decode cJ9_floorMod_7cf53 7 = .ok (.ifCond .ge 11, 3) := by decide +kernel
theorem dJ9_floorMod_7cf53_10 : decode cJ9_floorMod_7cf53 10 = .ok (.iload_n 2, 1) := by decide +kernel
theorem dJ9_floorMod_7cf53_11 : decode cJ9_floorMod_7cf53 11 = .ok (.ifCond .eq 7, 3) := by decide +kernel
theorem dJ9_floorMod_7cf53_14 : decode cJ9_floorMod_7cf53 14 = .ok (.iload_n 2, 1) := by decide +kernel
theorem dJ9_floorMod_7cf53_15 : decode cJ9_floorMod_7cf53 15 = .ok (.iload_n 1, 1) := by decide +kernel
theorem dJ9_floorMod_7cf53_16 : decode cJ9_floorMod_7cf53 16 = .ok (.iadd, 1) := by decide +kernel
theorem dJ9_floorMod_7cf53_17 : decode cJ9_floorMod_7cf53 17 = .ok (.ireturn, 1) := by decide +kernel
theorem dJ9_floorMod_7cf53_18 : decode cJ9_floorMod_7cf53 18 = .ok (.iload_n 2, 1) := by decide +kernel
theorem dJ9_floorMod_7cf53_19 : decode cJ9_floorMod_7cf53 19 = .ok (.ireturn, 1) := by decide +kernel
theorem dX0_keepApart_0 : decode cX0_keepApart 0 = .ok (.aload_n 0, 1) := by decide +kernel
theorem dX0_keepApart_1 : decode cX0_keepApart 1 = .ok (.getfield 11, 3) := by decide +kernel
theorem dX0_keepApart_4 : decode cX0_keepApart 4 = .ok (.iload_n 1, 1) := by decide +kernel
theorem dX0_keepApart_5 : decode cX0_keepApart 5 = .ok (.iaload, 1) := by decide +kernel
theorem dX0_keepApart_6 : decode cX0_keepApart 6 = .ok (.istore_n 3, 1) := by decide +kernel
theorem dX0_keepApart_7 : decode cX0_keepApart 7 = .ok (.aload_n 0, 1) := by decide +kernel
theorem dX0_keepApart_8 : decode cX0_keepApart 8 = .ok (.iconst 0, 1) := by decide +kernel
theorem dX0_keepApart_9 : decode cX0_keepApart 9 = .ok (.putfield 34, 3) := by decide +kernel
theorem dX0_keepApart_12 : decode cX0_keepApart 12 = .ok (.iload_n 2, 1) := by decide +kernel
theorem dX0_keepApart_13 : decode cX0_keepApart 13 = .ok (.istore 4, 2) := by decide +kernel
theorem dX0_keepApart_15 : decode cX0_keepApart 15 = .ok (.iload 4, 2) := by decide +kernel
theorem dX0_keepApart_17 : decode cX0_keepApart 17 = .ok (.aload_n 0, 1) := by decide +kernel
theorem dX0_keepApart_18 : decode cX0_keepApart 18 = .ok (.getfield 30, 3) := by decide +kernel
theorem dX0_keepApart_21 : decode cX0_keepApart 21 = .ok (.if_icmp .ge 47, 3) := by decide +kernel
theorem dX0_keepApart_24 : decode cX0_keepApart 24 = .ok (.aload_n 0, 1) := by decide +kernel
theorem dX0_keepApart_25 : decode cX0_keepApart 25 = .ok (.getfield 11, 3) := by decide +kernel
theorem dX0_keepApart_28 : decode cX0_keepApart 28 = .ok (.iload 4, 2) := by decide +kernel
theorem dX0_keepApart_30 : decode cX0_keepApart 30 = .ok (.iaload, 1) := by decide +kernel
theorem dX0_keepApart_31 : decode cX0_keepApart 31 = .ok (.iload_n 3, 1) := by decide +kernel
theorem dX0_keepApart_32 : decode cX0_keepApart 32 = .ok (.iand, 1) := by decide +kernel
theorem dX0_keepApart_33 : decode cX0_keepApart 33 = .ok (.ifCond .ne 29, 3) := by decide +kernel
theorem dX0_keepApart_36 : decode cX0_keepApart 36 = .ok (.aload_n 0, 1) := by decide +kernel
theorem dX0_keepApart_37 : decode cX0_keepApart 37 = .ok (.getfield 18, 3) := by decide +kernel
theorem dX0_keepApart_40 : decode cX0_keepApart 40 = .ok (.aload_n 0, 1) := by decide +kernel
theorem dX0_keepApart_41 : decode cX0_keepApart 41 = .ok (.getfield 34, 3) := by decide +kernel
theorem dX0_keepApart_44 : decode cX0_keepApart 44 = .ok (.aload_n 0, 1) := by decide +kernel
theorem dX0_keepApart_45 : decode cX0_keepApart 45 = .ok (.getfield 11, 3) := by decide +kernel
theorem dX0_keepApart_48 : decode cX0_keepApart 48 = .ok (.iload 4, 2) := by decide +kernel
theorem dX0_keepApart_50 : decode cX0_keepApart 50 = .ok (.iaload, 1) := by decide +kernel
theorem dX0_keepApart_51 : decode cX0_keepApart 51 = .ok (.iastore, 1) := by decide +kernel
theorem dX0_keepApart_52 : decode cX0_keepApart 52 = .ok (.aload_n 0, 1) := by decide +kernel
theorem dX0_keepApart_53 : decode cX0_keepApart 53 = .ok (.dup, 1) := by decide +kernel
theorem dX0_keepApart_54 : decode cX0_keepApart 54 = .ok (.getfield 34, 3) := by decide +kernel
theorem dX0_keepApart_57 : decode cX0_keepApart 57 = .ok (.iconst 1, 1) := by decide +kernel
theorem dX0_keepApart_58 : decode cX0_keepApart 58 = .ok (.iadd, 1) := by decide +kernel
theorem dX0_keepApart_59 : decode cX0_keepApart 59 = .ok (.putfield 34, 3) := by decide +kernel
theorem dX0_keepApart_62 : decode cX0_keepApart 62 = .ok (.iinc 4 1, 3) := by decide +kernel
theorem dX0_keepApart_65 : decode cX0_keepApart 65 = .ok (.goto (-50), 3) := by decide +kernel
theorem dX0_keepApart_68 : decode cX0_keepApart 68 = .ok (.return_, 1) := by decide +kernel
theorem dX1_joined_0 : decode cX1_joined 0 = .ok (.iload_n 0, 1) := by decide +kernel
theorem dX1_joined_1 : decode cX1_joined 1 = .ok (.tableswitch 160 9 26 #[87, 101, 160, 160, 160, 160, 160, 160, 160, 160, 160, 160, 115, 126, 137, 148, 152, 156], 87) := by decide +kernel
theorem dX1_joined_88 : decode cX1_joined 88 = .ok (.iload_n 1, 1) := by decide +kernel
theorem dX1_joined_89 : decode cX1_joined 89 = .ok (.ifCond .ne 7, 3) := by decide +kernel
theorem dX1_joined_92 : decode cX1_joined 92 = .ok (.iload_n 2, 1) := by decide +kernel
theorem dX1_joined_93 : decode cX1_joined 93 = .ok (.ifCond .eq 7, 3) := by decide +kernel
theorem dX1_joined_96 : decode cX1_joined 96 = .ok (.iconst 1, 1) := by decide +kernel
theorem dX1_joined_97 : decode cX1_joined 97 = .ok (.goto 4, 3) := by decide +kernel
theorem dX1_joined_100 : decode cX1_joined 100 = .ok (.iconst 0, 1) := by decide +kernel
theorem dX1_joined_101 : decode cX1_joined 101 = .ok (.ireturn, 1) := by decide +kernel
theorem dX1_joined_102 : decode cX1_joined 102 = .ok (.iload_n 1, 1) := by decide +kernel
theorem dX1_joined_103 : decode cX1_joined 103 = .ok (.ifCond .eq 11, 3) := by decide +kernel
theorem dX1_joined_106 : decode cX1_joined 106 = .ok (.iload_n 2, 1) := by decide +kernel
theorem dX1_joined_107 : decode cX1_joined 107 = .ok (.ifCond .eq 7, 3) := by decide +kernel
theorem dX1_joined_110 : decode cX1_joined 110 = .ok (.iconst 1, 1) := by decide +kernel
theorem dX1_joined_111 : decode cX1_joined 111 = .ok (.goto 4, 3) := by decide +kernel
theorem dX1_joined_114 : decode cX1_joined 114 = .ok (.iconst 0, 1) := by decide +kernel
theorem dX1_joined_115 : decode cX1_joined 115 = .ok (.ireturn, 1) := by decide +kernel
theorem dX1_joined_116 : decode cX1_joined 116 = .ok (.iload_n 1, 1) := by decide +kernel
theorem dX1_joined_117 : decode cX1_joined 117 = .ok (.iload_n 2, 1) := by decide +kernel
theorem dX1_joined_118 : decode cX1_joined 118 = .ok (.if_icmp .ge 7, 3) := by decide +kernel
theorem dX1_joined_121 : decode cX1_joined 121 = .ok (.iconst 1, 1) := by decide +kernel
theorem dX1_joined_122 : decode cX1_joined 122 = .ok (.goto 4, 3) := by decide +kernel
theorem dX1_joined_125 : decode cX1_joined 125 = .ok (.iconst 0, 1) := by decide +kernel
theorem dX1_joined_126 : decode cX1_joined 126 = .ok (.ireturn, 1) := by decide +kernel
theorem dX1_joined_127 : decode cX1_joined 127 = .ok (.iload_n 1, 1) := by decide +kernel
theorem dX1_joined_128 : decode cX1_joined 128 = .ok (.iload_n 2, 1) := by decide +kernel
theorem dX1_joined_129 : decode cX1_joined 129 = .ok (.if_icmp .le 7, 3) := by decide +kernel
theorem dX1_joined_132 : decode cX1_joined 132 = .ok (.iconst 1, 1) := by decide +kernel
theorem dX1_joined_133 : decode cX1_joined 133 = .ok (.goto 4, 3) := by decide +kernel
theorem dX1_joined_136 : decode cX1_joined 136 = .ok (.iconst 0, 1) := by decide +kernel
theorem dX1_joined_137 : decode cX1_joined 137 = .ok (.ireturn, 1) := by decide +kernel
theorem dX1_joined_138 : decode cX1_joined 138 = .ok (.iload_n 1, 1) := by decide +kernel
theorem dX1_joined_139 : decode cX1_joined 139 = .ok (.iload_n 2, 1) := by decide +kernel
theorem dX1_joined_140 : decode cX1_joined 140 = .ok (.if_icmp .ne 7, 3) := by decide +kernel
theorem dX1_joined_143 : decode cX1_joined 143 = .ok (.iconst 1, 1) := by decide +kernel
theorem dX1_joined_144 : decode cX1_joined 144 = .ok (.goto 4, 3) := by decide +kernel
theorem dX1_joined_147 : decode cX1_joined 147 = .ok (.iconst 0, 1) := by decide +kernel
theorem dX1_joined_148 : decode cX1_joined 148 = .ok (.ireturn, 1) := by decide +kernel
theorem dX1_joined_149 : decode cX1_joined 149 = .ok (.iload_n 1, 1) := by decide +kernel
theorem dX1_joined_150 : decode cX1_joined 150 = .ok (.iload_n 2, 1) := by decide +kernel
theorem dX1_joined_151 : decode cX1_joined 151 = .ok (.iadd, 1) := by decide +kernel
theorem dX1_joined_152 : decode cX1_joined 152 = .ok (.ireturn, 1) := by decide +kernel
theorem dX1_joined_153 : decode cX1_joined 153 = .ok (.iload_n 1, 1) := by decide +kernel
theorem dX1_joined_154 : decode cX1_joined 154 = .ok (.iload_n 2, 1) := by decide +kernel
theorem dX1_joined_155 : decode cX1_joined 155 = .ok (.isub, 1) := by decide +kernel
theorem dX1_joined_156 : decode cX1_joined 156 = .ok (.ireturn, 1) := by decide +kernel
theorem dX1_joined_157 : decode cX1_joined 157 = .ok (.iload_n 1, 1) := by decide +kernel
theorem dX1_joined_158 : decode cX1_joined 158 = .ok (.iload_n 2, 1) := by decide +kernel
theorem dX1_joined_159 : decode cX1_joined 159 = .ok (.imul, 1) := by decide +kernel
theorem dX1_joined_160 : decode cX1_joined 160 = .ok (.ireturn, 1) := by decide +kernel
theorem dX1_joined_161 : decode cX1_joined 161 = .ok (.iload_n 2, 1) := by decide +kernel
theorem dX1_joined_162 : decode cX1_joined 162 = .ok (.ifCond .ne 7, 3) := by decide +kernel
theorem dX1_joined_165 : decode cX1_joined 165 = .ok (.iconst 0, 1) := by decide +kernel
theorem dX1_joined_166 : decode cX1_joined 166 = .ok (.goto 6, 3) := by decide +kernel
theorem dX1_joined_169 : decode cX1_joined 169 = .ok (.iload_n 1, 1) := by decide +kernel
theorem dX1_joined_170 : decode cX1_joined 170 = .ok (.iload_n 2, 1) := by decide +kernel
theorem dX1_joined_171 : decode cX1_joined 171 = .ok (.idiv, 1) := by decide +kernel
theorem dX1_joined_172 : decode cX1_joined 172 = .ok (.ireturn, 1) := by decide +kernel
theorem dX1_pop_0 : decode cX1_pop 0 = .ok (.aload_n 0, 1) := by decide +kernel
theorem dX1_pop_1 : decode cX1_pop 1 = .ok (.getfield 25, 3) := by decide +kernel
theorem dX1_pop_4 : decode cX1_pop 4 = .ok (.ifCond .gt 5, 3) := by decide +kernel
theorem dX1_pop_7 : decode cX1_pop 7 = .ok (.iconst 0, 1) := by decide +kernel
theorem dX1_pop_8 : decode cX1_pop 8 = .ok (.ireturn, 1) := by decide +kernel
theorem dX1_pop_9 : decode cX1_pop 9 = .ok (.aload_n 0, 1) := by decide +kernel
theorem dX1_pop_10 : decode cX1_pop 10 = .ok (.dup, 1) := by decide +kernel
theorem dX1_pop_11 : decode cX1_pop 11 = .ok (.getfield 25, 3) := by decide +kernel
theorem dX1_pop_14 : decode cX1_pop 14 = .ok (.iconst 1, 1) := by decide +kernel
theorem dX1_pop_15 : decode cX1_pop 15 = .ok (.isub, 1) := by decide +kernel
theorem dX1_pop_16 : decode cX1_pop 16 = .ok (.putfield 25, 3) := by decide +kernel
theorem dX1_pop_19 : decode cX1_pop 19 = .ok (.aload_n 0, 1) := by decide +kernel
theorem dX1_pop_20 : decode cX1_pop 20 = .ok (.getfield 15, 3) := by decide +kernel
theorem dX1_pop_23 : decode cX1_pop 23 = .ok (.aload_n 0, 1) := by decide +kernel
theorem dX1_pop_24 : decode cX1_pop 24 = .ok (.getfield 25, 3) := by decide +kernel
theorem dX1_pop_27 : decode cX1_pop 27 = .ok (.iaload, 1) := by decide +kernel
theorem dX1_pop_28 : decode cX1_pop 28 = .ok (.ireturn, 1) := by decide +kernel
theorem dX1_push_0 : decode cX1_push 0 = .ok (.aload_n 0, 1) := by decide +kernel
theorem dX1_push_1 : decode cX1_push 1 = .ok (.getfield 25, 3) := by decide +kernel
theorem dX1_push_4 : decode cX1_push 4 = .ok (.bipush 40, 2) := by decide +kernel
theorem dX1_push_6 : decode cX1_push 6 = .ok (.if_icmp .ge 23, 3) := by decide +kernel
theorem dX1_push_9 : decode cX1_push 9 = .ok (.aload_n 0, 1) := by decide +kernel
theorem dX1_push_10 : decode cX1_push 10 = .ok (.getfield 15, 3) := by decide +kernel
theorem dX1_push_13 : decode cX1_push 13 = .ok (.aload_n 0, 1) := by decide +kernel
theorem dX1_push_14 : decode cX1_push 14 = .ok (.getfield 25, 3) := by decide +kernel
theorem dX1_push_17 : decode cX1_push 17 = .ok (.iload_n 1, 1) := by decide +kernel
theorem dX1_push_18 : decode cX1_push 18 = .ok (.iastore, 1) := by decide +kernel
theorem dX1_push_19 : decode cX1_push 19 = .ok (.aload_n 0, 1) := by decide +kernel
theorem dX1_push_20 : decode cX1_push 20 = .ok (.dup, 1) := by decide +kernel
theorem dX1_push_21 : decode cX1_push 21 = .ok (.getfield 25, 3) := by decide +kernel
theorem dX1_push_24 : decode cX1_push 24 = .ok (.iconst 1, 1) := by decide +kernel
theorem dX1_push_25 : decode cX1_push 25 = .ok (.iadd, 1) := by decide +kernel
theorem dX1_push_26 : decode cX1_push 26 = .ok (.putfield 25, 3) := by decide +kernel
theorem dX1_push_29 : decode cX1_push 29 = .ok (.return_, 1) := by decide +kernel
theorem dX3_add_0 : decode cX3_add 0 = .ok (.aload_n 0, 1) := by decide +kernel
theorem dX3_add_1 : decode cX3_add 1 = .ok (.getfield 15, 3) := by decide +kernel
theorem dX3_add_4 : decode cX3_add 4 = .ok (.ifCond .lt 32, 3) := by decide +kernel
theorem dX3_add_7 : decode cX3_add 7 = .ok (.aload_n 0, 1) := by decide +kernel
theorem dX3_add_8 : decode cX3_add 8 = .ok (.getfield 15, 3) := by decide +kernel
theorem dX3_add_11 : decode cX3_add 11 = .ok (.bipush 9, 2) := by decide +kernel
theorem dX3_add_13 : decode cX3_add 13 = .ok (.if_icmp .ge 23, 3) := by decide +kernel
theorem dX3_add_16 : decode cX3_add 16 = .ok (.aload_n 0, 1) := by decide +kernel
theorem dX3_add_17 : decode cX3_add 17 = .ok (.getfield 9, 3) := by decide +kernel
theorem dX3_add_20 : decode cX3_add 20 = .ok (.aload_n 0, 1) := by decide +kernel
theorem dX3_add_21 : decode cX3_add 21 = .ok (.getfield 15, 3) := by decide +kernel
theorem dX3_add_24 : decode cX3_add 24 = .ok (.iload_n 1, 1) := by decide +kernel
theorem dX3_add_25 : decode cX3_add 25 = .ok (.iastore, 1) := by decide +kernel
theorem dX3_add_26 : decode cX3_add 26 = .ok (.aload_n 0, 1) := by decide +kernel
theorem dX3_add_27 : decode cX3_add 27 = .ok (.dup, 1) := by decide +kernel
theorem dX3_add_28 : decode cX3_add 28 = .ok (.getfield 15, 3) := by decide +kernel
theorem dX3_add_31 : decode cX3_add 31 = .ok (.iconst 1, 1) := by decide +kernel
theorem dX3_add_32 : decode cX3_add 32 = .ok (.iadd, 1) := by decide +kernel
theorem dX3_add_33 : decode cX3_add 33 = .ok (.putfield 15, 3) := by decide +kernel
theorem dX3_add_36 : decode cX3_add 36 = .ok (.return_, 1) := by decide +kernel
theorem dX3_copy_0 : decode cX3_copy 0 = .ok (.aload_n 1, 1) := by decide +kernel
theorem dX3_copy_1 : decode cX3_copy 1 = .ok (.getfield 9, 3) := by decide +kernel
theorem dX3_copy_4 : decode cX3_copy 4 = .ok (.iconst 0, 1) := by decide +kernel
theorem dX3_copy_5 : decode cX3_copy 5 = .ok (.aload_n 0, 1) := by decide +kernel
theorem dX3_copy_6 : decode cX3_copy 6 = .ok (.getfield 9, 3) := by decide +kernel
theorem dX3_copy_9 : decode cX3_copy 9 = .ok (.iconst 0, 1) := by decide +kernel
theorem dX3_copy_10 : decode cX3_copy 10 = .ok (.bipush 9, 2) := by decide +kernel
theorem dX3_copy_12 : decode cX3_copy 12 = .ok (.invokestatic 19, 3) := by decide +kernel
theorem dX3_copy_15 : decode cX3_copy 15 = .ok (.aload_n 0, 1) := by decide +kernel
theorem dX3_copy_16 : decode cX3_copy 16 = .ok (.aload_n 1, 1) := by decide +kernel
theorem dX3_copy_17 : decode cX3_copy 17 = .ok (.getfield 15, 3) := by decide +kernel
theorem dX3_copy_20 : decode cX3_copy 20 = .ok (.putfield 15, 3) := by decide +kernel
theorem dX3_copy_23 : decode cX3_copy 23 = .ok (.return_, 1) := by decide +kernel
theorem dX3_holds_0 : decode cX3_holds 0 = .ok (.iconst 0, 1) := by decide +kernel
theorem dX3_holds_1 : decode cX3_holds 1 = .ok (.istore_n 2, 1) := by decide +kernel
theorem dX3_holds_2 : decode cX3_holds 2 = .ok (.iload_n 2, 1) := by decide +kernel
theorem dX3_holds_3 : decode cX3_holds 3 = .ok (.aload_n 0, 1) := by decide +kernel
theorem dX3_holds_4 : decode cX3_holds 4 = .ok (.getfield 15, 3) := by decide +kernel
theorem dX3_holds_7 : decode cX3_holds 7 = .ok (.if_icmp .ge 21, 3) := by decide +kernel
theorem dX3_holds_10 : decode cX3_holds 10 = .ok (.aload_n 0, 1) := by decide +kernel
theorem dX3_holds_11 : decode cX3_holds 11 = .ok (.getfield 9, 3) := by decide +kernel
theorem dX3_holds_14 : decode cX3_holds 14 = .ok (.iload_n 2, 1) := by decide +kernel
theorem dX3_holds_15 : decode cX3_holds 15 = .ok (.iaload, 1) := by decide +kernel
theorem dX3_holds_16 : decode cX3_holds 16 = .ok (.iload_n 1, 1) := by decide +kernel
theorem dX3_holds_17 : decode cX3_holds 17 = .ok (.if_icmp .ne 5, 3) := by decide +kernel
theorem dX3_holds_20 : decode cX3_holds 20 = .ok (.iconst 1, 1) := by decide +kernel
theorem dX3_holds_21 : decode cX3_holds 21 = .ok (.ireturn, 1) := by decide +kernel
theorem dX3_holds_22 : decode cX3_holds 22 = .ok (.iinc 2 1, 3) := by decide +kernel
theorem dX3_holds_25 : decode cX3_holds 25 = .ok (.goto (-23), 3) := by decide +kernel
theorem dX3_holds_28 : decode cX3_holds 28 = .ok (.iconst 0, 1) := by decide +kernel
theorem dX3_holds_29 : decode cX3_holds 29 = .ok (.ireturn, 1) := by decide +kernel
theorem dX3_houseAt_0 : decode cX3_houseAt 0 = .ok (.iload_n 1, 1) := by decide +kernel
theorem dX3_houseAt_1 : decode cX3_houseAt 1 = .ok (.ifCond .lt 20, 3) := by decide +kernel
theorem dX3_houseAt_4 : decode cX3_houseAt 4 = .ok (.iload_n 1, 1) := by decide +kernel
theorem dX3_houseAt_5 : decode cX3_houseAt 5 = .ok (.aload_n 0, 1) := by decide +kernel
theorem dX3_houseAt_6 : decode cX3_houseAt 6 = .ok (.getfield 15, 3) := by decide +kernel
theorem dX3_houseAt_9 : decode cX3_houseAt 9 = .ok (.if_icmp .ge 12, 3) := by decide +kernel
theorem dX3_houseAt_12 : decode cX3_houseAt 12 = .ok (.aload_n 0, 1) := by decide +kernel
theorem dX3_houseAt_13 : decode cX3_houseAt 13 = .ok (.getfield 9, 3) := by decide +kernel
theorem dX3_houseAt_16 : decode cX3_houseAt 16 = .ok (.iload_n 1, 1) := by decide +kernel
theorem dX3_houseAt_17 : decode cX3_houseAt 17 = .ok (.iaload, 1) := by decide +kernel
theorem dX3_houseAt_18 : decode cX3_houseAt 18 = .ok (.goto 4, 3) := by decide +kernel
theorem dX3_houseAt_21 : decode cX3_houseAt 21 = .ok (.iconst (-1), 1) := by decide +kernel
theorem dX3_houseAt_22 : decode cX3_houseAt 22 = .ok (.ireturn, 1) := by decide +kernel
theorem dX4_ago_0 : decode cX4_ago 0 = .ok (.aload_n 0, 1) := by decide +kernel
theorem dX4_ago_1 : decode cX4_ago 1 = .ok (.getfield 9, 3) := by decide +kernel
theorem dX4_ago_4 : decode cX4_ago 4 = .ok (.iload_n 1, 1) := by decide +kernel
theorem dX4_ago_5 : decode cX4_ago 5 = .ok (.bipush 9, 2) := by decide +kernel
theorem dX4_ago_7 : decode cX4_ago 7 = .ok (.imul, 1) := by decide +kernel
theorem dX4_ago_8 : decode cX4_ago 8 = .ok (.iload_n 2, 1) := by decide +kernel
theorem dX4_ago_9 : decode cX4_ago 9 = .ok (.iadd, 1) := by decide +kernel
theorem dX4_ago_10 : decode cX4_ago 10 = .ok (.iaload, 1) := by decide +kernel
theorem dX4_ago_11 : decode cX4_ago 11 = .ok (.istore_n 3, 1) := by decide +kernel
theorem dX4_ago_12 : decode cX4_ago 12 = .ok (.iload_n 3, 1) := by decide +kernel
theorem dX4_ago_13 : decode cX4_ago 13 = .ok (.ifCond .ne 8, 3) := by decide +kernel
theorem dX4_ago_16 : decode cX4_ago 16 = .ok (.bipush 99, 2) := by decide +kernel
theorem dX4_ago_18 : decode cX4_ago 18 = .ok (.goto 16, 3) := by decide +kernel
theorem dX4_ago_21 : decode cX4_ago 21 = .ok (.bipush 99, 2) := by decide +kernel
theorem dX4_ago_23 : decode cX4_ago 23 = .ok (.aload_n 0, 1) := by decide +kernel
theorem dX4_ago_24 : decode cX4_ago 24 = .ok (.getfield 22, 3) := by decide +kernel
theorem dX4_ago_27 : decode cX4_ago 27 = .ok (.iload_n 3, 1) := by decide +kernel
theorem dX4_ago_28 : decode cX4_ago 28 = .ok (.isub, 1) := by decide +kernel
theorem dX4_ago_29 : decode cX4_ago 29 = .ok (.iconst 1, 1) := by decide +kernel
theorem dX4_ago_30 : decode cX4_ago 30 = .ok (.iadd, 1) := by decide +kernel
theorem dX4_ago_31 : decode cX4_ago 31 = .ok (.invokestatic 55, 3) := by decide +kernel
theorem dX4_ago_34 : decode cX4_ago 34 = .ok (.ireturn, 1) := by decide +kernel
theorem dX4_clear_0 : decode cX4_clear 0 = .ok (.aload_n 0, 1) := by decide +kernel
theorem dX4_clear_1 : decode cX4_clear 1 = .ok (.getfield 9, 3) := by decide +kernel
theorem dX4_clear_4 : decode cX4_clear 4 = .ok (.iconst 0, 1) := by decide +kernel
theorem dX4_clear_5 : decode cX4_clear 5 = .ok (.invokestatic 36, 3) := by decide +kernel
theorem dX4_clear_8 : decode cX4_clear 8 = .ok (.aload_n 0, 1) := by decide +kernel
theorem dX4_clear_9 : decode cX4_clear 9 = .ok (.getfield 18, 3) := by decide +kernel
theorem dX4_clear_12 : decode cX4_clear 12 = .ok (.iconst 0, 1) := by decide +kernel
theorem dX4_clear_13 : decode cX4_clear 13 = .ok (.putfield 42, 3) := by decide +kernel
theorem dX4_clear_16 : decode cX4_clear 16 = .ok (.aload_n 0, 1) := by decide +kernel
theorem dX4_clear_17 : decode cX4_clear 17 = .ok (.iconst 0, 1) := by decide +kernel
theorem dX4_clear_18 : decode cX4_clear 18 = .ok (.putfield 22, 3) := by decide +kernel
theorem dX4_clear_21 : decode cX4_clear 21 = .ok (.aload_n 0, 1) := by decide +kernel
theorem dX4_clear_22 : decode cX4_clear 22 = .ok (.iconst 0, 1) := by decide +kernel
theorem dX4_clear_23 : decode cX4_clear 23 = .ok (.putfield 26, 3) := by decide +kernel
theorem dX4_clear_26 : decode cX4_clear 26 = .ok (.return_, 1) := by decide +kernel
theorem dX6_named_0 : decode cX6_named 0 = .ok (.iconst 0, 1) := by decide +kernel
theorem dX6_named_1 : decode cX6_named 1 = .ok (.istore_n 3, 1) := by decide +kernel
theorem dX6_named_2 : decode cX6_named 2 = .ok (.iload_n 3, 1) := by decide +kernel
theorem dX6_named_3 : decode cX6_named 3 = .ok (.aload_n 0, 1) := by decide +kernel
theorem dX6_named_4 : decode cX6_named 4 = .ok (.getfield 35, 3) := by decide +kernel
theorem dX6_named_7 : decode cX6_named 7 = .ok (.if_icmp .ge 22, 3) := by decide +kernel
theorem dX6_named_10 : decode cX6_named 10 = .ok (.aload_n 0, 1) := by decide +kernel
theorem dX6_named_11 : decode cX6_named 11 = .ok (.getfield 9, 3) := by decide +kernel
theorem dX6_named_14 : decode cX6_named 14 = .ok (.iload_n 3, 1) := by decide +kernel
theorem dX6_named_15 : decode cX6_named 15 = .ok (.laload, 1) := by decide +kernel
theorem dX6_named_16 : decode cX6_named 16 = .ok (.lload_n 1, 1) := by decide +kernel
theorem dX6_named_17 : decode cX6_named 17 = .ok (.lcmp, 1) := by decide +kernel
theorem dX6_named_18 : decode cX6_named 18 = .ok (.ifCond .ne 5, 3) := by decide +kernel
theorem dX6_named_21 : decode cX6_named 21 = .ok (.iload_n 3, 1) := by decide +kernel
theorem dX6_named_22 : decode cX6_named 22 = .ok (.ireturn, 1) := by decide +kernel
theorem dX6_named_23 : decode cX6_named 23 = .ok (.iinc 3 1, 3) := by decide +kernel
theorem dX6_named_26 : decode cX6_named 26 = .ok (.goto (-24), 3) := by decide +kernel
theorem dX6_named_29 : decode cX6_named 29 = .ok (.iconst (-1), 1) := by decide +kernel
theorem dX6_named_30 : decode cX6_named 30 = .ok (.ireturn, 1) := by decide +kernel
theorem dX7_keepsLetters_0 : decode cX7_keepsLetters 0 = .ok (.iconst 1, 1) := by decide +kernel
theorem dX7_keepsLetters_1 : decode cX7_keepsLetters 1 = .ok (.iload_n 2, 1) := by decide +kernel
theorem dX7_keepsLetters_2 : decode cX7_keepsLetters 2 = .ok (.ishl, 1) := by decide +kernel
theorem dX7_keepsLetters_3 : decode cX7_keepsLetters 3 = .ok (.istore 4, 2) := by decide +kernel
theorem dX7_keepsLetters_5 : decode cX7_keepsLetters 5 = .ok (.aload_n 0, 1) := by decide +kernel
theorem dX7_keepsLetters_6 : decode cX7_keepsLetters 6 = .ok (.getfield 37, 3) := by decide +kernel
theorem dX7_keepsLetters_9 : decode cX7_keepsLetters 9 = .ok (.ifCond .eq 26, 3) := by decide +kernel
theorem dX7_keepsLetters_12 : decode cX7_keepsLetters 12 = .ok (.iload_n 1, 1) := by decide +kernel
theorem dX7_keepsLetters_13 : decode cX7_keepsLetters 13 = .ok (.iconst 1, 1) := by decide +kernel
theorem dX7_keepsLetters_14 : decode cX7_keepsLetters 14 = .ok (.iload_n 3, 1) := by decide +kernel
theorem dX7_keepsLetters_15 : decode cX7_keepsLetters 15 = .ok (.ishl, 1) := by decide +kernel
theorem dX7_keepsLetters_16 : decode cX7_keepsLetters 16 = .ok (.ior, 1) := by decide +kernel
theorem dX7_keepsLetters_17 : decode cX7_keepsLetters 17 = .ok (.aload_n 0, 1) := by decide +kernel
theorem dX7_keepsLetters_18 : decode cX7_keepsLetters 18 = .ok (.getfield 30, 3) := by decide +kernel
theorem dX7_keepsLetters_21 : decode cX7_keepsLetters 21 = .ok (.if_icmp .ne 14, 3) := by decide +kernel
theorem dX7_keepsLetters_24 : decode cX7_keepsLetters 24 = .ok (.iload 4, 2) := by decide +kernel
theorem dX7_keepsLetters_26 : decode cX7_keepsLetters 26 = .ok (.iconst 1, 1) := by decide +kernel
theorem dX7_keepsLetters_27 : decode cX7_keepsLetters 27 = .ok (.aload_n 0, 1) := by decide +kernel
theorem dX7_keepsLetters_28 : decode cX7_keepsLetters 28 = .ok (.getfield 53, 3) := by decide +kernel
theorem dX7_keepsLetters_31 : decode cX7_keepsLetters 31 = .ok (.ishl, 1) := by decide +kernel
theorem dX7_keepsLetters_32 : decode cX7_keepsLetters 32 = .ok (.ior, 1) := by decide +kernel
theorem dX7_keepsLetters_33 : decode cX7_keepsLetters 33 = .ok (.istore 4, 2) := by decide +kernel
theorem dX7_keepsLetters_35 : decode cX7_keepsLetters 35 = .ok (.aload_n 0, 1) := by decide +kernel
theorem dX7_keepsLetters_36 : decode cX7_keepsLetters 36 = .ok (.getfield 18, 3) := by decide +kernel
theorem dX7_keepsLetters_39 : decode cX7_keepsLetters 39 = .ok (.iload_n 3, 1) := by decide +kernel
theorem dX7_keepsLetters_40 : decode cX7_keepsLetters 40 = .ok (.iaload, 1) := by decide +kernel
theorem dX7_keepsLetters_41 : decode cX7_keepsLetters 41 = .ok (.iload_n 1, 1) := by decide +kernel
theorem dX7_keepsLetters_42 : decode cX7_keepsLetters 42 = .ok (.iand, 1) := by decide +kernel
theorem dX7_keepsLetters_43 : decode cX7_keepsLetters 43 = .ok (.iload 4, 2) := by decide +kernel
theorem dX7_keepsLetters_45 : decode cX7_keepsLetters 45 = .ok (.iconst (-1), 1) := by decide +kernel
theorem dX7_keepsLetters_46 : decode cX7_keepsLetters 46 = .ok (.ixor, 1) := by decide +kernel
theorem dX7_keepsLetters_47 : decode cX7_keepsLetters 47 = .ok (.iand, 1) := by decide +kernel
theorem dX7_keepsLetters_48 : decode cX7_keepsLetters 48 = .ok (.ifCond .ne 7, 3) := by decide +kernel
theorem dX7_keepsLetters_51 : decode cX7_keepsLetters 51 = .ok (.iconst 1, 1) := by decide +kernel
theorem dX7_keepsLetters_52 : decode cX7_keepsLetters 52 = .ok (.goto 4, 3) := by decide +kernel
theorem dX7_keepsLetters_55 : decode cX7_keepsLetters 55 = .ok (.iconst 0, 1) := by decide +kernel
theorem dX7_keepsLetters_56 : decode cX7_keepsLetters 56 = .ok (.ireturn, 1) := by decide +kernel
theorem dX7_openTo_0 : decode cX7_openTo 0 = .ok (.iload_n 1, 1) := by decide +kernel
theorem dX7_openTo_1 : decode cX7_openTo 1 = .ok (.invokestatic 56, 3) := by decide +kernel
theorem dX7_openTo_4 : decode cX7_openTo 4 = .ok (.istore_n 3, 1) := by decide +kernel
theorem dX7_openTo_5 : decode cX7_openTo 5 = .ok (.iload_n 3, 1) := by decide +kernel
theorem dX7_openTo_6 : decode cX7_openTo 6 = .ok (.aload_n 0, 1) := by decide +kernel
theorem dX7_openTo_7 : decode cX7_openTo 7 = .ok (.getfield 34, 3) := by decide +kernel
theorem dX7_openTo_10 : decode cX7_openTo 10 = .ok (.if_icmp .ge 23, 3) := by decide +kernel
theorem dX7_openTo_13 : decode cX7_openTo 13 = .ok (.aload_n 0, 1) := by decide +kernel
theorem dX7_openTo_14 : decode cX7_openTo 14 = .ok (.getfield 9, 3) := by decide +kernel
theorem dX7_openTo_17 : decode cX7_openTo 17 = .ok (.iload_n 3, 1) := by decide +kernel
theorem dX7_openTo_18 : decode cX7_openTo 18 = .ok (.iaload, 1) := by decide +kernel
theorem dX7_openTo_19 : decode cX7_openTo 19 = .ok (.aload_n 0, 1) := by decide +kernel
theorem dX7_openTo_20 : decode cX7_openTo 20 = .ok (.getfield 15, 3) := by decide +kernel
theorem dX7_openTo_23 : decode cX7_openTo 23 = .ok (.iload_n 2, 1) := by decide +kernel
theorem dX7_openTo_24 : decode cX7_openTo 24 = .ok (.iaload, 1) := by decide +kernel
theorem dX7_openTo_25 : decode cX7_openTo 25 = .ok (.iand, 1) := by decide +kernel
theorem dX7_openTo_26 : decode cX7_openTo 26 = .ok (.iload_n 1, 1) := by decide +kernel
theorem dX7_openTo_27 : decode cX7_openTo 27 = .ok (.iconst (-1), 1) := by decide +kernel
theorem dX7_openTo_28 : decode cX7_openTo 28 = .ok (.ixor, 1) := by decide +kernel
theorem dX7_openTo_29 : decode cX7_openTo 29 = .ok (.iand, 1) := by decide +kernel
theorem dX7_openTo_30 : decode cX7_openTo 30 = .ok (.goto 4, 3) := by decide +kernel
theorem dX7_openTo_33 : decode cX7_openTo 33 = .ok (.iconst 0, 1) := by decide +kernel
theorem dX7_openTo_34 : decode cX7_openTo 34 = .ok (.ireturn, 1) := by decide +kernel
theorem dX8_isIn_0 : decode cX8_isIn 0 = .ok (.aload_n 0, 1) := by decide +kernel
theorem dX8_isIn_1 : decode cX8_isIn 1 = .ok (.iload_n 1, 1) := by decide +kernel
theorem dX8_isIn_2 : decode cX8_isIn 2 = .ok (.invokevirtual 138, 3) := by decide +kernel
theorem dX8_isIn_5 : decode cX8_isIn 5 = .ok (.ifCond .eq 21, 3) := by decide +kernel
theorem dX8_isIn_8 : decode cX8_isIn 8 = .ok (.aload_n 0, 1) := by decide +kernel
theorem dX8_isIn_9 : decode cX8_isIn 9 = .ok (.getfield 34, 3) := by decide +kernel
theorem dX8_isIn_12 : decode cX8_isIn 12 = .ok (.getfield 142, 3) := by decide +kernel
theorem dX8_isIn_15 : decode cX8_isIn 15 = .ok (.iload_n 1, 1) := by decide +kernel
theorem dX8_isIn_16 : decode cX8_isIn 16 = .ok (.ishr, 1) := by decide +kernel
theorem dX8_isIn_17 : decode cX8_isIn 17 = .ok (.iconst 1, 1) := by decide +kernel
theorem dX8_isIn_18 : decode cX8_isIn 18 = .ok (.iand, 1) := by decide +kernel
theorem dX8_isIn_19 : decode cX8_isIn 19 = .ok (.ifCond .ne 7, 3) := by decide +kernel
theorem dX8_isIn_22 : decode cX8_isIn 22 = .ok (.iconst 1, 1) := by decide +kernel
theorem dX8_isIn_23 : decode cX8_isIn 23 = .ok (.goto 4, 3) := by decide +kernel
theorem dX8_isIn_26 : decode cX8_isIn 26 = .ok (.iconst 0, 1) := by decide +kernel
theorem dX8_isIn_27 : decode cX8_isIn 27 = .ok (.ireturn, 1) := by decide +kernel
theorem dX8_isPair_0 : decode cX8_isPair 0 = .ok (.iload_n 1, 1) := by decide +kernel
theorem dX8_isPair_1 : decode cX8_isPair 1 = .ok (.iload_n 2, 1) := by decide +kernel
theorem dX8_isPair_2 : decode cX8_isPair 2 = .ok (.if_icmp .eq 23, 3) := by decide +kernel
theorem dX8_isPair_5 : decode cX8_isPair 5 = .ok (.aload_n 0, 1) := by decide +kernel
theorem dX8_isPair_6 : decode cX8_isPair 6 = .ok (.iload_n 1, 1) := by decide +kernel
theorem dX8_isPair_7 : decode cX8_isPair 7 = .ok (.invokevirtual 145, 3) := by decide +kernel
theorem dX8_isPair_10 : decode cX8_isPair 10 = .ok (.ifCond .eq 15, 3) := by decide +kernel
theorem dX8_isPair_13 : decode cX8_isPair 13 = .ok (.aload_n 0, 1) := by decide +kernel
theorem dX8_isPair_14 : decode cX8_isPair 14 = .ok (.iload_n 2, 1) := by decide +kernel
theorem dX8_isPair_15 : decode cX8_isPair 15 = .ok (.invokevirtual 145, 3) := by decide +kernel
theorem dX8_isPair_18 : decode cX8_isPair 18 = .ok (.ifCond .eq 7, 3) := by decide +kernel
theorem dX8_isPair_21 : decode cX8_isPair 21 = .ok (.iconst 1, 1) := by decide +kernel
theorem dX8_isPair_22 : decode cX8_isPair 22 = .ok (.goto 4, 3) := by decide +kernel
theorem dX8_isPair_25 : decode cX8_isPair 25 = .ok (.iconst 0, 1) := by decide +kernel
theorem dX8_isPair_26 : decode cX8_isPair 26 = .ok (.ireturn, 1) := by decide +kernel
theorem dX8_isTold_0 : decode cX8_isTold 0 = .ok (.iload_n 1, 1) := by decide +kernel
theorem dX8_isTold_1 : decode cX8_isTold 1 = .ok (.ifCond .lt 18, 3) := by decide +kernel
theorem dX8_isTold_4 : decode cX8_isTold 4 = .ok (.iload_n 1, 1) := by decide +kernel
theorem dX8_isTold_5 : decode cX8_isTold 5 = .ok (.aload_n 0, 1) := by decide +kernel
theorem dX8_isTold_6 : decode cX8_isTold 6 = .ok (.getfield 27, 3) := by decide +kernel
theorem dX8_isTold_9 : decode cX8_isTold 9 = .ok (.getfield 108, 3) := by decide +kernel
theorem dX8_isTold_12 : decode cX8_isTold 12 = .ok (.if_icmp .ge 7, 3) := by decide +kernel
theorem dX8_isTold_15 : decode cX8_isTold 15 = .ok (.iconst 1, 1) := by decide +kernel
theorem dX8_isTold_16 : decode cX8_isTold 16 = .ok (.goto 4, 3) := by decide +kernel
theorem dX8_isTold_19 : decode cX8_isTold 19 = .ok (.iconst 0, 1) := by decide +kernel
theorem dX8_isTold_20 : decode cX8_isTold 20 = .ok (.ireturn, 1) := by decide +kernel
theorem dX8_ruled_0 : decode cX8_ruled 0 = .ok (.aload_n 0, 1) := by decide +kernel
theorem dX8_ruled_1 : decode cX8_ruled 1 = .ok (.getfield 27, 3) := by decide +kernel
theorem dX8_ruled_4 : decode cX8_ruled 4 = .ok (.getfield 108, 3) := by decide +kernel
theorem dX8_ruled_7 : decode cX8_ruled 7 = .ok (.istore_n 3, 1) := by decide +kernel
theorem dX8_ruled_8 : decode cX8_ruled 8 = .ok (.aload_n 0, 1) := by decide +kernel
theorem dX8_ruled_9 : decode cX8_ruled 9 = .ok (.getfield 34, 3) := by decide +kernel
theorem dX8_ruled_12 : decode cX8_ruled 12 = .ok (.getfield 142, 3) := by decide +kernel
theorem dX8_ruled_15 : decode cX8_ruled 15 = .ok (.ifCond .ne 36, 3) := by decide +kernel
theorem dX8_ruled_18 : decode cX8_ruled 18 = .ok (.iload_n 3, 1) := by decide +kernel
theorem dX8_ruled_19 : decode cX8_ruled 19 = .ok (.iconst 3, 1) := by decide +kernel
theorem dX8_ruled_20 : decode cX8_ruled 20 = .ok (.if_icmp .lt 31, 3) := by decide +kernel
theorem dX8_ruled_23 : decode cX8_ruled 23 = .ok (.iload_n 3, 1) := by decide +kernel
theorem dX8_ruled_24 : decode cX8_ruled 24 = .ok (.iconst 2, 1) := by decide +kernel
theorem dX8_ruled_25 : decode cX8_ruled 25 = .ok (.irem, 1) := by decide +kernel
theorem dX8_ruled_26 : decode cX8_ruled 26 = .ok (.ifCond .eq 25, 3) := by decide +kernel
theorem dX8_ruled_29 : decode cX8_ruled 29 = .ok (.iload_n 1, 1) := by decide +kernel
theorem dX8_ruled_30 : decode cX8_ruled 30 = .ok (.ifCond .lt 21, 3) := by decide +kernel
theorem dX8_ruled_33 : decode cX8_ruled 33 = .ok (.iload_n 1, 1) := by decide +kernel
theorem dX8_ruled_34 : decode cX8_ruled 34 = .ok (.iload_n 3, 1) := by decide +kernel
theorem dX8_ruled_35 : decode cX8_ruled 35 = .ok (.iconst 1, 1) := by decide +kernel
theorem dX8_ruled_36 : decode cX8_ruled 36 = .ok (.isub, 1) := by decide +kernel
theorem dX8_ruled_37 : decode cX8_ruled 37 = .ok (.iconst 2, 1) := by decide +kernel
theorem dX8_ruled_38 : decode cX8_ruled 38 = .ok (.idiv, 1) := by decide +kernel
theorem dX8_ruled_39 : decode cX8_ruled 39 = .ok (.if_icmp .ge 12, 3) := by decide +kernel
theorem dX8_ruled_42 : decode cX8_ruled 42 = .ok (.iload_n 2, 1) := by decide +kernel
theorem dX8_ruled_43 : decode cX8_ruled 43 = .ok (.ifCond .lt 8, 3) := by decide +kernel
theorem dX8_ruled_46 : decode cX8_ruled 46 = .ok (.iload_n 2, 1) := by decide +kernel
theorem dX8_ruled_47 : decode cX8_ruled 47 = .ok (.iload_n 3, 1) := by decide +kernel
theorem dX8_ruled_48 : decode cX8_ruled 48 = .ok (.if_icmp .lt 5, 3) := by decide +kernel
theorem dX8_ruled_51 : decode cX8_ruled 51 = .ok (.iconst (-1), 1) := by decide +kernel
theorem dX8_ruled_52 : decode cX8_ruled 52 = .ok (.ireturn, 1) := by decide +kernel
theorem dX8_ruled_53 : decode cX8_ruled 53 = .ok (.iload_n 2, 1) := by decide +kernel
theorem dX8_ruled_54 : decode cX8_ruled 54 = .ok (.ifCond .ne 7, 3) := by decide +kernel
theorem dX8_ruled_57 : decode cX8_ruled 57 = .ok (.iload_n 3, 1) := by decide +kernel
theorem dX8_ruled_58 : decode cX8_ruled 58 = .ok (.iconst 1, 1) := by decide +kernel
theorem dX8_ruled_59 : decode cX8_ruled 59 = .ok (.isub, 1) := by decide +kernel
theorem dX8_ruled_60 : decode cX8_ruled 60 = .ok (.ireturn, 1) := by decide +kernel
theorem dX8_ruled_61 : decode cX8_ruled 61 = .ok (.iload_n 2, 1) := by decide +kernel
theorem dX8_ruled_62 : decode cX8_ruled 62 = .ok (.iconst 2, 1) := by decide +kernel
theorem dX8_ruled_63 : decode cX8_ruled 63 = .ok (.irem, 1) := by decide +kernel
theorem dX8_ruled_64 : decode cX8_ruled 64 = .ok (.ifCond .ne 11, 3) := by decide +kernel
theorem dX8_ruled_67 : decode cX8_ruled 67 = .ok (.iload_n 1, 1) := by decide +kernel
theorem dX8_ruled_68 : decode cX8_ruled 68 = .ok (.iload_n 2, 1) := by decide +kernel
theorem dX8_ruled_69 : decode cX8_ruled 69 = .ok (.iconst 2, 1) := by decide +kernel
theorem dX8_ruled_70 : decode cX8_ruled 70 = .ok (.idiv, 1) := by decide +kernel
theorem dX8_ruled_71 : decode cX8_ruled 71 = .ok (.iadd, 1) := by decide +kernel
theorem dX8_ruled_72 : decode cX8_ruled 72 = .ok (.goto 8, 3) := by decide +kernel
theorem dX8_ruled_75 : decode cX8_ruled 75 = .ok (.iload_n 1, 1) := by decide +kernel
theorem dX8_ruled_76 : decode cX8_ruled 76 = .ok (.iload_n 2, 1) := by decide +kernel
theorem dX8_ruled_77 : decode cX8_ruled 77 = .ok (.iconst 2, 1) := by decide +kernel
theorem dX8_ruled_78 : decode cX8_ruled 78 = .ok (.idiv, 1) := by decide +kernel
theorem dX8_ruled_79 : decode cX8_ruled 79 = .ok (.isub, 1) := by decide +kernel
theorem dX8_ruled_80 : decode cX8_ruled 80 = .ok (.iload_n 3, 1) := by decide +kernel
theorem dX8_ruled_81 : decode cX8_ruled 81 = .ok (.iconst 1, 1) := by decide +kernel
theorem dX8_ruled_82 : decode cX8_ruled 82 = .ok (.isub, 1) := by decide +kernel
theorem dX8_ruled_83 : decode cX8_ruled 83 = .ok (.invokestatic 263, 3) := by decide +kernel
theorem dX8_ruled_86 : decode cX8_ruled 86 = .ok (.ireturn, 1) := by decide +kernel
theorem dX8_since_0 : decode cX8_since 0 = .ok (.aload_n 0, 1) := by decide +kernel
theorem dX8_since_1 : decode cX8_since 1 = .ok (.iload_n 1, 1) := by decide +kernel
theorem dX8_since_2 : decode cX8_since 2 = .ok (.iload_n 2, 1) := by decide +kernel
theorem dX8_since_3 : decode cX8_since 3 = .ok (.invokevirtual 134, 3) := by decide +kernel
theorem dX8_since_6 : decode cX8_since 6 = .ok (.ifCond .eq 15, 3) := by decide +kernel
theorem dX8_since_9 : decode cX8_since 9 = .ok (.aload_n 0, 1) := by decide +kernel
theorem dX8_since_10 : decode cX8_since 10 = .ok (.getfield 34, 3) := by decide +kernel
theorem dX8_since_13 : decode cX8_since 13 = .ok (.iload_n 1, 1) := by decide +kernel
theorem dX8_since_14 : decode cX8_since 14 = .ok (.iload_n 2, 1) := by decide +kernel
theorem dX8_since_15 : decode cX8_since 15 = .ok (.invokevirtual 117, 3) := by decide +kernel
theorem dX8_since_18 : decode cX8_since 18 = .ok (.goto 4, 3) := by decide +kernel
theorem dX8_since_21 : decode cX8_since 21 = .ok (.iconst (-1), 1) := by decide +kernel
theorem dX8_since_22 : decode cX8_since 22 = .ok (.ireturn, 1) := by decide +kernel
