theorem dJ0_coder_7d493_0 : decode cJ0_coder_7d493 0 = .ok (.getstatic 38, 3) := by decide +kernel
theorem dJ0_coder_7d493_3 : decode cJ0_coder_7d493 3 = .ok (.ifCond .eq 10, 3) := by decide +kernel
theorem dJ0_coder_7d493_6 : decode cJ0_coder_7d493 6 = .ok (.aload_n 0, 1) := by decide +kernel
theorem dJ0_coder_7d493_7 : decode cJ0_coder_7d493 7 = .ok (.getfield 15, 3) := by decide +kernel
theorem dJ0_coder_7d493_10 : decode cJ0_coder_7d493 10 = .ok (.goto 4, 3) := by decide +kernel
theorem dJ0_coder_7d493_14 : decode cJ0_coder_7d493 14 = .ok (.ireturn, 1) := by decide +kernel
theorem dJ0_indexOf_0f7a4_0 : decode cJ0_indexOf_0f7a4 0 = .ok (.aload_n 0, 1) := by decide +kernel
theorem dJ0_indexOf_0f7a4_1 : decode cJ0_indexOf_0f7a4 1 = .ok (.iload_n 1, 1) := by decide +kernel
theorem dJ0_indexOf_0f7a4_2 : decode cJ0_indexOf_0f7a4 2 = .ok (.iconst 0, 1) := by decide +kernel
theorem dJ0_indexOf_0f7a4_3 : decode cJ0_indexOf_0f7a4 3 = .ok (.invokevirtual 633, 3) := by decide +kernel
theorem dJ0_indexOf_0f7a4_6 : decode cJ0_indexOf_0f7a4 6 = .ok (.ireturn, 1) := by decide +kernel
theorem dJ0_indexOf_7cf53_0 : decode cJ0_indexOf_7cf53 0 = .ok (.aload_n 0, 1) := by decide +kernel
theorem dJ0_indexOf_7cf53_1 : decode cJ0_indexOf_7cf53 1 = .ok (.invokevirtual 492, 3) := by decide +kernel
theorem dJ0_indexOf_7cf53_4 : decode cJ0_indexOf_7cf53 4 = .ok (.ifCond .eq 19, 3) := by decide +kernel
theorem dJ0_indexOf_7cf53_7 : decode cJ0_indexOf_7cf53 7 = .ok (.aload_n 0, 1) := by decide +kernel
theorem dJ0_indexOf_7cf53_8 : decode cJ0_indexOf_7cf53 8 = .ok (.getfield 9, 3) := by decide +kernel
theorem dJ0_indexOf_7cf53_11 : decode cJ0_indexOf_7cf53 11 = .ok (.iload_n 1, 1) := by decide +kernel
theorem dJ0_indexOf_7cf53_12 : decode cJ0_indexOf_7cf53 12 = .ok (.iload_n 2, 1) := by decide +kernel
theorem dJ0_indexOf_7cf53_13 : decode cJ0_indexOf_7cf53 13 = .ok (.aload_n 0, 1) := by decide +kernel
theorem dJ0_indexOf_7cf53_14 : decode cJ0_indexOf_7cf53 14 = .ok (.invokevirtual 505, 3) := by decide +kernel
theorem dJ0_indexOf_7cf53_17 : decode cJ0_indexOf_7cf53 17 = .ok (.invokestatic 637, 3) := by decide +kernel
theorem dJ0_indexOf_7cf53_20 : decode cJ0_indexOf_7cf53 20 = .ok (.goto 16, 3) := by decide +kernel
theorem dJ0_indexOf_7cf53_36 : decode cJ0_indexOf_7cf53 36 = .ok (.ireturn, 1) := by decide +kernel
theorem dJ0_isLatin1_aae02_0 : decode cJ0_isLatin1_aae02 0 = .ok (.getstatic 38, 3) := by decide +kernel
theorem dJ0_isLatin1_aae02_3 : decode cJ0_isLatin1_aae02 3 = .ok (.ifCond .eq 14, 3) := by decide +kernel
theorem dJ0_isLatin1_aae02_6 : decode cJ0_isLatin1_aae02 6 = .ok (.aload_n 0, 1) := by decide +kernel
theorem dJ0_isLatin1_aae02_7 : decode cJ0_isLatin1_aae02 7 = .ok (.getfield 15, 3) := by decide +kernel
theorem dJ0_isLatin1_aae02_10 : decode cJ0_isLatin1_aae02 10 = .ok (.ifCond .ne 7, 3) := by decide +kernel
theorem dJ0_isLatin1_aae02_13 : decode cJ0_isLatin1_aae02 13 = .ok (.iconst 1, 1) := by decide +kernel
theorem dJ0_isLatin1_aae02_14 : decode cJ0_isLatin1_aae02 14 = .ok (.goto 4, 3) := by decide +kernel
theorem dJ0_isLatin1_aae02_18 : decode cJ0_isLatin1_aae02 18 = .ok (.ireturn, 1) := by decide +kernel
theorem dJ0_length_8abf5_0 : decode cJ0_length_8abf5 0 = .ok (.aload_n 0, 1) := by decide +kernel
theorem dJ0_length_8abf5_1 : decode cJ0_length_8abf5 1 = .ok (.getfield 9, 3) := by decide +kernel
theorem dJ0_length_8abf5_4 : decode cJ0_length_8abf5 4 = .ok (.arraylength, 1) := by decide +kernel
theorem dJ0_length_8abf5_5 : decode cJ0_length_8abf5 5 = .ok (.aload_n 0, 1) := by decide +kernel
theorem dJ0_length_8abf5_6 : decode cJ0_length_8abf5 6 = .ok (.invokevirtual 335, 3) := by decide +kernel
theorem dJ0_length_8abf5_9 : decode cJ0_length_8abf5 9 = .ok (.ishr, 1) := by decide +kernel
theorem dJ0_length_8abf5_10 : decode cJ0_length_8abf5 10 = .ok (.ireturn, 1) := by decide +kernel
theorem dJ1_canEncode_9a6ad_0 : decode cJ1_canEncode_9a6ad 0 = .ok (.iload_n 0, 1) := by decide +kernel
theorem dJ1_canEncode_9a6ad_1 : decode cJ1_canEncode_9a6ad 1 = .ok (.ifCond .lt 14, 3) := by decide +kernel
theorem dJ1_canEncode_9a6ad_4 : decode cJ1_canEncode_9a6ad 4 = .ok (.iload_n 0, 1) := by decide +kernel
theorem dJ1_canEncode_9a6ad_5 : decode cJ1_canEncode_9a6ad 5 = .ok (.sipush 255, 3) := by decide +kernel
theorem dJ1_canEncode_9a6ad_8 : decode cJ1_canEncode_9a6ad 8 = .ok (.if_icmp .gt 7, 3) := by decide +kernel
theorem dJ1_canEncode_9a6ad_11 : decode cJ1_canEncode_9a6ad 11 = .ok (.iconst 1, 1) := by decide +kernel
theorem dJ1_canEncode_9a6ad_12 : decode cJ1_canEncode_9a6ad 12 = .ok (.goto 4, 3) := by decide +kernel
theorem dJ1_canEncode_9a6ad_15 : decode cJ1_canEncode_9a6ad 15 = .ok (.iconst 0, 1) := by decide +kernel
theorem dJ1_canEncode_9a6ad_16 : decode cJ1_canEncode_9a6ad 16 = .ok (.ireturn, 1) := by decide +kernel
theorem dJ1_indexOfChar_4cfef_0 : decode cJ1_indexOfChar_4cfef 0 = .ok (.iload_n 1, 1) := by decide +kernel
theorem dJ1_indexOfChar_4cfef_1 : decode cJ1_indexOfChar_4cfef 1 = .ok (.i2b, 1) := by decide +kernel
theorem dJ1_indexOfChar_4cfef_2 : decode cJ1_indexOfChar_4cfef 2 = .ok (.istore 4, 2) := by decide +kernel
theorem dJ1_indexOfChar_4cfef_4 : decode cJ1_indexOfChar_4cfef 4 = .ok (.iload_n 2, 1) := by decide +kernel
theorem dJ1_indexOfChar_4cfef_5 : decode cJ1_indexOfChar_4cfef 5 = .ok (.istore 5, 2) := by decide +kernel
theorem dJ1_indexOfChar_4cfef_7 : decode cJ1_indexOfChar_4cfef 7 = .ok (.iload 5, 2) := by decide +kernel
theorem dJ1_indexOfChar_4cfef_9 : decode cJ1_indexOfChar_4cfef 9 = .ok (.iload_n 3, 1) := by decide +kernel
theorem dJ1_indexOfChar_4cfef_10 : decode cJ1_indexOfChar_4cfef 10 = .ok (.if_icmp .ge 21, 3) := by decide +kernel
theorem dJ1_indexOfChar_4cfef_13 : decode cJ1_indexOfChar_4cfef 13 = .ok (.aload_n 0, 1) := by decide +kernel
theorem dJ1_indexOfChar_4cfef_14 : decode cJ1_indexOfChar_4cfef 14 = .ok (.iload 5, 2) := by decide +kernel
theorem dJ1_indexOfChar_4cfef_16 : decode cJ1_indexOfChar_4cfef 16 = .ok (.baload, 1) := by decide +kernel
theorem dJ1_indexOfChar_4cfef_17 : decode cJ1_indexOfChar_4cfef 17 = .ok (.iload 4, 2) := by decide +kernel
theorem dJ1_indexOfChar_4cfef_19 : decode cJ1_indexOfChar_4cfef 19 = .ok (.if_icmp .ne 6, 3) := by decide +kernel
theorem dJ1_indexOfChar_4cfef_22 : decode cJ1_indexOfChar_4cfef 22 = .ok (.iload 5, 2) := by decide +kernel
theorem dJ1_indexOfChar_4cfef_24 : decode cJ1_indexOfChar_4cfef 24 = .ok (.ireturn, 1) := by decide +kernel
theorem dJ1_indexOfChar_4cfef_25 : decode cJ1_indexOfChar_4cfef 25 = .ok (.iinc 5 1, 3) := by decide +kernel
theorem dJ1_indexOfChar_4cfef_28 : decode cJ1_indexOfChar_4cfef 28 = .ok (.goto (-21), 3) := by decide +kernel
theorem dJ1_indexOfChar_4cfef_31 : decode cJ1_indexOfChar_4cfef 31 = .ok (.iconst (-1), 1) := by decide +kernel
theorem dJ1_indexOfChar_4cfef_32 : decode cJ1_indexOfChar_4cfef 32 = .ok (.ireturn, 1) := by decide +kernel
theorem dJ1_indexOf_4cfef_0 : decode cJ1_indexOf_4cfef 0 = .ok (.iload_n 1, 1) := by decide +kernel
theorem dJ1_indexOf_4cfef_1 : decode cJ1_indexOf_4cfef 1 = .ok (.invokestatic 88, 3) := by decide +kernel
theorem dJ1_indexOf_4cfef_4 : decode cJ1_indexOf_4cfef 4 = .ok (.ifCond .ne 5, 3) := by decide +kernel
theorem dJ1_indexOf_4cfef_7 : decode cJ1_indexOf_4cfef 7 = .ok (.iconst (-1), 1) := by decide +kernel
theorem dJ1_indexOf_4cfef_8 : decode cJ1_indexOf_4cfef 8 = .ok (.ireturn, 1) := by decide +kernel
theorem dJ1_indexOf_4cfef_9 : decode cJ1_indexOf_4cfef 9 = .ok (.iload_n 2, 1) := by decide +kernel
theorem dJ1_indexOf_4cfef_10 : decode cJ1_indexOf_4cfef 10 = .ok (.iconst 0, 1) := by decide +kernel
theorem dJ1_indexOf_4cfef_11 : decode cJ1_indexOf_4cfef 11 = .ok (.invokestatic 92, 3) := by decide +kernel
theorem dJ1_indexOf_4cfef_14 : decode cJ1_indexOf_4cfef 14 = .ok (.istore_n 2, 1) := by decide +kernel
theorem dJ1_indexOf_4cfef_15 : decode cJ1_indexOf_4cfef 15 = .ok (.iload_n 3, 1) := by decide +kernel
theorem dJ1_indexOf_4cfef_16 : decode cJ1_indexOf_4cfef 16 = .ok (.aload_n 0, 1) := by decide +kernel
theorem dJ1_indexOf_4cfef_17 : decode cJ1_indexOf_4cfef 17 = .ok (.arraylength, 1) := by decide +kernel
theorem dJ1_indexOf_4cfef_18 : decode cJ1_indexOf_4cfef 18 = .ok (.invokestatic 38, 3) := by decide +kernel
theorem dJ1_indexOf_4cfef_21 : decode cJ1_indexOf_4cfef 21 = .ok (.istore_n 3, 1) := by decide +kernel
theorem dJ1_indexOf_4cfef_22 : decode cJ1_indexOf_4cfef 22 = .ok (.iload_n 2, 1) := by decide +kernel
theorem dJ1_indexOf_4cfef_23 : decode cJ1_indexOf_4cfef 23 = .ok (.iload_n 3, 1) := by decide +kernel
theorem dJ1_indexOf_4cfef_24 : decode cJ1_indexOf_4cfef 24 = .ok (.if_icmp .lt 5, 3) := by decide +kernel
theorem dJ1_indexOf_4cfef_29 : decode cJ1_indexOf_4cfef 29 = .ok (.aload_n 0, 1) := by decide +kernel
theorem dJ1_indexOf_4cfef_30 : decode cJ1_indexOf_4cfef 30 = .ok (.iload_n 1, 1) := by decide +kernel
theorem dJ1_indexOf_4cfef_31 : decode cJ1_indexOf_4cfef 31 = .ok (.iload_n 2, 1) := by decide +kernel
theorem dJ1_indexOf_4cfef_32 : decode cJ1_indexOf_4cfef 32 = .ok (.iload_n 3, 1) := by decide +kernel
theorem dJ1_indexOf_4cfef_33 : decode cJ1_indexOf_4cfef 33 = .ok (.invokestatic 95, 3) := by decide +kernel
theorem dJ1_indexOf_4cfef_36 : decode cJ1_indexOf_4cfef 36 = .ok (.ireturn, 1) := by decide +kernel
theorem dJ6_bitCount_0f7a4_0 : decode cJ6_bitCount_0f7a4 0 = .ok (.iload_n 0, 1) := by decide +kernel
theorem dJ6_bitCount_0f7a4_1 : decode cJ6_bitCount_0f7a4 1 = .ok (.iload_n 0, 1) := by decide +kernel
theorem dJ6_bitCount_0f7a4_2 : decode cJ6_bitCount_0f7a4 2 = .ok (.iconst 1, 1) := by decide +kernel
theorem dJ6_bitCount_0f7a4_3 : decode cJ6_bitCount_0f7a4 3 = .ok (.iushr, 1) := by decide +kernel
theorem dJ6_bitCount_0f7a4_4 : decode cJ6_bitCount_0f7a4 4 = .ok (.ldc_w 265, 3) := by decide +kernel
theorem dJ6_bitCount_0f7a4_7 : decode cJ6_bitCount_0f7a4 7 = .ok (.iand, 1) := by decide +kernel
theorem dJ6_bitCount_0f7a4_8 : decode cJ6_bitCount_0f7a4 8 = .ok (.isub, 1) := by decide +kernel
theorem dJ6_bitCount_0f7a4_9 : decode cJ6_bitCount_0f7a4 9 = .ok (.istore_n 0, 1) := by decide +kernel
theorem dJ6_bitCount_0f7a4_10 : decode cJ6_bitCount_0f7a4 10 = .ok (.iload_n 0, 1) := by decide +kernel
theorem dJ6_bitCount_0f7a4_11 : decode cJ6_bitCount_0f7a4 11 = .ok (.ldc_w 266, 3) := by decide +kernel
theorem dJ6_bitCount_0f7a4_14 : decode cJ6_bitCount_0f7a4 14 = .ok (.iand, 1) := by decide +kernel
theorem dJ6_bitCount_0f7a4_15 : decode cJ6_bitCount_0f7a4 15 = .ok (.iload_n 0, 1) := by decide +kernel
theorem dJ6_bitCount_0f7a4_16 : decode cJ6_bitCount_0f7a4 16 = .ok (.iconst 2, 1) := by decide +kernel
theorem dJ6_bitCount_0f7a4_17 : decode cJ6_bitCount_0f7a4 17 = .ok (.iushr, 1) := by decide +kernel
theorem dJ6_bitCount_0f7a4_18 : decode cJ6_bitCount_0f7a4 18 = .ok (.ldc_w 266, 3) := by decide +kernel
theorem dJ6_bitCount_0f7a4_21 : decode cJ6_bitCount_0f7a4 21 = .ok (.iand, 1) := by decide +kernel
theorem dJ6_bitCount_0f7a4_22 : decode cJ6_bitCount_0f7a4 22 = .ok (.iadd, 1) := by decide +kernel
theorem dJ6_bitCount_0f7a4_23 : decode cJ6_bitCount_0f7a4 23 = .ok (.istore_n 0, 1) := by decide +kernel
theorem dJ6_bitCount_0f7a4_24 : decode cJ6_bitCount_0f7a4 24 = .ok (.iload_n 0, 1) := by decide +kernel
theorem dJ6_bitCount_0f7a4_25 : decode cJ6_bitCount_0f7a4 25 = .ok (.iload_n 0, 1) := by decide +kernel
theorem dJ6_bitCount_0f7a4_26 : decode cJ6_bitCount_0f7a4 26 = .ok (.iconst 4, 1) := by decide +kernel
theorem dJ6_bitCount_0f7a4_27 : decode cJ6_bitCount_0f7a4 27 = .ok (.iushr, 1) := by decide +kernel
theorem dJ6_bitCount_0f7a4_28 : decode cJ6_bitCount_0f7a4 28 = .ok (.iadd, 1) := by decide +kernel
theorem dJ6_bitCount_0f7a4_29 : decode cJ6_bitCount_0f7a4 29 = .ok (.ldc_w 267, 3) := by decide +kernel
theorem dJ6_bitCount_0f7a4_32 : decode cJ6_bitCount_0f7a4 32 = .ok (.iand, 1) := by decide +kernel
theorem dJ6_bitCount_0f7a4_33 : decode cJ6_bitCount_0f7a4 33 = .ok (.istore_n 0, 1) := by decide +kernel
theorem dJ6_bitCount_0f7a4_34 : decode cJ6_bitCount_0f7a4 34 = .ok (.iload_n 0, 1) := by decide +kernel
theorem dJ6_bitCount_0f7a4_35 : decode cJ6_bitCount_0f7a4 35 = .ok (.iload_n 0, 1) := by decide +kernel
theorem dJ6_bitCount_0f7a4_36 : decode cJ6_bitCount_0f7a4 36 = .ok (.bipush 8, 2) := by decide +kernel
theorem dJ6_bitCount_0f7a4_38 : decode cJ6_bitCount_0f7a4 38 = .ok (.iushr, 1) := by decide +kernel
theorem dJ6_bitCount_0f7a4_39 : decode cJ6_bitCount_0f7a4 39 = .ok (.iadd, 1) := by decide +kernel
theorem dJ6_bitCount_0f7a4_40 : decode cJ6_bitCount_0f7a4 40 = .ok (.istore_n 0, 1) := by decide +kernel
theorem dJ6_bitCount_0f7a4_41 : decode cJ6_bitCount_0f7a4 41 = .ok (.iload_n 0, 1) := by decide +kernel
theorem dJ6_bitCount_0f7a4_42 : decode cJ6_bitCount_0f7a4 42 = .ok (.iload_n 0, 1) := by decide +kernel
theorem dJ6_bitCount_0f7a4_43 : decode cJ6_bitCount_0f7a4 43 = .ok (.bipush 16, 2) := by decide +kernel
theorem dJ6_bitCount_0f7a4_45 : decode cJ6_bitCount_0f7a4 45 = .ok (.iushr, 1) := by decide +kernel
theorem dJ6_bitCount_0f7a4_46 : decode cJ6_bitCount_0f7a4 46 = .ok (.iadd, 1) := by decide +kernel
theorem dJ6_bitCount_0f7a4_47 : decode cJ6_bitCount_0f7a4 47 = .ok (.istore_n 0, 1) := by decide +kernel
theorem dJ6_bitCount_0f7a4_48 : decode cJ6_bitCount_0f7a4 48 = .ok (.iload_n 0, 1) := by decide +kernel
theorem dJ6_bitCount_0f7a4_49 : decode cJ6_bitCount_0f7a4 49 = .ok (.bipush 63, 2) := by decide +kernel
theorem dJ6_bitCount_0f7a4_51 : decode cJ6_bitCount_0f7a4 51 = .ok (.iand, 1) := by decide +kernel
theorem dJ6_bitCount_0f7a4_52 : decode cJ6_bitCount_0f7a4 52 = .ok (.ireturn, 1) := by decide +kernel
theorem dJ7_fill_53178_0 : decode cJ7_fill_53178 0 = .ok (.iconst 0, 1) := by decide +kernel
theorem dJ7_fill_53178_1 : decode cJ7_fill_53178 1 = .ok (.istore_n 2, 1) := by decide +kernel
theorem dJ7_fill_53178_2 : decode cJ7_fill_53178 2 = .ok (.aload_n 0, 1) := by decide +kernel
theorem dJ7_fill_53178_3 : decode cJ7_fill_53178 3 = .ok (.arraylength, 1) := by decide +kernel
theorem dJ7_fill_53178_4 : decode cJ7_fill_53178 4 = .ok (.istore_n 3, 1) := by decide +kernel
theorem dJ7_fill_53178_5 : decode cJ7_fill_53178 5 = .ok (.iload_n 2, 1) := by decide +kernel
theorem dJ7_fill_53178_6 : decode cJ7_fill_53178 6 = .ok (.iload_n 3, 1) := by decide +kernel
theorem dJ7_fill_53178_7 : decode cJ7_fill_53178 7 = .ok (.if_icmp .ge 13, 3) := by decide +kernel
theorem dJ7_fill_53178_10 : decode cJ7_fill_53178 10 = .ok (.aload_n 0, 1) := by decide +kernel
theorem dJ7_fill_53178_11 : decode cJ7_fill_53178 11 = .ok (.iload_n 2, 1) := by decide +kernel
theorem dJ7_fill_53178_12 : decode cJ7_fill_53178 12 = .ok (.iload_n 1, 1) := by decide +kernel
theorem dJ7_fill_53178_13 : decode cJ7_fill_53178 13 = .ok (.iastore, 1) := by decide +kernel
theorem dJ7_fill_53178_14 : decode cJ7_fill_53178 14 = .ok (.iinc 2 1, 3) := by decide +kernel
theorem dJ7_fill_53178_17 : decode cJ7_fill_53178 17 = .ok (.goto (-12), 3) := by decide +kernel
theorem dJ7_fill_53178_20 : decode cJ7_fill_53178 20 = .ok (.return_, 1) := by decide +kernel
theorem dJ9_floorMod_7cf53_0 : decode cJ9_floorMod_7cf53 0 = .ok (.iload_n 0, 1) := by decide +kernel
theorem dJ9_floorMod_7cf53_1 : decode cJ9_floorMod_7cf53 1 = .ok (.iload_n 1, 1) := by decide +kernel
theorem dJ9_floorMod_7cf53_2 : decode cJ9_floorMod_7cf53 2 = .ok (.irem, 1) := by decide +kernel
theorem dJ9_floorMod_7cf53_3 : decode cJ9_floorMod_7cf53 3 = .ok (.istore_n 2, 1) := by decide +kernel
theorem dJ9_floorMod_7cf53_4 : decode cJ9_floorMod_7cf53 4 = .ok (.iload_n 0, 1) := by decide +kernel
theorem dJ9_floorMod_7cf53_5 : decode cJ9_floorMod_7cf53 5 = .ok (.iload_n 1, 1) := by decide +kernel
theorem dJ9_floorMod_7cf53_6 : decode cJ9_floorMod_7cf53 6 = .ok (.ixor, 1) := by decide +kernel
theorem dJ9_floorMod_7cf53_7 : decode cJ9_floorMod_7cf53 7 = .ok (.ifCond .ge 11, 3) := by decide +kernel
theorem dJ9_floorMod_7cf53_10 : decode cJ9_floorMod_7cf53 10 = .ok (.iload_n 2, 1) := by decide +kernel
theorem dJ9_floorMod_7cf53_11 : decode cJ9_floorMod_7cf53 11 = .ok (.ifCond .eq 7, 3) := by decide +kernel
theorem dJ9_floorMod_7cf53_14 : decode cJ9_floorMod_7cf53 14 = .ok (.iload_n 2, 1) := by decide +kernel
theorem dJ9_floorMod_7cf53_15 : decode cJ9_floorMod_7cf53 15 = .ok (.iload_n 1, 1) := by decide +kernel
theorem dJ9_floorMod_7cf53_16 : decode cJ9_floorMod_7cf53 16 = .ok (.iadd, 1) := by decide +kernel
theorem dJ9_floorMod_7cf53_17 : decode cJ9_floorMod_7cf53 17 = .ok (.ireturn, 1) := by decide +kernel
theorem dJ9_floorMod_7cf53_18 : decode cJ9_floorMod_7cf53 18 = .ok (.iload_n 2, 1) := by decide +kernel
theorem dJ9_floorMod_7cf53_19 : decode cJ9_floorMod_7cf53 19 = .ok (.ireturn, 1) := by decide +kernel
theorem dX0_areTwins_0 : decode cX0_areTwins 0 = .ok (.iconst 1, 1) := by decide +kernel
theorem dX0_areTwins_1 : decode cX0_areTwins 1 = .ok (.iload_n 2, 1) := by decide +kernel
theorem dX0_areTwins_2 : decode cX0_areTwins 2 = .ok (.ishl, 1) := by decide +kernel
theorem dX0_areTwins_3 : decode cX0_areTwins 3 = .ok (.iconst 1, 1) := by decide +kernel
theorem dX0_areTwins_4 : decode cX0_areTwins 4 = .ok (.iload_n 3, 1) := by decide +kernel
theorem dX0_areTwins_5 : decode cX0_areTwins 5 = .ok (.ishl, 1) := by decide +kernel
theorem dX0_areTwins_6 : decode cX0_areTwins 6 = .ok (.ior, 1) := by decide +kernel
theorem dX0_areTwins_7 : decode cX0_areTwins 7 = .ok (.iconst (-1), 1) := by decide +kernel
theorem dX0_areTwins_8 : decode cX0_areTwins 8 = .ok (.ixor, 1) := by decide +kernel
theorem dX0_areTwins_9 : decode cX0_areTwins 9 = .ok (.istore 4, 2) := by decide +kernel
theorem dX0_areTwins_11 : decode cX0_areTwins 11 = .ok (.aload_n 1, 1) := by decide +kernel
theorem dX0_areTwins_12 : decode cX0_areTwins 12 = .ok (.getfield 78, 3) := by decide +kernel
theorem dX0_areTwins_15 : decode cX0_areTwins 15 = .ok (.iload_n 2, 1) := by decide +kernel
theorem dX0_areTwins_16 : decode cX0_areTwins 16 = .ok (.iaload, 1) := by decide +kernel
theorem dX0_areTwins_17 : decode cX0_areTwins 17 = .ok (.iload 4, 2) := by decide +kernel
theorem dX0_areTwins_19 : decode cX0_areTwins 19 = .ok (.iand, 1) := by decide +kernel
theorem dX0_areTwins_20 : decode cX0_areTwins 20 = .ok (.aload_n 1, 1) := by decide +kernel
theorem dX0_areTwins_21 : decode cX0_areTwins 21 = .ok (.getfield 78, 3) := by decide +kernel
theorem dX0_areTwins_24 : decode cX0_areTwins 24 = .ok (.iload_n 3, 1) := by decide +kernel
theorem dX0_areTwins_25 : decode cX0_areTwins 25 = .ok (.iaload, 1) := by decide +kernel
theorem dX0_areTwins_26 : decode cX0_areTwins 26 = .ok (.iload 4, 2) := by decide +kernel
theorem dX0_areTwins_28 : decode cX0_areTwins 28 = .ok (.iand, 1) := by decide +kernel
theorem dX0_areTwins_29 : decode cX0_areTwins 29 = .ok (.if_icmp .ne 7, 3) := by decide +kernel
theorem dX0_areTwins_32 : decode cX0_areTwins 32 = .ok (.iconst 1, 1) := by decide +kernel
theorem dX0_areTwins_33 : decode cX0_areTwins 33 = .ok (.goto 4, 3) := by decide +kernel
theorem dX0_areTwins_36 : decode cX0_areTwins 36 = .ok (.iconst 0, 1) := by decide +kernel
theorem dX0_areTwins_37 : decode cX0_areTwins 37 = .ok (.istore 5, 2) := by decide +kernel
theorem dX0_areTwins_39 : decode cX0_areTwins 39 = .ok (.iconst 0, 1) := by decide +kernel
theorem dX0_areTwins_40 : decode cX0_areTwins 40 = .ok (.istore 6, 2) := by decide +kernel
theorem dX0_areTwins_42 : decode cX0_areTwins 42 = .ok (.iload 6, 2) := by decide +kernel
theorem dX0_areTwins_44 : decode cX0_areTwins 44 = .ok (.aload_n 0, 1) := by decide +kernel
theorem dX0_areTwins_45 : decode cX0_areTwins 45 = .ok (.getfield 37, 3) := by decide +kernel
theorem dX0_areTwins_48 : decode cX0_areTwins 48 = .ok (.if_icmp .ge 46, 3) := by decide +kernel
theorem dX0_areTwins_51 : decode cX0_areTwins 51 = .ok (.iload 5, 2) := by decide +kernel
theorem dX0_areTwins_53 : decode cX0_areTwins 53 = .ok (.ifCond .eq 32, 3) := by decide +kernel
theorem dX0_areTwins_56 : decode cX0_areTwins 56 = .ok (.aload_n 1, 1) := by decide +kernel
theorem dX0_areTwins_57 : decode cX0_areTwins 57 = .ok (.getfield 67, 3) := by decide +kernel
theorem dX0_areTwins_60 : decode cX0_areTwins 60 = .ok (.iload 6, 2) := by decide +kernel
theorem dX0_areTwins_62 : decode cX0_areTwins 62 = .ok (.iaload, 1) := by decide +kernel
theorem dX0_areTwins_63 : decode cX0_areTwins 63 = .ok (.iload_n 2, 1) := by decide +kernel
theorem dX0_areTwins_64 : decode cX0_areTwins 64 = .ok (.ishr, 1) := by decide +kernel
theorem dX0_areTwins_65 : decode cX0_areTwins 65 = .ok (.iconst 1, 1) := by decide +kernel
theorem dX0_areTwins_66 : decode cX0_areTwins 66 = .ok (.iand, 1) := by decide +kernel
theorem dX0_areTwins_67 : decode cX0_areTwins 67 = .ok (.aload_n 1, 1) := by decide +kernel
theorem dX0_areTwins_68 : decode cX0_areTwins 68 = .ok (.getfield 67, 3) := by decide +kernel
theorem dX0_areTwins_71 : decode cX0_areTwins 71 = .ok (.iload 6, 2) := by decide +kernel
theorem dX0_areTwins_73 : decode cX0_areTwins 73 = .ok (.iaload, 1) := by decide +kernel
theorem dX0_areTwins_74 : decode cX0_areTwins 74 = .ok (.iload_n 3, 1) := by decide +kernel
theorem dX0_areTwins_75 : decode cX0_areTwins 75 = .ok (.ishr, 1) := by decide +kernel
theorem dX0_areTwins_76 : decode cX0_areTwins 76 = .ok (.iconst 1, 1) := by decide +kernel
theorem dX0_areTwins_77 : decode cX0_areTwins 77 = .ok (.iand, 1) := by decide +kernel
theorem dX0_areTwins_78 : decode cX0_areTwins 78 = .ok (.if_icmp .ne 7, 3) := by decide +kernel
theorem dX0_areTwins_81 : decode cX0_areTwins 81 = .ok (.iconst 1, 1) := by decide +kernel
theorem dX0_areTwins_82 : decode cX0_areTwins 82 = .ok (.goto 4, 3) := by decide +kernel
theorem dX0_areTwins_85 : decode cX0_areTwins 85 = .ok (.iconst 0, 1) := by decide +kernel
theorem dX0_areTwins_86 : decode cX0_areTwins 86 = .ok (.istore 5, 2) := by decide +kernel
theorem dX0_areTwins_88 : decode cX0_areTwins 88 = .ok (.iinc 6 1, 3) := by decide +kernel
theorem dX0_areTwins_91 : decode cX0_areTwins 91 = .ok (.goto (-49), 3) := by decide +kernel
theorem dX0_areTwins_94 : decode cX0_areTwins 94 = .ok (.iload 5, 2) := by decide +kernel
theorem dX0_areTwins_96 : decode cX0_areTwins 96 = .ok (.ireturn, 1) := by decide +kernel
theorem dX0_beginnerWins_0 : decode cX0_beginnerWins 0 = .ok (.aload_n 0, 1) := by decide +kernel
theorem dX0_beginnerWins_1 : decode cX0_beginnerWins 1 = .ok (.getfield 37, 3) := by decide +kernel
theorem dX0_beginnerWins_4 : decode cX0_beginnerWins 4 = .ok (.iconst 2, 1) := by decide +kernel
theorem dX0_beginnerWins_5 : decode cX0_beginnerWins 5 = .ok (.if_icmp .ge 16, 3) := by decide +kernel
theorem dX0_beginnerWins_8 : decode cX0_beginnerWins 8 = .ok (.aload_n 0, 1) := by decide +kernel
theorem dX0_beginnerWins_9 : decode cX0_beginnerWins 9 = .ok (.getfield 30, 3) := by decide +kernel
theorem dX0_beginnerWins_12 : decode cX0_beginnerWins 12 = .ok (.ifCond .le 7, 3) := by decide +kernel
theorem dX0_beginnerWins_15 : decode cX0_beginnerWins 15 = .ok (.iconst 1, 1) := by decide +kernel
theorem dX0_beginnerWins_16 : decode cX0_beginnerWins 16 = .ok (.goto 4, 3) := by decide +kernel
theorem dX0_beginnerWins_19 : decode cX0_beginnerWins 19 = .ok (.iconst 0, 1) := by decide +kernel
theorem dX0_beginnerWins_20 : decode cX0_beginnerWins 20 = .ok (.ireturn, 1) := by decide +kernel
theorem dX0_beginnerWins_21 : decode cX0_beginnerWins 21 = .ok (.iconst 0, 1) := by decide +kernel
theorem dX0_beginnerWins_22 : decode cX0_beginnerWins 22 = .ok (.istore_n 1, 1) := by decide +kernel
theorem dX0_beginnerWins_23 : decode cX0_beginnerWins 23 = .ok (.iload_n 1, 1) := by decide +kernel
theorem dX0_beginnerWins_24 : decode cX0_beginnerWins 24 = .ok (.aload_n 0, 1) := by decide +kernel
theorem dX0_beginnerWins_25 : decode cX0_beginnerWins 25 = .ok (.getfield 30, 3) := by decide +kernel
theorem dX0_beginnerWins_28 : decode cX0_beginnerWins 28 = .ok (.if_icmp .ge 32, 3) := by decide +kernel
theorem dX0_beginnerWins_31 : decode cX0_beginnerWins 31 = .ok (.aload_n 0, 1) := by decide +kernel
theorem dX0_beginnerWins_32 : decode cX0_beginnerWins 32 = .ok (.aload_n 0, 1) := by decide +kernel
theorem dX0_beginnerWins_33 : decode cX0_beginnerWins 33 = .ok (.getfield 15, 3) := by decide +kernel
theorem dX0_beginnerWins_36 : decode cX0_beginnerWins 36 = .ok (.iload_n 1, 1) := by decide +kernel
theorem dX0_beginnerWins_37 : decode cX0_beginnerWins 37 = .ok (.iaload, 1) := by decide +kernel
theorem dX0_beginnerWins_38 : decode cX0_beginnerWins 38 = .ok (.invokevirtual 118, 3) := by decide +kernel
theorem dX0_beginnerWins_41 : decode cX0_beginnerWins 41 = .ok (.ifCond .eq 13, 3) := by decide +kernel
theorem dX0_beginnerWins_44 : decode cX0_beginnerWins 44 = .ok (.aload_n 0, 1) := by decide +kernel
theorem dX0_beginnerWins_45 : decode cX0_beginnerWins 45 = .ok (.iload_n 1, 1) := by decide +kernel
theorem dX0_beginnerWins_46 : decode cX0_beginnerWins 46 = .ok (.invokevirtual 136, 3) := by decide +kernel
theorem dX0_beginnerWins_49 : decode cX0_beginnerWins 49 = .ok (.ifCond .eq 5, 3) := by decide +kernel
theorem dX0_beginnerWins_52 : decode cX0_beginnerWins 52 = .ok (.iconst 1, 1) := by decide +kernel
theorem dX0_beginnerWins_53 : decode cX0_beginnerWins 53 = .ok (.ireturn, 1) := by decide +kernel
theorem dX0_beginnerWins_54 : decode cX0_beginnerWins 54 = .ok (.iinc 1 1, 3) := by decide +kernel
theorem dX0_beginnerWins_57 : decode cX0_beginnerWins 57 = .ok (.goto (-34), 3) := by decide +kernel
theorem dX0_beginnerWins_60 : decode cX0_beginnerWins 60 = .ok (.iconst 0, 1) := by decide +kernel
theorem dX0_beginnerWins_61 : decode cX0_beginnerWins 61 = .ok (.ireturn, 1) := by decide +kernel
theorem dX0_canLead_0 : decode cX0_canLead 0 = .ok (.aload_n 0, 1) := by decide +kernel
theorem dX0_canLead_1 : decode cX0_canLead 1 = .ok (.iload_n 1, 1) := by decide +kernel
theorem dX0_canLead_2 : decode cX0_canLead 2 = .ok (.iload_n 1, 1) := by decide +kernel
theorem dX0_canLead_3 : decode cX0_canLead 3 = .ok (.iconst 1, 1) := by decide +kernel
theorem dX0_canLead_4 : decode cX0_canLead 4 = .ok (.iadd, 1) := by decide +kernel
theorem dX0_canLead_5 : decode cX0_canLead 5 = .ok (.invokevirtual 126, 3) := by decide +kernel
theorem dX0_canLead_8 : decode cX0_canLead 8 = .ok (.aload_n 0, 1) := by decide +kernel
theorem dX0_canLead_9 : decode cX0_canLead 9 = .ok (.getfield 34, 3) := by decide +kernel
theorem dX0_canLead_12 : decode cX0_canLead 12 = .ok (.ifCond .le 19, 3) := by decide +kernel
theorem dX0_canLead_15 : decode cX0_canLead 15 = .ok (.iload_n 2, 1) := by decide +kernel
theorem dX0_canLead_16 : decode cX0_canLead 16 = .ok (.iconst 2, 1) := by decide +kernel
theorem dX0_canLead_17 : decode cX0_canLead 17 = .ok (.if_icmp .eq 10, 3) := by decide +kernel
theorem dX0_canLead_20 : decode cX0_canLead 20 = .ok (.aload_n 0, 1) := by decide +kernel
theorem dX0_canLead_21 : decode cX0_canLead 21 = .ok (.invokevirtual 129, 3) := by decide +kernel
theorem dX0_canLead_24 : decode cX0_canLead 24 = .ok (.ifCond .eq 7, 3) := by decide +kernel
theorem dX0_canLead_27 : decode cX0_canLead 27 = .ok (.iconst 1, 1) := by decide +kernel
theorem dX0_canLead_28 : decode cX0_canLead 28 = .ok (.goto 4, 3) := by decide +kernel
theorem dX0_canLead_31 : decode cX0_canLead 31 = .ok (.iconst 0, 1) := by decide +kernel
theorem dX0_canLead_32 : decode cX0_canLead 32 = .ok (.ireturn, 1) := by decide +kernel
theorem dX0_close_0 : decode cX0_close 0 = .ok (.iload 4, 2) := by decide +kernel
theorem dX0_close_2 : decode cX0_close 2 = .ok (.bipush 15, 2) := by decide +kernel
theorem dX0_close_4 : decode cX0_close 4 = .ok (.iand, 1) := by decide +kernel
theorem dX0_close_5 : decode cX0_close 5 = .ok (.istore 5, 2) := by decide +kernel
theorem dX0_close_7 : decode cX0_close 7 = .ok (.aload_n 1, 1) := by decide +kernel
theorem dX0_close_8 : decode cX0_close 8 = .ok (.getfield 91, 3) := by decide +kernel
theorem dX0_close_11 : decode cX0_close 11 = .ok (.ifCond .ne 13, 3) := by decide +kernel
theorem dX0_close_14 : decode cX0_close 14 = .ok (.aload_n 0, 1) := by decide +kernel
theorem dX0_close_15 : decode cX0_close 15 = .ok (.iload_n 3, 1) := by decide +kernel
theorem dX0_close_16 : decode cX0_close 16 = .ok (.iload 4, 2) := by decide +kernel
theorem dX0_close_18 : decode cX0_close 18 = .ok (.invokevirtual 63, 3) := by decide +kernel
theorem dX0_close_21 : decode cX0_close 21 = .ok (.goto 45, 3) := by decide +kernel
theorem dX0_close_24 : decode cX0_close 24 = .ok (.iload 5, 2) := by decide +kernel
theorem dX0_close_26 : decode cX0_close 26 = .ok (.bipush 9, 2) := by decide +kernel
theorem dX0_close_28 : decode cX0_close 28 = .ok (.if_icmp .ge 38, 3) := by decide +kernel
theorem dX0_close_31 : decode cX0_close 31 = .ok (.aload_n 1, 1) := by decide +kernel
theorem dX0_close_32 : decode cX0_close 32 = .ok (.getfield 78, 3) := by decide +kernel
theorem dX0_close_35 : decode cX0_close 35 = .ok (.iload_n 2, 1) := by decide +kernel
theorem dX0_close_36 : decode cX0_close 36 = .ok (.iaload, 1) := by decide +kernel
theorem dX0_close_37 : decode cX0_close 37 = .ok (.iload 5, 2) := by decide +kernel
theorem dX0_close_39 : decode cX0_close 39 = .ok (.ishr, 1) := by decide +kernel
theorem dX0_close_40 : decode cX0_close 40 = .ok (.iconst 1, 1) := by decide +kernel
theorem dX0_close_41 : decode cX0_close 41 = .ok (.iand, 1) := by decide +kernel
theorem dX0_close_42 : decode cX0_close 42 = .ok (.iconst 1, 1) := by decide +kernel
theorem dX0_close_43 : decode cX0_close 43 = .ok (.if_icmp .ne 23, 3) := by decide +kernel
theorem dX0_close_46 : decode cX0_close 46 = .ok (.aload_n 0, 1) := by decide +kernel
theorem dX0_close_47 : decode cX0_close 47 = .ok (.iload_n 3, 1) := by decide +kernel
theorem dX0_close_48 : decode cX0_close 48 = .ok (.aload_n 0, 1) := by decide +kernel
theorem dX0_close_49 : decode cX0_close 49 = .ok (.getfield 24, 3) := by decide +kernel
theorem dX0_close_52 : decode cX0_close 52 = .ok (.iload_n 2, 1) := by decide +kernel
theorem dX0_close_53 : decode cX0_close 53 = .ok (.bipush 9, 2) := by decide +kernel
theorem dX0_close_55 : decode cX0_close 55 = .ok (.imul, 1) := by decide +kernel
theorem dX0_close_56 : decode cX0_close 56 = .ok (.iload 5, 2) := by decide +kernel
theorem dX0_close_58 : decode cX0_close 58 = .ok (.iadd, 1) := by decide +kernel
theorem dX0_close_59 : decode cX0_close 59 = .ok (.iaload, 1) := by decide +kernel
theorem dX0_close_60 : decode cX0_close 60 = .ok (.ior, 1) := by decide +kernel
theorem dX0_close_61 : decode cX0_close 61 = .ok (.iload 4, 2) := by decide +kernel
theorem dX0_close_63 : decode cX0_close 63 = .ok (.invokevirtual 63, 3) := by decide +kernel
theorem dX0_close_66 : decode cX0_close 66 = .ok (.return_, 1) := by decide +kernel
theorem dX0_findTwins_0 : decode cX0_findTwins 0 = .ok (.iconst 0, 1) := by decide +kernel
theorem dX0_findTwins_1 : decode cX0_findTwins 1 = .ok (.istore_n 2, 1) := by decide +kernel
theorem dX0_findTwins_2 : decode cX0_findTwins 2 = .ok (.iload_n 2, 1) := by decide +kernel
theorem dX0_findTwins_3 : decode cX0_findTwins 3 = .ok (.bipush 9, 2) := by decide +kernel
theorem dX0_findTwins_5 : decode cX0_findTwins 5 = .ok (.if_icmp .ge 70, 3) := by decide +kernel
theorem dX0_findTwins_8 : decode cX0_findTwins 8 = .ok (.aload_n 0, 1) := by decide +kernel
theorem dX0_findTwins_9 : decode cX0_findTwins 9 = .ok (.getfield 27, 3) := by decide +kernel
theorem dX0_findTwins_12 : decode cX0_findTwins 12 = .ok (.iload_n 2, 1) := by decide +kernel
theorem dX0_findTwins_13 : decode cX0_findTwins 13 = .ok (.iconst 0, 1) := by decide +kernel
theorem dX0_findTwins_14 : decode cX0_findTwins 14 = .ok (.iastore, 1) := by decide +kernel
theorem dX0_findTwins_15 : decode cX0_findTwins 15 = .ok (.iconst 0, 1) := by decide +kernel
theorem dX0_findTwins_16 : decode cX0_findTwins 16 = .ok (.istore_n 3, 1) := by decide +kernel
theorem dX0_findTwins_17 : decode cX0_findTwins 17 = .ok (.iload_n 3, 1) := by decide +kernel
theorem dX0_findTwins_18 : decode cX0_findTwins 18 = .ok (.iload_n 2, 1) := by decide +kernel
theorem dX0_findTwins_19 : decode cX0_findTwins 19 = .ok (.if_icmp .ge 50, 3) := by decide +kernel
theorem dX0_findTwins_22 : decode cX0_findTwins 22 = .ok (.aload_n 1, 1) := by decide +kernel
theorem dX0_findTwins_23 : decode cX0_findTwins 23 = .ok (.getfield 52, 3) := by decide +kernel
theorem dX0_findTwins_26 : decode cX0_findTwins 26 = .ok (.iload_n 2, 1) := by decide +kernel
theorem dX0_findTwins_27 : decode cX0_findTwins 27 = .ok (.ishr, 1) := by decide +kernel
theorem dX0_findTwins_28 : decode cX0_findTwins 28 = .ok (.aload_n 1, 1) := by decide +kernel
theorem dX0_findTwins_29 : decode cX0_findTwins 29 = .ok (.getfield 52, 3) := by decide +kernel
theorem dX0_findTwins_32 : decode cX0_findTwins 32 = .ok (.iload_n 3, 1) := by decide +kernel
theorem dX0_findTwins_33 : decode cX0_findTwins 33 = .ok (.ishr, 1) := by decide +kernel
theorem dX0_findTwins_34 : decode cX0_findTwins 34 = .ok (.iand, 1) := by decide +kernel
theorem dX0_findTwins_35 : decode cX0_findTwins 35 = .ok (.iconst 1, 1) := by decide +kernel
theorem dX0_findTwins_36 : decode cX0_findTwins 36 = .ok (.iand, 1) := by decide +kernel
theorem dX0_findTwins_37 : decode cX0_findTwins 37 = .ok (.iconst 1, 1) := by decide +kernel
theorem dX0_findTwins_38 : decode cX0_findTwins 38 = .ok (.if_icmp .ne 25, 3) := by decide +kernel
theorem dX0_findTwins_41 : decode cX0_findTwins 41 = .ok (.aload_n 0, 1) := by decide +kernel
theorem dX0_findTwins_42 : decode cX0_findTwins 42 = .ok (.aload_n 1, 1) := by decide +kernel
theorem dX0_findTwins_43 : decode cX0_findTwins 43 = .ok (.iload_n 2, 1) := by decide +kernel
theorem dX0_findTwins_44 : decode cX0_findTwins 44 = .ok (.iload_n 3, 1) := by decide +kernel
theorem dX0_findTwins_45 : decode cX0_findTwins 45 = .ok (.invokevirtual 74, 3) := by decide +kernel
theorem dX0_findTwins_48 : decode cX0_findTwins 48 = .ok (.ifCond .eq 15, 3) := by decide +kernel
theorem dX0_findTwins_51 : decode cX0_findTwins 51 = .ok (.aload_n 0, 1) := by decide +kernel
theorem dX0_findTwins_52 : decode cX0_findTwins 52 = .ok (.getfield 27, 3) := by decide +kernel
theorem dX0_findTwins_55 : decode cX0_findTwins 55 = .ok (.iload_n 2, 1) := by decide +kernel
theorem dX0_findTwins_56 : decode cX0_findTwins 56 = .ok (.dup2, 1) := by decide +kernel
theorem dX0_findTwins_57 : decode cX0_findTwins 57 = .ok (.iaload, 1) := by decide +kernel
theorem dX0_findTwins_58 : decode cX0_findTwins 58 = .ok (.iconst 1, 1) := by decide +kernel
theorem dX0_findTwins_59 : decode cX0_findTwins 59 = .ok (.iload_n 3, 1) := by decide +kernel
theorem dX0_findTwins_60 : decode cX0_findTwins 60 = .ok (.ishl, 1) := by decide +kernel
theorem dX0_findTwins_61 : decode cX0_findTwins 61 = .ok (.ior, 1) := by decide +kernel
theorem dX0_findTwins_62 : decode cX0_findTwins 62 = .ok (.iastore, 1) := by decide +kernel
theorem dX0_findTwins_63 : decode cX0_findTwins 63 = .ok (.iinc 3 1, 3) := by decide +kernel
theorem dX0_findTwins_66 : decode cX0_findTwins 66 = .ok (.goto (-49), 3) := by decide +kernel
theorem dX0_findTwins_69 : decode cX0_findTwins 69 = .ok (.iinc 2 1, 3) := by decide +kernel
theorem dX0_findTwins_72 : decode cX0_findTwins 72 = .ok (.goto (-70), 3) := by decide +kernel
theorem dX0_findTwins_75 : decode cX0_findTwins 75 = .ok (.return_, 1) := by decide +kernel
theorem dX0_gather_0 : decode cX0_gather 0 = .ok (.aload_n 0, 1) := by decide +kernel
theorem dX0_gather_1 : decode cX0_gather 1 = .ok (.getfield 21, 3) := by decide +kernel
theorem dX0_gather_4 : decode cX0_gather 4 = .ok (.iconst 0, 1) := by decide +kernel
theorem dX0_gather_5 : decode cX0_gather 5 = .ok (.invokestatic 43, 3) := by decide +kernel
theorem dX0_gather_8 : decode cX0_gather 8 = .ok (.aload_n 0, 1) := by decide +kernel
theorem dX0_gather_9 : decode cX0_gather 9 = .ok (.iconst 0, 1) := by decide +kernel
theorem dX0_gather_10 : decode cX0_gather 10 = .ok (.putfield 30, 3) := by decide +kernel
theorem dX0_gather_13 : decode cX0_gather 13 = .ok (.aload_n 0, 1) := by decide +kernel
theorem dX0_gather_14 : decode cX0_gather 14 = .ok (.iconst 0, 1) := by decide +kernel
theorem dX0_gather_15 : decode cX0_gather 15 = .ok (.putfield 40, 3) := by decide +kernel
theorem dX0_gather_18 : decode cX0_gather 18 = .ok (.aload_n 0, 1) := by decide +kernel
theorem dX0_gather_19 : decode cX0_gather 19 = .ok (.aload_n 1, 1) := by decide +kernel
theorem dX0_gather_20 : decode cX0_gather 20 = .ok (.getfield 49, 3) := by decide +kernel
theorem dX0_gather_23 : decode cX0_gather 23 = .ok (.putfield 37, 3) := by decide +kernel
theorem dX0_gather_26 : decode cX0_gather 26 = .ok (.aload_n 0, 1) := by decide +kernel
theorem dX0_gather_27 : decode cX0_gather 27 = .ok (.aload_n 1, 1) := by decide +kernel
theorem dX0_gather_28 : decode cX0_gather 28 = .ok (.getfield 52, 3) := by decide +kernel
theorem dX0_gather_31 : decode cX0_gather 31 = .ok (.invokevirtual 55, 3) := by decide +kernel
theorem dX0_gather_34 : decode cX0_gather 34 = .ok (.aload_n 0, 1) := by decide +kernel
theorem dX0_gather_35 : decode cX0_gather 35 = .ok (.aload_n 1, 1) := by decide +kernel
theorem dX0_gather_36 : decode cX0_gather 36 = .ok (.invokevirtual 59, 3) := by decide +kernel
theorem dX0_gather_39 : decode cX0_gather 39 = .ok (.aload_n 0, 1) := by decide +kernel
theorem dX0_gather_40 : decode cX0_gather 40 = .ok (.getfield 37, 3) := by decide +kernel
theorem dX0_gather_43 : decode cX0_gather 43 = .ok (.ifCond .ne 9, 3) := by decide +kernel
theorem dX0_gather_46 : decode cX0_gather 46 = .ok (.aload_n 0, 1) := by decide +kernel
theorem dX0_gather_47 : decode cX0_gather 47 = .ok (.iconst 0, 1) := by decide +kernel
theorem dX0_gather_48 : decode cX0_gather 48 = .ok (.iconst 0, 1) := by decide +kernel
theorem dX0_gather_49 : decode cX0_gather 49 = .ok (.invokevirtual 63, 3) := by decide +kernel
theorem dX0_gather_52 : decode cX0_gather 52 = .ok (.iconst 0, 1) := by decide +kernel
theorem dX0_gather_53 : decode cX0_gather 53 = .ok (.istore_n 2, 1) := by decide +kernel
theorem dX0_gather_54 : decode cX0_gather 54 = .ok (.iload_n 2, 1) := by decide +kernel
theorem dX0_gather_55 : decode cX0_gather 55 = .ok (.bipush 9, 2) := by decide +kernel
theorem dX0_gather_57 : decode cX0_gather 57 = .ok (.if_icmp .ge 50, 3) := by decide +kernel
theorem dX0_gather_60 : decode cX0_gather 60 = .ok (.aload_n 0, 1) := by decide +kernel
theorem dX0_gather_61 : decode cX0_gather 61 = .ok (.getfield 37, 3) := by decide +kernel
theorem dX0_gather_64 : decode cX0_gather 64 = .ok (.ifCond .le 43, 3) := by decide +kernel
theorem dX0_gather_67 : decode cX0_gather 67 = .ok (.aload_n 0, 1) := by decide +kernel
theorem dX0_gather_68 : decode cX0_gather 68 = .ok (.getfield 37, 3) := by decide +kernel
theorem dX0_gather_71 : decode cX0_gather 71 = .ok (.bipush 7, 2) := by decide +kernel
theorem dX0_gather_73 : decode cX0_gather 73 = .ok (.if_icmp .gt 34, 3) := by decide +kernel
theorem dX0_gather_76 : decode cX0_gather 76 = .ok (.aload_n 1, 1) := by decide +kernel
theorem dX0_gather_77 : decode cX0_gather 77 = .ok (.getfield 67, 3) := by decide +kernel
theorem dX0_gather_80 : decode cX0_gather 80 = .ok (.iconst 0, 1) := by decide +kernel
theorem dX0_gather_81 : decode cX0_gather 81 = .ok (.iaload, 1) := by decide +kernel
theorem dX0_gather_82 : decode cX0_gather 82 = .ok (.iload_n 2, 1) := by decide +kernel
theorem dX0_gather_83 : decode cX0_gather 83 = .ok (.ishr, 1) := by decide +kernel
theorem dX0_gather_84 : decode cX0_gather 84 = .ok (.iconst 1, 1) := by decide +kernel
theorem dX0_gather_85 : decode cX0_gather 85 = .ok (.iand, 1) := by decide +kernel
theorem dX0_gather_86 : decode cX0_gather 86 = .ok (.iconst 1, 1) := by decide +kernel
theorem dX0_gather_87 : decode cX0_gather 87 = .ok (.if_icmp .ne 14, 3) := by decide +kernel
theorem dX0_gather_90 : decode cX0_gather 90 = .ok (.aload_n 0, 1) := by decide +kernel
theorem dX0_gather_91 : decode cX0_gather 91 = .ok (.aload_n 1, 1) := by decide +kernel
theorem dX0_gather_92 : decode cX0_gather 92 = .ok (.iconst 1, 1) := by decide +kernel
theorem dX0_gather_93 : decode cX0_gather 93 = .ok (.iload_n 2, 1) := by decide +kernel
theorem dX0_gather_94 : decode cX0_gather 94 = .ok (.ishl, 1) := by decide +kernel
theorem dX0_gather_95 : decode cX0_gather 95 = .ok (.iload_n 2, 1) := by decide +kernel
theorem dX0_gather_96 : decode cX0_gather 96 = .ok (.iconst 0, 1) := by decide +kernel
theorem dX0_gather_97 : decode cX0_gather 97 = .ok (.iload_n 2, 1) := by decide +kernel
theorem dX0_gather_98 : decode cX0_gather 98 = .ok (.invokevirtual 70, 3) := by decide +kernel
theorem dX0_gather_101 : decode cX0_gather 101 = .ok (.iinc 2 1, 3) := by decide +kernel
theorem dX0_gather_104 : decode cX0_gather 104 = .ok (.goto (-50), 3) := by decide +kernel
theorem dX0_gather_107 : decode cX0_gather 107 = .ok (.return_, 1) := by decide +kernel
theorem dX0_hasApart_0 : decode cX0_hasApart 0 = .ok (.iload_n 2, 1) := by decide +kernel
theorem dX0_hasApart_1 : decode cX0_hasApart 1 = .ok (.istore_n 3, 1) := by decide +kernel
theorem dX0_hasApart_2 : decode cX0_hasApart 2 = .ok (.iload_n 3, 1) := by decide +kernel
theorem dX0_hasApart_3 : decode cX0_hasApart 3 = .ok (.aload_n 0, 1) := by decide +kernel
theorem dX0_hasApart_4 : decode cX0_hasApart 4 = .ok (.getfield 34, 3) := by decide +kernel
theorem dX0_hasApart_7 : decode cX0_hasApart 7 = .ok (.if_icmp .ge 22, 3) := by decide +kernel
theorem dX0_hasApart_10 : decode cX0_hasApart 10 = .ok (.aload_n 0, 1) := by decide +kernel
theorem dX0_hasApart_11 : decode cX0_hasApart 11 = .ok (.getfield 18, 3) := by decide +kernel
theorem dX0_hasApart_14 : decode cX0_hasApart 14 = .ok (.iload_n 3, 1) := by decide +kernel
theorem dX0_hasApart_15 : decode cX0_hasApart 15 = .ok (.iaload, 1) := by decide +kernel
theorem dX0_hasApart_16 : decode cX0_hasApart 16 = .ok (.iload_n 1, 1) := by decide +kernel
theorem dX0_hasApart_17 : decode cX0_hasApart 17 = .ok (.iand, 1) := by decide +kernel
theorem dX0_hasApart_18 : decode cX0_hasApart 18 = .ok (.ifCond .ne 5, 3) := by decide +kernel
theorem dX0_hasApart_21 : decode cX0_hasApart 21 = .ok (.iconst 1, 1) := by decide +kernel
theorem dX0_hasApart_22 : decode cX0_hasApart 22 = .ok (.ireturn, 1) := by decide +kernel
theorem dX0_hasApart_23 : decode cX0_hasApart 23 = .ok (.iinc 3 1, 3) := by decide +kernel
theorem dX0_hasApart_26 : decode cX0_hasApart 26 = .ok (.goto (-24), 3) := by decide +kernel
theorem dX0_hasApart_29 : decode cX0_hasApart 29 = .ok (.iconst 0, 1) := by decide +kernel
theorem dX0_hasApart_30 : decode cX0_hasApart 30 = .ok (.ireturn, 1) := by decide +kernel
theorem dX0_hasPairApart_0 : decode cX0_hasPairApart 0 = .ok (.iconst 0, 1) := by decide +kernel
theorem dX0_hasPairApart_1 : decode cX0_hasPairApart 1 = .ok (.istore_n 1, 1) := by decide +kernel
theorem dX0_hasPairApart_2 : decode cX0_hasPairApart 2 = .ok (.iload_n 1, 1) := by decide +kernel
theorem dX0_hasPairApart_3 : decode cX0_hasPairApart 3 = .ok (.aload_n 0, 1) := by decide +kernel
theorem dX0_hasPairApart_4 : decode cX0_hasPairApart 4 = .ok (.getfield 34, 3) := by decide +kernel
theorem dX0_hasPairApart_7 : decode cX0_hasPairApart 7 = .ok (.if_icmp .ge 27, 3) := by decide +kernel
theorem dX0_hasPairApart_10 : decode cX0_hasPairApart 10 = .ok (.aload_n 0, 1) := by decide +kernel
theorem dX0_hasPairApart_11 : decode cX0_hasPairApart 11 = .ok (.aload_n 0, 1) := by decide +kernel
theorem dX0_hasPairApart_12 : decode cX0_hasPairApart 12 = .ok (.getfield 18, 3) := by decide +kernel
theorem dX0_hasPairApart_15 : decode cX0_hasPairApart 15 = .ok (.iload_n 1, 1) := by decide +kernel
theorem dX0_hasPairApart_16 : decode cX0_hasPairApart 16 = .ok (.iaload, 1) := by decide +kernel
theorem dX0_hasPairApart_17 : decode cX0_hasPairApart 17 = .ok (.iload_n 1, 1) := by decide +kernel
theorem dX0_hasPairApart_18 : decode cX0_hasPairApart 18 = .ok (.iconst 1, 1) := by decide +kernel
theorem dX0_hasPairApart_19 : decode cX0_hasPairApart 19 = .ok (.iadd, 1) := by decide +kernel
theorem dX0_hasPairApart_20 : decode cX0_hasPairApart 20 = .ok (.invokevirtual 133, 3) := by decide +kernel
theorem dX0_hasPairApart_23 : decode cX0_hasPairApart 23 = .ok (.ifCond .eq 5, 3) := by decide +kernel
theorem dX0_hasPairApart_26 : decode cX0_hasPairApart 26 = .ok (.iconst 1, 1) := by decide +kernel
theorem dX0_hasPairApart_27 : decode cX0_hasPairApart 27 = .ok (.ireturn, 1) := by decide +kernel
theorem dX0_hasPairApart_28 : decode cX0_hasPairApart 28 = .ok (.iinc 1 1, 3) := by decide +kernel
theorem dX0_hasPairApart_31 : decode cX0_hasPairApart 31 = .ok (.goto (-29), 3) := by decide +kernel
theorem dX0_hasPairApart_34 : decode cX0_hasPairApart 34 = .ok (.iconst 0, 1) := by decide +kernel
theorem dX0_hasPairApart_35 : decode cX0_hasPairApart 35 = .ok (.ireturn, 1) := by decide +kernel
theorem dX0_keepApart_0 : decode cX0_keepApart 0 = .ok (.aload_n 0, 1) := by decide +kernel
theorem dX0_keepApart_1 : decode cX0_keepApart 1 = .ok (.getfield 11, 3) := by decide +kernel
theorem dX0_keepApart_4 : decode cX0_keepApart 4 = .ok (.iload_n 1, 1) := by decide +kernel
theorem dX0_keepApart_5 : decode cX0_keepApart 5 = .ok (.iaload, 1) := by decide +kernel
theorem dX0_keepApart_6 : decode cX0_keepApart 6 = .ok (.istore_n 3, 1) := by decide +kernel
theorem dX0_keepApart_7 : decode cX0_keepApart 7 = .ok (.aload_n 0, 1) := by decide +kernel
theorem dX0_keepApart_8 : decode cX0_keepApart 8 = .ok (.iconst 0, 1) := by decide +kernel
theorem dX0_keepApart_9 : decode cX0_keepApart 9 = .ok (.putfield 34, 3) := by decide +kernel
theorem dX0_keepApart_12 : decode cX0_keepApart 12 = .ok (.iload_n 2, 1) := by decide +kernel
theorem dX0_keepApart_13 : decode cX0_keepApart 13 = .ok (.istore 4, 2) := by decide +kernel
theorem dX0_keepApart_15 : decode cX0_keepApart 15 = .ok (.iload 4, 2) := by decide +kernel
theorem dX0_keepApart_17 : decode cX0_keepApart 17 = .ok (.aload_n 0, 1) := by decide +kernel
theorem dX0_keepApart_18 : decode cX0_keepApart 18 = .ok (.getfield 30, 3) := by decide +kernel
theorem dX0_keepApart_21 : decode cX0_keepApart 21 = .ok (.if_icmp .ge 47, 3) := by decide +kernel
theorem dX0_keepApart_24 : decode cX0_keepApart 24 = .ok (.aload_n 0, 1) := by decide +kernel
theorem dX0_keepApart_25 : decode cX0_keepApart 25 = .ok (.getfield 11, 3) := by decide +kernel
theorem dX0_keepApart_28 : decode cX0_keepApart 28 = .ok (.iload 4, 2) := by decide +kernel
theorem dX0_keepApart_30 : decode cX0_keepApart 30 = .ok (.iaload, 1) := by decide +kernel
theorem dX0_keepApart_31 : decode cX0_keepApart 31 = .ok (.iload_n 3, 1) := by decide +kernel
theorem dX0_keepApart_32 : decode cX0_keepApart 32 = .ok (.iand, 1) := by decide +kernel
theorem dX0_keepApart_33 : decode cX0_keepApart 33 = .ok (.ifCond .ne 29, 3) := by decide +kernel
theorem dX0_keepApart_36 : decode cX0_keepApart 36 = .ok (.aload_n 0, 1) := by decide +kernel
theorem dX0_keepApart_37 : decode cX0_keepApart 37 = .ok (.getfield 18, 3) := by decide +kernel
theorem dX0_keepApart_40 : decode cX0_keepApart 40 = .ok (.aload_n 0, 1) := by decide +kernel
theorem dX0_keepApart_41 : decode cX0_keepApart 41 = .ok (.getfield 34, 3) := by decide +kernel
theorem dX0_keepApart_44 : decode cX0_keepApart 44 = .ok (.aload_n 0, 1) := by decide +kernel
theorem dX0_keepApart_45 : decode cX0_keepApart 45 = .ok (.getfield 11, 3) := by decide +kernel
theorem dX0_keepApart_48 : decode cX0_keepApart 48 = .ok (.iload 4, 2) := by decide +kernel
theorem dX0_keepApart_50 : decode cX0_keepApart 50 = .ok (.iaload, 1) := by decide +kernel
theorem dX0_keepApart_51 : decode cX0_keepApart 51 = .ok (.iastore, 1) := by decide +kernel
theorem dX0_keepApart_52 : decode cX0_keepApart 52 = .ok (.aload_n 0, 1) := by decide +kernel
theorem dX0_keepApart_53 : decode cX0_keepApart 53 = .ok (.dup, 1) := by decide +kernel
theorem dX0_keepApart_54 : decode cX0_keepApart 54 = .ok (.getfield 34, 3) := by decide +kernel
theorem dX0_keepApart_57 : decode cX0_keepApart 57 = .ok (.iconst 1, 1) := by decide +kernel
theorem dX0_keepApart_58 : decode cX0_keepApart 58 = .ok (.iadd, 1) := by decide +kernel
theorem dX0_keepApart_59 : decode cX0_keepApart 59 = .ok (.putfield 34, 3) := by decide +kernel
theorem dX0_keepApart_62 : decode cX0_keepApart 62 = .ok (.iinc 4 1, 3) := by decide +kernel
theorem dX0_keepApart_65 : decode cX0_keepApart 65 = .ok (.goto (-50), 3) := by decide +kernel
theorem dX0_keepApart_68 : decode cX0_keepApart 68 = .ok (.return_, 1) := by decide +kernel
theorem dX0_leaderOf_0 : decode cX0_leaderOf 0 = .ok (.iconst 0, 1) := by decide +kernel
theorem dX0_leaderOf_1 : decode cX0_leaderOf 1 = .ok (.istore_n 2, 1) := by decide +kernel
theorem dX0_leaderOf_2 : decode cX0_leaderOf 2 = .ok (.iload_n 2, 1) := by decide +kernel
theorem dX0_leaderOf_3 : decode cX0_leaderOf 3 = .ok (.aload_n 0, 1) := by decide +kernel
theorem dX0_leaderOf_4 : decode cX0_leaderOf 4 = .ok (.getfield 30, 3) := by decide +kernel
theorem dX0_leaderOf_7 : decode cX0_leaderOf 7 = .ok (.if_icmp .ge 33, 3) := by decide +kernel
theorem dX0_leaderOf_10 : decode cX0_leaderOf 10 = .ok (.aload_n 0, 1) := by decide +kernel
theorem dX0_leaderOf_11 : decode cX0_leaderOf 11 = .ok (.aload_n 0, 1) := by decide +kernel
theorem dX0_leaderOf_12 : decode cX0_leaderOf 12 = .ok (.getfield 15, 3) := by decide +kernel
theorem dX0_leaderOf_15 : decode cX0_leaderOf 15 = .ok (.iload_n 2, 1) := by decide +kernel
theorem dX0_leaderOf_16 : decode cX0_leaderOf 16 = .ok (.iaload, 1) := by decide +kernel
theorem dX0_leaderOf_17 : decode cX0_leaderOf 17 = .ok (.invokevirtual 118, 3) := by decide +kernel
theorem dX0_leaderOf_20 : decode cX0_leaderOf 20 = .ok (.ifCond .eq 14, 3) := by decide +kernel
theorem dX0_leaderOf_23 : decode cX0_leaderOf 23 = .ok (.aload_n 0, 1) := by decide +kernel
theorem dX0_leaderOf_24 : decode cX0_leaderOf 24 = .ok (.iload_n 2, 1) := by decide +kernel
theorem dX0_leaderOf_25 : decode cX0_leaderOf 25 = .ok (.iload_n 1, 1) := by decide +kernel
theorem dX0_leaderOf_26 : decode cX0_leaderOf 26 = .ok (.invokevirtual 122, 3) := by decide +kernel
theorem dX0_leaderOf_29 : decode cX0_leaderOf 29 = .ok (.ifCond .eq 5, 3) := by decide +kernel
theorem dX0_leaderOf_32 : decode cX0_leaderOf 32 = .ok (.iload_n 2, 1) := by decide +kernel
theorem dX0_leaderOf_33 : decode cX0_leaderOf 33 = .ok (.ireturn, 1) := by decide +kernel
theorem dX0_leaderOf_34 : decode cX0_leaderOf 34 = .ok (.iinc 2 1, 3) := by decide +kernel
theorem dX0_leaderOf_37 : decode cX0_leaderOf 37 = .ok (.goto (-35), 3) := by decide +kernel
theorem dX0_leaderOf_40 : decode cX0_leaderOf 40 = .ok (.iconst (-1), 1) := by decide +kernel
theorem dX0_leaderOf_41 : decode cX0_leaderOf 41 = .ok (.ireturn, 1) := by decide +kernel
theorem dX0_mayLead_0 : decode cX0_mayLead 0 = .ok (.iconst 0, 1) := by decide +kernel
theorem dX0_mayLead_1 : decode cX0_mayLead 1 = .ok (.istore_n 2, 1) := by decide +kernel
theorem dX0_mayLead_2 : decode cX0_mayLead 2 = .ok (.iconst 0, 1) := by decide +kernel
theorem dX0_mayLead_3 : decode cX0_mayLead 3 = .ok (.istore_n 3, 1) := by decide +kernel
theorem dX0_mayLead_4 : decode cX0_mayLead 4 = .ok (.iload_n 3, 1) := by decide +kernel
theorem dX0_mayLead_5 : decode cX0_mayLead 5 = .ok (.aload_n 0, 1) := by decide +kernel
theorem dX0_mayLead_6 : decode cX0_mayLead 6 = .ok (.getfield 37, 3) := by decide +kernel
theorem dX0_mayLead_9 : decode cX0_mayLead 9 = .ok (.if_icmp .ge 49, 3) := by decide +kernel
theorem dX0_mayLead_12 : decode cX0_mayLead 12 = .ok (.iload_n 1, 1) := by decide +kernel
theorem dX0_mayLead_13 : decode cX0_mayLead 13 = .ok (.iconst 4, 1) := by decide +kernel
theorem dX0_mayLead_14 : decode cX0_mayLead 14 = .ok (.iload_n 3, 1) := by decide +kernel
theorem dX0_mayLead_15 : decode cX0_mayLead 15 = .ok (.imul, 1) := by decide +kernel
theorem dX0_mayLead_16 : decode cX0_mayLead 16 = .ok (.iushr, 1) := by decide +kernel
theorem dX0_mayLead_17 : decode cX0_mayLead 17 = .ok (.bipush 15, 2) := by decide +kernel
theorem dX0_mayLead_19 : decode cX0_mayLead 19 = .ok (.iand, 1) := by decide +kernel
theorem dX0_mayLead_20 : decode cX0_mayLead 20 = .ok (.istore 4, 2) := by decide +kernel
theorem dX0_mayLead_22 : decode cX0_mayLead 22 = .ok (.iload 4, 2) := by decide +kernel
theorem dX0_mayLead_24 : decode cX0_mayLead 24 = .ok (.bipush 9, 2) := by decide +kernel
theorem dX0_mayLead_26 : decode cX0_mayLead 26 = .ok (.if_icmp .ge 17, 3) := by decide +kernel
theorem dX0_mayLead_29 : decode cX0_mayLead 29 = .ok (.aload_n 0, 1) := by decide +kernel
theorem dX0_mayLead_30 : decode cX0_mayLead 30 = .ok (.getfield 27, 3) := by decide +kernel
theorem dX0_mayLead_33 : decode cX0_mayLead 33 = .ok (.iload 4, 2) := by decide +kernel
theorem dX0_mayLead_35 : decode cX0_mayLead 35 = .ok (.iaload, 1) := by decide +kernel
theorem dX0_mayLead_36 : decode cX0_mayLead 36 = .ok (.iload_n 2, 1) := by decide +kernel
theorem dX0_mayLead_37 : decode cX0_mayLead 37 = .ok (.iconst (-1), 1) := by decide +kernel
theorem dX0_mayLead_38 : decode cX0_mayLead 38 = .ok (.ixor, 1) := by decide +kernel
theorem dX0_mayLead_39 : decode cX0_mayLead 39 = .ok (.iand, 1) := by decide +kernel
theorem dX0_mayLead_40 : decode cX0_mayLead 40 = .ok (.ifCond .eq 5, 3) := by decide +kernel
theorem dX0_mayLead_43 : decode cX0_mayLead 43 = .ok (.iconst 0, 1) := by decide +kernel
theorem dX0_mayLead_44 : decode cX0_mayLead 44 = .ok (.ireturn, 1) := by decide +kernel
theorem dX0_mayLead_45 : decode cX0_mayLead 45 = .ok (.iload_n 2, 1) := by decide +kernel
theorem dX0_mayLead_46 : decode cX0_mayLead 46 = .ok (.iconst 1, 1) := by decide +kernel
theorem dX0_mayLead_47 : decode cX0_mayLead 47 = .ok (.iload 4, 2) := by decide +kernel
theorem dX0_mayLead_49 : decode cX0_mayLead 49 = .ok (.ishl, 1) := by decide +kernel
theorem dX0_mayLead_50 : decode cX0_mayLead 50 = .ok (.ior, 1) := by decide +kernel
theorem dX0_mayLead_51 : decode cX0_mayLead 51 = .ok (.istore_n 2, 1) := by decide +kernel
theorem dX0_mayLead_52 : decode cX0_mayLead 52 = .ok (.iinc 3 1, 3) := by decide +kernel
theorem dX0_mayLead_55 : decode cX0_mayLead 55 = .ok (.goto (-51), 3) := by decide +kernel
theorem dX0_mayLead_58 : decode cX0_mayLead 58 = .ok (.iconst 1, 1) := by decide +kernel
theorem dX0_mayLead_59 : decode cX0_mayLead 59 = .ok (.ireturn, 1) := by decide +kernel
theorem dX0_most_0 : decode cX0_most 0 = .ok (.aload_n 1, 1) := by decide +kernel
theorem dX0_most_1 : decode cX0_most 1 = .ok (.iconst (-1), 1) := by decide +kernel
theorem dX0_most_2 : decode cX0_most 2 = .ok (.putfield 96, 3) := by decide +kernel
theorem dX0_most_5 : decode cX0_most 5 = .ok (.aload_n 0, 1) := by decide +kernel
theorem dX0_most_6 : decode cX0_most 6 = .ok (.getfield 30, 3) := by decide +kernel
theorem dX0_most_9 : decode cX0_most 9 = .ok (.ifCond .ne 5, 3) := by decide +kernel
theorem dX0_most_12 : decode cX0_most 12 = .ok (.iconst 0, 1) := by decide +kernel
theorem dX0_most_13 : decode cX0_most 13 = .ok (.ireturn, 1) := by decide +kernel
theorem dX0_most_14 : decode cX0_most 14 = .ok (.iconst 1, 1) := by decide +kernel
theorem dX0_most_15 : decode cX0_most 15 = .ok (.aload_n 0, 1) := by decide +kernel
theorem dX0_most_16 : decode cX0_most 16 = .ok (.getfield 11, 3) := by decide +kernel
theorem dX0_most_19 : decode cX0_most 19 = .ok (.iconst 0, 1) := by decide +kernel
theorem dX0_most_20 : decode cX0_most 20 = .ok (.iaload, 1) := by decide +kernel
theorem dX0_most_21 : decode cX0_most 21 = .ok (.invokestatic 81, 3) := by decide +kernel
theorem dX0_most_24 : decode cX0_most 24 = .ok (.invokestatic 99, 3) := by decide +kernel
theorem dX0_most_27 : decode cX0_most 27 = .ok (.istore_n 2, 1) := by decide +kernel
theorem dX0_most_28 : decode cX0_most 28 = .ok (.iconst 3, 1) := by decide +kernel
theorem dX0_most_29 : decode cX0_most 29 = .ok (.aload_n 0, 1) := by decide +kernel
theorem dX0_most_30 : decode cX0_most 30 = .ok (.getfield 40, 3) := by decide +kernel
theorem dX0_most_33 : decode cX0_most 33 = .ok (.invokestatic 81, 3) := by decide +kernel
theorem dX0_most_36 : decode cX0_most 36 = .ok (.iload_n 2, 1) := by decide +kernel
theorem dX0_most_37 : decode cX0_most 37 = .ok (.idiv, 1) := by decide +kernel
theorem dX0_most_38 : decode cX0_most 38 = .ok (.invokestatic 105, 3) := by decide +kernel
theorem dX0_most_41 : decode cX0_most 41 = .ok (.istore_n 3, 1) := by decide +kernel
theorem dX0_most_42 : decode cX0_most 42 = .ok (.iload_n 3, 1) := by decide +kernel
theorem dX0_most_43 : decode cX0_most 43 = .ok (.istore 4, 2) := by decide +kernel
theorem dX0_most_45 : decode cX0_most 45 = .ok (.iload 4, 2) := by decide +kernel
theorem dX0_most_47 : decode cX0_most 47 = .ok (.iconst 1, 1) := by decide +kernel
theorem dX0_most_48 : decode cX0_most 48 = .ok (.if_icmp .le 38, 3) := by decide +kernel
theorem dX0_most_51 : decode cX0_most 51 = .ok (.aload_n 0, 1) := by decide +kernel
theorem dX0_most_52 : decode cX0_most 52 = .ok (.iload 4, 2) := by decide +kernel
theorem dX0_most_54 : decode cX0_most 54 = .ok (.invokevirtual 108, 3) := by decide +kernel
theorem dX0_most_57 : decode cX0_most 57 = .ok (.istore 5, 2) := by decide +kernel
theorem dX0_most_59 : decode cX0_most 59 = .ok (.iload 5, 2) := by decide +kernel
theorem dX0_most_61 : decode cX0_most 61 = .ok (.iconst (-1), 1) := by decide +kernel
theorem dX0_most_62 : decode cX0_most 62 = .ok (.if_icmp .eq 18, 3) := by decide +kernel
theorem dX0_most_65 : decode cX0_most 65 = .ok (.aload_n 0, 1) := by decide +kernel
theorem dX0_most_66 : decode cX0_most 66 = .ok (.aload_n 0, 1) := by decide +kernel
theorem dX0_most_67 : decode cX0_most 67 = .ok (.getfield 15, 3) := by decide +kernel
theorem dX0_most_70 : decode cX0_most 70 = .ok (.iload 5, 2) := by decide +kernel
theorem dX0_most_72 : decode cX0_most 72 = .ok (.iaload, 1) := by decide +kernel
theorem dX0_most_73 : decode cX0_most 73 = .ok (.aload_n 1, 1) := by decide +kernel
theorem dX0_most_74 : decode cX0_most 74 = .ok (.invokevirtual 111, 3) := by decide +kernel
theorem dX0_most_77 : decode cX0_most 77 = .ok (.iload 4, 2) := by decide +kernel
theorem dX0_most_79 : decode cX0_most 79 = .ok (.ireturn, 1) := by decide +kernel
theorem dX0_most_80 : decode cX0_most 80 = .ok (.iinc 4 (-1), 3) := by decide +kernel
theorem dX0_most_83 : decode cX0_most 83 = .ok (.goto (-38), 3) := by decide +kernel
theorem dX0_most_86 : decode cX0_most 86 = .ok (.aload_n 0, 1) := by decide +kernel
theorem dX0_most_87 : decode cX0_most 87 = .ok (.aload_n 0, 1) := by decide +kernel
theorem dX0_most_88 : decode cX0_most 88 = .ok (.getfield 15, 3) := by decide +kernel
theorem dX0_most_91 : decode cX0_most 91 = .ok (.iconst 0, 1) := by decide +kernel
theorem dX0_most_92 : decode cX0_most 92 = .ok (.iaload, 1) := by decide +kernel
theorem dX0_most_93 : decode cX0_most 93 = .ok (.aload_n 1, 1) := by decide +kernel
theorem dX0_most_94 : decode cX0_most 94 = .ok (.invokevirtual 111, 3) := by decide +kernel
theorem dX0_most_97 : decode cX0_most 97 = .ok (.iconst 1, 1) := by decide +kernel
theorem dX0_most_98 : decode cX0_most 98 = .ok (.ireturn, 1) := by decide +kernel
theorem dX0_numberPairs_0 : decode cX0_numberPairs 0 = .ok (.iconst 0, 1) := by decide +kernel
theorem dX0_numberPairs_1 : decode cX0_numberPairs 1 = .ok (.istore_n 2, 1) := by decide +kernel
theorem dX0_numberPairs_2 : decode cX0_numberPairs 2 = .ok (.iconst 0, 1) := by decide +kernel
theorem dX0_numberPairs_3 : decode cX0_numberPairs 3 = .ok (.istore_n 3, 1) := by decide +kernel
theorem dX0_numberPairs_4 : decode cX0_numberPairs 4 = .ok (.iload_n 3, 1) := by decide +kernel
theorem dX0_numberPairs_5 : decode cX0_numberPairs 5 = .ok (.bipush 9, 2) := by decide +kernel
theorem dX0_numberPairs_7 : decode cX0_numberPairs 7 = .ok (.if_icmp .ge 71, 3) := by decide +kernel
theorem dX0_numberPairs_10 : decode cX0_numberPairs 10 = .ok (.iconst 0, 1) := by decide +kernel
theorem dX0_numberPairs_11 : decode cX0_numberPairs 11 = .ok (.istore 4, 2) := by decide +kernel
theorem dX0_numberPairs_13 : decode cX0_numberPairs 13 = .ok (.iload 4, 2) := by decide +kernel
theorem dX0_numberPairs_15 : decode cX0_numberPairs 15 = .ok (.iload_n 3, 1) := by decide +kernel
theorem dX0_numberPairs_16 : decode cX0_numberPairs 16 = .ok (.if_icmp .ge 56, 3) := by decide +kernel
theorem dX0_numberPairs_19 : decode cX0_numberPairs 19 = .ok (.iload_n 1, 1) := by decide +kernel
theorem dX0_numberPairs_20 : decode cX0_numberPairs 20 = .ok (.iload_n 3, 1) := by decide +kernel
theorem dX0_numberPairs_21 : decode cX0_numberPairs 21 = .ok (.ishr, 1) := by decide +kernel
theorem dX0_numberPairs_22 : decode cX0_numberPairs 22 = .ok (.iload_n 1, 1) := by decide +kernel
theorem dX0_numberPairs_23 : decode cX0_numberPairs 23 = .ok (.iload 4, 2) := by decide +kernel
theorem dX0_numberPairs_25 : decode cX0_numberPairs 25 = .ok (.ishr, 1) := by decide +kernel
theorem dX0_numberPairs_26 : decode cX0_numberPairs 26 = .ok (.iand, 1) := by decide +kernel
theorem dX0_numberPairs_27 : decode cX0_numberPairs 27 = .ok (.iconst 1, 1) := by decide +kernel
theorem dX0_numberPairs_28 : decode cX0_numberPairs 28 = .ok (.iand, 1) := by decide +kernel
theorem dX0_numberPairs_29 : decode cX0_numberPairs 29 = .ok (.iconst 1, 1) := by decide +kernel
theorem dX0_numberPairs_30 : decode cX0_numberPairs 30 = .ok (.if_icmp .ne 36, 3) := by decide +kernel
theorem dX0_numberPairs_33 : decode cX0_numberPairs 33 = .ok (.aload_n 0, 1) := by decide +kernel
theorem dX0_numberPairs_34 : decode cX0_numberPairs 34 = .ok (.getfield 24, 3) := by decide +kernel
theorem dX0_numberPairs_37 : decode cX0_numberPairs 37 = .ok (.iload_n 3, 1) := by decide +kernel
theorem dX0_numberPairs_38 : decode cX0_numberPairs 38 = .ok (.bipush 9, 2) := by decide +kernel
theorem dX0_numberPairs_40 : decode cX0_numberPairs 40 = .ok (.imul, 1) := by decide +kernel
theorem dX0_numberPairs_41 : decode cX0_numberPairs 41 = .ok (.iload 4, 2) := by decide +kernel
theorem dX0_numberPairs_43 : decode cX0_numberPairs 43 = .ok (.iadd, 1) := by decide +kernel
theorem dX0_numberPairs_44 : decode cX0_numberPairs 44 = .ok (.iconst 1, 1) := by decide +kernel
theorem dX0_numberPairs_45 : decode cX0_numberPairs 45 = .ok (.iload_n 2, 1) := by decide +kernel
theorem dX0_numberPairs_46 : decode cX0_numberPairs 46 = .ok (.ishl, 1) := by decide +kernel
theorem dX0_numberPairs_47 : decode cX0_numberPairs 47 = .ok (.iastore, 1) := by decide +kernel
theorem dX0_numberPairs_48 : decode cX0_numberPairs 48 = .ok (.aload_n 0, 1) := by decide +kernel
theorem dX0_numberPairs_49 : decode cX0_numberPairs 49 = .ok (.getfield 24, 3) := by decide +kernel
theorem dX0_numberPairs_52 : decode cX0_numberPairs 52 = .ok (.iload 4, 2) := by decide +kernel
theorem dX0_numberPairs_54 : decode cX0_numberPairs 54 = .ok (.bipush 9, 2) := by decide +kernel
theorem dX0_numberPairs_56 : decode cX0_numberPairs 56 = .ok (.imul, 1) := by decide +kernel
theorem dX0_numberPairs_57 : decode cX0_numberPairs 57 = .ok (.iload_n 3, 1) := by decide +kernel
theorem dX0_numberPairs_58 : decode cX0_numberPairs 58 = .ok (.iadd, 1) := by decide +kernel
theorem dX0_numberPairs_59 : decode cX0_numberPairs 59 = .ok (.iconst 1, 1) := by decide +kernel
theorem dX0_numberPairs_60 : decode cX0_numberPairs 60 = .ok (.iload_n 2, 1) := by decide +kernel
theorem dX0_numberPairs_61 : decode cX0_numberPairs 61 = .ok (.ishl, 1) := by decide +kernel
theorem dX0_numberPairs_62 : decode cX0_numberPairs 62 = .ok (.iastore, 1) := by decide +kernel
theorem dX0_numberPairs_63 : decode cX0_numberPairs 63 = .ok (.iinc 2 1, 3) := by decide +kernel
theorem dX0_numberPairs_66 : decode cX0_numberPairs 66 = .ok (.iinc 4 1, 3) := by decide +kernel
theorem dX0_numberPairs_69 : decode cX0_numberPairs 69 = .ok (.goto (-56), 3) := by decide +kernel
theorem dX0_numberPairs_72 : decode cX0_numberPairs 72 = .ok (.iinc 3 1, 3) := by decide +kernel
theorem dX0_numberPairs_75 : decode cX0_numberPairs 75 = .ok (.goto (-71), 3) := by decide +kernel
theorem dX0_numberPairs_78 : decode cX0_numberPairs 78 = .ok (.return_, 1) := by decide +kernel
theorem dX0_put_0 : decode cX0_put 0 = .ok (.iload_n 1, 1) := by decide +kernel
theorem dX0_put_1 : decode cX0_put 1 = .ok (.ldc 95, 2) := by decide +kernel
theorem dX0_put_3 : decode cX0_put 3 = .ok (.imul, 1) := by decide +kernel
theorem dX0_put_4 : decode cX0_put 4 = .ok (.bipush 20, 2) := by decide +kernel
theorem dX0_put_6 : decode cX0_put 6 = .ok (.iushr, 1) := by decide +kernel
theorem dX0_put_7 : decode cX0_put 7 = .ok (.istore_n 3, 1) := by decide +kernel
theorem dX0_put_8 : decode cX0_put 8 = .ok (.iconst 0, 1) := by decide +kernel
theorem dX0_put_9 : decode cX0_put 9 = .ok (.istore 4, 2) := by decide +kernel
theorem dX0_put_11 : decode cX0_put 11 = .ok (.iload 4, 2) := by decide +kernel
theorem dX0_put_13 : decode cX0_put 13 = .ok (.sipush 4096, 3) := by decide +kernel
theorem dX0_put_16 : decode cX0_put 16 = .ok (.if_icmp .ge 39, 3) := by decide +kernel
theorem dX0_put_19 : decode cX0_put 19 = .ok (.aload_n 0, 1) := by decide +kernel
theorem dX0_put_20 : decode cX0_put 20 = .ok (.getfield 21, 3) := by decide +kernel
theorem dX0_put_23 : decode cX0_put 23 = .ok (.iload_n 3, 1) := by decide +kernel
theorem dX0_put_24 : decode cX0_put 24 = .ok (.iaload, 1) := by decide +kernel
theorem dX0_put_25 : decode cX0_put 25 = .ok (.ifCond .eq 30, 3) := by decide +kernel
theorem dX0_put_28 : decode cX0_put 28 = .ok (.aload_n 0, 1) := by decide +kernel
theorem dX0_put_29 : decode cX0_put 29 = .ok (.getfield 21, 3) := by decide +kernel
theorem dX0_put_32 : decode cX0_put 32 = .ok (.iload_n 3, 1) := by decide +kernel
theorem dX0_put_33 : decode cX0_put 33 = .ok (.iaload, 1) := by decide +kernel
theorem dX0_put_34 : decode cX0_put 34 = .ok (.iload_n 1, 1) := by decide +kernel
theorem dX0_put_35 : decode cX0_put 35 = .ok (.iconst 1, 1) := by decide +kernel
theorem dX0_put_36 : decode cX0_put 36 = .ok (.iadd, 1) := by decide +kernel
theorem dX0_put_37 : decode cX0_put 37 = .ok (.if_icmp .ne 4, 3) := by decide +kernel
theorem dX0_put_40 : decode cX0_put 40 = .ok (.return_, 1) := by decide +kernel
theorem dX0_put_41 : decode cX0_put 41 = .ok (.iload_n 3, 1) := by decide +kernel
theorem dX0_put_42 : decode cX0_put 42 = .ok (.iconst 1, 1) := by decide +kernel
theorem dX0_put_43 : decode cX0_put 43 = .ok (.iadd, 1) := by decide +kernel
theorem dX0_put_44 : decode cX0_put 44 = .ok (.sipush 4095, 3) := by decide +kernel
theorem dX0_put_47 : decode cX0_put 47 = .ok (.iand, 1) := by decide +kernel
theorem dX0_put_48 : decode cX0_put 48 = .ok (.istore_n 3, 1) := by decide +kernel
theorem dX0_put_49 : decode cX0_put 49 = .ok (.iinc 4 1, 3) := by decide +kernel
theorem dX0_put_52 : decode cX0_put 52 = .ok (.goto (-41), 3) := by decide +kernel
theorem dX0_put_55 : decode cX0_put 55 = .ok (.aload_n 0, 1) := by decide +kernel
theorem dX0_put_56 : decode cX0_put 56 = .ok (.getfield 21, 3) := by decide +kernel
theorem dX0_put_59 : decode cX0_put 59 = .ok (.iload_n 3, 1) := by decide +kernel
theorem dX0_put_60 : decode cX0_put 60 = .ok (.iload_n 1, 1) := by decide +kernel
theorem dX0_put_61 : decode cX0_put 61 = .ok (.iconst 1, 1) := by decide +kernel
theorem dX0_put_62 : decode cX0_put 62 = .ok (.iadd, 1) := by decide +kernel
theorem dX0_put_63 : decode cX0_put 63 = .ok (.iastore, 1) := by decide +kernel
theorem dX0_put_64 : decode cX0_put 64 = .ok (.aload_n 0, 1) := by decide +kernel
theorem dX0_put_65 : decode cX0_put 65 = .ok (.getfield 30, 3) := by decide +kernel
theorem dX0_put_68 : decode cX0_put 68 = .ok (.sipush 2520, 3) := by decide +kernel
theorem dX0_put_71 : decode cX0_put 71 = .ok (.if_icmp .ge 43, 3) := by decide +kernel
theorem dX0_put_74 : decode cX0_put 74 = .ok (.aload_n 0, 1) := by decide +kernel
theorem dX0_put_75 : decode cX0_put 75 = .ok (.getfield 11, 3) := by decide +kernel
theorem dX0_put_78 : decode cX0_put 78 = .ok (.aload_n 0, 1) := by decide +kernel
theorem dX0_put_79 : decode cX0_put 79 = .ok (.getfield 30, 3) := by decide +kernel
theorem dX0_put_82 : decode cX0_put 82 = .ok (.iload_n 1, 1) := by decide +kernel
theorem dX0_put_83 : decode cX0_put 83 = .ok (.iastore, 1) := by decide +kernel
theorem dX0_put_84 : decode cX0_put 84 = .ok (.aload_n 0, 1) := by decide +kernel
theorem dX0_put_85 : decode cX0_put 85 = .ok (.getfield 15, 3) := by decide +kernel
theorem dX0_put_88 : decode cX0_put 88 = .ok (.aload_n 0, 1) := by decide +kernel
theorem dX0_put_89 : decode cX0_put 89 = .ok (.getfield 30, 3) := by decide +kernel
theorem dX0_put_92 : decode cX0_put 92 = .ok (.iload_n 2, 1) := by decide +kernel
theorem dX0_put_93 : decode cX0_put 93 = .ok (.iastore, 1) := by decide +kernel
theorem dX0_put_94 : decode cX0_put 94 = .ok (.aload_n 0, 1) := by decide +kernel
theorem dX0_put_95 : decode cX0_put 95 = .ok (.dup, 1) := by decide +kernel
theorem dX0_put_96 : decode cX0_put 96 = .ok (.getfield 30, 3) := by decide +kernel
theorem dX0_put_99 : decode cX0_put 99 = .ok (.iconst 1, 1) := by decide +kernel
theorem dX0_put_100 : decode cX0_put 100 = .ok (.iadd, 1) := by decide +kernel
theorem dX0_put_101 : decode cX0_put 101 = .ok (.putfield 30, 3) := by decide +kernel
theorem dX0_put_104 : decode cX0_put 104 = .ok (.aload_n 0, 1) := by decide +kernel
theorem dX0_put_105 : decode cX0_put 105 = .ok (.dup, 1) := by decide +kernel
theorem dX0_put_106 : decode cX0_put 106 = .ok (.getfield 40, 3) := by decide +kernel
theorem dX0_put_109 : decode cX0_put 109 = .ok (.iload_n 1, 1) := by decide +kernel
theorem dX0_put_110 : decode cX0_put 110 = .ok (.ior, 1) := by decide +kernel
theorem dX0_put_111 : decode cX0_put 111 = .ok (.putfield 40, 3) := by decide +kernel
theorem dX0_put_114 : decode cX0_put 114 = .ok (.return_, 1) := by decide +kernel
theorem dX0_unpack_0 : decode cX0_unpack 0 = .ok (.aload_n 2, 1) := by decide +kernel
theorem dX0_unpack_1 : decode cX0_unpack 1 = .ok (.iconst 0, 1) := by decide +kernel
theorem dX0_unpack_2 : decode cX0_unpack 2 = .ok (.putfield 96, 3) := by decide +kernel
theorem dX0_unpack_5 : decode cX0_unpack 5 = .ok (.iconst 0, 1) := by decide +kernel
theorem dX0_unpack_6 : decode cX0_unpack 6 = .ok (.istore_n 3, 1) := by decide +kernel
theorem dX0_unpack_7 : decode cX0_unpack 7 = .ok (.iload_n 3, 1) := by decide +kernel
theorem dX0_unpack_8 : decode cX0_unpack 8 = .ok (.aload_n 0, 1) := by decide +kernel
theorem dX0_unpack_9 : decode cX0_unpack 9 = .ok (.getfield 37, 3) := by decide +kernel
theorem dX0_unpack_12 : decode cX0_unpack 12 = .ok (.if_icmp .ge 21, 3) := by decide +kernel
theorem dX0_unpack_15 : decode cX0_unpack 15 = .ok (.aload_n 2, 1) := by decide +kernel
theorem dX0_unpack_16 : decode cX0_unpack 16 = .ok (.iload_n 1, 1) := by decide +kernel
theorem dX0_unpack_17 : decode cX0_unpack 17 = .ok (.iconst 4, 1) := by decide +kernel
theorem dX0_unpack_18 : decode cX0_unpack 18 = .ok (.iload_n 3, 1) := by decide +kernel
theorem dX0_unpack_19 : decode cX0_unpack 19 = .ok (.imul, 1) := by decide +kernel
theorem dX0_unpack_20 : decode cX0_unpack 20 = .ok (.iushr, 1) := by decide +kernel
theorem dX0_unpack_21 : decode cX0_unpack 21 = .ok (.bipush 15, 2) := by decide +kernel
theorem dX0_unpack_23 : decode cX0_unpack 23 = .ok (.iand, 1) := by decide +kernel
theorem dX0_unpack_24 : decode cX0_unpack 24 = .ok (.invokevirtual 115, 3) := by decide +kernel
theorem dX0_unpack_27 : decode cX0_unpack 27 = .ok (.iinc 3 1, 3) := by decide +kernel
theorem dX0_unpack_30 : decode cX0_unpack 30 = .ok (.goto (-23), 3) := by decide +kernel
theorem dX0_unpack_33 : decode cX0_unpack 33 = .ok (.return_, 1) := by decide +kernel
theorem dX0_walk_0 : decode cX0_walk 0 = .ok (.iload_n 2, 1) := by decide +kernel
theorem dX0_walk_1 : decode cX0_walk 1 = .ok (.invokestatic 81, 3) := by decide +kernel
theorem dX0_walk_4 : decode cX0_walk 4 = .ok (.istore 6, 2) := by decide +kernel
theorem dX0_walk_6 : decode cX0_walk 6 = .ok (.iload 6, 2) := by decide +kernel
theorem dX0_walk_8 : decode cX0_walk 8 = .ok (.aload_n 0, 1) := by decide +kernel
theorem dX0_walk_9 : decode cX0_walk 9 = .ok (.getfield 37, 3) := by decide +kernel
theorem dX0_walk_12 : decode cX0_walk 12 = .ok (.if_icmp .lt 14, 3) := by decide +kernel
theorem dX0_walk_15 : decode cX0_walk 15 = .ok (.aload_n 0, 1) := by decide +kernel
theorem dX0_walk_16 : decode cX0_walk 16 = .ok (.aload_n 1, 1) := by decide +kernel
theorem dX0_walk_17 : decode cX0_walk 17 = .ok (.iload_n 3, 1) := by decide +kernel
theorem dX0_walk_18 : decode cX0_walk 18 = .ok (.iload 4, 2) := by decide +kernel
theorem dX0_walk_20 : decode cX0_walk 20 = .ok (.iload 5, 2) := by decide +kernel
theorem dX0_walk_22 : decode cX0_walk 22 = .ok (.invokevirtual 87, 3) := by decide +kernel
theorem dX0_walk_25 : decode cX0_walk 25 = .ok (.return_, 1) := by decide +kernel
theorem dX0_walk_26 : decode cX0_walk 26 = .ok (.aload_n 1, 1) := by decide +kernel
theorem dX0_walk_27 : decode cX0_walk 27 = .ok (.getfield 67, 3) := by decide +kernel
theorem dX0_walk_30 : decode cX0_walk 30 = .ok (.iload 6, 2) := by decide +kernel
theorem dX0_walk_32 : decode cX0_walk 32 = .ok (.iaload, 1) := by decide +kernel
theorem dX0_walk_33 : decode cX0_walk 33 = .ok (.aload_n 1, 1) := by decide +kernel
theorem dX0_walk_34 : decode cX0_walk 34 = .ok (.getfield 78, 3) := by decide +kernel
theorem dX0_walk_37 : decode cX0_walk 37 = .ok (.iload_n 3, 1) := by decide +kernel
theorem dX0_walk_38 : decode cX0_walk 38 = .ok (.iaload, 1) := by decide +kernel
theorem dX0_walk_39 : decode cX0_walk 39 = .ok (.iand, 1) := by decide +kernel
theorem dX0_walk_40 : decode cX0_walk 40 = .ok (.iload_n 2, 1) := by decide +kernel
theorem dX0_walk_41 : decode cX0_walk 41 = .ok (.iconst (-1), 1) := by decide +kernel
theorem dX0_walk_42 : decode cX0_walk 42 = .ok (.ixor, 1) := by decide +kernel
theorem dX0_walk_43 : decode cX0_walk 43 = .ok (.iand, 1) := by decide +kernel
theorem dX0_walk_44 : decode cX0_walk 44 = .ok (.istore 7, 2) := by decide +kernel
theorem dX0_walk_46 : decode cX0_walk 46 = .ok (.iconst 0, 1) := by decide +kernel
theorem dX0_walk_47 : decode cX0_walk 47 = .ok (.istore 8, 2) := by decide +kernel
theorem dX0_walk_49 : decode cX0_walk 49 = .ok (.iload 8, 2) := by decide +kernel
theorem dX0_walk_51 : decode cX0_walk 51 = .ok (.bipush 9, 2) := by decide +kernel
theorem dX0_walk_53 : decode cX0_walk 53 = .ok (.if_icmp .ge 58, 3) := by decide +kernel
theorem dX0_walk_56 : decode cX0_walk 56 = .ok (.iload 7, 2) := by decide +kernel
theorem dX0_walk_58 : decode cX0_walk 58 = .ok (.iload 8, 2) := by decide +kernel
theorem dX0_walk_60 : decode cX0_walk 60 = .ok (.ishr, 1) := by decide +kernel
theorem dX0_walk_61 : decode cX0_walk 61 = .ok (.iconst 1, 1) := by decide +kernel
theorem dX0_walk_62 : decode cX0_walk 62 = .ok (.iand, 1) := by decide +kernel
theorem dX0_walk_63 : decode cX0_walk 63 = .ok (.iconst 1, 1) := by decide +kernel
theorem dX0_walk_64 : decode cX0_walk 64 = .ok (.if_icmp .ne 41, 3) := by decide +kernel
theorem dX0_walk_67 : decode cX0_walk 67 = .ok (.aload_n 0, 1) := by decide +kernel
theorem dX0_walk_68 : decode cX0_walk 68 = .ok (.aload_n 1, 1) := by decide +kernel
theorem dX0_walk_69 : decode cX0_walk 69 = .ok (.iload_n 2, 1) := by decide +kernel
theorem dX0_walk_70 : decode cX0_walk 70 = .ok (.iconst 1, 1) := by decide +kernel
theorem dX0_walk_71 : decode cX0_walk 71 = .ok (.iload 8, 2) := by decide +kernel
theorem dX0_walk_73 : decode cX0_walk 73 = .ok (.ishl, 1) := by decide +kernel
theorem dX0_walk_74 : decode cX0_walk 74 = .ok (.ior, 1) := by decide +kernel
theorem dX0_walk_75 : decode cX0_walk 75 = .ok (.iload 8, 2) := by decide +kernel
theorem dX0_walk_77 : decode cX0_walk 77 = .ok (.iload 4, 2) := by decide +kernel
theorem dX0_walk_79 : decode cX0_walk 79 = .ok (.aload_n 0, 1) := by decide +kernel
theorem dX0_walk_80 : decode cX0_walk 80 = .ok (.getfield 24, 3) := by decide +kernel
theorem dX0_walk_83 : decode cX0_walk 83 = .ok (.iload_n 3, 1) := by decide +kernel
theorem dX0_walk_84 : decode cX0_walk 84 = .ok (.bipush 9, 2) := by decide +kernel
theorem dX0_walk_86 : decode cX0_walk 86 = .ok (.imul, 1) := by decide +kernel
theorem dX0_walk_87 : decode cX0_walk 87 = .ok (.iload 8, 2) := by decide +kernel
theorem dX0_walk_89 : decode cX0_walk 89 = .ok (.iadd, 1) := by decide +kernel
theorem dX0_walk_90 : decode cX0_walk 90 = .ok (.iaload, 1) := by decide +kernel
theorem dX0_walk_91 : decode cX0_walk 91 = .ok (.ior, 1) := by decide +kernel
theorem dX0_walk_92 : decode cX0_walk 92 = .ok (.iload 5, 2) := by decide +kernel
theorem dX0_walk_94 : decode cX0_walk 94 = .ok (.iload 8, 2) := by decide +kernel
theorem dX0_walk_96 : decode cX0_walk 96 = .ok (.iconst 4, 1) := by decide +kernel
theorem dX0_walk_97 : decode cX0_walk 97 = .ok (.iload 6, 2) := by decide +kernel
theorem dX0_walk_99 : decode cX0_walk 99 = .ok (.imul, 1) := by decide +kernel
theorem dX0_walk_100 : decode cX0_walk 100 = .ok (.ishl, 1) := by decide +kernel
theorem dX0_walk_101 : decode cX0_walk 101 = .ok (.ior, 1) := by decide +kernel
theorem dX0_walk_102 : decode cX0_walk 102 = .ok (.invokevirtual 70, 3) := by decide +kernel
theorem dX0_walk_105 : decode cX0_walk 105 = .ok (.iinc 8 1, 3) := by decide +kernel
theorem dX0_walk_108 : decode cX0_walk 108 = .ok (.goto (-59), 3) := by decide +kernel
theorem dX0_walk_111 : decode cX0_walk 111 = .ok (.return_, 1) := by decide +kernel
theorem dX0_winsWith_0 : decode cX0_winsWith 0 = .ok (.aload_n 0, 1) := by decide +kernel
theorem dX0_winsWith_1 : decode cX0_winsWith 1 = .ok (.iload_n 1, 1) := by decide +kernel
theorem dX0_winsWith_2 : decode cX0_winsWith 2 = .ok (.iconst 0, 1) := by decide +kernel
theorem dX0_winsWith_3 : decode cX0_winsWith 3 = .ok (.invokevirtual 126, 3) := by decide +kernel
theorem dX0_winsWith_6 : decode cX0_winsWith 6 = .ok (.iconst 0, 1) := by decide +kernel
theorem dX0_winsWith_7 : decode cX0_winsWith 7 = .ok (.istore_n 2, 1) := by decide +kernel
theorem dX0_winsWith_8 : decode cX0_winsWith 8 = .ok (.iload_n 2, 1) := by decide +kernel
theorem dX0_winsWith_9 : decode cX0_winsWith 9 = .ok (.aload_n 0, 1) := by decide +kernel
theorem dX0_winsWith_10 : decode cX0_winsWith 10 = .ok (.getfield 34, 3) := by decide +kernel
theorem dX0_winsWith_13 : decode cX0_winsWith 13 = .ok (.if_icmp .ge 25, 3) := by decide +kernel
theorem dX0_winsWith_16 : decode cX0_winsWith 16 = .ok (.aload_n 0, 1) := by decide +kernel
theorem dX0_winsWith_17 : decode cX0_winsWith 17 = .ok (.aload_n 0, 1) := by decide +kernel
theorem dX0_winsWith_18 : decode cX0_winsWith 18 = .ok (.getfield 18, 3) := by decide +kernel
theorem dX0_winsWith_21 : decode cX0_winsWith 21 = .ok (.iload_n 2, 1) := by decide +kernel
theorem dX0_winsWith_22 : decode cX0_winsWith 22 = .ok (.iaload, 1) := by decide +kernel
theorem dX0_winsWith_23 : decode cX0_winsWith 23 = .ok (.iconst 0, 1) := by decide +kernel
theorem dX0_winsWith_24 : decode cX0_winsWith 24 = .ok (.invokevirtual 133, 3) := by decide +kernel
theorem dX0_winsWith_27 : decode cX0_winsWith 27 = .ok (.ifCond .ne 5, 3) := by decide +kernel
theorem dX0_winsWith_30 : decode cX0_winsWith 30 = .ok (.iconst 0, 1) := by decide +kernel
theorem dX0_winsWith_31 : decode cX0_winsWith 31 = .ok (.ireturn, 1) := by decide +kernel
theorem dX0_winsWith_32 : decode cX0_winsWith 32 = .ok (.iinc 2 1, 3) := by decide +kernel
theorem dX0_winsWith_35 : decode cX0_winsWith 35 = .ok (.goto (-27), 3) := by decide +kernel
theorem dX0_winsWith_38 : decode cX0_winsWith 38 = .ok (.iconst 1, 1) := by decide +kernel
theorem dX0_winsWith_39 : decode cX0_winsWith 39 = .ok (.ireturn, 1) := by decide +kernel
theorem dX1_clear_0 : decode cX1_clear 0 = .ok (.aload_n 0, 1) := by decide +kernel
theorem dX1_clear_1 : decode cX1_clear 1 = .ok (.invokevirtual 38, 3) := by decide +kernel
theorem dX1_clear_4 : decode cX1_clear 4 = .ok (.aload_n 0, 1) := by decide +kernel
theorem dX1_clear_5 : decode cX1_clear 5 = .ok (.invokevirtual 31, 3) := by decide +kernel
theorem dX1_clear_8 : decode cX1_clear 8 = .ok (.return_, 1) := by decide +kernel
theorem dX1_joined_0 : decode cX1_joined 0 = .ok (.iload_n 0, 1) := by decide +kernel
theorem dX1_joined_1 : decode cX1_joined 1 = .ok (.tableswitch 160 9 26 #[87, 101, 160, 160, 160, 160, 160, 160, 160, 160, 160, 160, 115, 126, 137, 148, 152, 156], 87) := by decide +kernel
theorem dX1_joined_88 : decode cX1_joined 88 = .ok (.iload_n 1, 1) := by decide +kernel
theorem dX1_joined_89 : decode cX1_joined 89 = .ok (.ifCond .ne 7, 3) := by decide +kernel
theorem dX1_joined_92 : decode cX1_joined 92 = .ok (.iload_n 2, 1) := by decide +kernel
theorem dX1_joined_93 : decode cX1_joined 93 = .ok (.ifCond .eq 7, 3) := by decide +kernel
theorem dX1_joined_96 : decode cX1_joined 96 = .ok (.iconst 1, 1) := by decide +kernel
theorem dX1_joined_97 : decode cX1_joined 97 = .ok (.goto 4, 3) := by decide +kernel
theorem dX1_joined_100 : decode cX1_joined 100 = .ok (.iconst 0, 1) := by decide +kernel
theorem dX1_joined_101 : decode cX1_joined 101 = .ok (.ireturn, 1) := by decide +kernel
theorem dX1_joined_102 : decode cX1_joined 102 = .ok (.iload_n 1, 1) := by decide +kernel
theorem dX1_joined_103 : decode cX1_joined 103 = .ok (.ifCond .eq 11, 3) := by decide +kernel
theorem dX1_joined_106 : decode cX1_joined 106 = .ok (.iload_n 2, 1) := by decide +kernel
theorem dX1_joined_107 : decode cX1_joined 107 = .ok (.ifCond .eq 7, 3) := by decide +kernel
theorem dX1_joined_110 : decode cX1_joined 110 = .ok (.iconst 1, 1) := by decide +kernel
theorem dX1_joined_111 : decode cX1_joined 111 = .ok (.goto 4, 3) := by decide +kernel
theorem dX1_joined_114 : decode cX1_joined 114 = .ok (.iconst 0, 1) := by decide +kernel
theorem dX1_joined_115 : decode cX1_joined 115 = .ok (.ireturn, 1) := by decide +kernel
theorem dX1_joined_116 : decode cX1_joined 116 = .ok (.iload_n 1, 1) := by decide +kernel
theorem dX1_joined_117 : decode cX1_joined 117 = .ok (.iload_n 2, 1) := by decide +kernel
theorem dX1_joined_118 : decode cX1_joined 118 = .ok (.if_icmp .ge 7, 3) := by decide +kernel
theorem dX1_joined_121 : decode cX1_joined 121 = .ok (.iconst 1, 1) := by decide +kernel
theorem dX1_joined_122 : decode cX1_joined 122 = .ok (.goto 4, 3) := by decide +kernel
theorem dX1_joined_125 : decode cX1_joined 125 = .ok (.iconst 0, 1) := by decide +kernel
theorem dX1_joined_126 : decode cX1_joined 126 = .ok (.ireturn, 1) := by decide +kernel
theorem dX1_joined_127 : decode cX1_joined 127 = .ok (.iload_n 1, 1) := by decide +kernel
theorem dX1_joined_128 : decode cX1_joined 128 = .ok (.iload_n 2, 1) := by decide +kernel
theorem dX1_joined_129 : decode cX1_joined 129 = .ok (.if_icmp .le 7, 3) := by decide +kernel
theorem dX1_joined_132 : decode cX1_joined 132 = .ok (.iconst 1, 1) := by decide +kernel
theorem dX1_joined_133 : decode cX1_joined 133 = .ok (.goto 4, 3) := by decide +kernel
theorem dX1_joined_136 : decode cX1_joined 136 = .ok (.iconst 0, 1) := by decide +kernel
theorem dX1_joined_137 : decode cX1_joined 137 = .ok (.ireturn, 1) := by decide +kernel
theorem dX1_joined_138 : decode cX1_joined 138 = .ok (.iload_n 1, 1) := by decide +kernel
theorem dX1_joined_139 : decode cX1_joined 139 = .ok (.iload_n 2, 1) := by decide +kernel
theorem dX1_joined_140 : decode cX1_joined 140 = .ok (.if_icmp .ne 7, 3) := by decide +kernel
theorem dX1_joined_143 : decode cX1_joined 143 = .ok (.iconst 1, 1) := by decide +kernel
theorem dX1_joined_144 : decode cX1_joined 144 = .ok (.goto 4, 3) := by decide +kernel
theorem dX1_joined_147 : decode cX1_joined 147 = .ok (.iconst 0, 1) := by decide +kernel
theorem dX1_joined_148 : decode cX1_joined 148 = .ok (.ireturn, 1) := by decide +kernel
theorem dX1_joined_149 : decode cX1_joined 149 = .ok (.iload_n 1, 1) := by decide +kernel
theorem dX1_joined_150 : decode cX1_joined 150 = .ok (.iload_n 2, 1) := by decide +kernel
theorem dX1_joined_151 : decode cX1_joined 151 = .ok (.iadd, 1) := by decide +kernel
theorem dX1_joined_152 : decode cX1_joined 152 = .ok (.ireturn, 1) := by decide +kernel
theorem dX1_joined_153 : decode cX1_joined 153 = .ok (.iload_n 1, 1) := by decide +kernel
theorem dX1_joined_154 : decode cX1_joined 154 = .ok (.iload_n 2, 1) := by decide +kernel
theorem dX1_joined_155 : decode cX1_joined 155 = .ok (.isub, 1) := by decide +kernel
theorem dX1_joined_156 : decode cX1_joined 156 = .ok (.ireturn, 1) := by decide +kernel
theorem dX1_joined_157 : decode cX1_joined 157 = .ok (.iload_n 1, 1) := by decide +kernel
theorem dX1_joined_158 : decode cX1_joined 158 = .ok (.iload_n 2, 1) := by decide +kernel
theorem dX1_joined_159 : decode cX1_joined 159 = .ok (.imul, 1) := by decide +kernel
theorem dX1_joined_160 : decode cX1_joined 160 = .ok (.ireturn, 1) := by decide +kernel
theorem dX1_joined_161 : decode cX1_joined 161 = .ok (.iload_n 2, 1) := by decide +kernel
theorem dX1_joined_162 : decode cX1_joined 162 = .ok (.ifCond .ne 7, 3) := by decide +kernel
theorem dX1_joined_165 : decode cX1_joined 165 = .ok (.iconst 0, 1) := by decide +kernel
theorem dX1_joined_166 : decode cX1_joined 166 = .ok (.goto 6, 3) := by decide +kernel
theorem dX1_joined_169 : decode cX1_joined 169 = .ok (.iload_n 1, 1) := by decide +kernel
theorem dX1_joined_170 : decode cX1_joined 170 = .ok (.iload_n 2, 1) := by decide +kernel
theorem dX1_joined_171 : decode cX1_joined 171 = .ok (.idiv, 1) := by decide +kernel
theorem dX1_joined_172 : decode cX1_joined 172 = .ok (.ireturn, 1) := by decide +kernel
theorem dX1_look_0 : decode cX1_look 0 = .ok (.iload_n 1, 1) := by decide +kernel
theorem dX1_look_1 : decode cX1_look 1 = .ok (.ifCond .lt 16, 3) := by decide +kernel
theorem dX1_look_4 : decode cX1_look 4 = .ok (.iload_n 1, 1) := by decide +kernel
theorem dX1_look_5 : decode cX1_look 5 = .ok (.bipush 15, 2) := by decide +kernel
theorem dX1_look_7 : decode cX1_look 7 = .ok (.if_icmp .gt 10, 3) := by decide +kernel
theorem dX1_look_10 : decode cX1_look 10 = .ok (.aload_n 0, 1) := by decide +kernel
theorem dX1_look_11 : decode cX1_look 11 = .ok (.getfield 18, 3) := by decide +kernel
theorem dX1_look_14 : decode cX1_look 14 = .ok (.iload_n 1, 1) := by decide +kernel
theorem dX1_look_15 : decode cX1_look 15 = .ok (.iload_n 2, 1) := by decide +kernel
theorem dX1_look_16 : decode cX1_look 16 = .ok (.iastore, 1) := by decide +kernel
theorem dX1_look_17 : decode cX1_look 17 = .ok (.return_, 1) := by decide +kernel
theorem dX1_open_0 : decode cX1_open 0 = .ok (.aload_n 0, 1) := by decide +kernel
theorem dX1_open_1 : decode cX1_open 1 = .ok (.iconst 0, 1) := by decide +kernel
theorem dX1_open_2 : decode cX1_open 2 = .ok (.putfield 21, 3) := by decide +kernel
theorem dX1_open_5 : decode cX1_open 5 = .ok (.aload_n 0, 1) := by decide +kernel
theorem dX1_open_6 : decode cX1_open 6 = .ok (.iconst 0, 1) := by decide +kernel
theorem dX1_open_7 : decode cX1_open 7 = .ok (.putfield 28, 3) := by decide +kernel
theorem dX1_open_10 : decode cX1_open 10 = .ok (.return_, 1) := by decide +kernel
theorem dX1_pop_0 : decode cX1_pop 0 = .ok (.aload_n 0, 1) := by decide +kernel
theorem dX1_pop_1 : decode cX1_pop 1 = .ok (.getfield 25, 3) := by decide +kernel
theorem dX1_pop_4 : decode cX1_pop 4 = .ok (.ifCond .gt 5, 3) := by decide +kernel
theorem dX1_pop_7 : decode cX1_pop 7 = .ok (.iconst 0, 1) := by decide +kernel
theorem dX1_pop_8 : decode cX1_pop 8 = .ok (.ireturn, 1) := by decide +kernel
theorem dX1_pop_9 : decode cX1_pop 9 = .ok (.aload_n 0, 1) := by decide +kernel
theorem dX1_pop_10 : decode cX1_pop 10 = .ok (.dup, 1) := by decide +kernel
theorem dX1_pop_11 : decode cX1_pop 11 = .ok (.getfield 25, 3) := by decide +kernel
theorem dX1_pop_14 : decode cX1_pop 14 = .ok (.iconst 1, 1) := by decide +kernel
theorem dX1_pop_15 : decode cX1_pop 15 = .ok (.isub, 1) := by decide +kernel
theorem dX1_pop_16 : decode cX1_pop 16 = .ok (.putfield 25, 3) := by decide +kernel
theorem dX1_pop_19 : decode cX1_pop 19 = .ok (.aload_n 0, 1) := by decide +kernel
theorem dX1_pop_20 : decode cX1_pop 20 = .ok (.getfield 15, 3) := by decide +kernel
theorem dX1_pop_23 : decode cX1_pop 23 = .ok (.aload_n 0, 1) := by decide +kernel
theorem dX1_pop_24 : decode cX1_pop 24 = .ok (.getfield 25, 3) := by decide +kernel
theorem dX1_pop_27 : decode cX1_pop 27 = .ok (.iaload, 1) := by decide +kernel
theorem dX1_pop_28 : decode cX1_pop 28 = .ok (.ireturn, 1) := by decide +kernel
theorem dX1_push_0 : decode cX1_push 0 = .ok (.aload_n 0, 1) := by decide +kernel
theorem dX1_push_1 : decode cX1_push 1 = .ok (.getfield 25, 3) := by decide +kernel
theorem dX1_push_4 : decode cX1_push 4 = .ok (.bipush 40, 2) := by decide +kernel
theorem dX1_push_6 : decode cX1_push 6 = .ok (.if_icmp .ge 23, 3) := by decide +kernel
theorem dX1_push_9 : decode cX1_push 9 = .ok (.aload_n 0, 1) := by decide +kernel
theorem dX1_push_10 : decode cX1_push 10 = .ok (.getfield 15, 3) := by decide +kernel
theorem dX1_push_13 : decode cX1_push 13 = .ok (.aload_n 0, 1) := by decide +kernel
theorem dX1_push_14 : decode cX1_push 14 = .ok (.getfield 25, 3) := by decide +kernel
theorem dX1_push_17 : decode cX1_push 17 = .ok (.iload_n 1, 1) := by decide +kernel
theorem dX1_push_18 : decode cX1_push 18 = .ok (.iastore, 1) := by decide +kernel
theorem dX1_push_19 : decode cX1_push 19 = .ok (.aload_n 0, 1) := by decide +kernel
theorem dX1_push_20 : decode cX1_push 20 = .ok (.dup, 1) := by decide +kernel
theorem dX1_push_21 : decode cX1_push 21 = .ok (.getfield 25, 3) := by decide +kernel
theorem dX1_push_24 : decode cX1_push 24 = .ok (.iconst 1, 1) := by decide +kernel
theorem dX1_push_25 : decode cX1_push 25 = .ok (.iadd, 1) := by decide +kernel
theorem dX1_push_26 : decode cX1_push 26 = .ok (.putfield 25, 3) := by decide +kernel
theorem dX1_push_29 : decode cX1_push 29 = .ok (.return_, 1) := by decide +kernel
theorem dX1_put_0 : decode cX1_put 0 = .ok (.aload_n 0, 1) := by decide +kernel
theorem dX1_put_1 : decode cX1_put 1 = .ok (.getfield 21, 3) := by decide +kernel
theorem dX1_put_4 : decode cX1_put 4 = .ok (.sipush 360, 3) := by decide +kernel
theorem dX1_put_7 : decode cX1_put 7 = .ok (.if_icmp .ge 23, 3) := by decide +kernel
theorem dX1_put_10 : decode cX1_put 10 = .ok (.aload_n 0, 1) := by decide +kernel
theorem dX1_put_11 : decode cX1_put 11 = .ok (.getfield 11, 3) := by decide +kernel
theorem dX1_put_14 : decode cX1_put 14 = .ok (.aload_n 0, 1) := by decide +kernel
theorem dX1_put_15 : decode cX1_put 15 = .ok (.getfield 21, 3) := by decide +kernel
theorem dX1_put_18 : decode cX1_put 18 = .ok (.iload_n 1, 1) := by decide +kernel
theorem dX1_put_19 : decode cX1_put 19 = .ok (.iastore, 1) := by decide +kernel
theorem dX1_put_20 : decode cX1_put 20 = .ok (.aload_n 0, 1) := by decide +kernel
theorem dX1_put_21 : decode cX1_put 21 = .ok (.dup, 1) := by decide +kernel
theorem dX1_put_22 : decode cX1_put 22 = .ok (.getfield 21, 3) := by decide +kernel
theorem dX1_put_25 : decode cX1_put 25 = .ok (.iconst 1, 1) := by decide +kernel
theorem dX1_put_26 : decode cX1_put 26 = .ok (.iadd, 1) := by decide +kernel
theorem dX1_put_27 : decode cX1_put 27 = .ok (.putfield 21, 3) := by decide +kernel
theorem dX1_put_30 : decode cX1_put 30 = .ok (.return_, 1) := by decide +kernel
theorem dX1_putSinceNever_0 : decode cX1_putSinceNever 0 = .ok (.aload_n 0, 1) := by decide +kernel
theorem dX1_putSinceNever_1 : decode cX1_putSinceNever 1 = .ok (.bipush (-14), 2) := by decide +kernel
theorem dX1_putSinceNever_3 : decode cX1_putSinceNever 3 = .ok (.invokevirtual 34, 3) := by decide +kernel
theorem dX1_putSinceNever_6 : decode cX1_putSinceNever 6 = .ok (.aload_n 0, 1) := by decide +kernel
theorem dX1_putSinceNever_7 : decode cX1_putSinceNever 7 = .ok (.bipush 99, 2) := by decide +kernel
theorem dX1_putSinceNever_9 : decode cX1_putSinceNever 9 = .ok (.invokevirtual 34, 3) := by decide +kernel
theorem dX1_putSinceNever_12 : decode cX1_putSinceNever 12 = .ok (.aload_n 0, 1) := by decide +kernel
theorem dX1_putSinceNever_13 : decode cX1_putSinceNever 13 = .ok (.bipush (-23), 2) := by decide +kernel
theorem dX1_putSinceNever_15 : decode cX1_putSinceNever 15 = .ok (.invokevirtual 34, 3) := by decide +kernel
theorem dX1_putSinceNever_18 : decode cX1_putSinceNever 18 = .ok (.return_, 1) := by decide +kernel
theorem dX1_value_0 : decode cX1_value 0 = .ok (.aload_n 0, 1) := by decide +kernel
theorem dX1_value_1 : decode cX1_value 1 = .ok (.iconst 0, 1) := by decide +kernel
theorem dX1_value_2 : decode cX1_value 2 = .ok (.putfield 25, 3) := by decide +kernel
theorem dX1_value_5 : decode cX1_value 5 = .ok (.iconst 0, 1) := by decide +kernel
theorem dX1_value_6 : decode cX1_value 6 = .ok (.istore_n 1, 1) := by decide +kernel
theorem dX1_value_7 : decode cX1_value 7 = .ok (.iload_n 1, 1) := by decide +kernel
theorem dX1_value_8 : decode cX1_value 8 = .ok (.aload_n 0, 1) := by decide +kernel
theorem dX1_value_9 : decode cX1_value 9 = .ok (.getfield 21, 3) := by decide +kernel
theorem dX1_value_12 : decode cX1_value 12 = .ok (.if_icmp .ge 108, 3) := by decide +kernel
theorem dX1_value_15 : decode cX1_value 15 = .ok (.aload_n 0, 1) := by decide +kernel
theorem dX1_value_16 : decode cX1_value 16 = .ok (.getfield 11, 3) := by decide +kernel
theorem dX1_value_19 : decode cX1_value 19 = .ok (.iload_n 1, 1) := by decide +kernel
theorem dX1_value_20 : decode cX1_value 20 = .ok (.iaload, 1) := by decide +kernel
theorem dX1_value_21 : decode cX1_value 21 = .ok (.ineg, 1) := by decide +kernel
theorem dX1_value_22 : decode cX1_value 22 = .ok (.istore_n 2, 1) := by decide +kernel
theorem dX1_value_23 : decode cX1_value 23 = .ok (.iload_n 2, 1) := by decide +kernel
theorem dX1_value_24 : decode cX1_value 24 = .ok (.ifCond .gt 16, 3) := by decide +kernel
theorem dX1_value_27 : decode cX1_value 27 = .ok (.aload_n 0, 1) := by decide +kernel
theorem dX1_value_28 : decode cX1_value 28 = .ok (.aload_n 0, 1) := by decide +kernel
theorem dX1_value_29 : decode cX1_value 29 = .ok (.getfield 11, 3) := by decide +kernel
theorem dX1_value_32 : decode cX1_value 32 = .ok (.iload_n 1, 1) := by decide +kernel
theorem dX1_value_33 : decode cX1_value 33 = .ok (.iaload, 1) := by decide +kernel
theorem dX1_value_34 : decode cX1_value 34 = .ok (.invokevirtual 41, 3) := by decide +kernel
theorem dX1_value_37 : decode cX1_value 37 = .ok (.goto 77, 3) := by decide +kernel
theorem dX1_value_40 : decode cX1_value 40 = .ok (.iload_n 2, 1) := by decide +kernel
theorem dX1_value_41 : decode cX1_value 41 = .ok (.bipush 6, 2) := by decide +kernel
theorem dX1_value_43 : decode cX1_value 43 = .ok (.if_icmp .eq 15, 3) := by decide +kernel
theorem dX1_value_46 : decode cX1_value 46 = .ok (.iload_n 2, 1) := by decide +kernel
theorem dX1_value_47 : decode cX1_value 47 = .ok (.bipush 12, 2) := by decide +kernel
theorem dX1_value_49 : decode cX1_value 49 = .ok (.if_icmp .lt 22, 3) := by decide +kernel
theorem dX1_value_52 : decode cX1_value 52 = .ok (.iload_n 2, 1) := by decide +kernel
theorem dX1_value_53 : decode cX1_value 53 = .ok (.bipush 15, 2) := by decide +kernel
theorem dX1_value_55 : decode cX1_value 55 = .ok (.if_icmp .gt 16, 3) := by decide +kernel
theorem dX1_value_58 : decode cX1_value 58 = .ok (.aload_n 0, 1) := by decide +kernel
theorem dX1_value_59 : decode cX1_value 59 = .ok (.aload_n 0, 1) := by decide +kernel
theorem dX1_value_60 : decode cX1_value 60 = .ok (.getfield 18, 3) := by decide +kernel
theorem dX1_value_63 : decode cX1_value 63 = .ok (.iload_n 2, 1) := by decide +kernel
theorem dX1_value_64 : decode cX1_value 64 = .ok (.iaload, 1) := by decide +kernel
theorem dX1_value_65 : decode cX1_value 65 = .ok (.invokevirtual 41, 3) := by decide +kernel
theorem dX1_value_68 : decode cX1_value 68 = .ok (.goto 46, 3) := by decide +kernel
theorem dX1_value_71 : decode cX1_value 71 = .ok (.iload_n 2, 1) := by decide +kernel
theorem dX1_value_72 : decode cX1_value 72 = .ok (.bipush 11, 2) := by decide +kernel
theorem dX1_value_74 : decode cX1_value 74 = .ok (.if_icmp .ne 22, 3) := by decide +kernel
theorem dX1_value_77 : decode cX1_value 77 = .ok (.aload_n 0, 1) := by decide +kernel
theorem dX1_value_78 : decode cX1_value 78 = .ok (.aload_n 0, 1) := by decide +kernel
theorem dX1_value_79 : decode cX1_value 79 = .ok (.invokevirtual 44, 3) := by decide +kernel
theorem dX1_value_82 : decode cX1_value 82 = .ok (.ifCond .ne 7, 3) := by decide +kernel
theorem dX1_value_85 : decode cX1_value 85 = .ok (.iconst 1, 1) := by decide +kernel
theorem dX1_value_86 : decode cX1_value 86 = .ok (.goto 4, 3) := by decide +kernel
theorem dX1_value_89 : decode cX1_value 89 = .ok (.iconst 0, 1) := by decide +kernel
theorem dX1_value_90 : decode cX1_value 90 = .ok (.invokevirtual 41, 3) := by decide +kernel
theorem dX1_value_93 : decode cX1_value 93 = .ok (.goto 21, 3) := by decide +kernel
theorem dX1_value_96 : decode cX1_value 96 = .ok (.aload_n 0, 1) := by decide +kernel
theorem dX1_value_97 : decode cX1_value 97 = .ok (.invokevirtual 44, 3) := by decide +kernel
theorem dX1_value_100 : decode cX1_value 100 = .ok (.istore_n 3, 1) := by decide +kernel
theorem dX1_value_101 : decode cX1_value 101 = .ok (.aload_n 0, 1) := by decide +kernel
theorem dX1_value_102 : decode cX1_value 102 = .ok (.iload_n 2, 1) := by decide +kernel
theorem dX1_value_103 : decode cX1_value 103 = .ok (.aload_n 0, 1) := by decide +kernel
theorem dX1_value_104 : decode cX1_value 104 = .ok (.invokevirtual 44, 3) := by decide +kernel
theorem dX1_value_107 : decode cX1_value 107 = .ok (.iload_n 3, 1) := by decide +kernel
theorem dX1_value_108 : decode cX1_value 108 = .ok (.invokestatic 48, 3) := by decide +kernel
theorem dX1_value_111 : decode cX1_value 111 = .ok (.invokevirtual 41, 3) := by decide +kernel
theorem dX1_value_114 : decode cX1_value 114 = .ok (.iinc 1 1, 3) := by decide +kernel
theorem dX1_value_117 : decode cX1_value 117 = .ok (.goto (-110), 3) := by decide +kernel
theorem dX1_value_120 : decode cX1_value 120 = .ok (.aload_n 0, 1) := by decide +kernel
theorem dX1_value_121 : decode cX1_value 121 = .ok (.invokevirtual 44, 3) := by decide +kernel
theorem dX1_value_124 : decode cX1_value 124 = .ok (.ireturn, 1) := by decide +kernel
theorem dX2_add_0 : decode cX2_add 0 = .ok (.aload_n 0, 1) := by decide +kernel
theorem dX2_add_1 : decode cX2_add 1 = .ok (.getfield 31, 3) := by decide +kernel
theorem dX2_add_4 : decode cX2_add 4 = .ok (.bipush 20, 2) := by decide +kernel
theorem dX2_add_6 : decode cX2_add 6 = .ok (.if_icmp .lt 5, 3) := by decide +kernel
theorem dX2_add_9 : decode cX2_add 9 = .ok (.iconst (-1), 1) := by decide +kernel
theorem dX2_add_10 : decode cX2_add 10 = .ok (.ireturn, 1) := by decide +kernel
theorem dX2_add_11 : decode cX2_add 11 = .ok (.aload_n 0, 1) := by decide +kernel
theorem dX2_add_12 : decode cX2_add 12 = .ok (.getfield 11, 3) := by decide +kernel
theorem dX2_add_15 : decode cX2_add 15 = .ok (.aload_n 0, 1) := by decide +kernel
theorem dX2_add_16 : decode cX2_add 16 = .ok (.getfield 31, 3) := by decide +kernel
theorem dX2_add_19 : decode cX2_add 19 = .ok (.iload_n 1, 1) := by decide +kernel
theorem dX2_add_20 : decode cX2_add 20 = .ok (.iastore, 1) := by decide +kernel
theorem dX2_add_21 : decode cX2_add 21 = .ok (.aload_n 0, 1) := by decide +kernel
theorem dX2_add_22 : decode cX2_add 22 = .ok (.getfield 15, 3) := by decide +kernel
theorem dX2_add_25 : decode cX2_add 25 = .ok (.aload_n 0, 1) := by decide +kernel
theorem dX2_add_26 : decode cX2_add 26 = .ok (.getfield 31, 3) := by decide +kernel
theorem dX2_add_29 : decode cX2_add 29 = .ok (.iload_n 2, 1) := by decide +kernel
theorem dX2_add_30 : decode cX2_add 30 = .ok (.iastore, 1) := by decide +kernel
theorem dX2_add_31 : decode cX2_add 31 = .ok (.aload_n 0, 1) := by decide +kernel
theorem dX2_add_32 : decode cX2_add 32 = .ok (.getfield 18, 3) := by decide +kernel
theorem dX2_add_35 : decode cX2_add 35 = .ok (.aload_n 0, 1) := by decide +kernel
theorem dX2_add_36 : decode cX2_add 36 = .ok (.getfield 31, 3) := by decide +kernel
theorem dX2_add_39 : decode cX2_add 39 = .ok (.iload_n 3, 1) := by decide +kernel
theorem dX2_add_40 : decode cX2_add 40 = .ok (.bastore, 1) := by decide +kernel
theorem dX2_add_41 : decode cX2_add 41 = .ok (.aload_n 0, 1) := by decide +kernel
theorem dX2_add_42 : decode cX2_add 42 = .ok (.getfield 22, 3) := by decide +kernel
theorem dX2_add_45 : decode cX2_add 45 = .ok (.aload_n 0, 1) := by decide +kernel
theorem dX2_add_46 : decode cX2_add 46 = .ok (.getfield 31, 3) := by decide +kernel
theorem dX2_add_49 : decode cX2_add 49 = .ok (.iload 4, 2) := by decide +kernel
theorem dX2_add_51 : decode cX2_add 51 = .ok (.bastore, 1) := by decide +kernel
theorem dX2_add_52 : decode cX2_add 52 = .ok (.aload_n 0, 1) := by decide +kernel
theorem dX2_add_53 : decode cX2_add 53 = .ok (.getfield 25, 3) := by decide +kernel
theorem dX2_add_56 : decode cX2_add 56 = .ok (.aload_n 0, 1) := by decide +kernel
theorem dX2_add_57 : decode cX2_add 57 = .ok (.getfield 31, 3) := by decide +kernel
theorem dX2_add_60 : decode cX2_add 60 = .ok (.aload_n 0, 1) := by decide +kernel
theorem dX2_add_61 : decode cX2_add 61 = .ok (.getfield 35, 3) := by decide +kernel
theorem dX2_add_64 : decode cX2_add 64 = .ok (.iastore, 1) := by decide +kernel
theorem dX2_add_65 : decode cX2_add 65 = .ok (.aload_n 0, 1) := by decide +kernel
theorem dX2_add_66 : decode cX2_add 66 = .ok (.getfield 28, 3) := by decide +kernel
theorem dX2_add_69 : decode cX2_add 69 = .ok (.aload_n 0, 1) := by decide +kernel
theorem dX2_add_70 : decode cX2_add 70 = .ok (.getfield 31, 3) := by decide +kernel
theorem dX2_add_73 : decode cX2_add 73 = .ok (.iconst (-1), 1) := by decide +kernel
theorem dX2_add_74 : decode cX2_add 74 = .ok (.iastore, 1) := by decide +kernel
theorem dX2_add_75 : decode cX2_add 75 = .ok (.aload_n 0, 1) := by decide +kernel
theorem dX2_add_76 : decode cX2_add 76 = .ok (.dup, 1) := by decide +kernel
theorem dX2_add_77 : decode cX2_add 77 = .ok (.getfield 31, 3) := by decide +kernel
theorem dX2_add_80 : decode cX2_add 80 = .ok (.iconst 1, 1) := by decide +kernel
theorem dX2_add_81 : decode cX2_add 81 = .ok (.iadd, 1) := by decide +kernel
theorem dX2_add_82 : decode cX2_add 82 = .ok (.putfield 31, 3) := by decide +kernel
theorem dX2_add_85 : decode cX2_add 85 = .ok (.aload_n 0, 1) := by decide +kernel
theorem dX2_add_86 : decode cX2_add 86 = .ok (.getfield 31, 3) := by decide +kernel
theorem dX2_add_89 : decode cX2_add 89 = .ok (.iconst 1, 1) := by decide +kernel
theorem dX2_add_90 : decode cX2_add 90 = .ok (.isub, 1) := by decide +kernel
theorem dX2_add_91 : decode cX2_add 91 = .ok (.ireturn, 1) := by decide +kernel
theorem dX2_ask_0 : decode cX2_ask 0 = .ok (.iconst 0, 1) := by decide +kernel
theorem dX2_ask_1 : decode cX2_ask 1 = .ok (.istore_n 3, 1) := by decide +kernel
theorem dX2_ask_2 : decode cX2_ask 2 = .ok (.iload_n 3, 1) := by decide +kernel
theorem dX2_ask_3 : decode cX2_ask 3 = .ok (.aload_n 0, 1) := by decide +kernel
theorem dX2_ask_4 : decode cX2_ask 4 = .ok (.getfield 31, 3) := by decide +kernel
theorem dX2_ask_7 : decode cX2_ask 7 = .ok (.if_icmp .ge 112, 3) := by decide +kernel
theorem dX2_ask_10 : decode cX2_ask 10 = .ok (.aload_n 0, 1) := by decide +kernel
theorem dX2_ask_11 : decode cX2_ask 11 = .ok (.getfield 25, 3) := by decide +kernel
theorem dX2_ask_14 : decode cX2_ask 14 = .ok (.iload_n 3, 1) := by decide +kernel
theorem dX2_ask_15 : decode cX2_ask 15 = .ok (.iaload, 1) := by decide +kernel
theorem dX2_ask_16 : decode cX2_ask 16 = .ok (.iload_n 2, 1) := by decide +kernel
theorem dX2_ask_17 : decode cX2_ask 17 = .ok (.if_icmp .gt 27, 3) := by decide +kernel
theorem dX2_ask_20 : decode cX2_ask 20 = .ok (.aload_n 0, 1) := by decide +kernel
theorem dX2_ask_21 : decode cX2_ask 21 = .ok (.getfield 28, 3) := by decide +kernel
theorem dX2_ask_24 : decode cX2_ask 24 = .ok (.iload_n 3, 1) := by decide +kernel
theorem dX2_ask_25 : decode cX2_ask 25 = .ok (.iaload, 1) := by decide +kernel
theorem dX2_ask_26 : decode cX2_ask 26 = .ok (.iconst (-1), 1) := by decide +kernel
theorem dX2_ask_27 : decode cX2_ask 27 = .ok (.if_icmp .eq 13, 3) := by decide +kernel
theorem dX2_ask_30 : decode cX2_ask 30 = .ok (.aload_n 0, 1) := by decide +kernel
theorem dX2_ask_31 : decode cX2_ask 31 = .ok (.getfield 28, 3) := by decide +kernel
theorem dX2_ask_34 : decode cX2_ask 34 = .ok (.iload_n 3, 1) := by decide +kernel
theorem dX2_ask_35 : decode cX2_ask 35 = .ok (.iaload, 1) := by decide +kernel
theorem dX2_ask_36 : decode cX2_ask 36 = .ok (.iload_n 2, 1) := by decide +kernel
theorem dX2_ask_37 : decode cX2_ask 37 = .ok (.if_icmp .le 7, 3) := by decide +kernel
theorem dX2_ask_40 : decode cX2_ask 40 = .ok (.iconst 1, 1) := by decide +kernel
theorem dX2_ask_41 : decode cX2_ask 41 = .ok (.goto 4, 3) := by decide +kernel
theorem dX2_ask_44 : decode cX2_ask 44 = .ok (.iconst 0, 1) := by decide +kernel
theorem dX2_ask_45 : decode cX2_ask 45 = .ok (.istore 4, 2) := by decide +kernel
theorem dX2_ask_47 : decode cX2_ask 47 = .ok (.iload 4, 2) := by decide +kernel
theorem dX2_ask_49 : decode cX2_ask 49 = .ok (.ifCond .eq 37, 3) := by decide +kernel
theorem dX2_ask_52 : decode cX2_ask 52 = .ok (.aload_n 0, 1) := by decide +kernel
theorem dX2_ask_53 : decode cX2_ask 53 = .ok (.getfield 18, 3) := by decide +kernel
theorem dX2_ask_56 : decode cX2_ask 56 = .ok (.iload_n 3, 1) := by decide +kernel
theorem dX2_ask_57 : decode cX2_ask 57 = .ok (.baload, 1) := by decide +kernel
theorem dX2_ask_58 : decode cX2_ask 58 = .ok (.ifCond .eq 28, 3) := by decide +kernel
theorem dX2_ask_61 : decode cX2_ask 61 = .ok (.aload_n 1, 1) := by decide +kernel
theorem dX2_ask_62 : decode cX2_ask 62 = .ok (.aload_n 0, 1) := by decide +kernel
theorem dX2_ask_63 : decode cX2_ask 63 = .ok (.getfield 11, 3) := by decide +kernel
theorem dX2_ask_66 : decode cX2_ask 66 = .ok (.iload_n 3, 1) := by decide +kernel
theorem dX2_ask_67 : decode cX2_ask 67 = .ok (.iaload, 1) := by decide +kernel
theorem dX2_ask_68 : decode cX2_ask 68 = .ok (.aload_n 0, 1) := by decide +kernel
theorem dX2_ask_69 : decode cX2_ask 69 = .ok (.getfield 15, 3) := by decide +kernel
theorem dX2_ask_72 : decode cX2_ask 72 = .ok (.iload_n 3, 1) := by decide +kernel
theorem dX2_ask_73 : decode cX2_ask 73 = .ok (.iaload, 1) := by decide +kernel
theorem dX2_ask_74 : decode cX2_ask 74 = .ok (.aload_n 0, 1) := by decide +kernel
theorem dX2_ask_75 : decode cX2_ask 75 = .ok (.getfield 22, 3) := by decide +kernel
theorem dX2_ask_78 : decode cX2_ask 78 = .ok (.iload_n 3, 1) := by decide +kernel
theorem dX2_ask_79 : decode cX2_ask 79 = .ok (.baload, 1) := by decide +kernel
theorem dX2_ask_80 : decode cX2_ask 80 = .ok (.invokevirtual 38, 3) := by decide +kernel
theorem dX2_ask_83 : decode cX2_ask 83 = .ok (.goto 30, 3) := by decide +kernel
theorem dX2_ask_86 : decode cX2_ask 86 = .ok (.iload 4, 2) := by decide +kernel
theorem dX2_ask_88 : decode cX2_ask 88 = .ok (.ifCond .eq 25, 3) := by decide +kernel
theorem dX2_ask_91 : decode cX2_ask 91 = .ok (.aload_n 1, 1) := by decide +kernel
theorem dX2_ask_92 : decode cX2_ask 92 = .ok (.aload_n 0, 1) := by decide +kernel
theorem dX2_ask_93 : decode cX2_ask 93 = .ok (.getfield 11, 3) := by decide +kernel
theorem dX2_ask_96 : decode cX2_ask 96 = .ok (.iload_n 3, 1) := by decide +kernel
theorem dX2_ask_97 : decode cX2_ask 97 = .ok (.iaload, 1) := by decide +kernel
theorem dX2_ask_98 : decode cX2_ask 98 = .ok (.aload_n 0, 1) := by decide +kernel
theorem dX2_ask_99 : decode cX2_ask 99 = .ok (.getfield 15, 3) := by decide +kernel
theorem dX2_ask_102 : decode cX2_ask 102 = .ok (.iload_n 3, 1) := by decide +kernel
theorem dX2_ask_103 : decode cX2_ask 103 = .ok (.iaload, 1) := by decide +kernel
theorem dX2_ask_104 : decode cX2_ask 104 = .ok (.aload_n 0, 1) := by decide +kernel
theorem dX2_ask_105 : decode cX2_ask 105 = .ok (.getfield 22, 3) := by decide +kernel
theorem dX2_ask_108 : decode cX2_ask 108 = .ok (.iload_n 3, 1) := by decide +kernel
theorem dX2_ask_109 : decode cX2_ask 109 = .ok (.baload, 1) := by decide +kernel
theorem dX2_ask_110 : decode cX2_ask 110 = .ok (.invokevirtual 44, 3) := by decide +kernel
theorem dX2_ask_113 : decode cX2_ask 113 = .ok (.iinc 3 1, 3) := by decide +kernel
theorem dX2_ask_116 : decode cX2_ask 116 = .ok (.goto (-114), 3) := by decide +kernel
theorem dX2_ask_119 : decode cX2_ask 119 = .ok (.return_, 1) := by decide +kernel
theorem dX2_drop_0 : decode cX2_drop 0 = .ok (.iload_n 1, 1) := by decide +kernel
theorem dX2_drop_1 : decode cX2_drop 1 = .ok (.ifCond .lt 21, 3) := by decide +kernel
theorem dX2_drop_4 : decode cX2_drop 4 = .ok (.iload_n 1, 1) := by decide +kernel
theorem dX2_drop_5 : decode cX2_drop 5 = .ok (.aload_n 0, 1) := by decide +kernel
theorem dX2_drop_6 : decode cX2_drop 6 = .ok (.getfield 31, 3) := by decide +kernel
theorem dX2_drop_9 : decode cX2_drop 9 = .ok (.if_icmp .ge 13, 3) := by decide +kernel
theorem dX2_drop_12 : decode cX2_drop 12 = .ok (.aload_n 0, 1) := by decide +kernel
theorem dX2_drop_13 : decode cX2_drop 13 = .ok (.getfield 28, 3) := by decide +kernel
theorem dX2_drop_16 : decode cX2_drop 16 = .ok (.iload_n 1, 1) := by decide +kernel
theorem dX2_drop_17 : decode cX2_drop 17 = .ok (.iaload, 1) := by decide +kernel
theorem dX2_drop_18 : decode cX2_drop 18 = .ok (.iconst (-1), 1) := by decide +kernel
theorem dX2_drop_19 : decode cX2_drop 19 = .ok (.if_icmp .eq 5, 3) := by decide +kernel
theorem dX2_drop_22 : decode cX2_drop 22 = .ok (.iconst 0, 1) := by decide +kernel
theorem dX2_drop_23 : decode cX2_drop 23 = .ok (.ireturn, 1) := by decide +kernel
theorem dX2_drop_24 : decode cX2_drop 24 = .ok (.aload_n 0, 1) := by decide +kernel
theorem dX2_drop_25 : decode cX2_drop 25 = .ok (.getfield 28, 3) := by decide +kernel
theorem dX2_drop_28 : decode cX2_drop 28 = .ok (.iload_n 1, 1) := by decide +kernel
theorem dX2_drop_29 : decode cX2_drop 29 = .ok (.aload_n 0, 1) := by decide +kernel
theorem dX2_drop_30 : decode cX2_drop 30 = .ok (.getfield 35, 3) := by decide +kernel
theorem dX2_drop_33 : decode cX2_drop 33 = .ok (.iastore, 1) := by decide +kernel
theorem dX2_drop_34 : decode cX2_drop 34 = .ok (.iconst 1, 1) := by decide +kernel
theorem dX2_drop_35 : decode cX2_drop 35 = .ok (.ireturn, 1) := by decide +kernel
theorem dX3_add_0 : decode cX3_add 0 = .ok (.aload_n 0, 1) := by decide +kernel
theorem dX3_add_1 : decode cX3_add 1 = .ok (.getfield 15, 3) := by decide +kernel
theorem dX3_add_4 : decode cX3_add 4 = .ok (.ifCond .lt 32, 3) := by decide +kernel
theorem dX3_add_7 : decode cX3_add 7 = .ok (.aload_n 0, 1) := by decide +kernel
theorem dX3_add_8 : decode cX3_add 8 = .ok (.getfield 15, 3) := by decide +kernel
theorem dX3_add_11 : decode cX3_add 11 = .ok (.bipush 9, 2) := by decide +kernel
theorem dX3_add_13 : decode cX3_add 13 = .ok (.if_icmp .ge 23, 3) := by decide +kernel
theorem dX3_add_16 : decode cX3_add 16 = .ok (.aload_n 0, 1) := by decide +kernel
theorem dX3_add_17 : decode cX3_add 17 = .ok (.getfield 9, 3) := by decide +kernel
theorem dX3_add_20 : decode cX3_add 20 = .ok (.aload_n 0, 1) := by decide +kernel
theorem dX3_add_21 : decode cX3_add 21 = .ok (.getfield 15, 3) := by decide +kernel
theorem dX3_add_24 : decode cX3_add 24 = .ok (.iload_n 1, 1) := by decide +kernel
theorem dX3_add_25 : decode cX3_add 25 = .ok (.iastore, 1) := by decide +kernel
theorem dX3_add_26 : decode cX3_add 26 = .ok (.aload_n 0, 1) := by decide +kernel
theorem dX3_add_27 : decode cX3_add 27 = .ok (.dup, 1) := by decide +kernel
theorem dX3_add_28 : decode cX3_add 28 = .ok (.getfield 15, 3) := by decide +kernel
theorem dX3_add_31 : decode cX3_add 31 = .ok (.iconst 1, 1) := by decide +kernel
theorem dX3_add_32 : decode cX3_add 32 = .ok (.iadd, 1) := by decide +kernel
theorem dX3_add_33 : decode cX3_add 33 = .ok (.putfield 15, 3) := by decide +kernel
theorem dX3_add_36 : decode cX3_add 36 = .ok (.return_, 1) := by decide +kernel
theorem dX3_copy_0 : decode cX3_copy 0 = .ok (.aload_n 1, 1) := by decide +kernel
theorem dX3_copy_1 : decode cX3_copy 1 = .ok (.getfield 9, 3) := by decide +kernel
theorem dX3_copy_4 : decode cX3_copy 4 = .ok (.iconst 0, 1) := by decide +kernel
theorem dX3_copy_5 : decode cX3_copy 5 = .ok (.aload_n 0, 1) := by decide +kernel
theorem dX3_copy_6 : decode cX3_copy 6 = .ok (.getfield 9, 3) := by decide +kernel
theorem dX3_copy_9 : decode cX3_copy 9 = .ok (.iconst 0, 1) := by decide +kernel
theorem dX3_copy_10 : decode cX3_copy 10 = .ok (.bipush 9, 2) := by decide +kernel
theorem dX3_copy_12 : decode cX3_copy 12 = .ok (.invokestatic 19, 3) := by decide +kernel
theorem dX3_copy_15 : decode cX3_copy 15 = .ok (.aload_n 0, 1) := by decide +kernel
theorem dX3_copy_16 : decode cX3_copy 16 = .ok (.aload_n 1, 1) := by decide +kernel
theorem dX3_copy_17 : decode cX3_copy 17 = .ok (.getfield 15, 3) := by decide +kernel
theorem dX3_copy_20 : decode cX3_copy 20 = .ok (.putfield 15, 3) := by decide +kernel
theorem dX3_copy_23 : decode cX3_copy 23 = .ok (.return_, 1) := by decide +kernel
theorem dX3_holds_0 : decode cX3_holds 0 = .ok (.iconst 0, 1) := by decide +kernel
theorem dX3_holds_1 : decode cX3_holds 1 = .ok (.istore_n 2, 1) := by decide +kernel
theorem dX3_holds_2 : decode cX3_holds 2 = .ok (.iload_n 2, 1) := by decide +kernel
theorem dX3_holds_3 : decode cX3_holds 3 = .ok (.aload_n 0, 1) := by decide +kernel
theorem dX3_holds_4 : decode cX3_holds 4 = .ok (.getfield 15, 3) := by decide +kernel
theorem dX3_holds_7 : decode cX3_holds 7 = .ok (.if_icmp .ge 21, 3) := by decide +kernel
theorem dX3_holds_10 : decode cX3_holds 10 = .ok (.aload_n 0, 1) := by decide +kernel
theorem dX3_holds_11 : decode cX3_holds 11 = .ok (.getfield 9, 3) := by decide +kernel
theorem dX3_holds_14 : decode cX3_holds 14 = .ok (.iload_n 2, 1) := by decide +kernel
theorem dX3_holds_15 : decode cX3_holds 15 = .ok (.iaload, 1) := by decide +kernel
theorem dX3_holds_16 : decode cX3_holds 16 = .ok (.iload_n 1, 1) := by decide +kernel
theorem dX3_holds_17 : decode cX3_holds 17 = .ok (.if_icmp .ne 5, 3) := by decide +kernel
theorem dX3_holds_20 : decode cX3_holds 20 = .ok (.iconst 1, 1) := by decide +kernel
theorem dX3_holds_21 : decode cX3_holds 21 = .ok (.ireturn, 1) := by decide +kernel
theorem dX3_holds_22 : decode cX3_holds 22 = .ok (.iinc 2 1, 3) := by decide +kernel
theorem dX3_holds_25 : decode cX3_holds 25 = .ok (.goto (-23), 3) := by decide +kernel
theorem dX3_holds_28 : decode cX3_holds 28 = .ok (.iconst 0, 1) := by decide +kernel
theorem dX3_holds_29 : decode cX3_holds 29 = .ok (.ireturn, 1) := by decide +kernel
theorem dX3_houseAt_0 : decode cX3_houseAt 0 = .ok (.iload_n 1, 1) := by decide +kernel
theorem dX3_houseAt_1 : decode cX3_houseAt 1 = .ok (.ifCond .lt 20, 3) := by decide +kernel
theorem dX3_houseAt_4 : decode cX3_houseAt 4 = .ok (.iload_n 1, 1) := by decide +kernel
theorem dX3_houseAt_5 : decode cX3_houseAt 5 = .ok (.aload_n 0, 1) := by decide +kernel
theorem dX3_houseAt_6 : decode cX3_houseAt 6 = .ok (.getfield 15, 3) := by decide +kernel
theorem dX3_houseAt_9 : decode cX3_houseAt 9 = .ok (.if_icmp .ge 12, 3) := by decide +kernel
theorem dX3_houseAt_12 : decode cX3_houseAt 12 = .ok (.aload_n 0, 1) := by decide +kernel
theorem dX3_houseAt_13 : decode cX3_houseAt 13 = .ok (.getfield 9, 3) := by decide +kernel
theorem dX3_houseAt_16 : decode cX3_houseAt 16 = .ok (.iload_n 1, 1) := by decide +kernel
theorem dX3_houseAt_17 : decode cX3_houseAt 17 = .ok (.iaload, 1) := by decide +kernel
theorem dX3_houseAt_18 : decode cX3_houseAt 18 = .ok (.goto 4, 3) := by decide +kernel
theorem dX3_houseAt_21 : decode cX3_houseAt 21 = .ok (.iconst (-1), 1) := by decide +kernel
theorem dX3_houseAt_22 : decode cX3_houseAt 22 = .ok (.ireturn, 1) := by decide +kernel
theorem dX4_ago_0 : decode cX4_ago 0 = .ok (.aload_n 0, 1) := by decide +kernel
theorem dX4_ago_1 : decode cX4_ago 1 = .ok (.getfield 9, 3) := by decide +kernel
theorem dX4_ago_4 : decode cX4_ago 4 = .ok (.iload_n 1, 1) := by decide +kernel
theorem dX4_ago_5 : decode cX4_ago 5 = .ok (.bipush 9, 2) := by decide +kernel
theorem dX4_ago_7 : decode cX4_ago 7 = .ok (.imul, 1) := by decide +kernel
theorem dX4_ago_8 : decode cX4_ago 8 = .ok (.iload_n 2, 1) := by decide +kernel
theorem dX4_ago_9 : decode cX4_ago 9 = .ok (.iadd, 1) := by decide +kernel
theorem dX4_ago_10 : decode cX4_ago 10 = .ok (.iaload, 1) := by decide +kernel
theorem dX4_ago_11 : decode cX4_ago 11 = .ok (.istore_n 3, 1) := by decide +kernel
theorem dX4_ago_12 : decode cX4_ago 12 = .ok (.iload_n 3, 1) := by decide +kernel
theorem dX4_ago_13 : decode cX4_ago 13 = .ok (.ifCond .ne 8, 3) := by decide +kernel
theorem dX4_ago_16 : decode cX4_ago 16 = .ok (.bipush 99, 2) := by decide +kernel
theorem dX4_ago_18 : decode cX4_ago 18 = .ok (.goto 16, 3) := by decide +kernel
theorem dX4_ago_21 : decode cX4_ago 21 = .ok (.bipush 99, 2) := by decide +kernel
theorem dX4_ago_23 : decode cX4_ago 23 = .ok (.aload_n 0, 1) := by decide +kernel
theorem dX4_ago_24 : decode cX4_ago 24 = .ok (.getfield 22, 3) := by decide +kernel
theorem dX4_ago_27 : decode cX4_ago 27 = .ok (.iload_n 3, 1) := by decide +kernel
theorem dX4_ago_28 : decode cX4_ago 28 = .ok (.isub, 1) := by decide +kernel
theorem dX4_ago_29 : decode cX4_ago 29 = .ok (.iconst 1, 1) := by decide +kernel
theorem dX4_ago_30 : decode cX4_ago 30 = .ok (.iadd, 1) := by decide +kernel
theorem dX4_ago_31 : decode cX4_ago 31 = .ok (.invokestatic 55, 3) := by decide +kernel
theorem dX4_ago_34 : decode cX4_ago 34 = .ok (.ireturn, 1) := by decide +kernel
theorem dX4_clear_0 : decode cX4_clear 0 = .ok (.aload_n 0, 1) := by decide +kernel
theorem dX4_clear_1 : decode cX4_clear 1 = .ok (.getfield 9, 3) := by decide +kernel
theorem dX4_clear_4 : decode cX4_clear 4 = .ok (.iconst 0, 1) := by decide +kernel
theorem dX4_clear_5 : decode cX4_clear 5 = .ok (.invokestatic 36, 3) := by decide +kernel
theorem dX4_clear_8 : decode cX4_clear 8 = .ok (.aload_n 0, 1) := by decide +kernel
theorem dX4_clear_9 : decode cX4_clear 9 = .ok (.getfield 18, 3) := by decide +kernel
theorem dX4_clear_12 : decode cX4_clear 12 = .ok (.iconst 0, 1) := by decide +kernel
theorem dX4_clear_13 : decode cX4_clear 13 = .ok (.putfield 42, 3) := by decide +kernel
theorem dX4_clear_16 : decode cX4_clear 16 = .ok (.aload_n 0, 1) := by decide +kernel
theorem dX4_clear_17 : decode cX4_clear 17 = .ok (.iconst 0, 1) := by decide +kernel
theorem dX4_clear_18 : decode cX4_clear 18 = .ok (.putfield 22, 3) := by decide +kernel
theorem dX4_clear_21 : decode cX4_clear 21 = .ok (.aload_n 0, 1) := by decide +kernel
theorem dX4_clear_22 : decode cX4_clear 22 = .ok (.iconst 0, 1) := by decide +kernel
theorem dX4_clear_23 : decode cX4_clear 23 = .ok (.putfield 26, 3) := by decide +kernel
theorem dX4_clear_26 : decode cX4_clear 26 = .ok (.return_, 1) := by decide +kernel
theorem dX4_copy_0 : decode cX4_copy 0 = .ok (.aload_n 1, 1) := by decide +kernel
theorem dX4_copy_1 : decode cX4_copy 1 = .ok (.getfield 9, 3) := by decide +kernel
theorem dX4_copy_4 : decode cX4_copy 4 = .ok (.iconst 0, 1) := by decide +kernel
theorem dX4_copy_5 : decode cX4_copy 5 = .ok (.aload_n 0, 1) := by decide +kernel
theorem dX4_copy_6 : decode cX4_copy 6 = .ok (.getfield 9, 3) := by decide +kernel
theorem dX4_copy_9 : decode cX4_copy 9 = .ok (.iconst 0, 1) := by decide +kernel
theorem dX4_copy_10 : decode cX4_copy 10 = .ok (.bipush 81, 2) := by decide +kernel
theorem dX4_copy_12 : decode cX4_copy 12 = .ok (.invokestatic 45, 3) := by decide +kernel
theorem dX4_copy_15 : decode cX4_copy 15 = .ok (.aload_n 0, 1) := by decide +kernel
theorem dX4_copy_16 : decode cX4_copy 16 = .ok (.getfield 18, 3) := by decide +kernel
theorem dX4_copy_19 : decode cX4_copy 19 = .ok (.aload_n 1, 1) := by decide +kernel
theorem dX4_copy_20 : decode cX4_copy 20 = .ok (.getfield 18, 3) := by decide +kernel
theorem dX4_copy_23 : decode cX4_copy 23 = .ok (.invokevirtual 51, 3) := by decide +kernel
theorem dX4_copy_26 : decode cX4_copy 26 = .ok (.aload_n 0, 1) := by decide +kernel
theorem dX4_copy_27 : decode cX4_copy 27 = .ok (.aload_n 1, 1) := by decide +kernel
theorem dX4_copy_28 : decode cX4_copy 28 = .ok (.getfield 22, 3) := by decide +kernel
theorem dX4_copy_31 : decode cX4_copy 31 = .ok (.putfield 22, 3) := by decide +kernel
theorem dX4_copy_34 : decode cX4_copy 34 = .ok (.aload_n 0, 1) := by decide +kernel
theorem dX4_copy_35 : decode cX4_copy 35 = .ok (.aload_n 1, 1) := by decide +kernel
theorem dX4_copy_36 : decode cX4_copy 36 = .ok (.getfield 26, 3) := by decide +kernel
theorem dX4_copy_39 : decode cX4_copy 39 = .ok (.putfield 26, 3) := by decide +kernel
theorem dX4_copy_42 : decode cX4_copy 42 = .ok (.aload_n 0, 1) := by decide +kernel
theorem dX4_copy_43 : decode cX4_copy 43 = .ok (.aload_n 1, 1) := by decide +kernel
theorem dX4_copy_44 : decode cX4_copy 44 = .ok (.getfield 29, 3) := by decide +kernel
theorem dX4_copy_47 : decode cX4_copy 47 = .ok (.putfield 29, 3) := by decide +kernel
theorem dX4_copy_50 : decode cX4_copy 50 = .ok (.return_, 1) := by decide +kernel
theorem dX4_meet_0 : decode cX4_meet 0 = .ok (.aload_n 0, 1) := by decide +kernel
theorem dX4_meet_1 : decode cX4_meet 1 = .ok (.getfield 9, 3) := by decide +kernel
theorem dX4_meet_4 : decode cX4_meet 4 = .ok (.iload_n 1, 1) := by decide +kernel
theorem dX4_meet_5 : decode cX4_meet 5 = .ok (.bipush 9, 2) := by decide +kernel
theorem dX4_meet_7 : decode cX4_meet 7 = .ok (.imul, 1) := by decide +kernel
theorem dX4_meet_8 : decode cX4_meet 8 = .ok (.iload_n 2, 1) := by decide +kernel
theorem dX4_meet_9 : decode cX4_meet 9 = .ok (.iadd, 1) := by decide +kernel
theorem dX4_meet_10 : decode cX4_meet 10 = .ok (.aload_n 0, 1) := by decide +kernel
theorem dX4_meet_11 : decode cX4_meet 11 = .ok (.getfield 22, 3) := by decide +kernel
theorem dX4_meet_14 : decode cX4_meet 14 = .ok (.iastore, 1) := by decide +kernel
theorem dX4_meet_15 : decode cX4_meet 15 = .ok (.aload_n 0, 1) := by decide +kernel
theorem dX4_meet_16 : decode cX4_meet 16 = .ok (.getfield 9, 3) := by decide +kernel
theorem dX4_meet_19 : decode cX4_meet 19 = .ok (.iload_n 2, 1) := by decide +kernel
theorem dX4_meet_20 : decode cX4_meet 20 = .ok (.bipush 9, 2) := by decide +kernel
theorem dX4_meet_22 : decode cX4_meet 22 = .ok (.imul, 1) := by decide +kernel
theorem dX4_meet_23 : decode cX4_meet 23 = .ok (.iload_n 1, 1) := by decide +kernel
theorem dX4_meet_24 : decode cX4_meet 24 = .ok (.iadd, 1) := by decide +kernel
theorem dX4_meet_25 : decode cX4_meet 25 = .ok (.aload_n 0, 1) := by decide +kernel
theorem dX4_meet_26 : decode cX4_meet 26 = .ok (.getfield 22, 3) := by decide +kernel
theorem dX4_meet_29 : decode cX4_meet 29 = .ok (.iastore, 1) := by decide +kernel
theorem dX4_meet_30 : decode cX4_meet 30 = .ok (.return_, 1) := by decide +kernel
theorem dX4_placeOf_0 : decode cX4_placeOf 0 = .ok (.iconst 0, 1) := by decide +kernel
theorem dX4_placeOf_1 : decode cX4_placeOf 1 = .ok (.istore_n 2, 1) := by decide +kernel
theorem dX4_placeOf_2 : decode cX4_placeOf 2 = .ok (.iload_n 2, 1) := by decide +kernel
theorem dX4_placeOf_3 : decode cX4_placeOf 3 = .ok (.aload_n 0, 1) := by decide +kernel
theorem dX4_placeOf_4 : decode cX4_placeOf 4 = .ok (.getfield 18, 3) := by decide +kernel
theorem dX4_placeOf_7 : decode cX4_placeOf 7 = .ok (.getfield 42, 3) := by decide +kernel
theorem dX4_placeOf_10 : decode cX4_placeOf 10 = .ok (.if_icmp .ge 24, 3) := by decide +kernel
theorem dX4_placeOf_13 : decode cX4_placeOf 13 = .ok (.aload_n 0, 1) := by decide +kernel
theorem dX4_placeOf_14 : decode cX4_placeOf 14 = .ok (.getfield 18, 3) := by decide +kernel
theorem dX4_placeOf_17 : decode cX4_placeOf 17 = .ok (.getfield 61, 3) := by decide +kernel
theorem dX4_placeOf_20 : decode cX4_placeOf 20 = .ok (.iload_n 2, 1) := by decide +kernel
theorem dX4_placeOf_21 : decode cX4_placeOf 21 = .ok (.iaload, 1) := by decide +kernel
theorem dX4_placeOf_22 : decode cX4_placeOf 22 = .ok (.iload_n 1, 1) := by decide +kernel
theorem dX4_placeOf_23 : decode cX4_placeOf 23 = .ok (.if_icmp .ne 5, 3) := by decide +kernel
theorem dX4_placeOf_26 : decode cX4_placeOf 26 = .ok (.iload_n 2, 1) := by decide +kernel
theorem dX4_placeOf_27 : decode cX4_placeOf 27 = .ok (.ireturn, 1) := by decide +kernel
theorem dX4_placeOf_28 : decode cX4_placeOf 28 = .ok (.iinc 2 1, 3) := by decide +kernel
theorem dX4_placeOf_31 : decode cX4_placeOf 31 = .ok (.goto (-29), 3) := by decide +kernel
theorem dX4_placeOf_34 : decode cX4_placeOf 34 = .ok (.iconst (-1), 1) := by decide +kernel
theorem dX4_placeOf_35 : decode cX4_placeOf 35 = .ok (.ireturn, 1) := by decide +kernel
theorem dX5_accepts_0 : decode cX5_accepts 0 = .ok (.aload_n 0, 1) := by decide +kernel
theorem dX5_accepts_1 : decode cX5_accepts 1 = .ok (.aload_n 1, 1) := by decide +kernel
theorem dX5_accepts_2 : decode cX5_accepts 2 = .ok (.iload_n 2, 1) := by decide +kernel
theorem dX5_accepts_3 : decode cX5_accepts 3 = .ok (.sipush 1600, 3) := by decide +kernel
theorem dX5_accepts_6 : decode cX5_accepts 6 = .ok (.invokestatic 71, 3) := by decide +kernel
theorem dX5_accepts_9 : decode cX5_accepts 9 = .ok (.invokevirtual 77, 3) := by decide +kernel
theorem dX5_accepts_12 : decode cX5_accepts 12 = .ok (.aload_n 0, 1) := by decide +kernel
theorem dX5_accepts_13 : decode cX5_accepts 13 = .ok (.getfield 35, 3) := by decide +kernel
theorem dX5_accepts_16 : decode cX5_accepts 16 = .ok (.invokevirtual 81, 3) := by decide +kernel
theorem dX5_accepts_19 : decode cX5_accepts 19 = .ok (.aload_n 0, 1) := by decide +kernel
theorem dX5_accepts_20 : decode cX5_accepts 20 = .ok (.iconst 0, 1) := by decide +kernel
theorem dX5_accepts_21 : decode cX5_accepts 21 = .ok (.putfield 29, 3) := by decide +kernel
theorem dX5_accepts_24 : decode cX5_accepts 24 = .ok (.aload_n 0, 1) := by decide +kernel
theorem dX5_accepts_25 : decode cX5_accepts 25 = .ok (.iconst 0, 1) := by decide +kernel
theorem dX5_accepts_26 : decode cX5_accepts 26 = .ok (.putfield 39, 3) := by decide +kernel
theorem dX5_accepts_29 : decode cX5_accepts 29 = .ok (.aload_n 0, 1) := by decide +kernel
theorem dX5_accepts_30 : decode cX5_accepts 30 = .ok (.iconst 0, 1) := by decide +kernel
theorem dX5_accepts_31 : decode cX5_accepts 31 = .ok (.putfield 43, 3) := by decide +kernel
theorem dX5_accepts_34 : decode cX5_accepts 34 = .ok (.aload_n 0, 1) := by decide +kernel
theorem dX5_accepts_35 : decode cX5_accepts 35 = .ok (.iconst 0, 1) := by decide +kernel
theorem dX5_accepts_36 : decode cX5_accepts 36 = .ok (.putfield 46, 3) := by decide +kernel
theorem dX5_accepts_39 : decode cX5_accepts 39 = .ok (.aload_n 0, 1) := by decide +kernel
theorem dX5_accepts_40 : decode cX5_accepts 40 = .ok (.iconst 0, 1) := by decide +kernel
theorem dX5_accepts_41 : decode cX5_accepts 41 = .ok (.putfield 49, 3) := by decide +kernel
theorem dX5_accepts_44 : decode cX5_accepts 44 = .ok (.aload_n 0, 1) := by decide +kernel
theorem dX5_accepts_45 : decode cX5_accepts 45 = .ok (.iconst (-1), 1) := by decide +kernel
theorem dX5_accepts_46 : decode cX5_accepts 46 = .ok (.putfield 52, 3) := by decide +kernel
theorem dX5_accepts_49 : decode cX5_accepts 49 = .ok (.iconst 0, 1) := by decide +kernel
theorem dX5_accepts_50 : decode cX5_accepts 50 = .ok (.istore_n 3, 1) := by decide +kernel
theorem dX5_accepts_51 : decode cX5_accepts 51 = .ok (.iload_n 3, 1) := by decide +kernel
theorem dX5_accepts_52 : decode cX5_accepts 52 = .ok (.aload_n 0, 1) := by decide +kernel
theorem dX5_accepts_53 : decode cX5_accepts 53 = .ok (.getfield 25, 3) := by decide +kernel
theorem dX5_accepts_56 : decode cX5_accepts 56 = .ok (.if_icmp .ge 34, 3) := by decide +kernel
theorem dX5_accepts_59 : decode cX5_accepts 59 = .ok (.aload_n 0, 1) := by decide +kernel
theorem dX5_accepts_60 : decode cX5_accepts 60 = .ok (.getfield 49, 3) := by decide +kernel
theorem dX5_accepts_63 : decode cX5_accepts 63 = .ok (.ifCond .ne 27, 3) := by decide +kernel
theorem dX5_accepts_66 : decode cX5_accepts 66 = .ok (.aload_n 0, 1) := by decide +kernel
theorem dX5_accepts_67 : decode cX5_accepts 67 = .ok (.getfield 15, 3) := by decide +kernel
theorem dX5_accepts_70 : decode cX5_accepts 70 = .ok (.aload_n 0, 1) := by decide +kernel
theorem dX5_accepts_71 : decode cX5_accepts 71 = .ok (.getfield 29, 3) := by decide +kernel
theorem dX5_accepts_74 : decode cX5_accepts 74 = .ok (.iaload, 1) := by decide +kernel
theorem dX5_accepts_75 : decode cX5_accepts 75 = .ok (.bipush 28, 2) := by decide +kernel
theorem dX5_accepts_77 : decode cX5_accepts 77 = .ok (.if_icmp .eq 13, 3) := by decide +kernel
theorem dX5_accepts_80 : decode cX5_accepts 80 = .ok (.aload_n 0, 1) := by decide +kernel
theorem dX5_accepts_81 : decode cX5_accepts 81 = .ok (.invokevirtual 84, 3) := by decide +kernel
theorem dX5_accepts_84 : decode cX5_accepts 84 = .ok (.iinc 3 1, 3) := by decide +kernel
theorem dX5_accepts_87 : decode cX5_accepts 87 = .ok (.goto (-36), 3) := by decide +kernel
theorem dX5_accepts_90 : decode cX5_accepts 90 = .ok (.aload_n 0, 1) := by decide +kernel
theorem dX5_accepts_91 : decode cX5_accepts 91 = .ok (.getfield 49, 3) := by decide +kernel
theorem dX5_accepts_94 : decode cX5_accepts 94 = .ok (.ifCond .ne 7, 3) := by decide +kernel
theorem dX5_accepts_97 : decode cX5_accepts 97 = .ok (.iconst 1, 1) := by decide +kernel
theorem dX5_accepts_98 : decode cX5_accepts 98 = .ok (.goto 4, 3) := by decide +kernel
theorem dX5_accepts_101 : decode cX5_accepts 101 = .ok (.iconst 0, 1) := by decide +kernel
theorem dX5_accepts_102 : decode cX5_accepts 102 = .ok (.ireturn, 1) := by decide +kernel
theorem dX5_begin_0 : decode cX5_begin 0 = .ok (.iload_n 1, 1) := by decide +kernel
theorem dX5_begin_1 : decode cX5_begin 1 = .ok (.ifCond .ne 8, 3) := by decide +kernel
theorem dX5_begin_4 : decode cX5_begin 4 = .ok (.aload_n 0, 1) := by decide +kernel
theorem dX5_begin_5 : decode cX5_begin 5 = .ok (.iconst 2, 1) := by decide +kernel
theorem dX5_begin_6 : decode cX5_begin 6 = .ok (.invokevirtual 118, 3) := by decide +kernel
theorem dX5_begin_9 : decode cX5_begin 9 = .ok (.aload_n 0, 1) := by decide +kernel
theorem dX5_begin_10 : decode cX5_begin 10 = .ok (.invokevirtual 122, 3) := by decide +kernel
theorem dX5_begin_13 : decode cX5_begin 13 = .ok (.return_, 1) := by decide +kernel
theorem dX5_exchange_0 : decode cX5_exchange 0 = .ok (.aload_n 0, 1) := by decide +kernel
theorem dX5_exchange_1 : decode cX5_exchange 1 = .ok (.getfield 35, 3) := by decide +kernel
theorem dX5_exchange_4 : decode cX5_exchange 4 = .ok (.astore_n 2, 1) := by decide +kernel
theorem dX5_exchange_5 : decode cX5_exchange 5 = .ok (.aload_n 0, 1) := by decide +kernel
theorem dX5_exchange_6 : decode cX5_exchange 6 = .ok (.aload_n 1, 1) := by decide +kernel
theorem dX5_exchange_7 : decode cX5_exchange 7 = .ok (.putfield 35, 3) := by decide +kernel
theorem dX5_exchange_10 : decode cX5_exchange 10 = .ok (.aload_n 2, 1) := by decide +kernel
theorem dX5_exchange_11 : decode cX5_exchange 11 = .ok (.areturn, 1) := by decide +kernel
theorem dX5_expect_0 : decode cX5_expect 0 = .ok (.aload_n 0, 1) := by decide +kernel
theorem dX5_expect_1 : decode cX5_expect 1 = .ok (.getfield 15, 3) := by decide +kernel
theorem dX5_expect_4 : decode cX5_expect 4 = .ok (.aload_n 0, 1) := by decide +kernel
theorem dX5_expect_5 : decode cX5_expect 5 = .ok (.getfield 29, 3) := by decide +kernel
theorem dX5_expect_8 : decode cX5_expect 8 = .ok (.iaload, 1) := by decide +kernel
theorem dX5_expect_9 : decode cX5_expect 9 = .ok (.iload_n 1, 1) := by decide +kernel
theorem dX5_expect_10 : decode cX5_expect 10 = .ok (.if_icmp .eq 8, 3) := by decide +kernel
theorem dX5_expect_13 : decode cX5_expect 13 = .ok (.aload_n 0, 1) := by decide +kernel
theorem dX5_expect_14 : decode cX5_expect 14 = .ok (.iconst 2, 1) := by decide +kernel
theorem dX5_expect_15 : decode cX5_expect 15 = .ok (.invokevirtual 118, 3) := by decide +kernel
theorem dX5_expect_18 : decode cX5_expect 18 = .ok (.aload_n 0, 1) := by decide +kernel
theorem dX5_expect_19 : decode cX5_expect 19 = .ok (.invokevirtual 122, 3) := by decide +kernel
theorem dX5_expect_22 : decode cX5_expect 22 = .ok (.return_, 1) := by decide +kernel
theorem dX5_isDigit_0 : decode cX5_isDigit 0 = .ok (.iload_n 0, 1) := by decide +kernel
theorem dX5_isDigit_1 : decode cX5_isDigit 1 = .ok (.bipush 48, 2) := by decide +kernel
theorem dX5_isDigit_3 : decode cX5_isDigit 3 = .ok (.if_icmp .lt 13, 3) := by decide +kernel
theorem dX5_isDigit_6 : decode cX5_isDigit 6 = .ok (.iload_n 0, 1) := by decide +kernel
theorem dX5_isDigit_7 : decode cX5_isDigit 7 = .ok (.bipush 57, 2) := by decide +kernel
theorem dX5_isDigit_9 : decode cX5_isDigit 9 = .ok (.if_icmp .gt 7, 3) := by decide +kernel
theorem dX5_isDigit_12 : decode cX5_isDigit 12 = .ok (.iconst 1, 1) := by decide +kernel
theorem dX5_isDigit_13 : decode cX5_isDigit 13 = .ok (.goto 4, 3) := by decide +kernel
theorem dX5_isDigit_16 : decode cX5_isDigit 16 = .ok (.iconst 0, 1) := by decide +kernel
theorem dX5_isDigit_17 : decode cX5_isDigit 17 = .ok (.ireturn, 1) := by decide +kernel
theorem dX5_isLetter_0 : decode cX5_isLetter 0 = .ok (.iload_n 0, 1) := by decide +kernel
theorem dX5_isLetter_1 : decode cX5_isLetter 1 = .ok (.bipush 97, 2) := by decide +kernel
theorem dX5_isLetter_3 : decode cX5_isLetter 3 = .ok (.if_icmp .lt 13, 3) := by decide +kernel
theorem dX5_isLetter_6 : decode cX5_isLetter 6 = .ok (.iload_n 0, 1) := by decide +kernel
theorem dX5_isLetter_7 : decode cX5_isLetter 7 = .ok (.bipush 122, 2) := by decide +kernel
theorem dX5_isLetter_9 : decode cX5_isLetter 9 = .ok (.if_icmp .gt 7, 3) := by decide +kernel
theorem dX5_isLetter_12 : decode cX5_isLetter 12 = .ok (.iconst 1, 1) := by decide +kernel
theorem dX5_isLetter_13 : decode cX5_isLetter 13 = .ok (.goto 4, 3) := by decide +kernel
theorem dX5_isLetter_16 : decode cX5_isLetter 16 = .ok (.iconst 0, 1) := by decide +kernel
theorem dX5_isLetter_17 : decode cX5_isLetter 17 = .ok (.ireturn, 1) := by decide +kernel
theorem dX5_kindOf_0 : decode cX5_kindOf 0 = .ok (.iconst 0, 1) := by decide +kernel
theorem dX5_kindOf_1 : decode cX5_kindOf 1 = .ok (.istore_n 3, 1) := by decide +kernel
theorem dX5_kindOf_2 : decode cX5_kindOf 2 = .ok (.iload_n 3, 1) := by decide +kernel
theorem dX5_kindOf_3 : decode cX5_kindOf 3 = .ok (.bipush 15, 2) := by decide +kernel
theorem dX5_kindOf_5 : decode cX5_kindOf 5 = .ok (.if_icmp .ge 24, 3) := by decide +kernel
theorem dX5_kindOf_8 : decode cX5_kindOf 8 = .ok (.aload_n 0, 1) := by decide +kernel
theorem dX5_kindOf_9 : decode cX5_kindOf 9 = .ok (.getfield 9, 3) := by decide +kernel
theorem dX5_kindOf_12 : decode cX5_kindOf 12 = .ok (.iload_n 3, 1) := by decide +kernel
theorem dX5_kindOf_13 : decode cX5_kindOf 13 = .ok (.laload, 1) := by decide +kernel
theorem dX5_kindOf_14 : decode cX5_kindOf 14 = .ok (.lload_n 1, 1) := by decide +kernel
theorem dX5_kindOf_15 : decode cX5_kindOf 15 = .ok (.lcmp, 1) := by decide +kernel
theorem dX5_kindOf_16 : decode cX5_kindOf 16 = .ok (.ifCond .ne 7, 3) := by decide +kernel
theorem dX5_kindOf_19 : decode cX5_kindOf 19 = .ok (.iload_n 3, 1) := by decide +kernel
theorem dX5_kindOf_20 : decode cX5_kindOf 20 = .ok (.iconst 1, 1) := by decide +kernel
theorem dX5_kindOf_21 : decode cX5_kindOf 21 = .ok (.iadd, 1) := by decide +kernel
theorem dX5_kindOf_22 : decode cX5_kindOf 22 = .ok (.ireturn, 1) := by decide +kernel
theorem dX5_kindOf_23 : decode cX5_kindOf 23 = .ok (.iinc 3 1, 3) := by decide +kernel
theorem dX5_kindOf_26 : decode cX5_kindOf 26 = .ok (.goto (-24), 3) := by decide +kernel
theorem dX5_kindOf_29 : decode cX5_kindOf 29 = .ok (.bipush 16, 2) := by decide +kernel
theorem dX5_kindOf_31 : decode cX5_kindOf 31 = .ok (.ireturn, 1) := by decide +kernel
theorem dX5_levelOf_0 : decode cX5_levelOf 0 = .ok (.iload_n 0, 1) := by decide +kernel
theorem dX5_levelOf_1 : decode cX5_levelOf 1 = .ok (.tableswitch 101 9 27 #[91, 93, 101, 101, 101, 101, 101, 101, 101, 101, 101, 101, 95, 95, 95, 97, 97, 99, 99], 91) := by decide +kernel
theorem dX5_levelOf_92 : decode cX5_levelOf 92 = .ok (.iconst 0, 1) := by decide +kernel
theorem dX5_levelOf_93 : decode cX5_levelOf 93 = .ok (.ireturn, 1) := by decide +kernel
theorem dX5_levelOf_94 : decode cX5_levelOf 94 = .ok (.iconst 1, 1) := by decide +kernel
theorem dX5_levelOf_95 : decode cX5_levelOf 95 = .ok (.ireturn, 1) := by decide +kernel
theorem dX5_levelOf_96 : decode cX5_levelOf 96 = .ok (.iconst 2, 1) := by decide +kernel
theorem dX5_levelOf_97 : decode cX5_levelOf 97 = .ok (.ireturn, 1) := by decide +kernel
theorem dX5_levelOf_98 : decode cX5_levelOf 98 = .ok (.iconst 3, 1) := by decide +kernel
theorem dX5_levelOf_99 : decode cX5_levelOf 99 = .ok (.ireturn, 1) := by decide +kernel
theorem dX5_levelOf_100 : decode cX5_levelOf 100 = .ok (.iconst 4, 1) := by decide +kernel
theorem dX5_levelOf_101 : decode cX5_levelOf 101 = .ok (.ireturn, 1) := by decide +kernel
theorem dX5_levelOf_102 : decode cX5_levelOf 102 = .ok (.iconst (-1), 1) := by decide +kernel
theorem dX5_levelOf_103 : decode cX5_levelOf 103 = .ok (.ireturn, 1) := by decide +kernel
theorem dX5_put_0 : decode cX5_put 0 = .ok (.aload_n 0, 1) := by decide +kernel
theorem dX5_put_1 : decode cX5_put 1 = .ok (.getfield 25, 3) := by decide +kernel
theorem dX5_put_4 : decode cX5_put 4 = .ok (.sipush 1600, 3) := by decide +kernel
theorem dX5_put_7 : decode cX5_put 7 = .ok (.if_icmp .gt 43, 3) := by decide +kernel
theorem dX5_put_10 : decode cX5_put 10 = .ok (.aload_n 0, 1) := by decide +kernel
theorem dX5_put_11 : decode cX5_put 11 = .ok (.getfield 15, 3) := by decide +kernel
theorem dX5_put_14 : decode cX5_put 14 = .ok (.aload_n 0, 1) := by decide +kernel
theorem dX5_put_15 : decode cX5_put 15 = .ok (.getfield 25, 3) := by decide +kernel
theorem dX5_put_18 : decode cX5_put 18 = .ok (.iload_n 1, 1) := by decide +kernel
theorem dX5_put_19 : decode cX5_put 19 = .ok (.iastore, 1) := by decide +kernel
theorem dX5_put_20 : decode cX5_put 20 = .ok (.aload_n 0, 1) := by decide +kernel
theorem dX5_put_21 : decode cX5_put 21 = .ok (.getfield 19, 3) := by decide +kernel
theorem dX5_put_24 : decode cX5_put 24 = .ok (.aload_n 0, 1) := by decide +kernel
theorem dX5_put_25 : decode cX5_put 25 = .ok (.getfield 25, 3) := by decide +kernel
theorem dX5_put_28 : decode cX5_put 28 = .ok (.iload_n 2, 1) := by decide +kernel
theorem dX5_put_29 : decode cX5_put 29 = .ok (.iastore, 1) := by decide +kernel
theorem dX5_put_30 : decode cX5_put 30 = .ok (.aload_n 0, 1) := by decide +kernel
theorem dX5_put_31 : decode cX5_put 31 = .ok (.getfield 22, 3) := by decide +kernel
theorem dX5_put_34 : decode cX5_put 34 = .ok (.aload_n 0, 1) := by decide +kernel
theorem dX5_put_35 : decode cX5_put 35 = .ok (.getfield 25, 3) := by decide +kernel
theorem dX5_put_38 : decode cX5_put 38 = .ok (.lload_n 3, 1) := by decide +kernel
theorem dX5_put_39 : decode cX5_put 39 = .ok (.lastore, 1) := by decide +kernel
theorem dX5_put_40 : decode cX5_put 40 = .ok (.aload_n 0, 1) := by decide +kernel
theorem dX5_put_41 : decode cX5_put 41 = .ok (.dup, 1) := by decide +kernel
theorem dX5_put_42 : decode cX5_put 42 = .ok (.getfield 25, 3) := by decide +kernel
theorem dX5_put_45 : decode cX5_put 45 = .ok (.iconst 1, 1) := by decide +kernel
theorem dX5_put_46 : decode cX5_put 46 = .ok (.iadd, 1) := by decide +kernel
theorem dX5_put_47 : decode cX5_put 47 = .ok (.putfield 25, 3) := by decide +kernel
theorem dX5_put_50 : decode cX5_put 50 = .ok (.return_, 1) := by decide +kernel
theorem dX5_readBears_0 : decode cX5_readBears 0 = .ok (.aload_n 0, 1) := by decide +kernel
theorem dX5_readBears_1 : decode cX5_readBears 1 = .ok (.iconst 1, 1) := by decide +kernel
theorem dX5_readBears_2 : decode cX5_readBears 2 = .ok (.putfield 43, 3) := by decide +kernel
theorem dX5_readBears_5 : decode cX5_readBears 5 = .ok (.aload_n 0, 1) := by decide +kernel
theorem dX5_readBears_6 : decode cX5_readBears 6 = .ok (.getfield 35, 3) := by decide +kernel
theorem dX5_readBears_9 : decode cX5_readBears 9 = .ok (.getfield 125, 3) := by decide +kernel
theorem dX5_readBears_12 : decode cX5_readBears 12 = .ok (.ifCond .ne 8, 3) := by decide +kernel
theorem dX5_readBears_15 : decode cX5_readBears 15 = .ok (.aload_n 0, 1) := by decide +kernel
theorem dX5_readBears_16 : decode cX5_readBears 16 = .ok (.iconst 2, 1) := by decide +kernel
theorem dX5_readBears_17 : decode cX5_readBears 17 = .ok (.invokevirtual 118, 3) := by decide +kernel
theorem dX5_readBears_20 : decode cX5_readBears 20 = .ok (.iconst 0, 1) := by decide +kernel
theorem dX5_readBears_21 : decode cX5_readBears 21 = .ok (.istore_n 1, 1) := by decide +kernel
theorem dX5_readBears_22 : decode cX5_readBears 22 = .ok (.iload_n 1, 1) := by decide +kernel
theorem dX5_readBears_23 : decode cX5_readBears 23 = .ok (.aload_n 0, 1) := by decide +kernel
theorem dX5_readBears_24 : decode cX5_readBears 24 = .ok (.getfield 35, 3) := by decide +kernel
theorem dX5_readBears_27 : decode cX5_readBears 27 = .ok (.getfield 125, 3) := by decide +kernel
theorem dX5_readBears_30 : decode cX5_readBears 30 = .ok (.if_icmp .ge 26, 3) := by decide +kernel
theorem dX5_readBears_33 : decode cX5_readBears 33 = .ok (.aload_n 0, 1) := by decide +kernel
theorem dX5_readBears_34 : decode cX5_readBears 34 = .ok (.getfield 35, 3) := by decide +kernel
theorem dX5_readBears_37 : decode cX5_readBears 37 = .ok (.getfield 169, 3) := by decide +kernel
theorem dX5_readBears_40 : decode cX5_readBears 40 = .ok (.iload_n 1, 1) := by decide +kernel
theorem dX5_readBears_41 : decode cX5_readBears 41 = .ok (.aload_n 0, 1) := by decide +kernel
theorem dX5_readBears_42 : decode cX5_readBears 42 = .ok (.iconst 0, 1) := by decide +kernel
theorem dX5_readBears_43 : decode cX5_readBears 43 = .ok (.sipush 999, 3) := by decide +kernel
theorem dX5_readBears_46 : decode cX5_readBears 46 = .ok (.invokevirtual 162, 3) := by decide +kernel
theorem dX5_readBears_49 : decode cX5_readBears 49 = .ok (.iastore, 1) := by decide +kernel
theorem dX5_readBears_50 : decode cX5_readBears 50 = .ok (.iinc 1 1, 3) := by decide +kernel
theorem dX5_readBears_53 : decode cX5_readBears 53 = .ok (.goto (-31), 3) := by decide +kernel
theorem dX5_readBears_56 : decode cX5_readBears 56 = .ok (.return_, 1) := by decide +kernel
theorem dX5_readHouse_0 : decode cX5_readHouse 0 = .ok (.aload_n 0, 1) := by decide +kernel
theorem dX5_readHouse_1 : decode cX5_readHouse 1 = .ok (.getfield 22, 3) := by decide +kernel
theorem dX5_readHouse_4 : decode cX5_readHouse 4 = .ok (.aload_n 0, 1) := by decide +kernel
theorem dX5_readHouse_5 : decode cX5_readHouse 5 = .ok (.getfield 29, 3) := by decide +kernel
theorem dX5_readHouse_8 : decode cX5_readHouse 8 = .ok (.laload, 1) := by decide +kernel
theorem dX5_readHouse_9 : decode cX5_readHouse 9 = .ok (.lstore_n 1, 1) := by decide +kernel
theorem dX5_readHouse_10 : decode cX5_readHouse 10 = .ok (.aload_n 0, 1) := by decide +kernel
theorem dX5_readHouse_11 : decode cX5_readHouse 11 = .ok (.getfield 15, 3) := by decide +kernel
theorem dX5_readHouse_14 : decode cX5_readHouse 14 = .ok (.aload_n 0, 1) := by decide +kernel
theorem dX5_readHouse_15 : decode cX5_readHouse 15 = .ok (.getfield 29, 3) := by decide +kernel
theorem dX5_readHouse_18 : decode cX5_readHouse 18 = .ok (.iaload, 1) := by decide +kernel
theorem dX5_readHouse_19 : decode cX5_readHouse 19 = .ok (.bipush 16, 2) := by decide +kernel
theorem dX5_readHouse_21 : decode cX5_readHouse 21 = .ok (.if_icmp .eq 11, 3) := by decide +kernel
theorem dX5_readHouse_24 : decode cX5_readHouse 24 = .ok (.aload_n 0, 1) := by decide +kernel
theorem dX5_readHouse_25 : decode cX5_readHouse 25 = .ok (.iconst 2, 1) := by decide +kernel
theorem dX5_readHouse_26 : decode cX5_readHouse 26 = .ok (.invokevirtual 118, 3) := by decide +kernel
theorem dX5_readHouse_29 : decode cX5_readHouse 29 = .ok (.goto 20, 3) := by decide +kernel
theorem dX5_readHouse_32 : decode cX5_readHouse 32 = .ok (.aload_n 0, 1) := by decide +kernel
theorem dX5_readHouse_33 : decode cX5_readHouse 33 = .ok (.getfield 35, 3) := by decide +kernel
theorem dX5_readHouse_36 : decode cX5_readHouse 36 = .ok (.lload_n 1, 1) := by decide +kernel
theorem dX5_readHouse_37 : decode cX5_readHouse 37 = .ok (.invokevirtual 159, 3) := by decide +kernel
theorem dX5_readHouse_40 : decode cX5_readHouse 40 = .ok (.iconst (-1), 1) := by decide +kernel
theorem dX5_readHouse_41 : decode cX5_readHouse 41 = .ok (.if_icmp .eq 8, 3) := by decide +kernel
theorem dX5_readHouse_44 : decode cX5_readHouse 44 = .ok (.aload_n 0, 1) := by decide +kernel
theorem dX5_readHouse_45 : decode cX5_readHouse 45 = .ok (.iconst 3, 1) := by decide +kernel
theorem dX5_readHouse_46 : decode cX5_readHouse 46 = .ok (.invokevirtual 118, 3) := by decide +kernel
theorem dX5_readHouse_49 : decode cX5_readHouse 49 = .ok (.aload_n 0, 1) := by decide +kernel
theorem dX5_readHouse_50 : decode cX5_readHouse 50 = .ok (.invokevirtual 122, 3) := by decide +kernel
theorem dX5_readHouse_53 : decode cX5_readHouse 53 = .ok (.aload_n 0, 1) := by decide +kernel
theorem dX5_readHouse_54 : decode cX5_readHouse 54 = .ok (.iconst 2, 1) := by decide +kernel
theorem dX5_readHouse_55 : decode cX5_readHouse 55 = .ok (.invokevirtual 156, 3) := by decide +kernel
theorem dX5_readHouse_58 : decode cX5_readHouse 58 = .ok (.aload_n 0, 1) := by decide +kernel
theorem dX5_readHouse_59 : decode cX5_readHouse 59 = .ok (.getfield 35, 3) := by decide +kernel
theorem dX5_readHouse_62 : decode cX5_readHouse 62 = .ok (.lload_n 1, 1) := by decide +kernel
theorem dX5_readHouse_63 : decode cX5_readHouse 63 = .ok (.aload_n 0, 1) := by decide +kernel
theorem dX5_readHouse_64 : decode cX5_readHouse 64 = .ok (.iconst 1, 1) := by decide +kernel
theorem dX5_readHouse_65 : decode cX5_readHouse 65 = .ok (.bipush 99, 2) := by decide +kernel
theorem dX5_readHouse_67 : decode cX5_readHouse 67 = .ok (.invokevirtual 162, 3) := by decide +kernel
theorem dX5_readHouse_70 : decode cX5_readHouse 70 = .ok (.invokevirtual 165, 3) := by decide +kernel
theorem dX5_readHouse_73 : decode cX5_readHouse 73 = .ok (.return_, 1) := by decide +kernel
theorem dX5_readKnown_0 : decode cX5_readKnown 0 = .ok (.aload_n 0, 1) := by decide +kernel
theorem dX5_readKnown_1 : decode cX5_readKnown 1 = .ok (.getfield 35, 3) := by decide +kernel
theorem dX5_readKnown_4 : decode cX5_readKnown 4 = .ok (.aload_n 0, 1) := by decide +kernel
theorem dX5_readKnown_5 : decode cX5_readKnown 5 = .ok (.getfield 22, 3) := by decide +kernel
theorem dX5_readKnown_8 : decode cX5_readKnown 8 = .ok (.aload_n 0, 1) := by decide +kernel
theorem dX5_readKnown_9 : decode cX5_readKnown 9 = .ok (.getfield 29, 3) := by decide +kernel
theorem dX5_readKnown_12 : decode cX5_readKnown 12 = .ok (.laload, 1) := by decide +kernel
theorem dX5_readKnown_13 : decode cX5_readKnown 13 = .ok (.invokevirtual 159, 3) := by decide +kernel
theorem dX5_readKnown_16 : decode cX5_readKnown 16 = .ok (.istore_n 1, 1) := by decide +kernel
theorem dX5_readKnown_17 : decode cX5_readKnown 17 = .ok (.aload_n 0, 1) := by decide +kernel
theorem dX5_readKnown_18 : decode cX5_readKnown 18 = .ok (.getfield 15, 3) := by decide +kernel
theorem dX5_readKnown_21 : decode cX5_readKnown 21 = .ok (.aload_n 0, 1) := by decide +kernel
theorem dX5_readKnown_22 : decode cX5_readKnown 22 = .ok (.getfield 29, 3) := by decide +kernel
theorem dX5_readKnown_25 : decode cX5_readKnown 25 = .ok (.iaload, 1) := by decide +kernel
theorem dX5_readKnown_26 : decode cX5_readKnown 26 = .ok (.bipush 16, 2) := by decide +kernel
theorem dX5_readKnown_28 : decode cX5_readKnown 28 = .ok (.if_icmp .eq 11, 3) := by decide +kernel
theorem dX5_readKnown_31 : decode cX5_readKnown 31 = .ok (.aload_n 0, 1) := by decide +kernel
theorem dX5_readKnown_32 : decode cX5_readKnown 32 = .ok (.iconst 2, 1) := by decide +kernel
theorem dX5_readKnown_33 : decode cX5_readKnown 33 = .ok (.invokevirtual 118, 3) := by decide +kernel
theorem dX5_readKnown_36 : decode cX5_readKnown 36 = .ok (.goto 13, 3) := by decide +kernel
theorem dX5_readKnown_39 : decode cX5_readKnown 39 = .ok (.iload_n 1, 1) := by decide +kernel
theorem dX5_readKnown_40 : decode cX5_readKnown 40 = .ok (.iconst (-1), 1) := by decide +kernel
theorem dX5_readKnown_41 : decode cX5_readKnown 41 = .ok (.if_icmp .ne 8, 3) := by decide +kernel
theorem dX5_readKnown_44 : decode cX5_readKnown 44 = .ok (.aload_n 0, 1) := by decide +kernel
theorem dX5_readKnown_45 : decode cX5_readKnown 45 = .ok (.iconst 5, 1) := by decide +kernel
theorem dX5_readKnown_46 : decode cX5_readKnown 46 = .ok (.invokevirtual 118, 3) := by decide +kernel
theorem dX5_readKnown_49 : decode cX5_readKnown 49 = .ok (.aload_n 0, 1) := by decide +kernel
theorem dX5_readKnown_50 : decode cX5_readKnown 50 = .ok (.invokevirtual 122, 3) := by decide +kernel
theorem dX5_readKnown_53 : decode cX5_readKnown 53 = .ok (.iload_n 1, 1) := by decide +kernel
theorem dX5_readKnown_54 : decode cX5_readKnown 54 = .ok (.iconst 0, 1) := by decide +kernel
theorem dX5_readKnown_55 : decode cX5_readKnown 55 = .ok (.invokestatic 192, 3) := by decide +kernel
theorem dX5_readKnown_58 : decode cX5_readKnown 58 = .ok (.ireturn, 1) := by decide +kernel
theorem dX5_readLaw_0 : decode cX5_readLaw 0 = .ok (.aload_n 0, 1) := by decide +kernel
theorem dX5_readLaw_1 : decode cX5_readLaw 1 = .ok (.iconst 1, 1) := by decide +kernel
theorem dX5_readLaw_2 : decode cX5_readLaw 2 = .ok (.putfield 46, 3) := by decide +kernel
theorem dX5_readLaw_5 : decode cX5_readLaw 5 = .ok (.aload_n 0, 1) := by decide +kernel
theorem dX5_readLaw_6 : decode cX5_readLaw 6 = .ok (.getfield 35, 3) := by decide +kernel
theorem dX5_readLaw_9 : decode cX5_readLaw 9 = .ok (.getfield 195, 3) := by decide +kernel
theorem dX5_readLaw_12 : decode cX5_readLaw 12 = .ok (.invokevirtual 199, 3) := by decide +kernel
theorem dX5_readLaw_15 : decode cX5_readLaw 15 = .ok (.aload_n 0, 1) := by decide +kernel
theorem dX5_readLaw_16 : decode cX5_readLaw 16 = .ok (.iconst 0, 1) := by decide +kernel
theorem dX5_readLaw_17 : decode cX5_readLaw 17 = .ok (.iconst 0, 1) := by decide +kernel
theorem dX5_readLaw_18 : decode cX5_readLaw 18 = .ok (.invokevirtual 204, 3) := by decide +kernel
theorem dX5_readLaw_21 : decode cX5_readLaw 21 = .ok (.return_, 1) := by decide +kernel
theorem dX5_readLevel_0 : decode cX5_readLevel 0 = .ok (.iload_n 1, 1) := by decide +kernel
theorem dX5_readLevel_1 : decode cX5_readLevel 1 = .ok (.iconst 5, 1) := by decide +kernel
theorem dX5_readLevel_2 : decode cX5_readLevel 2 = .ok (.if_icmp .lt 9, 3) := by decide +kernel
theorem dX5_readLevel_5 : decode cX5_readLevel 5 = .ok (.aload_n 0, 1) := by decide +kernel
theorem dX5_readLevel_6 : decode cX5_readLevel 6 = .ok (.iload_n 2, 1) := by decide +kernel
theorem dX5_readLevel_7 : decode cX5_readLevel 7 = .ok (.invokevirtual 207, 3) := by decide +kernel
theorem dX5_readLevel_10 : decode cX5_readLevel 10 = .ok (.return_, 1) := by decide +kernel
theorem dX5_readLevel_11 : decode cX5_readLevel 11 = .ok (.iload_n 1, 1) := by decide +kernel
theorem dX5_readLevel_12 : decode cX5_readLevel 12 = .ok (.iconst 2, 1) := by decide +kernel
theorem dX5_readLevel_13 : decode cX5_readLevel 13 = .ok (.if_icmp .ne 23, 3) := by decide +kernel
theorem dX5_readLevel_16 : decode cX5_readLevel 16 = .ok (.aload_n 0, 1) := by decide +kernel
theorem dX5_readLevel_17 : decode cX5_readLevel 17 = .ok (.getfield 15, 3) := by decide +kernel
theorem dX5_readLevel_20 : decode cX5_readLevel 20 = .ok (.aload_n 0, 1) := by decide +kernel
theorem dX5_readLevel_21 : decode cX5_readLevel 21 = .ok (.getfield 29, 3) := by decide +kernel
theorem dX5_readLevel_24 : decode cX5_readLevel 24 = .ok (.iaload, 1) := by decide +kernel
theorem dX5_readLevel_25 : decode cX5_readLevel 25 = .ok (.bipush 11, 2) := by decide +kernel
theorem dX5_readLevel_27 : decode cX5_readLevel 27 = .ok (.if_icmp .ne 9, 3) := by decide +kernel
theorem dX5_readLevel_30 : decode cX5_readLevel 30 = .ok (.aload_n 0, 1) := by decide +kernel
theorem dX5_readLevel_31 : decode cX5_readLevel 31 = .ok (.iload_n 2, 1) := by decide +kernel
theorem dX5_readLevel_32 : decode cX5_readLevel 32 = .ok (.invokevirtual 210, 3) := by decide +kernel
theorem dX5_readLevel_35 : decode cX5_readLevel 35 = .ok (.return_, 1) := by decide +kernel
theorem dX5_readLevel_36 : decode cX5_readLevel 36 = .ok (.aload_n 0, 1) := by decide +kernel
theorem dX5_readLevel_37 : decode cX5_readLevel 37 = .ok (.iload_n 1, 1) := by decide +kernel
theorem dX5_readLevel_38 : decode cX5_readLevel 38 = .ok (.iconst 1, 1) := by decide +kernel
theorem dX5_readLevel_39 : decode cX5_readLevel 39 = .ok (.iadd, 1) := by decide +kernel
theorem dX5_readLevel_40 : decode cX5_readLevel 40 = .ok (.iload_n 2, 1) := by decide +kernel
theorem dX5_readLevel_41 : decode cX5_readLevel 41 = .ok (.invokevirtual 204, 3) := by decide +kernel
theorem dX5_readLevel_44 : decode cX5_readLevel 44 = .ok (.iload_n 1, 1) := by decide +kernel
theorem dX5_readLevel_45 : decode cX5_readLevel 45 = .ok (.iconst 2, 1) := by decide +kernel
theorem dX5_readLevel_46 : decode cX5_readLevel 46 = .ok (.if_icmp .ne 7, 3) := by decide +kernel
theorem dX5_readLevel_49 : decode cX5_readLevel 49 = .ok (.iconst 1, 1) := by decide +kernel
theorem dX5_readLevel_50 : decode cX5_readLevel 50 = .ok (.goto 7, 3) := by decide +kernel
theorem dX5_readLevel_53 : decode cX5_readLevel 53 = .ok (.aload_n 0, 1) := by decide +kernel
theorem dX5_readLevel_54 : decode cX5_readLevel 54 = .ok (.getfield 25, 3) := by decide +kernel
theorem dX5_readLevel_57 : decode cX5_readLevel 57 = .ok (.istore_n 3, 1) := by decide +kernel
theorem dX5_readLevel_58 : decode cX5_readLevel 58 = .ok (.iconst 0, 1) := by decide +kernel
theorem dX5_readLevel_59 : decode cX5_readLevel 59 = .ok (.istore 4, 2) := by decide +kernel
theorem dX5_readLevel_61 : decode cX5_readLevel 61 = .ok (.iload 4, 2) := by decide +kernel
theorem dX5_readLevel_63 : decode cX5_readLevel 63 = .ok (.iload_n 3, 1) := by decide +kernel
theorem dX5_readLevel_64 : decode cX5_readLevel 64 = .ok (.if_icmp .ge 68, 3) := by decide +kernel
theorem dX5_readLevel_67 : decode cX5_readLevel 67 = .ok (.aload_n 0, 1) := by decide +kernel
theorem dX5_readLevel_68 : decode cX5_readLevel 68 = .ok (.getfield 49, 3) := by decide +kernel
theorem dX5_readLevel_71 : decode cX5_readLevel 71 = .ok (.ifCond .ne 61, 3) := by decide +kernel
theorem dX5_readLevel_74 : decode cX5_readLevel 74 = .ok (.aload_n 0, 1) := by decide +kernel
theorem dX5_readLevel_75 : decode cX5_readLevel 75 = .ok (.getfield 15, 3) := by decide +kernel
theorem dX5_readLevel_78 : decode cX5_readLevel 78 = .ok (.aload_n 0, 1) := by decide +kernel
theorem dX5_readLevel_79 : decode cX5_readLevel 79 = .ok (.getfield 29, 3) := by decide +kernel
theorem dX5_readLevel_82 : decode cX5_readLevel 82 = .ok (.iaload, 1) := by decide +kernel
theorem dX5_readLevel_83 : decode cX5_readLevel 83 = .ok (.invokestatic 213, 3) := by decide +kernel
theorem dX5_readLevel_86 : decode cX5_readLevel 86 = .ok (.iload_n 1, 1) := by decide +kernel
theorem dX5_readLevel_87 : decode cX5_readLevel 87 = .ok (.if_icmp .ne 45, 3) := by decide +kernel
theorem dX5_readLevel_90 : decode cX5_readLevel 90 = .ok (.aload_n 0, 1) := by decide +kernel
theorem dX5_readLevel_91 : decode cX5_readLevel 91 = .ok (.getfield 15, 3) := by decide +kernel
theorem dX5_readLevel_94 : decode cX5_readLevel 94 = .ok (.aload_n 0, 1) := by decide +kernel
theorem dX5_readLevel_95 : decode cX5_readLevel 95 = .ok (.getfield 29, 3) := by decide +kernel
theorem dX5_readLevel_98 : decode cX5_readLevel 98 = .ok (.iaload, 1) := by decide +kernel
theorem dX5_readLevel_99 : decode cX5_readLevel 99 = .ok (.istore 5, 2) := by decide +kernel
theorem dX5_readLevel_101 : decode cX5_readLevel 101 = .ok (.aload_n 0, 1) := by decide +kernel
theorem dX5_readLevel_102 : decode cX5_readLevel 102 = .ok (.invokevirtual 122, 3) := by decide +kernel
theorem dX5_readLevel_105 : decode cX5_readLevel 105 = .ok (.aload_n 0, 1) := by decide +kernel
theorem dX5_readLevel_106 : decode cX5_readLevel 106 = .ok (.iload_n 1, 1) := by decide +kernel
theorem dX5_readLevel_107 : decode cX5_readLevel 107 = .ok (.iconst 1, 1) := by decide +kernel
theorem dX5_readLevel_108 : decode cX5_readLevel 108 = .ok (.iadd, 1) := by decide +kernel
theorem dX5_readLevel_109 : decode cX5_readLevel 109 = .ok (.iload_n 2, 1) := by decide +kernel
theorem dX5_readLevel_110 : decode cX5_readLevel 110 = .ok (.invokevirtual 204, 3) := by decide +kernel
theorem dX5_readLevel_113 : decode cX5_readLevel 113 = .ok (.aload_n 0, 1) := by decide +kernel
theorem dX5_readLevel_114 : decode cX5_readLevel 114 = .ok (.getfield 35, 3) := by decide +kernel
theorem dX5_readLevel_117 : decode cX5_readLevel 117 = .ok (.getfield 195, 3) := by decide +kernel
theorem dX5_readLevel_120 : decode cX5_readLevel 120 = .ok (.iload 5, 2) := by decide +kernel
theorem dX5_readLevel_122 : decode cX5_readLevel 122 = .ok (.ineg, 1) := by decide +kernel
theorem dX5_readLevel_123 : decode cX5_readLevel 123 = .ok (.invokevirtual 216, 3) := by decide +kernel
theorem dX5_readLevel_126 : decode cX5_readLevel 126 = .ok (.iinc 4 1, 3) := by decide +kernel
theorem dX5_readLevel_129 : decode cX5_readLevel 129 = .ok (.goto (-68), 3) := by decide +kernel
theorem dX5_readLevel_132 : decode cX5_readLevel 132 = .ok (.return_, 1) := by decide +kernel
theorem dX5_readLine_0 : decode cX5_readLine 0 = .ok (.aload_n 0, 1) := by decide +kernel
theorem dX5_readLine_1 : decode cX5_readLine 1 = .ok (.getfield 15, 3) := by decide +kernel
theorem dX5_readLine_4 : decode cX5_readLine 4 = .ok (.aload_n 0, 1) := by decide +kernel
theorem dX5_readLine_5 : decode cX5_readLine 5 = .ok (.getfield 29, 3) := by decide +kernel
theorem dX5_readLine_8 : decode cX5_readLine 8 = .ok (.iaload, 1) := by decide +kernel
theorem dX5_readLine_9 : decode cX5_readLine 9 = .ok (.istore_n 1, 1) := by decide +kernel
theorem dX5_readLine_10 : decode cX5_readLine 10 = .ok (.aload_n 0, 1) := by decide +kernel
theorem dX5_readLine_11 : decode cX5_readLine 11 = .ok (.getfield 39, 3) := by decide +kernel
theorem dX5_readLine_14 : decode cX5_readLine 14 = .ok (.istore_n 2, 1) := by decide +kernel
theorem dX5_readLine_15 : decode cX5_readLine 15 = .ok (.aload_n 0, 1) := by decide +kernel
theorem dX5_readLine_16 : decode cX5_readLine 16 = .ok (.iload_n 1, 1) := by decide +kernel
theorem dX5_readLine_17 : decode cX5_readLine 17 = .ok (.iconst 1, 1) := by decide +kernel
theorem dX5_readLine_18 : decode cX5_readLine 18 = .ok (.if_icmp .eq 7, 3) := by decide +kernel
theorem dX5_readLine_21 : decode cX5_readLine 21 = .ok (.iconst 1, 1) := by decide +kernel
theorem dX5_readLine_22 : decode cX5_readLine 22 = .ok (.goto 4, 3) := by decide +kernel
theorem dX5_readLine_25 : decode cX5_readLine 25 = .ok (.iconst 0, 1) := by decide +kernel
theorem dX5_readLine_26 : decode cX5_readLine 26 = .ok (.putfield 39, 3) := by decide +kernel
theorem dX5_readLine_29 : decode cX5_readLine 29 = .ok (.iload_n 1, 1) := by decide +kernel
theorem dX5_readLine_30 : decode cX5_readLine 30 = .ok (.tableswitch 210 1 8 #[46, 210, 78, 101, 129, 210, 157, 187], 46) := by decide +kernel
theorem dX5_readLine_76 : decode cX5_readLine 76 = .ok (.aload_n 0, 1) := by decide +kernel
theorem dX5_readLine_77 : decode cX5_readLine 77 = .ok (.iload_n 2, 1) := by decide +kernel
theorem dX5_readLine_78 : decode cX5_readLine 78 = .ok (.ifCond .ne 19, 3) := by decide +kernel
theorem dX5_readLine_81 : decode cX5_readLine 81 = .ok (.aload_n 0, 1) := by decide +kernel
theorem dX5_readLine_82 : decode cX5_readLine 82 = .ok (.getfield 35, 3) := by decide +kernel
theorem dX5_readLine_85 : decode cX5_readLine 85 = .ok (.getfield 125, 3) := by decide +kernel
theorem dX5_readLine_88 : decode cX5_readLine 88 = .ok (.bipush 9, 2) := by decide +kernel
theorem dX5_readLine_90 : decode cX5_readLine 90 = .ok (.if_icmp .ge 7, 3) := by decide +kernel
theorem dX5_readLine_93 : decode cX5_readLine 93 = .ok (.iconst 1, 1) := by decide +kernel
theorem dX5_readLine_94 : decode cX5_readLine 94 = .ok (.goto 4, 3) := by decide +kernel
theorem dX5_readLine_97 : decode cX5_readLine 97 = .ok (.iconst 0, 1) := by decide +kernel
theorem dX5_readLine_98 : decode cX5_readLine 98 = .ok (.invokevirtual 128, 3) := by decide +kernel
theorem dX5_readLine_101 : decode cX5_readLine 101 = .ok (.aload_n 0, 1) := by decide +kernel
theorem dX5_readLine_102 : decode cX5_readLine 102 = .ok (.invokevirtual 132, 3) := by decide +kernel
theorem dX5_readLine_105 : decode cX5_readLine 105 = .ok (.goto 140, 3) := by decide +kernel
theorem dX5_readLine_108 : decode cX5_readLine 108 = .ok (.aload_n 0, 1) := by decide +kernel
theorem dX5_readLine_109 : decode cX5_readLine 109 = .ok (.aload_n 0, 1) := by decide +kernel
theorem dX5_readLine_110 : decode cX5_readLine 110 = .ok (.getfield 43, 3) := by decide +kernel
theorem dX5_readLine_113 : decode cX5_readLine 113 = .ok (.ifCond .ne 7, 3) := by decide +kernel
theorem dX5_readLine_116 : decode cX5_readLine 116 = .ok (.iconst 1, 1) := by decide +kernel
theorem dX5_readLine_117 : decode cX5_readLine 117 = .ok (.goto 4, 3) := by decide +kernel
theorem dX5_readLine_120 : decode cX5_readLine 120 = .ok (.iconst 0, 1) := by decide +kernel
theorem dX5_readLine_121 : decode cX5_readLine 121 = .ok (.invokevirtual 128, 3) := by decide +kernel
theorem dX5_readLine_124 : decode cX5_readLine 124 = .ok (.aload_n 0, 1) := by decide +kernel
theorem dX5_readLine_125 : decode cX5_readLine 125 = .ok (.invokevirtual 135, 3) := by decide +kernel
theorem dX5_readLine_128 : decode cX5_readLine 128 = .ok (.goto 117, 3) := by decide +kernel
theorem dX5_readLine_131 : decode cX5_readLine 131 = .ok (.aload_n 0, 1) := by decide +kernel
theorem dX5_readLine_132 : decode cX5_readLine 132 = .ok (.aload_n 0, 1) := by decide +kernel
theorem dX5_readLine_133 : decode cX5_readLine 133 = .ok (.getfield 35, 3) := by decide +kernel
theorem dX5_readLine_136 : decode cX5_readLine 136 = .ok (.getfield 138, 3) := by decide +kernel
theorem dX5_readLine_139 : decode cX5_readLine 139 = .ok (.bipush 20, 2) := by decide +kernel
theorem dX5_readLine_141 : decode cX5_readLine 141 = .ok (.if_icmp .ge 7, 3) := by decide +kernel
theorem dX5_readLine_144 : decode cX5_readLine 144 = .ok (.iconst 1, 1) := by decide +kernel
theorem dX5_readLine_145 : decode cX5_readLine 145 = .ok (.goto 4, 3) := by decide +kernel
theorem dX5_readLine_148 : decode cX5_readLine 148 = .ok (.iconst 0, 1) := by decide +kernel
theorem dX5_readLine_149 : decode cX5_readLine 149 = .ok (.invokevirtual 128, 3) := by decide +kernel
theorem dX5_readLine_152 : decode cX5_readLine 152 = .ok (.aload_n 0, 1) := by decide +kernel
theorem dX5_readLine_153 : decode cX5_readLine 153 = .ok (.invokevirtual 141, 3) := by decide +kernel
theorem dX5_readLine_156 : decode cX5_readLine 156 = .ok (.goto 89, 3) := by decide +kernel
theorem dX5_readLine_159 : decode cX5_readLine 159 = .ok (.aload_n 0, 1) := by decide +kernel
theorem dX5_readLine_160 : decode cX5_readLine 160 = .ok (.aload_n 0, 1) := by decide +kernel
theorem dX5_readLine_161 : decode cX5_readLine 161 = .ok (.getfield 35, 3) := by decide +kernel
theorem dX5_readLine_164 : decode cX5_readLine 164 = .ok (.getfield 144, 3) := by decide +kernel
theorem dX5_readLine_167 : decode cX5_readLine 167 = .ok (.bipush 20, 2) := by decide +kernel
theorem dX5_readLine_169 : decode cX5_readLine 169 = .ok (.if_icmp .ge 7, 3) := by decide +kernel
theorem dX5_readLine_172 : decode cX5_readLine 172 = .ok (.iconst 1, 1) := by decide +kernel
theorem dX5_readLine_173 : decode cX5_readLine 173 = .ok (.goto 4, 3) := by decide +kernel
theorem dX5_readLine_176 : decode cX5_readLine 176 = .ok (.iconst 0, 1) := by decide +kernel
theorem dX5_readLine_177 : decode cX5_readLine 177 = .ok (.invokevirtual 128, 3) := by decide +kernel
theorem dX5_readLine_180 : decode cX5_readLine 180 = .ok (.aload_n 0, 1) := by decide +kernel
theorem dX5_readLine_181 : decode cX5_readLine 181 = .ok (.invokevirtual 147, 3) := by decide +kernel
theorem dX5_readLine_184 : decode cX5_readLine 184 = .ok (.goto 61, 3) := by decide +kernel
theorem dX5_readLine_187 : decode cX5_readLine 187 = .ok (.aload_n 0, 1) := by decide +kernel
theorem dX5_readLine_188 : decode cX5_readLine 188 = .ok (.aload_n 0, 1) := by decide +kernel
theorem dX5_readLine_189 : decode cX5_readLine 189 = .ok (.getfield 35, 3) := by decide +kernel
theorem dX5_readLine_192 : decode cX5_readLine 192 = .ok (.getfield 150, 3) := by decide +kernel
theorem dX5_readLine_195 : decode cX5_readLine 195 = .ok (.ifCond .ne 7, 3) := by decide +kernel
theorem dX5_readLine_198 : decode cX5_readLine 198 = .ok (.iconst 1, 1) := by decide +kernel
theorem dX5_readLine_199 : decode cX5_readLine 199 = .ok (.goto 4, 3) := by decide +kernel
theorem dX5_readLine_202 : decode cX5_readLine 202 = .ok (.iconst 0, 1) := by decide +kernel
theorem dX5_readLine_203 : decode cX5_readLine 203 = .ok (.invokevirtual 128, 3) := by decide +kernel
theorem dX5_readLine_206 : decode cX5_readLine 206 = .ok (.aload_n 0, 1) := by decide +kernel
theorem dX5_readLine_207 : decode cX5_readLine 207 = .ok (.getfield 35, 3) := by decide +kernel
theorem dX5_readLine_210 : decode cX5_readLine 210 = .ok (.iconst 1, 1) := by decide +kernel
theorem dX5_readLine_211 : decode cX5_readLine 211 = .ok (.putfield 150, 3) := by decide +kernel
theorem dX5_readLine_214 : decode cX5_readLine 214 = .ok (.goto 31, 3) := by decide +kernel
theorem dX5_readLine_217 : decode cX5_readLine 217 = .ok (.aload_n 0, 1) := by decide +kernel
theorem dX5_readLine_218 : decode cX5_readLine 218 = .ok (.aload_n 0, 1) := by decide +kernel
theorem dX5_readLine_219 : decode cX5_readLine 219 = .ok (.getfield 46, 3) := by decide +kernel
theorem dX5_readLine_222 : decode cX5_readLine 222 = .ok (.ifCond .ne 7, 3) := by decide +kernel
theorem dX5_readLine_225 : decode cX5_readLine 225 = .ok (.iconst 1, 1) := by decide +kernel
theorem dX5_readLine_226 : decode cX5_readLine 226 = .ok (.goto 4, 3) := by decide +kernel
theorem dX5_readLine_229 : decode cX5_readLine 229 = .ok (.iconst 0, 1) := by decide +kernel
theorem dX5_readLine_230 : decode cX5_readLine 230 = .ok (.invokevirtual 128, 3) := by decide +kernel
theorem dX5_readLine_233 : decode cX5_readLine 233 = .ok (.aload_n 0, 1) := by decide +kernel
theorem dX5_readLine_234 : decode cX5_readLine 234 = .ok (.invokevirtual 153, 3) := by decide +kernel
theorem dX5_readLine_237 : decode cX5_readLine 237 = .ok (.goto 8, 3) := by decide +kernel
theorem dX5_readLine_240 : decode cX5_readLine 240 = .ok (.aload_n 0, 1) := by decide +kernel
theorem dX5_readLine_241 : decode cX5_readLine 241 = .ok (.iconst 2, 1) := by decide +kernel
theorem dX5_readLine_242 : decode cX5_readLine 242 = .ok (.invokevirtual 118, 3) := by decide +kernel
theorem dX5_readLine_245 : decode cX5_readLine 245 = .ok (.aload_n 0, 1) := by decide +kernel
theorem dX5_readLine_246 : decode cX5_readLine 246 = .ok (.bipush 18, 2) := by decide +kernel
theorem dX5_readLine_248 : decode cX5_readLine 248 = .ok (.invokevirtual 156, 3) := by decide +kernel
theorem dX5_readLine_251 : decode cX5_readLine 251 = .ok (.return_, 1) := by decide +kernel
theorem dX5_readNot_0 : decode cX5_readNot 0 = .ok (.iload_n 1, 1) := by decide +kernel
theorem dX5_readNot_1 : decode cX5_readNot 1 = .ok (.bipush 7, 2) := by decide +kernel
theorem dX5_readNot_3 : decode cX5_readNot 3 = .ok (.if_icmp .lt 9, 3) := by decide +kernel
theorem dX5_readNot_6 : decode cX5_readNot 6 = .ok (.aload_n 0, 1) := by decide +kernel
theorem dX5_readNot_7 : decode cX5_readNot 7 = .ok (.iconst 2, 1) := by decide +kernel
theorem dX5_readNot_8 : decode cX5_readNot 8 = .ok (.invokevirtual 118, 3) := by decide +kernel
theorem dX5_readNot_11 : decode cX5_readNot 11 = .ok (.return_, 1) := by decide +kernel
theorem dX5_readNot_12 : decode cX5_readNot 12 = .ok (.aload_n 0, 1) := by decide +kernel
theorem dX5_readNot_13 : decode cX5_readNot 13 = .ok (.invokevirtual 122, 3) := by decide +kernel
theorem dX5_readNot_16 : decode cX5_readNot 16 = .ok (.aload_n 0, 1) := by decide +kernel
theorem dX5_readNot_17 : decode cX5_readNot 17 = .ok (.iconst 2, 1) := by decide +kernel
theorem dX5_readNot_18 : decode cX5_readNot 18 = .ok (.iload_n 1, 1) := by decide +kernel
theorem dX5_readNot_19 : decode cX5_readNot 19 = .ok (.iconst 1, 1) := by decide +kernel
theorem dX5_readNot_20 : decode cX5_readNot 20 = .ok (.iadd, 1) := by decide +kernel
theorem dX5_readNot_21 : decode cX5_readNot 21 = .ok (.invokevirtual 204, 3) := by decide +kernel
theorem dX5_readNot_24 : decode cX5_readNot 24 = .ok (.aload_n 0, 1) := by decide +kernel
theorem dX5_readNot_25 : decode cX5_readNot 25 = .ok (.getfield 35, 3) := by decide +kernel
theorem dX5_readNot_28 : decode cX5_readNot 28 = .ok (.getfield 195, 3) := by decide +kernel
theorem dX5_readNot_31 : decode cX5_readNot 31 = .ok (.bipush (-11), 2) := by decide +kernel
theorem dX5_readNot_33 : decode cX5_readNot 33 = .ok (.invokevirtual 216, 3) := by decide +kernel
theorem dX5_readNot_36 : decode cX5_readNot 36 = .ok (.return_, 1) := by decide +kernel
theorem dX5_readNumber_0 : decode cX5_readNumber 0 = .ok (.aload_n 0, 1) := by decide +kernel
theorem dX5_readNumber_1 : decode cX5_readNumber 1 = .ok (.getfield 22, 3) := by decide +kernel
theorem dX5_readNumber_4 : decode cX5_readNumber 4 = .ok (.aload_n 0, 1) := by decide +kernel
theorem dX5_readNumber_5 : decode cX5_readNumber 5 = .ok (.getfield 29, 3) := by decide +kernel
theorem dX5_readNumber_8 : decode cX5_readNumber 8 = .ok (.laload, 1) := by decide +kernel
theorem dX5_readNumber_9 : decode cX5_readNumber 9 = .ok (.l2i, 1) := by decide +kernel
theorem dX5_readNumber_10 : decode cX5_readNumber 10 = .ok (.istore_n 3, 1) := by decide +kernel
theorem dX5_readNumber_11 : decode cX5_readNumber 11 = .ok (.aload_n 0, 1) := by decide +kernel
theorem dX5_readNumber_12 : decode cX5_readNumber 12 = .ok (.getfield 15, 3) := by decide +kernel
theorem dX5_readNumber_15 : decode cX5_readNumber 15 = .ok (.aload_n 0, 1) := by decide +kernel
theorem dX5_readNumber_16 : decode cX5_readNumber 16 = .ok (.getfield 29, 3) := by decide +kernel
theorem dX5_readNumber_19 : decode cX5_readNumber 19 = .ok (.iaload, 1) := by decide +kernel
theorem dX5_readNumber_20 : decode cX5_readNumber 20 = .ok (.bipush 17, 2) := by decide +kernel
theorem dX5_readNumber_22 : decode cX5_readNumber 22 = .ok (.if_icmp .eq 11, 3) := by decide +kernel
theorem dX5_readNumber_25 : decode cX5_readNumber 25 = .ok (.aload_n 0, 1) := by decide +kernel
theorem dX5_readNumber_26 : decode cX5_readNumber 26 = .ok (.iconst 2, 1) := by decide +kernel
theorem dX5_readNumber_27 : decode cX5_readNumber 27 = .ok (.invokevirtual 118, 3) := by decide +kernel
theorem dX5_readNumber_30 : decode cX5_readNumber 30 = .ok (.goto 18, 3) := by decide +kernel
theorem dX5_readNumber_33 : decode cX5_readNumber 33 = .ok (.iload_n 3, 1) := by decide +kernel
theorem dX5_readNumber_34 : decode cX5_readNumber 34 = .ok (.iload_n 1, 1) := by decide +kernel
theorem dX5_readNumber_35 : decode cX5_readNumber 35 = .ok (.if_icmp .lt 8, 3) := by decide +kernel
theorem dX5_readNumber_38 : decode cX5_readNumber 38 = .ok (.iload_n 3, 1) := by decide +kernel
theorem dX5_readNumber_39 : decode cX5_readNumber 39 = .ok (.iload_n 2, 1) := by decide +kernel
theorem dX5_readNumber_40 : decode cX5_readNumber 40 = .ok (.if_icmp .le 8, 3) := by decide +kernel
theorem dX5_readNumber_43 : decode cX5_readNumber 43 = .ok (.aload_n 0, 1) := by decide +kernel
theorem dX5_readNumber_44 : decode cX5_readNumber 44 = .ok (.iconst 4, 1) := by decide +kernel
theorem dX5_readNumber_45 : decode cX5_readNumber 45 = .ok (.invokevirtual 118, 3) := by decide +kernel
theorem dX5_readNumber_48 : decode cX5_readNumber 48 = .ok (.aload_n 0, 1) := by decide +kernel
theorem dX5_readNumber_49 : decode cX5_readNumber 49 = .ok (.invokevirtual 122, 3) := by decide +kernel
theorem dX5_readNumber_52 : decode cX5_readNumber 52 = .ok (.iload_n 3, 1) := by decide +kernel
theorem dX5_readNumber_53 : decode cX5_readNumber 53 = .ok (.ireturn, 1) := by decide +kernel
theorem dX5_readOther_0 : decode cX5_readOther 0 = .ok (.aload_n 0, 1) := by decide +kernel
theorem dX5_readOther_1 : decode cX5_readOther 1 = .ok (.getfield 29, 3) := by decide +kernel
theorem dX5_readOther_4 : decode cX5_readOther 4 = .ok (.istore_n 3, 1) := by decide +kernel
theorem dX5_readOther_5 : decode cX5_readOther 5 = .ok (.aload_n 0, 1) := by decide +kernel
theorem dX5_readOther_6 : decode cX5_readOther 6 = .ok (.invokevirtual 172, 3) := by decide +kernel
theorem dX5_readOther_9 : decode cX5_readOther 9 = .ok (.istore 4, 2) := by decide +kernel
theorem dX5_readOther_11 : decode cX5_readOther 11 = .ok (.aload_n 0, 1) := by decide +kernel
theorem dX5_readOther_12 : decode cX5_readOther 12 = .ok (.getfield 49, 3) := by decide +kernel
theorem dX5_readOther_15 : decode cX5_readOther 15 = .ok (.ifCond .ne 29, 3) := by decide +kernel
theorem dX5_readOther_18 : decode cX5_readOther 18 = .ok (.iload 4, 2) := by decide +kernel
theorem dX5_readOther_20 : decode cX5_readOther 20 = .ok (.iload_n 1, 1) := by decide +kernel
theorem dX5_readOther_21 : decode cX5_readOther 21 = .ok (.if_icmp .eq 13, 3) := by decide +kernel
theorem dX5_readOther_24 : decode cX5_readOther 24 = .ok (.iload_n 2, 1) := by decide +kernel
theorem dX5_readOther_25 : decode cX5_readOther 25 = .ok (.iload 4, 2) := by decide +kernel
theorem dX5_readOther_27 : decode cX5_readOther 27 = .ok (.ishr, 1) := by decide +kernel
theorem dX5_readOther_28 : decode cX5_readOther 28 = .ok (.iconst 1, 1) := by decide +kernel
theorem dX5_readOther_29 : decode cX5_readOther 29 = .ok (.iand, 1) := by decide +kernel
theorem dX5_readOther_30 : decode cX5_readOther 30 = .ok (.iconst 1, 1) := by decide +kernel
theorem dX5_readOther_31 : decode cX5_readOther 31 = .ok (.if_icmp .ne 13, 3) := by decide +kernel
theorem dX5_readOther_34 : decode cX5_readOther 34 = .ok (.aload_n 0, 1) := by decide +kernel
theorem dX5_readOther_35 : decode cX5_readOther 35 = .ok (.iload_n 3, 1) := by decide +kernel
theorem dX5_readOther_36 : decode cX5_readOther 36 = .ok (.putfield 29, 3) := by decide +kernel
theorem dX5_readOther_39 : decode cX5_readOther 39 = .ok (.aload_n 0, 1) := by decide +kernel
theorem dX5_readOther_40 : decode cX5_readOther 40 = .ok (.iconst 3, 1) := by decide +kernel
theorem dX5_readOther_41 : decode cX5_readOther 41 = .ok (.invokevirtual 118, 3) := by decide +kernel
theorem dX5_readOther_44 : decode cX5_readOther 44 = .ok (.iload 4, 2) := by decide +kernel
theorem dX5_readOther_46 : decode cX5_readOther 46 = .ok (.ireturn, 1) := by decide +kernel
theorem dX5_readQuarrel_0 : decode cX5_readQuarrel 0 = .ok (.aload_n 0, 1) := by decide +kernel
theorem dX5_readQuarrel_1 : decode cX5_readQuarrel 1 = .ok (.invokevirtual 172, 3) := by decide +kernel
theorem dX5_readQuarrel_4 : decode cX5_readQuarrel 4 = .ok (.istore_n 1, 1) := by decide +kernel
theorem dX5_readQuarrel_5 : decode cX5_readQuarrel 5 = .ok (.aload_n 0, 1) := by decide +kernel
theorem dX5_readQuarrel_6 : decode cX5_readQuarrel 6 = .ok (.iload_n 1, 1) := by decide +kernel
theorem dX5_readQuarrel_7 : decode cX5_readQuarrel 7 = .ok (.aload_n 0, 1) := by decide +kernel
theorem dX5_readQuarrel_8 : decode cX5_readQuarrel 8 = .ok (.getfield 35, 3) := by decide +kernel
theorem dX5_readQuarrel_11 : decode cX5_readQuarrel 11 = .ok (.getfield 175, 3) := by decide +kernel
theorem dX5_readQuarrel_14 : decode cX5_readQuarrel 14 = .ok (.iload_n 1, 1) := by decide +kernel
theorem dX5_readQuarrel_15 : decode cX5_readQuarrel 15 = .ok (.iaload, 1) := by decide +kernel
theorem dX5_readQuarrel_16 : decode cX5_readQuarrel 16 = .ok (.invokevirtual 178, 3) := by decide +kernel
theorem dX5_readQuarrel_19 : decode cX5_readQuarrel 19 = .ok (.istore_n 2, 1) := by decide +kernel
theorem dX5_readQuarrel_20 : decode cX5_readQuarrel 20 = .ok (.aload_n 0, 1) := by decide +kernel
theorem dX5_readQuarrel_21 : decode cX5_readQuarrel 21 = .ok (.getfield 49, 3) := by decide +kernel
theorem dX5_readQuarrel_24 : decode cX5_readQuarrel 24 = .ok (.ifCond .ne 12, 3) := by decide +kernel
theorem dX5_readQuarrel_27 : decode cX5_readQuarrel 27 = .ok (.aload_n 0, 1) := by decide +kernel
theorem dX5_readQuarrel_28 : decode cX5_readQuarrel 28 = .ok (.getfield 35, 3) := by decide +kernel
theorem dX5_readQuarrel_31 : decode cX5_readQuarrel 31 = .ok (.iload_n 1, 1) := by decide +kernel
theorem dX5_readQuarrel_32 : decode cX5_readQuarrel 32 = .ok (.iload_n 2, 1) := by decide +kernel
theorem dX5_readQuarrel_33 : decode cX5_readQuarrel 33 = .ok (.invokevirtual 181, 3) := by decide +kernel
theorem dX5_readQuarrel_36 : decode cX5_readQuarrel 36 = .ok (.return_, 1) := by decide +kernel
theorem dX5_readUnit_0 : decode cX5_readUnit 0 = .ok (.aload_n 0, 1) := by decide +kernel
theorem dX5_readUnit_1 : decode cX5_readUnit 1 = .ok (.getfield 15, 3) := by decide +kernel
theorem dX5_readUnit_4 : decode cX5_readUnit 4 = .ok (.aload_n 0, 1) := by decide +kernel
theorem dX5_readUnit_5 : decode cX5_readUnit 5 = .ok (.getfield 29, 3) := by decide +kernel
theorem dX5_readUnit_8 : decode cX5_readUnit 8 = .ok (.iaload, 1) := by decide +kernel
theorem dX5_readUnit_9 : decode cX5_readUnit 9 = .ok (.istore_n 2, 1) := by decide +kernel
theorem dX5_readUnit_10 : decode cX5_readUnit 10 = .ok (.iload_n 2, 1) := by decide +kernel
theorem dX5_readUnit_11 : decode cX5_readUnit 11 = .ok (.bipush 6, 2) := by decide +kernel
theorem dX5_readUnit_13 : decode cX5_readUnit 13 = .ok (.if_icmp .eq 15, 3) := by decide +kernel
theorem dX5_readUnit_16 : decode cX5_readUnit 16 = .ok (.iload_n 2, 1) := by decide +kernel
theorem dX5_readUnit_17 : decode cX5_readUnit 17 = .ok (.bipush 12, 2) := by decide +kernel
theorem dX5_readUnit_19 : decode cX5_readUnit 19 = .ok (.if_icmp .lt 13, 3) := by decide +kernel
theorem dX5_readUnit_22 : decode cX5_readUnit 22 = .ok (.iload_n 2, 1) := by decide +kernel
theorem dX5_readUnit_23 : decode cX5_readUnit 23 = .ok (.bipush 15, 2) := by decide +kernel
theorem dX5_readUnit_25 : decode cX5_readUnit 25 = .ok (.if_icmp .gt 7, 3) := by decide +kernel
theorem dX5_readUnit_28 : decode cX5_readUnit 28 = .ok (.iconst 1, 1) := by decide +kernel
theorem dX5_readUnit_29 : decode cX5_readUnit 29 = .ok (.goto 4, 3) := by decide +kernel
theorem dX5_readUnit_32 : decode cX5_readUnit 32 = .ok (.iconst 0, 1) := by decide +kernel
theorem dX5_readUnit_33 : decode cX5_readUnit 33 = .ok (.istore_n 3, 1) := by decide +kernel
theorem dX5_readUnit_34 : decode cX5_readUnit 34 = .ok (.iload_n 2, 1) := by decide +kernel
theorem dX5_readUnit_35 : decode cX5_readUnit 35 = .ok (.bipush 19, 2) := by decide +kernel
theorem dX5_readUnit_37 : decode cX5_readUnit 37 = .ok (.if_icmp .ne 13, 3) := by decide +kernel
theorem dX5_readUnit_40 : decode cX5_readUnit 40 = .ok (.iload_n 1, 1) := by decide +kernel
theorem dX5_readUnit_41 : decode cX5_readUnit 41 = .ok (.bipush 7, 2) := by decide +kernel
theorem dX5_readUnit_43 : decode cX5_readUnit 43 = .ok (.if_icmp .ge 7, 3) := by decide +kernel
theorem dX5_readUnit_46 : decode cX5_readUnit 46 = .ok (.iconst 1, 1) := by decide +kernel
theorem dX5_readUnit_47 : decode cX5_readUnit 47 = .ok (.goto 4, 3) := by decide +kernel
theorem dX5_readUnit_50 : decode cX5_readUnit 50 = .ok (.iconst 0, 1) := by decide +kernel
theorem dX5_readUnit_51 : decode cX5_readUnit 51 = .ok (.istore 4, 2) := by decide +kernel
theorem dX5_readUnit_53 : decode cX5_readUnit 53 = .ok (.aload_n 0, 1) := by decide +kernel
theorem dX5_readUnit_54 : decode cX5_readUnit 54 = .ok (.getfield 35, 3) := by decide +kernel
theorem dX5_readUnit_57 : decode cX5_readUnit 57 = .ok (.getfield 195, 3) := by decide +kernel
theorem dX5_readUnit_60 : decode cX5_readUnit 60 = .ok (.getfield 218, 3) := by decide +kernel
theorem dX5_readUnit_63 : decode cX5_readUnit 63 = .ok (.bipush 40, 2) := by decide +kernel
theorem dX5_readUnit_65 : decode cX5_readUnit 65 = .ok (.if_icmp .ge 18, 3) := by decide +kernel
theorem dX5_readUnit_68 : decode cX5_readUnit 68 = .ok (.iload_n 2, 1) := by decide +kernel
theorem dX5_readUnit_69 : decode cX5_readUnit 69 = .ok (.bipush 17, 2) := by decide +kernel
theorem dX5_readUnit_71 : decode cX5_readUnit 71 = .ok (.if_icmp .eq 18, 3) := by decide +kernel
theorem dX5_readUnit_74 : decode cX5_readUnit 74 = .ok (.iload_n 3, 1) := by decide +kernel
theorem dX5_readUnit_75 : decode cX5_readUnit 75 = .ok (.ifCond .ne 14, 3) := by decide +kernel
theorem dX5_readUnit_78 : decode cX5_readUnit 78 = .ok (.iload 4, 2) := by decide +kernel
theorem dX5_readUnit_80 : decode cX5_readUnit 80 = .ok (.ifCond .ne 9, 3) := by decide +kernel
theorem dX5_readUnit_83 : decode cX5_readUnit 83 = .ok (.aload_n 0, 1) := by decide +kernel
theorem dX5_readUnit_84 : decode cX5_readUnit 84 = .ok (.iconst 2, 1) := by decide +kernel
theorem dX5_readUnit_85 : decode cX5_readUnit 85 = .ok (.invokevirtual 118, 3) := by decide +kernel
theorem dX5_readUnit_88 : decode cX5_readUnit 88 = .ok (.return_, 1) := by decide +kernel
theorem dX5_readUnit_89 : decode cX5_readUnit 89 = .ok (.aload_n 0, 1) := by decide +kernel
theorem dX5_readUnit_90 : decode cX5_readUnit 90 = .ok (.getfield 35, 3) := by decide +kernel
theorem dX5_readUnit_93 : decode cX5_readUnit 93 = .ok (.getfield 195, 3) := by decide +kernel
theorem dX5_readUnit_96 : decode cX5_readUnit 96 = .ok (.dup, 1) := by decide +kernel
theorem dX5_readUnit_97 : decode cX5_readUnit 97 = .ok (.getfield 218, 3) := by decide +kernel
theorem dX5_readUnit_100 : decode cX5_readUnit 100 = .ok (.iconst 1, 1) := by decide +kernel
theorem dX5_readUnit_101 : decode cX5_readUnit 101 = .ok (.iadd, 1) := by decide +kernel
theorem dX5_readUnit_102 : decode cX5_readUnit 102 = .ok (.putfield 218, 3) := by decide +kernel
theorem dX5_readUnit_105 : decode cX5_readUnit 105 = .ok (.aload_n 0, 1) := by decide +kernel
theorem dX5_readUnit_106 : decode cX5_readUnit 106 = .ok (.getfield 22, 3) := by decide +kernel
theorem dX5_readUnit_109 : decode cX5_readUnit 109 = .ok (.aload_n 0, 1) := by decide +kernel
theorem dX5_readUnit_110 : decode cX5_readUnit 110 = .ok (.getfield 29, 3) := by decide +kernel
theorem dX5_readUnit_113 : decode cX5_readUnit 113 = .ok (.laload, 1) := by decide +kernel
theorem dX5_readUnit_114 : decode cX5_readUnit 114 = .ok (.l2i, 1) := by decide +kernel
theorem dX5_readUnit_115 : decode cX5_readUnit 115 = .ok (.istore 5, 2) := by decide +kernel
theorem dX5_readUnit_117 : decode cX5_readUnit 117 = .ok (.aload_n 0, 1) := by decide +kernel
theorem dX5_readUnit_118 : decode cX5_readUnit 118 = .ok (.invokevirtual 122, 3) := by decide +kernel
theorem dX5_readUnit_121 : decode cX5_readUnit 121 = .ok (.iload 4, 2) := by decide +kernel
theorem dX5_readUnit_123 : decode cX5_readUnit 123 = .ok (.ifCond .eq 20, 3) := by decide +kernel
theorem dX5_readUnit_126 : decode cX5_readUnit 126 = .ok (.aload_n 0, 1) := by decide +kernel
theorem dX5_readUnit_127 : decode cX5_readUnit 127 = .ok (.iconst 0, 1) := by decide +kernel
theorem dX5_readUnit_128 : decode cX5_readUnit 128 = .ok (.iload_n 1, 1) := by decide +kernel
theorem dX5_readUnit_129 : decode cX5_readUnit 129 = .ok (.iconst 1, 1) := by decide +kernel
theorem dX5_readUnit_130 : decode cX5_readUnit 130 = .ok (.iadd, 1) := by decide +kernel
theorem dX5_readUnit_131 : decode cX5_readUnit 131 = .ok (.invokevirtual 204, 3) := by decide +kernel
theorem dX5_readUnit_134 : decode cX5_readUnit 134 = .ok (.aload_n 0, 1) := by decide +kernel
theorem dX5_readUnit_135 : decode cX5_readUnit 135 = .ok (.bipush 20, 2) := by decide +kernel
theorem dX5_readUnit_137 : decode cX5_readUnit 137 = .ok (.invokevirtual 156, 3) := by decide +kernel
theorem dX5_readUnit_140 : decode cX5_readUnit 140 = .ok (.goto 24, 3) := by decide +kernel
theorem dX5_readUnit_143 : decode cX5_readUnit 143 = .ok (.aload_n 0, 1) := by decide +kernel
theorem dX5_readUnit_144 : decode cX5_readUnit 144 = .ok (.getfield 35, 3) := by decide +kernel
theorem dX5_readUnit_147 : decode cX5_readUnit 147 = .ok (.getfield 195, 3) := by decide +kernel
theorem dX5_readUnit_150 : decode cX5_readUnit 150 = .ok (.iload_n 3, 1) := by decide +kernel
theorem dX5_readUnit_151 : decode cX5_readUnit 151 = .ok (.ifCond .eq 8, 3) := by decide +kernel
theorem dX5_readUnit_154 : decode cX5_readUnit 154 = .ok (.iload_n 2, 1) := by decide +kernel
theorem dX5_readUnit_155 : decode cX5_readUnit 155 = .ok (.ineg, 1) := by decide +kernel
theorem dX5_readUnit_156 : decode cX5_readUnit 156 = .ok (.goto 5, 3) := by decide +kernel
theorem dX5_readUnit_159 : decode cX5_readUnit 159 = .ok (.iload 5, 2) := by decide +kernel
theorem dX5_readUnit_161 : decode cX5_readUnit 161 = .ok (.invokevirtual 216, 3) := by decide +kernel
theorem dX5_readUnit_164 : decode cX5_readUnit 164 = .ok (.return_, 1) := by decide +kernel
theorem dX5_readWish_0 : decode cX5_readWish 0 = .ok (.aload_n 0, 1) := by decide +kernel
theorem dX5_readWish_1 : decode cX5_readWish 1 = .ok (.invokevirtual 172, 3) := by decide +kernel
theorem dX5_readWish_4 : decode cX5_readWish 4 = .ok (.istore_n 1, 1) := by decide +kernel
theorem dX5_readWish_5 : decode cX5_readWish 5 = .ok (.iconst 0, 1) := by decide +kernel
theorem dX5_readWish_6 : decode cX5_readWish 6 = .ok (.istore_n 2, 1) := by decide +kernel
theorem dX5_readWish_7 : decode cX5_readWish 7 = .ok (.iconst 0, 1) := by decide +kernel
theorem dX5_readWish_8 : decode cX5_readWish 8 = .ok (.istore_n 3, 1) := by decide +kernel
theorem dX5_readWish_9 : decode cX5_readWish 9 = .ok (.iload_n 3, 1) := by decide +kernel
theorem dX5_readWish_10 : decode cX5_readWish 10 = .ok (.aload_n 0, 1) := by decide +kernel
theorem dX5_readWish_11 : decode cX5_readWish 11 = .ok (.getfield 35, 3) := by decide +kernel
theorem dX5_readWish_14 : decode cX5_readWish 14 = .ok (.getfield 125, 3) := by decide +kernel
theorem dX5_readWish_17 : decode cX5_readWish 17 = .ok (.if_icmp .ge 32, 3) := by decide +kernel
theorem dX5_readWish_20 : decode cX5_readWish 20 = .ok (.aload_n 0, 1) := by decide +kernel
theorem dX5_readWish_21 : decode cX5_readWish 21 = .ok (.getfield 35, 3) := by decide +kernel
theorem dX5_readWish_24 : decode cX5_readWish 24 = .ok (.getfield 185, 3) := by decide +kernel
theorem dX5_readWish_27 : decode cX5_readWish 27 = .ok (.iload_n 1, 1) := by decide +kernel
theorem dX5_readWish_28 : decode cX5_readWish 28 = .ok (.bipush 9, 2) := by decide +kernel
theorem dX5_readWish_30 : decode cX5_readWish 30 = .ok (.imul, 1) := by decide +kernel
theorem dX5_readWish_31 : decode cX5_readWish 31 = .ok (.iload_n 3, 1) := by decide +kernel
theorem dX5_readWish_32 : decode cX5_readWish 32 = .ok (.iadd, 1) := by decide +kernel
theorem dX5_readWish_33 : decode cX5_readWish 33 = .ok (.iaload, 1) := by decide +kernel
theorem dX5_readWish_34 : decode cX5_readWish 34 = .ok (.ifCond .eq 9, 3) := by decide +kernel
theorem dX5_readWish_37 : decode cX5_readWish 37 = .ok (.iload_n 2, 1) := by decide +kernel
theorem dX5_readWish_38 : decode cX5_readWish 38 = .ok (.iconst 1, 1) := by decide +kernel
theorem dX5_readWish_39 : decode cX5_readWish 39 = .ok (.iload_n 3, 1) := by decide +kernel
theorem dX5_readWish_40 : decode cX5_readWish 40 = .ok (.ishl, 1) := by decide +kernel
theorem dX5_readWish_41 : decode cX5_readWish 41 = .ok (.ior, 1) := by decide +kernel
theorem dX5_readWish_42 : decode cX5_readWish 42 = .ok (.istore_n 2, 1) := by decide +kernel
theorem dX5_readWish_43 : decode cX5_readWish 43 = .ok (.iinc 3 1, 3) := by decide +kernel
theorem dX5_readWish_46 : decode cX5_readWish 46 = .ok (.goto (-37), 3) := by decide +kernel
theorem dX5_readWish_49 : decode cX5_readWish 49 = .ok (.aload_n 0, 1) := by decide +kernel
theorem dX5_readWish_50 : decode cX5_readWish 50 = .ok (.iload_n 1, 1) := by decide +kernel
theorem dX5_readWish_51 : decode cX5_readWish 51 = .ok (.iload_n 2, 1) := by decide +kernel
theorem dX5_readWish_52 : decode cX5_readWish 52 = .ok (.invokevirtual 178, 3) := by decide +kernel
theorem dX5_readWish_55 : decode cX5_readWish 55 = .ok (.istore_n 3, 1) := by decide +kernel
theorem dX5_readWish_56 : decode cX5_readWish 56 = .ok (.aload_n 0, 1) := by decide +kernel
theorem dX5_readWish_57 : decode cX5_readWish 57 = .ok (.bipush 6, 2) := by decide +kernel
theorem dX5_readWish_59 : decode cX5_readWish 59 = .ok (.invokevirtual 156, 3) := by decide +kernel
theorem dX5_readWish_62 : decode cX5_readWish 62 = .ok (.aload_n 0, 1) := by decide +kernel
theorem dX5_readWish_63 : decode cX5_readWish 63 = .ok (.iconst 1, 1) := by decide +kernel
theorem dX5_readWish_64 : decode cX5_readWish 64 = .ok (.bipush 99, 2) := by decide +kernel
theorem dX5_readWish_66 : decode cX5_readWish 66 = .ok (.invokevirtual 162, 3) := by decide +kernel
theorem dX5_readWish_69 : decode cX5_readWish 69 = .ok (.istore 4, 2) := by decide +kernel
theorem dX5_readWish_71 : decode cX5_readWish 71 = .ok (.aload_n 0, 1) := by decide +kernel
theorem dX5_readWish_72 : decode cX5_readWish 72 = .ok (.getfield 49, 3) := by decide +kernel
theorem dX5_readWish_75 : decode cX5_readWish 75 = .ok (.ifCond .ne 14, 3) := by decide +kernel
theorem dX5_readWish_78 : decode cX5_readWish 78 = .ok (.aload_n 0, 1) := by decide +kernel
theorem dX5_readWish_79 : decode cX5_readWish 79 = .ok (.getfield 35, 3) := by decide +kernel
theorem dX5_readWish_82 : decode cX5_readWish 82 = .ok (.iload_n 1, 1) := by decide +kernel
theorem dX5_readWish_83 : decode cX5_readWish 83 = .ok (.iload_n 3, 1) := by decide +kernel
theorem dX5_readWish_84 : decode cX5_readWish 84 = .ok (.iload 4, 2) := by decide +kernel
theorem dX5_readWish_86 : decode cX5_readWish 86 = .ok (.invokevirtual 188, 3) := by decide +kernel
theorem dX5_readWish_89 : decode cX5_readWish 89 = .ok (.return_, 1) := by decide +kernel
theorem dX5_refuse_0 : decode cX5_refuse 0 = .ok (.aload_n 0, 1) := by decide +kernel
theorem dX5_refuse_1 : decode cX5_refuse 1 = .ok (.getfield 49, 3) := by decide +kernel
theorem dX5_refuse_4 : decode cX5_refuse 4 = .ok (.ifCond .ne 39, 3) := by decide +kernel
theorem dX5_refuse_7 : decode cX5_refuse 7 = .ok (.aload_n 0, 1) := by decide +kernel
theorem dX5_refuse_8 : decode cX5_refuse 8 = .ok (.aload_n 0, 1) := by decide +kernel
theorem dX5_refuse_9 : decode cX5_refuse 9 = .ok (.getfield 15, 3) := by decide +kernel
theorem dX5_refuse_12 : decode cX5_refuse 12 = .ok (.aload_n 0, 1) := by decide +kernel
theorem dX5_refuse_13 : decode cX5_refuse 13 = .ok (.getfield 29, 3) := by decide +kernel
theorem dX5_refuse_16 : decode cX5_refuse 16 = .ok (.iaload, 1) := by decide +kernel
theorem dX5_refuse_17 : decode cX5_refuse 17 = .ok (.bipush 29, 2) := by decide +kernel
theorem dX5_refuse_19 : decode cX5_refuse 19 = .ok (.if_icmp .ne 7, 3) := by decide +kernel
theorem dX5_refuse_22 : decode cX5_refuse 22 = .ok (.iconst 1, 1) := by decide +kernel
theorem dX5_refuse_23 : decode cX5_refuse 23 = .ok (.goto 4, 3) := by decide +kernel
theorem dX5_refuse_26 : decode cX5_refuse 26 = .ok (.iload_n 1, 1) := by decide +kernel
theorem dX5_refuse_27 : decode cX5_refuse 27 = .ok (.putfield 49, 3) := by decide +kernel
theorem dX5_refuse_30 : decode cX5_refuse 30 = .ok (.aload_n 0, 1) := by decide +kernel
theorem dX5_refuse_31 : decode cX5_refuse 31 = .ok (.aload_n 0, 1) := by decide +kernel
theorem dX5_refuse_32 : decode cX5_refuse 32 = .ok (.getfield 19, 3) := by decide +kernel
theorem dX5_refuse_35 : decode cX5_refuse 35 = .ok (.aload_n 0, 1) := by decide +kernel
theorem dX5_refuse_36 : decode cX5_refuse 36 = .ok (.getfield 29, 3) := by decide +kernel
theorem dX5_refuse_39 : decode cX5_refuse 39 = .ok (.iaload, 1) := by decide +kernel
theorem dX5_refuse_40 : decode cX5_refuse 40 = .ok (.putfield 52, 3) := by decide +kernel
theorem dX5_refuse_43 : decode cX5_refuse 43 = .ok (.return_, 1) := by decide +kernel
theorem dX5_split_0 : decode cX5_split 0 = .ok (.aload_n 0, 1) := by decide +kernel
theorem dX5_split_1 : decode cX5_split 1 = .ok (.iconst 0, 1) := by decide +kernel
theorem dX5_split_2 : decode cX5_split 2 = .ok (.putfield 25, 3) := by decide +kernel
theorem dX5_split_5 : decode cX5_split 5 = .ok (.iconst 0, 1) := by decide +kernel
theorem dX5_split_6 : decode cX5_split 6 = .ok (.istore_n 3, 1) := by decide +kernel
theorem dX5_split_7 : decode cX5_split 7 = .ok (.iconst 0, 1) := by decide +kernel
theorem dX5_split_8 : decode cX5_split 8 = .ok (.istore 4, 2) := by decide +kernel
theorem dX5_split_10 : decode cX5_split 10 = .ok (.iload 4, 2) := by decide +kernel
theorem dX5_split_12 : decode cX5_split 12 = .ok (.iload_n 2, 1) := by decide +kernel
theorem dX5_split_13 : decode cX5_split 13 = .ok (.if_icmp .ge 22, 3) := by decide +kernel
theorem dX5_split_16 : decode cX5_split 16 = .ok (.iload_n 3, 1) := by decide +kernel
theorem dX5_split_17 : decode cX5_split 17 = .ok (.iload_n 2, 1) := by decide +kernel
theorem dX5_split_18 : decode cX5_split 18 = .ok (.if_icmp .ge 17, 3) := by decide +kernel
theorem dX5_split_21 : decode cX5_split 21 = .ok (.aload_n 0, 1) := by decide +kernel
theorem dX5_split_22 : decode cX5_split 22 = .ok (.aload_n 1, 1) := by decide +kernel
theorem dX5_split_23 : decode cX5_split 23 = .ok (.iload_n 3, 1) := by decide +kernel
theorem dX5_split_24 : decode cX5_split 24 = .ok (.iload_n 2, 1) := by decide +kernel
theorem dX5_split_25 : decode cX5_split 25 = .ok (.invokevirtual 87, 3) := by decide +kernel
theorem dX5_split_28 : decode cX5_split 28 = .ok (.istore_n 3, 1) := by decide +kernel
theorem dX5_split_29 : decode cX5_split 29 = .ok (.iinc 4 1, 3) := by decide +kernel
theorem dX5_split_32 : decode cX5_split 32 = .ok (.goto (-22), 3) := by decide +kernel
theorem dX5_split_35 : decode cX5_split 35 = .ok (.aload_n 0, 1) := by decide +kernel
theorem dX5_split_36 : decode cX5_split 36 = .ok (.getfield 25, 3) := by decide +kernel
theorem dX5_split_39 : decode cX5_split 39 = .ok (.ifCond .eq 19, 3) := by decide +kernel
theorem dX5_split_42 : decode cX5_split 42 = .ok (.aload_n 0, 1) := by decide +kernel
theorem dX5_split_43 : decode cX5_split 43 = .ok (.getfield 15, 3) := by decide +kernel
theorem dX5_split_46 : decode cX5_split 46 = .ok (.aload_n 0, 1) := by decide +kernel
theorem dX5_split_47 : decode cX5_split 47 = .ok (.getfield 25, 3) := by decide +kernel
theorem dX5_split_50 : decode cX5_split 50 = .ok (.iconst 1, 1) := by decide +kernel
theorem dX5_split_51 : decode cX5_split 51 = .ok (.isub, 1) := by decide +kernel
theorem dX5_split_52 : decode cX5_split 52 = .ok (.iaload, 1) := by decide +kernel
theorem dX5_split_53 : decode cX5_split 53 = .ok (.bipush 29, 2) := by decide +kernel
theorem dX5_split_55 : decode cX5_split 55 = .ok (.if_icmp .eq 11, 3) := by decide +kernel
theorem dX5_split_58 : decode cX5_split 58 = .ok (.aload_n 0, 1) := by decide +kernel
theorem dX5_split_59 : decode cX5_split 59 = .ok (.bipush 28, 2) := by decide +kernel
theorem dX5_split_61 : decode cX5_split 61 = .ok (.iload_n 2, 1) := by decide +kernel
theorem dX5_split_62 : decode cX5_split 62 = .ok (.lconst 0, 1) := by decide +kernel
theorem dX5_split_63 : decode cX5_split 63 = .ok (.invokevirtual 91, 3) := by decide +kernel
theorem dX5_split_66 : decode cX5_split 66 = .ok (.return_, 1) := by decide +kernel
theorem dX5_splitNumber_0 : decode cX5_splitNumber 0 = .ok (.iconst 0, 1) := by decide +kernel
theorem dX5_splitNumber_1 : decode cX5_splitNumber 1 = .ok (.istore 4, 2) := by decide +kernel
theorem dX5_splitNumber_3 : decode cX5_splitNumber 3 = .ok (.iload_n 2, 1) := by decide +kernel
theorem dX5_splitNumber_4 : decode cX5_splitNumber 4 = .ok (.istore 5, 2) := by decide +kernel
theorem dX5_splitNumber_6 : decode cX5_splitNumber 6 = .ok (.iload 5, 2) := by decide +kernel
theorem dX5_splitNumber_8 : decode cX5_splitNumber 8 = .ok (.iload_n 3, 1) := by decide +kernel
theorem dX5_splitNumber_9 : decode cX5_splitNumber 9 = .ok (.if_icmp .ge 34, 3) := by decide +kernel
theorem dX5_splitNumber_12 : decode cX5_splitNumber 12 = .ok (.aload_n 1, 1) := by decide +kernel
theorem dX5_splitNumber_13 : decode cX5_splitNumber 13 = .ok (.iload 5, 2) := by decide +kernel
theorem dX5_splitNumber_15 : decode cX5_splitNumber 15 = .ok (.baload, 1) := by decide +kernel
theorem dX5_splitNumber_16 : decode cX5_splitNumber 16 = .ok (.invokestatic 102, 3) := by decide +kernel
theorem dX5_splitNumber_19 : decode cX5_splitNumber 19 = .ok (.ifCond .eq 24, 3) := by decide +kernel
theorem dX5_splitNumber_22 : decode cX5_splitNumber 22 = .ok (.iload 4, 2) := by decide +kernel
theorem dX5_splitNumber_24 : decode cX5_splitNumber 24 = .ok (.bipush 10, 2) := by decide +kernel
theorem dX5_splitNumber_26 : decode cX5_splitNumber 26 = .ok (.imul, 1) := by decide +kernel
theorem dX5_splitNumber_27 : decode cX5_splitNumber 27 = .ok (.aload_n 1, 1) := by decide +kernel
theorem dX5_splitNumber_28 : decode cX5_splitNumber 28 = .ok (.iload 5, 2) := by decide +kernel
theorem dX5_splitNumber_30 : decode cX5_splitNumber 30 = .ok (.baload, 1) := by decide +kernel
theorem dX5_splitNumber_31 : decode cX5_splitNumber 31 = .ok (.iadd, 1) := by decide +kernel
theorem dX5_splitNumber_32 : decode cX5_splitNumber 32 = .ok (.bipush 48, 2) := by decide +kernel
theorem dX5_splitNumber_34 : decode cX5_splitNumber 34 = .ok (.isub, 1) := by decide +kernel
theorem dX5_splitNumber_35 : decode cX5_splitNumber 35 = .ok (.istore 4, 2) := by decide +kernel
theorem dX5_splitNumber_37 : decode cX5_splitNumber 37 = .ok (.iinc 5 1, 3) := by decide +kernel
theorem dX5_splitNumber_40 : decode cX5_splitNumber 40 = .ok (.goto (-34), 3) := by decide +kernel
theorem dX5_splitNumber_43 : decode cX5_splitNumber 43 = .ok (.iload 5, 2) := by decide +kernel
theorem dX5_splitNumber_45 : decode cX5_splitNumber 45 = .ok (.iload_n 2, 1) := by decide +kernel
theorem dX5_splitNumber_46 : decode cX5_splitNumber 46 = .ok (.isub, 1) := by decide +kernel
theorem dX5_splitNumber_47 : decode cX5_splitNumber 47 = .ok (.iconst 4, 1) := by decide +kernel
theorem dX5_splitNumber_48 : decode cX5_splitNumber 48 = .ok (.if_icmp .gt 19, 3) := by decide +kernel
theorem dX5_splitNumber_51 : decode cX5_splitNumber 51 = .ok (.iload 5, 2) := by decide +kernel
theorem dX5_splitNumber_53 : decode cX5_splitNumber 53 = .ok (.iload_n 3, 1) := by decide +kernel
theorem dX5_splitNumber_54 : decode cX5_splitNumber 54 = .ok (.if_icmp .ge 23, 3) := by decide +kernel
theorem dX5_splitNumber_57 : decode cX5_splitNumber 57 = .ok (.aload_n 1, 1) := by decide +kernel
theorem dX5_splitNumber_58 : decode cX5_splitNumber 58 = .ok (.iload 5, 2) := by decide +kernel
theorem dX5_splitNumber_60 : decode cX5_splitNumber 60 = .ok (.baload, 1) := by decide +kernel
theorem dX5_splitNumber_61 : decode cX5_splitNumber 61 = .ok (.invokestatic 95, 3) := by decide +kernel
theorem dX5_splitNumber_64 : decode cX5_splitNumber 64 = .ok (.ifCond .eq 13, 3) := by decide +kernel
theorem dX5_splitNumber_67 : decode cX5_splitNumber 67 = .ok (.aload_n 0, 1) := by decide +kernel
theorem dX5_splitNumber_68 : decode cX5_splitNumber 68 = .ok (.bipush 29, 2) := by decide +kernel
theorem dX5_splitNumber_70 : decode cX5_splitNumber 70 = .ok (.iload_n 2, 1) := by decide +kernel
theorem dX5_splitNumber_71 : decode cX5_splitNumber 71 = .ok (.lconst 0, 1) := by decide +kernel
theorem dX5_splitNumber_72 : decode cX5_splitNumber 72 = .ok (.invokevirtual 91, 3) := by decide +kernel
theorem dX5_splitNumber_75 : decode cX5_splitNumber 75 = .ok (.iload_n 3, 1) := by decide +kernel
theorem dX5_splitNumber_76 : decode cX5_splitNumber 76 = .ok (.ireturn, 1) := by decide +kernel
theorem dX5_splitNumber_77 : decode cX5_splitNumber 77 = .ok (.aload_n 0, 1) := by decide +kernel
theorem dX5_splitNumber_78 : decode cX5_splitNumber 78 = .ok (.bipush 17, 2) := by decide +kernel
theorem dX5_splitNumber_80 : decode cX5_splitNumber 80 = .ok (.iload_n 2, 1) := by decide +kernel
theorem dX5_splitNumber_81 : decode cX5_splitNumber 81 = .ok (.iload 4, 2) := by decide +kernel
theorem dX5_splitNumber_83 : decode cX5_splitNumber 83 = .ok (.i2l, 1) := by decide +kernel
theorem dX5_splitNumber_84 : decode cX5_splitNumber 84 = .ok (.invokevirtual 91, 3) := by decide +kernel
theorem dX5_splitNumber_87 : decode cX5_splitNumber 87 = .ok (.iload 5, 2) := by decide +kernel
theorem dX5_splitNumber_89 : decode cX5_splitNumber 89 = .ok (.ireturn, 1) := by decide +kernel
theorem dX5_splitOff_0 : decode cX5_splitOff 0 = .ok (.aload_n 1, 1) := by decide +kernel
theorem dX5_splitOff_1 : decode cX5_splitOff 1 = .ok (.iload_n 2, 1) := by decide +kernel
theorem dX5_splitOff_2 : decode cX5_splitOff 2 = .ok (.baload, 1) := by decide +kernel
theorem dX5_splitOff_3 : decode cX5_splitOff 3 = .ok (.sipush 255, 3) := by decide +kernel
theorem dX5_splitOff_6 : decode cX5_splitOff 6 = .ok (.iand, 1) := by decide +kernel
theorem dX5_splitOff_7 : decode cX5_splitOff 7 = .ok (.istore 4, 2) := by decide +kernel
theorem dX5_splitOff_9 : decode cX5_splitOff 9 = .ok (.iload 4, 2) := by decide +kernel
theorem dX5_splitOff_11 : decode cX5_splitOff 11 = .ok (.bipush 32, 2) := by decide +kernel
theorem dX5_splitOff_13 : decode cX5_splitOff 13 = .ok (.if_icmp .eq 10, 3) := by decide +kernel
theorem dX5_splitOff_16 : decode cX5_splitOff 16 = .ok (.iload 4, 2) := by decide +kernel
theorem dX5_splitOff_18 : decode cX5_splitOff 18 = .ok (.bipush 10, 2) := by decide +kernel
theorem dX5_splitOff_20 : decode cX5_splitOff 20 = .ok (.if_icmp .ne 7, 3) := by decide +kernel
theorem dX5_splitOff_23 : decode cX5_splitOff 23 = .ok (.iload_n 2, 1) := by decide +kernel
theorem dX5_splitOff_24 : decode cX5_splitOff 24 = .ok (.iconst 1, 1) := by decide +kernel
theorem dX5_splitOff_25 : decode cX5_splitOff 25 = .ok (.iadd, 1) := by decide +kernel
theorem dX5_splitOff_26 : decode cX5_splitOff 26 = .ok (.ireturn, 1) := by decide +kernel
theorem dX5_splitOff_27 : decode cX5_splitOff 27 = .ok (.iload 4, 2) := by decide +kernel
theorem dX5_splitOff_29 : decode cX5_splitOff 29 = .ok (.invokestatic 95, 3) := by decide +kernel
theorem dX5_splitOff_32 : decode cX5_splitOff 32 = .ok (.ifCond .eq 11, 3) := by decide +kernel
theorem dX5_splitOff_35 : decode cX5_splitOff 35 = .ok (.aload_n 0, 1) := by decide +kernel
theorem dX5_splitOff_36 : decode cX5_splitOff 36 = .ok (.aload_n 1, 1) := by decide +kernel
theorem dX5_splitOff_37 : decode cX5_splitOff 37 = .ok (.iload_n 2, 1) := by decide +kernel
theorem dX5_splitOff_38 : decode cX5_splitOff 38 = .ok (.iload_n 3, 1) := by decide +kernel
theorem dX5_splitOff_39 : decode cX5_splitOff 39 = .ok (.invokevirtual 99, 3) := by decide +kernel
theorem dX5_splitOff_42 : decode cX5_splitOff 42 = .ok (.ireturn, 1) := by decide +kernel
theorem dX5_splitOff_43 : decode cX5_splitOff 43 = .ok (.iload 4, 2) := by decide +kernel
theorem dX5_splitOff_45 : decode cX5_splitOff 45 = .ok (.invokestatic 102, 3) := by decide +kernel
theorem dX5_splitOff_48 : decode cX5_splitOff 48 = .ok (.ifCond .eq 11, 3) := by decide +kernel
theorem dX5_splitOff_51 : decode cX5_splitOff 51 = .ok (.aload_n 0, 1) := by decide +kernel
theorem dX5_splitOff_52 : decode cX5_splitOff 52 = .ok (.aload_n 1, 1) := by decide +kernel
theorem dX5_splitOff_53 : decode cX5_splitOff 53 = .ok (.iload_n 2, 1) := by decide +kernel
theorem dX5_splitOff_54 : decode cX5_splitOff 54 = .ok (.iload_n 3, 1) := by decide +kernel
theorem dX5_splitOff_55 : decode cX5_splitOff 55 = .ok (.invokevirtual 105, 3) := by decide +kernel
theorem dX5_splitOff_58 : decode cX5_splitOff 58 = .ok (.ireturn, 1) := by decide +kernel
theorem dX5_splitOff_59 : decode cX5_splitOff 59 = .ok (.ldc 108, 2) := by decide +kernel
theorem dX5_splitOff_61 : decode cX5_splitOff 61 = .ok (.iload 4, 2) := by decide +kernel
theorem dX5_splitOff_63 : decode cX5_splitOff 63 = .ok (.i2c, 1) := by decide +kernel
theorem dX5_splitOff_64 : decode cX5_splitOff 64 = .ok (.invokevirtual 110, 3) := by decide +kernel
theorem dX5_splitOff_67 : decode cX5_splitOff 67 = .ok (.istore 5, 2) := by decide +kernel
theorem dX5_splitOff_69 : decode cX5_splitOff 69 = .ok (.iload 5, 2) := by decide +kernel
theorem dX5_splitOff_71 : decode cX5_splitOff 71 = .ok (.ifCond .ge 13, 3) := by decide +kernel
theorem dX5_splitOff_74 : decode cX5_splitOff 74 = .ok (.aload_n 0, 1) := by decide +kernel
theorem dX5_splitOff_75 : decode cX5_splitOff 75 = .ok (.bipush 29, 2) := by decide +kernel
theorem dX5_splitOff_77 : decode cX5_splitOff 77 = .ok (.iload_n 2, 1) := by decide +kernel
theorem dX5_splitOff_78 : decode cX5_splitOff 78 = .ok (.lconst 0, 1) := by decide +kernel
theorem dX5_splitOff_79 : decode cX5_splitOff 79 = .ok (.invokevirtual 91, 3) := by decide +kernel
theorem dX5_splitOff_82 : decode cX5_splitOff 82 = .ok (.iload_n 3, 1) := by decide +kernel
theorem dX5_splitOff_83 : decode cX5_splitOff 83 = .ok (.ireturn, 1) := by decide +kernel
theorem dX5_splitOff_84 : decode cX5_splitOff 84 = .ok (.aload_n 0, 1) := by decide +kernel
theorem dX5_splitOff_85 : decode cX5_splitOff 85 = .ok (.bipush 18, 2) := by decide +kernel
theorem dX5_splitOff_87 : decode cX5_splitOff 87 = .ok (.iload 5, 2) := by decide +kernel
theorem dX5_splitOff_89 : decode cX5_splitOff 89 = .ok (.iadd, 1) := by decide +kernel
theorem dX5_splitOff_90 : decode cX5_splitOff 90 = .ok (.iload_n 2, 1) := by decide +kernel
theorem dX5_splitOff_91 : decode cX5_splitOff 91 = .ok (.lconst 0, 1) := by decide +kernel
theorem dX5_splitOff_92 : decode cX5_splitOff 92 = .ok (.invokevirtual 91, 3) := by decide +kernel
theorem dX5_splitOff_95 : decode cX5_splitOff 95 = .ok (.iload_n 2, 1) := by decide +kernel
theorem dX5_splitOff_96 : decode cX5_splitOff 96 = .ok (.iconst 1, 1) := by decide +kernel
theorem dX5_splitOff_97 : decode cX5_splitOff 97 = .ok (.iadd, 1) := by decide +kernel
theorem dX5_splitOff_98 : decode cX5_splitOff 98 = .ok (.ireturn, 1) := by decide +kernel
theorem dX5_splitWord_0 : decode cX5_splitWord 0 = .ok (.lconst 0, 1) := by decide +kernel
theorem dX5_splitWord_1 : decode cX5_splitWord 1 = .ok (.lstore 4, 2) := by decide +kernel
theorem dX5_splitWord_3 : decode cX5_splitWord 3 = .ok (.iload_n 2, 1) := by decide +kernel
theorem dX5_splitWord_4 : decode cX5_splitWord 4 = .ok (.istore 6, 2) := by decide +kernel
theorem dX5_splitWord_6 : decode cX5_splitWord 6 = .ok (.iload 6, 2) := by decide +kernel
theorem dX5_splitWord_8 : decode cX5_splitWord 8 = .ok (.iload_n 3, 1) := by decide +kernel
theorem dX5_splitWord_9 : decode cX5_splitWord 9 = .ok (.if_icmp .ge 30, 3) := by decide +kernel
theorem dX5_splitWord_12 : decode cX5_splitWord 12 = .ok (.aload_n 1, 1) := by decide +kernel
theorem dX5_splitWord_13 : decode cX5_splitWord 13 = .ok (.iload 6, 2) := by decide +kernel
theorem dX5_splitWord_15 : decode cX5_splitWord 15 = .ok (.baload, 1) := by decide +kernel
theorem dX5_splitWord_16 : decode cX5_splitWord 16 = .ok (.invokestatic 95, 3) := by decide +kernel
theorem dX5_splitWord_19 : decode cX5_splitWord 19 = .ok (.ifCond .eq 20, 3) := by decide +kernel
theorem dX5_splitWord_22 : decode cX5_splitWord 22 = .ok (.lload 4, 2) := by decide +kernel
theorem dX5_splitWord_24 : decode cX5_splitWord 24 = .ok (.aload_n 1, 1) := by decide +kernel
theorem dX5_splitWord_25 : decode cX5_splitWord 25 = .ok (.iload 6, 2) := by decide +kernel
theorem dX5_splitWord_27 : decode cX5_splitWord 27 = .ok (.baload, 1) := by decide +kernel
theorem dX5_splitWord_28 : decode cX5_splitWord 28 = .ok (.invokestatic 67, 3) := by decide +kernel
theorem dX5_splitWord_31 : decode cX5_splitWord 31 = .ok (.lstore 4, 2) := by decide +kernel
theorem dX5_splitWord_33 : decode cX5_splitWord 33 = .ok (.iinc 6 1, 3) := by decide +kernel
theorem dX5_splitWord_36 : decode cX5_splitWord 36 = .ok (.goto (-30), 3) := by decide +kernel
theorem dX5_splitWord_39 : decode cX5_splitWord 39 = .ok (.iload 6, 2) := by decide +kernel
theorem dX5_splitWord_41 : decode cX5_splitWord 41 = .ok (.iload_n 2, 1) := by decide +kernel
theorem dX5_splitWord_42 : decode cX5_splitWord 42 = .ok (.isub, 1) := by decide +kernel
theorem dX5_splitWord_43 : decode cX5_splitWord 43 = .ok (.bipush 8, 2) := by decide +kernel
theorem dX5_splitWord_45 : decode cX5_splitWord 45 = .ok (.if_icmp .le 13, 3) := by decide +kernel
theorem dX5_splitWord_48 : decode cX5_splitWord 48 = .ok (.aload_n 0, 1) := by decide +kernel
theorem dX5_splitWord_49 : decode cX5_splitWord 49 = .ok (.bipush 29, 2) := by decide +kernel
theorem dX5_splitWord_51 : decode cX5_splitWord 51 = .ok (.iload_n 2, 1) := by decide +kernel
theorem dX5_splitWord_52 : decode cX5_splitWord 52 = .ok (.lconst 0, 1) := by decide +kernel
theorem dX5_splitWord_53 : decode cX5_splitWord 53 = .ok (.invokevirtual 91, 3) := by decide +kernel
theorem dX5_splitWord_56 : decode cX5_splitWord 56 = .ok (.iload_n 3, 1) := by decide +kernel
theorem dX5_splitWord_57 : decode cX5_splitWord 57 = .ok (.ireturn, 1) := by decide +kernel
theorem dX5_splitWord_58 : decode cX5_splitWord 58 = .ok (.aload_n 0, 1) := by decide +kernel
theorem dX5_splitWord_59 : decode cX5_splitWord 59 = .ok (.aload_n 0, 1) := by decide +kernel
theorem dX5_splitWord_60 : decode cX5_splitWord 60 = .ok (.lload 4, 2) := by decide +kernel
theorem dX5_splitWord_62 : decode cX5_splitWord 62 = .ok (.invokevirtual 114, 3) := by decide +kernel
theorem dX5_splitWord_65 : decode cX5_splitWord 65 = .ok (.iload_n 2, 1) := by decide +kernel
theorem dX5_splitWord_66 : decode cX5_splitWord 66 = .ok (.lload 4, 2) := by decide +kernel
theorem dX5_splitWord_68 : decode cX5_splitWord 68 = .ok (.invokevirtual 91, 3) := by decide +kernel
theorem dX5_splitWord_71 : decode cX5_splitWord 71 = .ok (.iload 6, 2) := by decide +kernel
theorem dX5_splitWord_73 : decode cX5_splitWord 73 = .ok (.ireturn, 1) := by decide +kernel
theorem dX5_step_0 : decode cX5_step 0 = .ok (.aload_n 0, 1) := by decide +kernel
theorem dX5_step_1 : decode cX5_step 1 = .ok (.getfield 49, 3) := by decide +kernel
theorem dX5_step_4 : decode cX5_step 4 = .ok (.ifCond .ne 26, 3) := by decide +kernel
theorem dX5_step_7 : decode cX5_step 7 = .ok (.aload_n 0, 1) := by decide +kernel
theorem dX5_step_8 : decode cX5_step 8 = .ok (.getfield 29, 3) := by decide +kernel
theorem dX5_step_11 : decode cX5_step 11 = .ok (.iconst 1, 1) := by decide +kernel
theorem dX5_step_12 : decode cX5_step 12 = .ok (.iadd, 1) := by decide +kernel
theorem dX5_step_13 : decode cX5_step 13 = .ok (.aload_n 0, 1) := by decide +kernel
theorem dX5_step_14 : decode cX5_step 14 = .ok (.getfield 25, 3) := by decide +kernel
theorem dX5_step_17 : decode cX5_step 17 = .ok (.if_icmp .ge 13, 3) := by decide +kernel
theorem dX5_step_20 : decode cX5_step 20 = .ok (.aload_n 0, 1) := by decide +kernel
theorem dX5_step_21 : decode cX5_step 21 = .ok (.dup, 1) := by decide +kernel
theorem dX5_step_22 : decode cX5_step 22 = .ok (.getfield 29, 3) := by decide +kernel
theorem dX5_step_25 : decode cX5_step 25 = .ok (.iconst 1, 1) := by decide +kernel
theorem dX5_step_26 : decode cX5_step 26 = .ok (.iadd, 1) := by decide +kernel
theorem dX5_step_27 : decode cX5_step 27 = .ok (.putfield 29, 3) := by decide +kernel
theorem dX5_step_30 : decode cX5_step 30 = .ok (.return_, 1) := by decide +kernel
theorem dX5_withLetter_0 : decode cX5_withLetter 0 = .ok (.lload_n 0, 1) := by decide +kernel
theorem dX5_withLetter_1 : decode cX5_withLetter 1 = .ok (.iconst 5, 1) := by decide +kernel
theorem dX5_withLetter_2 : decode cX5_withLetter 2 = .ok (.lshl, 1) := by decide +kernel
theorem dX5_withLetter_3 : decode cX5_withLetter 3 = .ok (.iload_n 2, 1) := by decide +kernel
theorem dX5_withLetter_4 : decode cX5_withLetter 4 = .ok (.bipush 97, 2) := by decide +kernel
theorem dX5_withLetter_6 : decode cX5_withLetter 6 = .ok (.isub, 1) := by decide +kernel
theorem dX5_withLetter_7 : decode cX5_withLetter 7 = .ok (.iconst 1, 1) := by decide +kernel
theorem dX5_withLetter_8 : decode cX5_withLetter 8 = .ok (.iadd, 1) := by decide +kernel
theorem dX5_withLetter_9 : decode cX5_withLetter 9 = .ok (.i2l, 1) := by decide +kernel
theorem dX5_withLetter_10 : decode cX5_withLetter 10 = .ok (.lor, 1) := by decide +kernel
theorem dX5_withLetter_11 : decode cX5_withLetter 11 = .ok (.lreturn, 1) := by decide +kernel
theorem dX6_addHouse_0 : decode cX6_addHouse 0 = .ok (.aload_n 0, 1) := by decide +kernel
theorem dX6_addHouse_1 : decode cX6_addHouse 1 = .ok (.getfield 35, 3) := by decide +kernel
theorem dX6_addHouse_4 : decode cX6_addHouse 4 = .ok (.bipush 9, 2) := by decide +kernel
theorem dX6_addHouse_6 : decode cX6_addHouse 6 = .ok (.if_icmp .ge 33, 3) := by decide +kernel
theorem dX6_addHouse_9 : decode cX6_addHouse 9 = .ok (.aload_n 0, 1) := by decide +kernel
theorem dX6_addHouse_10 : decode cX6_addHouse 10 = .ok (.getfield 9, 3) := by decide +kernel
theorem dX6_addHouse_13 : decode cX6_addHouse 13 = .ok (.aload_n 0, 1) := by decide +kernel
theorem dX6_addHouse_14 : decode cX6_addHouse 14 = .ok (.getfield 35, 3) := by decide +kernel
theorem dX6_addHouse_17 : decode cX6_addHouse 17 = .ok (.lload_n 1, 1) := by decide +kernel
theorem dX6_addHouse_18 : decode cX6_addHouse 18 = .ok (.lastore, 1) := by decide +kernel
theorem dX6_addHouse_19 : decode cX6_addHouse 19 = .ok (.aload_n 0, 1) := by decide +kernel
theorem dX6_addHouse_20 : decode cX6_addHouse 20 = .ok (.getfield 15, 3) := by decide +kernel
theorem dX6_addHouse_23 : decode cX6_addHouse 23 = .ok (.aload_n 0, 1) := by decide +kernel
theorem dX6_addHouse_24 : decode cX6_addHouse 24 = .ok (.getfield 35, 3) := by decide +kernel
theorem dX6_addHouse_27 : decode cX6_addHouse 27 = .ok (.iload_n 3, 1) := by decide +kernel
theorem dX6_addHouse_28 : decode cX6_addHouse 28 = .ok (.iastore, 1) := by decide +kernel
theorem dX6_addHouse_29 : decode cX6_addHouse 29 = .ok (.aload_n 0, 1) := by decide +kernel
theorem dX6_addHouse_30 : decode cX6_addHouse 30 = .ok (.dup, 1) := by decide +kernel
theorem dX6_addHouse_31 : decode cX6_addHouse 31 = .ok (.getfield 35, 3) := by decide +kernel
theorem dX6_addHouse_34 : decode cX6_addHouse 34 = .ok (.iconst 1, 1) := by decide +kernel
theorem dX6_addHouse_35 : decode cX6_addHouse 35 = .ok (.iadd, 1) := by decide +kernel
theorem dX6_addHouse_36 : decode cX6_addHouse 36 = .ok (.putfield 35, 3) := by decide +kernel
theorem dX6_addHouse_39 : decode cX6_addHouse 39 = .ok (.return_, 1) := by decide +kernel
theorem dX6_addQuarrel_0 : decode cX6_addQuarrel 0 = .ok (.aload_n 0, 1) := by decide +kernel
theorem dX6_addQuarrel_1 : decode cX6_addQuarrel 1 = .ok (.getfield 22, 3) := by decide +kernel
theorem dX6_addQuarrel_4 : decode cX6_addQuarrel 4 = .ok (.iload_n 1, 1) := by decide +kernel
theorem dX6_addQuarrel_5 : decode cX6_addQuarrel 5 = .ok (.dup2, 1) := by decide +kernel
theorem dX6_addQuarrel_6 : decode cX6_addQuarrel 6 = .ok (.iaload, 1) := by decide +kernel
theorem dX6_addQuarrel_7 : decode cX6_addQuarrel 7 = .ok (.iconst 1, 1) := by decide +kernel
theorem dX6_addQuarrel_8 : decode cX6_addQuarrel 8 = .ok (.iload_n 2, 1) := by decide +kernel
theorem dX6_addQuarrel_9 : decode cX6_addQuarrel 9 = .ok (.ishl, 1) := by decide +kernel
theorem dX6_addQuarrel_10 : decode cX6_addQuarrel 10 = .ok (.ior, 1) := by decide +kernel
theorem dX6_addQuarrel_11 : decode cX6_addQuarrel 11 = .ok (.iastore, 1) := by decide +kernel
theorem dX6_addQuarrel_12 : decode cX6_addQuarrel 12 = .ok (.aload_n 0, 1) := by decide +kernel
theorem dX6_addQuarrel_13 : decode cX6_addQuarrel 13 = .ok (.getfield 22, 3) := by decide +kernel
theorem dX6_addQuarrel_16 : decode cX6_addQuarrel 16 = .ok (.iload_n 2, 1) := by decide +kernel
theorem dX6_addQuarrel_17 : decode cX6_addQuarrel 17 = .ok (.dup2, 1) := by decide +kernel
theorem dX6_addQuarrel_18 : decode cX6_addQuarrel 18 = .ok (.iaload, 1) := by decide +kernel
theorem dX6_addQuarrel_19 : decode cX6_addQuarrel 19 = .ok (.iconst 1, 1) := by decide +kernel
theorem dX6_addQuarrel_20 : decode cX6_addQuarrel 20 = .ok (.iload_n 1, 1) := by decide +kernel
theorem dX6_addQuarrel_21 : decode cX6_addQuarrel 21 = .ok (.ishl, 1) := by decide +kernel
theorem dX6_addQuarrel_22 : decode cX6_addQuarrel 22 = .ok (.ior, 1) := by decide +kernel
theorem dX6_addQuarrel_23 : decode cX6_addQuarrel 23 = .ok (.iastore, 1) := by decide +kernel
theorem dX6_addQuarrel_24 : decode cX6_addQuarrel 24 = .ok (.aload_n 0, 1) := by decide +kernel
theorem dX6_addQuarrel_25 : decode cX6_addQuarrel 25 = .ok (.dup, 1) := by decide +kernel
theorem dX6_addQuarrel_26 : decode cX6_addQuarrel 26 = .ok (.getfield 39, 3) := by decide +kernel
theorem dX6_addQuarrel_29 : decode cX6_addQuarrel 29 = .ok (.iconst 1, 1) := by decide +kernel
theorem dX6_addQuarrel_30 : decode cX6_addQuarrel 30 = .ok (.iadd, 1) := by decide +kernel
theorem dX6_addQuarrel_31 : decode cX6_addQuarrel 31 = .ok (.putfield 39, 3) := by decide +kernel
theorem dX6_addQuarrel_34 : decode cX6_addQuarrel 34 = .ok (.return_, 1) := by decide +kernel
theorem dX6_addWish_0 : decode cX6_addWish 0 = .ok (.aload_n 0, 1) := by decide +kernel
theorem dX6_addWish_1 : decode cX6_addWish 1 = .ok (.getfield 25, 3) := by decide +kernel
theorem dX6_addWish_4 : decode cX6_addWish 4 = .ok (.iload_n 1, 1) := by decide +kernel
theorem dX6_addWish_5 : decode cX6_addWish 5 = .ok (.bipush 9, 2) := by decide +kernel
theorem dX6_addWish_7 : decode cX6_addWish 7 = .ok (.imul, 1) := by decide +kernel
theorem dX6_addWish_8 : decode cX6_addWish 8 = .ok (.iload_n 2, 1) := by decide +kernel
theorem dX6_addWish_9 : decode cX6_addWish 9 = .ok (.iadd, 1) := by decide +kernel
theorem dX6_addWish_10 : decode cX6_addWish 10 = .ok (.iload_n 3, 1) := by decide +kernel
theorem dX6_addWish_11 : decode cX6_addWish 11 = .ok (.iastore, 1) := by decide +kernel
theorem dX6_addWish_12 : decode cX6_addWish 12 = .ok (.aload_n 0, 1) := by decide +kernel
theorem dX6_addWish_13 : decode cX6_addWish 13 = .ok (.getfield 25, 3) := by decide +kernel
theorem dX6_addWish_16 : decode cX6_addWish 16 = .ok (.iload_n 2, 1) := by decide +kernel
theorem dX6_addWish_17 : decode cX6_addWish 17 = .ok (.bipush 9, 2) := by decide +kernel
theorem dX6_addWish_19 : decode cX6_addWish 19 = .ok (.imul, 1) := by decide +kernel
theorem dX6_addWish_20 : decode cX6_addWish 20 = .ok (.iload_n 1, 1) := by decide +kernel
theorem dX6_addWish_21 : decode cX6_addWish 21 = .ok (.iadd, 1) := by decide +kernel
theorem dX6_addWish_22 : decode cX6_addWish 22 = .ok (.iload_n 3, 1) := by decide +kernel
theorem dX6_addWish_23 : decode cX6_addWish 23 = .ok (.iastore, 1) := by decide +kernel
theorem dX6_addWish_24 : decode cX6_addWish 24 = .ok (.aload_n 0, 1) := by decide +kernel
theorem dX6_addWish_25 : decode cX6_addWish 25 = .ok (.dup, 1) := by decide +kernel
theorem dX6_addWish_26 : decode cX6_addWish 26 = .ok (.getfield 42, 3) := by decide +kernel
theorem dX6_addWish_29 : decode cX6_addWish 29 = .ok (.iconst 1, 1) := by decide +kernel
theorem dX6_addWish_30 : decode cX6_addWish 30 = .ok (.iadd, 1) := by decide +kernel
theorem dX6_addWish_31 : decode cX6_addWish 31 = .ok (.putfield 42, 3) := by decide +kernel
theorem dX6_addWish_34 : decode cX6_addWish 34 = .ok (.return_, 1) := by decide +kernel
theorem dX6_allows_0 : decode cX6_allows 0 = .ok (.aload_n 0, 1) := by decide +kernel
theorem dX6_allows_1 : decode cX6_allows 1 = .ok (.getfield 22, 3) := by decide +kernel
theorem dX6_allows_4 : decode cX6_allows 4 = .ok (.iload_n 1, 1) := by decide +kernel
theorem dX6_allows_5 : decode cX6_allows 5 = .ok (.iaload, 1) := by decide +kernel
theorem dX6_allows_6 : decode cX6_allows 6 = .ok (.iload_n 2, 1) := by decide +kernel
theorem dX6_allows_7 : decode cX6_allows 7 = .ok (.ishr, 1) := by decide +kernel
theorem dX6_allows_8 : decode cX6_allows 8 = .ok (.iconst 1, 1) := by decide +kernel
theorem dX6_allows_9 : decode cX6_allows 9 = .ok (.iand, 1) := by decide +kernel
theorem dX6_allows_10 : decode cX6_allows 10 = .ok (.iconst 1, 1) := by decide +kernel
theorem dX6_allows_11 : decode cX6_allows 11 = .ok (.if_icmp .ne 5, 3) := by decide +kernel
theorem dX6_allows_14 : decode cX6_allows 14 = .ok (.iconst 0, 1) := by decide +kernel
theorem dX6_allows_15 : decode cX6_allows 15 = .ok (.ireturn, 1) := by decide +kernel
theorem dX6_allows_16 : decode cX6_allows 16 = .ok (.aload_n 0, 1) := by decide +kernel
theorem dX6_allows_17 : decode cX6_allows 17 = .ok (.getfield 31, 3) := by decide +kernel
theorem dX6_allows_20 : decode cX6_allows 20 = .ok (.bipush 12, 2) := by decide +kernel
theorem dX6_allows_22 : decode cX6_allows 22 = .ok (.aload_n 0, 1) := by decide +kernel
theorem dX6_allows_23 : decode cX6_allows 23 = .ok (.getfield 15, 3) := by decide +kernel
theorem dX6_allows_26 : decode cX6_allows 26 = .ok (.iload_n 1, 1) := by decide +kernel
theorem dX6_allows_27 : decode cX6_allows 27 = .ok (.iaload, 1) := by decide +kernel
theorem dX6_allows_28 : decode cX6_allows 28 = .ok (.aload_n 0, 1) := by decide +kernel
theorem dX6_allows_29 : decode cX6_allows 29 = .ok (.getfield 15, 3) := by decide +kernel
theorem dX6_allows_32 : decode cX6_allows 32 = .ok (.iload_n 2, 1) := by decide +kernel
theorem dX6_allows_33 : decode cX6_allows 33 = .ok (.iaload, 1) := by decide +kernel
theorem dX6_allows_34 : decode cX6_allows 34 = .ok (.invokestatic 58, 3) := by decide +kernel
theorem dX6_allows_37 : decode cX6_allows 37 = .ok (.invokevirtual 64, 3) := by decide +kernel
theorem dX6_allows_40 : decode cX6_allows 40 = .ok (.aload_n 0, 1) := by decide +kernel
theorem dX6_allows_41 : decode cX6_allows 41 = .ok (.getfield 31, 3) := by decide +kernel
theorem dX6_allows_44 : decode cX6_allows 44 = .ok (.bipush 13, 2) := by decide +kernel
theorem dX6_allows_46 : decode cX6_allows 46 = .ok (.aload_n 0, 1) := by decide +kernel
theorem dX6_allows_47 : decode cX6_allows 47 = .ok (.getfield 15, 3) := by decide +kernel
theorem dX6_allows_50 : decode cX6_allows 50 = .ok (.iload_n 1, 1) := by decide +kernel
theorem dX6_allows_51 : decode cX6_allows 51 = .ok (.iaload, 1) := by decide +kernel
theorem dX6_allows_52 : decode cX6_allows 52 = .ok (.aload_n 0, 1) := by decide +kernel
theorem dX6_allows_53 : decode cX6_allows 53 = .ok (.getfield 15, 3) := by decide +kernel
theorem dX6_allows_56 : decode cX6_allows 56 = .ok (.iload_n 2, 1) := by decide +kernel
theorem dX6_allows_57 : decode cX6_allows 57 = .ok (.iaload, 1) := by decide +kernel
theorem dX6_allows_58 : decode cX6_allows 58 = .ok (.invokestatic 68, 3) := by decide +kernel
theorem dX6_allows_61 : decode cX6_allows 61 = .ok (.invokevirtual 64, 3) := by decide +kernel
theorem dX6_allows_64 : decode cX6_allows 64 = .ok (.aload_n 0, 1) := by decide +kernel
theorem dX6_allows_65 : decode cX6_allows 65 = .ok (.getfield 31, 3) := by decide +kernel
theorem dX6_allows_68 : decode cX6_allows 68 = .ok (.bipush 14, 2) := by decide +kernel
theorem dX6_allows_70 : decode cX6_allows 70 = .ok (.iload_n 3, 1) := by decide +kernel
theorem dX6_allows_71 : decode cX6_allows 71 = .ok (.invokevirtual 64, 3) := by decide +kernel
theorem dX6_allows_74 : decode cX6_allows 74 = .ok (.aload_n 0, 1) := by decide +kernel
theorem dX6_allows_75 : decode cX6_allows 75 = .ok (.getfield 31, 3) := by decide +kernel
theorem dX6_allows_78 : decode cX6_allows 78 = .ok (.bipush 6, 2) := by decide +kernel
theorem dX6_allows_80 : decode cX6_allows 80 = .ok (.aload_n 0, 1) := by decide +kernel
theorem dX6_allows_81 : decode cX6_allows 81 = .ok (.getfield 25, 3) := by decide +kernel
theorem dX6_allows_84 : decode cX6_allows 84 = .ok (.iload_n 1, 1) := by decide +kernel
theorem dX6_allows_85 : decode cX6_allows 85 = .ok (.bipush 9, 2) := by decide +kernel
theorem dX6_allows_87 : decode cX6_allows 87 = .ok (.imul, 1) := by decide +kernel
theorem dX6_allows_88 : decode cX6_allows 88 = .ok (.iload_n 2, 1) := by decide +kernel
theorem dX6_allows_89 : decode cX6_allows 89 = .ok (.iadd, 1) := by decide +kernel
theorem dX6_allows_90 : decode cX6_allows 90 = .ok (.iaload, 1) := by decide +kernel
theorem dX6_allows_91 : decode cX6_allows 91 = .ok (.invokevirtual 64, 3) := by decide +kernel
theorem dX6_allows_94 : decode cX6_allows 94 = .ok (.aload_n 0, 1) := by decide +kernel
theorem dX6_allows_95 : decode cX6_allows 95 = .ok (.getfield 31, 3) := by decide +kernel
theorem dX6_allows_98 : decode cX6_allows 98 = .ok (.bipush 15, 2) := by decide +kernel
theorem dX6_allows_100 : decode cX6_allows 100 = .ok (.iload 4, 2) := by decide +kernel
theorem dX6_allows_102 : decode cX6_allows 102 = .ok (.invokevirtual 64, 3) := by decide +kernel
theorem dX6_allows_105 : decode cX6_allows 105 = .ok (.aload_n 0, 1) := by decide +kernel
theorem dX6_allows_106 : decode cX6_allows 106 = .ok (.getfield 31, 3) := by decide +kernel
theorem dX6_allows_109 : decode cX6_allows 109 = .ok (.invokevirtual 71, 3) := by decide +kernel
theorem dX6_allows_112 : decode cX6_allows 112 = .ok (.ifCond .eq 7, 3) := by decide +kernel
theorem dX6_allows_115 : decode cX6_allows 115 = .ok (.iconst 1, 1) := by decide +kernel
theorem dX6_allows_116 : decode cX6_allows 116 = .ok (.goto 4, 3) := by decide +kernel
theorem dX6_allows_119 : decode cX6_allows 119 = .ok (.iconst 0, 1) := by decide +kernel
theorem dX6_allows_120 : decode cX6_allows 120 = .ok (.ireturn, 1) := by decide +kernel
theorem dX6_clear_0 : decode cX6_clear 0 = .ok (.aload_n 0, 1) := by decide +kernel
theorem dX6_clear_1 : decode cX6_clear 1 = .ok (.getfield 19, 3) := by decide +kernel
theorem dX6_clear_4 : decode cX6_clear 4 = .ok (.sipush 999, 3) := by decide +kernel
theorem dX6_clear_7 : decode cX6_clear 7 = .ok (.invokestatic 49, 3) := by decide +kernel
theorem dX6_clear_10 : decode cX6_clear 10 = .ok (.aload_n 0, 1) := by decide +kernel
theorem dX6_clear_11 : decode cX6_clear 11 = .ok (.getfield 22, 3) := by decide +kernel
theorem dX6_clear_14 : decode cX6_clear 14 = .ok (.iconst 0, 1) := by decide +kernel
theorem dX6_clear_15 : decode cX6_clear 15 = .ok (.invokestatic 49, 3) := by decide +kernel
theorem dX6_clear_18 : decode cX6_clear 18 = .ok (.aload_n 0, 1) := by decide +kernel
theorem dX6_clear_19 : decode cX6_clear 19 = .ok (.getfield 25, 3) := by decide +kernel
theorem dX6_clear_22 : decode cX6_clear 22 = .ok (.iconst 0, 1) := by decide +kernel
theorem dX6_clear_23 : decode cX6_clear 23 = .ok (.invokestatic 49, 3) := by decide +kernel
theorem dX6_clear_26 : decode cX6_clear 26 = .ok (.aload_n 0, 1) := by decide +kernel
theorem dX6_clear_27 : decode cX6_clear 27 = .ok (.getfield 31, 3) := by decide +kernel
theorem dX6_clear_30 : decode cX6_clear 30 = .ok (.invokevirtual 55, 3) := by decide +kernel
theorem dX6_clear_33 : decode cX6_clear 33 = .ok (.aload_n 0, 1) := by decide +kernel
theorem dX6_clear_34 : decode cX6_clear 34 = .ok (.iconst 0, 1) := by decide +kernel
theorem dX6_clear_35 : decode cX6_clear 35 = .ok (.putfield 35, 3) := by decide +kernel
theorem dX6_clear_38 : decode cX6_clear 38 = .ok (.aload_n 0, 1) := by decide +kernel
theorem dX6_clear_39 : decode cX6_clear 39 = .ok (.iconst 0, 1) := by decide +kernel
theorem dX6_clear_40 : decode cX6_clear 40 = .ok (.putfield 39, 3) := by decide +kernel
theorem dX6_clear_43 : decode cX6_clear 43 = .ok (.aload_n 0, 1) := by decide +kernel
theorem dX6_clear_44 : decode cX6_clear 44 = .ok (.iconst 0, 1) := by decide +kernel
theorem dX6_clear_45 : decode cX6_clear 45 = .ok (.putfield 42, 3) := by decide +kernel
theorem dX6_clear_48 : decode cX6_clear 48 = .ok (.aload_n 0, 1) := by decide +kernel
theorem dX6_clear_49 : decode cX6_clear 49 = .ok (.iconst 0, 1) := by decide +kernel
theorem dX6_clear_50 : decode cX6_clear 50 = .ok (.putfield 45, 3) := by decide +kernel
theorem dX6_clear_53 : decode cX6_clear 53 = .ok (.return_, 1) := by decide +kernel
theorem dX6_lightEnough_0 : decode cX6_lightEnough 0 = .ok (.iconst 0, 1) := by decide +kernel
theorem dX6_lightEnough_1 : decode cX6_lightEnough 1 = .ok (.istore_n 2, 1) := by decide +kernel
theorem dX6_lightEnough_2 : decode cX6_lightEnough 2 = .ok (.iconst 0, 1) := by decide +kernel
theorem dX6_lightEnough_3 : decode cX6_lightEnough 3 = .ok (.istore_n 3, 1) := by decide +kernel
theorem dX6_lightEnough_4 : decode cX6_lightEnough 4 = .ok (.iload_n 3, 1) := by decide +kernel
theorem dX6_lightEnough_5 : decode cX6_lightEnough 5 = .ok (.aload_n 0, 1) := by decide +kernel
theorem dX6_lightEnough_6 : decode cX6_lightEnough 6 = .ok (.getfield 35, 3) := by decide +kernel
theorem dX6_lightEnough_9 : decode cX6_lightEnough 9 = .ok (.if_icmp .ge 25, 3) := by decide +kernel
theorem dX6_lightEnough_12 : decode cX6_lightEnough 12 = .ok (.aload_n 0, 1) := by decide +kernel
theorem dX6_lightEnough_13 : decode cX6_lightEnough 13 = .ok (.getfield 15, 3) := by decide +kernel
theorem dX6_lightEnough_16 : decode cX6_lightEnough 16 = .ok (.iload_n 3, 1) := by decide +kernel
theorem dX6_lightEnough_17 : decode cX6_lightEnough 17 = .ok (.iaload, 1) := by decide +kernel
theorem dX6_lightEnough_18 : decode cX6_lightEnough 18 = .ok (.iload_n 1, 1) := by decide +kernel
theorem dX6_lightEnough_19 : decode cX6_lightEnough 19 = .ok (.if_icmp .gt 9, 3) := by decide +kernel
theorem dX6_lightEnough_22 : decode cX6_lightEnough 22 = .ok (.iload_n 2, 1) := by decide +kernel
theorem dX6_lightEnough_23 : decode cX6_lightEnough 23 = .ok (.iconst 1, 1) := by decide +kernel
theorem dX6_lightEnough_24 : decode cX6_lightEnough 24 = .ok (.iload_n 3, 1) := by decide +kernel
theorem dX6_lightEnough_25 : decode cX6_lightEnough 25 = .ok (.ishl, 1) := by decide +kernel
theorem dX6_lightEnough_26 : decode cX6_lightEnough 26 = .ok (.ior, 1) := by decide +kernel
theorem dX6_lightEnough_27 : decode cX6_lightEnough 27 = .ok (.istore_n 2, 1) := by decide +kernel
theorem dX6_lightEnough_28 : decode cX6_lightEnough 28 = .ok (.iinc 3 1, 3) := by decide +kernel
theorem dX6_lightEnough_31 : decode cX6_lightEnough 31 = .ok (.goto (-27), 3) := by decide +kernel
theorem dX6_lightEnough_34 : decode cX6_lightEnough 34 = .ok (.iload_n 2, 1) := by decide +kernel
theorem dX6_lightEnough_35 : decode cX6_lightEnough 35 = .ok (.ireturn, 1) := by decide +kernel
theorem dX6_named_0 : decode cX6_named 0 = .ok (.iconst 0, 1) := by decide +kernel
theorem dX6_named_1 : decode cX6_named 1 = .ok (.istore_n 3, 1) := by decide +kernel
theorem dX6_named_2 : decode cX6_named 2 = .ok (.iload_n 3, 1) := by decide +kernel
theorem dX6_named_3 : decode cX6_named 3 = .ok (.aload_n 0, 1) := by decide +kernel
theorem dX6_named_4 : decode cX6_named 4 = .ok (.getfield 35, 3) := by decide +kernel
theorem dX6_named_7 : decode cX6_named 7 = .ok (.if_icmp .ge 22, 3) := by decide +kernel
theorem dX6_named_10 : decode cX6_named 10 = .ok (.aload_n 0, 1) := by decide +kernel
theorem dX6_named_11 : decode cX6_named 11 = .ok (.getfield 9, 3) := by decide +kernel
theorem dX6_named_14 : decode cX6_named 14 = .ok (.iload_n 3, 1) := by decide +kernel
theorem dX6_named_15 : decode cX6_named 15 = .ok (.laload, 1) := by decide +kernel
theorem dX6_named_16 : decode cX6_named 16 = .ok (.lload_n 1, 1) := by decide +kernel
theorem dX6_named_17 : decode cX6_named 17 = .ok (.lcmp, 1) := by decide +kernel
theorem dX6_named_18 : decode cX6_named 18 = .ok (.ifCond .ne 5, 3) := by decide +kernel
theorem dX6_named_21 : decode cX6_named 21 = .ok (.iload_n 3, 1) := by decide +kernel
theorem dX6_named_22 : decode cX6_named 22 = .ok (.ireturn, 1) := by decide +kernel
theorem dX6_named_23 : decode cX6_named 23 = .ok (.iinc 3 1, 3) := by decide +kernel
theorem dX6_named_26 : decode cX6_named 26 = .ok (.goto (-24), 3) := by decide +kernel
theorem dX6_named_29 : decode cX6_named 29 = .ok (.iconst (-1), 1) := by decide +kernel
theorem dX6_named_30 : decode cX6_named 30 = .ok (.ireturn, 1) := by decide +kernel
theorem dX7_aheadOf_0 : decode cX7_aheadOf 0 = .ok (.aload_n 0, 1) := by decide +kernel
theorem dX7_aheadOf_1 : decode cX7_aheadOf 1 = .ok (.getfield 27, 3) := by decide +kernel
theorem dX7_aheadOf_4 : decode cX7_aheadOf 4 = .ok (.iload_n 1, 1) := by decide +kernel
theorem dX7_aheadOf_5 : decode cX7_aheadOf 5 = .ok (.bipush 9, 2) := by decide +kernel
theorem dX7_aheadOf_7 : decode cX7_aheadOf 7 = .ok (.imul, 1) := by decide +kernel
theorem dX7_aheadOf_8 : decode cX7_aheadOf 8 = .ok (.iload_n 2, 1) := by decide +kernel
theorem dX7_aheadOf_9 : decode cX7_aheadOf 9 = .ok (.iadd, 1) := by decide +kernel
theorem dX7_aheadOf_10 : decode cX7_aheadOf 10 = .ok (.iaload, 1) := by decide +kernel
theorem dX7_aheadOf_11 : decode cX7_aheadOf 11 = .ok (.ireturn, 1) := by decide +kernel
theorem dX7_alwaysBeside_0 : decode cX7_alwaysBeside 0 = .ok (.aload_n 0, 1) := by decide +kernel
theorem dX7_alwaysBeside_1 : decode cX7_alwaysBeside 1 = .ok (.iconst 2, 1) := by decide +kernel
theorem dX7_alwaysBeside_2 : decode cX7_alwaysBeside 2 = .ok (.putfield 47, 3) := by decide +kernel
theorem dX7_alwaysBeside_5 : decode cX7_alwaysBeside 5 = .ok (.aload_n 0, 1) := by decide +kernel
theorem dX7_alwaysBeside_6 : decode cX7_alwaysBeside 6 = .ok (.iload_n 1, 1) := by decide +kernel
theorem dX7_alwaysBeside_7 : decode cX7_alwaysBeside 7 = .ok (.putfield 50, 3) := by decide +kernel
theorem dX7_alwaysBeside_10 : decode cX7_alwaysBeside 10 = .ok (.iconst (-1), 1) := by decide +kernel
theorem dX7_alwaysBeside_11 : decode cX7_alwaysBeside 11 = .ok (.istore_n 2, 1) := by decide +kernel
theorem dX7_alwaysBeside_12 : decode cX7_alwaysBeside 12 = .ok (.iconst 0, 1) := by decide +kernel
theorem dX7_alwaysBeside_13 : decode cX7_alwaysBeside 13 = .ok (.istore_n 3, 1) := by decide +kernel
theorem dX7_alwaysBeside_14 : decode cX7_alwaysBeside 14 = .ok (.iload_n 3, 1) := by decide +kernel
theorem dX7_alwaysBeside_15 : decode cX7_alwaysBeside 15 = .ok (.bipush 9, 2) := by decide +kernel
theorem dX7_alwaysBeside_17 : decode cX7_alwaysBeside 17 = .ok (.if_icmp .ge 24, 3) := by decide +kernel
theorem dX7_alwaysBeside_20 : decode cX7_alwaysBeside 20 = .ok (.aload_n 0, 1) := by decide +kernel
theorem dX7_alwaysBeside_21 : decode cX7_alwaysBeside 21 = .ok (.getfield 44, 3) := by decide +kernel
theorem dX7_alwaysBeside_24 : decode cX7_alwaysBeside 24 = .ok (.ifCond .ne 17, 3) := by decide +kernel
theorem dX7_alwaysBeside_27 : decode cX7_alwaysBeside 27 = .ok (.iload_n 2, 1) := by decide +kernel
theorem dX7_alwaysBeside_28 : decode cX7_alwaysBeside 28 = .ok (.aload_n 0, 1) := by decide +kernel
theorem dX7_alwaysBeside_29 : decode cX7_alwaysBeside 29 = .ok (.iload_n 3, 1) := by decide +kernel
theorem dX7_alwaysBeside_30 : decode cX7_alwaysBeside 30 = .ok (.invokevirtual 68, 3) := by decide +kernel
theorem dX7_alwaysBeside_33 : decode cX7_alwaysBeside 33 = .ok (.iand, 1) := by decide +kernel
theorem dX7_alwaysBeside_34 : decode cX7_alwaysBeside 34 = .ok (.istore_n 2, 1) := by decide +kernel
theorem dX7_alwaysBeside_35 : decode cX7_alwaysBeside 35 = .ok (.iinc 3 1, 3) := by decide +kernel
theorem dX7_alwaysBeside_38 : decode cX7_alwaysBeside 38 = .ok (.goto (-24), 3) := by decide +kernel
theorem dX7_alwaysBeside_41 : decode cX7_alwaysBeside 41 = .ok (.iload_n 2, 1) := by decide +kernel
theorem dX7_alwaysBeside_42 : decode cX7_alwaysBeside 42 = .ok (.ireturn, 1) := by decide +kernel
theorem dX7_begin_0 : decode cX7_begin 0 = .ok (.aload_n 0, 1) := by decide +kernel
theorem dX7_begin_1 : decode cX7_begin 1 = .ok (.iload_n 1, 1) := by decide +kernel
theorem dX7_begin_2 : decode cX7_begin 2 = .ok (.putfield 30, 3) := by decide +kernel
theorem dX7_begin_5 : decode cX7_begin 5 = .ok (.aload_n 0, 1) := by decide +kernel
theorem dX7_begin_6 : decode cX7_begin 6 = .ok (.iload_n 1, 1) := by decide +kernel
theorem dX7_begin_7 : decode cX7_begin 7 = .ok (.invokestatic 56, 3) := by decide +kernel
theorem dX7_begin_10 : decode cX7_begin 10 = .ok (.putfield 34, 3) := by decide +kernel
theorem dX7_begin_13 : decode cX7_begin 13 = .ok (.aload_n 0, 1) := by decide +kernel
theorem dX7_begin_14 : decode cX7_begin 14 = .ok (.iload_n 2, 1) := by decide +kernel
theorem dX7_begin_15 : decode cX7_begin 15 = .ok (.ifCond .eq 15, 3) := by decide +kernel
theorem dX7_begin_18 : decode cX7_begin 18 = .ok (.aload_n 0, 1) := by decide +kernel
theorem dX7_begin_19 : decode cX7_begin 19 = .ok (.getfield 34, 3) := by decide +kernel
theorem dX7_begin_22 : decode cX7_begin 22 = .ok (.iconst 3, 1) := by decide +kernel
theorem dX7_begin_23 : decode cX7_begin 23 = .ok (.if_icmp .lt 7, 3) := by decide +kernel
theorem dX7_begin_26 : decode cX7_begin 26 = .ok (.iconst 1, 1) := by decide +kernel
theorem dX7_begin_27 : decode cX7_begin 27 = .ok (.goto 4, 3) := by decide +kernel
theorem dX7_begin_30 : decode cX7_begin 30 = .ok (.iconst 0, 1) := by decide +kernel
theorem dX7_begin_31 : decode cX7_begin 31 = .ok (.putfield 37, 3) := by decide +kernel
theorem dX7_begin_34 : decode cX7_begin 34 = .ok (.aload_n 0, 1) := by decide +kernel
theorem dX7_begin_35 : decode cX7_begin 35 = .ok (.iconst 0, 1) := by decide +kernel
theorem dX7_begin_36 : decode cX7_begin 36 = .ok (.putfield 44, 3) := by decide +kernel
theorem dX7_begin_39 : decode cX7_begin 39 = .ok (.aload_n 0, 1) := by decide +kernel
theorem dX7_begin_40 : decode cX7_begin 40 = .ok (.getfield 9, 3) := by decide +kernel
theorem dX7_begin_43 : decode cX7_begin 43 = .ok (.iconst 0, 1) := by decide +kernel
theorem dX7_begin_44 : decode cX7_begin 44 = .ok (.invokestatic 62, 3) := by decide +kernel
theorem dX7_begin_47 : decode cX7_begin 47 = .ok (.aload_n 0, 1) := by decide +kernel
theorem dX7_begin_48 : decode cX7_begin 48 = .ok (.getfield 15, 3) := by decide +kernel
theorem dX7_begin_51 : decode cX7_begin 51 = .ok (.iconst 0, 1) := by decide +kernel
theorem dX7_begin_52 : decode cX7_begin 52 = .ok (.invokestatic 62, 3) := by decide +kernel
theorem dX7_begin_55 : decode cX7_begin 55 = .ok (.aload_n 0, 1) := by decide +kernel
theorem dX7_begin_56 : decode cX7_begin 56 = .ok (.getfield 18, 3) := by decide +kernel
theorem dX7_begin_59 : decode cX7_begin 59 = .ok (.iconst 0, 1) := by decide +kernel
theorem dX7_begin_60 : decode cX7_begin 60 = .ok (.invokestatic 62, 3) := by decide +kernel
theorem dX7_begin_63 : decode cX7_begin 63 = .ok (.aload_n 0, 1) := by decide +kernel
theorem dX7_begin_64 : decode cX7_begin 64 = .ok (.getfield 21, 3) := by decide +kernel
theorem dX7_begin_67 : decode cX7_begin 67 = .ok (.iconst 0, 1) := by decide +kernel
theorem dX7_begin_68 : decode cX7_begin 68 = .ok (.invokestatic 62, 3) := by decide +kernel
theorem dX7_begin_71 : decode cX7_begin 71 = .ok (.aload_n 0, 1) := by decide +kernel
theorem dX7_begin_72 : decode cX7_begin 72 = .ok (.getfield 24, 3) := by decide +kernel
theorem dX7_begin_75 : decode cX7_begin 75 = .ok (.iconst 0, 1) := by decide +kernel
theorem dX7_begin_76 : decode cX7_begin 76 = .ok (.invokestatic 62, 3) := by decide +kernel
theorem dX7_begin_79 : decode cX7_begin 79 = .ok (.return_, 1) := by decide +kernel
theorem dX7_cheapest_0 : decode cX7_cheapest 0 = .ok (.aload_n 0, 1) := by decide +kernel
theorem dX7_cheapest_1 : decode cX7_cheapest 1 = .ok (.iconst 1, 1) := by decide +kernel
theorem dX7_cheapest_2 : decode cX7_cheapest 2 = .ok (.putfield 47, 3) := by decide +kernel
theorem dX7_cheapest_5 : decode cX7_cheapest 5 = .ok (.aload_n 0, 1) := by decide +kernel
theorem dX7_cheapest_6 : decode cX7_cheapest 6 = .ok (.aload_n 0, 1) := by decide +kernel
theorem dX7_cheapest_7 : decode cX7_cheapest 7 = .ok (.getfield 34, 3) := by decide +kernel
theorem dX7_cheapest_10 : decode cX7_cheapest 10 = .ok (.ifCond .ne 7, 3) := by decide +kernel
theorem dX7_cheapest_13 : decode cX7_cheapest 13 = .ok (.iconst 0, 1) := by decide +kernel
theorem dX7_cheapest_14 : decode cX7_cheapest 14 = .ok (.goto 5, 3) := by decide +kernel
theorem dX7_cheapest_17 : decode cX7_cheapest 17 = .ok (.ldc 78, 2) := by decide +kernel
theorem dX7_cheapest_19 : decode cX7_cheapest 19 = .ok (.putfield 41, 3) := by decide +kernel
theorem dX7_cheapest_22 : decode cX7_cheapest 22 = .ok (.aload_n 1, 1) := by decide +kernel
theorem dX7_cheapest_23 : decode cX7_cheapest 23 = .ok (.aload_n 0, 1) := by decide +kernel
theorem dX7_cheapest_24 : decode cX7_cheapest 24 = .ok (.getfield 34, 3) := by decide +kernel
theorem dX7_cheapest_27 : decode cX7_cheapest 27 = .ok (.ifCond .ne 7, 3) := by decide +kernel
theorem dX7_cheapest_30 : decode cX7_cheapest 30 = .ok (.iconst 0, 1) := by decide +kernel
theorem dX7_cheapest_31 : decode cX7_cheapest 31 = .ok (.goto 4, 3) := by decide +kernel
theorem dX7_cheapest_34 : decode cX7_cheapest 34 = .ok (.iconst (-1), 1) := by decide +kernel
theorem dX7_cheapest_35 : decode cX7_cheapest 35 = .ok (.putfield 71, 3) := by decide +kernel
theorem dX7_cheapest_38 : decode cX7_cheapest 38 = .ok (.iconst 0, 1) := by decide +kernel
theorem dX7_cheapest_39 : decode cX7_cheapest 39 = .ok (.istore_n 2, 1) := by decide +kernel
theorem dX7_cheapest_40 : decode cX7_cheapest 40 = .ok (.iload_n 2, 1) := by decide +kernel
theorem dX7_cheapest_41 : decode cX7_cheapest 41 = .ok (.bipush 9, 2) := by decide +kernel
theorem dX7_cheapest_43 : decode cX7_cheapest 43 = .ok (.if_icmp .ge 40, 3) := by decide +kernel
theorem dX7_cheapest_46 : decode cX7_cheapest 46 = .ok (.aload_n 0, 1) := by decide +kernel
theorem dX7_cheapest_47 : decode cX7_cheapest 47 = .ok (.iload_n 2, 1) := by decide +kernel
theorem dX7_cheapest_48 : decode cX7_cheapest 48 = .ok (.invokevirtual 68, 3) := by decide +kernel
theorem dX7_cheapest_51 : decode cX7_cheapest 51 = .ok (.istore_n 3, 1) := by decide +kernel
theorem dX7_cheapest_52 : decode cX7_cheapest 52 = .ok (.iload_n 3, 1) := by decide +kernel
theorem dX7_cheapest_53 : decode cX7_cheapest 53 = .ok (.aload_n 0, 1) := by decide +kernel
theorem dX7_cheapest_54 : decode cX7_cheapest 54 = .ok (.getfield 41, 3) := by decide +kernel
theorem dX7_cheapest_57 : decode cX7_cheapest 57 = .ok (.if_icmp .ge 20, 3) := by decide +kernel
theorem dX7_cheapest_60 : decode cX7_cheapest 60 = .ok (.aload_n 0, 1) := by decide +kernel
theorem dX7_cheapest_61 : decode cX7_cheapest 61 = .ok (.getfield 34, 3) := by decide +kernel
theorem dX7_cheapest_64 : decode cX7_cheapest 64 = .ok (.ifCond .le 13, 3) := by decide +kernel
theorem dX7_cheapest_67 : decode cX7_cheapest 67 = .ok (.aload_n 0, 1) := by decide +kernel
theorem dX7_cheapest_68 : decode cX7_cheapest 68 = .ok (.iload_n 3, 1) := by decide +kernel
theorem dX7_cheapest_69 : decode cX7_cheapest 69 = .ok (.putfield 41, 3) := by decide +kernel
theorem dX7_cheapest_72 : decode cX7_cheapest 72 = .ok (.aload_n 0, 1) := by decide +kernel
theorem dX7_cheapest_73 : decode cX7_cheapest 73 = .ok (.aload_n 1, 1) := by decide +kernel
theorem dX7_cheapest_74 : decode cX7_cheapest 74 = .ok (.invokevirtual 79, 3) := by decide +kernel
theorem dX7_cheapest_77 : decode cX7_cheapest 77 = .ok (.iinc 2 1, 3) := by decide +kernel
theorem dX7_cheapest_80 : decode cX7_cheapest 80 = .ok (.goto (-40), 3) := by decide +kernel
theorem dX7_cheapest_83 : decode cX7_cheapest 83 = .ok (.aload_n 1, 1) := by decide +kernel
theorem dX7_cheapest_84 : decode cX7_cheapest 84 = .ok (.getfield 71, 3) := by decide +kernel
theorem dX7_cheapest_87 : decode cX7_cheapest 87 = .ok (.iconst (-1), 1) := by decide +kernel
theorem dX7_cheapest_88 : decode cX7_cheapest 88 = .ok (.if_icmp .eq 7, 3) := by decide +kernel
theorem dX7_cheapest_91 : decode cX7_cheapest 91 = .ok (.iconst 1, 1) := by decide +kernel
theorem dX7_cheapest_92 : decode cX7_cheapest 92 = .ok (.goto 4, 3) := by decide +kernel
theorem dX7_cheapest_95 : decode cX7_cheapest 95 = .ok (.iconst 0, 1) := by decide +kernel
theorem dX7_cheapest_96 : decode cX7_cheapest 96 = .ok (.ireturn, 1) := by decide +kernel
theorem dX7_closing_0 : decode cX7_closing 0 = .ok (.aload_n 0, 1) := by decide +kernel
theorem dX7_closing_1 : decode cX7_closing 1 = .ok (.getfield 37, 3) := by decide +kernel
theorem dX7_closing_4 : decode cX7_closing 4 = .ok (.ifCond .ne 16, 3) := by decide +kernel
theorem dX7_closing_7 : decode cX7_closing 7 = .ok (.aload_n 0, 1) := by decide +kernel
theorem dX7_closing_8 : decode cX7_closing 8 = .ok (.getfield 47, 3) := by decide +kernel
theorem dX7_closing_11 : decode cX7_closing 11 = .ok (.ifCond .ne 7, 3) := by decide +kernel
theorem dX7_closing_14 : decode cX7_closing 14 = .ok (.iconst 1, 1) := by decide +kernel
theorem dX7_closing_15 : decode cX7_closing 15 = .ok (.goto 4, 3) := by decide +kernel
theorem dX7_closing_18 : decode cX7_closing 18 = .ok (.iconst 0, 1) := by decide +kernel
theorem dX7_closing_19 : decode cX7_closing 19 = .ok (.ireturn, 1) := by decide +kernel
theorem dX7_closing_20 : decode cX7_closing 20 = .ok (.aload_n 0, 1) := by decide +kernel
theorem dX7_closing_21 : decode cX7_closing 21 = .ok (.getfield 15, 3) := by decide +kernel
theorem dX7_closing_24 : decode cX7_closing 24 = .ok (.iload_n 1, 1) := by decide +kernel
theorem dX7_closing_25 : decode cX7_closing 25 = .ok (.iaload, 1) := by decide +kernel
theorem dX7_closing_26 : decode cX7_closing 26 = .ok (.aload_n 0, 1) := by decide +kernel
theorem dX7_closing_27 : decode cX7_closing 27 = .ok (.getfield 53, 3) := by decide +kernel
theorem dX7_closing_30 : decode cX7_closing 30 = .ok (.ishr, 1) := by decide +kernel
theorem dX7_closing_31 : decode cX7_closing 31 = .ok (.iconst 1, 1) := by decide +kernel
theorem dX7_closing_32 : decode cX7_closing 32 = .ok (.iand, 1) := by decide +kernel
theorem dX7_closing_33 : decode cX7_closing 33 = .ok (.ifCond .ne 8, 3) := by decide +kernel
theorem dX7_closing_36 : decode cX7_closing 36 = .ok (.aload_n 0, 1) := by decide +kernel
theorem dX7_closing_37 : decode cX7_closing 37 = .ok (.invokevirtual 83, 3) := by decide +kernel
theorem dX7_closing_40 : decode cX7_closing 40 = .ok (.ireturn, 1) := by decide +kernel
theorem dX7_closing_41 : decode cX7_closing 41 = .ok (.aload_n 0, 1) := by decide +kernel
theorem dX7_closing_42 : decode cX7_closing 42 = .ok (.getfield 47, 3) := by decide +kernel
theorem dX7_closing_45 : decode cX7_closing 45 = .ok (.lookupswitch 44 #[(0, 27), (1, 29)], 27) := by decide +kernel
theorem dX7_closing_72 : decode cX7_closing 72 = .ok (.iconst 1, 1) := by decide +kernel
theorem dX7_closing_73 : decode cX7_closing 73 = .ok (.ireturn, 1) := by decide +kernel
theorem dX7_closing_74 : decode cX7_closing 74 = .ok (.aload_n 0, 1) := by decide +kernel
theorem dX7_closing_75 : decode cX7_closing 75 = .ok (.getfield 21, 3) := by decide +kernel
theorem dX7_closing_78 : decode cX7_closing 78 = .ok (.iload_n 1, 1) := by decide +kernel
theorem dX7_closing_79 : decode cX7_closing 79 = .ok (.bipush 9, 2) := by decide +kernel
theorem dX7_closing_81 : decode cX7_closing 81 = .ok (.imul, 1) := by decide +kernel
theorem dX7_closing_82 : decode cX7_closing 82 = .ok (.aload_n 0, 1) := by decide +kernel
theorem dX7_closing_83 : decode cX7_closing 83 = .ok (.getfield 53, 3) := by decide +kernel
theorem dX7_closing_86 : decode cX7_closing 86 = .ok (.iadd, 1) := by decide +kernel
theorem dX7_closing_87 : decode cX7_closing 87 = .ok (.iaload, 1) := by decide +kernel
theorem dX7_closing_88 : decode cX7_closing 88 = .ok (.ireturn, 1) := by decide +kernel
theorem dX7_closing_89 : decode cX7_closing 89 = .ok (.aload_n 0, 1) := by decide +kernel
theorem dX7_closing_90 : decode cX7_closing 90 = .ok (.iload_n 1, 1) := by decide +kernel
theorem dX7_closing_91 : decode cX7_closing 91 = .ok (.aload_n 0, 1) := by decide +kernel
theorem dX7_closing_92 : decode cX7_closing 92 = .ok (.getfield 53, 3) := by decide +kernel
theorem dX7_closing_95 : decode cX7_closing 95 = .ok (.invokevirtual 106, 3) := by decide +kernel
theorem dX7_closing_98 : decode cX7_closing 98 = .ok (.ireturn, 1) := by decide +kernel
theorem dX7_count_0 : decode cX7_count 0 = .ok (.aload_n 0, 1) := by decide +kernel
theorem dX7_count_1 : decode cX7_count 1 = .ok (.iconst 0, 1) := by decide +kernel
theorem dX7_count_2 : decode cX7_count 2 = .ok (.putfield 47, 3) := by decide +kernel
theorem dX7_count_5 : decode cX7_count 5 = .ok (.aload_n 0, 1) := by decide +kernel
theorem dX7_count_6 : decode cX7_count 6 = .ok (.getfield 44, 3) := by decide +kernel
theorem dX7_count_9 : decode cX7_count 9 = .ok (.ifCond .ne 10, 3) := by decide +kernel
theorem dX7_count_12 : decode cX7_count 12 = .ok (.aload_n 0, 1) := by decide +kernel
theorem dX7_count_13 : decode cX7_count 13 = .ok (.getfield 34, 3) := by decide +kernel
theorem dX7_count_16 : decode cX7_count 16 = .ok (.ifCond .ne 16, 3) := by decide +kernel
theorem dX7_count_19 : decode cX7_count 19 = .ok (.aload_n 0, 1) := by decide +kernel
theorem dX7_count_20 : decode cX7_count 20 = .ok (.getfield 44, 3) := by decide +kernel
theorem dX7_count_23 : decode cX7_count 23 = .ok (.ifCond .eq 7, 3) := by decide +kernel
theorem dX7_count_26 : decode cX7_count 26 = .ok (.iconst 0, 1) := by decide +kernel
theorem dX7_count_27 : decode cX7_count 27 = .ok (.goto 4, 3) := by decide +kernel
theorem dX7_count_30 : decode cX7_count 30 = .ok (.iconst 1, 1) := by decide +kernel
theorem dX7_count_31 : decode cX7_count 31 = .ok (.ireturn, 1) := by decide +kernel
theorem dX7_count_32 : decode cX7_count 32 = .ok (.iconst 0, 1) := by decide +kernel
theorem dX7_count_33 : decode cX7_count 33 = .ok (.istore_n 1, 1) := by decide +kernel
theorem dX7_count_34 : decode cX7_count 34 = .ok (.iconst 0, 1) := by decide +kernel
theorem dX7_count_35 : decode cX7_count 35 = .ok (.istore_n 2, 1) := by decide +kernel
theorem dX7_count_36 : decode cX7_count 36 = .ok (.iload_n 2, 1) := by decide +kernel
theorem dX7_count_37 : decode cX7_count 37 = .ok (.bipush 9, 2) := by decide +kernel
theorem dX7_count_39 : decode cX7_count 39 = .ok (.if_icmp .ge 17, 3) := by decide +kernel
theorem dX7_count_42 : decode cX7_count 42 = .ok (.iload_n 1, 1) := by decide +kernel
theorem dX7_count_43 : decode cX7_count 43 = .ok (.aload_n 0, 1) := by decide +kernel
theorem dX7_count_44 : decode cX7_count 44 = .ok (.iload_n 2, 1) := by decide +kernel
theorem dX7_count_45 : decode cX7_count 45 = .ok (.invokevirtual 68, 3) := by decide +kernel
theorem dX7_count_48 : decode cX7_count 48 = .ok (.iadd, 1) := by decide +kernel
theorem dX7_count_49 : decode cX7_count 49 = .ok (.istore_n 1, 1) := by decide +kernel
theorem dX7_count_50 : decode cX7_count 50 = .ok (.iinc 2 1, 3) := by decide +kernel
theorem dX7_count_53 : decode cX7_count 53 = .ok (.goto (-17), 3) := by decide +kernel
theorem dX7_count_56 : decode cX7_count 56 = .ok (.iload_n 1, 1) := by decide +kernel
theorem dX7_count_57 : decode cX7_count 57 = .ok (.ireturn, 1) := by decide +kernel
theorem dX7_fillRow_0 : decode cX7_fillRow 0 = .ok (.iload_n 1, 1) := by decide +kernel
theorem dX7_fillRow_1 : decode cX7_fillRow 1 = .ok (.iconst 1, 1) := by decide +kernel
theorem dX7_fillRow_2 : decode cX7_fillRow 2 = .ok (.aload_n 0, 1) := by decide +kernel
theorem dX7_fillRow_3 : decode cX7_fillRow 3 = .ok (.getfield 53, 3) := by decide +kernel
theorem dX7_fillRow_6 : decode cX7_fillRow 6 = .ok (.ishl, 1) := by decide +kernel
theorem dX7_fillRow_7 : decode cX7_fillRow 7 = .ok (.if_icmp .ne 7, 3) := by decide +kernel
theorem dX7_fillRow_10 : decode cX7_fillRow 10 = .ok (.iconst 1, 1) := by decide +kernel
theorem dX7_fillRow_11 : decode cX7_fillRow 11 = .ok (.goto 4, 3) := by decide +kernel
theorem dX7_fillRow_14 : decode cX7_fillRow 14 = .ok (.iconst 0, 1) := by decide +kernel
theorem dX7_fillRow_15 : decode cX7_fillRow 15 = .ok (.istore_n 2, 1) := by decide +kernel
theorem dX7_fillRow_16 : decode cX7_fillRow 16 = .ok (.iconst 0, 1) := by decide +kernel
theorem dX7_fillRow_17 : decode cX7_fillRow 17 = .ok (.istore_n 3, 1) := by decide +kernel
theorem dX7_fillRow_18 : decode cX7_fillRow 18 = .ok (.iload_n 3, 1) := by decide +kernel
theorem dX7_fillRow_19 : decode cX7_fillRow 19 = .ok (.bipush 9, 2) := by decide +kernel
theorem dX7_fillRow_21 : decode cX7_fillRow 21 = .ok (.if_icmp .ge 63, 3) := by decide +kernel
theorem dX7_fillRow_24 : decode cX7_fillRow 24 = .ok (.iload_n 1, 1) := by decide +kernel
theorem dX7_fillRow_25 : decode cX7_fillRow 25 = .ok (.iload_n 3, 1) := by decide +kernel
theorem dX7_fillRow_26 : decode cX7_fillRow 26 = .ok (.ishr, 1) := by decide +kernel
theorem dX7_fillRow_27 : decode cX7_fillRow 27 = .ok (.iconst 1, 1) := by decide +kernel
theorem dX7_fillRow_28 : decode cX7_fillRow 28 = .ok (.iand, 1) := by decide +kernel
theorem dX7_fillRow_29 : decode cX7_fillRow 29 = .ok (.iconst 1, 1) := by decide +kernel
theorem dX7_fillRow_30 : decode cX7_fillRow 30 = .ok (.if_icmp .ne 48, 3) := by decide +kernel
theorem dX7_fillRow_33 : decode cX7_fillRow 33 = .ok (.iload_n 3, 1) := by decide +kernel
theorem dX7_fillRow_34 : decode cX7_fillRow 34 = .ok (.aload_n 0, 1) := by decide +kernel
theorem dX7_fillRow_35 : decode cX7_fillRow 35 = .ok (.getfield 53, 3) := by decide +kernel
theorem dX7_fillRow_38 : decode cX7_fillRow 38 = .ok (.if_icmp .ne 7, 3) := by decide +kernel
theorem dX7_fillRow_41 : decode cX7_fillRow 41 = .ok (.iload_n 2, 1) := by decide +kernel
theorem dX7_fillRow_42 : decode cX7_fillRow 42 = .ok (.ifCond .eq 36, 3) := by decide +kernel
theorem dX7_fillRow_45 : decode cX7_fillRow 45 = .ok (.aload_n 0, 1) := by decide +kernel
theorem dX7_fillRow_46 : decode cX7_fillRow 46 = .ok (.getfield 27, 3) := by decide +kernel
theorem dX7_fillRow_49 : decode cX7_fillRow 49 = .ok (.iload_n 1, 1) := by decide +kernel
theorem dX7_fillRow_50 : decode cX7_fillRow 50 = .ok (.bipush 9, 2) := by decide +kernel
theorem dX7_fillRow_52 : decode cX7_fillRow 52 = .ok (.imul, 1) := by decide +kernel
theorem dX7_fillRow_53 : decode cX7_fillRow 53 = .ok (.iload_n 3, 1) := by decide +kernel
theorem dX7_fillRow_54 : decode cX7_fillRow 54 = .ok (.iadd, 1) := by decide +kernel
theorem dX7_fillRow_55 : decode cX7_fillRow 55 = .ok (.iload_n 1, 1) := by decide +kernel
theorem dX7_fillRow_56 : decode cX7_fillRow 56 = .ok (.aload_n 0, 1) := by decide +kernel
theorem dX7_fillRow_57 : decode cX7_fillRow 57 = .ok (.getfield 30, 3) := by decide +kernel
theorem dX7_fillRow_60 : decode cX7_fillRow 60 = .ok (.if_icmp .ne 11, 3) := by decide +kernel
theorem dX7_fillRow_63 : decode cX7_fillRow 63 = .ok (.aload_n 0, 1) := by decide +kernel
theorem dX7_fillRow_64 : decode cX7_fillRow 64 = .ok (.iload_n 3, 1) := by decide +kernel
theorem dX7_fillRow_65 : decode cX7_fillRow 65 = .ok (.invokevirtual 100, 3) := by decide +kernel
theorem dX7_fillRow_68 : decode cX7_fillRow 68 = .ok (.goto 9, 3) := by decide +kernel
theorem dX7_fillRow_71 : decode cX7_fillRow 71 = .ok (.aload_n 0, 1) := by decide +kernel
theorem dX7_fillRow_72 : decode cX7_fillRow 72 = .ok (.iload_n 1, 1) := by decide +kernel
theorem dX7_fillRow_73 : decode cX7_fillRow 73 = .ok (.iload_n 3, 1) := by decide +kernel
theorem dX7_fillRow_74 : decode cX7_fillRow 74 = .ok (.invokevirtual 103, 3) := by decide +kernel
theorem dX7_fillRow_77 : decode cX7_fillRow 77 = .ok (.iastore, 1) := by decide +kernel
theorem dX7_fillRow_78 : decode cX7_fillRow 78 = .ok (.iinc 3 1, 3) := by decide +kernel
theorem dX7_fillRow_81 : decode cX7_fillRow 81 = .ok (.goto (-63), 3) := by decide +kernel
theorem dX7_fillRow_84 : decode cX7_fillRow 84 = .ok (.return_, 1) := by decide +kernel
theorem dX7_firstAsCheap_0 : decode cX7_firstAsCheap 0 = .ok (.aload_n 0, 1) := by decide +kernel
theorem dX7_firstAsCheap_1 : decode cX7_firstAsCheap 1 = .ok (.iload_n 1, 1) := by decide +kernel
theorem dX7_firstAsCheap_2 : decode cX7_firstAsCheap 2 = .ok (.iload_n 2, 1) := by decide +kernel
theorem dX7_firstAsCheap_3 : decode cX7_firstAsCheap 3 = .ok (.invokevirtual 109, 3) := by decide +kernel
theorem dX7_firstAsCheap_6 : decode cX7_firstAsCheap 6 = .ok (.istore_n 3, 1) := by decide +kernel
theorem dX7_firstAsCheap_7 : decode cX7_firstAsCheap 7 = .ok (.iconst 0, 1) := by decide +kernel
theorem dX7_firstAsCheap_8 : decode cX7_firstAsCheap 8 = .ok (.istore 4, 2) := by decide +kernel
theorem dX7_firstAsCheap_10 : decode cX7_firstAsCheap 10 = .ok (.iload 4, 2) := by decide +kernel
theorem dX7_firstAsCheap_12 : decode cX7_firstAsCheap 12 = .ok (.bipush 9, 2) := by decide +kernel
theorem dX7_firstAsCheap_14 : decode cX7_firstAsCheap 14 = .ok (.if_icmp .ge 50, 3) := by decide +kernel
theorem dX7_firstAsCheap_17 : decode cX7_firstAsCheap 17 = .ok (.iload_n 3, 1) := by decide +kernel
theorem dX7_firstAsCheap_18 : decode cX7_firstAsCheap 18 = .ok (.iload 4, 2) := by decide +kernel
theorem dX7_firstAsCheap_20 : decode cX7_firstAsCheap 20 = .ok (.ishr, 1) := by decide +kernel
theorem dX7_firstAsCheap_21 : decode cX7_firstAsCheap 21 = .ok (.iconst 1, 1) := by decide +kernel
theorem dX7_firstAsCheap_22 : decode cX7_firstAsCheap 22 = .ok (.iand, 1) := by decide +kernel
theorem dX7_firstAsCheap_23 : decode cX7_firstAsCheap 23 = .ok (.iconst 1, 1) := by decide +kernel
theorem dX7_firstAsCheap_24 : decode cX7_firstAsCheap 24 = .ok (.if_icmp .ne 34, 3) := by decide +kernel
theorem dX7_firstAsCheap_27 : decode cX7_firstAsCheap 27 = .ok (.aload_n 0, 1) := by decide +kernel
theorem dX7_firstAsCheap_28 : decode cX7_firstAsCheap 28 = .ok (.iload_n 1, 1) := by decide +kernel
theorem dX7_firstAsCheap_29 : decode cX7_firstAsCheap 29 = .ok (.iload_n 2, 1) := by decide +kernel
theorem dX7_firstAsCheap_30 : decode cX7_firstAsCheap 30 = .ok (.iload 4, 2) := by decide +kernel
theorem dX7_firstAsCheap_32 : decode cX7_firstAsCheap 32 = .ok (.invokevirtual 112, 3) := by decide +kernel
theorem dX7_firstAsCheap_35 : decode cX7_firstAsCheap 35 = .ok (.ifCond .eq 23, 3) := by decide +kernel
theorem dX7_firstAsCheap_38 : decode cX7_firstAsCheap 38 = .ok (.aload_n 0, 1) := by decide +kernel
theorem dX7_firstAsCheap_39 : decode cX7_firstAsCheap 39 = .ok (.iload_n 1, 1) := by decide +kernel
theorem dX7_firstAsCheap_40 : decode cX7_firstAsCheap 40 = .ok (.iload_n 2, 1) := by decide +kernel
theorem dX7_firstAsCheap_41 : decode cX7_firstAsCheap 41 = .ok (.iload 4, 2) := by decide +kernel
theorem dX7_firstAsCheap_43 : decode cX7_firstAsCheap 43 = .ok (.invokevirtual 116, 3) := by decide +kernel
theorem dX7_firstAsCheap_46 : decode cX7_firstAsCheap 46 = .ok (.aload_n 0, 1) := by decide +kernel
theorem dX7_firstAsCheap_47 : decode cX7_firstAsCheap 47 = .ok (.iload_n 1, 1) := by decide +kernel
theorem dX7_firstAsCheap_48 : decode cX7_firstAsCheap 48 = .ok (.iload_n 2, 1) := by decide +kernel
theorem dX7_firstAsCheap_49 : decode cX7_firstAsCheap 49 = .ok (.invokevirtual 91, 3) := by decide +kernel
theorem dX7_firstAsCheap_52 : decode cX7_firstAsCheap 52 = .ok (.if_icmp .ne 6, 3) := by decide +kernel
theorem dX7_firstAsCheap_55 : decode cX7_firstAsCheap 55 = .ok (.iload 4, 2) := by decide +kernel
theorem dX7_firstAsCheap_57 : decode cX7_firstAsCheap 57 = .ok (.ireturn, 1) := by decide +kernel
theorem dX7_firstAsCheap_58 : decode cX7_firstAsCheap 58 = .ok (.iinc 4 1, 3) := by decide +kernel
theorem dX7_firstAsCheap_61 : decode cX7_firstAsCheap 61 = .ok (.goto (-51), 3) := by decide +kernel
theorem dX7_firstAsCheap_64 : decode cX7_firstAsCheap 64 = .ok (.iload_n 2, 1) := by decide +kernel
theorem dX7_firstAsCheap_65 : decode cX7_firstAsCheap 65 = .ok (.ireturn, 1) := by decide +kernel
theorem dX7_from_0 : decode cX7_from 0 = .ok (.aload_n 0, 1) := by decide +kernel
theorem dX7_from_1 : decode cX7_from 1 = .ok (.getfield 34, 3) := by decide +kernel
theorem dX7_from_4 : decode cX7_from 4 = .ok (.ifCond .eq 16, 3) := by decide +kernel
theorem dX7_from_7 : decode cX7_from 7 = .ok (.aload_n 0, 1) := by decide +kernel
theorem dX7_from_8 : decode cX7_from 8 = .ok (.getfield 9, 3) := by decide +kernel
theorem dX7_from_11 : decode cX7_from 11 = .ok (.iconst 0, 1) := by decide +kernel
theorem dX7_from_12 : decode cX7_from 12 = .ok (.iaload, 1) := by decide +kernel
theorem dX7_from_13 : decode cX7_from 13 = .ok (.iload_n 1, 1) := by decide +kernel
theorem dX7_from_14 : decode cX7_from 14 = .ok (.ishr, 1) := by decide +kernel
theorem dX7_from_15 : decode cX7_from 15 = .ok (.iconst 1, 1) := by decide +kernel
theorem dX7_from_16 : decode cX7_from 16 = .ok (.iand, 1) := by decide +kernel
theorem dX7_from_17 : decode cX7_from 17 = .ok (.ifCond .ne 8, 3) := by decide +kernel
theorem dX7_from_20 : decode cX7_from 20 = .ok (.aload_n 0, 1) := by decide +kernel
theorem dX7_from_21 : decode cX7_from 21 = .ok (.invokevirtual 83, 3) := by decide +kernel
theorem dX7_from_24 : decode cX7_from 24 = .ok (.ireturn, 1) := by decide +kernel
theorem dX7_from_25 : decode cX7_from 25 = .ok (.aload_n 0, 1) := by decide +kernel
theorem dX7_from_26 : decode cX7_from 26 = .ok (.iload_n 1, 1) := by decide +kernel
theorem dX7_from_27 : decode cX7_from 27 = .ok (.putfield 53, 3) := by decide +kernel
theorem dX7_from_30 : decode cX7_from 30 = .ok (.aload_n 0, 1) := by decide +kernel
theorem dX7_from_31 : decode cX7_from 31 = .ok (.getfield 30, 3) := by decide +kernel
theorem dX7_from_34 : decode cX7_from 34 = .ok (.istore_n 2, 1) := by decide +kernel
theorem dX7_from_35 : decode cX7_from 35 = .ok (.iload_n 2, 1) := by decide +kernel
theorem dX7_from_36 : decode cX7_from 36 = .ok (.ifCond .le 34, 3) := by decide +kernel
theorem dX7_from_39 : decode cX7_from 39 = .ok (.iload_n 2, 1) := by decide +kernel
theorem dX7_from_40 : decode cX7_from 40 = .ok (.aload_n 0, 1) := by decide +kernel
theorem dX7_from_41 : decode cX7_from 41 = .ok (.getfield 30, 3) := by decide +kernel
theorem dX7_from_44 : decode cX7_from 44 = .ok (.iconst (-1), 1) := by decide +kernel
theorem dX7_from_45 : decode cX7_from 45 = .ok (.ixor, 1) := by decide +kernel
theorem dX7_from_46 : decode cX7_from 46 = .ok (.iand, 1) := by decide +kernel
theorem dX7_from_47 : decode cX7_from 47 = .ok (.ifCond .ne 17, 3) := by decide +kernel
theorem dX7_from_50 : decode cX7_from 50 = .ok (.iload_n 2, 1) := by decide +kernel
theorem dX7_from_51 : decode cX7_from 51 = .ok (.iload_n 1, 1) := by decide +kernel
theorem dX7_from_52 : decode cX7_from 52 = .ok (.ishr, 1) := by decide +kernel
theorem dX7_from_53 : decode cX7_from 53 = .ok (.iconst 1, 1) := by decide +kernel
theorem dX7_from_54 : decode cX7_from 54 = .ok (.iand, 1) := by decide +kernel
theorem dX7_from_55 : decode cX7_from 55 = .ok (.iconst 1, 1) := by decide +kernel
theorem dX7_from_56 : decode cX7_from 56 = .ok (.if_icmp .ne 8, 3) := by decide +kernel
theorem dX7_from_59 : decode cX7_from 59 = .ok (.aload_n 0, 1) := by decide +kernel
theorem dX7_from_60 : decode cX7_from 60 = .ok (.iload_n 2, 1) := by decide +kernel
theorem dX7_from_61 : decode cX7_from 61 = .ok (.invokevirtual 87, 3) := by decide +kernel
theorem dX7_from_64 : decode cX7_from 64 = .ok (.iinc 2 (-1), 3) := by decide +kernel
theorem dX7_from_67 : decode cX7_from 67 = .ok (.goto (-32), 3) := by decide +kernel
theorem dX7_from_70 : decode cX7_from 70 = .ok (.aload_n 0, 1) := by decide +kernel
theorem dX7_from_71 : decode cX7_from 71 = .ok (.iconst 1, 1) := by decide +kernel
theorem dX7_from_72 : decode cX7_from 72 = .ok (.iload_n 1, 1) := by decide +kernel
theorem dX7_from_73 : decode cX7_from 73 = .ok (.ishl, 1) := by decide +kernel
theorem dX7_from_74 : decode cX7_from 74 = .ok (.iload_n 1, 1) := by decide +kernel
theorem dX7_from_75 : decode cX7_from 75 = .ok (.invokevirtual 91, 3) := by decide +kernel
theorem dX7_from_78 : decode cX7_from 78 = .ok (.istore_n 2, 1) := by decide +kernel
theorem dX7_from_79 : decode cX7_from 79 = .ok (.aload_n 0, 1) := by decide +kernel
theorem dX7_from_80 : decode cX7_from 80 = .ok (.getfield 47, 3) := by decide +kernel
theorem dX7_from_83 : decode cX7_from 83 = .ok (.iconst 1, 1) := by decide +kernel
theorem dX7_from_84 : decode cX7_from 84 = .ok (.if_icmp .ne 22, 3) := by decide +kernel
theorem dX7_from_87 : decode cX7_from 87 = .ok (.ldc 78, 2) := by decide +kernel
theorem dX7_from_89 : decode cX7_from 89 = .ok (.iload_n 2, 1) := by decide +kernel
theorem dX7_from_90 : decode cX7_from 90 = .ok (.aload_n 0, 1) := by decide +kernel
theorem dX7_from_91 : decode cX7_from 91 = .ok (.getfield 24, 3) := by decide +kernel
theorem dX7_from_94 : decode cX7_from 94 = .ok (.iload_n 1, 1) := by decide +kernel
theorem dX7_from_95 : decode cX7_from 95 = .ok (.bipush 9, 2) := by decide +kernel
theorem dX7_from_97 : decode cX7_from 97 = .ok (.imul, 1) := by decide +kernel
theorem dX7_from_98 : decode cX7_from 98 = .ok (.iaload, 1) := by decide +kernel
theorem dX7_from_99 : decode cX7_from 99 = .ok (.iadd, 1) := by decide +kernel
theorem dX7_from_100 : decode cX7_from 100 = .ok (.invokestatic 95, 3) := by decide +kernel
theorem dX7_from_103 : decode cX7_from 103 = .ok (.goto 4, 3) := by decide +kernel
theorem dX7_from_106 : decode cX7_from 106 = .ok (.iload_n 2, 1) := by decide +kernel
theorem dX7_from_107 : decode cX7_from 107 = .ok (.ireturn, 1) := by decide +kernel
theorem dX7_heedPair_0 : decode cX7_heedPair 0 = .ok (.iload_n 3, 1) := by decide +kernel
theorem dX7_heedPair_1 : decode cX7_heedPair 1 = .ok (.ifCond .ne 34, 3) := by decide +kernel
theorem dX7_heedPair_4 : decode cX7_heedPair 4 = .ok (.aload_n 0, 1) := by decide +kernel
theorem dX7_heedPair_5 : decode cX7_heedPair 5 = .ok (.getfield 15, 3) := by decide +kernel
theorem dX7_heedPair_8 : decode cX7_heedPair 8 = .ok (.iload_n 1, 1) := by decide +kernel
theorem dX7_heedPair_9 : decode cX7_heedPair 9 = .ok (.dup2, 1) := by decide +kernel
theorem dX7_heedPair_10 : decode cX7_heedPair 10 = .ok (.iaload, 1) := by decide +kernel
theorem dX7_heedPair_11 : decode cX7_heedPair 11 = .ok (.iconst 1, 1) := by decide +kernel
theorem dX7_heedPair_12 : decode cX7_heedPair 12 = .ok (.iload_n 2, 1) := by decide +kernel
theorem dX7_heedPair_13 : decode cX7_heedPair 13 = .ok (.ishl, 1) := by decide +kernel
theorem dX7_heedPair_14 : decode cX7_heedPair 14 = .ok (.iconst (-1), 1) := by decide +kernel
theorem dX7_heedPair_15 : decode cX7_heedPair 15 = .ok (.ixor, 1) := by decide +kernel
theorem dX7_heedPair_16 : decode cX7_heedPair 16 = .ok (.iand, 1) := by decide +kernel
theorem dX7_heedPair_17 : decode cX7_heedPair 17 = .ok (.iastore, 1) := by decide +kernel
theorem dX7_heedPair_18 : decode cX7_heedPair 18 = .ok (.aload_n 0, 1) := by decide +kernel
theorem dX7_heedPair_19 : decode cX7_heedPair 19 = .ok (.getfield 15, 3) := by decide +kernel
theorem dX7_heedPair_22 : decode cX7_heedPair 22 = .ok (.iload_n 2, 1) := by decide +kernel
theorem dX7_heedPair_23 : decode cX7_heedPair 23 = .ok (.dup2, 1) := by decide +kernel
theorem dX7_heedPair_24 : decode cX7_heedPair 24 = .ok (.iaload, 1) := by decide +kernel
theorem dX7_heedPair_25 : decode cX7_heedPair 25 = .ok (.iconst 1, 1) := by decide +kernel
theorem dX7_heedPair_26 : decode cX7_heedPair 26 = .ok (.iload_n 1, 1) := by decide +kernel
theorem dX7_heedPair_27 : decode cX7_heedPair 27 = .ok (.ishl, 1) := by decide +kernel
theorem dX7_heedPair_28 : decode cX7_heedPair 28 = .ok (.iconst (-1), 1) := by decide +kernel
theorem dX7_heedPair_29 : decode cX7_heedPair 29 = .ok (.ixor, 1) := by decide +kernel
theorem dX7_heedPair_30 : decode cX7_heedPair 30 = .ok (.iand, 1) := by decide +kernel
theorem dX7_heedPair_31 : decode cX7_heedPair 31 = .ok (.iastore, 1) := by decide +kernel
theorem dX7_heedPair_32 : decode cX7_heedPair 32 = .ok (.goto 54, 3) := by decide +kernel
theorem dX7_heedPair_35 : decode cX7_heedPair 35 = .ok (.aload_n 0, 1) := by decide +kernel
theorem dX7_heedPair_36 : decode cX7_heedPair 36 = .ok (.getfield 30, 3) := by decide +kernel
theorem dX7_heedPair_39 : decode cX7_heedPair 39 = .ok (.iload_n 1, 1) := by decide +kernel
theorem dX7_heedPair_40 : decode cX7_heedPair 40 = .ok (.ishr, 1) := by decide +kernel
theorem dX7_heedPair_41 : decode cX7_heedPair 41 = .ok (.aload_n 0, 1) := by decide +kernel
theorem dX7_heedPair_42 : decode cX7_heedPair 42 = .ok (.getfield 30, 3) := by decide +kernel
theorem dX7_heedPair_45 : decode cX7_heedPair 45 = .ok (.iload_n 2, 1) := by decide +kernel
theorem dX7_heedPair_46 : decode cX7_heedPair 46 = .ok (.ishr, 1) := by decide +kernel
theorem dX7_heedPair_47 : decode cX7_heedPair 47 = .ok (.iand, 1) := by decide +kernel
theorem dX7_heedPair_48 : decode cX7_heedPair 48 = .ok (.iconst 1, 1) := by decide +kernel
theorem dX7_heedPair_49 : decode cX7_heedPair 49 = .ok (.iand, 1) := by decide +kernel
theorem dX7_heedPair_50 : decode cX7_heedPair 50 = .ok (.iconst 1, 1) := by decide +kernel
theorem dX7_heedPair_51 : decode cX7_heedPair 51 = .ok (.if_icmp .ne 30, 3) := by decide +kernel
theorem dX7_heedPair_54 : decode cX7_heedPair 54 = .ok (.aload_n 0, 1) := by decide +kernel
theorem dX7_heedPair_55 : decode cX7_heedPair 55 = .ok (.getfield 18, 3) := by decide +kernel
theorem dX7_heedPair_58 : decode cX7_heedPair 58 = .ok (.iload_n 1, 1) := by decide +kernel
theorem dX7_heedPair_59 : decode cX7_heedPair 59 = .ok (.dup2, 1) := by decide +kernel
theorem dX7_heedPair_60 : decode cX7_heedPair 60 = .ok (.iaload, 1) := by decide +kernel
theorem dX7_heedPair_61 : decode cX7_heedPair 61 = .ok (.iconst 1, 1) := by decide +kernel
theorem dX7_heedPair_62 : decode cX7_heedPair 62 = .ok (.iload_n 2, 1) := by decide +kernel
theorem dX7_heedPair_63 : decode cX7_heedPair 63 = .ok (.ishl, 1) := by decide +kernel
theorem dX7_heedPair_64 : decode cX7_heedPair 64 = .ok (.ior, 1) := by decide +kernel
theorem dX7_heedPair_65 : decode cX7_heedPair 65 = .ok (.iastore, 1) := by decide +kernel
theorem dX7_heedPair_66 : decode cX7_heedPair 66 = .ok (.aload_n 0, 1) := by decide +kernel
theorem dX7_heedPair_67 : decode cX7_heedPair 67 = .ok (.getfield 18, 3) := by decide +kernel
theorem dX7_heedPair_70 : decode cX7_heedPair 70 = .ok (.iload_n 2, 1) := by decide +kernel
theorem dX7_heedPair_71 : decode cX7_heedPair 71 = .ok (.dup2, 1) := by decide +kernel
theorem dX7_heedPair_72 : decode cX7_heedPair 72 = .ok (.iaload, 1) := by decide +kernel
theorem dX7_heedPair_73 : decode cX7_heedPair 73 = .ok (.iconst 1, 1) := by decide +kernel
theorem dX7_heedPair_74 : decode cX7_heedPair 74 = .ok (.iload_n 1, 1) := by decide +kernel
theorem dX7_heedPair_75 : decode cX7_heedPair 75 = .ok (.ishl, 1) := by decide +kernel
theorem dX7_heedPair_76 : decode cX7_heedPair 76 = .ok (.ior, 1) := by decide +kernel
theorem dX7_heedPair_77 : decode cX7_heedPair 77 = .ok (.iastore, 1) := by decide +kernel
theorem dX7_heedPair_78 : decode cX7_heedPair 78 = .ok (.goto 8, 3) := by decide +kernel
theorem dX7_heedPair_81 : decode cX7_heedPair 81 = .ok (.aload_n 0, 1) := by decide +kernel
theorem dX7_heedPair_82 : decode cX7_heedPair 82 = .ok (.iconst 1, 1) := by decide +kernel
theorem dX7_heedPair_83 : decode cX7_heedPair 83 = .ok (.putfield 44, 3) := by decide +kernel
theorem dX7_heedPair_86 : decode cX7_heedPair 86 = .ok (.return_, 1) := by decide +kernel
theorem dX7_heedPlace_0 : decode cX7_heedPlace 0 = .ok (.iload_n 3, 1) := by decide +kernel
theorem dX7_heedPlace_1 : decode cX7_heedPlace 1 = .ok (.ifCond .eq 27, 3) := by decide +kernel
theorem dX7_heedPlace_4 : decode cX7_heedPlace 4 = .ok (.aload_n 0, 1) := by decide +kernel
theorem dX7_heedPlace_5 : decode cX7_heedPlace 5 = .ok (.getfield 30, 3) := by decide +kernel
theorem dX7_heedPlace_8 : decode cX7_heedPlace 8 = .ok (.iload_n 1, 1) := by decide +kernel
theorem dX7_heedPlace_9 : decode cX7_heedPlace 9 = .ok (.ishr, 1) := by decide +kernel
theorem dX7_heedPlace_10 : decode cX7_heedPlace 10 = .ok (.iconst 1, 1) := by decide +kernel
theorem dX7_heedPlace_11 : decode cX7_heedPlace 11 = .ok (.iand, 1) := by decide +kernel
theorem dX7_heedPlace_12 : decode cX7_heedPlace 12 = .ok (.ifCond .eq 11, 3) := by decide +kernel
theorem dX7_heedPlace_15 : decode cX7_heedPlace 15 = .ok (.iload_n 2, 1) := by decide +kernel
theorem dX7_heedPlace_16 : decode cX7_heedPlace 16 = .ok (.aload_n 0, 1) := by decide +kernel
theorem dX7_heedPlace_17 : decode cX7_heedPlace 17 = .ok (.getfield 34, 3) := by decide +kernel
theorem dX7_heedPlace_20 : decode cX7_heedPlace 20 = .ok (.if_icmp .lt 8, 3) := by decide +kernel
theorem dX7_heedPlace_23 : decode cX7_heedPlace 23 = .ok (.aload_n 0, 1) := by decide +kernel
theorem dX7_heedPlace_24 : decode cX7_heedPlace 24 = .ok (.iconst 1, 1) := by decide +kernel
theorem dX7_heedPlace_25 : decode cX7_heedPlace 25 = .ok (.putfield 44, 3) := by decide +kernel
theorem dX7_heedPlace_28 : decode cX7_heedPlace 28 = .ok (.iconst 0, 1) := by decide +kernel
theorem dX7_heedPlace_29 : decode cX7_heedPlace 29 = .ok (.istore 4, 2) := by decide +kernel
theorem dX7_heedPlace_31 : decode cX7_heedPlace 31 = .ok (.iload 4, 2) := by decide +kernel
theorem dX7_heedPlace_33 : decode cX7_heedPlace 33 = .ok (.aload_n 0, 1) := by decide +kernel
theorem dX7_heedPlace_34 : decode cX7_heedPlace 34 = .ok (.getfield 34, 3) := by decide +kernel
theorem dX7_heedPlace_37 : decode cX7_heedPlace 37 = .ok (.if_icmp .ge 39, 3) := by decide +kernel
theorem dX7_heedPlace_40 : decode cX7_heedPlace 40 = .ok (.iload 4, 2) := by decide +kernel
theorem dX7_heedPlace_42 : decode cX7_heedPlace 42 = .ok (.iload_n 2, 1) := by decide +kernel
theorem dX7_heedPlace_43 : decode cX7_heedPlace 43 = .ok (.if_icmp .ne 7, 3) := by decide +kernel
theorem dX7_heedPlace_46 : decode cX7_heedPlace 46 = .ok (.iconst 1, 1) := by decide +kernel
theorem dX7_heedPlace_47 : decode cX7_heedPlace 47 = .ok (.goto 4, 3) := by decide +kernel
theorem dX7_heedPlace_50 : decode cX7_heedPlace 50 = .ok (.iconst 0, 1) := by decide +kernel
theorem dX7_heedPlace_51 : decode cX7_heedPlace 51 = .ok (.iload_n 3, 1) := by decide +kernel
theorem dX7_heedPlace_52 : decode cX7_heedPlace 52 = .ok (.if_icmp .eq 18, 3) := by decide +kernel
theorem dX7_heedPlace_55 : decode cX7_heedPlace 55 = .ok (.aload_n 0, 1) := by decide +kernel
theorem dX7_heedPlace_56 : decode cX7_heedPlace 56 = .ok (.getfield 9, 3) := by decide +kernel
theorem dX7_heedPlace_59 : decode cX7_heedPlace 59 = .ok (.iload 4, 2) := by decide +kernel
theorem dX7_heedPlace_61 : decode cX7_heedPlace 61 = .ok (.dup2, 1) := by decide +kernel
theorem dX7_heedPlace_62 : decode cX7_heedPlace 62 = .ok (.iaload, 1) := by decide +kernel
theorem dX7_heedPlace_63 : decode cX7_heedPlace 63 = .ok (.iconst 1, 1) := by decide +kernel
theorem dX7_heedPlace_64 : decode cX7_heedPlace 64 = .ok (.iload_n 1, 1) := by decide +kernel
theorem dX7_heedPlace_65 : decode cX7_heedPlace 65 = .ok (.ishl, 1) := by decide +kernel
theorem dX7_heedPlace_66 : decode cX7_heedPlace 66 = .ok (.iconst (-1), 1) := by decide +kernel
theorem dX7_heedPlace_67 : decode cX7_heedPlace 67 = .ok (.ixor, 1) := by decide +kernel
theorem dX7_heedPlace_68 : decode cX7_heedPlace 68 = .ok (.iand, 1) := by decide +kernel
theorem dX7_heedPlace_69 : decode cX7_heedPlace 69 = .ok (.iastore, 1) := by decide +kernel
theorem dX7_heedPlace_70 : decode cX7_heedPlace 70 = .ok (.iinc 4 1, 3) := by decide +kernel
theorem dX7_heedPlace_73 : decode cX7_heedPlace 73 = .ok (.goto (-42), 3) := by decide +kernel
theorem dX7_heedPlace_76 : decode cX7_heedPlace 76 = .ok (.return_, 1) := by decide +kernel
theorem dX7_keepsLetters_0 : decode cX7_keepsLetters 0 = .ok (.iconst 1, 1) := by decide +kernel
theorem dX7_keepsLetters_1 : decode cX7_keepsLetters 1 = .ok (.iload_n 2, 1) := by decide +kernel
theorem dX7_keepsLetters_2 : decode cX7_keepsLetters 2 = .ok (.ishl, 1) := by decide +kernel
theorem dX7_keepsLetters_3 : decode cX7_keepsLetters 3 = .ok (.istore 4, 2) := by decide +kernel
theorem dX7_keepsLetters_5 : decode cX7_keepsLetters 5 = .ok (.aload_n 0, 1) := by decide +kernel
theorem dX7_keepsLetters_6 : decode cX7_keepsLetters 6 = .ok (.getfield 37, 3) := by decide +kernel
theorem dX7_keepsLetters_9 : decode cX7_keepsLetters 9 = .ok (.ifCond .eq 26, 3) := by decide +kernel
theorem dX7_keepsLetters_12 : decode cX7_keepsLetters 12 = .ok (.iload_n 1, 1) := by decide +kernel
theorem dX7_keepsLetters_13 : decode cX7_keepsLetters 13 = .ok (.iconst 1, 1) := by decide +kernel
theorem dX7_keepsLetters_14 : decode cX7_keepsLetters 14 = .ok (.iload_n 3, 1) := by decide +kernel
theorem dX7_keepsLetters_15 : decode cX7_keepsLetters 15 = .ok (.ishl, 1) := by decide +kernel
theorem dX7_keepsLetters_16 : decode cX7_keepsLetters 16 = .ok (.ior, 1) := by decide +kernel
theorem dX7_keepsLetters_17 : decode cX7_keepsLetters 17 = .ok (.aload_n 0, 1) := by decide +kernel
theorem dX7_keepsLetters_18 : decode cX7_keepsLetters 18 = .ok (.getfield 30, 3) := by decide +kernel
theorem dX7_keepsLetters_21 : decode cX7_keepsLetters 21 = .ok (.if_icmp .ne 14, 3) := by decide +kernel
theorem dX7_keepsLetters_24 : decode cX7_keepsLetters 24 = .ok (.iload 4, 2) := by decide +kernel
theorem dX7_keepsLetters_26 : decode cX7_keepsLetters 26 = .ok (.iconst 1, 1) := by decide +kernel
theorem dX7_keepsLetters_27 : decode cX7_keepsLetters 27 = .ok (.aload_n 0, 1) := by decide +kernel
theorem dX7_keepsLetters_28 : decode cX7_keepsLetters 28 = .ok (.getfield 53, 3) := by decide +kernel
theorem dX7_keepsLetters_31 : decode cX7_keepsLetters 31 = .ok (.ishl, 1) := by decide +kernel
theorem dX7_keepsLetters_32 : decode cX7_keepsLetters 32 = .ok (.ior, 1) := by decide +kernel
theorem dX7_keepsLetters_33 : decode cX7_keepsLetters 33 = .ok (.istore 4, 2) := by decide +kernel
theorem dX7_keepsLetters_35 : decode cX7_keepsLetters 35 = .ok (.aload_n 0, 1) := by decide +kernel
theorem dX7_keepsLetters_36 : decode cX7_keepsLetters 36 = .ok (.getfield 18, 3) := by decide +kernel
theorem dX7_keepsLetters_39 : decode cX7_keepsLetters 39 = .ok (.iload_n 3, 1) := by decide +kernel
theorem dX7_keepsLetters_40 : decode cX7_keepsLetters 40 = .ok (.iaload, 1) := by decide +kernel
theorem dX7_keepsLetters_41 : decode cX7_keepsLetters 41 = .ok (.iload_n 1, 1) := by decide +kernel
theorem dX7_keepsLetters_42 : decode cX7_keepsLetters 42 = .ok (.iand, 1) := by decide +kernel
theorem dX7_keepsLetters_43 : decode cX7_keepsLetters 43 = .ok (.iload 4, 2) := by decide +kernel
theorem dX7_keepsLetters_45 : decode cX7_keepsLetters 45 = .ok (.iconst (-1), 1) := by decide +kernel
theorem dX7_keepsLetters_46 : decode cX7_keepsLetters 46 = .ok (.ixor, 1) := by decide +kernel
theorem dX7_keepsLetters_47 : decode cX7_keepsLetters 47 = .ok (.iand, 1) := by decide +kernel
theorem dX7_keepsLetters_48 : decode cX7_keepsLetters 48 = .ok (.ifCond .ne 7, 3) := by decide +kernel
theorem dX7_keepsLetters_51 : decode cX7_keepsLetters 51 = .ok (.iconst 1, 1) := by decide +kernel
theorem dX7_keepsLetters_52 : decode cX7_keepsLetters 52 = .ok (.goto 4, 3) := by decide +kernel
theorem dX7_keepsLetters_55 : decode cX7_keepsLetters 55 = .ok (.iconst 0, 1) := by decide +kernel
theorem dX7_keepsLetters_56 : decode cX7_keepsLetters 56 = .ok (.ireturn, 1) := by decide +kernel
theorem dX7_nothing_0 : decode cX7_nothing 0 = .ok (.aload_n 0, 1) := by decide +kernel
theorem dX7_nothing_1 : decode cX7_nothing 1 = .ok (.getfield 47, 3) := by decide +kernel
theorem dX7_nothing_4 : decode cX7_nothing 4 = .ok (.lookupswitch 33 #[(0, 28), (1, 30)], 28) := by decide +kernel
theorem dX7_nothing_32 : decode cX7_nothing 32 = .ok (.iconst 0, 1) := by decide +kernel
theorem dX7_nothing_33 : decode cX7_nothing 33 = .ok (.ireturn, 1) := by decide +kernel
theorem dX7_nothing_34 : decode cX7_nothing 34 = .ok (.ldc 78, 2) := by decide +kernel
theorem dX7_nothing_36 : decode cX7_nothing 36 = .ok (.ireturn, 1) := by decide +kernel
theorem dX7_nothing_37 : decode cX7_nothing 37 = .ok (.iconst (-1), 1) := by decide +kernel
theorem dX7_nothing_38 : decode cX7_nothing 38 = .ok (.ireturn, 1) := by decide +kernel
theorem dX7_onward_0 : decode cX7_onward 0 = .ok (.aload_n 0, 1) := by decide +kernel
theorem dX7_onward_1 : decode cX7_onward 1 = .ok (.invokevirtual 83, 3) := by decide +kernel
theorem dX7_onward_4 : decode cX7_onward 4 = .ok (.istore_n 3, 1) := by decide +kernel
theorem dX7_onward_5 : decode cX7_onward 5 = .ok (.aload_n 0, 1) := by decide +kernel
theorem dX7_onward_6 : decode cX7_onward 6 = .ok (.iload_n 1, 1) := by decide +kernel
theorem dX7_onward_7 : decode cX7_onward 7 = .ok (.iload_n 2, 1) := by decide +kernel
theorem dX7_onward_8 : decode cX7_onward 8 = .ok (.invokevirtual 109, 3) := by decide +kernel
theorem dX7_onward_11 : decode cX7_onward 11 = .ok (.istore 4, 2) := by decide +kernel
theorem dX7_onward_13 : decode cX7_onward 13 = .ok (.iconst 0, 1) := by decide +kernel
theorem dX7_onward_14 : decode cX7_onward 14 = .ok (.istore 5, 2) := by decide +kernel
theorem dX7_onward_16 : decode cX7_onward 16 = .ok (.iload 5, 2) := by decide +kernel
theorem dX7_onward_18 : decode cX7_onward 18 = .ok (.bipush 9, 2) := by decide +kernel
theorem dX7_onward_20 : decode cX7_onward 20 = .ok (.if_icmp .ge 101, 3) := by decide +kernel
theorem dX7_onward_23 : decode cX7_onward 23 = .ok (.iload 4, 2) := by decide +kernel
theorem dX7_onward_25 : decode cX7_onward 25 = .ok (.iload 5, 2) := by decide +kernel
theorem dX7_onward_27 : decode cX7_onward 27 = .ok (.ishr, 1) := by decide +kernel
theorem dX7_onward_28 : decode cX7_onward 28 = .ok (.ifCond .eq 93, 3) := by decide +kernel
theorem dX7_onward_31 : decode cX7_onward 31 = .ok (.iload 4, 2) := by decide +kernel
theorem dX7_onward_33 : decode cX7_onward 33 = .ok (.iload 5, 2) := by decide +kernel
theorem dX7_onward_35 : decode cX7_onward 35 = .ok (.ishr, 1) := by decide +kernel
theorem dX7_onward_36 : decode cX7_onward 36 = .ok (.iconst 1, 1) := by decide +kernel
theorem dX7_onward_37 : decode cX7_onward 37 = .ok (.iand, 1) := by decide +kernel
theorem dX7_onward_38 : decode cX7_onward 38 = .ok (.iconst 1, 1) := by decide +kernel
theorem dX7_onward_39 : decode cX7_onward 39 = .ok (.if_icmp .ne 76, 3) := by decide +kernel
theorem dX7_onward_42 : decode cX7_onward 42 = .ok (.aload_n 0, 1) := by decide +kernel
theorem dX7_onward_43 : decode cX7_onward 43 = .ok (.iload_n 1, 1) := by decide +kernel
theorem dX7_onward_44 : decode cX7_onward 44 = .ok (.iload_n 2, 1) := by decide +kernel
theorem dX7_onward_45 : decode cX7_onward 45 = .ok (.iload 5, 2) := by decide +kernel
theorem dX7_onward_47 : decode cX7_onward 47 = .ok (.invokevirtual 112, 3) := by decide +kernel
theorem dX7_onward_50 : decode cX7_onward 50 = .ok (.ifCond .eq 65, 3) := by decide +kernel
theorem dX7_onward_53 : decode cX7_onward 53 = .ok (.aload_n 0, 1) := by decide +kernel
theorem dX7_onward_54 : decode cX7_onward 54 = .ok (.iload_n 1, 1) := by decide +kernel
theorem dX7_onward_55 : decode cX7_onward 55 = .ok (.iload_n 2, 1) := by decide +kernel
theorem dX7_onward_56 : decode cX7_onward 56 = .ok (.iload 5, 2) := by decide +kernel
theorem dX7_onward_58 : decode cX7_onward 58 = .ok (.invokevirtual 116, 3) := by decide +kernel
theorem dX7_onward_61 : decode cX7_onward 61 = .ok (.istore 6, 2) := by decide +kernel
theorem dX7_onward_63 : decode cX7_onward 63 = .ok (.aload_n 0, 1) := by decide +kernel
theorem dX7_onward_64 : decode cX7_onward 64 = .ok (.getfield 47, 3) := by decide +kernel
theorem dX7_onward_67 : decode cX7_onward 67 = .ok (.lookupswitch 43 #[(0, 25), (1, 33)], 25) := by decide +kernel
theorem dX7_onward_92 : decode cX7_onward 92 = .ok (.iload_n 3, 1) := by decide +kernel
theorem dX7_onward_93 : decode cX7_onward 93 = .ok (.iload 6, 2) := by decide +kernel
theorem dX7_onward_95 : decode cX7_onward 95 = .ok (.iadd, 1) := by decide +kernel
theorem dX7_onward_96 : decode cX7_onward 96 = .ok (.istore_n 3, 1) := by decide +kernel
theorem dX7_onward_97 : decode cX7_onward 97 = .ok (.goto 18, 3) := by decide +kernel
theorem dX7_onward_100 : decode cX7_onward 100 = .ok (.iload_n 3, 1) := by decide +kernel
theorem dX7_onward_101 : decode cX7_onward 101 = .ok (.iload 6, 2) := by decide +kernel
theorem dX7_onward_103 : decode cX7_onward 103 = .ok (.invokestatic 95, 3) := by decide +kernel
theorem dX7_onward_106 : decode cX7_onward 106 = .ok (.istore_n 3, 1) := by decide +kernel
theorem dX7_onward_107 : decode cX7_onward 107 = .ok (.goto 8, 3) := by decide +kernel
theorem dX7_onward_110 : decode cX7_onward 110 = .ok (.iload_n 3, 1) := by decide +kernel
theorem dX7_onward_111 : decode cX7_onward 111 = .ok (.iload 6, 2) := by decide +kernel
theorem dX7_onward_113 : decode cX7_onward 113 = .ok (.iand, 1) := by decide +kernel
theorem dX7_onward_114 : decode cX7_onward 114 = .ok (.istore_n 3, 1) := by decide +kernel
theorem dX7_onward_115 : decode cX7_onward 115 = .ok (.iinc 5 1, 3) := by decide +kernel
theorem dX7_onward_118 : decode cX7_onward 118 = .ok (.goto (-102), 3) := by decide +kernel
theorem dX7_onward_121 : decode cX7_onward 121 = .ok (.iload_n 3, 1) := by decide +kernel
theorem dX7_onward_122 : decode cX7_onward 122 = .ok (.ireturn, 1) := by decide +kernel
theorem dX7_openTo_0 : decode cX7_openTo 0 = .ok (.iload_n 1, 1) := by decide +kernel
theorem dX7_openTo_1 : decode cX7_openTo 1 = .ok (.invokestatic 56, 3) := by decide +kernel
theorem dX7_openTo_4 : decode cX7_openTo 4 = .ok (.istore_n 3, 1) := by decide +kernel
theorem dX7_openTo_5 : decode cX7_openTo 5 = .ok (.iload_n 3, 1) := by decide +kernel
theorem dX7_openTo_6 : decode cX7_openTo 6 = .ok (.aload_n 0, 1) := by decide +kernel
theorem dX7_openTo_7 : decode cX7_openTo 7 = .ok (.getfield 34, 3) := by decide +kernel
theorem dX7_openTo_10 : decode cX7_openTo 10 = .ok (.if_icmp .ge 23, 3) := by decide +kernel
theorem dX7_openTo_13 : decode cX7_openTo 13 = .ok (.aload_n 0, 1) := by decide +kernel
theorem dX7_openTo_14 : decode cX7_openTo 14 = .ok (.getfield 9, 3) := by decide +kernel
theorem dX7_openTo_17 : decode cX7_openTo 17 = .ok (.iload_n 3, 1) := by decide +kernel
theorem dX7_openTo_18 : decode cX7_openTo 18 = .ok (.iaload, 1) := by decide +kernel
theorem dX7_openTo_19 : decode cX7_openTo 19 = .ok (.aload_n 0, 1) := by decide +kernel
theorem dX7_openTo_20 : decode cX7_openTo 20 = .ok (.getfield 15, 3) := by decide +kernel
theorem dX7_openTo_23 : decode cX7_openTo 23 = .ok (.iload_n 2, 1) := by decide +kernel
theorem dX7_openTo_24 : decode cX7_openTo 24 = .ok (.iaload, 1) := by decide +kernel
theorem dX7_openTo_25 : decode cX7_openTo 25 = .ok (.iand, 1) := by decide +kernel
theorem dX7_openTo_26 : decode cX7_openTo 26 = .ok (.iload_n 1, 1) := by decide +kernel
theorem dX7_openTo_27 : decode cX7_openTo 27 = .ok (.iconst (-1), 1) := by decide +kernel
theorem dX7_openTo_28 : decode cX7_openTo 28 = .ok (.ixor, 1) := by decide +kernel
theorem dX7_openTo_29 : decode cX7_openTo 29 = .ok (.iand, 1) := by decide +kernel
theorem dX7_openTo_30 : decode cX7_openTo 30 = .ok (.goto 4, 3) := by decide +kernel
theorem dX7_openTo_33 : decode cX7_openTo 33 = .ok (.iconst 0, 1) := by decide +kernel
theorem dX7_openTo_34 : decode cX7_openTo 34 = .ok (.ireturn, 1) := by decide +kernel
theorem dX7_pick_0 : decode cX7_pick 0 = .ok (.aload_n 0, 1) := by decide +kernel
theorem dX7_pick_1 : decode cX7_pick 1 = .ok (.iconst 0, 1) := by decide +kernel
theorem dX7_pick_2 : decode cX7_pick 2 = .ok (.putfield 47, 3) := by decide +kernel
theorem dX7_pick_5 : decode cX7_pick 5 = .ok (.aload_n 2, 1) := by decide +kernel
theorem dX7_pick_6 : decode cX7_pick 6 = .ok (.aload_n 0, 1) := by decide +kernel
theorem dX7_pick_7 : decode cX7_pick 7 = .ok (.getfield 34, 3) := by decide +kernel
theorem dX7_pick_10 : decode cX7_pick 10 = .ok (.ifCond .ne 7, 3) := by decide +kernel
theorem dX7_pick_13 : decode cX7_pick 13 = .ok (.iconst 0, 1) := by decide +kernel
theorem dX7_pick_14 : decode cX7_pick 14 = .ok (.goto 4, 3) := by decide +kernel
theorem dX7_pick_17 : decode cX7_pick 17 = .ok (.iconst (-1), 1) := by decide +kernel
theorem dX7_pick_18 : decode cX7_pick 18 = .ok (.putfield 71, 3) := by decide +kernel
theorem dX7_pick_21 : decode cX7_pick 21 = .ok (.iload_n 1, 1) := by decide +kernel
theorem dX7_pick_22 : decode cX7_pick 22 = .ok (.istore_n 3, 1) := by decide +kernel
theorem dX7_pick_23 : decode cX7_pick 23 = .ok (.iconst 0, 1) := by decide +kernel
theorem dX7_pick_24 : decode cX7_pick 24 = .ok (.istore 4, 2) := by decide +kernel
theorem dX7_pick_26 : decode cX7_pick 26 = .ok (.iload 4, 2) := by decide +kernel
theorem dX7_pick_28 : decode cX7_pick 28 = .ok (.bipush 9, 2) := by decide +kernel
theorem dX7_pick_30 : decode cX7_pick 30 = .ok (.if_icmp .ge 45, 3) := by decide +kernel
theorem dX7_pick_33 : decode cX7_pick 33 = .ok (.aload_n 2, 1) := by decide +kernel
theorem dX7_pick_34 : decode cX7_pick 34 = .ok (.getfield 71, 3) := by decide +kernel
theorem dX7_pick_37 : decode cX7_pick 37 = .ok (.iconst (-1), 1) := by decide +kernel
theorem dX7_pick_38 : decode cX7_pick 38 = .ok (.if_icmp .ne 37, 3) := by decide +kernel
theorem dX7_pick_41 : decode cX7_pick 41 = .ok (.aload_n 0, 1) := by decide +kernel
theorem dX7_pick_42 : decode cX7_pick 42 = .ok (.iload 4, 2) := by decide +kernel
theorem dX7_pick_44 : decode cX7_pick 44 = .ok (.invokevirtual 68, 3) := by decide +kernel
theorem dX7_pick_47 : decode cX7_pick 47 = .ok (.istore 5, 2) := by decide +kernel
theorem dX7_pick_49 : decode cX7_pick 49 = .ok (.iload_n 3, 1) := by decide +kernel
theorem dX7_pick_50 : decode cX7_pick 50 = .ok (.iload 5, 2) := by decide +kernel
theorem dX7_pick_52 : decode cX7_pick 52 = .ok (.if_icmp .ge 12, 3) := by decide +kernel
theorem dX7_pick_55 : decode cX7_pick 55 = .ok (.aload_n 0, 1) := by decide +kernel
theorem dX7_pick_56 : decode cX7_pick 56 = .ok (.iload_n 3, 1) := by decide +kernel
theorem dX7_pick_57 : decode cX7_pick 57 = .ok (.aload_n 2, 1) := by decide +kernel
theorem dX7_pick_58 : decode cX7_pick 58 = .ok (.invokevirtual 74, 3) := by decide +kernel
theorem dX7_pick_61 : decode cX7_pick 61 = .ok (.goto 8, 3) := by decide +kernel
theorem dX7_pick_64 : decode cX7_pick 64 = .ok (.iload_n 3, 1) := by decide +kernel
theorem dX7_pick_65 : decode cX7_pick 65 = .ok (.iload 5, 2) := by decide +kernel
theorem dX7_pick_67 : decode cX7_pick 67 = .ok (.isub, 1) := by decide +kernel
theorem dX7_pick_68 : decode cX7_pick 68 = .ok (.istore_n 3, 1) := by decide +kernel
theorem dX7_pick_69 : decode cX7_pick 69 = .ok (.iinc 4 1, 3) := by decide +kernel
theorem dX7_pick_72 : decode cX7_pick 72 = .ok (.goto (-46), 3) := by decide +kernel
theorem dX7_pick_75 : decode cX7_pick 75 = .ok (.return_, 1) := by decide +kernel
theorem dX7_seen_0 : decode cX7_seen 0 = .ok (.iload_n 1, 1) := by decide +kernel
theorem dX7_seen_1 : decode cX7_seen 1 = .ok (.aload_n 0, 1) := by decide +kernel
theorem dX7_seen_2 : decode cX7_seen 2 = .ok (.getfield 50, 3) := by decide +kernel
theorem dX7_seen_5 : decode cX7_seen 5 = .ok (.if_icmp .ne 7, 3) := by decide +kernel
theorem dX7_seen_8 : decode cX7_seen 8 = .ok (.iconst 1, 1) := by decide +kernel
theorem dX7_seen_9 : decode cX7_seen 9 = .ok (.iload_n 2, 1) := by decide +kernel
theorem dX7_seen_10 : decode cX7_seen 10 = .ok (.ishl, 1) := by decide +kernel
theorem dX7_seen_11 : decode cX7_seen 11 = .ok (.ireturn, 1) := by decide +kernel
theorem dX7_seen_12 : decode cX7_seen 12 = .ok (.iload_n 2, 1) := by decide +kernel
theorem dX7_seen_13 : decode cX7_seen 13 = .ok (.aload_n 0, 1) := by decide +kernel
theorem dX7_seen_14 : decode cX7_seen 14 = .ok (.getfield 50, 3) := by decide +kernel
theorem dX7_seen_17 : decode cX7_seen 17 = .ok (.if_icmp .ne 9, 3) := by decide +kernel
theorem dX7_seen_20 : decode cX7_seen 20 = .ok (.iconst 1, 1) := by decide +kernel
theorem dX7_seen_21 : decode cX7_seen 21 = .ok (.iload_n 1, 1) := by decide +kernel
theorem dX7_seen_22 : decode cX7_seen 22 = .ok (.ishl, 1) := by decide +kernel
theorem dX7_seen_23 : decode cX7_seen 23 = .ok (.goto 4, 3) := by decide +kernel
theorem dX7_seen_26 : decode cX7_seen 26 = .ok (.iconst 0, 1) := by decide +kernel
theorem dX7_seen_27 : decode cX7_seen 27 = .ok (.ireturn, 1) := by decide +kernel
theorem dX7_through_0 : decode cX7_through 0 = .ok (.aload_n 0, 1) := by decide +kernel
theorem dX7_through_1 : decode cX7_through 1 = .ok (.iload_n 1, 1) := by decide +kernel
theorem dX7_through_2 : decode cX7_through 2 = .ok (.iconst 1, 1) := by decide +kernel
theorem dX7_through_3 : decode cX7_through 3 = .ok (.iload_n 3, 1) := by decide +kernel
theorem dX7_through_4 : decode cX7_through 4 = .ok (.ishl, 1) := by decide +kernel
theorem dX7_through_5 : decode cX7_through 5 = .ok (.ior, 1) := by decide +kernel
theorem dX7_through_6 : decode cX7_through 6 = .ok (.iload_n 3, 1) := by decide +kernel
theorem dX7_through_7 : decode cX7_through 7 = .ok (.invokevirtual 91, 3) := by decide +kernel
theorem dX7_through_10 : decode cX7_through 10 = .ok (.istore 4, 2) := by decide +kernel
theorem dX7_through_12 : decode cX7_through 12 = .ok (.aload_n 0, 1) := by decide +kernel
theorem dX7_through_13 : decode cX7_through 13 = .ok (.getfield 47, 3) := by decide +kernel
theorem dX7_through_16 : decode cX7_through 16 = .ok (.ifCond .ne 6, 3) := by decide +kernel
theorem dX7_through_19 : decode cX7_through 19 = .ok (.iload 4, 2) := by decide +kernel
theorem dX7_through_21 : decode cX7_through 21 = .ok (.ireturn, 1) := by decide +kernel
theorem dX7_through_22 : decode cX7_through 22 = .ok (.aload_n 0, 1) := by decide +kernel
theorem dX7_through_23 : decode cX7_through 23 = .ok (.getfield 47, 3) := by decide +kernel
theorem dX7_through_26 : decode cX7_through 26 = .ok (.iconst 2, 1) := by decide +kernel
theorem dX7_through_27 : decode cX7_through 27 = .ok (.if_icmp .ne 13, 3) := by decide +kernel
theorem dX7_through_30 : decode cX7_through 30 = .ok (.iload 4, 2) := by decide +kernel
theorem dX7_through_32 : decode cX7_through 32 = .ok (.aload_n 0, 1) := by decide +kernel
theorem dX7_through_33 : decode cX7_through 33 = .ok (.iload_n 2, 1) := by decide +kernel
theorem dX7_through_34 : decode cX7_through 34 = .ok (.iload_n 3, 1) := by decide +kernel
theorem dX7_through_35 : decode cX7_through 35 = .ok (.invokevirtual 106, 3) := by decide +kernel
theorem dX7_through_38 : decode cX7_through 38 = .ok (.ior, 1) := by decide +kernel
theorem dX7_through_39 : decode cX7_through 39 = .ok (.ireturn, 1) := by decide +kernel
theorem dX7_through_40 : decode cX7_through 40 = .ok (.aload_n 0, 1) := by decide +kernel
theorem dX7_through_41 : decode cX7_through 41 = .ok (.getfield 21, 3) := by decide +kernel
theorem dX7_through_44 : decode cX7_through 44 = .ok (.iload_n 2, 1) := by decide +kernel
theorem dX7_through_45 : decode cX7_through 45 = .ok (.bipush 9, 2) := by decide +kernel
theorem dX7_through_47 : decode cX7_through 47 = .ok (.imul, 1) := by decide +kernel
theorem dX7_through_48 : decode cX7_through 48 = .ok (.iload_n 3, 1) := by decide +kernel
theorem dX7_through_49 : decode cX7_through 49 = .ok (.iadd, 1) := by decide +kernel
theorem dX7_through_50 : decode cX7_through 50 = .ok (.iaload, 1) := by decide +kernel
theorem dX7_through_51 : decode cX7_through 51 = .ok (.aload_n 0, 1) := by decide +kernel
theorem dX7_through_52 : decode cX7_through 52 = .ok (.getfield 24, 3) := by decide +kernel
theorem dX7_through_55 : decode cX7_through 55 = .ok (.iload_n 3, 1) := by decide +kernel
theorem dX7_through_56 : decode cX7_through 56 = .ok (.bipush 9, 2) := by decide +kernel
theorem dX7_through_58 : decode cX7_through 58 = .ok (.imul, 1) := by decide +kernel
theorem dX7_through_59 : decode cX7_through 59 = .ok (.iload_n 1, 1) := by decide +kernel
theorem dX7_through_60 : decode cX7_through 60 = .ok (.invokestatic 56, 3) := by decide +kernel
theorem dX7_through_63 : decode cX7_through 63 = .ok (.iadd, 1) := by decide +kernel
theorem dX7_through_64 : decode cX7_through 64 = .ok (.iaload, 1) := by decide +kernel
theorem dX7_through_65 : decode cX7_through 65 = .ok (.iadd, 1) := by decide +kernel
theorem dX7_through_66 : decode cX7_through 66 = .ok (.istore 5, 2) := by decide +kernel
theorem dX7_through_68 : decode cX7_through 68 = .ok (.iload 4, 2) := by decide +kernel
theorem dX7_through_70 : decode cX7_through 70 = .ok (.ldc 78, 2) := by decide +kernel
theorem dX7_through_72 : decode cX7_through 72 = .ok (.if_icmp .lt 8, 3) := by decide +kernel
theorem dX7_through_75 : decode cX7_through 75 = .ok (.ldc 78, 2) := by decide +kernel
theorem dX7_through_77 : decode cX7_through 77 = .ok (.goto 8, 3) := by decide +kernel
theorem dX7_through_80 : decode cX7_through 80 = .ok (.iload 4, 2) := by decide +kernel
theorem dX7_through_82 : decode cX7_through 82 = .ok (.iload 5, 2) := by decide +kernel
theorem dX7_through_84 : decode cX7_through 84 = .ok (.iadd, 1) := by decide +kernel
theorem dX7_through_85 : decode cX7_through 85 = .ok (.ireturn, 1) := by decide +kernel
theorem dX7_traceCheapest_0 : decode cX7_traceCheapest 0 = .ok (.iconst 1, 1) := by decide +kernel
theorem dX7_traceCheapest_1 : decode cX7_traceCheapest 1 = .ok (.aload_n 0, 1) := by decide +kernel
theorem dX7_traceCheapest_2 : decode cX7_traceCheapest 2 = .ok (.getfield 53, 3) := by decide +kernel
theorem dX7_traceCheapest_5 : decode cX7_traceCheapest 5 = .ok (.ishl, 1) := by decide +kernel
theorem dX7_traceCheapest_6 : decode cX7_traceCheapest 6 = .ok (.istore_n 2, 1) := by decide +kernel
theorem dX7_traceCheapest_7 : decode cX7_traceCheapest 7 = .ok (.aload_n 0, 1) := by decide +kernel
theorem dX7_traceCheapest_8 : decode cX7_traceCheapest 8 = .ok (.getfield 53, 3) := by decide +kernel
theorem dX7_traceCheapest_11 : decode cX7_traceCheapest 11 = .ok (.istore_n 3, 1) := by decide +kernel
theorem dX7_traceCheapest_12 : decode cX7_traceCheapest 12 = .ok (.aload_n 1, 1) := by decide +kernel
theorem dX7_traceCheapest_13 : decode cX7_traceCheapest 13 = .ok (.iconst 0, 1) := by decide +kernel
theorem dX7_traceCheapest_14 : decode cX7_traceCheapest 14 = .ok (.putfield 71, 3) := by decide +kernel
theorem dX7_traceCheapest_17 : decode cX7_traceCheapest 17 = .ok (.aload_n 1, 1) := by decide +kernel
theorem dX7_traceCheapest_18 : decode cX7_traceCheapest 18 = .ok (.aload_n 0, 1) := by decide +kernel
theorem dX7_traceCheapest_19 : decode cX7_traceCheapest 19 = .ok (.getfield 53, 3) := by decide +kernel
theorem dX7_traceCheapest_22 : decode cX7_traceCheapest 22 = .ok (.invokevirtual 120, 3) := by decide +kernel
theorem dX7_traceCheapest_25 : decode cX7_traceCheapest 25 = .ok (.iconst 1, 1) := by decide +kernel
theorem dX7_traceCheapest_26 : decode cX7_traceCheapest 26 = .ok (.istore 4, 2) := by decide +kernel
theorem dX7_traceCheapest_28 : decode cX7_traceCheapest 28 = .ok (.iload 4, 2) := by decide +kernel
theorem dX7_traceCheapest_30 : decode cX7_traceCheapest 30 = .ok (.aload_n 0, 1) := by decide +kernel
theorem dX7_traceCheapest_31 : decode cX7_traceCheapest 31 = .ok (.getfield 34, 3) := by decide +kernel
theorem dX7_traceCheapest_34 : decode cX7_traceCheapest 34 = .ok (.if_icmp .ge 33, 3) := by decide +kernel
theorem dX7_traceCheapest_37 : decode cX7_traceCheapest 37 = .ok (.aload_n 0, 1) := by decide +kernel
theorem dX7_traceCheapest_38 : decode cX7_traceCheapest 38 = .ok (.iload_n 2, 1) := by decide +kernel
theorem dX7_traceCheapest_39 : decode cX7_traceCheapest 39 = .ok (.iload_n 3, 1) := by decide +kernel
theorem dX7_traceCheapest_40 : decode cX7_traceCheapest 40 = .ok (.invokevirtual 123, 3) := by decide +kernel
theorem dX7_traceCheapest_43 : decode cX7_traceCheapest 43 = .ok (.istore 5, 2) := by decide +kernel
theorem dX7_traceCheapest_45 : decode cX7_traceCheapest 45 = .ok (.aload_n 1, 1) := by decide +kernel
theorem dX7_traceCheapest_46 : decode cX7_traceCheapest 46 = .ok (.iload 5, 2) := by decide +kernel
theorem dX7_traceCheapest_48 : decode cX7_traceCheapest 48 = .ok (.invokevirtual 120, 3) := by decide +kernel
theorem dX7_traceCheapest_51 : decode cX7_traceCheapest 51 = .ok (.iload_n 2, 1) := by decide +kernel
theorem dX7_traceCheapest_52 : decode cX7_traceCheapest 52 = .ok (.iconst 1, 1) := by decide +kernel
theorem dX7_traceCheapest_53 : decode cX7_traceCheapest 53 = .ok (.iload 5, 2) := by decide +kernel
theorem dX7_traceCheapest_55 : decode cX7_traceCheapest 55 = .ok (.ishl, 1) := by decide +kernel
theorem dX7_traceCheapest_56 : decode cX7_traceCheapest 56 = .ok (.ior, 1) := by decide +kernel
theorem dX7_traceCheapest_57 : decode cX7_traceCheapest 57 = .ok (.istore_n 2, 1) := by decide +kernel
theorem dX7_traceCheapest_58 : decode cX7_traceCheapest 58 = .ok (.iload 5, 2) := by decide +kernel
theorem dX7_traceCheapest_60 : decode cX7_traceCheapest 60 = .ok (.istore_n 3, 1) := by decide +kernel
theorem dX7_traceCheapest_61 : decode cX7_traceCheapest 61 = .ok (.iinc 4 1, 3) := by decide +kernel
theorem dX7_traceCheapest_64 : decode cX7_traceCheapest 64 = .ok (.goto (-36), 3) := by decide +kernel
theorem dX7_traceCheapest_67 : decode cX7_traceCheapest 67 = .ok (.return_, 1) := by decide +kernel
theorem dX7_tracePicked_0 : decode cX7_tracePicked 0 = .ok (.iconst 1, 1) := by decide +kernel
theorem dX7_tracePicked_1 : decode cX7_tracePicked 1 = .ok (.aload_n 0, 1) := by decide +kernel
theorem dX7_tracePicked_2 : decode cX7_tracePicked 2 = .ok (.getfield 53, 3) := by decide +kernel
theorem dX7_tracePicked_5 : decode cX7_tracePicked 5 = .ok (.ishl, 1) := by decide +kernel
theorem dX7_tracePicked_6 : decode cX7_tracePicked 6 = .ok (.istore_n 3, 1) := by decide +kernel
theorem dX7_tracePicked_7 : decode cX7_tracePicked 7 = .ok (.aload_n 0, 1) := by decide +kernel
theorem dX7_tracePicked_8 : decode cX7_tracePicked 8 = .ok (.getfield 53, 3) := by decide +kernel
theorem dX7_tracePicked_11 : decode cX7_tracePicked 11 = .ok (.istore 4, 2) := by decide +kernel
theorem dX7_tracePicked_13 : decode cX7_tracePicked 13 = .ok (.iload_n 1, 1) := by decide +kernel
theorem dX7_tracePicked_14 : decode cX7_tracePicked 14 = .ok (.istore 5, 2) := by decide +kernel
theorem dX7_tracePicked_16 : decode cX7_tracePicked 16 = .ok (.aload_n 2, 1) := by decide +kernel
theorem dX7_tracePicked_17 : decode cX7_tracePicked 17 = .ok (.iconst 0, 1) := by decide +kernel
theorem dX7_tracePicked_18 : decode cX7_tracePicked 18 = .ok (.putfield 71, 3) := by decide +kernel
theorem dX7_tracePicked_21 : decode cX7_tracePicked 21 = .ok (.aload_n 2, 1) := by decide +kernel
theorem dX7_tracePicked_22 : decode cX7_tracePicked 22 = .ok (.aload_n 0, 1) := by decide +kernel
theorem dX7_tracePicked_23 : decode cX7_tracePicked 23 = .ok (.getfield 53, 3) := by decide +kernel
theorem dX7_tracePicked_26 : decode cX7_tracePicked 26 = .ok (.invokevirtual 120, 3) := by decide +kernel
theorem dX7_tracePicked_29 : decode cX7_tracePicked 29 = .ok (.iconst 1, 1) := by decide +kernel
theorem dX7_tracePicked_30 : decode cX7_tracePicked 30 = .ok (.istore 6, 2) := by decide +kernel
theorem dX7_tracePicked_32 : decode cX7_tracePicked 32 = .ok (.iload 6, 2) := by decide +kernel
theorem dX7_tracePicked_34 : decode cX7_tracePicked 34 = .ok (.aload_n 0, 1) := by decide +kernel
theorem dX7_tracePicked_35 : decode cX7_tracePicked 35 = .ok (.getfield 34, 3) := by decide +kernel
theorem dX7_tracePicked_38 : decode cX7_tracePicked 38 = .ok (.if_icmp .ge 105, 3) := by decide +kernel
theorem dX7_tracePicked_41 : decode cX7_tracePicked 41 = .ok (.aload_n 0, 1) := by decide +kernel
theorem dX7_tracePicked_42 : decode cX7_tracePicked 42 = .ok (.iload_n 3, 1) := by decide +kernel
theorem dX7_tracePicked_43 : decode cX7_tracePicked 43 = .ok (.iload 4, 2) := by decide +kernel
theorem dX7_tracePicked_45 : decode cX7_tracePicked 45 = .ok (.invokevirtual 109, 3) := by decide +kernel
theorem dX7_tracePicked_48 : decode cX7_tracePicked 48 = .ok (.istore 7, 2) := by decide +kernel
theorem dX7_tracePicked_50 : decode cX7_tracePicked 50 = .ok (.iconst 0, 1) := by decide +kernel
theorem dX7_tracePicked_51 : decode cX7_tracePicked 51 = .ok (.istore 8, 2) := by decide +kernel
theorem dX7_tracePicked_53 : decode cX7_tracePicked 53 = .ok (.iload 8, 2) := by decide +kernel
theorem dX7_tracePicked_55 : decode cX7_tracePicked 55 = .ok (.bipush 9, 2) := by decide +kernel
theorem dX7_tracePicked_57 : decode cX7_tracePicked 57 = .ok (.if_icmp .ge 80, 3) := by decide +kernel
theorem dX7_tracePicked_60 : decode cX7_tracePicked 60 = .ok (.iload 7, 2) := by decide +kernel
theorem dX7_tracePicked_62 : decode cX7_tracePicked 62 = .ok (.iload 8, 2) := by decide +kernel
theorem dX7_tracePicked_64 : decode cX7_tracePicked 64 = .ok (.ishr, 1) := by decide +kernel
theorem dX7_tracePicked_65 : decode cX7_tracePicked 65 = .ok (.iconst 1, 1) := by decide +kernel
theorem dX7_tracePicked_66 : decode cX7_tracePicked 66 = .ok (.iand, 1) := by decide +kernel
theorem dX7_tracePicked_67 : decode cX7_tracePicked 67 = .ok (.iconst 1, 1) := by decide +kernel
theorem dX7_tracePicked_68 : decode cX7_tracePicked 68 = .ok (.if_icmp .ne 63, 3) := by decide +kernel
theorem dX7_tracePicked_71 : decode cX7_tracePicked 71 = .ok (.aload_n 0, 1) := by decide +kernel
theorem dX7_tracePicked_72 : decode cX7_tracePicked 72 = .ok (.iload_n 3, 1) := by decide +kernel
theorem dX7_tracePicked_73 : decode cX7_tracePicked 73 = .ok (.iload 4, 2) := by decide +kernel
theorem dX7_tracePicked_75 : decode cX7_tracePicked 75 = .ok (.iload 8, 2) := by decide +kernel
theorem dX7_tracePicked_77 : decode cX7_tracePicked 77 = .ok (.invokevirtual 112, 3) := by decide +kernel
theorem dX7_tracePicked_80 : decode cX7_tracePicked 80 = .ok (.ifCond .eq 51, 3) := by decide +kernel
theorem dX7_tracePicked_83 : decode cX7_tracePicked 83 = .ok (.aload_n 0, 1) := by decide +kernel
theorem dX7_tracePicked_84 : decode cX7_tracePicked 84 = .ok (.iload_n 3, 1) := by decide +kernel
theorem dX7_tracePicked_85 : decode cX7_tracePicked 85 = .ok (.iconst 1, 1) := by decide +kernel
theorem dX7_tracePicked_86 : decode cX7_tracePicked 86 = .ok (.iload 8, 2) := by decide +kernel
theorem dX7_tracePicked_88 : decode cX7_tracePicked 88 = .ok (.ishl, 1) := by decide +kernel
theorem dX7_tracePicked_89 : decode cX7_tracePicked 89 = .ok (.ior, 1) := by decide +kernel
theorem dX7_tracePicked_90 : decode cX7_tracePicked 90 = .ok (.iload 8, 2) := by decide +kernel
theorem dX7_tracePicked_92 : decode cX7_tracePicked 92 = .ok (.invokevirtual 91, 3) := by decide +kernel
theorem dX7_tracePicked_95 : decode cX7_tracePicked 95 = .ok (.istore 9, 2) := by decide +kernel
theorem dX7_tracePicked_97 : decode cX7_tracePicked 97 = .ok (.iload 5, 2) := by decide +kernel
theorem dX7_tracePicked_99 : decode cX7_tracePicked 99 = .ok (.iload 9, 2) := by decide +kernel
theorem dX7_tracePicked_101 : decode cX7_tracePicked 101 = .ok (.if_icmp .ge 23, 3) := by decide +kernel
theorem dX7_tracePicked_104 : decode cX7_tracePicked 104 = .ok (.aload_n 2, 1) := by decide +kernel
theorem dX7_tracePicked_105 : decode cX7_tracePicked 105 = .ok (.iload 8, 2) := by decide +kernel
theorem dX7_tracePicked_107 : decode cX7_tracePicked 107 = .ok (.invokevirtual 120, 3) := by decide +kernel
theorem dX7_tracePicked_110 : decode cX7_tracePicked 110 = .ok (.iload_n 3, 1) := by decide +kernel
theorem dX7_tracePicked_111 : decode cX7_tracePicked 111 = .ok (.iconst 1, 1) := by decide +kernel
theorem dX7_tracePicked_112 : decode cX7_tracePicked 112 = .ok (.iload 8, 2) := by decide +kernel
theorem dX7_tracePicked_114 : decode cX7_tracePicked 114 = .ok (.ishl, 1) := by decide +kernel
theorem dX7_tracePicked_115 : decode cX7_tracePicked 115 = .ok (.ior, 1) := by decide +kernel
theorem dX7_tracePicked_116 : decode cX7_tracePicked 116 = .ok (.istore_n 3, 1) := by decide +kernel
theorem dX7_tracePicked_117 : decode cX7_tracePicked 117 = .ok (.iload 8, 2) := by decide +kernel
theorem dX7_tracePicked_119 : decode cX7_tracePicked 119 = .ok (.istore 4, 2) := by decide +kernel
theorem dX7_tracePicked_121 : decode cX7_tracePicked 121 = .ok (.goto 16, 3) := by decide +kernel
theorem dX7_tracePicked_124 : decode cX7_tracePicked 124 = .ok (.iload 5, 2) := by decide +kernel
theorem dX7_tracePicked_126 : decode cX7_tracePicked 126 = .ok (.iload 9, 2) := by decide +kernel
theorem dX7_tracePicked_128 : decode cX7_tracePicked 128 = .ok (.isub, 1) := by decide +kernel
theorem dX7_tracePicked_129 : decode cX7_tracePicked 129 = .ok (.istore 5, 2) := by decide +kernel
theorem dX7_tracePicked_131 : decode cX7_tracePicked 131 = .ok (.iinc 8 1, 3) := by decide +kernel
theorem dX7_tracePicked_134 : decode cX7_tracePicked 134 = .ok (.goto (-81), 3) := by decide +kernel
theorem dX7_tracePicked_137 : decode cX7_tracePicked 137 = .ok (.iinc 6 1, 3) := by decide +kernel
theorem dX7_tracePicked_140 : decode cX7_tracePicked 140 = .ok (.goto (-108), 3) := by decide +kernel
theorem dX7_tracePicked_143 : decode cX7_tracePicked 143 = .ok (.return_, 1) := by decide +kernel
theorem dX8_about_0 : decode cX8_about 0 = .ok (.iload_n 1, 1) := by decide +kernel
theorem dX8_about_1 : decode cX8_about 1 = .ok (.tableswitch 140 0 9 #[55, 63, 68, 76, 84, 92, 100, 105, 113, 124], 55) := by decide +kernel
theorem dX8_about_56 : decode cX8_about 56 = .ok (.aload_n 0, 1) := by decide +kernel
theorem dX8_about_57 : decode cX8_about 57 = .ok (.getfield 27, 3) := by decide +kernel
theorem dX8_about_60 : decode cX8_about 60 = .ok (.getfield 108, 3) := by decide +kernel
theorem dX8_about_63 : decode cX8_about 63 = .ok (.ireturn, 1) := by decide +kernel
theorem dX8_about_64 : decode cX8_about 64 = .ok (.aload_n 0, 1) := by decide +kernel
theorem dX8_about_65 : decode cX8_about 65 = .ok (.invokevirtual 164, 3) := by decide +kernel
theorem dX8_about_68 : decode cX8_about 68 = .ok (.ireturn, 1) := by decide +kernel
theorem dX8_about_69 : decode cX8_about 69 = .ok (.aload_n 0, 1) := by decide +kernel
theorem dX8_about_70 : decode cX8_about 70 = .ok (.getfield 34, 3) := by decide +kernel
theorem dX8_about_73 : decode cX8_about 73 = .ok (.getfield 121, 3) := by decide +kernel
theorem dX8_about_76 : decode cX8_about 76 = .ok (.ireturn, 1) := by decide +kernel
theorem dX8_about_77 : decode cX8_about 77 = .ok (.aload_n 0, 1) := by decide +kernel
theorem dX8_about_78 : decode cX8_about 78 = .ok (.getfield 52, 3) := by decide +kernel
theorem dX8_about_81 : decode cX8_about 81 = .ok (.getfield 77, 3) := by decide +kernel
theorem dX8_about_84 : decode cX8_about 84 = .ok (.ireturn, 1) := by decide +kernel
theorem dX8_about_85 : decode cX8_about 85 = .ok (.aload_n 0, 1) := by decide +kernel
theorem dX8_about_86 : decode cX8_about 86 = .ok (.getfield 45, 3) := by decide +kernel
theorem dX8_about_89 : decode cX8_about 89 = .ok (.getfield 95, 3) := by decide +kernel
theorem dX8_about_92 : decode cX8_about 92 = .ok (.ireturn, 1) := by decide +kernel
theorem dX8_about_93 : decode cX8_about 93 = .ok (.aload_n 0, 1) := by decide +kernel
theorem dX8_about_94 : decode cX8_about 94 = .ok (.getfield 45, 3) := by decide +kernel
theorem dX8_about_97 : decode cX8_about 97 = .ok (.getfield 283, 3) := by decide +kernel
theorem dX8_about_100 : decode cX8_about 100 = .ok (.ireturn, 1) := by decide +kernel
theorem dX8_about_101 : decode cX8_about 101 = .ok (.aload_n 0, 1) := by decide +kernel
theorem dX8_about_102 : decode cX8_about 102 = .ok (.getfield 13, 3) := by decide +kernel
theorem dX8_about_105 : decode cX8_about 105 = .ok (.ireturn, 1) := by decide +kernel
theorem dX8_about_106 : decode cX8_about 106 = .ok (.aload_n 0, 1) := by decide +kernel
theorem dX8_about_107 : decode cX8_about 107 = .ok (.getfield 34, 3) := by decide +kernel
theorem dX8_about_110 : decode cX8_about 110 = .ok (.getfield 243, 3) := by decide +kernel
theorem dX8_about_113 : decode cX8_about 113 = .ok (.ireturn, 1) := by decide +kernel
theorem dX8_about_114 : decode cX8_about 114 = .ok (.aload_n 0, 1) := by decide +kernel
theorem dX8_about_115 : decode cX8_about 115 = .ok (.getfield 27, 3) := by decide +kernel
theorem dX8_about_118 : decode cX8_about 118 = .ok (.getfield 297, 3) := by decide +kernel
theorem dX8_about_121 : decode cX8_about 121 = .ok (.getfield 301, 3) := by decide +kernel
theorem dX8_about_124 : decode cX8_about 124 = .ok (.ireturn, 1) := by decide +kernel
theorem dX8_about_125 : decode cX8_about 125 = .ok (.aload_n 0, 1) := by decide +kernel
theorem dX8_about_126 : decode cX8_about 126 = .ok (.getfield 27, 3) := by decide +kernel
theorem dX8_about_129 : decode cX8_about 129 = .ok (.getfield 186, 3) := by decide +kernel
theorem dX8_about_132 : decode cX8_about 132 = .ok (.ifCond .eq 7, 3) := by decide +kernel
theorem dX8_about_135 : decode cX8_about 135 = .ok (.iconst 1, 1) := by decide +kernel
theorem dX8_about_136 : decode cX8_about 136 = .ok (.goto 4, 3) := by decide +kernel
theorem dX8_about_139 : decode cX8_about 139 = .ok (.iconst 0, 1) := by decide +kernel
theorem dX8_about_140 : decode cX8_about 140 = .ok (.ireturn, 1) := by decide +kernel
theorem dX8_about_141 : decode cX8_about 141 = .ok (.iconst (-1), 1) := by decide +kernel
theorem dX8_about_142 : decode cX8_about 142 = .ok (.ireturn, 1) := by decide +kernel
theorem dX8_askLawful_0 : decode cX8_askLawful 0 = .ok (.aload_n 0, 1) := by decide +kernel
theorem dX8_askLawful_1 : decode cX8_askLawful 1 = .ok (.invokevirtual 148, 3) := by decide +kernel
theorem dX8_askLawful_4 : decode cX8_askLawful 4 = .ok (.istore_n 1, 1) := by decide +kernel
theorem dX8_askLawful_5 : decode cX8_askLawful 5 = .ok (.aload_n 0, 1) := by decide +kernel
theorem dX8_askLawful_6 : decode cX8_askLawful 6 = .ok (.getfield 62, 3) := by decide +kernel
theorem dX8_askLawful_9 : decode cX8_askLawful 9 = .ok (.iload_n 1, 1) := by decide +kernel
theorem dX8_askLawful_10 : decode cX8_askLawful 10 = .ok (.aload_n 0, 1) := by decide +kernel
theorem dX8_askLawful_11 : decode cX8_askLawful 11 = .ok (.getfield 27, 3) := by decide +kernel
theorem dX8_askLawful_14 : decode cX8_askLawful 14 = .ok (.getfield 186, 3) := by decide +kernel
theorem dX8_askLawful_17 : decode cX8_askLawful 17 = .ok (.ifCond .ne 7, 3) := by decide +kernel
theorem dX8_askLawful_20 : decode cX8_askLawful 20 = .ok (.iconst 1, 1) := by decide +kernel
theorem dX8_askLawful_21 : decode cX8_askLawful 21 = .ok (.goto 4, 3) := by decide +kernel
theorem dX8_askLawful_24 : decode cX8_askLawful 24 = .ok (.iconst 0, 1) := by decide +kernel
theorem dX8_askLawful_25 : decode cX8_askLawful 25 = .ok (.invokevirtual 209, 3) := by decide +kernel
theorem dX8_askLawful_28 : decode cX8_askLawful 28 = .ok (.iconst 0, 1) := by decide +kernel
theorem dX8_askLawful_29 : decode cX8_askLawful 29 = .ok (.istore_n 2, 1) := by decide +kernel
theorem dX8_askLawful_30 : decode cX8_askLawful 30 = .ok (.iload_n 2, 1) := by decide +kernel
theorem dX8_askLawful_31 : decode cX8_askLawful 31 = .ok (.aload_n 0, 1) := by decide +kernel
theorem dX8_askLawful_32 : decode cX8_askLawful 32 = .ok (.getfield 27, 3) := by decide +kernel
theorem dX8_askLawful_35 : decode cX8_askLawful 35 = .ok (.getfield 108, 3) := by decide +kernel
theorem dX8_askLawful_38 : decode cX8_askLawful 38 = .ok (.if_icmp .ge 26, 3) := by decide +kernel
theorem dX8_askLawful_41 : decode cX8_askLawful 41 = .ok (.aload_n 0, 1) := by decide +kernel
theorem dX8_askLawful_42 : decode cX8_askLawful 42 = .ok (.getfield 62, 3) := by decide +kernel
theorem dX8_askLawful_45 : decode cX8_askLawful 45 = .ok (.getfield 213, 3) := by decide +kernel
theorem dX8_askLawful_48 : decode cX8_askLawful 48 = .ok (.iload_n 2, 1) := by decide +kernel
theorem dX8_askLawful_49 : decode cX8_askLawful 49 = .ok (.aload_n 0, 1) := by decide +kernel
theorem dX8_askLawful_50 : decode cX8_askLawful 50 = .ok (.getfield 73, 3) := by decide +kernel
theorem dX8_askLawful_53 : decode cX8_askLawful 53 = .ok (.iload_n 2, 1) := by decide +kernel
theorem dX8_askLawful_54 : decode cX8_askLawful 54 = .ok (.iaload, 1) := by decide +kernel
theorem dX8_askLawful_55 : decode cX8_askLawful 55 = .ok (.iload_n 1, 1) := by decide +kernel
theorem dX8_askLawful_56 : decode cX8_askLawful 56 = .ok (.iand, 1) := by decide +kernel
theorem dX8_askLawful_57 : decode cX8_askLawful 57 = .ok (.iastore, 1) := by decide +kernel
theorem dX8_askLawful_58 : decode cX8_askLawful 58 = .ok (.iinc 2 1, 3) := by decide +kernel
theorem dX8_askLawful_61 : decode cX8_askLawful 61 = .ok (.goto (-31), 3) := by decide +kernel
theorem dX8_askLawful_64 : decode cX8_askLawful 64 = .ok (.iconst 0, 1) := by decide +kernel
theorem dX8_askLawful_65 : decode cX8_askLawful 65 = .ok (.istore_n 2, 1) := by decide +kernel
theorem dX8_askLawful_66 : decode cX8_askLawful 66 = .ok (.iload_n 2, 1) := by decide +kernel
theorem dX8_askLawful_67 : decode cX8_askLawful 67 = .ok (.aload_n 0, 1) := by decide +kernel
theorem dX8_askLawful_68 : decode cX8_askLawful 68 = .ok (.getfield 62, 3) := by decide +kernel
theorem dX8_askLawful_71 : decode cX8_askLawful 71 = .ok (.getfield 216, 3) := by decide +kernel
theorem dX8_askLawful_74 : decode cX8_askLawful 74 = .ok (.if_icmp .ge 36, 3) := by decide +kernel
theorem dX8_askLawful_77 : decode cX8_askLawful 77 = .ok (.aload_n 0, 1) := by decide +kernel
theorem dX8_askLawful_78 : decode cX8_askLawful 78 = .ok (.getfield 62, 3) := by decide +kernel
theorem dX8_askLawful_81 : decode cX8_askLawful 81 = .ok (.getfield 217, 3) := by decide +kernel
theorem dX8_askLawful_84 : decode cX8_askLawful 84 = .ok (.iload_n 2, 1) := by decide +kernel
theorem dX8_askLawful_85 : decode cX8_askLawful 85 = .ok (.aload_n 0, 1) := by decide +kernel
theorem dX8_askLawful_86 : decode cX8_askLawful 86 = .ok (.getfield 27, 3) := by decide +kernel
theorem dX8_askLawful_89 : decode cX8_askLawful 89 = .ok (.aload_n 0, 1) := by decide +kernel
theorem dX8_askLawful_90 : decode cX8_askLawful 90 = .ok (.getfield 27, 3) := by decide +kernel
theorem dX8_askLawful_93 : decode cX8_askLawful 93 = .ok (.getfield 180, 3) := by decide +kernel
theorem dX8_askLawful_96 : decode cX8_askLawful 96 = .ok (.iload_n 2, 1) := by decide +kernel
theorem dX8_askLawful_97 : decode cX8_askLawful 97 = .ok (.iaload, 1) := by decide +kernel
theorem dX8_askLawful_98 : decode cX8_askLawful 98 = .ok (.invokevirtual 219, 3) := by decide +kernel
theorem dX8_askLawful_101 : decode cX8_askLawful 101 = .ok (.iload_n 1, 1) := by decide +kernel
theorem dX8_askLawful_102 : decode cX8_askLawful 102 = .ok (.iand, 1) := by decide +kernel
theorem dX8_askLawful_103 : decode cX8_askLawful 103 = .ok (.iastore, 1) := by decide +kernel
theorem dX8_askLawful_104 : decode cX8_askLawful 104 = .ok (.iinc 2 1, 3) := by decide +kernel
theorem dX8_askLawful_107 : decode cX8_askLawful 107 = .ok (.goto (-41), 3) := by decide +kernel
theorem dX8_askLawful_110 : decode cX8_askLawful 110 = .ok (.return_, 1) := by decide +kernel
theorem dX8_at_0 : decode cX8_at 0 = .ok (.aload_n 0, 1) := by decide +kernel
theorem dX8_at_1 : decode cX8_at 1 = .ok (.iload_n 1, 1) := by decide +kernel
theorem dX8_at_2 : decode cX8_at 2 = .ok (.invokevirtual 138, 3) := by decide +kernel
theorem dX8_at_5 : decode cX8_at 5 = .ok (.ifCond .eq 13, 3) := by decide +kernel
theorem dX8_at_8 : decode cX8_at 8 = .ok (.iload_n 2, 1) := by decide +kernel
theorem dX8_at_9 : decode cX8_at 9 = .ok (.ifCond .lt 9, 3) := by decide +kernel
theorem dX8_at_12 : decode cX8_at 12 = .ok (.iload_n 2, 1) := by decide +kernel
theorem dX8_at_13 : decode cX8_at 13 = .ok (.bipush 9, 2) := by decide +kernel
theorem dX8_at_15 : decode cX8_at 15 = .ok (.if_icmp .lt 5, 3) := by decide +kernel
theorem dX8_at_18 : decode cX8_at 18 = .ok (.iconst (-1), 1) := by decide +kernel
theorem dX8_at_19 : decode cX8_at 19 = .ok (.ireturn, 1) := by decide +kernel
theorem dX8_at_20 : decode cX8_at 20 = .ok (.aload_n 0, 1) := by decide +kernel
theorem dX8_at_21 : decode cX8_at 21 = .ok (.getfield 45, 3) := by decide +kernel
theorem dX8_at_24 : decode cX8_at 24 = .ok (.iload_n 1, 1) := by decide +kernel
theorem dX8_at_25 : decode cX8_at 25 = .ok (.iload_n 2, 1) := by decide +kernel
theorem dX8_at_26 : decode cX8_at 26 = .ok (.iconst 1, 1) := by decide +kernel
theorem dX8_at_27 : decode cX8_at 27 = .ok (.iload_n 3, 1) := by decide +kernel
theorem dX8_at_28 : decode cX8_at 28 = .ok (.invokevirtual 277, 3) := by decide +kernel
theorem dX8_at_31 : decode cX8_at 31 = .ok (.ireturn, 1) := by decide +kernel
theorem dX8_back_0 : decode cX8_back 0 = .ok (.iload_n 1, 1) := by decide +kernel
theorem dX8_back_1 : decode cX8_back 1 = .ok (.ifCond .lt 20, 3) := by decide +kernel
theorem dX8_back_4 : decode cX8_back 4 = .ok (.iload_n 1, 1) := by decide +kernel
theorem dX8_back_5 : decode cX8_back 5 = .ok (.iconst 3, 1) := by decide +kernel
theorem dX8_back_6 : decode cX8_back 6 = .ok (.if_icmp .ge 15, 3) := by decide +kernel
theorem dX8_back_9 : decode cX8_back 9 = .ok (.aload_n 0, 1) := by decide +kernel
theorem dX8_back_10 : decode cX8_back 10 = .ok (.getfield 38, 3) := by decide +kernel
theorem dX8_back_13 : decode cX8_back 13 = .ok (.iload_n 1, 1) := by decide +kernel
theorem dX8_back_14 : decode cX8_back 14 = .ok (.aaload, 1) := by decide +kernel
theorem dX8_back_15 : decode cX8_back 15 = .ok (.getfield 98, 3) := by decide +kernel
theorem dX8_back_18 : decode cX8_back 18 = .ok (.ifCond .ne 5, 3) := by decide +kernel
theorem dX8_back_21 : decode cX8_back 21 = .ok (.iconst (-1), 1) := by decide +kernel
theorem dX8_back_22 : decode cX8_back 22 = .ok (.ireturn, 1) := by decide +kernel
theorem dX8_back_23 : decode cX8_back 23 = .ok (.aload_n 0, 1) := by decide +kernel
theorem dX8_back_24 : decode cX8_back 24 = .ok (.getfield 34, 3) := by decide +kernel
theorem dX8_back_27 : decode cX8_back 27 = .ok (.aload_n 0, 1) := by decide +kernel
theorem dX8_back_28 : decode cX8_back 28 = .ok (.getfield 38, 3) := by decide +kernel
theorem dX8_back_31 : decode cX8_back 31 = .ok (.iload_n 1, 1) := by decide +kernel
theorem dX8_back_32 : decode cX8_back 32 = .ok (.aaload, 1) := by decide +kernel
theorem dX8_back_33 : decode cX8_back 33 = .ok (.invokevirtual 294, 3) := by decide +kernel
theorem dX8_back_36 : decode cX8_back 36 = .ok (.aload_n 0, 1) := by decide +kernel
theorem dX8_back_37 : decode cX8_back 37 = .ok (.invokevirtual 102, 3) := by decide +kernel
theorem dX8_back_40 : decode cX8_back 40 = .ok (.aload_n 0, 1) := by decide +kernel
theorem dX8_back_41 : decode cX8_back 41 = .ok (.invokevirtual 105, 3) := by decide +kernel
theorem dX8_back_44 : decode cX8_back 44 = .ok (.aload_n 0, 1) := by decide +kernel
theorem dX8_back_45 : decode cX8_back 45 = .ok (.getfield 34, 3) := by decide +kernel
theorem dX8_back_48 : decode cX8_back 48 = .ok (.getfield 121, 3) := by decide +kernel
theorem dX8_back_51 : decode cX8_back 51 = .ok (.ireturn, 1) := by decide +kernel
theorem dX8_beside_0 : decode cX8_beside 0 = .ok (.iload_n 1, 1) := by decide +kernel
theorem dX8_beside_1 : decode cX8_beside 1 = .ok (.iload_n 2, 1) := by decide +kernel
theorem dX8_beside_2 : decode cX8_beside 2 = .ok (.if_icmp .eq 19, 3) := by decide +kernel
theorem dX8_beside_5 : decode cX8_beside 5 = .ok (.aload_n 0, 1) := by decide +kernel
theorem dX8_beside_6 : decode cX8_beside 6 = .ok (.iload_n 1, 1) := by decide +kernel
theorem dX8_beside_7 : decode cX8_beside 7 = .ok (.invokevirtual 138, 3) := by decide +kernel
theorem dX8_beside_10 : decode cX8_beside 10 = .ok (.ifCond .eq 11, 3) := by decide +kernel
theorem dX8_beside_13 : decode cX8_beside 13 = .ok (.aload_n 0, 1) := by decide +kernel
theorem dX8_beside_14 : decode cX8_beside 14 = .ok (.iload_n 2, 1) := by decide +kernel
theorem dX8_beside_15 : decode cX8_beside 15 = .ok (.invokevirtual 138, 3) := by decide +kernel
theorem dX8_beside_18 : decode cX8_beside 18 = .ok (.ifCond .ne 5, 3) := by decide +kernel
theorem dX8_beside_21 : decode cX8_beside 21 = .ok (.iconst (-1), 1) := by decide +kernel
theorem dX8_beside_22 : decode cX8_beside 22 = .ok (.ireturn, 1) := by decide +kernel
theorem dX8_beside_23 : decode cX8_beside 23 = .ok (.aload_n 0, 1) := by decide +kernel
theorem dX8_beside_24 : decode cX8_beside 24 = .ok (.getfield 45, 3) := by decide +kernel
theorem dX8_beside_27 : decode cX8_beside 27 = .ok (.iload_n 1, 1) := by decide +kernel
theorem dX8_beside_28 : decode cX8_beside 28 = .ok (.iload_n 2, 1) := by decide +kernel
theorem dX8_beside_29 : decode cX8_beside 29 = .ok (.iconst 0, 1) := by decide +kernel
theorem dX8_beside_30 : decode cX8_beside 30 = .ok (.iload_n 3, 1) := by decide +kernel
theorem dX8_beside_31 : decode cX8_beside 31 = .ok (.invokevirtual 277, 3) := by decide +kernel
theorem dX8_beside_34 : decode cX8_beside 34 = .ok (.ireturn, 1) := by decide +kernel
theorem dX8_burns_0 : decode cX8_burns 0 = .ok (.aload_n 0, 1) := by decide +kernel
theorem dX8_burns_1 : decode cX8_burns 1 = .ok (.iload_n 1, 1) := by decide +kernel
theorem dX8_burns_2 : decode cX8_burns 2 = .ok (.invokevirtual 138, 3) := by decide +kernel
theorem dX8_burns_5 : decode cX8_burns 5 = .ok (.ifCond .eq 12, 3) := by decide +kernel
theorem dX8_burns_8 : decode cX8_burns 8 = .ok (.aload_n 0, 1) := by decide +kernel
theorem dX8_burns_9 : decode cX8_burns 9 = .ok (.iload_n 1, 1) := by decide +kernel
theorem dX8_burns_10 : decode cX8_burns 10 = .ok (.invokevirtual 145, 3) := by decide +kernel
theorem dX8_burns_13 : decode cX8_burns 13 = .ok (.iload_n 2, 1) := by decide +kernel
theorem dX8_burns_14 : decode cX8_burns 14 = .ok (.if_icmp .eq 5, 3) := by decide +kernel
theorem dX8_burns_17 : decode cX8_burns 17 = .ok (.iconst 0, 1) := by decide +kernel
theorem dX8_burns_18 : decode cX8_burns 18 = .ok (.ireturn, 1) := by decide +kernel
theorem dX8_burns_19 : decode cX8_burns 19 = .ok (.aload_n 0, 1) := by decide +kernel
theorem dX8_burns_20 : decode cX8_burns 20 = .ok (.getfield 34, 3) := by decide +kernel
theorem dX8_burns_23 : decode cX8_burns 23 = .ok (.dup, 1) := by decide +kernel
theorem dX8_burns_24 : decode cX8_burns 24 = .ok (.getfield 142, 3) := by decide +kernel
theorem dX8_burns_27 : decode cX8_burns 27 = .ok (.iconst 1, 1) := by decide +kernel
theorem dX8_burns_28 : decode cX8_burns 28 = .ok (.iload_n 1, 1) := by decide +kernel
theorem dX8_burns_29 : decode cX8_burns 29 = .ok (.ishl, 1) := by decide +kernel
theorem dX8_burns_30 : decode cX8_burns 30 = .ok (.ixor, 1) := by decide +kernel
theorem dX8_burns_31 : decode cX8_burns 31 = .ok (.putfield 142, 3) := by decide +kernel
theorem dX8_burns_34 : decode cX8_burns 34 = .ok (.aload_n 0, 1) := by decide +kernel
theorem dX8_burns_35 : decode cX8_burns 35 = .ok (.getfield 34, 3) := by decide +kernel
theorem dX8_burns_38 : decode cX8_burns 38 = .ok (.getfield 203, 3) := by decide +kernel
theorem dX8_burns_41 : decode cX8_burns 41 = .ok (.iconst 0, 1) := by decide +kernel
theorem dX8_burns_42 : decode cX8_burns 42 = .ok (.putfield 77, 3) := by decide +kernel
theorem dX8_burns_45 : decode cX8_burns 45 = .ok (.aload_n 0, 1) := by decide +kernel
theorem dX8_burns_46 : decode cX8_burns 46 = .ok (.invokevirtual 102, 3) := by decide +kernel
theorem dX8_burns_49 : decode cX8_burns 49 = .ok (.iconst 1, 1) := by decide +kernel
theorem dX8_burns_50 : decode cX8_burns 50 = .ok (.ireturn, 1) := by decide +kernel
theorem dX8_drawn_0 : decode cX8_drawn 0 = .ok (.aload_n 0, 1) := by decide +kernel
theorem dX8_drawn_1 : decode cX8_drawn 1 = .ok (.invokevirtual 222, 3) := by decide +kernel
theorem dX8_drawn_4 : decode cX8_drawn 4 = .ok (.aload_n 0, 1) := by decide +kernel
theorem dX8_drawn_5 : decode cX8_drawn 5 = .ok (.getfield 62, 3) := by decide +kernel
theorem dX8_drawn_8 : decode cX8_drawn 8 = .ok (.invokevirtual 225, 3) := by decide +kernel
theorem dX8_drawn_11 : decode cX8_drawn 11 = .ok (.istore_n 1, 1) := by decide +kernel
theorem dX8_drawn_12 : decode cX8_drawn 12 = .ok (.iload_n 1, 1) := by decide +kernel
theorem dX8_drawn_13 : decode cX8_drawn 13 = .ok (.ifCond .gt 13, 3) := by decide +kernel
theorem dX8_drawn_16 : decode cX8_drawn 16 = .ok (.aload_n 0, 1) := by decide +kernel
theorem dX8_drawn_17 : decode cX8_drawn 17 = .ok (.getfield 56, 3) := by decide +kernel
theorem dX8_drawn_20 : decode cX8_drawn 20 = .ok (.iconst (-1), 1) := by decide +kernel
theorem dX8_drawn_21 : decode cX8_drawn 21 = .ok (.putfield 77, 3) := by decide +kernel
theorem dX8_drawn_24 : decode cX8_drawn 24 = .ok (.iconst (-1), 1) := by decide +kernel
theorem dX8_drawn_25 : decode cX8_drawn 25 = .ok (.ireturn, 1) := by decide +kernel
theorem dX8_drawn_26 : decode cX8_drawn 26 = .ok (.aload_n 0, 1) := by decide +kernel
theorem dX8_drawn_27 : decode cX8_drawn 27 = .ok (.getfield 34, 3) := by decide +kernel
theorem dX8_drawn_30 : decode cX8_drawn 30 = .ok (.aload_n 0, 1) := by decide +kernel
theorem dX8_drawn_31 : decode cX8_drawn 31 = .ok (.getfield 34, 3) := by decide +kernel
theorem dX8_drawn_34 : decode cX8_drawn 34 = .ok (.getfield 243, 3) := by decide +kernel
theorem dX8_drawn_37 : decode cX8_drawn 37 = .ok (.ldc 246, 2) := by decide +kernel
theorem dX8_drawn_39 : decode cX8_drawn 39 = .ok (.imul, 1) := by decide +kernel
theorem dX8_drawn_40 : decode cX8_drawn 40 = .ok (.sipush 12345, 3) := by decide +kernel
theorem dX8_drawn_43 : decode cX8_drawn 43 = .ok (.iadd, 1) := by decide +kernel
theorem dX8_drawn_44 : decode cX8_drawn 44 = .ok (.putfield 243, 3) := by decide +kernel
theorem dX8_drawn_47 : decode cX8_drawn 47 = .ok (.aload_n 0, 1) := by decide +kernel
theorem dX8_drawn_48 : decode cX8_drawn 48 = .ok (.getfield 34, 3) := by decide +kernel
theorem dX8_drawn_51 : decode cX8_drawn 51 = .ok (.getfield 243, 3) := by decide +kernel
theorem dX8_drawn_54 : decode cX8_drawn 54 = .ok (.bipush 16, 2) := by decide +kernel
theorem dX8_drawn_56 : decode cX8_drawn 56 = .ok (.iushr, 1) := by decide +kernel
theorem dX8_drawn_57 : decode cX8_drawn 57 = .ok (.iload_n 1, 1) := by decide +kernel
theorem dX8_drawn_58 : decode cX8_drawn 58 = .ok (.irem, 1) := by decide +kernel
theorem dX8_drawn_59 : decode cX8_drawn 59 = .ok (.istore_n 2, 1) := by decide +kernel
theorem dX8_drawn_60 : decode cX8_drawn 60 = .ok (.aload_n 0, 1) := by decide +kernel
theorem dX8_drawn_61 : decode cX8_drawn 61 = .ok (.getfield 62, 3) := by decide +kernel
theorem dX8_drawn_64 : decode cX8_drawn 64 = .ok (.iload_n 2, 1) := by decide +kernel
theorem dX8_drawn_65 : decode cX8_drawn 65 = .ok (.aload_n 0, 1) := by decide +kernel
theorem dX8_drawn_66 : decode cX8_drawn 66 = .ok (.getfield 56, 3) := by decide +kernel
theorem dX8_drawn_69 : decode cX8_drawn 69 = .ok (.invokevirtual 247, 3) := by decide +kernel
theorem dX8_drawn_72 : decode cX8_drawn 72 = .ok (.iload_n 2, 1) := by decide +kernel
theorem dX8_drawn_73 : decode cX8_drawn 73 = .ok (.ireturn, 1) := by decide +kernel
theorem dX8_end_0 : decode cX8_end 0 = .ok (.iload_n 1, 1) := by decide +kernel
theorem dX8_end_1 : decode cX8_end 1 = .ok (.ifCond .lt 11, 3) := by decide +kernel
theorem dX8_end_4 : decode cX8_end 4 = .ok (.iload_n 1, 1) := by decide +kernel
theorem dX8_end_5 : decode cX8_end 5 = .ok (.aload_n 0, 1) := by decide +kernel
theorem dX8_end_6 : decode cX8_end 6 = .ok (.getfield 13, 3) := by decide +kernel
theorem dX8_end_9 : decode cX8_end 9 = .ok (.if_icmp .le 5, 3) := by decide +kernel
theorem dX8_end_12 : decode cX8_end 12 = .ok (.iconst (-1), 1) := by decide +kernel
theorem dX8_end_13 : decode cX8_end 13 = .ok (.ireturn, 1) := by decide +kernel
theorem dX8_end_14 : decode cX8_end 14 = .ok (.aload_n 0, 1) := by decide +kernel
theorem dX8_end_15 : decode cX8_end 15 = .ok (.iload_n 1, 1) := by decide +kernel
theorem dX8_end_16 : decode cX8_end 16 = .ok (.putfield 13, 3) := by decide +kernel
theorem dX8_end_19 : decode cX8_end 19 = .ok (.iload_n 1, 1) := by decide +kernel
theorem dX8_end_20 : decode cX8_end 20 = .ok (.ireturn, 1) := by decide +kernel
theorem dX8_fairest_0 : decode cX8_fairest 0 = .ok (.aload_n 0, 1) := by decide +kernel
theorem dX8_fairest_1 : decode cX8_fairest 1 = .ok (.invokevirtual 222, 3) := by decide +kernel
theorem dX8_fairest_4 : decode cX8_fairest 4 = .ok (.iconst 0, 1) := by decide +kernel
theorem dX8_fairest_5 : decode cX8_fairest 5 = .ok (.istore_n 1, 1) := by decide +kernel
theorem dX8_fairest_6 : decode cX8_fairest 6 = .ok (.iload_n 1, 1) := by decide +kernel
theorem dX8_fairest_7 : decode cX8_fairest 7 = .ok (.bipush 81, 2) := by decide +kernel
theorem dX8_fairest_9 : decode cX8_fairest 9 = .ok (.if_icmp .ge 28, 3) := by decide +kernel
theorem dX8_fairest_12 : decode cX8_fairest 12 = .ok (.aload_n 0, 1) := by decide +kernel
theorem dX8_fairest_13 : decode cX8_fairest 13 = .ok (.getfield 62, 3) := by decide +kernel
theorem dX8_fairest_16 : decode cX8_fairest 16 = .ok (.getfield 231, 3) := by decide +kernel
theorem dX8_fairest_19 : decode cX8_fairest 19 = .ok (.iload_n 1, 1) := by decide +kernel
theorem dX8_fairest_20 : decode cX8_fairest 20 = .ok (.aload_n 0, 1) := by decide +kernel
theorem dX8_fairest_21 : decode cX8_fairest 21 = .ok (.getfield 27, 3) := by decide +kernel
theorem dX8_fairest_24 : decode cX8_fairest 24 = .ok (.getfield 189, 3) := by decide +kernel
theorem dX8_fairest_27 : decode cX8_fairest 27 = .ok (.iload_n 1, 1) := by decide +kernel
theorem dX8_fairest_28 : decode cX8_fairest 28 = .ok (.iaload, 1) := by decide +kernel
theorem dX8_fairest_29 : decode cX8_fairest 29 = .ok (.ineg, 1) := by decide +kernel
theorem dX8_fairest_30 : decode cX8_fairest 30 = .ok (.iastore, 1) := by decide +kernel
theorem dX8_fairest_31 : decode cX8_fairest 31 = .ok (.iinc 1 1, 3) := by decide +kernel
theorem dX8_fairest_34 : decode cX8_fairest 34 = .ok (.goto (-28), 3) := by decide +kernel
theorem dX8_fairest_37 : decode cX8_fairest 37 = .ok (.aload_n 0, 1) := by decide +kernel
theorem dX8_fairest_38 : decode cX8_fairest 38 = .ok (.getfield 62, 3) := by decide +kernel
theorem dX8_fairest_41 : decode cX8_fairest 41 = .ok (.aload_n 0, 1) := by decide +kernel
theorem dX8_fairest_42 : decode cX8_fairest 42 = .ok (.getfield 56, 3) := by decide +kernel
theorem dX8_fairest_45 : decode cX8_fairest 45 = .ok (.invokevirtual 227, 3) := by decide +kernel
theorem dX8_fairest_48 : decode cX8_fairest 48 = .ok (.ifCond .eq 14, 3) := by decide +kernel
theorem dX8_fairest_51 : decode cX8_fairest 51 = .ok (.aload_n 0, 1) := by decide +kernel
theorem dX8_fairest_52 : decode cX8_fairest 52 = .ok (.getfield 62, 3) := by decide +kernel
theorem dX8_fairest_55 : decode cX8_fairest 55 = .ok (.getfield 234, 3) := by decide +kernel
theorem dX8_fairest_58 : decode cX8_fairest 58 = .ok (.ineg, 1) := by decide +kernel
theorem dX8_fairest_59 : decode cX8_fairest 59 = .ok (.goto 4, 3) := by decide +kernel
theorem dX8_fairest_62 : decode cX8_fairest 62 = .ok (.iconst (-1), 1) := by decide +kernel
theorem dX8_fairest_63 : decode cX8_fairest 63 = .ok (.ireturn, 1) := by decide +kernel
theorem dX8_fault_0 : decode cX8_fault 0 = .ok (.iload_n 1, 1) := by decide +kernel
theorem dX8_fault_1 : decode cX8_fault 1 = .ok (.ifCond .ne 11, 3) := by decide +kernel
theorem dX8_fault_4 : decode cX8_fault 4 = .ok (.aload_n 0, 1) := by decide +kernel
theorem dX8_fault_5 : decode cX8_fault 5 = .ok (.getfield 20, 3) := by decide +kernel
theorem dX8_fault_8 : decode cX8_fault 8 = .ok (.getfield 128, 3) := by decide +kernel
theorem dX8_fault_11 : decode cX8_fault 11 = .ok (.ireturn, 1) := by decide +kernel
theorem dX8_fault_12 : decode cX8_fault 12 = .ok (.iload_n 1, 1) := by decide +kernel
theorem dX8_fault_13 : decode cX8_fault 13 = .ok (.iconst 1, 1) := by decide +kernel
theorem dX8_fault_14 : decode cX8_fault 14 = .ok (.if_icmp .ne 13, 3) := by decide +kernel
theorem dX8_fault_17 : decode cX8_fault 17 = .ok (.aload_n 0, 1) := by decide +kernel
theorem dX8_fault_18 : decode cX8_fault 18 = .ok (.getfield 20, 3) := by decide +kernel
theorem dX8_fault_21 : decode cX8_fault 21 = .ok (.getfield 131, 3) := by decide +kernel
theorem dX8_fault_24 : decode cX8_fault 24 = .ok (.goto 4, 3) := by decide +kernel
theorem dX8_fault_27 : decode cX8_fault 27 = .ok (.iconst (-1), 1) := by decide +kernel
theorem dX8_fault_28 : decode cX8_fault 28 = .ok (.ireturn, 1) := by decide +kernel
theorem dX8_feed_0 : decode cX8_feed 0 = .ok (.aload_n 0, 1) := by decide +kernel
theorem dX8_feed_1 : decode cX8_feed 1 = .ok (.getfield 13, 3) := by decide +kernel
theorem dX8_feed_4 : decode cX8_feed 4 = .ok (.bipush 20, 2) := by decide +kernel
theorem dX8_feed_6 : decode cX8_feed 6 = .ok (.iadd, 1) := by decide +kernel
theorem dX8_feed_7 : decode cX8_feed 7 = .ok (.sipush 1600, 3) := by decide +kernel
theorem dX8_feed_10 : decode cX8_feed 10 = .ok (.if_icmp .le 5, 3) := by decide +kernel
theorem dX8_feed_13 : decode cX8_feed 13 = .ok (.iconst (-1), 1) := by decide +kernel
theorem dX8_feed_14 : decode cX8_feed 14 = .ok (.ireturn, 1) := by decide +kernel
theorem dX8_feed_15 : decode cX8_feed 15 = .ok (.aload_n 0, 1) := by decide +kernel
theorem dX8_feed_16 : decode cX8_feed 16 = .ok (.iload_n 1, 1) := by decide +kernel
theorem dX8_feed_17 : decode cX8_feed 17 = .ok (.invokevirtual 80, 3) := by decide +kernel
theorem dX8_feed_20 : decode cX8_feed 20 = .ok (.aload_n 0, 1) := by decide +kernel
theorem dX8_feed_21 : decode cX8_feed 21 = .ok (.iload_n 2, 1) := by decide +kernel
theorem dX8_feed_22 : decode cX8_feed 22 = .ok (.invokevirtual 80, 3) := by decide +kernel
theorem dX8_feed_25 : decode cX8_feed 25 = .ok (.aload_n 0, 1) := by decide +kernel
theorem dX8_feed_26 : decode cX8_feed 26 = .ok (.iload_n 3, 1) := by decide +kernel
theorem dX8_feed_27 : decode cX8_feed 27 = .ok (.invokevirtual 80, 3) := by decide +kernel
theorem dX8_feed_30 : decode cX8_feed 30 = .ok (.aload_n 0, 1) := by decide +kernel
theorem dX8_feed_31 : decode cX8_feed 31 = .ok (.iload 4, 2) := by decide +kernel
theorem dX8_feed_33 : decode cX8_feed 33 = .ok (.invokevirtual 80, 3) := by decide +kernel
theorem dX8_feed_36 : decode cX8_feed 36 = .ok (.aload_n 0, 1) := by decide +kernel
theorem dX8_feed_37 : decode cX8_feed 37 = .ok (.iload 5, 2) := by decide +kernel
theorem dX8_feed_39 : decode cX8_feed 39 = .ok (.invokevirtual 80, 3) := by decide +kernel
theorem dX8_feed_42 : decode cX8_feed 42 = .ok (.aload_n 0, 1) := by decide +kernel
theorem dX8_feed_43 : decode cX8_feed 43 = .ok (.getfield 13, 3) := by decide +kernel
theorem dX8_feed_46 : decode cX8_feed 46 = .ok (.ireturn, 1) := by decide +kernel
theorem dX8_first_0 : decode cX8_first 0 = .ok (.aload_n 0, 1) := by decide +kernel
theorem dX8_first_1 : decode cX8_first 1 = .ok (.invokevirtual 222, 3) := by decide +kernel
theorem dX8_first_4 : decode cX8_first 4 = .ok (.aload_n 0, 1) := by decide +kernel
theorem dX8_first_5 : decode cX8_first 5 = .ok (.getfield 62, 3) := by decide +kernel
theorem dX8_first_8 : decode cX8_first 8 = .ok (.aload_n 0, 1) := by decide +kernel
theorem dX8_first_9 : decode cX8_first 9 = .ok (.getfield 56, 3) := by decide +kernel
theorem dX8_first_12 : decode cX8_first 12 = .ok (.invokevirtual 227, 3) := by decide +kernel
theorem dX8_first_15 : decode cX8_first 15 = .ok (.ifCond .eq 7, 3) := by decide +kernel
theorem dX8_first_18 : decode cX8_first 18 = .ok (.iconst 1, 1) := by decide +kernel
theorem dX8_first_19 : decode cX8_first 19 = .ok (.goto 4, 3) := by decide +kernel
theorem dX8_first_22 : decode cX8_first 22 = .ok (.iconst 0, 1) := by decide +kernel
theorem dX8_first_23 : decode cX8_first 23 = .ok (.ireturn, 1) := by decide +kernel
theorem dX8_fits_0 : decode cX8_fits 0 = .ok (.aload_n 0, 1) := by decide +kernel
theorem dX8_fits_1 : decode cX8_fits 1 = .ok (.invokevirtual 222, 3) := by decide +kernel
theorem dX8_fits_4 : decode cX8_fits 4 = .ok (.aload_n 0, 1) := by decide +kernel
theorem dX8_fits_5 : decode cX8_fits 5 = .ok (.getfield 45, 3) := by decide +kernel
theorem dX8_fits_8 : decode cX8_fits 8 = .ok (.aload_n 0, 1) := by decide +kernel
theorem dX8_fits_9 : decode cX8_fits 9 = .ok (.getfield 62, 3) := by decide +kernel
theorem dX8_fits_12 : decode cX8_fits 12 = .ok (.iload_n 1, 1) := by decide +kernel
theorem dX8_fits_13 : decode cX8_fits 13 = .ok (.invokevirtual 287, 3) := by decide +kernel
theorem dX8_fits_16 : decode cX8_fits 16 = .ok (.aload_n 0, 1) := by decide +kernel
theorem dX8_fits_17 : decode cX8_fits 17 = .ok (.getfield 62, 3) := by decide +kernel
theorem dX8_fits_20 : decode cX8_fits 20 = .ok (.invokevirtual 225, 3) := by decide +kernel
theorem dX8_fits_23 : decode cX8_fits 23 = .ok (.ireturn, 1) := by decide +kernel
theorem dX8_forgetOrders_0 : decode cX8_forgetOrders 0 = .ok (.aload_n 0, 1) := by decide +kernel
theorem dX8_forgetOrders_1 : decode cX8_forgetOrders 1 = .ok (.getfield 52, 3) := by decide +kernel
theorem dX8_forgetOrders_4 : decode cX8_forgetOrders 4 = .ok (.iconst 0, 1) := by decide +kernel
theorem dX8_forgetOrders_5 : decode cX8_forgetOrders 5 = .ok (.putfield 77, 3) := by decide +kernel
theorem dX8_forgetOrders_8 : decode cX8_forgetOrders 8 = .ok (.aload_n 0, 1) := by decide +kernel
theorem dX8_forgetOrders_9 : decode cX8_forgetOrders 9 = .ok (.getfield 56, 3) := by decide +kernel
theorem dX8_forgetOrders_12 : decode cX8_forgetOrders 12 = .ok (.iconst (-1), 1) := by decide +kernel
theorem dX8_forgetOrders_13 : decode cX8_forgetOrders 13 = .ok (.putfield 77, 3) := by decide +kernel
theorem dX8_forgetOrders_16 : decode cX8_forgetOrders 16 = .ok (.return_, 1) := by decide +kernel
theorem dX8_game_0 : decode cX8_game 0 = .ok (.aload_n 0, 1) := by decide +kernel
theorem dX8_game_1 : decode cX8_game 1 = .ok (.invokevirtual 164, 3) := by decide +kernel
theorem dX8_game_4 : decode cX8_game 4 = .ok (.bipush 7, 2) := by decide +kernel
theorem dX8_game_6 : decode cX8_game 6 = .ok (.if_icmp .le 6, 3) := by decide +kernel
theorem dX8_game_9 : decode cX8_game 9 = .ok (.bipush (-2), 2) := by decide +kernel
theorem dX8_game_11 : decode cX8_game 11 = .ok (.ireturn, 1) := by decide +kernel
theorem dX8_game_12 : decode cX8_game 12 = .ok (.aload_n 0, 1) := by decide +kernel
theorem dX8_game_13 : decode cX8_game 13 = .ok (.invokevirtual 222, 3) := by decide +kernel
theorem dX8_game_16 : decode cX8_game 16 = .ok (.aload_n 0, 1) := by decide +kernel
theorem dX8_game_17 : decode cX8_game 17 = .ok (.getfield 69, 3) := by decide +kernel
theorem dX8_game_20 : decode cX8_game 20 = .ok (.aload_n 0, 1) := by decide +kernel
theorem dX8_game_21 : decode cX8_game 21 = .ok (.getfield 62, 3) := by decide +kernel
theorem dX8_game_24 : decode cX8_game 24 = .ok (.invokevirtual 251, 3) := by decide +kernel
theorem dX8_game_27 : decode cX8_game 27 = .ok (.aload_n 0, 1) := by decide +kernel
theorem dX8_game_28 : decode cX8_game 28 = .ok (.getfield 69, 3) := by decide +kernel
theorem dX8_game_31 : decode cX8_game 31 = .ok (.invokevirtual 259, 3) := by decide +kernel
theorem dX8_game_34 : decode cX8_game 34 = .ok (.ifCond .eq 7, 3) := by decide +kernel
theorem dX8_game_37 : decode cX8_game 37 = .ok (.iconst 1, 1) := by decide +kernel
theorem dX8_game_38 : decode cX8_game 38 = .ok (.goto 4, 3) := by decide +kernel
theorem dX8_game_41 : decode cX8_game 41 = .ok (.iconst 0, 1) := by decide +kernel
theorem dX8_game_42 : decode cX8_game 42 = .ok (.ireturn, 1) := by decide +kernel
theorem dX8_haulOfTold_0 : decode cX8_haulOfTold 0 = .ok (.iconst 0, 1) := by decide +kernel
theorem dX8_haulOfTold_1 : decode cX8_haulOfTold 1 = .ok (.istore_n 1, 1) := by decide +kernel
theorem dX8_haulOfTold_2 : decode cX8_haulOfTold 2 = .ok (.iconst 0, 1) := by decide +kernel
theorem dX8_haulOfTold_3 : decode cX8_haulOfTold 3 = .ok (.istore_n 2, 1) := by decide +kernel
theorem dX8_haulOfTold_4 : decode cX8_haulOfTold 4 = .ok (.iload_n 2, 1) := by decide +kernel
theorem dX8_haulOfTold_5 : decode cX8_haulOfTold 5 = .ok (.aload_n 0, 1) := by decide +kernel
theorem dX8_haulOfTold_6 : decode cX8_haulOfTold 6 = .ok (.getfield 52, 3) := by decide +kernel
theorem dX8_haulOfTold_9 : decode cX8_haulOfTold 9 = .ok (.getfield 77, 3) := by decide +kernel
theorem dX8_haulOfTold_12 : decode cX8_haulOfTold 12 = .ok (.if_icmp .ge 26, 3) := by decide +kernel
theorem dX8_haulOfTold_15 : decode cX8_haulOfTold 15 = .ok (.iload_n 1, 1) := by decide +kernel
theorem dX8_haulOfTold_16 : decode cX8_haulOfTold 16 = .ok (.aload_n 0, 1) := by decide +kernel
theorem dX8_haulOfTold_17 : decode cX8_haulOfTold 17 = .ok (.aload_n 0, 1) := by decide +kernel
theorem dX8_haulOfTold_18 : decode cX8_haulOfTold 18 = .ok (.getfield 52, 3) := by decide +kernel
theorem dX8_haulOfTold_21 : decode cX8_haulOfTold 21 = .ok (.getfield 175, 3) := by decide +kernel
theorem dX8_haulOfTold_24 : decode cX8_haulOfTold 24 = .ok (.iload_n 2, 1) := by decide +kernel
theorem dX8_haulOfTold_25 : decode cX8_haulOfTold 25 = .ok (.iaload, 1) := by decide +kernel
theorem dX8_haulOfTold_26 : decode cX8_haulOfTold 26 = .ok (.iload_n 2, 1) := by decide +kernel
theorem dX8_haulOfTold_27 : decode cX8_haulOfTold 27 = .ok (.invokevirtual 192, 3) := by decide +kernel
theorem dX8_haulOfTold_30 : decode cX8_haulOfTold 30 = .ok (.iadd, 1) := by decide +kernel
theorem dX8_haulOfTold_31 : decode cX8_haulOfTold 31 = .ok (.istore_n 1, 1) := by decide +kernel
theorem dX8_haulOfTold_32 : decode cX8_haulOfTold 32 = .ok (.iinc 2 1, 3) := by decide +kernel
theorem dX8_haulOfTold_35 : decode cX8_haulOfTold 35 = .ok (.goto (-31), 3) := by decide +kernel
theorem dX8_haulOfTold_38 : decode cX8_haulOfTold 38 = .ok (.iload_n 1, 1) := by decide +kernel
theorem dX8_haulOfTold_39 : decode cX8_haulOfTold 39 = .ok (.ireturn, 1) := by decide +kernel
theorem dX8_haulTo_0 : decode cX8_haulTo 0 = .ok (.aload_n 0, 1) := by decide +kernel
theorem dX8_haulTo_1 : decode cX8_haulTo 1 = .ok (.getfield 34, 3) := by decide +kernel
theorem dX8_haulTo_4 : decode cX8_haulTo 4 = .ok (.iload_n 1, 1) := by decide +kernel
theorem dX8_haulTo_5 : decode cX8_haulTo 5 = .ok (.invokevirtual 195, 3) := by decide +kernel
theorem dX8_haulTo_8 : decode cX8_haulTo 8 = .ok (.istore_n 3, 1) := by decide +kernel
theorem dX8_haulTo_9 : decode cX8_haulTo 9 = .ok (.iload_n 3, 1) := by decide +kernel
theorem dX8_haulTo_10 : decode cX8_haulTo 10 = .ok (.iconst (-1), 1) := by decide +kernel
theorem dX8_haulTo_11 : decode cX8_haulTo 11 = .ok (.if_icmp .ne 5, 3) := by decide +kernel
theorem dX8_haulTo_14 : decode cX8_haulTo 14 = .ok (.iconst 0, 1) := by decide +kernel
theorem dX8_haulTo_15 : decode cX8_haulTo 15 = .ok (.ireturn, 1) := by decide +kernel
theorem dX8_haulTo_16 : decode cX8_haulTo 16 = .ok (.iload_n 2, 1) := by decide +kernel
theorem dX8_haulTo_17 : decode cX8_haulTo 17 = .ok (.iload_n 3, 1) := by decide +kernel
theorem dX8_haulTo_18 : decode cX8_haulTo 18 = .ok (.isub, 1) := by decide +kernel
theorem dX8_haulTo_19 : decode cX8_haulTo 19 = .ok (.invokestatic 198, 3) := by decide +kernel
theorem dX8_haulTo_22 : decode cX8_haulTo 22 = .ok (.istore 4, 2) := by decide +kernel
theorem dX8_haulTo_24 : decode cX8_haulTo 24 = .ok (.aload_n 0, 1) := by decide +kernel
theorem dX8_haulTo_25 : decode cX8_haulTo 25 = .ok (.getfield 27, 3) := by decide +kernel
theorem dX8_haulTo_28 : decode cX8_haulTo 28 = .ok (.getfield 186, 3) := by decide +kernel
theorem dX8_haulTo_31 : decode cX8_haulTo 31 = .ok (.ifCond .ne 23, 3) := by decide +kernel
theorem dX8_haulTo_34 : decode cX8_haulTo 34 = .ok (.iload 4, 2) := by decide +kernel
theorem dX8_haulTo_36 : decode cX8_haulTo 36 = .ok (.aload_n 0, 1) := by decide +kernel
theorem dX8_haulTo_37 : decode cX8_haulTo 37 = .ok (.getfield 34, 3) := by decide +kernel
theorem dX8_haulTo_40 : decode cX8_haulTo 40 = .ok (.getfield 203, 3) := by decide +kernel
theorem dX8_haulTo_43 : decode cX8_haulTo 43 = .ok (.getfield 77, 3) := by decide +kernel
theorem dX8_haulTo_46 : decode cX8_haulTo 46 = .ok (.iload 4, 2) := by decide +kernel
theorem dX8_haulTo_48 : decode cX8_haulTo 48 = .ok (.isub, 1) := by decide +kernel
theorem dX8_haulTo_49 : decode cX8_haulTo 49 = .ok (.invokestatic 206, 3) := by decide +kernel
theorem dX8_haulTo_52 : decode cX8_haulTo 52 = .ok (.istore 4, 2) := by decide +kernel
theorem dX8_haulTo_54 : decode cX8_haulTo 54 = .ok (.aload_n 0, 1) := by decide +kernel
theorem dX8_haulTo_55 : decode cX8_haulTo 55 = .ok (.getfield 27, 3) := by decide +kernel
theorem dX8_haulTo_58 : decode cX8_haulTo 58 = .ok (.getfield 177, 3) := by decide +kernel
theorem dX8_haulTo_61 : decode cX8_haulTo 61 = .ok (.iload_n 1, 1) := by decide +kernel
theorem dX8_haulTo_62 : decode cX8_haulTo 62 = .ok (.iaload, 1) := by decide +kernel
theorem dX8_haulTo_63 : decode cX8_haulTo 63 = .ok (.iload 4, 2) := by decide +kernel
theorem dX8_haulTo_65 : decode cX8_haulTo 65 = .ok (.imul, 1) := by decide +kernel
theorem dX8_haulTo_66 : decode cX8_haulTo 66 = .ok (.ireturn, 1) := by decide +kernel
theorem dX8_housesIn_0 : decode cX8_housesIn 0 = .ok (.iconst 1, 1) := by decide +kernel
theorem dX8_housesIn_1 : decode cX8_housesIn 1 = .ok (.aload_n 0, 1) := by decide +kernel
theorem dX8_housesIn_2 : decode cX8_housesIn 2 = .ok (.getfield 27, 3) := by decide +kernel
theorem dX8_housesIn_5 : decode cX8_housesIn 5 = .ok (.getfield 108, 3) := by decide +kernel
theorem dX8_housesIn_8 : decode cX8_housesIn 8 = .ok (.ishl, 1) := by decide +kernel
theorem dX8_housesIn_9 : decode cX8_housesIn 9 = .ok (.iconst 1, 1) := by decide +kernel
theorem dX8_housesIn_10 : decode cX8_housesIn 10 = .ok (.isub, 1) := by decide +kernel
theorem dX8_housesIn_11 : decode cX8_housesIn 11 = .ok (.aload_n 0, 1) := by decide +kernel
theorem dX8_housesIn_12 : decode cX8_housesIn 12 = .ok (.getfield 34, 3) := by decide +kernel
theorem dX8_housesIn_15 : decode cX8_housesIn 15 = .ok (.getfield 142, 3) := by decide +kernel
theorem dX8_housesIn_18 : decode cX8_housesIn 18 = .ok (.iconst (-1), 1) := by decide +kernel
theorem dX8_housesIn_19 : decode cX8_housesIn 19 = .ok (.ixor, 1) := by decide +kernel
theorem dX8_housesIn_20 : decode cX8_housesIn 20 = .ok (.iand, 1) := by decide +kernel
theorem dX8_housesIn_21 : decode cX8_housesIn 21 = .ok (.ireturn, 1) := by decide +kernel
theorem dX8_hush_0 : decode cX8_hush 0 = .ok (.aload_n 0, 1) := by decide +kernel
theorem dX8_hush_1 : decode cX8_hush 1 = .ok (.getfield 52, 3) := by decide +kernel
theorem dX8_hush_4 : decode cX8_hush 4 = .ok (.getfield 77, 3) := by decide +kernel
theorem dX8_hush_7 : decode cX8_hush 7 = .ok (.istore_n 1, 1) := by decide +kernel
theorem dX8_hush_8 : decode cX8_hush 8 = .ok (.aload_n 0, 1) := by decide +kernel
theorem dX8_hush_9 : decode cX8_hush 9 = .ok (.getfield 52, 3) := by decide +kernel
theorem dX8_hush_12 : decode cX8_hush 12 = .ok (.iconst 0, 1) := by decide +kernel
theorem dX8_hush_13 : decode cX8_hush 13 = .ok (.putfield 77, 3) := by decide +kernel
theorem dX8_hush_16 : decode cX8_hush 16 = .ok (.iload_n 1, 1) := by decide +kernel
theorem dX8_hush_17 : decode cX8_hush 17 = .ok (.ireturn, 1) := by decide +kernel
theorem dX8_image_0 : decode cX8_image 0 = .ok (.iload_n 1, 1) := by decide +kernel
theorem dX8_image_1 : decode cX8_image 1 = .ok (.ifCond .lt 8, 3) := by decide +kernel
theorem dX8_image_4 : decode cX8_image 4 = .ok (.iload_n 1, 1) := by decide +kernel
theorem dX8_image_5 : decode cX8_image 5 = .ok (.iconst 3, 1) := by decide +kernel
theorem dX8_image_6 : decode cX8_image 6 = .ok (.if_icmp .lt 5, 3) := by decide +kernel
theorem dX8_image_9 : decode cX8_image 9 = .ok (.iconst (-1), 1) := by decide +kernel
theorem dX8_image_10 : decode cX8_image 10 = .ok (.ireturn, 1) := by decide +kernel
theorem dX8_image_11 : decode cX8_image 11 = .ok (.aload_n 0, 1) := by decide +kernel
theorem dX8_image_12 : decode cX8_image 12 = .ok (.getfield 38, 3) := by decide +kernel
theorem dX8_image_15 : decode cX8_image 15 = .ok (.iload_n 1, 1) := by decide +kernel
theorem dX8_image_16 : decode cX8_image 16 = .ok (.aaload, 1) := by decide +kernel
theorem dX8_image_17 : decode cX8_image 17 = .ok (.aload_n 0, 1) := by decide +kernel
theorem dX8_image_18 : decode cX8_image 18 = .ok (.getfield 34, 3) := by decide +kernel
theorem dX8_image_21 : decode cX8_image 21 = .ok (.invokevirtual 294, 3) := by decide +kernel
theorem dX8_image_24 : decode cX8_image 24 = .ok (.aload_n 0, 1) := by decide +kernel
theorem dX8_image_25 : decode cX8_image 25 = .ok (.getfield 38, 3) := by decide +kernel
theorem dX8_image_28 : decode cX8_image 28 = .ok (.iload_n 1, 1) := by decide +kernel
theorem dX8_image_29 : decode cX8_image 29 = .ok (.aaload, 1) := by decide +kernel
theorem dX8_image_30 : decode cX8_image 30 = .ok (.iconst 1, 1) := by decide +kernel
theorem dX8_image_31 : decode cX8_image 31 = .ok (.putfield 98, 3) := by decide +kernel
theorem dX8_image_34 : decode cX8_image 34 = .ok (.aload_n 0, 1) := by decide +kernel
theorem dX8_image_35 : decode cX8_image 35 = .ok (.getfield 34, 3) := by decide +kernel
theorem dX8_image_38 : decode cX8_image 38 = .ok (.getfield 121, 3) := by decide +kernel
theorem dX8_image_41 : decode cX8_image 41 = .ok (.ireturn, 1) := by decide +kernel
theorem dX8_isIn_0 : decode cX8_isIn 0 = .ok (.aload_n 0, 1) := by decide +kernel
theorem dX8_isIn_1 : decode cX8_isIn 1 = .ok (.iload_n 1, 1) := by decide +kernel
theorem dX8_isIn_2 : decode cX8_isIn 2 = .ok (.invokevirtual 138, 3) := by decide +kernel
theorem dX8_isIn_5 : decode cX8_isIn 5 = .ok (.ifCond .eq 21, 3) := by decide +kernel
theorem dX8_isIn_8 : decode cX8_isIn 8 = .ok (.aload_n 0, 1) := by decide +kernel
theorem dX8_isIn_9 : decode cX8_isIn 9 = .ok (.getfield 34, 3) := by decide +kernel
theorem dX8_isIn_12 : decode cX8_isIn 12 = .ok (.getfield 142, 3) := by decide +kernel
theorem dX8_isIn_15 : decode cX8_isIn 15 = .ok (.iload_n 1, 1) := by decide +kernel
theorem dX8_isIn_16 : decode cX8_isIn 16 = .ok (.ishr, 1) := by decide +kernel
theorem dX8_isIn_17 : decode cX8_isIn 17 = .ok (.iconst 1, 1) := by decide +kernel
theorem dX8_isIn_18 : decode cX8_isIn 18 = .ok (.iand, 1) := by decide +kernel
theorem dX8_isIn_19 : decode cX8_isIn 19 = .ok (.ifCond .ne 7, 3) := by decide +kernel
theorem dX8_isIn_22 : decode cX8_isIn 22 = .ok (.iconst 1, 1) := by decide +kernel
theorem dX8_isIn_23 : decode cX8_isIn 23 = .ok (.goto 4, 3) := by decide +kernel
theorem dX8_isIn_26 : decode cX8_isIn 26 = .ok (.iconst 0, 1) := by decide +kernel
theorem dX8_isIn_27 : decode cX8_isIn 27 = .ok (.ireturn, 1) := by decide +kernel
theorem dX8_isPair_0 : decode cX8_isPair 0 = .ok (.iload_n 1, 1) := by decide +kernel
theorem dX8_isPair_1 : decode cX8_isPair 1 = .ok (.iload_n 2, 1) := by decide +kernel
theorem dX8_isPair_2 : decode cX8_isPair 2 = .ok (.if_icmp .eq 23, 3) := by decide +kernel
theorem dX8_isPair_5 : decode cX8_isPair 5 = .ok (.aload_n 0, 1) := by decide +kernel
theorem dX8_isPair_6 : decode cX8_isPair 6 = .ok (.iload_n 1, 1) := by decide +kernel
theorem dX8_isPair_7 : decode cX8_isPair 7 = .ok (.invokevirtual 145, 3) := by decide +kernel
theorem dX8_isPair_10 : decode cX8_isPair 10 = .ok (.ifCond .eq 15, 3) := by decide +kernel
theorem dX8_isPair_13 : decode cX8_isPair 13 = .ok (.aload_n 0, 1) := by decide +kernel
theorem dX8_isPair_14 : decode cX8_isPair 14 = .ok (.iload_n 2, 1) := by decide +kernel
theorem dX8_isPair_15 : decode cX8_isPair 15 = .ok (.invokevirtual 145, 3) := by decide +kernel
theorem dX8_isPair_18 : decode cX8_isPair 18 = .ok (.ifCond .eq 7, 3) := by decide +kernel
theorem dX8_isPair_21 : decode cX8_isPair 21 = .ok (.iconst 1, 1) := by decide +kernel
theorem dX8_isPair_22 : decode cX8_isPair 22 = .ok (.goto 4, 3) := by decide +kernel
theorem dX8_isPair_25 : decode cX8_isPair 25 = .ok (.iconst 0, 1) := by decide +kernel
theorem dX8_isPair_26 : decode cX8_isPair 26 = .ok (.ireturn, 1) := by decide +kernel
theorem dX8_isTold_0 : decode cX8_isTold 0 = .ok (.iload_n 1, 1) := by decide +kernel
theorem dX8_isTold_1 : decode cX8_isTold 1 = .ok (.ifCond .lt 18, 3) := by decide +kernel
theorem dX8_isTold_4 : decode cX8_isTold 4 = .ok (.iload_n 1, 1) := by decide +kernel
theorem dX8_isTold_5 : decode cX8_isTold 5 = .ok (.aload_n 0, 1) := by decide +kernel
theorem dX8_isTold_6 : decode cX8_isTold 6 = .ok (.getfield 27, 3) := by decide +kernel
theorem dX8_isTold_9 : decode cX8_isTold 9 = .ok (.getfield 108, 3) := by decide +kernel
theorem dX8_isTold_12 : decode cX8_isTold 12 = .ok (.if_icmp .ge 7, 3) := by decide +kernel
theorem dX8_isTold_15 : decode cX8_isTold 15 = .ok (.iconst 1, 1) := by decide +kernel
theorem dX8_isTold_16 : decode cX8_isTold 16 = .ok (.goto 4, 3) := by decide +kernel
theorem dX8_isTold_19 : decode cX8_isTold 19 = .ok (.iconst 0, 1) := by decide +kernel
theorem dX8_isTold_20 : decode cX8_isTold 20 = .ok (.ireturn, 1) := by decide +kernel
theorem dX8_judge_0 : decode cX8_judge 0 = .ok (.aload_n 0, 1) := by decide +kernel
theorem dX8_judge_1 : decode cX8_judge 1 = .ok (.getfield 52, 3) := by decide +kernel
theorem dX8_judge_4 : decode cX8_judge 4 = .ok (.getfield 77, 3) := by decide +kernel
theorem dX8_judge_7 : decode cX8_judge 7 = .ok (.aload_n 0, 1) := by decide +kernel
theorem dX8_judge_8 : decode cX8_judge 8 = .ok (.invokevirtual 164, 3) := by decide +kernel
theorem dX8_judge_11 : decode cX8_judge 11 = .ok (.if_icmp .eq 6, 3) := by decide +kernel
theorem dX8_judge_14 : decode cX8_judge 14 = .ok (.bipush (-2), 2) := by decide +kernel
theorem dX8_judge_16 : decode cX8_judge 16 = .ok (.ireturn, 1) := by decide +kernel
theorem dX8_judge_17 : decode cX8_judge 17 = .ok (.iload_n 1, 1) := by decide +kernel
theorem dX8_judge_18 : decode cX8_judge 18 = .ok (.tableswitch 41 0 2 #[26, 31, 36], 26) := by decide +kernel
theorem dX8_judge_44 : decode cX8_judge 44 = .ok (.aload_n 0, 1) := by decide +kernel
theorem dX8_judge_45 : decode cX8_judge 45 = .ok (.invokevirtual 166, 3) := by decide +kernel
theorem dX8_judge_48 : decode cX8_judge 48 = .ok (.ireturn, 1) := by decide +kernel
theorem dX8_judge_49 : decode cX8_judge 49 = .ok (.aload_n 0, 1) := by decide +kernel
theorem dX8_judge_50 : decode cX8_judge 50 = .ok (.invokevirtual 169, 3) := by decide +kernel
theorem dX8_judge_53 : decode cX8_judge 53 = .ok (.ireturn, 1) := by decide +kernel
theorem dX8_judge_54 : decode cX8_judge 54 = .ok (.aload_n 0, 1) := by decide +kernel
theorem dX8_judge_55 : decode cX8_judge 55 = .ok (.invokevirtual 172, 3) := by decide +kernel
theorem dX8_judge_58 : decode cX8_judge 58 = .ok (.ireturn, 1) := by decide +kernel
theorem dX8_judge_59 : decode cX8_judge 59 = .ok (.bipush (-2), 2) := by decide +kernel
theorem dX8_judge_61 : decode cX8_judge 61 = .ok (.ireturn, 1) := by decide +kernel
theorem dX8_later_0 : decode cX8_later 0 = .ok (.iload_n 1, 1) := by decide +kernel
theorem dX8_later_1 : decode cX8_later 1 = .ok (.ifCond .lt 25, 3) := by decide +kernel
theorem dX8_later_4 : decode cX8_later 4 = .ok (.iload_n 1, 1) := by decide +kernel
theorem dX8_later_5 : decode cX8_later 5 = .ok (.sipush 1000, 3) := by decide +kernel
theorem dX8_later_8 : decode cX8_later 8 = .ok (.if_icmp .gt 18, 3) := by decide +kernel
theorem dX8_later_11 : decode cX8_later 11 = .ok (.aload_n 0, 1) := by decide +kernel
theorem dX8_later_12 : decode cX8_later 12 = .ok (.getfield 45, 3) := by decide +kernel
theorem dX8_later_15 : decode cX8_later 15 = .ok (.getfield 283, 3) := by decide +kernel
theorem dX8_later_18 : decode cX8_later 18 = .ok (.iload_n 1, 1) := by decide +kernel
theorem dX8_later_19 : decode cX8_later 19 = .ok (.iadd, 1) := by decide +kernel
theorem dX8_later_20 : decode cX8_later 20 = .ok (.ldc_w 286, 3) := by decide +kernel
theorem dX8_later_23 : decode cX8_later 23 = .ok (.if_icmp .le 5, 3) := by decide +kernel
theorem dX8_later_26 : decode cX8_later 26 = .ok (.iconst (-1), 1) := by decide +kernel
theorem dX8_later_27 : decode cX8_later 27 = .ok (.ireturn, 1) := by decide +kernel
theorem dX8_later_28 : decode cX8_later 28 = .ok (.aload_n 0, 1) := by decide +kernel
theorem dX8_later_29 : decode cX8_later 29 = .ok (.getfield 45, 3) := by decide +kernel
theorem dX8_later_32 : decode cX8_later 32 = .ok (.dup, 1) := by decide +kernel
theorem dX8_later_33 : decode cX8_later 33 = .ok (.getfield 283, 3) := by decide +kernel
theorem dX8_later_36 : decode cX8_later 36 = .ok (.iload_n 1, 1) := by decide +kernel
theorem dX8_later_37 : decode cX8_later 37 = .ok (.iadd, 1) := by decide +kernel
theorem dX8_later_38 : decode cX8_later 38 = .ok (.putfield 283, 3) := by decide +kernel
theorem dX8_later_41 : decode cX8_later 41 = .ok (.aload_n 0, 1) := by decide +kernel
theorem dX8_later_42 : decode cX8_later 42 = .ok (.getfield 45, 3) := by decide +kernel
theorem dX8_later_45 : decode cX8_later 45 = .ok (.getfield 283, 3) := by decide +kernel
theorem dX8_later_48 : decode cX8_later 48 = .ok (.ireturn, 1) := by decide +kernel
theorem dX8_lawful_0 : decode cX8_lawful 0 = .ok (.aload_n 0, 1) := by decide +kernel
theorem dX8_lawful_1 : decode cX8_lawful 1 = .ok (.invokevirtual 222, 3) := by decide +kernel
theorem dX8_lawful_4 : decode cX8_lawful 4 = .ok (.aload_n 0, 1) := by decide +kernel
theorem dX8_lawful_5 : decode cX8_lawful 5 = .ok (.getfield 62, 3) := by decide +kernel
theorem dX8_lawful_8 : decode cX8_lawful 8 = .ok (.invokevirtual 225, 3) := by decide +kernel
theorem dX8_lawful_11 : decode cX8_lawful 11 = .ok (.ireturn, 1) := by decide +kernel
theorem dX8_let_0 : decode cX8_let 0 = .ok (.aload_n 0, 1) := by decide +kernel
theorem dX8_let_1 : decode cX8_let 1 = .ok (.iload_n 1, 1) := by decide +kernel
theorem dX8_let_2 : decode cX8_let 2 = .ok (.iload_n 2, 1) := by decide +kernel
theorem dX8_let_3 : decode cX8_let 3 = .ok (.invokevirtual 134, 3) := by decide +kernel
theorem dX8_let_6 : decode cX8_let 6 = .ok (.ifCond .eq 16, 3) := by decide +kernel
theorem dX8_let_9 : decode cX8_let 9 = .ok (.aload_n 0, 1) := by decide +kernel
theorem dX8_let_10 : decode cX8_let 10 = .ok (.getfield 73, 3) := by decide +kernel
theorem dX8_let_13 : decode cX8_let 13 = .ok (.iload_n 1, 1) := by decide +kernel
theorem dX8_let_14 : decode cX8_let 14 = .ok (.iaload, 1) := by decide +kernel
theorem dX8_let_15 : decode cX8_let 15 = .ok (.iload_n 2, 1) := by decide +kernel
theorem dX8_let_16 : decode cX8_let 16 = .ok (.ishr, 1) := by decide +kernel
theorem dX8_let_17 : decode cX8_let 17 = .ok (.iconst 1, 1) := by decide +kernel
theorem dX8_let_18 : decode cX8_let 18 = .ok (.iand, 1) := by decide +kernel
theorem dX8_let_19 : decode cX8_let 19 = .ok (.goto 4, 3) := by decide +kernel
theorem dX8_let_22 : decode cX8_let 22 = .ok (.iconst (-1), 1) := by decide +kernel
theorem dX8_let_23 : decode cX8_let 23 = .ok (.ireturn, 1) := by decide +kernel
theorem dX8_lies_0 : decode cX8_lies 0 = .ok (.aload_n 0, 1) := by decide +kernel
theorem dX8_lies_1 : decode cX8_lies 1 = .ok (.getfield 56, 3) := by decide +kernel
theorem dX8_lies_4 : decode cX8_lies 4 = .ok (.iload_n 1, 1) := by decide +kernel
theorem dX8_lies_5 : decode cX8_lies 5 = .ok (.invokevirtual 266, 3) := by decide +kernel
theorem dX8_lies_8 : decode cX8_lies 8 = .ok (.ireturn, 1) := by decide +kernel
theorem dX8_lift_0 : decode cX8_lift 0 = .ok (.aload_n 0, 1) := by decide +kernel
theorem dX8_lift_1 : decode cX8_lift 1 = .ok (.invokevirtual 222, 3) := by decide +kernel
theorem dX8_lift_4 : decode cX8_lift 4 = .ok (.iconst 0, 1) := by decide +kernel
theorem dX8_lift_5 : decode cX8_lift 5 = .ok (.istore_n 1, 1) := by decide +kernel
theorem dX8_lift_6 : decode cX8_lift 6 = .ok (.iload_n 1, 1) := by decide +kernel
theorem dX8_lift_7 : decode cX8_lift 7 = .ok (.aload_n 0, 1) := by decide +kernel
theorem dX8_lift_8 : decode cX8_lift 8 = .ok (.getfield 27, 3) := by decide +kernel
theorem dX8_lift_11 : decode cX8_lift 11 = .ok (.getfield 108, 3) := by decide +kernel
theorem dX8_lift_14 : decode cX8_lift 14 = .ok (.if_icmp .ge 67, 3) := by decide +kernel
theorem dX8_lift_17 : decode cX8_lift 17 = .ok (.iconst 0, 1) := by decide +kernel
theorem dX8_lift_18 : decode cX8_lift 18 = .ok (.istore_n 2, 1) := by decide +kernel
theorem dX8_lift_19 : decode cX8_lift 19 = .ok (.iload_n 2, 1) := by decide +kernel
theorem dX8_lift_20 : decode cX8_lift 20 = .ok (.aload_n 0, 1) := by decide +kernel
theorem dX8_lift_21 : decode cX8_lift 21 = .ok (.getfield 27, 3) := by decide +kernel
theorem dX8_lift_24 : decode cX8_lift 24 = .ok (.getfield 108, 3) := by decide +kernel
theorem dX8_lift_27 : decode cX8_lift 27 = .ok (.if_icmp .ge 35, 3) := by decide +kernel
theorem dX8_lift_30 : decode cX8_lift 30 = .ok (.aload_n 0, 1) := by decide +kernel
theorem dX8_lift_31 : decode cX8_lift 31 = .ok (.getfield 62, 3) := by decide +kernel
theorem dX8_lift_34 : decode cX8_lift 34 = .ok (.getfield 231, 3) := by decide +kernel
theorem dX8_lift_37 : decode cX8_lift 37 = .ok (.iload_n 1, 1) := by decide +kernel
theorem dX8_lift_38 : decode cX8_lift 38 = .ok (.bipush 9, 2) := by decide +kernel
theorem dX8_lift_40 : decode cX8_lift 40 = .ok (.imul, 1) := by decide +kernel
theorem dX8_lift_41 : decode cX8_lift 41 = .ok (.iload_n 2, 1) := by decide +kernel
theorem dX8_lift_42 : decode cX8_lift 42 = .ok (.iadd, 1) := by decide +kernel
theorem dX8_lift_43 : decode cX8_lift 43 = .ok (.iconst 1, 1) := by decide +kernel
theorem dX8_lift_44 : decode cX8_lift 44 = .ok (.aload_n 0, 1) := by decide +kernel
theorem dX8_lift_45 : decode cX8_lift 45 = .ok (.getfield 73, 3) := by decide +kernel
theorem dX8_lift_48 : decode cX8_lift 48 = .ok (.iload_n 1, 1) := by decide +kernel
theorem dX8_lift_49 : decode cX8_lift 49 = .ok (.iaload, 1) := by decide +kernel
theorem dX8_lift_50 : decode cX8_lift 50 = .ok (.iload_n 2, 1) := by decide +kernel
theorem dX8_lift_51 : decode cX8_lift 51 = .ok (.ishr, 1) := by decide +kernel
theorem dX8_lift_52 : decode cX8_lift 52 = .ok (.iconst 1, 1) := by decide +kernel
