theorem dJ0_charAt_5068e_0 : decode cJ0_charAt_5068e 0 = .ok (.aload_n 0, 1) := by decide +kernel
theorem dJ0_charAt_5068e_1 : decode cJ0_charAt_5068e 1 = .ok (.invokevirtual 492, 3) := by decide +kernel
theorem dJ0_charAt_5068e_4 : decode cJ0_charAt_5068e 4 = .ok (.ifCond .eq 12, 3) := by decide +kernel
theorem dJ0_charAt_5068e_7 : decode cJ0_charAt_5068e 7 = .ok (.aload_n 0, 1) := by decide +kernel
theorem dJ0_charAt_5068e_8 : decode cJ0_charAt_5068e 8 = .ok (.getfield 9, 3) := by decide +kernel
theorem dJ0_charAt_5068e_11 : decode cJ0_charAt_5068e 11 = .ok (.iload_n 1, 1) := by decide +kernel
theorem dJ0_charAt_5068e_12 : decode cJ0_charAt_5068e 12 = .ok (.invokestatic 495, 3) := by decide +kernel
theorem dJ0_charAt_5068e_15 : decode cJ0_charAt_5068e 15 = .ok (.ireturn, 1) := by decide +kernel
theorem dJ0_checkIndex_df160_0 : decode cJ0_checkIndex_df160 0 = .ok (.iload_n 0, 1) := by decide +kernel
theorem dJ0_checkIndex_df160_1 : decode cJ0_checkIndex_df160 1 = .ok (.iload_n 1, 1) := by decide +kernel
theorem dJ0_checkIndex_df160_2 : decode cJ0_checkIndex_df160 2 = .ok (.getstatic 1053, 3) := by decide +kernel
theorem dJ0_checkIndex_df160_5 : decode cJ0_checkIndex_df160 5 = .ok (.invokestatic 1059, 3) := by decide +kernel
theorem dJ0_checkIndex_df160_8 : decode cJ0_checkIndex_df160 8 = .ok (.pop, 1) := by decide +kernel
theorem dJ0_checkIndex_df160_9 : decode cJ0_checkIndex_df160 9 = .ok (.return_, 1) := by decide +kernel
theorem dJ0_coder_7d493_0 : decode cJ0_coder_7d493 0 = .ok (.getstatic 38, 3) := by decide +kernel
theorem dJ0_coder_7d493_3 : decode cJ0_coder_7d493 3 = .ok (.ifCond .eq 10, 3) := by decide +kernel
theorem dJ0_coder_7d493_6 : decode cJ0_coder_7d493 6 = .ok (.aload_n 0, 1) := by decide +kernel
theorem dJ0_coder_7d493_7 : decode cJ0_coder_7d493 7 = .ok (.getfield 15, 3) := by decide +kernel
theorem dJ0_coder_7d493_10 : decode cJ0_coder_7d493 10 = .ok (.goto 4, 3) := by decide +kernel
theorem dJ0_coder_7d493_14 : decode cJ0_coder_7d493 14 = .ok (.ireturn, 1) := by decide +kernel
theorem dJ0_isLatin1_aae02_0 : decode cJ0_isLatin1_aae02 0 = .ok (.getstatic 38, 3) := by decide +kernel
theorem dJ0_isLatin1_aae02_3 : decode cJ0_isLatin1_aae02 3 = .ok (.ifCond .eq 14, 3) := by decide +kernel
theorem dJ0_isLatin1_aae02_6 : decode cJ0_isLatin1_aae02 6 = .ok (.aload_n 0, 1) := by decide +kernel
theorem dJ0_isLatin1_aae02_7 : decode cJ0_isLatin1_aae02 7 = .ok (.getfield 15, 3) := by decide +kernel
theorem dJ0_isLatin1_aae02_10 : decode cJ0_isLatin1_aae02 10 = .ok (.ifCond .ne 7, 3) := by decide +kernel
theorem dJ0_isLatin1_aae02_13 : decode cJ0_isLatin1_aae02 13 = .ok (.iconst 1, 1) := by decide +kernel
theorem dJ0_isLatin1_aae02_14 : decode cJ0_isLatin1_aae02 14 = .ok (.goto 4, 3) := by decide +kernel
theorem dJ0_isLatin1_aae02_18 : decode cJ0_isLatin1_aae02 18 = .ok (.ireturn, 1) := by decide +kernel
theorem dJ0_length_8abf5_0 : decode cJ0_length_8abf5 0 = .ok (.aload_n 0, 1) := by decide +kernel
theorem dJ0_length_8abf5_1 : decode cJ0_length_8abf5 1 = .ok (.getfield 9, 3) := by decide +kernel
theorem dJ0_length_8abf5_4 : decode cJ0_length_8abf5 4 = .ok (.arraylength, 1) := by decide +kernel
theorem dJ0_length_8abf5_5 : decode cJ0_length_8abf5 5 = .ok (.aload_n 0, 1) := by decide +kernel
theorem dJ0_length_8abf5_6 : decode cJ0_length_8abf5 6 = .ok (.invokevirtual 335, 3) := by decide +kernel
theorem dJ0_length_8abf5_9 : decode cJ0_length_8abf5 9 = .ok (.ishr, 1) := by decide +kernel
theorem dJ0_length_8abf5_10 : decode cJ0_length_8abf5 10 = .ok (.ireturn, 1) := by decide +kernel
theorem dJ1_charAt_3b067_0 : decode cJ1_charAt_3b067 0 = .ok (.iload_n 1, 1) := by decide +kernel
theorem dJ1_charAt_3b067_1 : decode cJ1_charAt_3b067 1 = .ok (.aload_n 0, 1) := by decide +kernel
theorem dJ1_charAt_3b067_2 : decode cJ1_charAt_3b067 2 = .ok (.arraylength, 1) := by decide +kernel
theorem dJ1_charAt_3b067_3 : decode cJ1_charAt_3b067 3 = .ok (.invokestatic 9, 3) := by decide +kernel
theorem dJ1_charAt_3b067_6 : decode cJ1_charAt_3b067 6 = .ok (.aload_n 0, 1) := by decide +kernel
theorem dJ1_charAt_3b067_7 : decode cJ1_charAt_3b067 7 = .ok (.iload_n 1, 1) := by decide +kernel
theorem dJ1_charAt_3b067_8 : decode cJ1_charAt_3b067 8 = .ok (.baload, 1) := by decide +kernel
theorem dJ1_charAt_3b067_9 : decode cJ1_charAt_3b067 9 = .ok (.sipush 255, 3) := by decide +kernel
theorem dJ1_charAt_3b067_12 : decode cJ1_charAt_3b067 12 = .ok (.iand, 1) := by decide +kernel
theorem dJ1_charAt_3b067_13 : decode cJ1_charAt_3b067 13 = .ok (.i2c, 1) := by decide +kernel
theorem dJ1_charAt_3b067_14 : decode cJ1_charAt_3b067 14 = .ok (.ireturn, 1) := by decide +kernel
theorem dJ3_checkIndex_8e157_0 : decode cJ3_checkIndex_8e157 0 = .ok (.iload_n 0, 1) := by decide +kernel
theorem dJ3_checkIndex_8e157_1 : decode cJ3_checkIndex_8e157 1 = .ok (.ifCond .lt 8, 3) := by decide +kernel
theorem dJ3_checkIndex_8e157_4 : decode cJ3_checkIndex_8e157 4 = .ok (.iload_n 0, 1) := by decide +kernel
theorem dJ3_checkIndex_8e157_5 : decode cJ3_checkIndex_8e157 5 = .ok (.iload_n 1, 1) := by decide +kernel
theorem dJ3_checkIndex_8e157_6 : decode cJ3_checkIndex_8e157 6 = .ok (.if_icmp .lt 10, 3) := by decide +kernel
theorem dJ3_checkIndex_8e157_16 : decode cJ3_checkIndex_8e157 16 = .ok (.iload_n 0, 1) := by decide +kernel
theorem dJ3_checkIndex_8e157_17 : decode cJ3_checkIndex_8e157 17 = .ok (.ireturn, 1) := by decide +kernel
theorem dJ6_bitCount_0f7a4_0 : decode cJ6_bitCount_0f7a4 0 = .ok (.iload_n 0, 1) := by decide +kernel
theorem dJ6_bitCount_0f7a4_1 : decode cJ6_bitCount_0f7a4 1 = .ok (.iload_n 0, 1) := by decide +kernel
theorem dJ6_bitCount_0f7a4_2 : decode cJ6_bitCount_0f7a4 2 = .ok (.iconst 1, 1) := by decide +kernel
theorem dJ6_bitCount_0f7a4_3 : decode cJ6_bitCount_0f7a4 3 = .ok (.iushr, 1) := by decide +kernel
theorem dJ6_bitCount_0f7a4_4 : decode cJ6_bitCount_0f7a4 4 = .ok (.ldc_w 265, 3) := by decide +kernel
theorem dJ6_bitCount_0f7a4_7 : decode cJ6_bitCount_0f7a4 7 = .ok (.iand, 1) := by decide +kernel
theorem dJ6_bitCount_0f7a4_8 : decode cJ6_bitCount_0f7a4 8 = .ok (.isub, 1) := by decide +kernel
theorem dJ6_bitCount_0f7a4_9 : decode cJ6_bitCount_0f7a4 9 = .ok (.istore_n 0, 1) := by decide +kernel
theorem dJ6_bitCount_0f7a4_10 : decode cJ6_bitCount_0f7a4 10 = .ok (.iload_n 0, 1) := by decide +kernel
theorem dJ6_bitCount_0f7a4_11 : decode cJ6_bitCount_0f7a4 11 = .ok (.ldc_w 266, 3) := by decide +kernel
theorem dJ6_bitCount_0f7a4_14 : decode cJ6_bitCount_0f7a4 14 = .ok (.iand, 1) := by decide +kernel
theorem dJ6_bitCount_0f7a4_15 : decode cJ6_bitCount_0f7a4 15 = .ok (.iload_n 0, 1) := by decide +kernel
theorem dJ6_bitCount_0f7a4_16 : decode cJ6_bitCount_0f7a4 16 = .ok (.iconst 2, 1) := by decide +kernel
theorem dJ6_bitCount_0f7a4_17 : decode cJ6_bitCount_0f7a4 17 = .ok (.iushr, 1) := by decide +kernel
theorem dJ6_bitCount_0f7a4_18 : decode cJ6_bitCount_0f7a4 18 = .ok (.ldc_w 266, 3) := by decide +kernel
theorem dJ6_bitCount_0f7a4_21 : decode cJ6_bitCount_0f7a4 21 = .ok (.iand, 1) := by decide +kernel
theorem dJ6_bitCount_0f7a4_22 : decode cJ6_bitCount_0f7a4 22 = .ok (.iadd, 1) := by decide +kernel
theorem dJ6_bitCount_0f7a4_23 : decode cJ6_bitCount_0f7a4 23 = .ok (.istore_n 0, 1) := by decide +kernel
theorem dJ6_bitCount_0f7a4_24 : decode cJ6_bitCount_0f7a4 24 = .ok (.iload_n 0, 1) := by decide +kernel
theorem dJ6_bitCount_0f7a4_25 : decode cJ6_bitCount_0f7a4 25 = .ok (.iload_n 0, 1) := by decide +kernel
theorem dJ6_bitCount_0f7a4_26 : decode cJ6_bitCount_0f7a4 26 = .ok (.iconst 4, 1) := by decide +kernel
theorem dJ6_bitCount_0f7a4_27 : decode cJ6_bitCount_0f7a4 27 = .ok (.iushr, 1) := by decide +kernel
theorem dJ6_bitCount_0f7a4_28 : decode cJ6_bitCount_0f7a4 28 = .ok (.iadd, 1) := by decide +kernel
theorem dJ6_bitCount_0f7a4_29 : decode cJ6_bitCount_0f7a4 29 = .ok (.ldc_w 267, 3) := by decide +kernel
theorem dJ6_bitCount_0f7a4_32 : decode cJ6_bitCount_0f7a4 32 = .ok (.iand, 1) := by decide +kernel
theorem dJ6_bitCount_0f7a4_33 : decode cJ6_bitCount_0f7a4 33 = .ok (.istore_n 0, 1) := by decide +kernel
theorem dJ6_bitCount_0f7a4_34 : decode cJ6_bitCount_0f7a4 34 = .ok (.iload_n 0, 1) := by decide +kernel
theorem dJ6_bitCount_0f7a4_35 : decode cJ6_bitCount_0f7a4 35 = .ok (.iload_n 0, 1) := by decide +kernel
theorem dJ6_bitCount_0f7a4_36 : decode cJ6_bitCount_0f7a4 36 = .ok (.bipush 8, 2) := by decide +kernel
theorem dJ6_bitCount_0f7a4_38 : decode cJ6_bitCount_0f7a4 38 = .ok (.iushr, 1) := by decide +kernel
theorem dJ6_bitCount_0f7a4_39 : decode cJ6_bitCount_0f7a4 39 = .ok (.iadd, 1) := by decide +kernel
theorem dJ6_bitCount_0f7a4_40 : decode cJ6_bitCount_0f7a4 40 = .ok (.istore_n 0, 1) := by decide +kernel
theorem dJ6_bitCount_0f7a4_41 : decode cJ6_bitCount_0f7a4 41 = .ok (.iload_n 0, 1) := by decide +kernel
theorem dJ6_bitCount_0f7a4_42 : decode cJ6_bitCount_0f7a4 42 = .ok (.iload_n 0, 1) := by decide +kernel
theorem dJ6_bitCount_0f7a4_43 : decode cJ6_bitCount_0f7a4 43 = .ok (.bipush 16, 2) := by decide +kernel
theorem dJ6_bitCount_0f7a4_45 : decode cJ6_bitCount_0f7a4 45 = .ok (.iushr, 1) := by decide +kernel
theorem dJ6_bitCount_0f7a4_46 : decode cJ6_bitCount_0f7a4 46 = .ok (.iadd, 1) := by decide +kernel
theorem dJ6_bitCount_0f7a4_47 : decode cJ6_bitCount_0f7a4 47 = .ok (.istore_n 0, 1) := by decide +kernel
theorem dJ6_bitCount_0f7a4_48 : decode cJ6_bitCount_0f7a4 48 = .ok (.iload_n 0, 1) := by decide +kernel
theorem dJ6_bitCount_0f7a4_49 : decode cJ6_bitCount_0f7a4 49 = .ok (.bipush 63, 2) := by decide +kernel
theorem dJ6_bitCount_0f7a4_51 : decode cJ6_bitCount_0f7a4 51 = .ok (.iand, 1) := by decide +kernel
theorem dJ6_bitCount_0f7a4_52 : decode cJ6_bitCount_0f7a4 52 = .ok (.ireturn, 1) := by decide +kernel
theorem dJ7_fill_53178_0 : decode cJ7_fill_53178 0 = .ok (.iconst 0, 1) := by decide +kernel
theorem dJ7_fill_53178_1 : decode cJ7_fill_53178 1 = .ok (.istore_n 2, 1) := by decide +kernel
theorem dJ7_fill_53178_2 : decode cJ7_fill_53178 2 = .ok (.aload_n 0, 1) := by decide +kernel
theorem dJ7_fill_53178_3 : decode cJ7_fill_53178 3 = .ok (.arraylength, 1) := by decide +kernel
theorem dJ7_fill_53178_4 : decode cJ7_fill_53178 4 = .ok (.istore_n 3, 1) := by decide +kernel
theorem dJ7_fill_53178_5 : decode cJ7_fill_53178 5 = .ok (.iload_n 2, 1) := by decide +kernel
theorem dJ7_fill_53178_6 : decode cJ7_fill_53178 6 = .ok (.iload_n 3, 1) := by decide +kernel
theorem dJ7_fill_53178_7 : decode cJ7_fill_53178 7 = .ok (.if_icmp .ge 13, 3) := by decide +kernel
theorem dJ7_fill_53178_10 : decode cJ7_fill_53178 10 = .ok (.aload_n 0, 1) := by decide +kernel
theorem dJ7_fill_53178_11 : decode cJ7_fill_53178 11 = .ok (.iload_n 2, 1) := by decide +kernel
theorem dJ7_fill_53178_12 : decode cJ7_fill_53178 12 = .ok (.iload_n 1, 1) := by decide +kernel
theorem dJ7_fill_53178_13 : decode cJ7_fill_53178 13 = .ok (.iastore, 1) := by decide +kernel
theorem dJ7_fill_53178_14 : decode cJ7_fill_53178 14 = .ok (.iinc 2 1, 3) := by decide +kernel
theorem dJ7_fill_53178_17 : decode cJ7_fill_53178 17 = .ok (.goto (-12), 3) := by decide +kernel
theorem dJ7_fill_53178_20 : decode cJ7_fill_53178 20 = .ok (.return_, 1) := by decide +kernel
theorem dX0_beginnerWins_0 : decode cX0_beginnerWins 0 = .ok (.aload_n 0, 1) := by decide +kernel
theorem dX0_beginnerWins_1 : decode cX0_beginnerWins 1 = .ok (.getfield 37, 3) := by decide +kernel
theorem dX0_beginnerWins_4 : decode cX0_beginnerWins 4 = .ok (.iconst 2, 1) := by decide +kernel
theorem dX0_beginnerWins_5 : decode cX0_beginnerWins 5 = .ok (.if_icmp .ge 16, 3) := by decide +kernel
theorem dX0_beginnerWins_8 : decode cX0_beginnerWins 8 = .ok (.aload_n 0, 1) := by decide +kernel
theorem dX0_beginnerWins_9 : decode cX0_beginnerWins 9 = .ok (.getfield 30, 3) := by decide +kernel
theorem dX0_beginnerWins_12 : decode cX0_beginnerWins 12 = .ok (.ifCond .le 7, 3) := by decide +kernel
theorem dX0_beginnerWins_15 : decode cX0_beginnerWins 15 = .ok (.iconst 1, 1) := by decide +kernel
theorem dX0_beginnerWins_16 : decode cX0_beginnerWins 16 = .ok (.goto 4, 3) := by decide +kernel
theorem dX0_beginnerWins_20 : decode cX0_beginnerWins 20 = .ok (.ireturn, 1) := by decide +kernel
theorem dX0_findTwins_0 : decode cX0_findTwins 0 = .ok (.iconst 0, 1) := by decide +kernel
theorem dX0_findTwins_1 : decode cX0_findTwins 1 = .ok (.istore_n 2, 1) := by decide +kernel
theorem dX0_findTwins_2 : decode cX0_findTwins 2 = .ok (.iload_n 2, 1) := by decide +kernel
theorem dX0_findTwins_3 : decode cX0_findTwins 3 = .ok (.bipush 9, 2) := by decide +kernel
theorem dX0_findTwins_5 : decode cX0_findTwins 5 = .ok (.if_icmp .ge 70, 3) := by decide +kernel
theorem dX0_findTwins_8 : decode cX0_findTwins 8 = .ok (.aload_n 0, 1) := by decide +kernel
theorem dX0_findTwins_9 : decode cX0_findTwins 9 = .ok (.getfield 27, 3) := by decide +kernel
theorem dX0_findTwins_12 : decode cX0_findTwins 12 = .ok (.iload_n 2, 1) := by decide +kernel
theorem dX0_findTwins_13 : decode cX0_findTwins 13 = .ok (.iconst 0, 1) := by decide +kernel
theorem dX0_findTwins_14 : decode cX0_findTwins 14 = .ok (.iastore, 1) := by decide +kernel
theorem dX0_findTwins_15 : decode cX0_findTwins 15 = .ok (.iconst 0, 1) := by decide +kernel
theorem dX0_findTwins_16 : decode cX0_findTwins 16 = .ok (.istore_n 3, 1) := by decide +kernel
theorem dX0_findTwins_17 : decode cX0_findTwins 17 = .ok (.iload_n 3, 1) := by decide +kernel
theorem dX0_findTwins_18 : decode cX0_findTwins 18 = .ok (.iload_n 2, 1) := by decide +kernel
theorem dX0_findTwins_19 : decode cX0_findTwins 19 = .ok (.if_icmp .ge 50, 3) := by decide +kernel
theorem dX0_findTwins_22 : decode cX0_findTwins 22 = .ok (.aload_n 1, 1) := by decide +kernel
theorem dX0_findTwins_23 : decode cX0_findTwins 23 = .ok (.getfield 52, 3) := by decide +kernel
theorem dX0_findTwins_26 : decode cX0_findTwins 26 = .ok (.iload_n 2, 1) := by decide +kernel
theorem dX0_findTwins_27 : decode cX0_findTwins 27 = .ok (.ishr, 1) := by decide +kernel
theorem dX0_findTwins_28 : decode cX0_findTwins 28 = .ok (.aload_n 1, 1) := by decide +kernel
theorem dX0_findTwins_29 : decode cX0_findTwins 29 = .ok (.getfield 52, 3) := by decide +kernel
theorem dX0_findTwins_32 : decode cX0_findTwins 32 = .ok (.iload_n 3, 1) := by decide +kernel
theorem dX0_findTwins_33 : decode cX0_findTwins 33 = .ok (.ishr, 1) := by decide +kernel
theorem dX0_findTwins_34 : decode cX0_findTwins 34 = .ok (.iand, 1) := by decide +kernel
theorem dX0_findTwins_35 : decode cX0_findTwins 35 = .ok (.iconst 1, 1) := by decide +kernel
theorem dX0_findTwins_36 : decode cX0_findTwins 36 = .ok (.iand, 1) := by decide +kernel
theorem dX0_findTwins_37 : decode cX0_findTwins 37 = .ok (.iconst 1, 1) := by decide +kernel
theorem dX0_findTwins_38 : decode cX0_findTwins 38 = .ok (.if_icmp .ne 25, 3) := by decide +kernel
theorem dX0_findTwins_63 : decode cX0_findTwins 63 = .ok (.iinc 3 1, 3) := by decide +kernel
theorem dX0_findTwins_66 : decode cX0_findTwins 66 = .ok (.goto (-49), 3) := by decide +kernel
theorem dX0_findTwins_69 : decode cX0_findTwins 69 = .ok (.iinc 2 1, 3) := by decide +kernel
theorem dX0_findTwins_72 : decode cX0_findTwins 72 = .ok (.goto (-70), 3) := by decide +kernel
theorem dX0_findTwins_75 : decode cX0_findTwins 75 = .ok (.return_, 1) := by decide +kernel
theorem dX0_gather_0 : decode cX0_gather 0 = .ok (.aload_n 0, 1) := by decide +kernel
theorem dX0_gather_1 : decode cX0_gather 1 = .ok (.getfield 21, 3) := by decide +kernel
theorem dX0_gather_4 : decode cX0_gather 4 = .ok (.iconst 0, 1) := by decide +kernel
theorem dX0_gather_5 : decode cX0_gather 5 = .ok (.invokestatic 43, 3) := by decide +kernel
theorem dX0_gather_8 : decode cX0_gather 8 = .ok (.aload_n 0, 1) := by decide +kernel
theorem dX0_gather_9 : decode cX0_gather 9 = .ok (.iconst 0, 1) := by decide +kernel
theorem dX0_gather_10 : decode cX0_gather 10 = .ok (.putfield 30, 3) := by decide +kernel
theorem dX0_gather_13 : decode cX0_gather 13 = .ok (.aload_n 0, 1) := by decide +kernel
theorem dX0_gather_14 : decode cX0_gather 14 = .ok (.iconst 0, 1) := by decide +kernel
theorem dX0_gather_15 : decode cX0_gather 15 = .ok (.putfield 40, 3) := by decide +kernel
theorem dX0_gather_18 : decode cX0_gather 18 = .ok (.aload_n 0, 1) := by decide +kernel
theorem dX0_gather_19 : decode cX0_gather 19 = .ok (.aload_n 1, 1) := by decide +kernel
theorem dX0_gather_20 : decode cX0_gather 20 = .ok (.getfield 49, 3) := by decide +kernel
theorem dX0_gather_23 : decode cX0_gather 23 = .ok (.putfield 37, 3) := by decide +kernel
theorem dX0_gather_26 : decode cX0_gather 26 = .ok (.aload_n 0, 1) := by decide +kernel
theorem dX0_gather_27 : decode cX0_gather 27 = .ok (.aload_n 1, 1) := by decide +kernel
theorem dX0_gather_28 : decode cX0_gather 28 = .ok (.getfield 52, 3) := by decide +kernel
theorem dX0_gather_31 : decode cX0_gather 31 = .ok (.invokevirtual 55, 3) := by decide +kernel
theorem dX0_gather_34 : decode cX0_gather 34 = .ok (.aload_n 0, 1) := by decide +kernel
theorem dX0_gather_35 : decode cX0_gather 35 = .ok (.aload_n 1, 1) := by decide +kernel
theorem dX0_gather_36 : decode cX0_gather 36 = .ok (.invokevirtual 59, 3) := by decide +kernel
theorem dX0_gather_39 : decode cX0_gather 39 = .ok (.aload_n 0, 1) := by decide +kernel
theorem dX0_gather_40 : decode cX0_gather 40 = .ok (.getfield 37, 3) := by decide +kernel
theorem dX0_gather_43 : decode cX0_gather 43 = .ok (.ifCond .ne 9, 3) := by decide +kernel
theorem dX0_gather_46 : decode cX0_gather 46 = .ok (.aload_n 0, 1) := by decide +kernel
theorem dX0_gather_47 : decode cX0_gather 47 = .ok (.iconst 0, 1) := by decide +kernel
theorem dX0_gather_48 : decode cX0_gather 48 = .ok (.iconst 0, 1) := by decide +kernel
theorem dX0_gather_49 : decode cX0_gather 49 = .ok (.invokevirtual 63, 3) := by decide +kernel
theorem dX0_gather_52 : decode cX0_gather 52 = .ok (.iconst 0, 1) := by decide +kernel
theorem dX0_gather_53 : decode cX0_gather 53 = .ok (.istore_n 2, 1) := by decide +kernel
theorem dX0_gather_54 : decode cX0_gather 54 = .ok (.iload_n 2, 1) := by decide +kernel
theorem dX0_gather_55 : decode cX0_gather 55 = .ok (.bipush 9, 2) := by decide +kernel
theorem dX0_gather_57 : decode cX0_gather 57 = .ok (.if_icmp .ge 50, 3) := by decide +kernel
theorem dX0_gather_60 : decode cX0_gather 60 = .ok (.aload_n 0, 1) := by decide +kernel
theorem dX0_gather_61 : decode cX0_gather 61 = .ok (.getfield 37, 3) := by decide +kernel
theorem dX0_gather_64 : decode cX0_gather 64 = .ok (.ifCond .le 43, 3) := by decide +kernel
theorem dX0_gather_107 : decode cX0_gather 107 = .ok (.return_, 1) := by decide +kernel
theorem dX0_init_0 : decode cX0_init 0 = .ok (.aload_n 0, 1) := by decide +kernel
theorem dX0_init_1 : decode cX0_init 1 = .ok (.invokespecial 3, 3) := by decide +kernel
theorem dX0_init_4 : decode cX0_init 4 = .ok (.aload_n 0, 1) := by decide +kernel
theorem dX0_init_5 : decode cX0_init 5 = .ok (.sipush 2520, 3) := by decide +kernel
theorem dX0_init_8 : decode cX0_init 8 = .ok (.newarray .int, 2) := by decide +kernel
theorem dX0_init_10 : decode cX0_init 10 = .ok (.putfield 11, 3) := by decide +kernel
theorem dX0_init_13 : decode cX0_init 13 = .ok (.aload_n 0, 1) := by decide +kernel
theorem dX0_init_14 : decode cX0_init 14 = .ok (.sipush 2520, 3) := by decide +kernel
theorem dX0_init_17 : decode cX0_init 17 = .ok (.newarray .int, 2) := by decide +kernel
theorem dX0_init_19 : decode cX0_init 19 = .ok (.putfield 15, 3) := by decide +kernel
theorem dX0_init_22 : decode cX0_init 22 = .ok (.aload_n 0, 1) := by decide +kernel
theorem dX0_init_23 : decode cX0_init 23 = .ok (.sipush 2520, 3) := by decide +kernel
theorem dX0_init_26 : decode cX0_init 26 = .ok (.newarray .int, 2) := by decide +kernel
theorem dX0_init_28 : decode cX0_init 28 = .ok (.putfield 18, 3) := by decide +kernel
theorem dX0_init_31 : decode cX0_init 31 = .ok (.aload_n 0, 1) := by decide +kernel
theorem dX0_init_32 : decode cX0_init 32 = .ok (.sipush 4096, 3) := by decide +kernel
theorem dX0_init_35 : decode cX0_init 35 = .ok (.newarray .int, 2) := by decide +kernel
theorem dX0_init_37 : decode cX0_init 37 = .ok (.putfield 21, 3) := by decide +kernel
theorem dX0_init_40 : decode cX0_init 40 = .ok (.aload_n 0, 1) := by decide +kernel
theorem dX0_init_41 : decode cX0_init 41 = .ok (.bipush 81, 2) := by decide +kernel
theorem dX0_init_43 : decode cX0_init 43 = .ok (.newarray .int, 2) := by decide +kernel
theorem dX0_init_45 : decode cX0_init 45 = .ok (.putfield 24, 3) := by decide +kernel
theorem dX0_init_48 : decode cX0_init 48 = .ok (.aload_n 0, 1) := by decide +kernel
theorem dX0_init_49 : decode cX0_init 49 = .ok (.bipush 9, 2) := by decide +kernel
theorem dX0_init_51 : decode cX0_init 51 = .ok (.newarray .int, 2) := by decide +kernel
theorem dX0_init_53 : decode cX0_init 53 = .ok (.putfield 27, 3) := by decide +kernel
theorem dX0_init_56 : decode cX0_init 56 = .ok (.aload_n 0, 1) := by decide +kernel
theorem dX0_init_57 : decode cX0_init 57 = .ok (.iconst 0, 1) := by decide +kernel
theorem dX0_init_58 : decode cX0_init 58 = .ok (.putfield 30, 3) := by decide +kernel
theorem dX0_init_61 : decode cX0_init 61 = .ok (.aload_n 0, 1) := by decide +kernel
theorem dX0_init_62 : decode cX0_init 62 = .ok (.iconst 0, 1) := by decide +kernel
theorem dX0_init_63 : decode cX0_init 63 = .ok (.putfield 34, 3) := by decide +kernel
theorem dX0_init_66 : decode cX0_init 66 = .ok (.aload_n 0, 1) := by decide +kernel
theorem dX0_init_67 : decode cX0_init 67 = .ok (.iconst 0, 1) := by decide +kernel
theorem dX0_init_68 : decode cX0_init 68 = .ok (.putfield 37, 3) := by decide +kernel
theorem dX0_init_71 : decode cX0_init 71 = .ok (.aload_n 0, 1) := by decide +kernel
theorem dX0_init_72 : decode cX0_init 72 = .ok (.iconst 0, 1) := by decide +kernel
theorem dX0_init_73 : decode cX0_init 73 = .ok (.putfield 40, 3) := by decide +kernel
theorem dX0_init_76 : decode cX0_init 76 = .ok (.return_, 1) := by decide +kernel
theorem dX0_most_0 : decode cX0_most 0 = .ok (.aload_n 1, 1) := by decide +kernel
theorem dX0_most_1 : decode cX0_most 1 = .ok (.iconst (-1), 1) := by decide +kernel
theorem dX0_most_2 : decode cX0_most 2 = .ok (.putfield 96, 3) := by decide +kernel
theorem dX0_most_5 : decode cX0_most 5 = .ok (.aload_n 0, 1) := by decide +kernel
theorem dX0_most_6 : decode cX0_most 6 = .ok (.getfield 30, 3) := by decide +kernel
theorem dX0_most_9 : decode cX0_most 9 = .ok (.ifCond .ne 5, 3) := by decide +kernel
theorem dX0_most_14 : decode cX0_most 14 = .ok (.iconst 1, 1) := by decide +kernel
theorem dX0_most_15 : decode cX0_most 15 = .ok (.aload_n 0, 1) := by decide +kernel
theorem dX0_most_16 : decode cX0_most 16 = .ok (.getfield 11, 3) := by decide +kernel
theorem dX0_most_19 : decode cX0_most 19 = .ok (.iconst 0, 1) := by decide +kernel
theorem dX0_most_20 : decode cX0_most 20 = .ok (.iaload, 1) := by decide +kernel
theorem dX0_most_21 : decode cX0_most 21 = .ok (.invokestatic 81, 3) := by decide +kernel
theorem dX0_most_24 : decode cX0_most 24 = .ok (.invokestatic 99, 3) := by decide +kernel
theorem dX0_most_27 : decode cX0_most 27 = .ok (.istore_n 2, 1) := by decide +kernel
theorem dX0_most_28 : decode cX0_most 28 = .ok (.iconst 3, 1) := by decide +kernel
theorem dX0_most_29 : decode cX0_most 29 = .ok (.aload_n 0, 1) := by decide +kernel
theorem dX0_most_30 : decode cX0_most 30 = .ok (.getfield 40, 3) := by decide +kernel
theorem dX0_most_33 : decode cX0_most 33 = .ok (.invokestatic 81, 3) := by decide +kernel
theorem dX0_most_36 : decode cX0_most 36 = .ok (.iload_n 2, 1) := by decide +kernel
theorem dX0_most_37 : decode cX0_most 37 = .ok (.idiv, 1) := by decide +kernel
theorem dX0_most_38 : decode cX0_most 38 = .ok (.invokestatic 105, 3) := by decide +kernel
theorem dX0_most_41 : decode cX0_most 41 = .ok (.istore_n 3, 1) := by decide +kernel
theorem dX0_most_42 : decode cX0_most 42 = .ok (.iload_n 3, 1) := by decide +kernel
theorem dX0_most_43 : decode cX0_most 43 = .ok (.istore 4, 2) := by decide +kernel
theorem dX0_most_45 : decode cX0_most 45 = .ok (.iload 4, 2) := by decide +kernel
theorem dX0_most_47 : decode cX0_most 47 = .ok (.iconst 1, 1) := by decide +kernel
theorem dX0_most_48 : decode cX0_most 48 = .ok (.if_icmp .le 38, 3) := by decide +kernel
theorem dX0_most_86 : decode cX0_most 86 = .ok (.aload_n 0, 1) := by decide +kernel
theorem dX0_most_87 : decode cX0_most 87 = .ok (.aload_n 0, 1) := by decide +kernel
theorem dX0_most_88 : decode cX0_most 88 = .ok (.getfield 15, 3) := by decide +kernel
theorem dX0_most_91 : decode cX0_most 91 = .ok (.iconst 0, 1) := by decide +kernel
theorem dX0_most_92 : decode cX0_most 92 = .ok (.iaload, 1) := by decide +kernel
theorem dX0_most_93 : decode cX0_most 93 = .ok (.aload_n 1, 1) := by decide +kernel
theorem dX0_most_94 : decode cX0_most 94 = .ok (.invokevirtual 111, 3) := by decide +kernel
theorem dX0_most_97 : decode cX0_most 97 = .ok (.iconst 1, 1) := by decide +kernel
theorem dX0_most_98 : decode cX0_most 98 = .ok (.ireturn, 1) := by decide +kernel
theorem dX0_numberPairs_0 : decode cX0_numberPairs 0 = .ok (.iconst 0, 1) := by decide +kernel
theorem dX0_numberPairs_1 : decode cX0_numberPairs 1 = .ok (.istore_n 2, 1) := by decide +kernel
theorem dX0_numberPairs_2 : decode cX0_numberPairs 2 = .ok (.iconst 0, 1) := by decide +kernel
theorem dX0_numberPairs_3 : decode cX0_numberPairs 3 = .ok (.istore_n 3, 1) := by decide +kernel
theorem dX0_numberPairs_4 : decode cX0_numberPairs 4 = .ok (.iload_n 3, 1) := by decide +kernel
theorem dX0_numberPairs_5 : decode cX0_numberPairs 5 = .ok (.bipush 9, 2) := by decide +kernel
theorem dX0_numberPairs_7 : decode cX0_numberPairs 7 = .ok (.if_icmp .ge 71, 3) := by decide +kernel
theorem dX0_numberPairs_10 : decode cX0_numberPairs 10 = .ok (.iconst 0, 1) := by decide +kernel
theorem dX0_numberPairs_11 : decode cX0_numberPairs 11 = .ok (.istore 4, 2) := by decide +kernel
theorem dX0_numberPairs_13 : decode cX0_numberPairs 13 = .ok (.iload 4, 2) := by decide +kernel
theorem dX0_numberPairs_15 : decode cX0_numberPairs 15 = .ok (.iload_n 3, 1) := by decide +kernel
theorem dX0_numberPairs_16 : decode cX0_numberPairs 16 = .ok (.if_icmp .ge 56, 3) := by decide +kernel
theorem dX0_numberPairs_19 : decode cX0_numberPairs 19 = .ok (.iload_n 1, 1) := by decide +kernel
theorem dX0_numberPairs_20 : decode cX0_numberPairs 20 = .ok (.iload_n 3, 1) := by decide +kernel
theorem dX0_numberPairs_21 : decode cX0_numberPairs 21 = .ok (.ishr, 1) := by decide +kernel
theorem dX0_numberPairs_22 : decode cX0_numberPairs 22 = .ok (.iload_n 1, 1) := by decide +kernel
theorem dX0_numberPairs_23 : decode cX0_numberPairs 23 = .ok (.iload 4, 2) := by decide +kernel
theorem dX0_numberPairs_25 : decode cX0_numberPairs 25 = .ok (.ishr, 1) := by decide +kernel
theorem dX0_numberPairs_26 : decode cX0_numberPairs 26 = .ok (.iand, 1) := by decide +kernel
theorem dX0_numberPairs_27 : decode cX0_numberPairs 27 = .ok (.iconst 1, 1) := by decide +kernel
theorem dX0_numberPairs_28 : decode cX0_numberPairs 28 = .ok (.iand, 1) := by decide +kernel
theorem dX0_numberPairs_29 : decode cX0_numberPairs 29 = .ok (.iconst 1, 1) := by decide +kernel
theorem dX0_numberPairs_30 : decode cX0_numberPairs 30 = .ok (.if_icmp .ne 36, 3) := by decide +kernel
theorem dX0_numberPairs_66 : decode cX0_numberPairs 66 = .ok (.iinc 4 1, 3) := by decide +kernel
theorem dX0_numberPairs_69 : decode cX0_numberPairs 69 = .ok (.goto (-56), 3) := by decide +kernel
theorem dX0_numberPairs_72 : decode cX0_numberPairs 72 = .ok (.iinc 3 1, 3) := by decide +kernel
theorem dX0_numberPairs_75 : decode cX0_numberPairs 75 = .ok (.goto (-71), 3) := by decide +kernel
theorem dX0_numberPairs_78 : decode cX0_numberPairs 78 = .ok (.return_, 1) := by decide +kernel
theorem dX0_put_0 : decode cX0_put 0 = .ok (.iload_n 1, 1) := by decide +kernel
theorem dX0_put_1 : decode cX0_put 1 = .ok (.ldc 95, 2) := by decide +kernel
theorem dX0_put_3 : decode cX0_put 3 = .ok (.imul, 1) := by decide +kernel
theorem dX0_put_4 : decode cX0_put 4 = .ok (.bipush 20, 2) := by decide +kernel
theorem dX0_put_6 : decode cX0_put 6 = .ok (.iushr, 1) := by decide +kernel
theorem dX0_put_7 : decode cX0_put 7 = .ok (.istore_n 3, 1) := by decide +kernel
theorem dX0_put_8 : decode cX0_put 8 = .ok (.iconst 0, 1) := by decide +kernel
theorem dX0_put_9 : decode cX0_put 9 = .ok (.istore 4, 2) := by decide +kernel
theorem dX0_put_11 : decode cX0_put 11 = .ok (.iload 4, 2) := by decide +kernel
theorem dX0_put_13 : decode cX0_put 13 = .ok (.sipush 4096, 3) := by decide +kernel
theorem dX0_put_16 : decode cX0_put 16 = .ok (.if_icmp .ge 39, 3) := by decide +kernel
theorem dX0_put_19 : decode cX0_put 19 = .ok (.aload_n 0, 1) := by decide +kernel
theorem dX0_put_20 : decode cX0_put 20 = .ok (.getfield 21, 3) := by decide +kernel
theorem dX0_put_23 : decode cX0_put 23 = .ok (.iload_n 3, 1) := by decide +kernel
theorem dX0_put_24 : decode cX0_put 24 = .ok (.iaload, 1) := by decide +kernel
theorem dX0_put_25 : decode cX0_put 25 = .ok (.ifCond .eq 30, 3) := by decide +kernel
theorem dX0_put_55 : decode cX0_put 55 = .ok (.aload_n 0, 1) := by decide +kernel
theorem dX0_put_56 : decode cX0_put 56 = .ok (.getfield 21, 3) := by decide +kernel
theorem dX0_put_59 : decode cX0_put 59 = .ok (.iload_n 3, 1) := by decide +kernel
theorem dX0_put_60 : decode cX0_put 60 = .ok (.iload_n 1, 1) := by decide +kernel
theorem dX0_put_61 : decode cX0_put 61 = .ok (.iconst 1, 1) := by decide +kernel
theorem dX0_put_62 : decode cX0_put 62 = .ok (.iadd, 1) := by decide +kernel
theorem dX0_put_63 : decode cX0_put 63 = .ok (.iastore, 1) := by decide +kernel
theorem dX0_put_64 : decode cX0_put 64 = .ok (.aload_n 0, 1) := by decide +kernel
theorem dX0_put_65 : decode cX0_put 65 = .ok (.getfield 30, 3) := by decide +kernel
theorem dX0_put_68 : decode cX0_put 68 = .ok (.sipush 2520, 3) := by decide +kernel
theorem dX0_put_71 : decode cX0_put 71 = .ok (.if_icmp .ge 43, 3) := by decide +kernel
theorem dX0_put_74 : decode cX0_put 74 = .ok (.aload_n 0, 1) := by decide +kernel
theorem dX0_put_75 : decode cX0_put 75 = .ok (.getfield 11, 3) := by decide +kernel
theorem dX0_put_78 : decode cX0_put 78 = .ok (.aload_n 0, 1) := by decide +kernel
theorem dX0_put_79 : decode cX0_put 79 = .ok (.getfield 30, 3) := by decide +kernel
theorem dX0_put_82 : decode cX0_put 82 = .ok (.iload_n 1, 1) := by decide +kernel
theorem dX0_put_83 : decode cX0_put 83 = .ok (.iastore, 1) := by decide +kernel
theorem dX0_put_84 : decode cX0_put 84 = .ok (.aload_n 0, 1) := by decide +kernel
theorem dX0_put_85 : decode cX0_put 85 = .ok (.getfield 15, 3) := by decide +kernel
theorem dX0_put_88 : decode cX0_put 88 = .ok (.aload_n 0, 1) := by decide +kernel
theorem dX0_put_89 : decode cX0_put 89 = .ok (.getfield 30, 3) := by decide +kernel
theorem dX0_put_92 : decode cX0_put 92 = .ok (.iload_n 2, 1) := by decide +kernel
theorem dX0_put_93 : decode cX0_put 93 = .ok (.iastore, 1) := by decide +kernel
theorem dX0_put_94 : decode cX0_put 94 = .ok (.aload_n 0, 1) := by decide +kernel
theorem dX0_put_95 : decode cX0_put 95 = .ok (.dup, 1) := by decide +kernel
theorem dX0_put_96 : decode cX0_put 96 = .ok (.getfield 30, 3) := by decide +kernel
theorem dX0_put_99 : decode cX0_put 99 = .ok (.iconst 1, 1) := by decide +kernel
theorem dX0_put_100 : decode cX0_put 100 = .ok (.iadd, 1) := by decide +kernel
theorem dX0_put_101 : decode cX0_put 101 = .ok (.putfield 30, 3) := by decide +kernel
theorem dX0_put_104 : decode cX0_put 104 = .ok (.aload_n 0, 1) := by decide +kernel
theorem dX0_put_105 : decode cX0_put 105 = .ok (.dup, 1) := by decide +kernel
theorem dX0_put_106 : decode cX0_put 106 = .ok (.getfield 40, 3) := by decide +kernel
theorem dX0_put_109 : decode cX0_put 109 = .ok (.iload_n 1, 1) := by decide +kernel
theorem dX0_put_110 : decode cX0_put 110 = .ok (.ior, 1) := by decide +kernel
theorem dX0_put_111 : decode cX0_put 111 = .ok (.putfield 40, 3) := by decide +kernel
theorem dX0_put_114 : decode cX0_put 114 = .ok (.return_, 1) := by decide +kernel
theorem dX0_unpack_0 : decode cX0_unpack 0 = .ok (.aload_n 2, 1) := by decide +kernel
theorem dX0_unpack_1 : decode cX0_unpack 1 = .ok (.iconst 0, 1) := by decide +kernel
theorem dX0_unpack_2 : decode cX0_unpack 2 = .ok (.putfield 96, 3) := by decide +kernel
theorem dX0_unpack_5 : decode cX0_unpack 5 = .ok (.iconst 0, 1) := by decide +kernel
theorem dX0_unpack_6 : decode cX0_unpack 6 = .ok (.istore_n 3, 1) := by decide +kernel
theorem dX0_unpack_7 : decode cX0_unpack 7 = .ok (.iload_n 3, 1) := by decide +kernel
theorem dX0_unpack_8 : decode cX0_unpack 8 = .ok (.aload_n 0, 1) := by decide +kernel
theorem dX0_unpack_9 : decode cX0_unpack 9 = .ok (.getfield 37, 3) := by decide +kernel
theorem dX0_unpack_12 : decode cX0_unpack 12 = .ok (.if_icmp .ge 21, 3) := by decide +kernel
theorem dX0_unpack_33 : decode cX0_unpack 33 = .ok (.return_, 1) := by decide +kernel
theorem dX1_clear_0 : decode cX1_clear 0 = .ok (.aload_n 0, 1) := by decide +kernel
theorem dX1_clear_1 : decode cX1_clear 1 = .ok (.invokevirtual 38, 3) := by decide +kernel
theorem dX1_clear_4 : decode cX1_clear 4 = .ok (.aload_n 0, 1) := by decide +kernel
theorem dX1_clear_5 : decode cX1_clear 5 = .ok (.invokevirtual 31, 3) := by decide +kernel
theorem dX1_clear_8 : decode cX1_clear 8 = .ok (.return_, 1) := by decide +kernel
theorem dX1_init_0 : decode cX1_init 0 = .ok (.aload_n 0, 1) := by decide +kernel
theorem dX1_init_1 : decode cX1_init 1 = .ok (.invokespecial 5, 3) := by decide +kernel
theorem dX1_init_4 : decode cX1_init 4 = .ok (.aload_n 0, 1) := by decide +kernel
theorem dX1_init_5 : decode cX1_init 5 = .ok (.sipush 360, 3) := by decide +kernel
theorem dX1_init_8 : decode cX1_init 8 = .ok (.newarray .int, 2) := by decide +kernel
theorem dX1_init_10 : decode cX1_init 10 = .ok (.putfield 11, 3) := by decide +kernel
theorem dX1_init_13 : decode cX1_init 13 = .ok (.aload_n 0, 1) := by decide +kernel
theorem dX1_init_14 : decode cX1_init 14 = .ok (.bipush 40, 2) := by decide +kernel
theorem dX1_init_16 : decode cX1_init 16 = .ok (.newarray .int, 2) := by decide +kernel
theorem dX1_init_18 : decode cX1_init 18 = .ok (.putfield 15, 3) := by decide +kernel
theorem dX1_init_21 : decode cX1_init 21 = .ok (.aload_n 0, 1) := by decide +kernel
theorem dX1_init_22 : decode cX1_init 22 = .ok (.bipush 16, 2) := by decide +kernel
theorem dX1_init_24 : decode cX1_init 24 = .ok (.newarray .int, 2) := by decide +kernel
theorem dX1_init_26 : decode cX1_init 26 = .ok (.putfield 18, 3) := by decide +kernel
theorem dX1_init_29 : decode cX1_init 29 = .ok (.aload_n 0, 1) := by decide +kernel
theorem dX1_init_30 : decode cX1_init 30 = .ok (.iconst 0, 1) := by decide +kernel
theorem dX1_init_31 : decode cX1_init 31 = .ok (.putfield 21, 3) := by decide +kernel
theorem dX1_init_34 : decode cX1_init 34 = .ok (.aload_n 0, 1) := by decide +kernel
theorem dX1_init_35 : decode cX1_init 35 = .ok (.iconst 0, 1) := by decide +kernel
theorem dX1_init_36 : decode cX1_init 36 = .ok (.putfield 25, 3) := by decide +kernel
theorem dX1_init_39 : decode cX1_init 39 = .ok (.aload_n 0, 1) := by decide +kernel
theorem dX1_init_40 : decode cX1_init 40 = .ok (.iconst 0, 1) := by decide +kernel
theorem dX1_init_41 : decode cX1_init 41 = .ok (.putfield 28, 3) := by decide +kernel
theorem dX1_init_44 : decode cX1_init 44 = .ok (.aload_n 0, 1) := by decide +kernel
theorem dX1_init_45 : decode cX1_init 45 = .ok (.invokevirtual 31, 3) := by decide +kernel
theorem dX1_init_48 : decode cX1_init 48 = .ok (.return_, 1) := by decide +kernel
theorem dX1_open_0 : decode cX1_open 0 = .ok (.aload_n 0, 1) := by decide +kernel
theorem dX1_open_1 : decode cX1_open 1 = .ok (.iconst 0, 1) := by decide +kernel
theorem dX1_open_2 : decode cX1_open 2 = .ok (.putfield 21, 3) := by decide +kernel
theorem dX1_open_5 : decode cX1_open 5 = .ok (.aload_n 0, 1) := by decide +kernel
theorem dX1_open_6 : decode cX1_open 6 = .ok (.iconst 0, 1) := by decide +kernel
theorem dX1_open_7 : decode cX1_open 7 = .ok (.putfield 28, 3) := by decide +kernel
theorem dX1_open_10 : decode cX1_open 10 = .ok (.return_, 1) := by decide +kernel
theorem dX1_put_0 : decode cX1_put 0 = .ok (.aload_n 0, 1) := by decide +kernel
theorem dX1_put_1 : decode cX1_put 1 = .ok (.getfield 21, 3) := by decide +kernel
theorem dX1_put_4 : decode cX1_put 4 = .ok (.sipush 360, 3) := by decide +kernel
theorem dX1_put_7 : decode cX1_put 7 = .ok (.if_icmp .ge 23, 3) := by decide +kernel
theorem dX1_put_10 : decode cX1_put 10 = .ok (.aload_n 0, 1) := by decide +kernel
theorem dX1_put_11 : decode cX1_put 11 = .ok (.getfield 11, 3) := by decide +kernel
theorem dX1_put_14 : decode cX1_put 14 = .ok (.aload_n 0, 1) := by decide +kernel
theorem dX1_put_15 : decode cX1_put 15 = .ok (.getfield 21, 3) := by decide +kernel
theorem dX1_put_18 : decode cX1_put 18 = .ok (.iload_n 1, 1) := by decide +kernel
theorem dX1_put_19 : decode cX1_put 19 = .ok (.iastore, 1) := by decide +kernel
theorem dX1_put_20 : decode cX1_put 20 = .ok (.aload_n 0, 1) := by decide +kernel
theorem dX1_put_21 : decode cX1_put 21 = .ok (.dup, 1) := by decide +kernel
theorem dX1_put_22 : decode cX1_put 22 = .ok (.getfield 21, 3) := by decide +kernel
theorem dX1_put_25 : decode cX1_put 25 = .ok (.iconst 1, 1) := by decide +kernel
theorem dX1_put_26 : decode cX1_put 26 = .ok (.iadd, 1) := by decide +kernel
theorem dX1_put_27 : decode cX1_put 27 = .ok (.putfield 21, 3) := by decide +kernel
theorem dX1_put_30 : decode cX1_put 30 = .ok (.return_, 1) := by decide +kernel
theorem dX1_putSinceNever_0 : decode cX1_putSinceNever 0 = .ok (.aload_n 0, 1) := by decide +kernel
theorem dX1_putSinceNever_1 : decode cX1_putSinceNever 1 = .ok (.bipush (-14), 2) := by decide +kernel
theorem dX1_putSinceNever_3 : decode cX1_putSinceNever 3 = .ok (.invokevirtual 34, 3) := by decide +kernel
theorem dX1_putSinceNever_6 : decode cX1_putSinceNever 6 = .ok (.aload_n 0, 1) := by decide +kernel
theorem dX1_putSinceNever_7 : decode cX1_putSinceNever 7 = .ok (.bipush 99, 2) := by decide +kernel
theorem dX1_putSinceNever_9 : decode cX1_putSinceNever 9 = .ok (.invokevirtual 34, 3) := by decide +kernel
theorem dX1_putSinceNever_12 : decode cX1_putSinceNever 12 = .ok (.aload_n 0, 1) := by decide +kernel
theorem dX1_putSinceNever_13 : decode cX1_putSinceNever 13 = .ok (.bipush (-23), 2) := by decide +kernel
theorem dX1_putSinceNever_15 : decode cX1_putSinceNever 15 = .ok (.invokevirtual 34, 3) := by decide +kernel
theorem dX1_putSinceNever_18 : decode cX1_putSinceNever 18 = .ok (.return_, 1) := by decide +kernel
theorem dX2_ask_0 : decode cX2_ask 0 = .ok (.iconst 0, 1) := by decide +kernel
theorem dX2_ask_1 : decode cX2_ask 1 = .ok (.istore_n 3, 1) := by decide +kernel
theorem dX2_ask_2 : decode cX2_ask 2 = .ok (.iload_n 3, 1) := by decide +kernel
theorem dX2_ask_3 : decode cX2_ask 3 = .ok (.aload_n 0, 1) := by decide +kernel
theorem dX2_ask_4 : decode cX2_ask 4 = .ok (.getfield 31, 3) := by decide +kernel
theorem dX2_ask_7 : decode cX2_ask 7 = .ok (.if_icmp .ge 112, 3) := by decide +kernel
theorem dX2_ask_119 : decode cX2_ask 119 = .ok (.return_, 1) := by decide +kernel
theorem dX2_drop_0 : decode cX2_drop 0 = .ok (.iload_n 1, 1) := by decide +kernel
theorem dX2_drop_1 : decode cX2_drop 1 = .ok (.ifCond .lt 21, 3) := by decide +kernel
theorem dX2_drop_4 : decode cX2_drop 4 = .ok (.iload_n 1, 1) := by decide +kernel
theorem dX2_drop_5 : decode cX2_drop 5 = .ok (.aload_n 0, 1) := by decide +kernel
theorem dX2_drop_6 : decode cX2_drop 6 = .ok (.getfield 31, 3) := by decide +kernel
theorem dX2_drop_9 : decode cX2_drop 9 = .ok (.if_icmp .ge 13, 3) := by decide +kernel
theorem dX2_drop_22 : decode cX2_drop 22 = .ok (.iconst 0, 1) := by decide +kernel
theorem dX2_drop_23 : decode cX2_drop 23 = .ok (.ireturn, 1) := by decide +kernel
theorem dX2_init_0 : decode cX2_init 0 = .ok (.aload_n 0, 1) := by decide +kernel
theorem dX2_init_1 : decode cX2_init 1 = .ok (.invokespecial 3, 3) := by decide +kernel
theorem dX2_init_4 : decode cX2_init 4 = .ok (.aload_n 0, 1) := by decide +kernel
theorem dX2_init_5 : decode cX2_init 5 = .ok (.bipush 20, 2) := by decide +kernel
theorem dX2_init_7 : decode cX2_init 7 = .ok (.newarray .int, 2) := by decide +kernel
theorem dX2_init_9 : decode cX2_init 9 = .ok (.putfield 11, 3) := by decide +kernel
theorem dX2_init_12 : decode cX2_init 12 = .ok (.aload_n 0, 1) := by decide +kernel
theorem dX2_init_13 : decode cX2_init 13 = .ok (.bipush 20, 2) := by decide +kernel
theorem dX2_init_15 : decode cX2_init 15 = .ok (.newarray .int, 2) := by decide +kernel
theorem dX2_init_17 : decode cX2_init 17 = .ok (.putfield 15, 3) := by decide +kernel
theorem dX2_init_20 : decode cX2_init 20 = .ok (.aload_n 0, 1) := by decide +kernel
theorem dX2_init_21 : decode cX2_init 21 = .ok (.bipush 20, 2) := by decide +kernel
theorem dX2_init_23 : decode cX2_init 23 = .ok (.newarray .boolean, 2) := by decide +kernel
theorem dX2_init_25 : decode cX2_init 25 = .ok (.putfield 18, 3) := by decide +kernel
theorem dX2_init_28 : decode cX2_init 28 = .ok (.aload_n 0, 1) := by decide +kernel
theorem dX2_init_29 : decode cX2_init 29 = .ok (.bipush 20, 2) := by decide +kernel
theorem dX2_init_31 : decode cX2_init 31 = .ok (.newarray .boolean, 2) := by decide +kernel
theorem dX2_init_33 : decode cX2_init 33 = .ok (.putfield 22, 3) := by decide +kernel
theorem dX2_init_36 : decode cX2_init 36 = .ok (.aload_n 0, 1) := by decide +kernel
theorem dX2_init_37 : decode cX2_init 37 = .ok (.bipush 20, 2) := by decide +kernel
theorem dX2_init_39 : decode cX2_init 39 = .ok (.newarray .int, 2) := by decide +kernel
theorem dX2_init_41 : decode cX2_init 41 = .ok (.putfield 25, 3) := by decide +kernel
theorem dX2_init_44 : decode cX2_init 44 = .ok (.aload_n 0, 1) := by decide +kernel
theorem dX2_init_45 : decode cX2_init 45 = .ok (.bipush 20, 2) := by decide +kernel
theorem dX2_init_47 : decode cX2_init 47 = .ok (.newarray .int, 2) := by decide +kernel
theorem dX2_init_49 : decode cX2_init 49 = .ok (.putfield 28, 3) := by decide +kernel
theorem dX2_init_52 : decode cX2_init 52 = .ok (.aload_n 0, 1) := by decide +kernel
theorem dX2_init_53 : decode cX2_init 53 = .ok (.iconst 0, 1) := by decide +kernel
theorem dX2_init_54 : decode cX2_init 54 = .ok (.putfield 31, 3) := by decide +kernel
theorem dX2_init_57 : decode cX2_init 57 = .ok (.aload_n 0, 1) := by decide +kernel
theorem dX2_init_58 : decode cX2_init 58 = .ok (.iconst 0, 1) := by decide +kernel
theorem dX2_init_59 : decode cX2_init 59 = .ok (.putfield 35, 3) := by decide +kernel
theorem dX2_init_62 : decode cX2_init 62 = .ok (.return_, 1) := by decide +kernel
theorem dX3_copy_0 : decode cX3_copy 0 = .ok (.aload_n 1, 1) := by decide +kernel
theorem dX3_copy_1 : decode cX3_copy 1 = .ok (.getfield 9, 3) := by decide +kernel
theorem dX3_copy_4 : decode cX3_copy 4 = .ok (.iconst 0, 1) := by decide +kernel
theorem dX3_copy_5 : decode cX3_copy 5 = .ok (.aload_n 0, 1) := by decide +kernel
theorem dX3_copy_6 : decode cX3_copy 6 = .ok (.getfield 9, 3) := by decide +kernel
theorem dX3_copy_9 : decode cX3_copy 9 = .ok (.iconst 0, 1) := by decide +kernel
theorem dX3_copy_10 : decode cX3_copy 10 = .ok (.bipush 9, 2) := by decide +kernel
theorem dX3_copy_12 : decode cX3_copy 12 = .ok (.invokestatic 19, 3) := by decide +kernel
theorem dX3_copy_15 : decode cX3_copy 15 = .ok (.aload_n 0, 1) := by decide +kernel
theorem dX3_copy_16 : decode cX3_copy 16 = .ok (.aload_n 1, 1) := by decide +kernel
theorem dX3_copy_17 : decode cX3_copy 17 = .ok (.getfield 15, 3) := by decide +kernel
theorem dX3_copy_20 : decode cX3_copy 20 = .ok (.putfield 15, 3) := by decide +kernel
theorem dX3_copy_23 : decode cX3_copy 23 = .ok (.return_, 1) := by decide +kernel
theorem dX3_houseAt_0 : decode cX3_houseAt 0 = .ok (.iload_n 1, 1) := by decide +kernel
theorem dX3_houseAt_1 : decode cX3_houseAt 1 = .ok (.ifCond .lt 20, 3) := by decide +kernel
theorem dX3_houseAt_4 : decode cX3_houseAt 4 = .ok (.iload_n 1, 1) := by decide +kernel
theorem dX3_houseAt_5 : decode cX3_houseAt 5 = .ok (.aload_n 0, 1) := by decide +kernel
theorem dX3_houseAt_6 : decode cX3_houseAt 6 = .ok (.getfield 15, 3) := by decide +kernel
theorem dX3_houseAt_9 : decode cX3_houseAt 9 = .ok (.if_icmp .ge 12, 3) := by decide +kernel
theorem dX3_houseAt_21 : decode cX3_houseAt 21 = .ok (.iconst (-1), 1) := by decide +kernel
theorem dX3_houseAt_22 : decode cX3_houseAt 22 = .ok (.ireturn, 1) := by decide +kernel
theorem dX3_init_0 : decode cX3_init 0 = .ok (.aload_n 0, 1) := by decide +kernel
theorem dX3_init_1 : decode cX3_init 1 = .ok (.invokespecial 3, 3) := by decide +kernel
theorem dX3_init_4 : decode cX3_init 4 = .ok (.aload_n 0, 1) := by decide +kernel
theorem dX3_init_5 : decode cX3_init 5 = .ok (.bipush 9, 2) := by decide +kernel
theorem dX3_init_7 : decode cX3_init 7 = .ok (.newarray .int, 2) := by decide +kernel
theorem dX3_init_9 : decode cX3_init 9 = .ok (.putfield 9, 3) := by decide +kernel
theorem dX3_init_12 : decode cX3_init 12 = .ok (.aload_n 0, 1) := by decide +kernel
theorem dX3_init_13 : decode cX3_init 13 = .ok (.iconst 0, 1) := by decide +kernel
theorem dX3_init_14 : decode cX3_init 14 = .ok (.putfield 15, 3) := by decide +kernel
theorem dX3_init_17 : decode cX3_init 17 = .ok (.return_, 1) := by decide +kernel
theorem dX4_clear_0 : decode cX4_clear 0 = .ok (.aload_n 0, 1) := by decide +kernel
