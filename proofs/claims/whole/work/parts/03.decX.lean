theorem dJ9_abs_0f7a4_0 : decode cJ9_abs_0f7a4 0 = .ok (.iload_n 0, 1) := by decide +kernel
theorem dJ9_abs_0f7a4_1 : decode cJ9_abs_0f7a4 1 = .ok (.ifCond .ge 8, 3) := by decide +kernel
theorem dJ9_abs_0f7a4_4 : decode cJ9_abs_0f7a4 4 = .ok (.iload_n 0, 1) := by decide +kernel
theorem dJ9_abs_0f7a4_5 : decode cJ9_abs_0f7a4 5 = .ok (.ineg, 1) := by decide +kernel
theorem dJ9_abs_0f7a4_6 : decode cJ9_abs_0f7a4 6 = .ok (.goto 4, 3) := by decide +kernel
theorem dJ9_abs_0f7a4_9 : decode cJ9_abs_0f7a4 9 = .ok (.iload_n 0, 1) := by decide +kernel
theorem dJ9_abs_0f7a4_10 : decode cJ9_abs_0f7a4 10 = .ok (.ireturn, 1) := by decide +kernel
theorem dJ9_max_7cf53_0 : decode cJ9_max_7cf53 0 = .ok (.iload_n 0, 1) := by decide +kernel
theorem dJ9_max_7cf53_1 : decode cJ9_max_7cf53 1 = .ok (.iload_n 1, 1) := by decide +kernel
theorem dJ9_max_7cf53_2 : decode cJ9_max_7cf53 2 = .ok (.if_icmp .lt 7, 3) := by decide +kernel
theorem dJ9_max_7cf53_5 : decode cJ9_max_7cf53 5 = .ok (.iload_n 0, 1) := by decide +kernel
theorem dJ9_max_7cf53_6 : decode cJ9_max_7cf53 6 = .ok (.goto 4, 3) := by decide +kernel
theorem dJ9_max_7cf53_9 : decode cJ9_max_7cf53 9 = .ok (.iload_n 1, 1) := by decide +kernel
theorem dJ9_max_7cf53_10 : decode cJ9_max_7cf53 10 = .ok (.ireturn, 1) := by decide +kernel
theorem dJ9_min_7cf53_0 : decode cJ9_min_7cf53 0 = .ok (.iload_n 0, 1) := by decide +kernel
theorem dJ9_min_7cf53_1 : decode cJ9_min_7cf53 1 = .ok (.iload_n 1, 1) := by decide +kernel
theorem dJ9_min_7cf53_2 : decode cJ9_min_7cf53 2 = .ok (.if_icmp .gt 7, 3) := by decide +kernel
theorem dJ9_min_7cf53_5 : decode cJ9_min_7cf53 5 = .ok (.iload_n 0, 1) := by decide +kernel
theorem dJ9_min_7cf53_6 : decode cJ9_min_7cf53 6 = .ok (.goto 4, 3) := by decide +kernel
theorem dJ9_min_7cf53_9 : decode cJ9_min_7cf53 9 = .ok (.iload_n 1, 1) := by decide +kernel
theorem dJ9_min_7cf53_10 : decode cJ9_min_7cf53 10 = .ok (.ireturn, 1) := by decide +kernel
theorem dJ0_length_8abf5_0 : decode cJ0_length_8abf5 0 = .ok (.aload_n 0, 1) := by decide +kernel
theorem dJ0_length_8abf5_1 : decode cJ0_length_8abf5 1 = .ok (.getfield 9, 3) := by decide +kernel
theorem dJ0_length_8abf5_4 : decode cJ0_length_8abf5 4 = .ok (.arraylength, 1) := by decide +kernel
theorem dJ0_length_8abf5_5 : decode cJ0_length_8abf5 5 = .ok (.aload_n 0, 1) := by decide +kernel
theorem dJ0_length_8abf5_6 : decode cJ0_length_8abf5 6 = .ok (.invokevirtual 335, 3) := by decide +kernel
theorem dJ0_length_8abf5_9 : decode cJ0_length_8abf5 9 = .ok (.ishr, 1) := by decide +kernel
theorem dJ0_length_8abf5_10 : decode cJ0_length_8abf5 10 = .ok (.ireturn, 1) := by decide +kernel
theorem dJ0_charAt_5068e_0 : decode cJ0_charAt_5068e 0 = .ok (.aload_n 0, 1) := by decide +kernel
theorem dJ0_charAt_5068e_1 : decode cJ0_charAt_5068e 1 = .ok (.invokevirtual 492, 3) := by decide +kernel
theorem dJ0_charAt_5068e_4 : decode cJ0_charAt_5068e 4 = .ok (.ifCond .eq 12, 3) := by decide +kernel
theorem dJ0_charAt_5068e_7 : decode cJ0_charAt_5068e 7 = .ok (.aload_n 0, 1) := by decide +kernel
theorem dJ0_charAt_5068e_8 : decode cJ0_charAt_5068e 8 = .ok (.getfield 9, 3) := by decide +kernel
theorem dJ0_charAt_5068e_11 : decode cJ0_charAt_5068e 11 = .ok (.iload_n 1, 1) := by decide +kernel
theorem dJ0_charAt_5068e_12 : decode cJ0_charAt_5068e 12 = .ok (.invokestatic 495, 3) := by decide +kernel
theorem dJ0_charAt_5068e_15 : decode cJ0_charAt_5068e 15 = .ok (.ireturn, 1) := by decide +kernel
theorem dJ0_charAt_5068e_16 : decode cJ0_charAt_5068e 16 = .ok (.aload_n 0, 1) := by decide +kernel
theorem dJ0_charAt_5068e_17 : decode cJ0_charAt_5068e 17 = .ok (.getfield 9, 3) := by decide +kernel
theorem dJ0_charAt_5068e_20 : decode cJ0_charAt_5068e 20 = .ok (.iload_n 1, 1) := by decide +kernel
theorem dJ0_charAt_5068e_21 : decode cJ0_charAt_5068e 21 = .ok (.invokestatic 498, 3) := by decide +kernel
theorem dJ0_charAt_5068e_24 : decode cJ0_charAt_5068e 24 = .ok (.ireturn, 1) := by decide +kernel
theorem dJ0_coder_7d493_0 : decode cJ0_coder_7d493 0 = .ok (.getstatic 38, 3) := by decide +kernel
theorem dJ0_coder_7d493_3 : decode cJ0_coder_7d493 3 = .ok (.ifCond .eq 10, 3) := by decide +kernel
theorem dJ0_coder_7d493_6 : decode cJ0_coder_7d493 6 = .ok (.aload_n 0, 1) := by decide +kernel
theorem dJ0_coder_7d493_7 : decode cJ0_coder_7d493 7 = .ok (.getfield 15, 3) := by decide +kernel
theorem dJ0_coder_7d493_10 : decode cJ0_coder_7d493 10 = .ok (.goto 4, 3) := by decide +kernel
theorem dJ0_coder_7d493_13 : decode cJ0_coder_7d493 13 = .ok (.iconst 1, 1) := by decide +kernel
theorem dJ0_coder_7d493_14 : decode cJ0_coder_7d493 14 = .ok (.ireturn, 1) := by decide +kernel
theorem dJ0_isLatin1_aae02_0 : decode cJ0_isLatin1_aae02 0 = .ok (.getstatic 38, 3) := by decide +kernel
theorem dJ0_isLatin1_aae02_3 : decode cJ0_isLatin1_aae02 3 = .ok (.ifCond .eq 14, 3) := by decide +kernel
theorem dJ0_isLatin1_aae02_6 : decode cJ0_isLatin1_aae02 6 = .ok (.aload_n 0, 1) := by decide +kernel
theorem dJ0_isLatin1_aae02_7 : decode cJ0_isLatin1_aae02 7 = .ok (.getfield 15, 3) := by decide +kernel
theorem dJ0_isLatin1_aae02_10 : decode cJ0_isLatin1_aae02 10 = .ok (.ifCond .ne 7, 3) := by decide +kernel
theorem dJ0_isLatin1_aae02_13 : decode cJ0_isLatin1_aae02 13 = .ok (.iconst 1, 1) := by decide +kernel
theorem dJ0_isLatin1_aae02_14 : decode cJ0_isLatin1_aae02 14 = .ok (.goto 4, 3) := by decide +kernel
theorem dJ0_isLatin1_aae02_17 : decode cJ0_isLatin1_aae02 17 = .ok (.iconst 0, 1) := by decide +kernel
theorem dJ0_isLatin1_aae02_18 : decode cJ0_isLatin1_aae02 18 = .ok (.ireturn, 1) := by decide +kernel
theorem dJ0_checkIndex_df160_0 : decode cJ0_checkIndex_df160 0 = .ok (.iload_n 0, 1) := by decide +kernel
theorem dJ0_checkIndex_df160_1 : decode cJ0_checkIndex_df160 1 = .ok (.iload_n 1, 1) := by decide +kernel
theorem dJ0_checkIndex_df160_2 : decode cJ0_checkIndex_df160 2 = .ok (.getstatic 1053, 3) := by decide +kernel
theorem dJ0_checkIndex_df160_5 : decode cJ0_checkIndex_df160 5 = .ok (.invokestatic 1059, 3) := by decide +kernel
theorem dJ0_checkIndex_df160_8 : decode cJ0_checkIndex_df160 8 = .ok (.pop, 1) := by decide +kernel
theorem dJ0_checkIndex_df160_9 : decode cJ0_checkIndex_df160 9 = .ok (.return_, 1) := by decide +kernel
theorem dJ1_charAt_3b067_0 : decode cJ1_charAt_3b067 0 = .ok (.iload_n 1, 1) := by decide +kernel
theorem dJ1_charAt_3b067_1 : decode cJ1_charAt_3b067 1 = .ok (.aload_n 0, 1) := by decide +kernel
theorem dJ1_charAt_3b067_2 : decode cJ1_charAt_3b067 2 = .ok (.arraylength, 1) := by decide +kernel
theorem dJ1_charAt_3b067_3 : decode cJ1_charAt_3b067 3 = .ok (.invokestatic 9, 3) := by decide +kernel
theorem dJ1_charAt_3b067_6 : decode cJ1_charAt_3b067 6 = .ok (.aload_n 0, 1) := by decide +kernel
theorem dJ1_charAt_3b067_7 : decode cJ1_charAt_3b067 7 = .ok (.iload_n 1, 1) := by decide +kernel
theorem dJ1_charAt_3b067_8 : decode cJ1_charAt_3b067 8 = .ok (.baload, 1) := by decide +kernel
theorem dJ1_charAt_3b067_9 : decode cJ1_charAt_3b067 9 = .ok (.sipush 255, 3) := by decide +kernel
theorem dJ1_charAt_3b067_12 : decode cJ1_charAt_3b067 12 = .ok (.iand, 1) := by decide +kernel
theorem dJ1_charAt_3b067_13 : decode cJ1_charAt_3b067 13 = .ok (.i2c, 1) := by decide +kernel
theorem dJ1_charAt_3b067_14 : decode cJ1_charAt_3b067 14 = .ok (.ireturn, 1) := by decide +kernel
theorem dJ2_getChar_3b067_0 : decode cJ2_getChar_3b067 0 = .ok (.getstatic 44, 3) := by decide +kernel
theorem dJ2_getChar_3b067_3 : decode cJ2_getChar_3b067 3 = .ok (.ifCond .ne 25, 3) := by decide +kernel
theorem dJ2_getChar_3b067_6 : decode cJ2_getChar_3b067 6 = .ok (.iload_n 1, 1) := by decide +kernel
theorem dJ2_getChar_3b067_7 : decode cJ2_getChar_3b067 7 = .ok (.ifCond .lt 11, 3) := by decide +kernel
theorem dJ2_getChar_3b067_10 : decode cJ2_getChar_3b067 10 = .ok (.iload_n 1, 1) := by decide +kernel
theorem dJ2_getChar_3b067_11 : decode cJ2_getChar_3b067 11 = .ok (.aload_n 0, 1) := by decide +kernel
theorem dJ2_getChar_3b067_12 : decode cJ2_getChar_3b067 12 = .ok (.invokestatic 48, 3) := by decide +kernel
theorem dJ2_getChar_3b067_15 : decode cJ2_getChar_3b067 15 = .ok (.if_icmp .lt 13, 3) := by decide +kernel
theorem dJ2_getChar_3b067_18 : decode cJ2_getChar_3b067 18 = .ok (.new 52, 3) := by decide +kernel
theorem dJ2_getChar_3b067_21 : decode cJ2_getChar_3b067 21 = .ok (.dup, 1) := by decide +kernel
theorem dJ2_getChar_3b067_22 : decode cJ2_getChar_3b067 22 = .ok (.ldc 54, 2) := by decide +kernel
theorem dJ2_getChar_3b067_24 : decode cJ2_getChar_3b067 24 = .ok (.invokespecial 56, 3) := by decide +kernel
theorem dJ2_getChar_3b067_27 : decode cJ2_getChar_3b067 27 = .ok (.athrow, 1) := by decide +kernel
theorem dJ2_getChar_3b067_28 : decode cJ2_getChar_3b067 28 = .ok (.iload_n 1, 1) := by decide +kernel
theorem dJ2_getChar_3b067_29 : decode cJ2_getChar_3b067 29 = .ok (.iconst 1, 1) := by decide +kernel
theorem dJ2_getChar_3b067_30 : decode cJ2_getChar_3b067 30 = .ok (.ishl, 1) := by decide +kernel
theorem dJ2_getChar_3b067_31 : decode cJ2_getChar_3b067 31 = .ok (.istore_n 1, 1) := by decide +kernel
theorem dJ2_getChar_3b067_32 : decode cJ2_getChar_3b067 32 = .ok (.aload_n 0, 1) := by decide +kernel
theorem dJ2_getChar_3b067_33 : decode cJ2_getChar_3b067 33 = .ok (.iload_n 1, 1) := by decide +kernel
theorem dJ2_getChar_3b067_34 : decode cJ2_getChar_3b067 34 = .ok (.iinc 1 1, 3) := by decide +kernel
theorem dJ2_getChar_3b067_37 : decode cJ2_getChar_3b067 37 = .ok (.baload, 1) := by decide +kernel
theorem dJ2_getChar_3b067_38 : decode cJ2_getChar_3b067 38 = .ok (.sipush 255, 3) := by decide +kernel
theorem dJ2_getChar_3b067_41 : decode cJ2_getChar_3b067 41 = .ok (.iand, 1) := by decide +kernel
theorem dJ2_getChar_3b067_42 : decode cJ2_getChar_3b067 42 = .ok (.getstatic 59, 3) := by decide +kernel
theorem dJ2_getChar_3b067_45 : decode cJ2_getChar_3b067 45 = .ok (.ishl, 1) := by decide +kernel
theorem dJ2_getChar_3b067_46 : decode cJ2_getChar_3b067 46 = .ok (.aload_n 0, 1) := by decide +kernel
theorem dJ2_getChar_3b067_47 : decode cJ2_getChar_3b067 47 = .ok (.iload_n 1, 1) := by decide +kernel
theorem dJ2_getChar_3b067_48 : decode cJ2_getChar_3b067 48 = .ok (.baload, 1) := by decide +kernel
theorem dJ2_getChar_3b067_49 : decode cJ2_getChar_3b067 49 = .ok (.sipush 255, 3) := by decide +kernel
theorem dJ2_getChar_3b067_52 : decode cJ2_getChar_3b067 52 = .ok (.iand, 1) := by decide +kernel
theorem dJ2_getChar_3b067_53 : decode cJ2_getChar_3b067 53 = .ok (.getstatic 63, 3) := by decide +kernel
theorem dJ2_getChar_3b067_56 : decode cJ2_getChar_3b067 56 = .ok (.ishl, 1) := by decide +kernel
theorem dJ2_getChar_3b067_57 : decode cJ2_getChar_3b067 57 = .ok (.ior, 1) := by decide +kernel
theorem dJ2_getChar_3b067_58 : decode cJ2_getChar_3b067 58 = .ok (.i2c, 1) := by decide +kernel
theorem dJ2_getChar_3b067_59 : decode cJ2_getChar_3b067 59 = .ok (.ireturn, 1) := by decide +kernel
theorem dJ2_length_9d52b_0 : decode cJ2_length_9d52b 0 = .ok (.aload_n 0, 1) := by decide +kernel
theorem dJ2_length_9d52b_1 : decode cJ2_length_9d52b 1 = .ok (.arraylength, 1) := by decide +kernel
theorem dJ2_length_9d52b_2 : decode cJ2_length_9d52b 2 = .ok (.iconst 1, 1) := by decide +kernel
theorem dJ2_length_9d52b_3 : decode cJ2_length_9d52b 3 = .ok (.ishr, 1) := by decide +kernel
theorem dJ2_length_9d52b_4 : decode cJ2_length_9d52b 4 = .ok (.ireturn, 1) := by decide +kernel
theorem dJ2_charAt_3b067_0 : decode cJ2_charAt_3b067 0 = .ok (.iload_n 1, 1) := by decide +kernel
theorem dJ2_charAt_3b067_1 : decode cJ2_charAt_3b067 1 = .ok (.aload_n 0, 1) := by decide +kernel
theorem dJ2_charAt_3b067_2 : decode cJ2_charAt_3b067 2 = .ok (.invokestatic 67, 3) := by decide +kernel
theorem dJ2_charAt_3b067_5 : decode cJ2_charAt_3b067 5 = .ok (.aload_n 0, 1) := by decide +kernel
theorem dJ2_charAt_3b067_6 : decode cJ2_charAt_3b067 6 = .ok (.iload_n 1, 1) := by decide +kernel
theorem dJ2_charAt_3b067_7 : decode cJ2_charAt_3b067 7 = .ok (.invokestatic 71, 3) := by decide +kernel
theorem dJ2_charAt_3b067_10 : decode cJ2_charAt_3b067 10 = .ok (.ireturn, 1) := by decide +kernel
theorem dJ2_checkIndex_2214a_0 : decode cJ2_checkIndex_2214a 0 = .ok (.iload_n 0, 1) := by decide +kernel
theorem dJ2_checkIndex_2214a_1 : decode cJ2_checkIndex_2214a 1 = .ok (.aload_n 1, 1) := by decide +kernel
theorem dJ2_checkIndex_2214a_2 : decode cJ2_checkIndex_2214a 2 = .ok (.invokestatic 48, 3) := by decide +kernel
theorem dJ2_checkIndex_2214a_5 : decode cJ2_checkIndex_2214a 5 = .ok (.invokestatic 414, 3) := by decide +kernel
theorem dJ2_checkIndex_2214a_8 : decode cJ2_checkIndex_2214a 8 = .ok (.return_, 1) := by decide +kernel
theorem dJ3_checkIndex_8e157_0 : decode cJ3_checkIndex_8e157 0 = .ok (.iload_n 0, 1) := by decide +kernel
theorem dJ3_checkIndex_8e157_1 : decode cJ3_checkIndex_8e157 1 = .ok (.ifCond .lt 8, 3) := by decide +kernel
theorem dJ3_checkIndex_8e157_4 : decode cJ3_checkIndex_8e157 4 = .ok (.iload_n 0, 1) := by decide +kernel
theorem dJ3_checkIndex_8e157_5 : decode cJ3_checkIndex_8e157 5 = .ok (.iload_n 1, 1) := by decide +kernel
theorem dJ3_checkIndex_8e157_6 : decode cJ3_checkIndex_8e157 6 = .ok (.if_icmp .lt 10, 3) := by decide +kernel
theorem dJ3_checkIndex_8e157_9 : decode cJ3_checkIndex_8e157 9 = .ok (.aload_n 2, 1) := by decide +kernel
theorem dJ3_checkIndex_8e157_10 : decode cJ3_checkIndex_8e157 10 = .ok (.iload_n 0, 1) := by decide +kernel
theorem dJ3_checkIndex_8e157_11 : decode cJ3_checkIndex_8e157 11 = .ok (.iload_n 1, 1) := by decide +kernel
theorem dJ3_checkIndex_8e157_12 : decode cJ3_checkIndex_8e157 12 = .ok (.invokestatic 95, 3) := by decide +kernel
theorem dJ3_checkIndex_8e157_15 : decode cJ3_checkIndex_8e157 15 = .ok (.athrow, 1) := by decide +kernel
theorem dJ3_checkIndex_8e157_16 : decode cJ3_checkIndex_8e157 16 = .ok (.iload_n 0, 1) := by decide +kernel
theorem dJ3_checkIndex_8e157_17 : decode cJ3_checkIndex_8e157 17 = .ok (.ireturn, 1) := by decide +kernel
theorem dX0_init_0 : decode cX0_init 0 = .ok (.aload_n 0, 1) := by decide +kernel
theorem dX0_init_1 : decode cX0_init 1 = .ok (.invokespecial 5, 3) := by decide +kernel
theorem dX0_init_4 : decode cX0_init 4 = .ok (.aload_n 0, 1) := by decide +kernel
theorem dX0_init_5 : decode cX0_init 5 = .ok (.bipush 38, 2) := by decide +kernel
theorem dX0_init_7 : decode cX0_init 7 = .ok (.newarray .int, 2) := by decide +kernel
theorem dX0_init_9 : decode cX0_init 9 = .ok (.putfield 11, 3) := by decide +kernel
theorem dX0_init_12 : decode cX0_init 12 = .ok (.aload_n 0, 1) := by decide +kernel
theorem dX0_init_13 : decode cX0_init 13 = .ok (.bipush 38, 2) := by decide +kernel
theorem dX0_init_15 : decode cX0_init 15 = .ok (.newarray .int, 2) := by decide +kernel
theorem dX0_init_17 : decode cX0_init 17 = .ok (.putfield 15, 3) := by decide +kernel
theorem dX0_init_20 : decode cX0_init 20 = .ok (.aload_n 0, 1) := by decide +kernel
theorem dX0_init_21 : decode cX0_init 21 = .ok (.bipush 38, 2) := by decide +kernel
theorem dX0_init_23 : decode cX0_init 23 = .ok (.newarray .int, 2) := by decide +kernel
theorem dX0_init_25 : decode cX0_init 25 = .ok (.putfield 18, 3) := by decide +kernel
theorem dX0_init_28 : decode cX0_init 28 = .ok (.aload_n 0, 1) := by decide +kernel
theorem dX0_init_29 : decode cX0_init 29 = .ok (.bipush 38, 2) := by decide +kernel
theorem dX0_init_31 : decode cX0_init 31 = .ok (.newarray .int, 2) := by decide +kernel
theorem dX0_init_33 : decode cX0_init 33 = .ok (.putfield 21, 3) := by decide +kernel
theorem dX0_init_36 : decode cX0_init 36 = .ok (.return_, 1) := by decide +kernel
theorem dX0_read_0 : decode cX0_read 0 = .ok (.aload_n 0, 1) := by decide +kernel
theorem dX0_read_1 : decode cX0_read 1 = .ok (.iconst 0, 1) := by decide +kernel
theorem dX0_read_2 : decode cX0_read 2 = .ok (.putfield 24, 3) := by decide +kernel
theorem dX0_read_5 : decode cX0_read 5 = .ok (.aload_n 0, 1) := by decide +kernel
theorem dX0_read_6 : decode cX0_read 6 = .ok (.aload_n 1, 1) := by decide +kernel
theorem dX0_read_7 : decode cX0_read 7 = .ok (.iload_n 2, 1) := by decide +kernel
theorem dX0_read_8 : decode cX0_read 8 = .ok (.iconst 0, 1) := by decide +kernel
theorem dX0_read_9 : decode cX0_read 9 = .ok (.invokevirtual 28, 3) := by decide +kernel
theorem dX0_read_12 : decode cX0_read 12 = .ok (.aload_n 1, 1) := by decide +kernel
theorem dX0_read_13 : decode cX0_read 13 = .ok (.invokevirtual 32, 3) := by decide +kernel
theorem dX0_read_16 : decode cX0_read 16 = .ok (.ireturn, 1) := by decide +kernel
theorem dX0_readSteps_0 : decode cX0_readSteps 0 = .ok (.iconst 0, 1) := by decide +kernel
theorem dX0_readSteps_1 : decode cX0_readSteps 1 = .ok (.istore 4, 2) := by decide +kernel
theorem dX0_readSteps_3 : decode cX0_readSteps 3 = .ok (.iload 4, 2) := by decide +kernel
theorem dX0_readSteps_5 : decode cX0_readSteps 5 = .ok (.bipush 38, 2) := by decide +kernel
theorem dX0_readSteps_7 : decode cX0_readSteps 7 = .ok (.if_icmp .ge 42, 3) := by decide +kernel
theorem dX0_readSteps_10 : decode cX0_readSteps 10 = .ok (.aload_n 1, 1) := by decide +kernel
theorem dX0_readSteps_11 : decode cX0_readSteps 11 = .ok (.invokevirtual 38, 3) := by decide +kernel
theorem dX0_readSteps_14 : decode cX0_readSteps 14 = .ok (.istore 5, 2) := by decide +kernel
theorem dX0_readSteps_16 : decode cX0_readSteps 16 = .ok (.iload 5, 2) := by decide +kernel
theorem dX0_readSteps_18 : decode cX0_readSteps 18 = .ok (.iconst (-1), 1) := by decide +kernel
theorem dX0_readSteps_19 : decode cX0_readSteps 19 = .ok (.if_icmp .eq 10, 3) := by decide +kernel
theorem dX0_readSteps_22 : decode cX0_readSteps 22 = .ok (.iload 5, 2) := by decide +kernel
theorem dX0_readSteps_24 : decode cX0_readSteps 24 = .ok (.bipush 93, 2) := by decide +kernel
theorem dX0_readSteps_26 : decode cX0_readSteps 26 = .ok (.if_icmp .ne 4, 3) := by decide +kernel
theorem dX0_readSteps_29 : decode cX0_readSteps 29 = .ok (.return_, 1) := by decide +kernel
theorem dX0_readSteps_30 : decode cX0_readSteps 30 = .ok (.aload_n 0, 1) := by decide +kernel
theorem dX0_readSteps_31 : decode cX0_readSteps 31 = .ok (.aload_n 1, 1) := by decide +kernel
theorem dX0_readSteps_32 : decode cX0_readSteps 32 = .ok (.iload_n 2, 1) := by decide +kernel
theorem dX0_readSteps_33 : decode cX0_readSteps 33 = .ok (.iload_n 3, 1) := by decide +kernel
theorem dX0_readSteps_34 : decode cX0_readSteps 34 = .ok (.invokevirtual 42, 3) := by decide +kernel
theorem dX0_readSteps_37 : decode cX0_readSteps 37 = .ok (.aload_n 1, 1) := by decide +kernel
theorem dX0_readSteps_38 : decode cX0_readSteps 38 = .ok (.bipush 59, 2) := by decide +kernel
theorem dX0_readSteps_40 : decode cX0_readSteps 40 = .ok (.invokevirtual 45, 3) := by decide +kernel
theorem dX0_readSteps_43 : decode cX0_readSteps 43 = .ok (.iinc 4 1, 3) := by decide +kernel
theorem dX0_readSteps_46 : decode cX0_readSteps 46 = .ok (.goto (-43), 3) := by decide +kernel
theorem dX0_readSteps_49 : decode cX0_readSteps 49 = .ok (.return_, 1) := by decide +kernel
theorem dX0_readStep_0 : decode cX0_readStep 0 = .ok (.aload_n 1, 1) := by decide +kernel
theorem dX0_readStep_1 : decode cX0_readStep 1 = .ok (.getfield 49, 3) := by decide +kernel
theorem dX0_readStep_4 : decode cX0_readStep 4 = .ok (.istore 4, 2) := by decide +kernel
theorem dX0_readStep_6 : decode cX0_readStep 6 = .ok (.aload_n 1, 1) := by decide +kernel
theorem dX0_readStep_7 : decode cX0_readStep 7 = .ok (.ldc 52, 2) := by decide +kernel
theorem dX0_readStep_9 : decode cX0_readStep 9 = .ok (.invokevirtual 54, 3) := by decide +kernel
theorem dX0_readStep_12 : decode cX0_readStep 12 = .ok (.tableswitch 142 0 4 #[36, 65, 96, 119, 130], 36) := by decide +kernel
theorem dX0_readStep_48 : decode cX0_readStep 48 = .ok (.aload_n 0, 1) := by decide +kernel
theorem dX0_readStep_49 : decode cX0_readStep 49 = .ok (.iconst 0, 1) := by decide +kernel
theorem dX0_readStep_50 : decode cX0_readStep 50 = .ok (.aload_n 1, 1) := by decide +kernel
theorem dX0_readStep_51 : decode cX0_readStep 51 = .ok (.iconst 0, 1) := by decide +kernel
theorem dX0_readStep_52 : decode cX0_readStep 52 = .ok (.iload_n 2, 1) := by decide +kernel
theorem dX0_readStep_53 : decode cX0_readStep 53 = .ok (.iconst 1, 1) := by decide +kernel
theorem dX0_readStep_54 : decode cX0_readStep 54 = .ok (.isub, 1) := by decide +kernel
theorem dX0_readStep_55 : decode cX0_readStep 55 = .ok (.invokevirtual 58, 3) := by decide +kernel
theorem dX0_readStep_58 : decode cX0_readStep 58 = .ok (.aload_n 1, 1) := by decide +kernel
theorem dX0_readStep_59 : decode cX0_readStep 59 = .ok (.iconst 0, 1) := by decide +kernel
theorem dX0_readStep_60 : decode cX0_readStep 60 = .ok (.bipush 60, 2) := by decide +kernel
theorem dX0_readStep_62 : decode cX0_readStep 62 = .ok (.invokevirtual 58, 3) := by decide +kernel
theorem dX0_readStep_65 : decode cX0_readStep 65 = .ok (.aload_n 1, 1) := by decide +kernel
theorem dX0_readStep_66 : decode cX0_readStep 66 = .ok (.iconst 0, 1) := by decide +kernel
theorem dX0_readStep_67 : decode cX0_readStep 67 = .ok (.iconst 2, 1) := by decide +kernel
theorem dX0_readStep_68 : decode cX0_readStep 68 = .ok (.invokevirtual 58, 3) := by decide +kernel
theorem dX0_readStep_71 : decode cX0_readStep 71 = .ok (.invokevirtual 62, 3) := by decide +kernel
theorem dX0_readStep_74 : decode cX0_readStep 74 = .ok (.goto 80, 3) := by decide +kernel
theorem dX0_readStep_77 : decode cX0_readStep 77 = .ok (.aload_n 0, 1) := by decide +kernel
theorem dX0_readStep_78 : decode cX0_readStep 78 = .ok (.iconst 1, 1) := by decide +kernel
theorem dX0_readStep_79 : decode cX0_readStep 79 = .ok (.aload_n 1, 1) := by decide +kernel
theorem dX0_readStep_80 : decode cX0_readStep 80 = .ok (.iconst 0, 1) := by decide +kernel
theorem dX0_readStep_81 : decode cX0_readStep 81 = .ok (.bipush 60, 2) := by decide +kernel
theorem dX0_readStep_83 : decode cX0_readStep 83 = .ok (.invokevirtual 58, 3) := by decide +kernel
theorem dX0_readStep_86 : decode cX0_readStep 86 = .ok (.aload_n 1, 1) := by decide +kernel
theorem dX0_readStep_87 : decode cX0_readStep 87 = .ok (.iconst 0, 1) := by decide +kernel
theorem dX0_readStep_88 : decode cX0_readStep 88 = .ok (.iload_n 2, 1) := by decide +kernel
theorem dX0_readStep_89 : decode cX0_readStep 89 = .ok (.iconst 1, 1) := by decide +kernel
theorem dX0_readStep_90 : decode cX0_readStep 90 = .ok (.isub, 1) := by decide +kernel
theorem dX0_readStep_91 : decode cX0_readStep 91 = .ok (.invokevirtual 58, 3) := by decide +kernel
theorem dX0_readStep_94 : decode cX0_readStep 94 = .ok (.aload_n 1, 1) := by decide +kernel
theorem dX0_readStep_95 : decode cX0_readStep 95 = .ok (.iconst 0, 1) := by decide +kernel
theorem dX0_readStep_96 : decode cX0_readStep 96 = .ok (.sipush 999, 3) := by decide +kernel
theorem dX0_readStep_99 : decode cX0_readStep 99 = .ok (.invokevirtual 58, 3) := by decide +kernel
theorem dX0_readStep_102 : decode cX0_readStep 102 = .ok (.invokevirtual 62, 3) := by decide +kernel
theorem dX0_readStep_105 : decode cX0_readStep 105 = .ok (.goto 49, 3) := by decide +kernel
theorem dX0_readStep_108 : decode cX0_readStep 108 = .ok (.aload_n 0, 1) := by decide +kernel
theorem dX0_readStep_109 : decode cX0_readStep 109 = .ok (.iconst 2, 1) := by decide +kernel
theorem dX0_readStep_110 : decode cX0_readStep 110 = .ok (.aload_n 1, 1) := by decide +kernel
theorem dX0_readStep_111 : decode cX0_readStep 111 = .ok (.iconst 0, 1) := by decide +kernel
theorem dX0_readStep_112 : decode cX0_readStep 112 = .ok (.bipush 60, 2) := by decide +kernel
theorem dX0_readStep_114 : decode cX0_readStep 114 = .ok (.invokevirtual 58, 3) := by decide +kernel
theorem dX0_readStep_117 : decode cX0_readStep 117 = .ok (.aload_n 1, 1) := by decide +kernel
theorem dX0_readStep_118 : decode cX0_readStep 118 = .ok (.iconst 0, 1) := by decide +kernel
theorem dX0_readStep_119 : decode cX0_readStep 119 = .ok (.bipush 40, 2) := by decide +kernel
theorem dX0_readStep_121 : decode cX0_readStep 121 = .ok (.invokevirtual 58, 3) := by decide +kernel
theorem dX0_readStep_124 : decode cX0_readStep 124 = .ok (.iconst 0, 1) := by decide +kernel
theorem dX0_readStep_125 : decode cX0_readStep 125 = .ok (.invokevirtual 62, 3) := by decide +kernel
theorem dX0_readStep_128 : decode cX0_readStep 128 = .ok (.goto 26, 3) := by decide +kernel
theorem dX0_readStep_131 : decode cX0_readStep 131 = .ok (.aload_n 0, 1) := by decide +kernel
theorem dX0_readStep_132 : decode cX0_readStep 132 = .ok (.iconst 3, 1) := by decide +kernel
theorem dX0_readStep_133 : decode cX0_readStep 133 = .ok (.iconst 0, 1) := by decide +kernel
theorem dX0_readStep_134 : decode cX0_readStep 134 = .ok (.iconst 0, 1) := by decide +kernel
theorem dX0_readStep_135 : decode cX0_readStep 135 = .ok (.iconst 0, 1) := by decide +kernel
theorem dX0_readStep_136 : decode cX0_readStep 136 = .ok (.invokevirtual 62, 3) := by decide +kernel
theorem dX0_readStep_139 : decode cX0_readStep 139 = .ok (.goto 15, 3) := by decide +kernel
theorem dX0_readStep_142 : decode cX0_readStep 142 = .ok (.aload_n 0, 1) := by decide +kernel
theorem dX0_readStep_143 : decode cX0_readStep 143 = .ok (.aload_n 1, 1) := by decide +kernel
theorem dX0_readStep_144 : decode cX0_readStep 144 = .ok (.iload_n 2, 1) := by decide +kernel
theorem dX0_readStep_145 : decode cX0_readStep 145 = .ok (.iload_n 3, 1) := by decide +kernel
theorem dX0_readStep_146 : decode cX0_readStep 146 = .ok (.iload 4, 2) := by decide +kernel
theorem dX0_readStep_148 : decode cX0_readStep 148 = .ok (.invokevirtual 66, 3) := by decide +kernel
theorem dX0_readStep_151 : decode cX0_readStep 151 = .ok (.goto 3, 3) := by decide +kernel
theorem dX0_readStep_154 : decode cX0_readStep 154 = .ok (.return_, 1) := by decide +kernel
theorem dX0_readAgain_0 : decode cX0_readAgain 0 = .ok (.iload_n 3, 1) := by decide +kernel
theorem dX0_readAgain_1 : decode cX0_readAgain 1 = .ok (.bipush 6, 2) := by decide +kernel
theorem dX0_readAgain_3 : decode cX0_readAgain 3 = .ok (.if_icmp .lt 11, 3) := by decide +kernel
theorem dX0_readAgain_6 : decode cX0_readAgain 6 = .ok (.aload_n 1, 1) := by decide +kernel
theorem dX0_readAgain_7 : decode cX0_readAgain 7 = .ok (.iconst 3, 1) := by decide +kernel
theorem dX0_readAgain_8 : decode cX0_readAgain 8 = .ok (.iload 4, 2) := by decide +kernel
theorem dX0_readAgain_10 : decode cX0_readAgain 10 = .ok (.invokevirtual 70, 3) := by decide +kernel
theorem dX0_readAgain_13 : decode cX0_readAgain 13 = .ok (.return_, 1) := by decide +kernel
theorem dX0_readAgain_14 : decode cX0_readAgain 14 = .ok (.aload_n 1, 1) := by decide +kernel
theorem dX0_readAgain_15 : decode cX0_readAgain 15 = .ok (.iconst 0, 1) := by decide +kernel
theorem dX0_readAgain_16 : decode cX0_readAgain 16 = .ok (.bipush 60, 2) := by decide +kernel
theorem dX0_readAgain_18 : decode cX0_readAgain 18 = .ok (.invokevirtual 58, 3) := by decide +kernel
theorem dX0_readAgain_21 : decode cX0_readAgain 21 = .ok (.istore 5, 2) := by decide +kernel
theorem dX0_readAgain_23 : decode cX0_readAgain 23 = .ok (.aload_n 1, 1) := by decide +kernel
theorem dX0_readAgain_24 : decode cX0_readAgain 24 = .ok (.bipush 91, 2) := by decide +kernel
theorem dX0_readAgain_26 : decode cX0_readAgain 26 = .ok (.invokevirtual 45, 3) := by decide +kernel
theorem dX0_readAgain_29 : decode cX0_readAgain 29 = .ok (.aload_n 0, 1) := by decide +kernel
theorem dX0_readAgain_30 : decode cX0_readAgain 30 = .ok (.getfield 24, 3) := by decide +kernel
theorem dX0_readAgain_33 : decode cX0_readAgain 33 = .ok (.istore 6, 2) := by decide +kernel
theorem dX0_readAgain_35 : decode cX0_readAgain 35 = .ok (.aload_n 0, 1) := by decide +kernel
theorem dX0_readAgain_36 : decode cX0_readAgain 36 = .ok (.iconst 4, 1) := by decide +kernel
theorem dX0_readAgain_37 : decode cX0_readAgain 37 = .ok (.iload 5, 2) := by decide +kernel
theorem dX0_readAgain_39 : decode cX0_readAgain 39 = .ok (.iconst 0, 1) := by decide +kernel
theorem dX0_readAgain_40 : decode cX0_readAgain 40 = .ok (.iconst 0, 1) := by decide +kernel
theorem dX0_readAgain_41 : decode cX0_readAgain 41 = .ok (.invokevirtual 62, 3) := by decide +kernel
theorem dX0_readAgain_44 : decode cX0_readAgain 44 = .ok (.aload_n 0, 1) := by decide +kernel
theorem dX0_readAgain_45 : decode cX0_readAgain 45 = .ok (.aload_n 1, 1) := by decide +kernel
theorem dX0_readAgain_46 : decode cX0_readAgain 46 = .ok (.iload_n 2, 1) := by decide +kernel
theorem dX0_readAgain_47 : decode cX0_readAgain 47 = .ok (.iload_n 3, 1) := by decide +kernel
theorem dX0_readAgain_48 : decode cX0_readAgain 48 = .ok (.iconst 1, 1) := by decide +kernel
theorem dX0_readAgain_49 : decode cX0_readAgain 49 = .ok (.iadd, 1) := by decide +kernel
theorem dX0_readAgain_50 : decode cX0_readAgain 50 = .ok (.invokevirtual 28, 3) := by decide +kernel
theorem dX0_readAgain_53 : decode cX0_readAgain 53 = .ok (.iload 6, 2) := by decide +kernel
theorem dX0_readAgain_55 : decode cX0_readAgain 55 = .ok (.bipush 38, 2) := by decide +kernel
theorem dX0_readAgain_57 : decode cX0_readAgain 57 = .ok (.if_icmp .ge 14, 3) := by decide +kernel
theorem dX0_readAgain_60 : decode cX0_readAgain 60 = .ok (.aload_n 0, 1) := by decide +kernel
theorem dX0_readAgain_61 : decode cX0_readAgain 61 = .ok (.getfield 18, 3) := by decide +kernel
theorem dX0_readAgain_64 : decode cX0_readAgain 64 = .ok (.iload 6, 2) := by decide +kernel
theorem dX0_readAgain_66 : decode cX0_readAgain 66 = .ok (.aload_n 0, 1) := by decide +kernel
theorem dX0_readAgain_67 : decode cX0_readAgain 67 = .ok (.getfield 24, 3) := by decide +kernel
theorem dX0_readAgain_70 : decode cX0_readAgain 70 = .ok (.iastore, 1) := by decide +kernel
theorem dX0_readAgain_71 : decode cX0_readAgain 71 = .ok (.aload_n 1, 1) := by decide +kernel
theorem dX0_readAgain_72 : decode cX0_readAgain 72 = .ok (.bipush 93, 2) := by decide +kernel
theorem dX0_readAgain_74 : decode cX0_readAgain 74 = .ok (.invokevirtual 45, 3) := by decide +kernel
theorem dX0_readAgain_77 : decode cX0_readAgain 77 = .ok (.return_, 1) := by decide +kernel
theorem dX0_add_0 : decode cX0_add 0 = .ok (.aload_n 0, 1) := by decide +kernel
theorem dX0_add_1 : decode cX0_add 1 = .ok (.getfield 24, 3) := by decide +kernel
theorem dX0_add_4 : decode cX0_add 4 = .ok (.bipush 38, 2) := by decide +kernel
theorem dX0_add_6 : decode cX0_add 6 = .ok (.if_icmp .ge 54, 3) := by decide +kernel
theorem dX0_add_9 : decode cX0_add 9 = .ok (.aload_n 0, 1) := by decide +kernel
theorem dX0_add_10 : decode cX0_add 10 = .ok (.getfield 11, 3) := by decide +kernel
theorem dX0_add_13 : decode cX0_add 13 = .ok (.aload_n 0, 1) := by decide +kernel
theorem dX0_add_14 : decode cX0_add 14 = .ok (.getfield 24, 3) := by decide +kernel
theorem dX0_add_17 : decode cX0_add 17 = .ok (.iload_n 1, 1) := by decide +kernel
theorem dX0_add_18 : decode cX0_add 18 = .ok (.iastore, 1) := by decide +kernel
theorem dX0_add_19 : decode cX0_add 19 = .ok (.aload_n 0, 1) := by decide +kernel
theorem dX0_add_20 : decode cX0_add 20 = .ok (.getfield 15, 3) := by decide +kernel
theorem dX0_add_23 : decode cX0_add 23 = .ok (.aload_n 0, 1) := by decide +kernel
theorem dX0_add_24 : decode cX0_add 24 = .ok (.getfield 24, 3) := by decide +kernel
theorem dX0_add_27 : decode cX0_add 27 = .ok (.iload_n 2, 1) := by decide +kernel
theorem dX0_add_28 : decode cX0_add 28 = .ok (.iastore, 1) := by decide +kernel
theorem dX0_add_29 : decode cX0_add 29 = .ok (.aload_n 0, 1) := by decide +kernel
theorem dX0_add_30 : decode cX0_add 30 = .ok (.getfield 18, 3) := by decide +kernel
theorem dX0_add_33 : decode cX0_add 33 = .ok (.aload_n 0, 1) := by decide +kernel
theorem dX0_add_34 : decode cX0_add 34 = .ok (.getfield 24, 3) := by decide +kernel
theorem dX0_add_37 : decode cX0_add 37 = .ok (.iload_n 3, 1) := by decide +kernel
theorem dX0_add_38 : decode cX0_add 38 = .ok (.iastore, 1) := by decide +kernel
theorem dX0_add_39 : decode cX0_add 39 = .ok (.aload_n 0, 1) := by decide +kernel
theorem dX0_add_40 : decode cX0_add 40 = .ok (.getfield 21, 3) := by decide +kernel
theorem dX0_add_43 : decode cX0_add 43 = .ok (.aload_n 0, 1) := by decide +kernel
theorem dX0_add_44 : decode cX0_add 44 = .ok (.getfield 24, 3) := by decide +kernel
theorem dX0_add_47 : decode cX0_add 47 = .ok (.iload 4, 2) := by decide +kernel
theorem dX0_add_49 : decode cX0_add 49 = .ok (.iastore, 1) := by decide +kernel
theorem dX0_add_50 : decode cX0_add 50 = .ok (.aload_n 0, 1) := by decide +kernel
theorem dX0_add_51 : decode cX0_add 51 = .ok (.dup, 1) := by decide +kernel
theorem dX0_add_52 : decode cX0_add 52 = .ok (.getfield 24, 3) := by decide +kernel
theorem dX0_add_55 : decode cX0_add 55 = .ok (.iconst 1, 1) := by decide +kernel
theorem dX0_add_56 : decode cX0_add 56 = .ok (.iadd, 1) := by decide +kernel
theorem dX0_add_57 : decode cX0_add 57 = .ok (.putfield 24, 3) := by decide +kernel
theorem dX0_add_60 : decode cX0_add 60 = .ok (.return_, 1) := by decide +kernel
theorem dX0_perform_0 : decode cX0_perform 0 = .ok (.aload_n 0, 1) := by decide +kernel
theorem dX0_perform_1 : decode cX0_perform 1 = .ok (.iconst 0, 1) := by decide +kernel
theorem dX0_perform_2 : decode cX0_perform 2 = .ok (.putfield 74, 3) := by decide +kernel
theorem dX0_perform_5 : decode cX0_perform 5 = .ok (.aload_n 0, 1) := by decide +kernel
theorem dX0_perform_6 : decode cX0_perform 6 = .ok (.iconst 0, 1) := by decide +kernel
theorem dX0_perform_7 : decode cX0_perform 7 = .ok (.putfield 77, 3) := by decide +kernel
theorem dX0_perform_10 : decode cX0_perform 10 = .ok (.aload_n 0, 1) := by decide +kernel
theorem dX0_perform_11 : decode cX0_perform 11 = .ok (.iconst 0, 1) := by decide +kernel
theorem dX0_perform_12 : decode cX0_perform 12 = .ok (.putfield 80, 3) := by decide +kernel
theorem dX0_perform_15 : decode cX0_perform 15 = .ok (.aload_n 0, 1) := by decide +kernel
theorem dX0_perform_16 : decode cX0_perform 16 = .ok (.iconst 0, 1) := by decide +kernel
theorem dX0_perform_17 : decode cX0_perform 17 = .ok (.aload_n 0, 1) := by decide +kernel
theorem dX0_perform_18 : decode cX0_perform 18 = .ok (.getfield 24, 3) := by decide +kernel
theorem dX0_perform_21 : decode cX0_perform 21 = .ok (.aload_n 1, 1) := by decide +kernel
theorem dX0_perform_22 : decode cX0_perform 22 = .ok (.aload_n 2, 1) := by decide +kernel
theorem dX0_perform_23 : decode cX0_perform 23 = .ok (.iconst 0, 1) := by decide +kernel
theorem dX0_perform_24 : decode cX0_perform 24 = .ok (.invokevirtual 83, 3) := by decide +kernel
theorem dX0_perform_27 : decode cX0_perform 27 = .ok (.return_, 1) := by decide +kernel
theorem dX0_performFrom_0 : decode cX0_performFrom 0 = .ok (.iload_n 1, 1) := by decide +kernel
theorem dX0_performFrom_1 : decode cX0_performFrom 1 = .ok (.istore 6, 2) := by decide +kernel
theorem dX0_performFrom_3 : decode cX0_performFrom 3 = .ok (.iconst 0, 1) := by decide +kernel
theorem dX0_performFrom_4 : decode cX0_performFrom 4 = .ok (.istore 7, 2) := by decide +kernel
theorem dX0_performFrom_6 : decode cX0_performFrom 6 = .ok (.iload 7, 2) := by decide +kernel
theorem dX0_performFrom_8 : decode cX0_performFrom 8 = .ok (.bipush 38, 2) := by decide +kernel
theorem dX0_performFrom_10 : decode cX0_performFrom 10 = .ok (.if_icmp .ge 107, 3) := by decide +kernel
theorem dX0_performFrom_13 : decode cX0_performFrom 13 = .ok (.iload 6, 2) := by decide +kernel
theorem dX0_performFrom_15 : decode cX0_performFrom 15 = .ok (.iload_n 2, 1) := by decide +kernel
theorem dX0_performFrom_16 : decode cX0_performFrom 16 = .ok (.if_icmp .ge 101, 3) := by decide +kernel
theorem dX0_performFrom_19 : decode cX0_performFrom 19 = .ok (.aload_n 0, 1) := by decide +kernel
theorem dX0_performFrom_20 : decode cX0_performFrom 20 = .ok (.getfield 74, 3) := by decide +kernel
theorem dX0_performFrom_23 : decode cX0_performFrom 23 = .ok (.sipush 200, 3) := by decide +kernel
theorem dX0_performFrom_26 : decode cX0_performFrom 26 = .ok (.if_icmp .ge 91, 3) := by decide +kernel
theorem dX0_performFrom_29 : decode cX0_performFrom 29 = .ok (.aload_n 0, 1) := by decide +kernel
theorem dX0_performFrom_30 : decode cX0_performFrom 30 = .ok (.dup, 1) := by decide +kernel
theorem dX0_performFrom_31 : decode cX0_performFrom 31 = .ok (.getfield 74, 3) := by decide +kernel
theorem dX0_performFrom_34 : decode cX0_performFrom 34 = .ok (.iconst 1, 1) := by decide +kernel
theorem dX0_performFrom_35 : decode cX0_performFrom 35 = .ok (.iadd, 1) := by decide +kernel
theorem dX0_performFrom_36 : decode cX0_performFrom 36 = .ok (.putfield 74, 3) := by decide +kernel
theorem dX0_performFrom_39 : decode cX0_performFrom 39 = .ok (.aload_n 0, 1) := by decide +kernel
theorem dX0_performFrom_40 : decode cX0_performFrom 40 = .ok (.getfield 11, 3) := by decide +kernel
theorem dX0_performFrom_43 : decode cX0_performFrom 43 = .ok (.iload 6, 2) := by decide +kernel
theorem dX0_performFrom_45 : decode cX0_performFrom 45 = .ok (.iaload, 1) := by decide +kernel
theorem dX0_performFrom_46 : decode cX0_performFrom 46 = .ok (.iconst 4, 1) := by decide +kernel
theorem dX0_performFrom_47 : decode cX0_performFrom 47 = .ok (.if_icmp .ne 26, 3) := by decide +kernel
theorem dX0_performFrom_50 : decode cX0_performFrom 50 = .ok (.aload_n 0, 1) := by decide +kernel
theorem dX0_performFrom_51 : decode cX0_performFrom 51 = .ok (.iload 6, 2) := by decide +kernel
theorem dX0_performFrom_53 : decode cX0_performFrom 53 = .ok (.aload_n 3, 1) := by decide +kernel
theorem dX0_performFrom_54 : decode cX0_performFrom 54 = .ok (.aload 4, 2) := by decide +kernel
theorem dX0_performFrom_56 : decode cX0_performFrom 56 = .ok (.iload 5, 2) := by decide +kernel
theorem dX0_performFrom_58 : decode cX0_performFrom 58 = .ok (.invokevirtual 87, 3) := by decide +kernel
theorem dX0_performFrom_61 : decode cX0_performFrom 61 = .ok (.aload_n 0, 1) := by decide +kernel
theorem dX0_performFrom_62 : decode cX0_performFrom 62 = .ok (.getfield 18, 3) := by decide +kernel
theorem dX0_performFrom_65 : decode cX0_performFrom 65 = .ok (.iload 6, 2) := by decide +kernel
theorem dX0_performFrom_67 : decode cX0_performFrom 67 = .ok (.iaload, 1) := by decide +kernel
theorem dX0_performFrom_68 : decode cX0_performFrom 68 = .ok (.istore 6, 2) := by decide +kernel
theorem dX0_performFrom_70 : decode cX0_performFrom 70 = .ok (.goto 41, 3) := by decide +kernel
theorem dX0_performFrom_73 : decode cX0_performFrom 73 = .ok (.aload_n 0, 1) := by decide +kernel
theorem dX0_performFrom_74 : decode cX0_performFrom 74 = .ok (.iload 6, 2) := by decide +kernel
theorem dX0_performFrom_76 : decode cX0_performFrom 76 = .ok (.aload_n 3, 1) := by decide +kernel
theorem dX0_performFrom_77 : decode cX0_performFrom 77 = .ok (.aload 4, 2) := by decide +kernel
theorem dX0_performFrom_79 : decode cX0_performFrom 79 = .ok (.invokevirtual 91, 3) := by decide +kernel
theorem dX0_performFrom_82 : decode cX0_performFrom 82 = .ok (.ifCond .eq 16, 3) := by decide +kernel
theorem dX0_performFrom_85 : decode cX0_performFrom 85 = .ok (.aload_n 0, 1) := by decide +kernel
theorem dX0_performFrom_86 : decode cX0_performFrom 86 = .ok (.dup, 1) := by decide +kernel
theorem dX0_performFrom_87 : decode cX0_performFrom 87 = .ok (.getfield 77, 3) := by decide +kernel
theorem dX0_performFrom_90 : decode cX0_performFrom 90 = .ok (.iconst 1, 1) := by decide +kernel
theorem dX0_performFrom_91 : decode cX0_performFrom 91 = .ok (.iadd, 1) := by decide +kernel
theorem dX0_performFrom_92 : decode cX0_performFrom 92 = .ok (.putfield 77, 3) := by decide +kernel
theorem dX0_performFrom_95 : decode cX0_performFrom 95 = .ok (.goto 13, 3) := by decide +kernel
theorem dX0_performFrom_98 : decode cX0_performFrom 98 = .ok (.aload_n 0, 1) := by decide +kernel
theorem dX0_performFrom_99 : decode cX0_performFrom 99 = .ok (.dup, 1) := by decide +kernel
theorem dX0_performFrom_100 : decode cX0_performFrom 100 = .ok (.getfield 80, 3) := by decide +kernel
theorem dX0_performFrom_103 : decode cX0_performFrom 103 = .ok (.iconst 1, 1) := by decide +kernel
theorem dX0_performFrom_104 : decode cX0_performFrom 104 = .ok (.iadd, 1) := by decide +kernel
theorem dX0_performFrom_105 : decode cX0_performFrom 105 = .ok (.putfield 80, 3) := by decide +kernel
theorem dX0_performFrom_108 : decode cX0_performFrom 108 = .ok (.iinc 6 1, 3) := by decide +kernel
theorem dX0_performFrom_111 : decode cX0_performFrom 111 = .ok (.iinc 7 1, 3) := by decide +kernel
theorem dX0_performFrom_114 : decode cX0_performFrom 114 = .ok (.goto (-108), 3) := by decide +kernel
theorem dX0_performFrom_117 : decode cX0_performFrom 117 = .ok (.return_, 1) := by decide +kernel
theorem dX0_repeat_0 : decode cX0_repeat 0 = .ok (.iload 4, 2) := by decide +kernel
theorem dX0_repeat_2 : decode cX0_repeat 2 = .ok (.bipush 6, 2) := by decide +kernel
theorem dX0_repeat_4 : decode cX0_repeat 4 = .ok (.if_icmp .lt 4, 3) := by decide +kernel
theorem dX0_repeat_7 : decode cX0_repeat 7 = .ok (.return_, 1) := by decide +kernel
theorem dX0_repeat_8 : decode cX0_repeat 8 = .ok (.iconst 0, 1) := by decide +kernel
theorem dX0_repeat_9 : decode cX0_repeat 9 = .ok (.istore 5, 2) := by decide +kernel
theorem dX0_repeat_11 : decode cX0_repeat 11 = .ok (.iload 5, 2) := by decide +kernel
theorem dX0_repeat_13 : decode cX0_repeat 13 = .ok (.aload_n 0, 1) := by decide +kernel
theorem dX0_repeat_14 : decode cX0_repeat 14 = .ok (.getfield 15, 3) := by decide +kernel
theorem dX0_repeat_17 : decode cX0_repeat 17 = .ok (.iload_n 1, 1) := by decide +kernel
theorem dX0_repeat_18 : decode cX0_repeat 18 = .ok (.iaload, 1) := by decide +kernel
theorem dX0_repeat_19 : decode cX0_repeat 19 = .ok (.if_icmp .ge 38, 3) := by decide +kernel
theorem dX0_repeat_22 : decode cX0_repeat 22 = .ok (.aload_n 0, 1) := by decide +kernel
theorem dX0_repeat_23 : decode cX0_repeat 23 = .ok (.getfield 74, 3) := by decide +kernel
theorem dX0_repeat_26 : decode cX0_repeat 26 = .ok (.sipush 200, 3) := by decide +kernel
theorem dX0_repeat_29 : decode cX0_repeat 29 = .ok (.if_icmp .ge 28, 3) := by decide +kernel
theorem dX0_repeat_32 : decode cX0_repeat 32 = .ok (.aload_n 0, 1) := by decide +kernel
theorem dX0_repeat_33 : decode cX0_repeat 33 = .ok (.iload_n 1, 1) := by decide +kernel
theorem dX0_repeat_34 : decode cX0_repeat 34 = .ok (.iconst 1, 1) := by decide +kernel
theorem dX0_repeat_35 : decode cX0_repeat 35 = .ok (.iadd, 1) := by decide +kernel
theorem dX0_repeat_36 : decode cX0_repeat 36 = .ok (.aload_n 0, 1) := by decide +kernel
theorem dX0_repeat_37 : decode cX0_repeat 37 = .ok (.getfield 18, 3) := by decide +kernel
theorem dX0_repeat_40 : decode cX0_repeat 40 = .ok (.iload_n 1, 1) := by decide +kernel
theorem dX0_repeat_41 : decode cX0_repeat 41 = .ok (.iaload, 1) := by decide +kernel
theorem dX0_repeat_42 : decode cX0_repeat 42 = .ok (.aload_n 2, 1) := by decide +kernel
theorem dX0_repeat_43 : decode cX0_repeat 43 = .ok (.aload_n 3, 1) := by decide +kernel
theorem dX0_repeat_44 : decode cX0_repeat 44 = .ok (.iload 4, 2) := by decide +kernel
theorem dX0_repeat_46 : decode cX0_repeat 46 = .ok (.iconst 1, 1) := by decide +kernel
theorem dX0_repeat_47 : decode cX0_repeat 47 = .ok (.iadd, 1) := by decide +kernel
theorem dX0_repeat_48 : decode cX0_repeat 48 = .ok (.invokevirtual 83, 3) := by decide +kernel
theorem dX0_repeat_51 : decode cX0_repeat 51 = .ok (.iinc 5 1, 3) := by decide +kernel
theorem dX0_repeat_54 : decode cX0_repeat 54 = .ok (.goto (-43), 3) := by decide +kernel
theorem dX0_repeat_57 : decode cX0_repeat 57 = .ok (.return_, 1) := by decide +kernel
theorem dX0_performOne_0 : decode cX0_performOne 0 = .ok (.aload_n 0, 1) := by decide +kernel
theorem dX0_performOne_1 : decode cX0_performOne 1 = .ok (.getfield 11, 3) := by decide +kernel
theorem dX0_performOne_4 : decode cX0_performOne 4 = .ok (.iload_n 1, 1) := by decide +kernel
theorem dX0_performOne_5 : decode cX0_performOne 5 = .ok (.iaload, 1) := by decide +kernel
theorem dX0_performOne_6 : decode cX0_performOne 6 = .ok (.tableswitch 100 0 2 #[26, 60, 83], 26) := by decide +kernel
theorem dX0_performOne_32 : decode cX0_performOne 32 = .ok (.aload_n 2, 1) := by decide +kernel
theorem dX0_performOne_33 : decode cX0_performOne 33 = .ok (.aload_n 0, 1) := by decide +kernel
theorem dX0_performOne_34 : decode cX0_performOne 34 = .ok (.getfield 15, 3) := by decide +kernel
theorem dX0_performOne_37 : decode cX0_performOne 37 = .ok (.iload_n 1, 1) := by decide +kernel
theorem dX0_performOne_38 : decode cX0_performOne 38 = .ok (.iaload, 1) := by decide +kernel
theorem dX0_performOne_39 : decode cX0_performOne 39 = .ok (.aload_n 0, 1) := by decide +kernel
theorem dX0_performOne_40 : decode cX0_performOne 40 = .ok (.getfield 18, 3) := by decide +kernel
theorem dX0_performOne_43 : decode cX0_performOne 43 = .ok (.iload_n 1, 1) := by decide +kernel
theorem dX0_performOne_44 : decode cX0_performOne 44 = .ok (.iaload, 1) := by decide +kernel
theorem dX0_performOne_45 : decode cX0_performOne 45 = .ok (.aload_n 2, 1) := by decide +kernel
theorem dX0_performOne_46 : decode cX0_performOne 46 = .ok (.aload_n 3, 1) := by decide +kernel
theorem dX0_performOne_47 : decode cX0_performOne 47 = .ok (.aload_n 0, 1) := by decide +kernel
theorem dX0_performOne_48 : decode cX0_performOne 48 = .ok (.getfield 18, 3) := by decide +kernel
theorem dX0_performOne_51 : decode cX0_performOne 51 = .ok (.iload_n 1, 1) := by decide +kernel
theorem dX0_performOne_52 : decode cX0_performOne 52 = .ok (.iaload, 1) := by decide +kernel
theorem dX0_performOne_53 : decode cX0_performOne 53 = .ok (.aload_n 0, 1) := by decide +kernel
theorem dX0_performOne_54 : decode cX0_performOne 54 = .ok (.getfield 21, 3) := by decide +kernel
theorem dX0_performOne_57 : decode cX0_performOne 57 = .ok (.iload_n 1, 1) := by decide +kernel
theorem dX0_performOne_58 : decode cX0_performOne 58 = .ok (.iaload, 1) := by decide +kernel
theorem dX0_performOne_59 : decode cX0_performOne 59 = .ok (.invokevirtual 95, 3) := by decide +kernel
theorem dX0_performOne_62 : decode cX0_performOne 62 = .ok (.invokevirtual 101, 3) := by decide +kernel
theorem dX0_performOne_65 : decode cX0_performOne 65 = .ok (.ireturn, 1) := by decide +kernel
theorem dX0_performOne_66 : decode cX0_performOne 66 = .ok (.aload_n 2, 1) := by decide +kernel
theorem dX0_performOne_67 : decode cX0_performOne 67 = .ok (.aload_n 0, 1) := by decide +kernel
theorem dX0_performOne_68 : decode cX0_performOne 68 = .ok (.getfield 15, 3) := by decide +kernel
theorem dX0_performOne_71 : decode cX0_performOne 71 = .ok (.iload_n 1, 1) := by decide +kernel
theorem dX0_performOne_72 : decode cX0_performOne 72 = .ok (.iaload, 1) := by decide +kernel
theorem dX0_performOne_73 : decode cX0_performOne 73 = .ok (.aload_n 0, 1) := by decide +kernel
theorem dX0_performOne_74 : decode cX0_performOne 74 = .ok (.getfield 18, 3) := by decide +kernel
theorem dX0_performOne_77 : decode cX0_performOne 77 = .ok (.iload_n 1, 1) := by decide +kernel
theorem dX0_performOne_78 : decode cX0_performOne 78 = .ok (.iaload, 1) := by decide +kernel
theorem dX0_performOne_79 : decode cX0_performOne 79 = .ok (.aload_n 0, 1) := by decide +kernel
theorem dX0_performOne_80 : decode cX0_performOne 80 = .ok (.getfield 21, 3) := by decide +kernel
theorem dX0_performOne_83 : decode cX0_performOne 83 = .ok (.iload_n 1, 1) := by decide +kernel
theorem dX0_performOne_84 : decode cX0_performOne 84 = .ok (.iaload, 1) := by decide +kernel
theorem dX0_performOne_85 : decode cX0_performOne 85 = .ok (.invokevirtual 105, 3) := by decide +kernel
theorem dX0_performOne_88 : decode cX0_performOne 88 = .ok (.ireturn, 1) := by decide +kernel
theorem dX0_performOne_89 : decode cX0_performOne 89 = .ok (.aload_n 2, 1) := by decide +kernel
theorem dX0_performOne_90 : decode cX0_performOne 90 = .ok (.aload_n 0, 1) := by decide +kernel
theorem dX0_performOne_91 : decode cX0_performOne 91 = .ok (.getfield 15, 3) := by decide +kernel
theorem dX0_performOne_94 : decode cX0_performOne 94 = .ok (.iload_n 1, 1) := by decide +kernel
theorem dX0_performOne_95 : decode cX0_performOne 95 = .ok (.iaload, 1) := by decide +kernel
theorem dX0_performOne_96 : decode cX0_performOne 96 = .ok (.aload_n 0, 1) := by decide +kernel
theorem dX0_performOne_97 : decode cX0_performOne 97 = .ok (.getfield 18, 3) := by decide +kernel
theorem dX0_performOne_100 : decode cX0_performOne 100 = .ok (.iload_n 1, 1) := by decide +kernel
theorem dX0_performOne_101 : decode cX0_performOne 101 = .ok (.iaload, 1) := by decide +kernel
theorem dX0_performOne_102 : decode cX0_performOne 102 = .ok (.invokevirtual 108, 3) := by decide +kernel
theorem dX0_performOne_105 : decode cX0_performOne 105 = .ok (.ireturn, 1) := by decide +kernel
theorem dX0_performOne_106 : decode cX0_performOne 106 = .ok (.aload_n 2, 1) := by decide +kernel
theorem dX0_performOne_107 : decode cX0_performOne 107 = .ok (.invokevirtual 112, 3) := by decide +kernel
theorem dX0_performOne_110 : decode cX0_performOne 110 = .ok (.sipush 900, 3) := by decide +kernel
theorem dX0_performOne_113 : decode cX0_performOne 113 = .ok (.if_icmp .lt 5, 3) := by decide +kernel
theorem dX0_performOne_116 : decode cX0_performOne 116 = .ok (.iconst 0, 1) := by decide +kernel
theorem dX0_performOne_117 : decode cX0_performOne 117 = .ok (.ireturn, 1) := by decide +kernel
theorem dX0_performOne_118 : decode cX0_performOne 118 = .ok (.aload_n 2, 1) := by decide +kernel
theorem dX0_performOne_119 : decode cX0_performOne 119 = .ok (.invokevirtual 115, 3) := by decide +kernel
theorem dX0_performOne_122 : decode cX0_performOne 122 = .ok (.iconst 1, 1) := by decide +kernel
theorem dX0_performOne_123 : decode cX0_performOne 123 = .ok (.ireturn, 1) := by decide +kernel
theorem dX1_init_0 : decode cX1_init 0 = .ok (.aload_n 0, 1) := by decide +kernel
theorem dX1_init_1 : decode cX1_init 1 = .ok (.invokespecial 3, 3) := by decide +kernel
theorem dX1_init_4 : decode cX1_init 4 = .ok (.aload_n 0, 1) := by decide +kernel
theorem dX1_init_5 : decode cX1_init 5 = .ok (.bipush 8, 2) := by decide +kernel
theorem dX1_init_7 : decode cX1_init 7 = .ok (.newarray .int, 2) := by decide +kernel
theorem dX1_init_9 : decode cX1_init 9 = .ok (.putfield 11, 3) := by decide +kernel
theorem dX1_init_12 : decode cX1_init 12 = .ok (.aload_n 0, 1) := by decide +kernel
theorem dX1_init_13 : decode cX1_init 13 = .ok (.bipush 8, 2) := by decide +kernel
theorem dX1_init_15 : decode cX1_init 15 = .ok (.newarray .int, 2) := by decide +kernel
theorem dX1_init_17 : decode cX1_init 17 = .ok (.putfield 15, 3) := by decide +kernel
theorem dX1_init_20 : decode cX1_init 20 = .ok (.return_, 1) := by decide +kernel
theorem dX1_forget_0 : decode cX1_forget 0 = .ok (.aload_n 0, 1) := by decide +kernel
theorem dX1_forget_1 : decode cX1_forget 1 = .ok (.iconst 0, 1) := by decide +kernel
theorem dX1_forget_2 : decode cX1_forget 2 = .ok (.putfield 18, 3) := by decide +kernel
theorem dX1_forget_5 : decode cX1_forget 5 = .ok (.return_, 1) := by decide +kernel
theorem dX1_read_0 : decode cX1_read 0 = .ok (.aload_n 0, 1) := by decide +kernel
theorem dX1_read_1 : decode cX1_read 1 = .ok (.iconst 0, 1) := by decide +kernel
theorem dX1_read_2 : decode cX1_read 2 = .ok (.putfield 18, 3) := by decide +kernel
theorem dX1_read_5 : decode cX1_read 5 = .ok (.iconst 0, 1) := by decide +kernel
theorem dX1_read_6 : decode cX1_read 6 = .ok (.istore_n 2, 1) := by decide +kernel
theorem dX1_read_7 : decode cX1_read 7 = .ok (.iload_n 2, 1) := by decide +kernel
theorem dX1_read_8 : decode cX1_read 8 = .ok (.bipush 8, 2) := by decide +kernel
theorem dX1_read_10 : decode cX1_read 10 = .ok (.if_icmp .gt 22, 3) := by decide +kernel
theorem dX1_read_13 : decode cX1_read 13 = .ok (.aload_n 1, 1) := by decide +kernel
theorem dX1_read_14 : decode cX1_read 14 = .ok (.invokevirtual 22, 3) := by decide +kernel
theorem dX1_read_17 : decode cX1_read 17 = .ok (.iconst (-1), 1) := by decide +kernel
theorem dX1_read_18 : decode cX1_read 18 = .ok (.if_icmp .eq 14, 3) := by decide +kernel
theorem dX1_read_21 : decode cX1_read 21 = .ok (.aload_n 0, 1) := by decide +kernel
theorem dX1_read_22 : decode cX1_read 22 = .ok (.aload_n 1, 1) := by decide +kernel
theorem dX1_read_23 : decode cX1_read 23 = .ok (.invokevirtual 28, 3) := by decide +kernel
theorem dX1_read_26 : decode cX1_read 26 = .ok (.iinc 2 1, 3) := by decide +kernel
theorem dX1_read_29 : decode cX1_read 29 = .ok (.goto (-22), 3) := by decide +kernel
theorem dX1_read_32 : decode cX1_read 32 = .ok (.aload_n 1, 1) := by decide +kernel
theorem dX1_read_33 : decode cX1_read 33 = .ok (.invokevirtual 32, 3) := by decide +kernel
theorem dX1_read_36 : decode cX1_read 36 = .ok (.ireturn, 1) := by decide +kernel
theorem dX1_readLine_0 : decode cX1_readLine 0 = .ok (.aload_n 1, 1) := by decide +kernel
theorem dX1_readLine_1 : decode cX1_readLine 1 = .ok (.getfield 36, 3) := by decide +kernel
theorem dX1_readLine_4 : decode cX1_readLine 4 = .ok (.istore_n 2, 1) := by decide +kernel
theorem dX1_readLine_5 : decode cX1_readLine 5 = .ok (.aload_n 1, 1) := by decide +kernel
theorem dX1_readLine_6 : decode cX1_readLine 6 = .ok (.iconst 0, 1) := by decide +kernel
theorem dX1_readLine_7 : decode cX1_readLine 7 = .ok (.bipush 60, 2) := by decide +kernel
theorem dX1_readLine_9 : decode cX1_readLine 9 = .ok (.invokevirtual 39, 3) := by decide +kernel
theorem dX1_readLine_12 : decode cX1_readLine 12 = .ok (.istore_n 3, 1) := by decide +kernel
theorem dX1_readLine_13 : decode cX1_readLine 13 = .ok (.aload_n 0, 1) := by decide +kernel
theorem dX1_readLine_14 : decode cX1_readLine 14 = .ok (.iload_n 3, 1) := by decide +kernel
theorem dX1_readLine_15 : decode cX1_readLine 15 = .ok (.invokevirtual 43, 3) := by decide +kernel
theorem dX1_readLine_18 : decode cX1_readLine 18 = .ok (.ifCond .eq 9, 3) := by decide +kernel
theorem dX1_readLine_21 : decode cX1_readLine 21 = .ok (.aload_n 1, 1) := by decide +kernel
theorem dX1_readLine_22 : decode cX1_readLine 22 = .ok (.iconst 2, 1) := by decide +kernel
theorem dX1_readLine_23 : decode cX1_readLine 23 = .ok (.iload_n 2, 1) := by decide +kernel
theorem dX1_readLine_24 : decode cX1_readLine 24 = .ok (.invokevirtual 47, 3) := by decide +kernel
theorem dX1_readLine_27 : decode cX1_readLine 27 = .ok (.aload_n 0, 1) := by decide +kernel
theorem dX1_readLine_28 : decode cX1_readLine 28 = .ok (.getfield 18, 3) := by decide +kernel
theorem dX1_readLine_31 : decode cX1_readLine 31 = .ok (.bipush 8, 2) := by decide +kernel
theorem dX1_readLine_33 : decode cX1_readLine 33 = .ok (.if_icmp .lt 10, 3) := by decide +kernel
theorem dX1_readLine_36 : decode cX1_readLine 36 = .ok (.aload_n 1, 1) := by decide +kernel
theorem dX1_readLine_37 : decode cX1_readLine 37 = .ok (.iconst 3, 1) := by decide +kernel
theorem dX1_readLine_38 : decode cX1_readLine 38 = .ok (.iload_n 2, 1) := by decide +kernel
theorem dX1_readLine_39 : decode cX1_readLine 39 = .ok (.invokevirtual 47, 3) := by decide +kernel
theorem dX1_readLine_42 : decode cX1_readLine 42 = .ok (.return_, 1) := by decide +kernel
theorem dX1_readLine_43 : decode cX1_readLine 43 = .ok (.aload_n 0, 1) := by decide +kernel
theorem dX1_readLine_44 : decode cX1_readLine 44 = .ok (.getfield 11, 3) := by decide +kernel
theorem dX1_readLine_47 : decode cX1_readLine 47 = .ok (.aload_n 0, 1) := by decide +kernel
theorem dX1_readLine_48 : decode cX1_readLine 48 = .ok (.getfield 18, 3) := by decide +kernel
theorem dX1_readLine_51 : decode cX1_readLine 51 = .ok (.iload_n 3, 1) := by decide +kernel
theorem dX1_readLine_52 : decode cX1_readLine 52 = .ok (.iastore, 1) := by decide +kernel
theorem dX1_readLine_53 : decode cX1_readLine 53 = .ok (.aload_n 0, 1) := by decide +kernel
theorem dX1_readLine_54 : decode cX1_readLine 54 = .ok (.getfield 15, 3) := by decide +kernel
theorem dX1_readLine_57 : decode cX1_readLine 57 = .ok (.aload_n 0, 1) := by decide +kernel
theorem dX1_readLine_58 : decode cX1_readLine 58 = .ok (.getfield 18, 3) := by decide +kernel
theorem dX1_readLine_61 : decode cX1_readLine 61 = .ok (.aload_n 1, 1) := by decide +kernel
theorem dX1_readLine_62 : decode cX1_readLine 62 = .ok (.iconst 1, 1) := by decide +kernel
theorem dX1_readLine_63 : decode cX1_readLine 63 = .ok (.bipush 30, 2) := by decide +kernel
theorem dX1_readLine_65 : decode cX1_readLine 65 = .ok (.invokevirtual 39, 3) := by decide +kernel
theorem dX1_readLine_68 : decode cX1_readLine 68 = .ok (.iastore, 1) := by decide +kernel
theorem dX1_readLine_69 : decode cX1_readLine 69 = .ok (.aload_n 0, 1) := by decide +kernel
theorem dX1_readLine_70 : decode cX1_readLine 70 = .ok (.dup, 1) := by decide +kernel
theorem dX1_readLine_71 : decode cX1_readLine 71 = .ok (.getfield 18, 3) := by decide +kernel
theorem dX1_readLine_74 : decode cX1_readLine 74 = .ok (.iconst 1, 1) := by decide +kernel
theorem dX1_readLine_75 : decode cX1_readLine 75 = .ok (.iadd, 1) := by decide +kernel
theorem dX1_readLine_76 : decode cX1_readLine 76 = .ok (.putfield 18, 3) := by decide +kernel
theorem dX1_readLine_79 : decode cX1_readLine 79 = .ok (.aload_n 1, 1) := by decide +kernel
theorem dX1_readLine_80 : decode cX1_readLine 80 = .ok (.bipush 59, 2) := by decide +kernel
theorem dX1_readLine_82 : decode cX1_readLine 82 = .ok (.invokevirtual 51, 3) := by decide +kernel
theorem dX1_readLine_85 : decode cX1_readLine 85 = .ok (.return_, 1) := by decide +kernel
theorem dX1_holds_0 : decode cX1_holds 0 = .ok (.iconst 0, 1) := by decide +kernel
theorem dX1_holds_1 : decode cX1_holds 1 = .ok (.istore_n 2, 1) := by decide +kernel
theorem dX1_holds_2 : decode cX1_holds 2 = .ok (.iload_n 2, 1) := by decide +kernel
theorem dX1_holds_3 : decode cX1_holds 3 = .ok (.aload_n 0, 1) := by decide +kernel
theorem dX1_holds_4 : decode cX1_holds 4 = .ok (.getfield 18, 3) := by decide +kernel
theorem dX1_holds_7 : decode cX1_holds 7 = .ok (.if_icmp .ge 21, 3) := by decide +kernel
theorem dX1_holds_10 : decode cX1_holds 10 = .ok (.aload_n 0, 1) := by decide +kernel
theorem dX1_holds_11 : decode cX1_holds 11 = .ok (.getfield 11, 3) := by decide +kernel
theorem dX1_holds_14 : decode cX1_holds 14 = .ok (.iload_n 2, 1) := by decide +kernel
theorem dX1_holds_15 : decode cX1_holds 15 = .ok (.iaload, 1) := by decide +kernel
theorem dX1_holds_16 : decode cX1_holds 16 = .ok (.iload_n 1, 1) := by decide +kernel
theorem dX1_holds_17 : decode cX1_holds 17 = .ok (.if_icmp .ne 5, 3) := by decide +kernel
theorem dX1_holds_20 : decode cX1_holds 20 = .ok (.iconst 1, 1) := by decide +kernel
theorem dX1_holds_21 : decode cX1_holds 21 = .ok (.ireturn, 1) := by decide +kernel
theorem dX1_holds_22 : decode cX1_holds 22 = .ok (.iinc 2 1, 3) := by decide +kernel
theorem dX1_holds_25 : decode cX1_holds 25 = .ok (.goto (-23), 3) := by decide +kernel
theorem dX1_holds_28 : decode cX1_holds 28 = .ok (.iconst 0, 1) := by decide +kernel
theorem dX1_holds_29 : decode cX1_holds 29 = .ok (.ireturn, 1) := by decide +kernel
theorem dX1_canBuy_0 : decode cX1_canBuy 0 = .ok (.iconst 0, 1) := by decide +kernel
theorem dX1_canBuy_1 : decode cX1_canBuy 1 = .ok (.istore 4, 2) := by decide +kernel
theorem dX1_canBuy_3 : decode cX1_canBuy 3 = .ok (.iconst 0, 1) := by decide +kernel
theorem dX1_canBuy_4 : decode cX1_canBuy 4 = .ok (.istore 5, 2) := by decide +kernel
theorem dX1_canBuy_6 : decode cX1_canBuy 6 = .ok (.iload 5, 2) := by decide +kernel
theorem dX1_canBuy_8 : decode cX1_canBuy 8 = .ok (.aload_n 0, 1) := by decide +kernel
theorem dX1_canBuy_9 : decode cX1_canBuy 9 = .ok (.getfield 18, 3) := by decide +kernel
theorem dX1_canBuy_12 : decode cX1_canBuy 12 = .ok (.if_icmp .ge 52, 3) := by decide +kernel
theorem dX1_canBuy_15 : decode cX1_canBuy 15 = .ok (.iload_n 1, 1) := by decide +kernel
theorem dX1_canBuy_16 : decode cX1_canBuy 16 = .ok (.iload 5, 2) := by decide +kernel
theorem dX1_canBuy_18 : decode cX1_canBuy 18 = .ok (.ishr, 1) := by decide +kernel
theorem dX1_canBuy_19 : decode cX1_canBuy 19 = .ok (.iconst 1, 1) := by decide +kernel
theorem dX1_canBuy_20 : decode cX1_canBuy 20 = .ok (.iand, 1) := by decide +kernel
theorem dX1_canBuy_21 : decode cX1_canBuy 21 = .ok (.iconst 1, 1) := by decide +kernel
theorem dX1_canBuy_22 : decode cX1_canBuy 22 = .ok (.if_icmp .ne 36, 3) := by decide +kernel
theorem dX1_canBuy_25 : decode cX1_canBuy 25 = .ok (.aload_n 2, 1) := by decide +kernel
theorem dX1_canBuy_26 : decode cX1_canBuy 26 = .ok (.aload_n 0, 1) := by decide +kernel
theorem dX1_canBuy_27 : decode cX1_canBuy 27 = .ok (.getfield 11, 3) := by decide +kernel
theorem dX1_canBuy_30 : decode cX1_canBuy 30 = .ok (.iload 5, 2) := by decide +kernel
theorem dX1_canBuy_32 : decode cX1_canBuy 32 = .ok (.iaload, 1) := by decide +kernel
theorem dX1_canBuy_33 : decode cX1_canBuy 33 = .ok (.invokevirtual 55, 3) := by decide +kernel
theorem dX1_canBuy_36 : decode cX1_canBuy 36 = .ok (.iconst (-1), 1) := by decide +kernel
theorem dX1_canBuy_37 : decode cX1_canBuy 37 = .ok (.if_icmp .ne 5, 3) := by decide +kernel
theorem dX1_canBuy_40 : decode cX1_canBuy 40 = .ok (.iconst 0, 1) := by decide +kernel
theorem dX1_canBuy_41 : decode cX1_canBuy 41 = .ok (.ireturn, 1) := by decide +kernel
theorem dX1_canBuy_42 : decode cX1_canBuy 42 = .ok (.iload 4, 2) := by decide +kernel
theorem dX1_canBuy_44 : decode cX1_canBuy 44 = .ok (.aload_n 2, 1) := by decide +kernel
theorem dX1_canBuy_45 : decode cX1_canBuy 45 = .ok (.aload_n 0, 1) := by decide +kernel
theorem dX1_canBuy_46 : decode cX1_canBuy 46 = .ok (.getfield 11, 3) := by decide +kernel
theorem dX1_canBuy_49 : decode cX1_canBuy 49 = .ok (.iload 5, 2) := by decide +kernel
theorem dX1_canBuy_51 : decode cX1_canBuy 51 = .ok (.iaload, 1) := by decide +kernel
theorem dX1_canBuy_52 : decode cX1_canBuy 52 = .ok (.invokevirtual 61, 3) := by decide +kernel
theorem dX1_canBuy_55 : decode cX1_canBuy 55 = .ok (.iadd, 1) := by decide +kernel
theorem dX1_canBuy_56 : decode cX1_canBuy 56 = .ok (.istore 4, 2) := by decide +kernel
theorem dX1_canBuy_58 : decode cX1_canBuy 58 = .ok (.iinc 5 1, 3) := by decide +kernel
theorem dX1_canBuy_61 : decode cX1_canBuy 61 = .ok (.goto (-55), 3) := by decide +kernel
theorem dX1_canBuy_64 : decode cX1_canBuy 64 = .ok (.iload 4, 2) := by decide +kernel
theorem dX1_canBuy_66 : decode cX1_canBuy 66 = .ok (.iload_n 3, 1) := by decide +kernel
theorem dX1_canBuy_67 : decode cX1_canBuy 67 = .ok (.if_icmp .gt 7, 3) := by decide +kernel
theorem dX1_canBuy_70 : decode cX1_canBuy 70 = .ok (.iconst 1, 1) := by decide +kernel
theorem dX1_canBuy_71 : decode cX1_canBuy 71 = .ok (.goto 4, 3) := by decide +kernel
theorem dX1_canBuy_74 : decode cX1_canBuy 74 = .ok (.iconst 0, 1) := by decide +kernel
theorem dX1_canBuy_75 : decode cX1_canBuy 75 = .ok (.ireturn, 1) := by decide +kernel
theorem dX1_saved_0 : decode cX1_saved 0 = .ok (.iconst 0, 1) := by decide +kernel
theorem dX1_saved_1 : decode cX1_saved 1 = .ok (.istore_n 3, 1) := by decide +kernel
theorem dX1_saved_2 : decode cX1_saved 2 = .ok (.iconst 0, 1) := by decide +kernel
theorem dX1_saved_3 : decode cX1_saved 3 = .ok (.istore 4, 2) := by decide +kernel
theorem dX1_saved_5 : decode cX1_saved 5 = .ok (.iload 4, 2) := by decide +kernel
theorem dX1_saved_7 : decode cX1_saved 7 = .ok (.aload_n 0, 1) := by decide +kernel
theorem dX1_saved_8 : decode cX1_saved 8 = .ok (.getfield 18, 3) := by decide +kernel
theorem dX1_saved_11 : decode cX1_saved 11 = .ok (.if_icmp .ge 51, 3) := by decide +kernel
theorem dX1_saved_14 : decode cX1_saved 14 = .ok (.iload_n 1, 1) := by decide +kernel
theorem dX1_saved_15 : decode cX1_saved 15 = .ok (.iload 4, 2) := by decide +kernel
theorem dX1_saved_17 : decode cX1_saved 17 = .ok (.ishr, 1) := by decide +kernel
theorem dX1_saved_18 : decode cX1_saved 18 = .ok (.iconst 1, 1) := by decide +kernel
theorem dX1_saved_19 : decode cX1_saved 19 = .ok (.iand, 1) := by decide +kernel
theorem dX1_saved_20 : decode cX1_saved 20 = .ok (.iconst 1, 1) := by decide +kernel
theorem dX1_saved_21 : decode cX1_saved 21 = .ok (.if_icmp .ne 35, 3) := by decide +kernel
theorem dX1_saved_24 : decode cX1_saved 24 = .ok (.aload_n 0, 1) := by decide +kernel
theorem dX1_saved_25 : decode cX1_saved 25 = .ok (.getfield 11, 3) := by decide +kernel
theorem dX1_saved_28 : decode cX1_saved 28 = .ok (.iload 4, 2) := by decide +kernel
theorem dX1_saved_30 : decode cX1_saved 30 = .ok (.iaload, 1) := by decide +kernel
theorem dX1_saved_31 : decode cX1_saved 31 = .ok (.aload_n 2, 1) := by decide +kernel
theorem dX1_saved_32 : decode cX1_saved 32 = .ok (.arraylength, 1) := by decide +kernel
theorem dX1_saved_33 : decode cX1_saved 33 = .ok (.if_icmp .ge 23, 3) := by decide +kernel
theorem dX1_saved_36 : decode cX1_saved 36 = .ok (.iload_n 3, 1) := by decide +kernel
theorem dX1_saved_37 : decode cX1_saved 37 = .ok (.aload_n 0, 1) := by decide +kernel
theorem dX1_saved_38 : decode cX1_saved 38 = .ok (.getfield 15, 3) := by decide +kernel
theorem dX1_saved_41 : decode cX1_saved 41 = .ok (.iload 4, 2) := by decide +kernel
theorem dX1_saved_43 : decode cX1_saved 43 = .ok (.iaload, 1) := by decide +kernel
theorem dX1_saved_44 : decode cX1_saved 44 = .ok (.aload_n 2, 1) := by decide +kernel
theorem dX1_saved_45 : decode cX1_saved 45 = .ok (.aload_n 0, 1) := by decide +kernel
theorem dX1_saved_46 : decode cX1_saved 46 = .ok (.getfield 11, 3) := by decide +kernel
theorem dX1_saved_49 : decode cX1_saved 49 = .ok (.iload 4, 2) := by decide +kernel
theorem dX1_saved_51 : decode cX1_saved 51 = .ok (.iaload, 1) := by decide +kernel
theorem dX1_saved_52 : decode cX1_saved 52 = .ok (.iaload, 1) := by decide +kernel
theorem dX1_saved_53 : decode cX1_saved 53 = .ok (.imul, 1) := by decide +kernel
theorem dX1_saved_54 : decode cX1_saved 54 = .ok (.iadd, 1) := by decide +kernel
theorem dX1_saved_55 : decode cX1_saved 55 = .ok (.istore_n 3, 1) := by decide +kernel
theorem dX1_saved_56 : decode cX1_saved 56 = .ok (.iinc 4 1, 3) := by decide +kernel
theorem dX1_saved_59 : decode cX1_saved 59 = .ok (.goto (-54), 3) := by decide +kernel
theorem dX1_saved_62 : decode cX1_saved 62 = .ok (.iload_n 3, 1) := by decide +kernel
theorem dX1_saved_63 : decode cX1_saved 63 = .ok (.ireturn, 1) := by decide +kernel
theorem dX2_init_0 : decode cX2_init 0 = .ok (.aload_n 0, 1) := by decide +kernel
theorem dX2_init_1 : decode cX2_init 1 = .ok (.invokespecial 5, 3) := by decide +kernel
theorem dX2_init_4 : decode cX2_init 4 = .ok (.aload_n 0, 1) := by decide +kernel
theorem dX2_init_5 : decode cX2_init 5 = .ok (.sipush 190, 3) := by decide +kernel
theorem dX2_init_8 : decode cX2_init 8 = .ok (.newarray .int, 2) := by decide +kernel
theorem dX2_init_10 : decode cX2_init 10 = .ok (.putfield 11, 3) := by decide +kernel
theorem dX2_init_13 : decode cX2_init 13 = .ok (.aload_n 0, 1) := by decide +kernel
theorem dX2_init_14 : decode cX2_init 14 = .ok (.invokevirtual 15, 3) := by decide +kernel
theorem dX2_init_17 : decode cX2_init 17 = .ok (.return_, 1) := by decide +kernel
theorem dX2_empty_0 : decode cX2_empty 0 = .ok (.iconst 0, 1) := by decide +kernel
theorem dX2_empty_1 : decode cX2_empty 1 = .ok (.istore_n 1, 1) := by decide +kernel
theorem dX2_empty_2 : decode cX2_empty 2 = .ok (.iload_n 1, 1) := by decide +kernel
theorem dX2_empty_3 : decode cX2_empty 3 = .ok (.sipush 190, 3) := by decide +kernel
theorem dX2_empty_6 : decode cX2_empty 6 = .ok (.if_icmp .ge 26, 3) := by decide +kernel
theorem dX2_empty_9 : decode cX2_empty 9 = .ok (.aload_n 0, 1) := by decide +kernel
theorem dX2_empty_10 : decode cX2_empty 10 = .ok (.getfield 11, 3) := by decide +kernel
theorem dX2_empty_13 : decode cX2_empty 13 = .ok (.iload_n 1, 1) := by decide +kernel
theorem dX2_empty_14 : decode cX2_empty 14 = .ok (.iload_n 1, 1) := by decide +kernel
theorem dX2_empty_15 : decode cX2_empty 15 = .ok (.bipush 61, 2) := by decide +kernel
theorem dX2_empty_17 : decode cX2_empty 17 = .ok (.if_icmp .ge 7, 3) := by decide +kernel
theorem dX2_empty_20 : decode cX2_empty 20 = .ok (.iconst (-1), 1) := by decide +kernel
theorem dX2_empty_21 : decode cX2_empty 21 = .ok (.goto 4, 3) := by decide +kernel
theorem dX2_empty_24 : decode cX2_empty 24 = .ok (.iconst 0, 1) := by decide +kernel
theorem dX2_empty_25 : decode cX2_empty 25 = .ok (.iastore, 1) := by decide +kernel
theorem dX2_empty_26 : decode cX2_empty 26 = .ok (.iinc 1 1, 3) := by decide +kernel
theorem dX2_empty_29 : decode cX2_empty 29 = .ok (.goto (-27), 3) := by decide +kernel
theorem dX2_empty_32 : decode cX2_empty 32 = .ok (.aload_n 0, 1) := by decide +kernel
theorem dX2_empty_33 : decode cX2_empty 33 = .ok (.iconst 0, 1) := by decide +kernel
theorem dX2_empty_34 : decode cX2_empty 34 = .ok (.putfield 18, 3) := by decide +kernel
theorem dX2_empty_37 : decode cX2_empty 37 = .ok (.aload_n 0, 1) := by decide +kernel
theorem dX2_empty_38 : decode cX2_empty 38 = .ok (.iconst 2, 1) := by decide +kernel
theorem dX2_empty_39 : decode cX2_empty 39 = .ok (.putfield 22, 3) := by decide +kernel
theorem dX2_empty_42 : decode cX2_empty 42 = .ok (.return_, 1) := by decide +kernel
theorem dX2_read_0 : decode cX2_read 0 = .ok (.aload_n 0, 1) := by decide +kernel
theorem dX2_read_1 : decode cX2_read 1 = .ok (.invokevirtual 15, 3) := by decide +kernel
theorem dX2_read_4 : decode cX2_read 4 = .ok (.iconst 0, 1) := by decide +kernel
theorem dX2_read_5 : decode cX2_read 5 = .ok (.istore_n 2, 1) := by decide +kernel
theorem dX2_read_6 : decode cX2_read 6 = .ok (.iload_n 2, 1) := by decide +kernel
theorem dX2_read_7 : decode cX2_read 7 = .ok (.bipush 60, 2) := by decide +kernel
theorem dX2_read_9 : decode cX2_read 9 = .ok (.if_icmp .gt 23, 3) := by decide +kernel
theorem dX2_read_12 : decode cX2_read 12 = .ok (.aload_n 1, 1) := by decide +kernel
theorem dX2_read_13 : decode cX2_read 13 = .ok (.invokevirtual 25, 3) := by decide +kernel
theorem dX2_read_16 : decode cX2_read 16 = .ok (.iconst (-1), 1) := by decide +kernel
theorem dX2_read_17 : decode cX2_read 17 = .ok (.if_icmp .eq 15, 3) := by decide +kernel
theorem dX2_read_20 : decode cX2_read 20 = .ok (.aload_n 0, 1) := by decide +kernel
theorem dX2_read_21 : decode cX2_read 21 = .ok (.aload_n 1, 1) := by decide +kernel
theorem dX2_read_22 : decode cX2_read 22 = .ok (.iload_n 2, 1) := by decide +kernel
theorem dX2_read_23 : decode cX2_read 23 = .ok (.invokevirtual 31, 3) := by decide +kernel
theorem dX2_read_26 : decode cX2_read 26 = .ok (.iinc 2 1, 3) := by decide +kernel
theorem dX2_read_29 : decode cX2_read 29 = .ok (.goto (-23), 3) := by decide +kernel
theorem dX2_read_32 : decode cX2_read 32 = .ok (.aload_n 1, 1) := by decide +kernel
theorem dX2_read_33 : decode cX2_read 33 = .ok (.invokevirtual 35, 3) := by decide +kernel
theorem dX2_read_36 : decode cX2_read 36 = .ok (.ireturn, 1) := by decide +kernel
theorem dX2_readClause_0 : decode cX2_readClause 0 = .ok (.aload_n 1, 1) := by decide +kernel
theorem dX2_readClause_1 : decode cX2_readClause 1 = .ok (.getfield 39, 3) := by decide +kernel
theorem dX2_readClause_4 : decode cX2_readClause 4 = .ok (.istore_n 3, 1) := by decide +kernel
theorem dX2_readClause_5 : decode cX2_readClause 5 = .ok (.aload_n 1, 1) := by decide +kernel
theorem dX2_readClause_6 : decode cX2_readClause 6 = .ok (.ldc 42, 2) := by decide +kernel
theorem dX2_readClause_8 : decode cX2_readClause 8 = .ok (.invokevirtual 44, 3) := by decide +kernel
theorem dX2_readClause_11 : decode cX2_readClause 11 = .ok (.istore 4, 2) := by decide +kernel
theorem dX2_readClause_13 : decode cX2_readClause 13 = .ok (.iload_n 2, 1) := by decide +kernel
theorem dX2_readClause_14 : decode cX2_readClause 14 = .ok (.bipush 60, 2) := by decide +kernel
theorem dX2_readClause_16 : decode cX2_readClause 16 = .ok (.if_icmp .ge 17, 3) := by decide +kernel
theorem dX2_readClause_19 : decode cX2_readClause 19 = .ok (.iload 4, 2) := by decide +kernel
theorem dX2_readClause_21 : decode cX2_readClause 21 = .ok (.ifCond .ne 19, 3) := by decide +kernel
theorem dX2_readClause_24 : decode cX2_readClause 24 = .ok (.aload_n 0, 1) := by decide +kernel
theorem dX2_readClause_25 : decode cX2_readClause 25 = .ok (.getfield 18, 3) := by decide +kernel
theorem dX2_readClause_28 : decode cX2_readClause 28 = .ok (.bipush 6, 2) := by decide +kernel
theorem dX2_readClause_30 : decode cX2_readClause 30 = .ok (.if_icmp .lt 10, 3) := by decide +kernel
theorem dX2_readClause_33 : decode cX2_readClause 33 = .ok (.aload_n 1, 1) := by decide +kernel
theorem dX2_readClause_34 : decode cX2_readClause 34 = .ok (.iconst 3, 1) := by decide +kernel
theorem dX2_readClause_35 : decode cX2_readClause 35 = .ok (.iload_n 3, 1) := by decide +kernel
theorem dX2_readClause_36 : decode cX2_readClause 36 = .ok (.invokevirtual 48, 3) := by decide +kernel
theorem dX2_readClause_39 : decode cX2_readClause 39 = .ok (.return_, 1) := by decide +kernel
theorem dX2_readClause_40 : decode cX2_readClause 40 = .ok (.iload 4, 2) := by decide +kernel
theorem dX2_readClause_42 : decode cX2_readClause 42 = .ok (.tableswitch 82 0 2 #[26, 60, 68], 26) := by decide +kernel
theorem dX2_readClause_68 : decode cX2_readClause 68 = .ok (.aload_n 0, 1) := by decide +kernel
theorem dX2_readClause_69 : decode cX2_readClause 69 = .ok (.getfield 11, 3) := by decide +kernel
theorem dX2_readClause_72 : decode cX2_readClause 72 = .ok (.sipush 183, 3) := by decide +kernel
theorem dX2_readClause_75 : decode cX2_readClause 75 = .ok (.aload_n 0, 1) := by decide +kernel
theorem dX2_readClause_76 : decode cX2_readClause 76 = .ok (.getfield 18, 3) := by decide +kernel
theorem dX2_readClause_79 : decode cX2_readClause 79 = .ok (.iadd, 1) := by decide +kernel
theorem dX2_readClause_80 : decode cX2_readClause 80 = .ok (.aload_n 1, 1) := by decide +kernel
theorem dX2_readClause_81 : decode cX2_readClause 81 = .ok (.iconst 0, 1) := by decide +kernel
theorem dX2_readClause_82 : decode cX2_readClause 82 = .ok (.sipush 999, 3) := by decide +kernel
theorem dX2_readClause_85 : decode cX2_readClause 85 = .ok (.invokevirtual 52, 3) := by decide +kernel
theorem dX2_readClause_88 : decode cX2_readClause 88 = .ok (.iastore, 1) := by decide +kernel
theorem dX2_readClause_89 : decode cX2_readClause 89 = .ok (.aload_n 0, 1) := by decide +kernel
theorem dX2_readClause_90 : decode cX2_readClause 90 = .ok (.dup, 1) := by decide +kernel
theorem dX2_readClause_91 : decode cX2_readClause 91 = .ok (.getfield 18, 3) := by decide +kernel
theorem dX2_readClause_94 : decode cX2_readClause 94 = .ok (.iconst 1, 1) := by decide +kernel
theorem dX2_readClause_95 : decode cX2_readClause 95 = .ok (.iadd, 1) := by decide +kernel
theorem dX2_readClause_96 : decode cX2_readClause 96 = .ok (.putfield 18, 3) := by decide +kernel
theorem dX2_readClause_99 : decode cX2_readClause 99 = .ok (.goto 25, 3) := by decide +kernel
theorem dX2_readClause_102 : decode cX2_readClause 102 = .ok (.aload_n 0, 1) := by decide +kernel
theorem dX2_readClause_103 : decode cX2_readClause 103 = .ok (.aload_n 1, 1) := by decide +kernel
theorem dX2_readClause_104 : decode cX2_readClause 104 = .ok (.invokevirtual 56, 3) := by decide +kernel
theorem dX2_readClause_107 : decode cX2_readClause 107 = .ok (.goto 17, 3) := by decide +kernel
theorem dX2_readClause_110 : decode cX2_readClause 110 = .ok (.aload_n 0, 1) := by decide +kernel
theorem dX2_readClause_111 : decode cX2_readClause 111 = .ok (.aload_n 1, 1) := by decide +kernel
theorem dX2_readClause_112 : decode cX2_readClause 112 = .ok (.iconst 0, 1) := by decide +kernel
theorem dX2_readClause_113 : decode cX2_readClause 113 = .ok (.bipush 20, 2) := by decide +kernel
theorem dX2_readClause_115 : decode cX2_readClause 115 = .ok (.invokevirtual 52, 3) := by decide +kernel
theorem dX2_readClause_118 : decode cX2_readClause 118 = .ok (.putfield 22, 3) := by decide +kernel
theorem dX2_readClause_121 : decode cX2_readClause 121 = .ok (.goto 3, 3) := by decide +kernel
theorem dX2_readClause_124 : decode cX2_readClause 124 = .ok (.aload_n 1, 1) := by decide +kernel
theorem dX2_readClause_125 : decode cX2_readClause 125 = .ok (.bipush 59, 2) := by decide +kernel
theorem dX2_readClause_127 : decode cX2_readClause 127 = .ok (.invokevirtual 60, 3) := by decide +kernel
theorem dX2_readClause_130 : decode cX2_readClause 130 = .ok (.return_, 1) := by decide +kernel
theorem dX2_readOwned_0 : decode cX2_readOwned 0 = .ok (.aload_n 1, 1) := by decide +kernel
theorem dX2_readOwned_1 : decode cX2_readOwned 1 = .ok (.iconst 0, 1) := by decide +kernel
theorem dX2_readOwned_2 : decode cX2_readOwned 2 = .ok (.bipush 60, 2) := by decide +kernel
theorem dX2_readOwned_4 : decode cX2_readOwned 4 = .ok (.invokevirtual 52, 3) := by decide +kernel
theorem dX2_readOwned_7 : decode cX2_readOwned 7 = .ok (.istore_n 2, 1) := by decide +kernel
theorem dX2_readOwned_8 : decode cX2_readOwned 8 = .ok (.aload_n 0, 1) := by decide +kernel
theorem dX2_readOwned_9 : decode cX2_readOwned 9 = .ok (.getfield 11, 3) := by decide +kernel
theorem dX2_readOwned_12 : decode cX2_readOwned 12 = .ok (.iconst 0, 1) := by decide +kernel
theorem dX2_readOwned_13 : decode cX2_readOwned 13 = .ok (.iload_n 2, 1) := by decide +kernel
theorem dX2_readOwned_14 : decode cX2_readOwned 14 = .ok (.iadd, 1) := by decide +kernel
theorem dX2_readOwned_15 : decode cX2_readOwned 15 = .ok (.aload_n 1, 1) := by decide +kernel
theorem dX2_readOwned_16 : decode cX2_readOwned 16 = .ok (.iconst 0, 1) := by decide +kernel
theorem dX2_readOwned_17 : decode cX2_readOwned 17 = .ok (.aload_n 0, 1) := by decide +kernel
theorem dX2_readOwned_18 : decode cX2_readOwned 18 = .ok (.getfield 18, 3) := by decide +kernel
theorem dX2_readOwned_21 : decode cX2_readOwned 21 = .ok (.iconst 1, 1) := by decide +kernel
theorem dX2_readOwned_22 : decode cX2_readOwned 22 = .ok (.isub, 1) := by decide +kernel
theorem dX2_readOwned_23 : decode cX2_readOwned 23 = .ok (.invokevirtual 52, 3) := by decide +kernel
theorem dX2_readOwned_26 : decode cX2_readOwned 26 = .ok (.iastore, 1) := by decide +kernel
theorem dX2_readOwned_27 : decode cX2_readOwned 27 = .ok (.aload_n 0, 1) := by decide +kernel
theorem dX2_readOwned_28 : decode cX2_readOwned 28 = .ok (.getfield 11, 3) := by decide +kernel
theorem dX2_readOwned_31 : decode cX2_readOwned 31 = .ok (.bipush 61, 2) := by decide +kernel
theorem dX2_readOwned_33 : decode cX2_readOwned 33 = .ok (.iload_n 2, 1) := by decide +kernel
theorem dX2_readOwned_34 : decode cX2_readOwned 34 = .ok (.iadd, 1) := by decide +kernel
theorem dX2_readOwned_35 : decode cX2_readOwned 35 = .ok (.aload_n 1, 1) := by decide +kernel
theorem dX2_readOwned_36 : decode cX2_readOwned 36 = .ok (.iconst 0, 1) := by decide +kernel
theorem dX2_readOwned_37 : decode cX2_readOwned 37 = .ok (.bipush 40, 2) := by decide +kernel
theorem dX2_readOwned_39 : decode cX2_readOwned 39 = .ok (.invokevirtual 52, 3) := by decide +kernel
theorem dX2_readOwned_42 : decode cX2_readOwned 42 = .ok (.iastore, 1) := by decide +kernel
theorem dX2_readOwned_43 : decode cX2_readOwned 43 = .ok (.return_, 1) := by decide +kernel
theorem dX2_copyOfRow_0 : decode cX2_copyOfRow 0 = .ok (.aload_n 0, 1) := by decide +kernel
theorem dX2_copyOfRow_1 : decode cX2_copyOfRow 1 = .ok (.getfield 11, 3) := by decide +kernel
theorem dX2_copyOfRow_4 : decode cX2_copyOfRow 4 = .ok (.invokevirtual 64, 3) := by decide +kernel
theorem dX2_copyOfRow_7 : decode cX2_copyOfRow 7 = .ok (.checkcast 65, 3) := by decide +kernel
theorem dX2_copyOfRow_10 : decode cX2_copyOfRow 10 = .ok (.areturn, 1) := by decide +kernel
theorem dX2_takeRow_0 : decode cX2_takeRow 0 = .ok (.aload_n 1, 1) := by decide +kernel
theorem dX2_takeRow_1 : decode cX2_takeRow 1 = .ok (.ifnull 24, 3) := by decide +kernel
theorem dX2_takeRow_4 : decode cX2_takeRow 4 = .ok (.aload_n 1, 1) := by decide +kernel
theorem dX2_takeRow_5 : decode cX2_takeRow 5 = .ok (.arraylength, 1) := by decide +kernel
theorem dX2_takeRow_6 : decode cX2_takeRow 6 = .ok (.sipush 190, 3) := by decide +kernel
theorem dX2_takeRow_9 : decode cX2_takeRow 9 = .ok (.if_icmp .ne 16, 3) := by decide +kernel
theorem dX2_takeRow_12 : decode cX2_takeRow 12 = .ok (.aload_n 1, 1) := by decide +kernel
theorem dX2_takeRow_13 : decode cX2_takeRow 13 = .ok (.iconst 0, 1) := by decide +kernel
theorem dX2_takeRow_14 : decode cX2_takeRow 14 = .ok (.aload_n 0, 1) := by decide +kernel
theorem dX2_takeRow_15 : decode cX2_takeRow 15 = .ok (.getfield 11, 3) := by decide +kernel
theorem dX2_takeRow_18 : decode cX2_takeRow 18 = .ok (.iconst 0, 1) := by decide +kernel
theorem dX2_takeRow_19 : decode cX2_takeRow 19 = .ok (.sipush 190, 3) := by decide +kernel
theorem dX2_takeRow_22 : decode cX2_takeRow 22 = .ok (.invokestatic 69, 3) := by decide +kernel
theorem dX2_takeRow_25 : decode cX2_takeRow 25 = .ok (.return_, 1) := by decide +kernel
theorem dX2_become_0 : decode cX2_become 0 = .ok (.aload_n 0, 1) := by decide +kernel
theorem dX2_become_1 : decode cX2_become 1 = .ok (.aload_n 1, 1) := by decide +kernel
theorem dX2_become_2 : decode cX2_become 2 = .ok (.getfield 11, 3) := by decide +kernel
theorem dX2_become_5 : decode cX2_become 5 = .ok (.invokevirtual 75, 3) := by decide +kernel
theorem dX2_become_8 : decode cX2_become 8 = .ok (.aload_n 0, 1) := by decide +kernel
theorem dX2_become_9 : decode cX2_become 9 = .ok (.aload_n 1, 1) := by decide +kernel
theorem dX2_become_10 : decode cX2_become 10 = .ok (.getfield 18, 3) := by decide +kernel
theorem dX2_become_13 : decode cX2_become 13 = .ok (.putfield 18, 3) := by decide +kernel
theorem dX2_become_16 : decode cX2_become 16 = .ok (.aload_n 0, 1) := by decide +kernel
theorem dX2_become_17 : decode cX2_become 17 = .ok (.aload_n 1, 1) := by decide +kernel
theorem dX2_become_18 : decode cX2_become 18 = .ok (.getfield 22, 3) := by decide +kernel
theorem dX2_become_21 : decode cX2_become 21 = .ok (.putfield 22, 3) := by decide +kernel
theorem dX2_become_24 : decode cX2_become 24 = .ok (.return_, 1) := by decide +kernel
theorem dX2_owner_0 : decode cX2_owner 0 = .ok (.aload_n 0, 1) := by decide +kernel
theorem dX2_owner_1 : decode cX2_owner 1 = .ok (.getfield 11, 3) := by decide +kernel
theorem dX2_owner_4 : decode cX2_owner 4 = .ok (.iconst 0, 1) := by decide +kernel
theorem dX2_owner_5 : decode cX2_owner 5 = .ok (.iload_n 1, 1) := by decide +kernel
theorem dX2_owner_6 : decode cX2_owner 6 = .ok (.iadd, 1) := by decide +kernel
theorem dX2_owner_7 : decode cX2_owner 7 = .ok (.iaload, 1) := by decide +kernel
theorem dX2_owner_8 : decode cX2_owner 8 = .ok (.ireturn, 1) := by decide +kernel
theorem dX2_rent_0 : decode cX2_rent 0 = .ok (.aload_n 0, 1) := by decide +kernel
theorem dX2_rent_1 : decode cX2_rent 1 = .ok (.getfield 11, 3) := by decide +kernel
theorem dX2_rent_4 : decode cX2_rent 4 = .ok (.bipush 61, 2) := by decide +kernel
theorem dX2_rent_6 : decode cX2_rent 6 = .ok (.iload_n 1, 1) := by decide +kernel
theorem dX2_rent_7 : decode cX2_rent 7 = .ok (.iadd, 1) := by decide +kernel
theorem dX2_rent_8 : decode cX2_rent 8 = .ok (.iaload, 1) := by decide +kernel
theorem dX2_rent_9 : decode cX2_rent 9 = .ok (.ireturn, 1) := by decide +kernel
theorem dX2_used_0 : decode cX2_used 0 = .ok (.aload_n 0, 1) := by decide +kernel
theorem dX2_used_1 : decode cX2_used 1 = .ok (.getfield 11, 3) := by decide +kernel
theorem dX2_used_4 : decode cX2_used 4 = .ok (.bipush 122, 2) := by decide +kernel
theorem dX2_used_6 : decode cX2_used 6 = .ok (.iload_n 1, 1) := by decide +kernel
theorem dX2_used_7 : decode cX2_used 7 = .ok (.iadd, 1) := by decide +kernel
theorem dX2_used_8 : decode cX2_used 8 = .ok (.iaload, 1) := by decide +kernel
theorem dX2_used_9 : decode cX2_used 9 = .ok (.ireturn, 1) := by decide +kernel
theorem dX2_coins_0 : decode cX2_coins 0 = .ok (.aload_n 0, 1) := by decide +kernel
theorem dX2_coins_1 : decode cX2_coins 1 = .ok (.getfield 11, 3) := by decide +kernel
theorem dX2_coins_4 : decode cX2_coins 4 = .ok (.sipush 183, 3) := by decide +kernel
theorem dX2_coins_7 : decode cX2_coins 7 = .ok (.iload_n 1, 1) := by decide +kernel
theorem dX2_coins_8 : decode cX2_coins 8 = .ok (.iadd, 1) := by decide +kernel
theorem dX2_coins_9 : decode cX2_coins 9 = .ok (.iaload, 1) := by decide +kernel
theorem dX2_coins_10 : decode cX2_coins 10 = .ok (.ireturn, 1) := by decide +kernel
theorem dX2_day_0 : decode cX2_day 0 = .ok (.aload_n 0, 1) := by decide +kernel
theorem dX2_day_1 : decode cX2_day 1 = .ok (.getfield 11, 3) := by decide +kernel
theorem dX2_day_4 : decode cX2_day 4 = .ok (.sipush 189, 3) := by decide +kernel
theorem dX2_day_7 : decode cX2_day 7 = .ok (.iaload, 1) := by decide +kernel
theorem dX2_day_8 : decode cX2_day 8 = .ok (.ireturn, 1) := by decide +kernel
theorem dX2_price_0 : decode cX2_price 0 = .ok (.bipush 10, 2) := by decide +kernel
theorem dX2_price_2 : decode cX2_price 2 = .ok (.aload_n 0, 1) := by decide +kernel
theorem dX2_price_3 : decode cX2_price 3 = .ok (.iload_n 1, 1) := by decide +kernel
theorem dX2_price_4 : decode cX2_price 4 = .ok (.invokevirtual 79, 3) := by decide +kernel
theorem dX2_price_7 : decode cX2_price 7 = .ok (.imul, 1) := by decide +kernel
theorem dX2_price_8 : decode cX2_price 8 = .ok (.iconst 1, 1) := by decide +kernel
theorem dX2_price_9 : decode cX2_price 9 = .ok (.iadd, 1) := by decide +kernel
theorem dX2_price_10 : decode cX2_price 10 = .ok (.ireturn, 1) := by decide +kernel
theorem dX2_fareBy_0 : decode cX2_fareBy 0 = .ok (.aload_n 0, 1) := by decide +kernel
theorem dX2_fareBy_1 : decode cX2_fareBy 1 = .ok (.iload_n 2, 1) := by decide +kernel
theorem dX2_fareBy_2 : decode cX2_fareBy 2 = .ok (.invokevirtual 83, 3) := by decide +kernel
theorem dX2_fareBy_5 : decode cX2_fareBy 5 = .ok (.istore 4, 2) := by decide +kernel
theorem dX2_fareBy_7 : decode cX2_fareBy 7 = .ok (.iload 4, 2) := by decide +kernel
theorem dX2_fareBy_9 : decode cX2_fareBy 9 = .ok (.iconst (-1), 1) := by decide +kernel
theorem dX2_fareBy_10 : decode cX2_fareBy 10 = .ok (.if_icmp .ne 5, 3) := by decide +kernel
theorem dX2_fareBy_13 : decode cX2_fareBy 13 = .ok (.iconst 0, 1) := by decide +kernel
theorem dX2_fareBy_14 : decode cX2_fareBy 14 = .ok (.ireturn, 1) := by decide +kernel
theorem dX2_fareBy_15 : decode cX2_fareBy 15 = .ok (.aload_n 1, 1) := by decide +kernel
theorem dX2_fareBy_16 : decode cX2_fareBy 16 = .ok (.iload_n 2, 1) := by decide +kernel
theorem dX2_fareBy_17 : decode cX2_fareBy 17 = .ok (.aload_n 0, 1) := by decide +kernel
theorem dX2_fareBy_18 : decode cX2_fareBy 18 = .ok (.iload_n 2, 1) := by decide +kernel
theorem dX2_fareBy_19 : decode cX2_fareBy 19 = .ok (.invokevirtual 79, 3) := by decide +kernel
theorem dX2_fareBy_22 : decode cX2_fareBy 22 = .ok (.iload_n 3, 1) := by decide +kernel
theorem dX2_fareBy_23 : decode cX2_fareBy 23 = .ok (.iload 4, 2) := by decide +kernel
theorem dX2_fareBy_25 : decode cX2_fareBy 25 = .ok (.aload_n 0, 1) := by decide +kernel
theorem dX2_fareBy_26 : decode cX2_fareBy 26 = .ok (.iload_n 2, 1) := by decide +kernel
theorem dX2_fareBy_27 : decode cX2_fareBy 27 = .ok (.invokevirtual 86, 3) := by decide +kernel
theorem dX2_fareBy_30 : decode cX2_fareBy 30 = .ok (.aload_n 0, 1) := by decide +kernel
theorem dX2_fareBy_31 : decode cX2_fareBy 31 = .ok (.invokevirtual 89, 3) := by decide +kernel
theorem dX2_fareBy_34 : decode cX2_fareBy 34 = .ok (.invokevirtual 92, 3) := by decide +kernel
theorem dX2_fareBy_37 : decode cX2_fareBy 37 = .ok (.ireturn, 1) := by decide +kernel
theorem dX2_faresBy_0 : decode cX2_faresBy 0 = .ok (.iconst 0, 1) := by decide +kernel
theorem dX2_faresBy_1 : decode cX2_faresBy 1 = .ok (.istore 4, 2) := by decide +kernel
theorem dX2_faresBy_3 : decode cX2_faresBy 3 = .ok (.iload 4, 2) := by decide +kernel
theorem dX2_faresBy_5 : decode cX2_faresBy 5 = .ok (.aload_n 3, 1) := by decide +kernel
theorem dX2_faresBy_6 : decode cX2_faresBy 6 = .ok (.arraylength, 1) := by decide +kernel
theorem dX2_faresBy_7 : decode cX2_faresBy 7 = .ok (.if_icmp .ge 28, 3) := by decide +kernel
theorem dX2_faresBy_10 : decode cX2_faresBy 10 = .ok (.iload 4, 2) := by decide +kernel
theorem dX2_faresBy_12 : decode cX2_faresBy 12 = .ok (.bipush 60, 2) := by decide +kernel
theorem dX2_faresBy_14 : decode cX2_faresBy 14 = .ok (.if_icmp .gt 21, 3) := by decide +kernel
theorem dX2_faresBy_17 : decode cX2_faresBy 17 = .ok (.aload_n 3, 1) := by decide +kernel
theorem dX2_faresBy_18 : decode cX2_faresBy 18 = .ok (.iload 4, 2) := by decide +kernel
theorem dX2_faresBy_20 : decode cX2_faresBy 20 = .ok (.aload_n 0, 1) := by decide +kernel
theorem dX2_faresBy_21 : decode cX2_faresBy 21 = .ok (.aload_n 1, 1) := by decide +kernel
theorem dX2_faresBy_22 : decode cX2_faresBy 22 = .ok (.iload 4, 2) := by decide +kernel
theorem dX2_faresBy_24 : decode cX2_faresBy 24 = .ok (.iload_n 2, 1) := by decide +kernel
theorem dX2_faresBy_25 : decode cX2_faresBy 25 = .ok (.invokevirtual 98, 3) := by decide +kernel
theorem dX2_faresBy_28 : decode cX2_faresBy 28 = .ok (.iastore, 1) := by decide +kernel
theorem dX2_faresBy_29 : decode cX2_faresBy 29 = .ok (.iinc 4 1, 3) := by decide +kernel
theorem dX2_faresBy_32 : decode cX2_faresBy 32 = .ok (.goto (-29), 3) := by decide +kernel
theorem dX2_faresBy_35 : decode cX2_faresBy 35 = .ok (.return_, 1) := by decide +kernel
theorem dX2_use_0 : decode cX2_use 0 = .ok (.aload_n 0, 1) := by decide +kernel
theorem dX2_use_1 : decode cX2_use 1 = .ok (.iload_n 2, 1) := by decide +kernel
theorem dX2_use_2 : decode cX2_use 2 = .ok (.invokevirtual 83, 3) := by decide +kernel
theorem dX2_use_5 : decode cX2_use 5 = .ok (.istore 4, 2) := by decide +kernel
theorem dX2_use_7 : decode cX2_use 7 = .ok (.iload 4, 2) := by decide +kernel
theorem dX2_use_9 : decode cX2_use 9 = .ok (.iload_n 1, 1) := by decide +kernel
theorem dX2_use_10 : decode cX2_use 10 = .ok (.if_icmp .eq 22, 3) := by decide +kernel
theorem dX2_use_13 : decode cX2_use 13 = .ok (.iload_n 3, 1) := by decide +kernel
theorem dX2_use_14 : decode cX2_use 14 = .ok (.aload_n 0, 1) := by decide +kernel
theorem dX2_use_15 : decode cX2_use 15 = .ok (.iload_n 1, 1) := by decide +kernel
theorem dX2_use_16 : decode cX2_use 16 = .ok (.invokevirtual 102, 3) := by decide +kernel
theorem dX2_use_19 : decode cX2_use 19 = .ok (.if_icmp .le 5, 3) := by decide +kernel
theorem dX2_use_22 : decode cX2_use 22 = .ok (.iconst 0, 1) := by decide +kernel
theorem dX2_use_23 : decode cX2_use 23 = .ok (.ireturn, 1) := by decide +kernel
theorem dX2_use_24 : decode cX2_use 24 = .ok (.aload_n 0, 1) := by decide +kernel
theorem dX2_use_25 : decode cX2_use 25 = .ok (.iload_n 1, 1) := by decide +kernel
theorem dX2_use_26 : decode cX2_use 26 = .ok (.iload 4, 2) := by decide +kernel
theorem dX2_use_28 : decode cX2_use 28 = .ok (.iload_n 3, 1) := by decide +kernel
theorem dX2_use_29 : decode cX2_use 29 = .ok (.invokevirtual 105, 3) := by decide +kernel
theorem dX2_use_32 : decode cX2_use 32 = .ok (.aload_n 0, 1) := by decide +kernel
theorem dX2_use_33 : decode cX2_use 33 = .ok (.getfield 11, 3) := by decide +kernel
theorem dX2_use_36 : decode cX2_use 36 = .ok (.bipush 122, 2) := by decide +kernel
theorem dX2_use_38 : decode cX2_use 38 = .ok (.iload_n 2, 1) := by decide +kernel
theorem dX2_use_39 : decode cX2_use 39 = .ok (.iadd, 1) := by decide +kernel
theorem dX2_use_40 : decode cX2_use 40 = .ok (.dup2, 1) := by decide +kernel
theorem dX2_use_41 : decode cX2_use 41 = .ok (.iaload, 1) := by decide +kernel
theorem dX2_use_42 : decode cX2_use 42 = .ok (.iconst 1, 1) := by decide +kernel
theorem dX2_use_43 : decode cX2_use 43 = .ok (.iadd, 1) := by decide +kernel
theorem dX2_use_44 : decode cX2_use 44 = .ok (.iastore, 1) := by decide +kernel
theorem dX2_use_45 : decode cX2_use 45 = .ok (.iconst 1, 1) := by decide +kernel
theorem dX2_use_46 : decode cX2_use 46 = .ok (.ireturn, 1) := by decide +kernel
theorem dX2_sell_0 : decode cX2_sell 0 = .ok (.aload_n 0, 1) := by decide +kernel
theorem dX2_sell_1 : decode cX2_sell 1 = .ok (.iload_n 1, 1) := by decide +kernel
theorem dX2_sell_2 : decode cX2_sell 2 = .ok (.invokevirtual 83, 3) := by decide +kernel
theorem dX2_sell_5 : decode cX2_sell 5 = .ok (.istore 4, 2) := by decide +kernel
theorem dX2_sell_7 : decode cX2_sell 7 = .ok (.iload 4, 2) := by decide +kernel
theorem dX2_sell_9 : decode cX2_sell 9 = .ok (.iload_n 2, 1) := by decide +kernel
theorem dX2_sell_10 : decode cX2_sell 10 = .ok (.if_icmp .eq 12, 3) := by decide +kernel
theorem dX2_sell_13 : decode cX2_sell 13 = .ok (.iload_n 3, 1) := by decide +kernel
theorem dX2_sell_14 : decode cX2_sell 14 = .ok (.aload_n 0, 1) := by decide +kernel
theorem dX2_sell_15 : decode cX2_sell 15 = .ok (.iload_n 2, 1) := by decide +kernel
theorem dX2_sell_16 : decode cX2_sell 16 = .ok (.invokevirtual 102, 3) := by decide +kernel
theorem dX2_sell_19 : decode cX2_sell 19 = .ok (.if_icmp .le 5, 3) := by decide +kernel
theorem dX2_sell_22 : decode cX2_sell 22 = .ok (.iconst 0, 1) := by decide +kernel
theorem dX2_sell_23 : decode cX2_sell 23 = .ok (.ireturn, 1) := by decide +kernel
theorem dX2_sell_24 : decode cX2_sell 24 = .ok (.aload_n 0, 1) := by decide +kernel
theorem dX2_sell_25 : decode cX2_sell 25 = .ok (.iload_n 2, 1) := by decide +kernel
theorem dX2_sell_26 : decode cX2_sell 26 = .ok (.iload 4, 2) := by decide +kernel
theorem dX2_sell_28 : decode cX2_sell 28 = .ok (.iload_n 3, 1) := by decide +kernel
theorem dX2_sell_29 : decode cX2_sell 29 = .ok (.invokevirtual 105, 3) := by decide +kernel
theorem dX2_sell_32 : decode cX2_sell 32 = .ok (.aload_n 0, 1) := by decide +kernel
theorem dX2_sell_33 : decode cX2_sell 33 = .ok (.getfield 11, 3) := by decide +kernel
theorem dX2_sell_36 : decode cX2_sell 36 = .ok (.iconst 0, 1) := by decide +kernel
theorem dX2_sell_37 : decode cX2_sell 37 = .ok (.iload_n 1, 1) := by decide +kernel
theorem dX2_sell_38 : decode cX2_sell 38 = .ok (.iadd, 1) := by decide +kernel
theorem dX2_sell_39 : decode cX2_sell 39 = .ok (.iload_n 2, 1) := by decide +kernel
theorem dX2_sell_40 : decode cX2_sell 40 = .ok (.iastore, 1) := by decide +kernel
theorem dX2_sell_41 : decode cX2_sell 41 = .ok (.iconst 1, 1) := by decide +kernel
theorem dX2_sell_42 : decode cX2_sell 42 = .ok (.ireturn, 1) := by decide +kernel
theorem dX2_pay_0 : decode cX2_pay 0 = .ok (.aload_n 0, 1) := by decide +kernel
theorem dX2_pay_1 : decode cX2_pay 1 = .ok (.getfield 11, 3) := by decide +kernel
theorem dX2_pay_4 : decode cX2_pay 4 = .ok (.sipush 183, 3) := by decide +kernel
theorem dX2_pay_7 : decode cX2_pay 7 = .ok (.iload_n 1, 1) := by decide +kernel
theorem dX2_pay_8 : decode cX2_pay 8 = .ok (.iadd, 1) := by decide +kernel
theorem dX2_pay_9 : decode cX2_pay 9 = .ok (.dup2, 1) := by decide +kernel
theorem dX2_pay_10 : decode cX2_pay 10 = .ok (.iaload, 1) := by decide +kernel
theorem dX2_pay_11 : decode cX2_pay 11 = .ok (.iload_n 3, 1) := by decide +kernel
theorem dX2_pay_12 : decode cX2_pay 12 = .ok (.isub, 1) := by decide +kernel
theorem dX2_pay_13 : decode cX2_pay 13 = .ok (.iastore, 1) := by decide +kernel
theorem dX2_pay_14 : decode cX2_pay 14 = .ok (.iload_n 2, 1) := by decide +kernel
theorem dX2_pay_15 : decode cX2_pay 15 = .ok (.iconst (-1), 1) := by decide +kernel
theorem dX2_pay_16 : decode cX2_pay 16 = .ok (.if_icmp .eq 31, 3) := by decide +kernel
theorem dX2_pay_19 : decode cX2_pay 19 = .ok (.aload_n 0, 1) := by decide +kernel
theorem dX2_pay_20 : decode cX2_pay 20 = .ok (.getfield 11, 3) := by decide +kernel
theorem dX2_pay_23 : decode cX2_pay 23 = .ok (.sipush 183, 3) := by decide +kernel
theorem dX2_pay_26 : decode cX2_pay 26 = .ok (.iload_n 2, 1) := by decide +kernel
theorem dX2_pay_27 : decode cX2_pay 27 = .ok (.iadd, 1) := by decide +kernel
theorem dX2_pay_28 : decode cX2_pay 28 = .ok (.sipush 9999, 3) := by decide +kernel
theorem dX2_pay_31 : decode cX2_pay 31 = .ok (.aload_n 0, 1) := by decide +kernel
theorem dX2_pay_32 : decode cX2_pay 32 = .ok (.getfield 11, 3) := by decide +kernel
theorem dX2_pay_35 : decode cX2_pay 35 = .ok (.sipush 183, 3) := by decide +kernel
theorem dX2_pay_38 : decode cX2_pay 38 = .ok (.iload_n 2, 1) := by decide +kernel
theorem dX2_pay_39 : decode cX2_pay 39 = .ok (.iadd, 1) := by decide +kernel
theorem dX2_pay_40 : decode cX2_pay 40 = .ok (.iaload, 1) := by decide +kernel
theorem dX2_pay_41 : decode cX2_pay 41 = .ok (.iload_n 3, 1) := by decide +kernel
theorem dX2_pay_42 : decode cX2_pay 42 = .ok (.iadd, 1) := by decide +kernel
theorem dX2_pay_43 : decode cX2_pay 43 = .ok (.invokestatic 109, 3) := by decide +kernel
theorem dX2_pay_46 : decode cX2_pay 46 = .ok (.iastore, 1) := by decide +kernel
theorem dX2_pay_47 : decode cX2_pay 47 = .ok (.return_, 1) := by decide +kernel
theorem dX2_let_0 : decode cX2_let 0 = .ok (.aload_n 0, 1) := by decide +kernel
theorem dX2_let_1 : decode cX2_let 1 = .ok (.iload_n 1, 1) := by decide +kernel
theorem dX2_let_2 : decode cX2_let 2 = .ok (.invokevirtual 83, 3) := by decide +kernel
theorem dX2_let_5 : decode cX2_let 5 = .ok (.iconst (-1), 1) := by decide +kernel
theorem dX2_let_6 : decode cX2_let 6 = .ok (.if_icmp .eq 12, 3) := by decide +kernel
theorem dX2_let_9 : decode cX2_let 9 = .ok (.aload_n 0, 1) := by decide +kernel
theorem dX2_let_10 : decode cX2_let 10 = .ok (.iload_n 1, 1) := by decide +kernel
theorem dX2_let_11 : decode cX2_let 11 = .ok (.invokevirtual 79, 3) := by decide +kernel
theorem dX2_let_14 : decode cX2_let 14 = .ok (.iload_n 2, 1) := by decide +kernel
theorem dX2_let_15 : decode cX2_let 15 = .ok (.if_icmp .ne 5, 3) := by decide +kernel
theorem dX2_let_18 : decode cX2_let 18 = .ok (.iconst 0, 1) := by decide +kernel
theorem dX2_let_19 : decode cX2_let 19 = .ok (.ireturn, 1) := by decide +kernel
theorem dX2_let_20 : decode cX2_let 20 = .ok (.aload_n 0, 1) := by decide +kernel
theorem dX2_let_21 : decode cX2_let 21 = .ok (.getfield 11, 3) := by decide +kernel
theorem dX2_let_24 : decode cX2_let 24 = .ok (.bipush 61, 2) := by decide +kernel
theorem dX2_let_26 : decode cX2_let 26 = .ok (.iload_n 1, 1) := by decide +kernel
theorem dX2_let_27 : decode cX2_let 27 = .ok (.iadd, 1) := by decide +kernel
theorem dX2_let_28 : decode cX2_let 28 = .ok (.iload_n 2, 1) := by decide +kernel
theorem dX2_let_29 : decode cX2_let 29 = .ok (.iastore, 1) := by decide +kernel
theorem dX2_let_30 : decode cX2_let 30 = .ok (.iconst 1, 1) := by decide +kernel
theorem dX2_let_31 : decode cX2_let 31 = .ok (.ireturn, 1) := by decide +kernel
theorem dX2_nextDay_0 : decode cX2_nextDay 0 = .ok (.aload_n 0, 1) := by decide +kernel
theorem dX2_nextDay_1 : decode cX2_nextDay 1 = .ok (.getfield 11, 3) := by decide +kernel
theorem dX2_nextDay_4 : decode cX2_nextDay 4 = .ok (.sipush 189, 3) := by decide +kernel
theorem dX2_nextDay_7 : decode cX2_nextDay 7 = .ok (.dup2, 1) := by decide +kernel
theorem dX2_nextDay_8 : decode cX2_nextDay 8 = .ok (.iaload, 1) := by decide +kernel
theorem dX2_nextDay_9 : decode cX2_nextDay 9 = .ok (.iconst 1, 1) := by decide +kernel
theorem dX2_nextDay_10 : decode cX2_nextDay 10 = .ok (.iadd, 1) := by decide +kernel
theorem dX2_nextDay_11 : decode cX2_nextDay 11 = .ok (.iastore, 1) := by decide +kernel
theorem dX2_nextDay_12 : decode cX2_nextDay 12 = .ok (.iconst 0, 1) := by decide +kernel
theorem dX2_nextDay_13 : decode cX2_nextDay 13 = .ok (.istore_n 1, 1) := by decide +kernel
theorem dX2_nextDay_14 : decode cX2_nextDay 14 = .ok (.iload_n 1, 1) := by decide +kernel
theorem dX2_nextDay_15 : decode cX2_nextDay 15 = .ok (.bipush 60, 2) := by decide +kernel
theorem dX2_nextDay_17 : decode cX2_nextDay 17 = .ok (.if_icmp .gt 19, 3) := by decide +kernel
theorem dX2_nextDay_20 : decode cX2_nextDay 20 = .ok (.aload_n 0, 1) := by decide +kernel
theorem dX2_nextDay_21 : decode cX2_nextDay 21 = .ok (.getfield 11, 3) := by decide +kernel
theorem dX2_nextDay_24 : decode cX2_nextDay 24 = .ok (.bipush 122, 2) := by decide +kernel
theorem dX2_nextDay_26 : decode cX2_nextDay 26 = .ok (.iload_n 1, 1) := by decide +kernel
theorem dX2_nextDay_27 : decode cX2_nextDay 27 = .ok (.iadd, 1) := by decide +kernel
theorem dX2_nextDay_28 : decode cX2_nextDay 28 = .ok (.iconst 0, 1) := by decide +kernel
theorem dX2_nextDay_29 : decode cX2_nextDay 29 = .ok (.iastore, 1) := by decide +kernel
theorem dX2_nextDay_30 : decode cX2_nextDay 30 = .ok (.iinc 1 1, 3) := by decide +kernel
theorem dX2_nextDay_33 : decode cX2_nextDay 33 = .ok (.goto (-19), 3) := by decide +kernel
theorem dX2_nextDay_36 : decode cX2_nextDay 36 = .ok (.return_, 1) := by decide +kernel
theorem dX2_owned_0 : decode cX2_owned 0 = .ok (.iconst 0, 1) := by decide +kernel
theorem dX2_owned_1 : decode cX2_owned 1 = .ok (.istore_n 1, 1) := by decide +kernel
theorem dX2_owned_2 : decode cX2_owned 2 = .ok (.iconst 0, 1) := by decide +kernel
theorem dX2_owned_3 : decode cX2_owned 3 = .ok (.istore_n 2, 1) := by decide +kernel
theorem dX2_owned_4 : decode cX2_owned 4 = .ok (.iload_n 2, 1) := by decide +kernel
theorem dX2_owned_5 : decode cX2_owned 5 = .ok (.bipush 60, 2) := by decide +kernel
theorem dX2_owned_7 : decode cX2_owned 7 = .ok (.if_icmp .gt 21, 3) := by decide +kernel
theorem dX2_owned_10 : decode cX2_owned 10 = .ok (.aload_n 0, 1) := by decide +kernel
theorem dX2_owned_11 : decode cX2_owned 11 = .ok (.iload_n 2, 1) := by decide +kernel
theorem dX2_owned_12 : decode cX2_owned 12 = .ok (.invokevirtual 83, 3) := by decide +kernel
theorem dX2_owned_15 : decode cX2_owned 15 = .ok (.iconst (-1), 1) := by decide +kernel
theorem dX2_owned_16 : decode cX2_owned 16 = .ok (.if_icmp .eq 6, 3) := by decide +kernel
theorem dX2_owned_19 : decode cX2_owned 19 = .ok (.iinc 1 1, 3) := by decide +kernel
theorem dX2_owned_22 : decode cX2_owned 22 = .ok (.iinc 2 1, 3) := by decide +kernel
theorem dX2_owned_25 : decode cX2_owned 25 = .ok (.goto (-21), 3) := by decide +kernel
theorem dX2_owned_28 : decode cX2_owned 28 = .ok (.iload_n 1, 1) := by decide +kernel
theorem dX2_owned_29 : decode cX2_owned 29 = .ok (.ireturn, 1) := by decide +kernel
theorem dX2_uses_0 : decode cX2_uses 0 = .ok (.iconst 0, 1) := by decide +kernel
theorem dX2_uses_1 : decode cX2_uses 1 = .ok (.istore_n 1, 1) := by decide +kernel
theorem dX2_uses_2 : decode cX2_uses 2 = .ok (.iconst 0, 1) := by decide +kernel
theorem dX2_uses_3 : decode cX2_uses 3 = .ok (.istore_n 2, 1) := by decide +kernel
theorem dX2_uses_4 : decode cX2_uses 4 = .ok (.iload_n 2, 1) := by decide +kernel
theorem dX2_uses_5 : decode cX2_uses 5 = .ok (.bipush 60, 2) := by decide +kernel
theorem dX2_uses_7 : decode cX2_uses 7 = .ok (.if_icmp .gt 17, 3) := by decide +kernel
theorem dX2_uses_10 : decode cX2_uses 10 = .ok (.iload_n 1, 1) := by decide +kernel
theorem dX2_uses_11 : decode cX2_uses 11 = .ok (.aload_n 0, 1) := by decide +kernel
theorem dX2_uses_12 : decode cX2_uses 12 = .ok (.iload_n 2, 1) := by decide +kernel
theorem dX2_uses_13 : decode cX2_uses 13 = .ok (.invokevirtual 86, 3) := by decide +kernel
theorem dX2_uses_16 : decode cX2_uses 16 = .ok (.iadd, 1) := by decide +kernel
theorem dX2_uses_17 : decode cX2_uses 17 = .ok (.istore_n 1, 1) := by decide +kernel
theorem dX2_uses_18 : decode cX2_uses 18 = .ok (.iinc 2 1, 3) := by decide +kernel
theorem dX2_uses_21 : decode cX2_uses 21 = .ok (.goto (-17), 3) := by decide +kernel
theorem dX2_uses_24 : decode cX2_uses 24 = .ok (.iload_n 1, 1) := by decide +kernel
theorem dX2_uses_25 : decode cX2_uses 25 = .ok (.ireturn, 1) := by decide +kernel
theorem dX2_allCoins_0 : decode cX2_allCoins 0 = .ok (.aload_n 0, 1) := by decide +kernel
theorem dX2_allCoins_1 : decode cX2_allCoins 1 = .ok (.sipush 9999, 3) := by decide +kernel
theorem dX2_allCoins_4 : decode cX2_allCoins 4 = .ok (.invokevirtual 114, 3) := by decide +kernel
theorem dX2_allCoins_7 : decode cX2_allCoins 7 = .ok (.ireturn, 1) := by decide +kernel
theorem dX2_givenBy_0 : decode cX2_givenBy 0 = .ok (.iconst 0, 1) := by decide +kernel
theorem dX2_givenBy_1 : decode cX2_givenBy 1 = .ok (.istore_n 2, 1) := by decide +kernel
theorem dX2_givenBy_2 : decode cX2_givenBy 2 = .ok (.iconst 0, 1) := by decide +kernel
theorem dX2_givenBy_3 : decode cX2_givenBy 3 = .ok (.istore_n 3, 1) := by decide +kernel
theorem dX2_givenBy_4 : decode cX2_givenBy 4 = .ok (.iload_n 3, 1) := by decide +kernel
theorem dX2_givenBy_5 : decode cX2_givenBy 5 = .ok (.aload_n 0, 1) := by decide +kernel
theorem dX2_givenBy_6 : decode cX2_givenBy 6 = .ok (.getfield 18, 3) := by decide +kernel
theorem dX2_givenBy_9 : decode cX2_givenBy 9 = .ok (.if_icmp .ge 21, 3) := by decide +kernel
theorem dX2_givenBy_12 : decode cX2_givenBy 12 = .ok (.iload_n 2, 1) := by decide +kernel
theorem dX2_givenBy_13 : decode cX2_givenBy 13 = .ok (.iload_n 1, 1) := by decide +kernel
theorem dX2_givenBy_14 : decode cX2_givenBy 14 = .ok (.aload_n 0, 1) := by decide +kernel
theorem dX2_givenBy_15 : decode cX2_givenBy 15 = .ok (.iload_n 3, 1) := by decide +kernel
theorem dX2_givenBy_16 : decode cX2_givenBy 16 = .ok (.invokevirtual 102, 3) := by decide +kernel
theorem dX2_givenBy_19 : decode cX2_givenBy 19 = .ok (.invokestatic 109, 3) := by decide +kernel
theorem dX2_givenBy_22 : decode cX2_givenBy 22 = .ok (.iadd, 1) := by decide +kernel
theorem dX2_givenBy_23 : decode cX2_givenBy 23 = .ok (.istore_n 2, 1) := by decide +kernel
theorem dX2_givenBy_24 : decode cX2_givenBy 24 = .ok (.iinc 3 1, 3) := by decide +kernel
theorem dX2_givenBy_27 : decode cX2_givenBy 27 = .ok (.goto (-23), 3) := by decide +kernel
theorem dX2_givenBy_30 : decode cX2_givenBy 30 = .ok (.iload_n 2, 1) := by decide +kernel
theorem dX2_givenBy_31 : decode cX2_givenBy 31 = .ok (.ireturn, 1) := by decide +kernel
theorem dX2_richest_0 : decode cX2_richest 0 = .ok (.iconst 0, 1) := by decide +kernel
theorem dX2_richest_1 : decode cX2_richest 1 = .ok (.istore_n 1, 1) := by decide +kernel
theorem dX2_richest_2 : decode cX2_richest 2 = .ok (.iconst 0, 1) := by decide +kernel
theorem dX2_richest_3 : decode cX2_richest 3 = .ok (.istore_n 2, 1) := by decide +kernel
theorem dX2_richest_4 : decode cX2_richest 4 = .ok (.iload_n 2, 1) := by decide +kernel
theorem dX2_richest_5 : decode cX2_richest 5 = .ok (.aload_n 0, 1) := by decide +kernel
theorem dX2_richest_6 : decode cX2_richest 6 = .ok (.getfield 18, 3) := by decide +kernel
theorem dX2_richest_9 : decode cX2_richest 9 = .ok (.if_icmp .ge 19, 3) := by decide +kernel
theorem dX2_richest_12 : decode cX2_richest 12 = .ok (.iload_n 1, 1) := by decide +kernel
theorem dX2_richest_13 : decode cX2_richest 13 = .ok (.aload_n 0, 1) := by decide +kernel
theorem dX2_richest_14 : decode cX2_richest 14 = .ok (.iload_n 2, 1) := by decide +kernel
theorem dX2_richest_15 : decode cX2_richest 15 = .ok (.invokevirtual 102, 3) := by decide +kernel
theorem dX2_richest_18 : decode cX2_richest 18 = .ok (.invokestatic 117, 3) := by decide +kernel
theorem dX2_richest_21 : decode cX2_richest 21 = .ok (.istore_n 1, 1) := by decide +kernel
theorem dX2_richest_22 : decode cX2_richest 22 = .ok (.iinc 2 1, 3) := by decide +kernel
theorem dX2_richest_25 : decode cX2_richest 25 = .ok (.goto (-21), 3) := by decide +kernel
theorem dX2_richest_28 : decode cX2_richest 28 = .ok (.iload_n 1, 1) := by decide +kernel
theorem dX2_richest_29 : decode cX2_richest 29 = .ok (.ireturn, 1) := by decide +kernel
theorem dX2_numbersOf_0 : decode cX2_numbersOf 0 = .ok (.iconst 0, 1) := by decide +kernel
theorem dX2_numbersOf_1 : decode cX2_numbersOf 1 = .ok (.istore_n 2, 1) := by decide +kernel
theorem dX2_numbersOf_2 : decode cX2_numbersOf 2 = .ok (.iconst 0, 1) := by decide +kernel
theorem dX2_numbersOf_3 : decode cX2_numbersOf 3 = .ok (.istore_n 3, 1) := by decide +kernel
theorem dX2_numbersOf_4 : decode cX2_numbersOf 4 = .ok (.iload_n 3, 1) := by decide +kernel
theorem dX2_numbersOf_5 : decode cX2_numbersOf 5 = .ok (.bipush 60, 2) := by decide +kernel
theorem dX2_numbersOf_7 : decode cX2_numbersOf 7 = .ok (.if_icmp .gt 21, 3) := by decide +kernel
theorem dX2_numbersOf_10 : decode cX2_numbersOf 10 = .ok (.aload_n 0, 1) := by decide +kernel
theorem dX2_numbersOf_11 : decode cX2_numbersOf 11 = .ok (.iload_n 3, 1) := by decide +kernel
theorem dX2_numbersOf_12 : decode cX2_numbersOf 12 = .ok (.invokevirtual 83, 3) := by decide +kernel
theorem dX2_numbersOf_15 : decode cX2_numbersOf 15 = .ok (.iload_n 1, 1) := by decide +kernel
theorem dX2_numbersOf_16 : decode cX2_numbersOf 16 = .ok (.if_icmp .ne 6, 3) := by decide +kernel
theorem dX2_numbersOf_19 : decode cX2_numbersOf 19 = .ok (.iinc 2 1, 3) := by decide +kernel
theorem dX2_numbersOf_22 : decode cX2_numbersOf 22 = .ok (.iinc 3 1, 3) := by decide +kernel
theorem dX2_numbersOf_25 : decode cX2_numbersOf 25 = .ok (.goto (-21), 3) := by decide +kernel
theorem dX2_numbersOf_28 : decode cX2_numbersOf 28 = .ok (.iload_n 2, 1) := by decide +kernel
theorem dX2_numbersOf_29 : decode cX2_numbersOf 29 = .ok (.ireturn, 1) := by decide +kernel
theorem dX2_rentsOf_0 : decode cX2_rentsOf 0 = .ok (.iconst 0, 1) := by decide +kernel
theorem dX2_rentsOf_1 : decode cX2_rentsOf 1 = .ok (.istore_n 2, 1) := by decide +kernel
theorem dX2_rentsOf_2 : decode cX2_rentsOf 2 = .ok (.iconst 0, 1) := by decide +kernel
theorem dX2_rentsOf_3 : decode cX2_rentsOf 3 = .ok (.istore_n 3, 1) := by decide +kernel
theorem dX2_rentsOf_4 : decode cX2_rentsOf 4 = .ok (.iload_n 3, 1) := by decide +kernel
theorem dX2_rentsOf_5 : decode cX2_rentsOf 5 = .ok (.bipush 60, 2) := by decide +kernel
theorem dX2_rentsOf_7 : decode cX2_rentsOf 7 = .ok (.if_icmp .gt 26, 3) := by decide +kernel
theorem dX2_rentsOf_10 : decode cX2_rentsOf 10 = .ok (.aload_n 0, 1) := by decide +kernel
theorem dX2_rentsOf_11 : decode cX2_rentsOf 11 = .ok (.iload_n 3, 1) := by decide +kernel
theorem dX2_rentsOf_12 : decode cX2_rentsOf 12 = .ok (.invokevirtual 83, 3) := by decide +kernel
theorem dX2_rentsOf_15 : decode cX2_rentsOf 15 = .ok (.iload_n 1, 1) := by decide +kernel
theorem dX2_rentsOf_16 : decode cX2_rentsOf 16 = .ok (.if_icmp .ne 11, 3) := by decide +kernel
theorem dX2_rentsOf_19 : decode cX2_rentsOf 19 = .ok (.iload_n 2, 1) := by decide +kernel
theorem dX2_rentsOf_20 : decode cX2_rentsOf 20 = .ok (.aload_n 0, 1) := by decide +kernel
theorem dX2_rentsOf_21 : decode cX2_rentsOf 21 = .ok (.iload_n 3, 1) := by decide +kernel
theorem dX2_rentsOf_22 : decode cX2_rentsOf 22 = .ok (.invokevirtual 79, 3) := by decide +kernel
theorem dX2_rentsOf_25 : decode cX2_rentsOf 25 = .ok (.iadd, 1) := by decide +kernel
theorem dX2_rentsOf_26 : decode cX2_rentsOf 26 = .ok (.istore_n 2, 1) := by decide +kernel
theorem dX2_rentsOf_27 : decode cX2_rentsOf 27 = .ok (.iinc 3 1, 3) := by decide +kernel
theorem dX2_rentsOf_30 : decode cX2_rentsOf 30 = .ok (.goto (-26), 3) := by decide +kernel
theorem dX2_rentsOf_33 : decode cX2_rentsOf 33 = .ok (.iload_n 2, 1) := by decide +kernel
theorem dX2_rentsOf_34 : decode cX2_rentsOf 34 = .ok (.ireturn, 1) := by decide +kernel
theorem dX2_leastOf_0 : decode cX2_leastOf 0 = .ok (.iconst 0, 1) := by decide +kernel
theorem dX2_leastOf_1 : decode cX2_leastOf 1 = .ok (.istore_n 2, 1) := by decide +kernel
theorem dX2_leastOf_2 : decode cX2_leastOf 2 = .ok (.iload_n 2, 1) := by decide +kernel
theorem dX2_leastOf_3 : decode cX2_leastOf 3 = .ok (.bipush 60, 2) := by decide +kernel
theorem dX2_leastOf_5 : decode cX2_leastOf 5 = .ok (.if_icmp .gt 20, 3) := by decide +kernel
theorem dX2_leastOf_8 : decode cX2_leastOf 8 = .ok (.aload_n 0, 1) := by decide +kernel
theorem dX2_leastOf_9 : decode cX2_leastOf 9 = .ok (.iload_n 2, 1) := by decide +kernel
theorem dX2_leastOf_10 : decode cX2_leastOf 10 = .ok (.invokevirtual 83, 3) := by decide +kernel
theorem dX2_leastOf_13 : decode cX2_leastOf 13 = .ok (.iload_n 1, 1) := by decide +kernel
theorem dX2_leastOf_14 : decode cX2_leastOf 14 = .ok (.if_icmp .ne 5, 3) := by decide +kernel
theorem dX2_leastOf_17 : decode cX2_leastOf 17 = .ok (.iload_n 2, 1) := by decide +kernel
theorem dX2_leastOf_18 : decode cX2_leastOf 18 = .ok (.ireturn, 1) := by decide +kernel
theorem dX2_leastOf_19 : decode cX2_leastOf 19 = .ok (.iinc 2 1, 3) := by decide +kernel
theorem dX2_leastOf_22 : decode cX2_leastOf 22 = .ok (.goto (-20), 3) := by decide +kernel
theorem dX2_leastOf_25 : decode cX2_leastOf 25 = .ok (.iconst (-1), 1) := by decide +kernel
theorem dX2_leastOf_26 : decode cX2_leastOf 26 = .ok (.ireturn, 1) := by decide +kernel
theorem dX2_greatestOf_0 : decode cX2_greatestOf 0 = .ok (.bipush 60, 2) := by decide +kernel
theorem dX2_greatestOf_2 : decode cX2_greatestOf 2 = .ok (.istore_n 2, 1) := by decide +kernel
theorem dX2_greatestOf_3 : decode cX2_greatestOf 3 = .ok (.iload_n 2, 1) := by decide +kernel
theorem dX2_greatestOf_4 : decode cX2_greatestOf 4 = .ok (.ifCond .lt 20, 3) := by decide +kernel
theorem dX2_greatestOf_7 : decode cX2_greatestOf 7 = .ok (.aload_n 0, 1) := by decide +kernel
theorem dX2_greatestOf_8 : decode cX2_greatestOf 8 = .ok (.iload_n 2, 1) := by decide +kernel
theorem dX2_greatestOf_9 : decode cX2_greatestOf 9 = .ok (.invokevirtual 83, 3) := by decide +kernel
theorem dX2_greatestOf_12 : decode cX2_greatestOf 12 = .ok (.iload_n 1, 1) := by decide +kernel
theorem dX2_greatestOf_13 : decode cX2_greatestOf 13 = .ok (.if_icmp .ne 5, 3) := by decide +kernel
theorem dX2_greatestOf_16 : decode cX2_greatestOf 16 = .ok (.iload_n 2, 1) := by decide +kernel
theorem dX2_greatestOf_17 : decode cX2_greatestOf 17 = .ok (.ireturn, 1) := by decide +kernel
theorem dX2_greatestOf_18 : decode cX2_greatestOf 18 = .ok (.iinc 2 (-1), 3) := by decide +kernel
theorem dX2_greatestOf_21 : decode cX2_greatestOf 21 = .ok (.goto (-18), 3) := by decide +kernel
theorem dX2_greatestOf_24 : decode cX2_greatestOf 24 = .ok (.iconst (-1), 1) := by decide +kernel
theorem dX2_greatestOf_25 : decode cX2_greatestOf 25 = .ok (.ireturn, 1) := by decide +kernel
theorem dX3_init_0 : decode cX3_init 0 = .ok (.aload_n 0, 1) := by decide +kernel
theorem dX3_init_1 : decode cX3_init 1 = .ok (.invokespecial 3, 3) := by decide +kernel
theorem dX3_init_4 : decode cX3_init 4 = .ok (.aload_n 0, 1) := by decide +kernel
theorem dX3_init_5 : decode cX3_init 5 = .ok (.sipush 150, 3) := by decide +kernel
theorem dX3_init_8 : decode cX3_init 8 = .ok (.newarray .int, 2) := by decide +kernel
theorem dX3_init_10 : decode cX3_init 10 = .ok (.putfield 11, 3) := by decide +kernel
theorem dX3_init_13 : decode cX3_init 13 = .ok (.aload_n 0, 1) := by decide +kernel
theorem dX3_init_14 : decode cX3_init 14 = .ok (.sipush 150, 3) := by decide +kernel
theorem dX3_init_17 : decode cX3_init 17 = .ok (.newarray .int, 2) := by decide +kernel
theorem dX3_init_19 : decode cX3_init 19 = .ok (.putfield 15, 3) := by decide +kernel
theorem dX3_init_22 : decode cX3_init 22 = .ok (.aload_n 0, 1) := by decide +kernel
theorem dX3_init_23 : decode cX3_init 23 = .ok (.bipush 32, 2) := by decide +kernel
theorem dX3_init_25 : decode cX3_init 25 = .ok (.newarray .int, 2) := by decide +kernel
theorem dX3_init_27 : decode cX3_init 27 = .ok (.putfield 18, 3) := by decide +kernel
theorem dX3_init_30 : decode cX3_init 30 = .ok (.aload_n 0, 1) := by decide +kernel
theorem dX3_init_31 : decode cX3_init 31 = .ok (.bipush 7, 2) := by decide +kernel
theorem dX3_init_33 : decode cX3_init 33 = .ok (.newarray .int, 2) := by decide +kernel
theorem dX3_init_35 : decode cX3_init 35 = .ok (.putfield 21, 3) := by decide +kernel
theorem dX3_init_38 : decode cX3_init 38 = .ok (.return_, 1) := by decide +kernel
theorem dX3_forget_0 : decode cX3_forget 0 = .ok (.aload_n 0, 1) := by decide +kernel
theorem dX3_forget_1 : decode cX3_forget 1 = .ok (.iconst 0, 1) := by decide +kernel
theorem dX3_forget_2 : decode cX3_forget 2 = .ok (.putfield 24, 3) := by decide +kernel
theorem dX3_forget_5 : decode cX3_forget 5 = .ok (.return_, 1) := by decide +kernel
theorem dX3_read_0 : decode cX3_read 0 = .ok (.aload_n 0, 1) := by decide +kernel
theorem dX3_read_1 : decode cX3_read 1 = .ok (.iconst 0, 1) := by decide +kernel
theorem dX3_read_2 : decode cX3_read 2 = .ok (.putfield 24, 3) := by decide +kernel
theorem dX3_read_5 : decode cX3_read 5 = .ok (.aload_n 0, 1) := by decide +kernel
theorem dX3_read_6 : decode cX3_read 6 = .ok (.aload_n 1, 1) := by decide +kernel
theorem dX3_read_7 : decode cX3_read 7 = .ok (.iconst 0, 1) := by decide +kernel
theorem dX3_read_8 : decode cX3_read 8 = .ok (.invokevirtual 28, 3) := by decide +kernel
theorem dX3_read_11 : decode cX3_read 11 = .ok (.aload_n 1, 1) := by decide +kernel
theorem dX3_read_12 : decode cX3_read 12 = .ok (.invokevirtual 32, 3) := by decide +kernel
theorem dX3_read_15 : decode cX3_read 15 = .ok (.ireturn, 1) := by decide +kernel
theorem dX3_readSum_0 : decode cX3_readSum 0 = .ok (.aload_n 0, 1) := by decide +kernel
theorem dX3_readSum_1 : decode cX3_readSum 1 = .ok (.aload_n 1, 1) := by decide +kernel
theorem dX3_readSum_2 : decode cX3_readSum 2 = .ok (.iload_n 2, 1) := by decide +kernel
theorem dX3_readSum_3 : decode cX3_readSum 3 = .ok (.invokevirtual 38, 3) := by decide +kernel
theorem dX3_readSum_6 : decode cX3_readSum 6 = .ok (.iconst 0, 1) := by decide +kernel
theorem dX3_readSum_7 : decode cX3_readSum 7 = .ok (.istore_n 3, 1) := by decide +kernel
theorem dX3_readSum_8 : decode cX3_readSum 8 = .ok (.iload_n 3, 1) := by decide +kernel
theorem dX3_readSum_9 : decode cX3_readSum 9 = .ok (.sipush 150, 3) := by decide +kernel
theorem dX3_readSum_12 : decode cX3_readSum 12 = .ok (.if_icmp .ge 59, 3) := by decide +kernel
theorem dX3_readSum_15 : decode cX3_readSum 15 = .ok (.aload_n 1, 1) := by decide +kernel
theorem dX3_readSum_16 : decode cX3_readSum 16 = .ok (.invokevirtual 41, 3) := by decide +kernel
theorem dX3_readSum_19 : decode cX3_readSum 19 = .ok (.istore 4, 2) := by decide +kernel
theorem dX3_readSum_21 : decode cX3_readSum 21 = .ok (.iload 4, 2) := by decide +kernel
theorem dX3_readSum_23 : decode cX3_readSum 23 = .ok (.bipush 43, 2) := by decide +kernel
theorem dX3_readSum_25 : decode cX3_readSum 25 = .ok (.if_icmp .eq 11, 3) := by decide +kernel
theorem dX3_readSum_28 : decode cX3_readSum 28 = .ok (.iload 4, 2) := by decide +kernel
theorem dX3_readSum_30 : decode cX3_readSum 30 = .ok (.bipush 45, 2) := by decide +kernel
theorem dX3_readSum_32 : decode cX3_readSum 32 = .ok (.if_icmp .eq 4, 3) := by decide +kernel
theorem dX3_readSum_35 : decode cX3_readSum 35 = .ok (.return_, 1) := by decide +kernel
theorem dX3_readSum_36 : decode cX3_readSum 36 = .ok (.aload_n 1, 1) := by decide +kernel
theorem dX3_readSum_37 : decode cX3_readSum 37 = .ok (.iload 4, 2) := by decide +kernel
theorem dX3_readSum_39 : decode cX3_readSum 39 = .ok (.invokevirtual 45, 3) := by decide +kernel
theorem dX3_readSum_42 : decode cX3_readSum 42 = .ok (.aload_n 0, 1) := by decide +kernel
theorem dX3_readSum_43 : decode cX3_readSum 43 = .ok (.aload_n 1, 1) := by decide +kernel
theorem dX3_readSum_44 : decode cX3_readSum 44 = .ok (.iload_n 2, 1) := by decide +kernel
theorem dX3_readSum_45 : decode cX3_readSum 45 = .ok (.invokevirtual 38, 3) := by decide +kernel
theorem dX3_readSum_48 : decode cX3_readSum 48 = .ok (.aload_n 0, 1) := by decide +kernel
theorem dX3_readSum_49 : decode cX3_readSum 49 = .ok (.iload 4, 2) := by decide +kernel
theorem dX3_readSum_51 : decode cX3_readSum 51 = .ok (.bipush 43, 2) := by decide +kernel
theorem dX3_readSum_53 : decode cX3_readSum 53 = .ok (.if_icmp .ne 7, 3) := by decide +kernel
theorem dX3_readSum_56 : decode cX3_readSum 56 = .ok (.iconst 2, 1) := by decide +kernel
theorem dX3_readSum_57 : decode cX3_readSum 57 = .ok (.goto 4, 3) := by decide +kernel
theorem dX3_readSum_60 : decode cX3_readSum 60 = .ok (.iconst 3, 1) := by decide +kernel
theorem dX3_readSum_61 : decode cX3_readSum 61 = .ok (.iconst 0, 1) := by decide +kernel
theorem dX3_readSum_62 : decode cX3_readSum 62 = .ok (.invokevirtual 49, 3) := by decide +kernel
theorem dX3_readSum_65 : decode cX3_readSum 65 = .ok (.iinc 3 1, 3) := by decide +kernel
theorem dX3_readSum_68 : decode cX3_readSum 68 = .ok (.goto (-60), 3) := by decide +kernel
theorem dX3_readSum_71 : decode cX3_readSum 71 = .ok (.return_, 1) := by decide +kernel
theorem dX3_readProduct_0 : decode cX3_readProduct 0 = .ok (.aload_n 0, 1) := by decide +kernel
theorem dX3_readProduct_1 : decode cX3_readProduct 1 = .ok (.aload_n 1, 1) := by decide +kernel
theorem dX3_readProduct_2 : decode cX3_readProduct 2 = .ok (.iload_n 2, 1) := by decide +kernel
theorem dX3_readProduct_3 : decode cX3_readProduct 3 = .ok (.invokevirtual 53, 3) := by decide +kernel
theorem dX3_readProduct_6 : decode cX3_readProduct 6 = .ok (.iconst 0, 1) := by decide +kernel
theorem dX3_readProduct_7 : decode cX3_readProduct 7 = .ok (.istore_n 3, 1) := by decide +kernel
theorem dX3_readProduct_8 : decode cX3_readProduct 8 = .ok (.iload_n 3, 1) := by decide +kernel
theorem dX3_readProduct_9 : decode cX3_readProduct 9 = .ok (.sipush 150, 3) := by decide +kernel
theorem dX3_readProduct_12 : decode cX3_readProduct 12 = .ok (.if_icmp .ge 78, 3) := by decide +kernel
theorem dX3_readProduct_15 : decode cX3_readProduct 15 = .ok (.aload_n 1, 1) := by decide +kernel
theorem dX3_readProduct_16 : decode cX3_readProduct 16 = .ok (.invokevirtual 41, 3) := by decide +kernel
theorem dX3_readProduct_19 : decode cX3_readProduct 19 = .ok (.istore 4, 2) := by decide +kernel
theorem dX3_readProduct_21 : decode cX3_readProduct 21 = .ok (.iload 4, 2) := by decide +kernel
theorem dX3_readProduct_23 : decode cX3_readProduct 23 = .ok (.bipush 42, 2) := by decide +kernel
theorem dX3_readProduct_25 : decode cX3_readProduct 25 = .ok (.if_icmp .eq 18, 3) := by decide +kernel
theorem dX3_readProduct_28 : decode cX3_readProduct 28 = .ok (.iload 4, 2) := by decide +kernel
theorem dX3_readProduct_30 : decode cX3_readProduct 30 = .ok (.bipush 47, 2) := by decide +kernel
theorem dX3_readProduct_32 : decode cX3_readProduct 32 = .ok (.if_icmp .eq 11, 3) := by decide +kernel
theorem dX3_readProduct_35 : decode cX3_readProduct 35 = .ok (.iload 4, 2) := by decide +kernel
theorem dX3_readProduct_37 : decode cX3_readProduct 37 = .ok (.bipush 37, 2) := by decide +kernel
theorem dX3_readProduct_39 : decode cX3_readProduct 39 = .ok (.if_icmp .eq 4, 3) := by decide +kernel
theorem dX3_readProduct_42 : decode cX3_readProduct 42 = .ok (.return_, 1) := by decide +kernel
theorem dX3_readProduct_43 : decode cX3_readProduct 43 = .ok (.aload_n 1, 1) := by decide +kernel
theorem dX3_readProduct_44 : decode cX3_readProduct 44 = .ok (.iload 4, 2) := by decide +kernel
theorem dX3_readProduct_46 : decode cX3_readProduct 46 = .ok (.invokevirtual 45, 3) := by decide +kernel
theorem dX3_readProduct_49 : decode cX3_readProduct 49 = .ok (.aload_n 0, 1) := by decide +kernel
theorem dX3_readProduct_50 : decode cX3_readProduct 50 = .ok (.aload_n 1, 1) := by decide +kernel
theorem dX3_readProduct_51 : decode cX3_readProduct 51 = .ok (.iload_n 2, 1) := by decide +kernel
theorem dX3_readProduct_52 : decode cX3_readProduct 52 = .ok (.invokevirtual 53, 3) := by decide +kernel
theorem dX3_readProduct_55 : decode cX3_readProduct 55 = .ok (.aload_n 0, 1) := by decide +kernel
theorem dX3_readProduct_56 : decode cX3_readProduct 56 = .ok (.iload 4, 2) := by decide +kernel
theorem dX3_readProduct_58 : decode cX3_readProduct 58 = .ok (.bipush 42, 2) := by decide +kernel
theorem dX3_readProduct_60 : decode cX3_readProduct 60 = .ok (.if_icmp .ne 7, 3) := by decide +kernel
theorem dX3_readProduct_63 : decode cX3_readProduct 63 = .ok (.iconst 4, 1) := by decide +kernel
theorem dX3_readProduct_64 : decode cX3_readProduct 64 = .ok (.goto 16, 3) := by decide +kernel
theorem dX3_readProduct_67 : decode cX3_readProduct 67 = .ok (.iload 4, 2) := by decide +kernel
theorem dX3_readProduct_69 : decode cX3_readProduct 69 = .ok (.bipush 47, 2) := by decide +kernel
theorem dX3_readProduct_71 : decode cX3_readProduct 71 = .ok (.if_icmp .ne 7, 3) := by decide +kernel
theorem dX3_readProduct_74 : decode cX3_readProduct 74 = .ok (.iconst 5, 1) := by decide +kernel
theorem dX3_readProduct_75 : decode cX3_readProduct 75 = .ok (.goto 5, 3) := by decide +kernel
theorem dX3_readProduct_78 : decode cX3_readProduct 78 = .ok (.bipush 6, 2) := by decide +kernel
theorem dX3_readProduct_80 : decode cX3_readProduct 80 = .ok (.iconst 0, 1) := by decide +kernel
theorem dX3_readProduct_81 : decode cX3_readProduct 81 = .ok (.invokevirtual 49, 3) := by decide +kernel
theorem dX3_readProduct_84 : decode cX3_readProduct 84 = .ok (.iinc 3 1, 3) := by decide +kernel
theorem dX3_readProduct_87 : decode cX3_readProduct 87 = .ok (.goto (-79), 3) := by decide +kernel
theorem dX3_readProduct_90 : decode cX3_readProduct 90 = .ok (.return_, 1) := by decide +kernel
theorem dX3_readUnit_0 : decode cX3_readUnit 0 = .ok (.aload_n 1, 1) := by decide +kernel
theorem dX3_readUnit_1 : decode cX3_readUnit 1 = .ok (.invokevirtual 41, 3) := by decide +kernel
theorem dX3_readUnit_4 : decode cX3_readUnit 4 = .ok (.istore_n 3, 1) := by decide +kernel
theorem dX3_readUnit_5 : decode cX3_readUnit 5 = .ok (.aload_n 1, 1) := by decide +kernel
theorem dX3_readUnit_6 : decode cX3_readUnit 6 = .ok (.getfield 56, 3) := by decide +kernel
theorem dX3_readUnit_9 : decode cX3_readUnit 9 = .ok (.istore 4, 2) := by decide +kernel
theorem dX3_readUnit_11 : decode cX3_readUnit 11 = .ok (.iload_n 3, 1) := by decide +kernel
theorem dX3_readUnit_12 : decode cX3_readUnit 12 = .ok (.bipush 48, 2) := by decide +kernel
theorem dX3_readUnit_14 : decode cX3_readUnit 14 = .ok (.if_icmp .lt 25, 3) := by decide +kernel
theorem dX3_readUnit_17 : decode cX3_readUnit 17 = .ok (.iload_n 3, 1) := by decide +kernel
theorem dX3_readUnit_18 : decode cX3_readUnit 18 = .ok (.bipush 57, 2) := by decide +kernel
theorem dX3_readUnit_20 : decode cX3_readUnit 20 = .ok (.if_icmp .gt 19, 3) := by decide +kernel
theorem dX3_readUnit_23 : decode cX3_readUnit 23 = .ok (.aload_n 0, 1) := by decide +kernel
theorem dX3_readUnit_24 : decode cX3_readUnit 24 = .ok (.iconst 0, 1) := by decide +kernel
theorem dX3_readUnit_25 : decode cX3_readUnit 25 = .ok (.aload_n 1, 1) := by decide +kernel
theorem dX3_readUnit_26 : decode cX3_readUnit 26 = .ok (.iconst 0, 1) := by decide +kernel
theorem dX3_readUnit_27 : decode cX3_readUnit 27 = .ok (.sipush 999, 3) := by decide +kernel
theorem dX3_readUnit_30 : decode cX3_readUnit 30 = .ok (.invokevirtual 59, 3) := by decide +kernel
theorem dX3_readUnit_33 : decode cX3_readUnit 33 = .ok (.invokevirtual 49, 3) := by decide +kernel
theorem dX3_readUnit_36 : decode cX3_readUnit 36 = .ok (.goto 109, 3) := by decide +kernel
theorem dX3_readUnit_39 : decode cX3_readUnit 39 = .ok (.iload_n 3, 1) := by decide +kernel
theorem dX3_readUnit_40 : decode cX3_readUnit 40 = .ok (.bipush 40, 2) := by decide +kernel
theorem dX3_readUnit_42 : decode cX3_readUnit 42 = .ok (.if_icmp .ne 36, 3) := by decide +kernel
theorem dX3_readUnit_45 : decode cX3_readUnit 45 = .ok (.aload_n 1, 1) := by decide +kernel
theorem dX3_readUnit_46 : decode cX3_readUnit 46 = .ok (.iload_n 2, 1) := by decide +kernel
theorem dX3_readUnit_47 : decode cX3_readUnit 47 = .ok (.iload 4, 2) := by decide +kernel
theorem dX3_readUnit_49 : decode cX3_readUnit 49 = .ok (.invokestatic 63, 3) := by decide +kernel
theorem dX3_readUnit_52 : decode cX3_readUnit 52 = .ok (.ifCond .eq 93, 3) := by decide +kernel
theorem dX3_readUnit_55 : decode cX3_readUnit 55 = .ok (.aload_n 1, 1) := by decide +kernel
theorem dX3_readUnit_56 : decode cX3_readUnit 56 = .ok (.bipush 40, 2) := by decide +kernel
theorem dX3_readUnit_58 : decode cX3_readUnit 58 = .ok (.invokevirtual 45, 3) := by decide +kernel
theorem dX3_readUnit_61 : decode cX3_readUnit 61 = .ok (.aload_n 0, 1) := by decide +kernel
theorem dX3_readUnit_62 : decode cX3_readUnit 62 = .ok (.aload_n 1, 1) := by decide +kernel
theorem dX3_readUnit_63 : decode cX3_readUnit 63 = .ok (.iload_n 2, 1) := by decide +kernel
theorem dX3_readUnit_64 : decode cX3_readUnit 64 = .ok (.iconst 1, 1) := by decide +kernel
theorem dX3_readUnit_65 : decode cX3_readUnit 65 = .ok (.iadd, 1) := by decide +kernel
theorem dX3_readUnit_66 : decode cX3_readUnit 66 = .ok (.invokevirtual 28, 3) := by decide +kernel
theorem dX3_readUnit_69 : decode cX3_readUnit 69 = .ok (.aload_n 1, 1) := by decide +kernel
theorem dX3_readUnit_70 : decode cX3_readUnit 70 = .ok (.bipush 41, 2) := by decide +kernel
theorem dX3_readUnit_72 : decode cX3_readUnit 72 = .ok (.invokevirtual 45, 3) := by decide +kernel
theorem dX3_readUnit_75 : decode cX3_readUnit 75 = .ok (.goto 70, 3) := by decide +kernel
theorem dX3_readUnit_78 : decode cX3_readUnit 78 = .ok (.aload_n 1, 1) := by decide +kernel
theorem dX3_readUnit_79 : decode cX3_readUnit 79 = .ok (.ldc 67, 2) := by decide +kernel
theorem dX3_readUnit_81 : decode cX3_readUnit 81 = .ok (.invokevirtual 69, 3) := by decide +kernel
theorem dX3_readUnit_84 : decode cX3_readUnit 84 = .ok (.istore 5, 2) := by decide +kernel
theorem dX3_readUnit_86 : decode cX3_readUnit 86 = .ok (.iload 5, 2) := by decide +kernel
theorem dX3_readUnit_88 : decode cX3_readUnit 88 = .ok (.bipush 7, 2) := by decide +kernel
theorem dX3_readUnit_90 : decode cX3_readUnit 90 = .ok (.if_icmp .lt 43, 3) := by decide +kernel
theorem dX3_readUnit_93 : decode cX3_readUnit 93 = .ok (.aload_n 1, 1) := by decide +kernel
theorem dX3_readUnit_94 : decode cX3_readUnit 94 = .ok (.iload_n 2, 1) := by decide +kernel
theorem dX3_readUnit_95 : decode cX3_readUnit 95 = .ok (.iload 4, 2) := by decide +kernel
theorem dX3_readUnit_97 : decode cX3_readUnit 97 = .ok (.invokestatic 63, 3) := by decide +kernel
theorem dX3_readUnit_100 : decode cX3_readUnit 100 = .ok (.ifCond .eq 45, 3) := by decide +kernel
theorem dX3_readUnit_103 : decode cX3_readUnit 103 = .ok (.aload_n 0, 1) := by decide +kernel
theorem dX3_readUnit_104 : decode cX3_readUnit 104 = .ok (.aload_n 1, 1) := by decide +kernel
theorem dX3_readUnit_105 : decode cX3_readUnit 105 = .ok (.iload_n 2, 1) := by decide +kernel
theorem dX3_readUnit_106 : decode cX3_readUnit 106 = .ok (.iconst 1, 1) := by decide +kernel
theorem dX3_readUnit_107 : decode cX3_readUnit 107 = .ok (.iadd, 1) := by decide +kernel
theorem dX3_readUnit_108 : decode cX3_readUnit 108 = .ok (.invokevirtual 73, 3) := by decide +kernel
theorem dX3_readUnit_111 : decode cX3_readUnit 111 = .ok (.aload_n 0, 1) := by decide +kernel
theorem dX3_readUnit_112 : decode cX3_readUnit 112 = .ok (.iload 5, 2) := by decide +kernel
theorem dX3_readUnit_114 : decode cX3_readUnit 114 = .ok (.bipush 7, 2) := by decide +kernel
theorem dX3_readUnit_116 : decode cX3_readUnit 116 = .ok (.if_icmp .ne 8, 3) := by decide +kernel
theorem dX3_readUnit_119 : decode cX3_readUnit 119 = .ok (.bipush 7, 2) := by decide +kernel
theorem dX3_readUnit_121 : decode cX3_readUnit 121 = .ok (.goto 5, 3) := by decide +kernel
theorem dX3_readUnit_124 : decode cX3_readUnit 124 = .ok (.bipush 8, 2) := by decide +kernel
theorem dX3_readUnit_126 : decode cX3_readUnit 126 = .ok (.iconst 0, 1) := by decide +kernel
theorem dX3_readUnit_127 : decode cX3_readUnit 127 = .ok (.invokevirtual 49, 3) := by decide +kernel
theorem dX3_readUnit_130 : decode cX3_readUnit 130 = .ok (.goto 15, 3) := by decide +kernel
theorem dX3_readUnit_133 : decode cX3_readUnit 133 = .ok (.iload 5, 2) := by decide +kernel
theorem dX3_readUnit_135 : decode cX3_readUnit 135 = .ok (.ifCond .lt 10, 3) := by decide +kernel
theorem dX3_readUnit_138 : decode cX3_readUnit 138 = .ok (.aload_n 0, 1) := by decide +kernel
theorem dX3_readUnit_139 : decode cX3_readUnit 139 = .ok (.iconst 1, 1) := by decide +kernel
theorem dX3_readUnit_140 : decode cX3_readUnit 140 = .ok (.iload 5, 2) := by decide +kernel
theorem dX3_readUnit_142 : decode cX3_readUnit 142 = .ok (.invokevirtual 49, 3) := by decide +kernel
theorem dX3_readUnit_145 : decode cX3_readUnit 145 = .ok (.return_, 1) := by decide +kernel
theorem dX3_readPair_0 : decode cX3_readPair 0 = .ok (.aload_n 1, 1) := by decide +kernel
theorem dX3_readPair_1 : decode cX3_readPair 1 = .ok (.bipush 91, 2) := by decide +kernel
theorem dX3_readPair_3 : decode cX3_readPair 3 = .ok (.invokevirtual 45, 3) := by decide +kernel
theorem dX3_readPair_6 : decode cX3_readPair 6 = .ok (.aload_n 0, 1) := by decide +kernel
theorem dX3_readPair_7 : decode cX3_readPair 7 = .ok (.aload_n 1, 1) := by decide +kernel
theorem dX3_readPair_8 : decode cX3_readPair 8 = .ok (.iload_n 2, 1) := by decide +kernel
theorem dX3_readPair_9 : decode cX3_readPair 9 = .ok (.invokevirtual 28, 3) := by decide +kernel
theorem dX3_readPair_12 : decode cX3_readPair 12 = .ok (.aload_n 1, 1) := by decide +kernel
theorem dX3_readPair_13 : decode cX3_readPair 13 = .ok (.bipush 44, 2) := by decide +kernel
theorem dX3_readPair_15 : decode cX3_readPair 15 = .ok (.invokevirtual 45, 3) := by decide +kernel
theorem dX3_readPair_18 : decode cX3_readPair 18 = .ok (.aload_n 0, 1) := by decide +kernel
theorem dX3_readPair_19 : decode cX3_readPair 19 = .ok (.aload_n 1, 1) := by decide +kernel
theorem dX3_readPair_20 : decode cX3_readPair 20 = .ok (.iload_n 2, 1) := by decide +kernel
theorem dX3_readPair_21 : decode cX3_readPair 21 = .ok (.invokevirtual 28, 3) := by decide +kernel
theorem dX3_readPair_24 : decode cX3_readPair 24 = .ok (.aload_n 1, 1) := by decide +kernel
theorem dX3_readPair_25 : decode cX3_readPair 25 = .ok (.bipush 93, 2) := by decide +kernel
theorem dX3_readPair_27 : decode cX3_readPair 27 = .ok (.invokevirtual 45, 3) := by decide +kernel
theorem dX3_readPair_30 : decode cX3_readPair 30 = .ok (.return_, 1) := by decide +kernel
theorem dX3_mayOpen_0 : decode cX3_mayOpen 0 = .ok (.iload_n 1, 1) := by decide +kernel
theorem dX3_mayOpen_1 : decode cX3_mayOpen 1 = .ok (.bipush 6, 2) := by decide +kernel
theorem dX3_mayOpen_3 : decode cX3_mayOpen 3 = .ok (.if_icmp .lt 11, 3) := by decide +kernel
theorem dX3_mayOpen_6 : decode cX3_mayOpen 6 = .ok (.aload_n 0, 1) := by decide +kernel
theorem dX3_mayOpen_7 : decode cX3_mayOpen 7 = .ok (.iconst 3, 1) := by decide +kernel
theorem dX3_mayOpen_8 : decode cX3_mayOpen 8 = .ok (.iload_n 2, 1) := by decide +kernel
theorem dX3_mayOpen_9 : decode cX3_mayOpen 9 = .ok (.invokevirtual 76, 3) := by decide +kernel
theorem dX3_mayOpen_12 : decode cX3_mayOpen 12 = .ok (.iconst 0, 1) := by decide +kernel
theorem dX3_mayOpen_13 : decode cX3_mayOpen 13 = .ok (.ireturn, 1) := by decide +kernel
theorem dX3_mayOpen_14 : decode cX3_mayOpen 14 = .ok (.iconst 1, 1) := by decide +kernel
theorem dX3_mayOpen_15 : decode cX3_mayOpen 15 = .ok (.ireturn, 1) := by decide +kernel
theorem dX3_add_0 : decode cX3_add 0 = .ok (.aload_n 0, 1) := by decide +kernel
theorem dX3_add_1 : decode cX3_add 1 = .ok (.getfield 24, 3) := by decide +kernel
theorem dX3_add_4 : decode cX3_add 4 = .ok (.sipush 150, 3) := by decide +kernel
theorem dX3_add_7 : decode cX3_add 7 = .ok (.if_icmp .ge 33, 3) := by decide +kernel
theorem dX3_add_10 : decode cX3_add 10 = .ok (.aload_n 0, 1) := by decide +kernel
theorem dX3_add_11 : decode cX3_add 11 = .ok (.getfield 11, 3) := by decide +kernel
theorem dX3_add_14 : decode cX3_add 14 = .ok (.aload_n 0, 1) := by decide +kernel
theorem dX3_add_15 : decode cX3_add 15 = .ok (.getfield 24, 3) := by decide +kernel
theorem dX3_add_18 : decode cX3_add 18 = .ok (.iload_n 1, 1) := by decide +kernel
theorem dX3_add_19 : decode cX3_add 19 = .ok (.iastore, 1) := by decide +kernel
theorem dX3_add_20 : decode cX3_add 20 = .ok (.aload_n 0, 1) := by decide +kernel
theorem dX3_add_21 : decode cX3_add 21 = .ok (.getfield 15, 3) := by decide +kernel
theorem dX3_add_24 : decode cX3_add 24 = .ok (.aload_n 0, 1) := by decide +kernel
theorem dX3_add_25 : decode cX3_add 25 = .ok (.getfield 24, 3) := by decide +kernel
theorem dX3_add_28 : decode cX3_add 28 = .ok (.iload_n 2, 1) := by decide +kernel
theorem dX3_add_29 : decode cX3_add 29 = .ok (.iastore, 1) := by decide +kernel
theorem dX3_add_30 : decode cX3_add 30 = .ok (.aload_n 0, 1) := by decide +kernel
theorem dX3_add_31 : decode cX3_add 31 = .ok (.dup, 1) := by decide +kernel
theorem dX3_add_32 : decode cX3_add 32 = .ok (.getfield 24, 3) := by decide +kernel
theorem dX3_add_35 : decode cX3_add 35 = .ok (.iconst 1, 1) := by decide +kernel
theorem dX3_add_36 : decode cX3_add 36 = .ok (.iadd, 1) := by decide +kernel
theorem dX3_add_37 : decode cX3_add 37 = .ok (.putfield 24, 3) := by decide +kernel
theorem dX3_add_40 : decode cX3_add 40 = .ok (.return_, 1) := by decide +kernel
theorem dX3_asks_0 : decode cX3_asks 0 = .ok (.aload_n 0, 1) := by decide +kernel
theorem dX3_asks_1 : decode cX3_asks 1 = .ok (.getfield 21, 3) := by decide +kernel
theorem dX3_asks_4 : decode cX3_asks 4 = .ok (.iconst 0, 1) := by decide +kernel
theorem dX3_asks_5 : decode cX3_asks 5 = .ok (.iload_n 1, 1) := by decide +kernel
theorem dX3_asks_6 : decode cX3_asks 6 = .ok (.iastore, 1) := by decide +kernel
theorem dX3_asks_7 : decode cX3_asks 7 = .ok (.aload_n 0, 1) := by decide +kernel
theorem dX3_asks_8 : decode cX3_asks 8 = .ok (.getfield 21, 3) := by decide +kernel
theorem dX3_asks_11 : decode cX3_asks 11 = .ok (.iconst 1, 1) := by decide +kernel
theorem dX3_asks_12 : decode cX3_asks 12 = .ok (.iload_n 2, 1) := by decide +kernel
theorem dX3_asks_13 : decode cX3_asks 13 = .ok (.iastore, 1) := by decide +kernel
theorem dX3_asks_14 : decode cX3_asks 14 = .ok (.aload_n 0, 1) := by decide +kernel
theorem dX3_asks_15 : decode cX3_asks 15 = .ok (.getfield 21, 3) := by decide +kernel
theorem dX3_asks_18 : decode cX3_asks 18 = .ok (.iconst 2, 1) := by decide +kernel
theorem dX3_asks_19 : decode cX3_asks 19 = .ok (.iload_n 3, 1) := by decide +kernel
theorem dX3_asks_20 : decode cX3_asks 20 = .ok (.iastore, 1) := by decide +kernel
theorem dX3_asks_21 : decode cX3_asks 21 = .ok (.aload_n 0, 1) := by decide +kernel
theorem dX3_asks_22 : decode cX3_asks 22 = .ok (.getfield 21, 3) := by decide +kernel
theorem dX3_asks_25 : decode cX3_asks 25 = .ok (.iconst 3, 1) := by decide +kernel
theorem dX3_asks_26 : decode cX3_asks 26 = .ok (.iload 4, 2) := by decide +kernel
theorem dX3_asks_28 : decode cX3_asks 28 = .ok (.iastore, 1) := by decide +kernel
theorem dX3_asks_29 : decode cX3_asks 29 = .ok (.aload_n 0, 1) := by decide +kernel
theorem dX3_asks_30 : decode cX3_asks 30 = .ok (.getfield 21, 3) := by decide +kernel
theorem dX3_asks_33 : decode cX3_asks 33 = .ok (.iconst 4, 1) := by decide +kernel
theorem dX3_asks_34 : decode cX3_asks 34 = .ok (.iload_n 1, 1) := by decide +kernel
theorem dX3_asks_35 : decode cX3_asks 35 = .ok (.ifCond .lt 17, 3) := by decide +kernel
theorem dX3_asks_38 : decode cX3_asks 38 = .ok (.iload_n 1, 1) := by decide +kernel
theorem dX3_asks_39 : decode cX3_asks 39 = .ok (.bipush 60, 2) := by decide +kernel
theorem dX3_asks_41 : decode cX3_asks 41 = .ok (.if_icmp .gt 11, 3) := by decide +kernel
theorem dX3_asks_44 : decode cX3_asks 44 = .ok (.getstatic 79, 3) := by decide +kernel
theorem dX3_asks_47 : decode cX3_asks 47 = .ok (.iload_n 1, 1) := by decide +kernel
theorem dX3_asks_48 : decode cX3_asks 48 = .ok (.iaload, 1) := by decide +kernel
theorem dX3_asks_49 : decode cX3_asks 49 = .ok (.goto 4, 3) := by decide +kernel
theorem dX3_asks_52 : decode cX3_asks 52 = .ok (.iconst 0, 1) := by decide +kernel
theorem dX3_asks_53 : decode cX3_asks 53 = .ok (.iastore, 1) := by decide +kernel
theorem dX3_asks_54 : decode cX3_asks 54 = .ok (.aload_n 0, 1) := by decide +kernel
theorem dX3_asks_55 : decode cX3_asks 55 = .ok (.getfield 21, 3) := by decide +kernel
theorem dX3_asks_58 : decode cX3_asks 58 = .ok (.iconst 5, 1) := by decide +kernel
theorem dX3_asks_59 : decode cX3_asks 59 = .ok (.iload 5, 2) := by decide +kernel
theorem dX3_asks_61 : decode cX3_asks 61 = .ok (.iastore, 1) := by decide +kernel
theorem dX3_asks_62 : decode cX3_asks 62 = .ok (.aload_n 0, 1) := by decide +kernel
theorem dX3_asks_63 : decode cX3_asks 63 = .ok (.getfield 21, 3) := by decide +kernel
theorem dX3_asks_66 : decode cX3_asks 66 = .ok (.bipush 6, 2) := by decide +kernel
theorem dX3_asks_68 : decode cX3_asks 68 = .ok (.iload 6, 2) := by decide +kernel
theorem dX3_asks_70 : decode cX3_asks 70 = .ok (.iastore, 1) := by decide +kernel
theorem dX3_asks_71 : decode cX3_asks 71 = .ok (.aload_n 0, 1) := by decide +kernel
theorem dX3_asks_72 : decode cX3_asks 72 = .ok (.getfield 24, 3) := by decide +kernel
theorem dX3_asks_75 : decode cX3_asks 75 = .ok (.ifCond .ne 14, 3) := by decide +kernel
theorem dX3_asks_78 : decode cX3_asks 78 = .ok (.iconst 5, 1) := by decide +kernel
theorem dX3_asks_79 : decode cX3_asks 79 = .ok (.iload_n 2, 1) := by decide +kernel
theorem dX3_asks_80 : decode cX3_asks 80 = .ok (.iconst 1, 1) := by decide +kernel
theorem dX3_asks_81 : decode cX3_asks 81 = .ok (.iload_n 3, 1) := by decide +kernel
theorem dX3_asks_82 : decode cX3_asks 82 = .ok (.iadd, 1) := by decide +kernel
theorem dX3_asks_83 : decode cX3_asks 83 = .ok (.invokestatic 82, 3) := by decide +kernel
theorem dX3_asks_86 : decode cX3_asks 86 = .ok (.goto 7, 3) := by decide +kernel
theorem dX3_asks_89 : decode cX3_asks 89 = .ok (.aload_n 0, 1) := by decide +kernel
theorem dX3_asks_90 : decode cX3_asks 90 = .ok (.invokevirtual 86, 3) := by decide +kernel
theorem dX3_asks_93 : decode cX3_asks 93 = .ok (.istore 7, 2) := by decide +kernel
theorem dX3_asks_95 : decode cX3_asks 95 = .ok (.iload 7, 2) := by decide +kernel
theorem dX3_asks_97 : decode cX3_asks 97 = .ok (.ifCond .ge 5, 3) := by decide +kernel
theorem dX3_asks_100 : decode cX3_asks 100 = .ok (.iconst 0, 1) := by decide +kernel
theorem dX3_asks_101 : decode cX3_asks 101 = .ok (.ireturn, 1) := by decide +kernel
theorem dX3_asks_102 : decode cX3_asks 102 = .ok (.iload 7, 2) := by decide +kernel
theorem dX3_asks_104 : decode cX3_asks 104 = .ok (.bipush 99, 2) := by decide +kernel
theorem dX3_asks_106 : decode cX3_asks 106 = .ok (.if_icmp .le 8, 3) := by decide +kernel
theorem dX3_asks_109 : decode cX3_asks 109 = .ok (.bipush 99, 2) := by decide +kernel
theorem dX3_asks_111 : decode cX3_asks 111 = .ok (.goto 5, 3) := by decide +kernel
theorem dX3_asks_114 : decode cX3_asks 114 = .ok (.iload 7, 2) := by decide +kernel
theorem dX3_asks_116 : decode cX3_asks 116 = .ok (.ireturn, 1) := by decide +kernel
theorem dX3_followed_0 : decode cX3_followed 0 = .ok (.iconst 0, 1) := by decide +kernel
theorem dX3_followed_1 : decode cX3_followed 1 = .ok (.istore_n 1, 1) := by decide +kernel
theorem dX3_followed_2 : decode cX3_followed 2 = .ok (.iconst 0, 1) := by decide +kernel
theorem dX3_followed_3 : decode cX3_followed 3 = .ok (.istore_n 2, 1) := by decide +kernel
theorem dX3_followed_4 : decode cX3_followed 4 = .ok (.iload_n 2, 1) := by decide +kernel
theorem dX3_followed_5 : decode cX3_followed 5 = .ok (.aload_n 0, 1) := by decide +kernel
theorem dX3_followed_6 : decode cX3_followed 6 = .ok (.getfield 24, 3) := by decide +kernel
theorem dX3_followed_9 : decode cX3_followed 9 = .ok (.if_icmp .ge 125, 3) := by decide +kernel
theorem dX3_followed_12 : decode cX3_followed 12 = .ok (.aload_n 0, 1) := by decide +kernel
theorem dX3_followed_13 : decode cX3_followed 13 = .ok (.getfield 15, 3) := by decide +kernel
theorem dX3_followed_16 : decode cX3_followed 16 = .ok (.iload_n 2, 1) := by decide +kernel
theorem dX3_followed_17 : decode cX3_followed 17 = .ok (.iaload, 1) := by decide +kernel
theorem dX3_followed_18 : decode cX3_followed 18 = .ok (.istore_n 3, 1) := by decide +kernel
theorem dX3_followed_19 : decode cX3_followed 19 = .ok (.aload_n 0, 1) := by decide +kernel
theorem dX3_followed_20 : decode cX3_followed 20 = .ok (.getfield 11, 3) := by decide +kernel
theorem dX3_followed_23 : decode cX3_followed 23 = .ok (.iload_n 2, 1) := by decide +kernel
theorem dX3_followed_24 : decode cX3_followed 24 = .ok (.iaload, 1) := by decide +kernel
theorem dX3_followed_25 : decode cX3_followed 25 = .ok (.iconst 1, 1) := by decide +kernel
theorem dX3_followed_26 : decode cX3_followed 26 = .ok (.if_icmp .le 45, 3) := by decide +kernel
theorem dX3_followed_29 : decode cX3_followed 29 = .ok (.iload_n 1, 1) := by decide +kernel
theorem dX3_followed_30 : decode cX3_followed 30 = .ok (.iconst 2, 1) := by decide +kernel
theorem dX3_followed_31 : decode cX3_followed 31 = .ok (.if_icmp .lt 97, 3) := by decide +kernel
theorem dX3_followed_34 : decode cX3_followed 34 = .ok (.iinc 1 (-1), 3) := by decide +kernel
theorem dX3_followed_37 : decode cX3_followed 37 = .ok (.aload_n 0, 1) := by decide +kernel
theorem dX3_followed_38 : decode cX3_followed 38 = .ok (.getfield 18, 3) := by decide +kernel
theorem dX3_followed_41 : decode cX3_followed 41 = .ok (.iload_n 1, 1) := by decide +kernel
theorem dX3_followed_42 : decode cX3_followed 42 = .ok (.iconst 1, 1) := by decide +kernel
theorem dX3_followed_43 : decode cX3_followed 43 = .ok (.isub, 1) := by decide +kernel
theorem dX3_followed_44 : decode cX3_followed 44 = .ok (.aload_n 0, 1) := by decide +kernel
theorem dX3_followed_45 : decode cX3_followed 45 = .ok (.getfield 11, 3) := by decide +kernel
theorem dX3_followed_48 : decode cX3_followed 48 = .ok (.iload_n 2, 1) := by decide +kernel
theorem dX3_followed_49 : decode cX3_followed 49 = .ok (.iaload, 1) := by decide +kernel
theorem dX3_followed_50 : decode cX3_followed 50 = .ok (.aload_n 0, 1) := by decide +kernel
theorem dX3_followed_51 : decode cX3_followed 51 = .ok (.getfield 18, 3) := by decide +kernel
theorem dX3_followed_54 : decode cX3_followed 54 = .ok (.iload_n 1, 1) := by decide +kernel
theorem dX3_followed_55 : decode cX3_followed 55 = .ok (.iconst 1, 1) := by decide +kernel
theorem dX3_followed_56 : decode cX3_followed 56 = .ok (.isub, 1) := by decide +kernel
theorem dX3_followed_57 : decode cX3_followed 57 = .ok (.iaload, 1) := by decide +kernel
theorem dX3_followed_58 : decode cX3_followed 58 = .ok (.aload_n 0, 1) := by decide +kernel
theorem dX3_followed_59 : decode cX3_followed 59 = .ok (.getfield 18, 3) := by decide +kernel
theorem dX3_followed_62 : decode cX3_followed 62 = .ok (.iload_n 1, 1) := by decide +kernel
theorem dX3_followed_63 : decode cX3_followed 63 = .ok (.iaload, 1) := by decide +kernel
theorem dX3_followed_64 : decode cX3_followed 64 = .ok (.invokestatic 82, 3) := by decide +kernel
theorem dX3_followed_67 : decode cX3_followed 67 = .ok (.iastore, 1) := by decide +kernel
theorem dX3_followed_68 : decode cX3_followed 68 = .ok (.goto 60, 3) := by decide +kernel
theorem dX3_followed_71 : decode cX3_followed 71 = .ok (.iload_n 1, 1) := by decide +kernel
theorem dX3_followed_72 : decode cX3_followed 72 = .ok (.bipush 32, 2) := by decide +kernel
theorem dX3_followed_74 : decode cX3_followed 74 = .ok (.if_icmp .ge 54, 3) := by decide +kernel
theorem dX3_followed_77 : decode cX3_followed 77 = .ok (.aload_n 0, 1) := by decide +kernel
theorem dX3_followed_78 : decode cX3_followed 78 = .ok (.getfield 11, 3) := by decide +kernel
theorem dX3_followed_81 : decode cX3_followed 81 = .ok (.iload_n 2, 1) := by decide +kernel
theorem dX3_followed_82 : decode cX3_followed 82 = .ok (.iaload, 1) := by decide +kernel
theorem dX3_followed_83 : decode cX3_followed 83 = .ok (.iconst 1, 1) := by decide +kernel
theorem dX3_followed_84 : decode cX3_followed 84 = .ok (.if_icmp .ne 17, 3) := by decide +kernel
theorem dX3_followed_87 : decode cX3_followed 87 = .ok (.iload_n 3, 1) := by decide +kernel
theorem dX3_followed_88 : decode cX3_followed 88 = .ok (.ifCond .lt 13, 3) := by decide +kernel
theorem dX3_followed_91 : decode cX3_followed 91 = .ok (.iload_n 3, 1) := by decide +kernel
theorem dX3_followed_92 : decode cX3_followed 92 = .ok (.bipush 7, 2) := by decide +kernel
theorem dX3_followed_94 : decode cX3_followed 94 = .ok (.if_icmp .ge 7, 3) := by decide +kernel
theorem dX3_followed_97 : decode cX3_followed 97 = .ok (.iconst 1, 1) := by decide +kernel
theorem dX3_followed_98 : decode cX3_followed 98 = .ok (.goto 4, 3) := by decide +kernel
theorem dX3_followed_101 : decode cX3_followed 101 = .ok (.iconst 0, 1) := by decide +kernel
theorem dX3_followed_102 : decode cX3_followed 102 = .ok (.istore 4, 2) := by decide +kernel
theorem dX3_followed_104 : decode cX3_followed 104 = .ok (.aload_n 0, 1) := by decide +kernel
theorem dX3_followed_105 : decode cX3_followed 105 = .ok (.getfield 18, 3) := by decide +kernel
theorem dX3_followed_108 : decode cX3_followed 108 = .ok (.iload_n 1, 1) := by decide +kernel
theorem dX3_followed_109 : decode cX3_followed 109 = .ok (.iload 4, 2) := by decide +kernel
theorem dX3_followed_111 : decode cX3_followed 111 = .ok (.ifCond .eq 12, 3) := by decide +kernel
theorem dX3_followed_114 : decode cX3_followed 114 = .ok (.aload_n 0, 1) := by decide +kernel
theorem dX3_followed_115 : decode cX3_followed 115 = .ok (.getfield 21, 3) := by decide +kernel
theorem dX3_followed_118 : decode cX3_followed 118 = .ok (.iload_n 3, 1) := by decide +kernel
theorem dX3_followed_119 : decode cX3_followed 119 = .ok (.iaload, 1) := by decide +kernel
theorem dX3_followed_120 : decode cX3_followed 120 = .ok (.goto 4, 3) := by decide +kernel
theorem dX3_followed_123 : decode cX3_followed 123 = .ok (.iload_n 3, 1) := by decide +kernel
theorem dX3_followed_124 : decode cX3_followed 124 = .ok (.iastore, 1) := by decide +kernel
theorem dX3_followed_125 : decode cX3_followed 125 = .ok (.iinc 1 1, 3) := by decide +kernel
theorem dX3_followed_128 : decode cX3_followed 128 = .ok (.iinc 2 1, 3) := by decide +kernel
theorem dX3_followed_131 : decode cX3_followed 131 = .ok (.goto (-127), 3) := by decide +kernel
theorem dX3_followed_134 : decode cX3_followed 134 = .ok (.iload_n 1, 1) := by decide +kernel
theorem dX3_followed_135 : decode cX3_followed 135 = .ok (.ifCond .le 12, 3) := by decide +kernel
theorem dX3_followed_138 : decode cX3_followed 138 = .ok (.aload_n 0, 1) := by decide +kernel
theorem dX3_followed_139 : decode cX3_followed 139 = .ok (.getfield 18, 3) := by decide +kernel
theorem dX3_followed_142 : decode cX3_followed 142 = .ok (.iconst 0, 1) := by decide +kernel
theorem dX3_followed_143 : decode cX3_followed 143 = .ok (.iaload, 1) := by decide +kernel
theorem dX3_followed_144 : decode cX3_followed 144 = .ok (.goto 4, 3) := by decide +kernel
theorem dX3_followed_147 : decode cX3_followed 147 = .ok (.iconst 0, 1) := by decide +kernel
theorem dX3_followed_148 : decode cX3_followed 148 = .ok (.ireturn, 1) := by decide +kernel
theorem dX3_joined_0 : decode cX3_joined 0 = .ok (.iload_n 0, 1) := by decide +kernel
theorem dX3_joined_1 : decode cX3_joined 1 = .ok (.tableswitch 86 2 7 #[39, 43, 47, 51, 63, 75], 39) := by decide +kernel
theorem dX3_joined_40 : decode cX3_joined 40 = .ok (.iload_n 1, 1) := by decide +kernel
theorem dX3_joined_41 : decode cX3_joined 41 = .ok (.iload_n 2, 1) := by decide +kernel
theorem dX3_joined_42 : decode cX3_joined 42 = .ok (.iadd, 1) := by decide +kernel
theorem dX3_joined_43 : decode cX3_joined 43 = .ok (.ireturn, 1) := by decide +kernel
theorem dX3_joined_44 : decode cX3_joined 44 = .ok (.iload_n 1, 1) := by decide +kernel
theorem dX3_joined_45 : decode cX3_joined 45 = .ok (.iload_n 2, 1) := by decide +kernel
theorem dX3_joined_46 : decode cX3_joined 46 = .ok (.isub, 1) := by decide +kernel
theorem dX3_joined_47 : decode cX3_joined 47 = .ok (.ireturn, 1) := by decide +kernel
theorem dX3_joined_48 : decode cX3_joined 48 = .ok (.iload_n 1, 1) := by decide +kernel
theorem dX3_joined_49 : decode cX3_joined 49 = .ok (.iload_n 2, 1) := by decide +kernel
theorem dX3_joined_50 : decode cX3_joined 50 = .ok (.imul, 1) := by decide +kernel
theorem dX3_joined_51 : decode cX3_joined 51 = .ok (.ireturn, 1) := by decide +kernel
theorem dX3_joined_52 : decode cX3_joined 52 = .ok (.iload_n 2, 1) := by decide +kernel
theorem dX3_joined_53 : decode cX3_joined 53 = .ok (.ifCond .ne 7, 3) := by decide +kernel
theorem dX3_joined_56 : decode cX3_joined 56 = .ok (.iconst 0, 1) := by decide +kernel
theorem dX3_joined_57 : decode cX3_joined 57 = .ok (.goto 6, 3) := by decide +kernel
theorem dX3_joined_60 : decode cX3_joined 60 = .ok (.iload_n 1, 1) := by decide +kernel
theorem dX3_joined_61 : decode cX3_joined 61 = .ok (.iload_n 2, 1) := by decide +kernel
theorem dX3_joined_62 : decode cX3_joined 62 = .ok (.idiv, 1) := by decide +kernel
theorem dX3_joined_63 : decode cX3_joined 63 = .ok (.ireturn, 1) := by decide +kernel
theorem dX3_joined_64 : decode cX3_joined 64 = .ok (.iload_n 2, 1) := by decide +kernel
theorem dX3_joined_65 : decode cX3_joined 65 = .ok (.ifCond .ne 7, 3) := by decide +kernel
theorem dX3_joined_68 : decode cX3_joined 68 = .ok (.iconst 0, 1) := by decide +kernel
theorem dX3_joined_69 : decode cX3_joined 69 = .ok (.goto 6, 3) := by decide +kernel
theorem dX3_joined_72 : decode cX3_joined 72 = .ok (.iload_n 1, 1) := by decide +kernel
theorem dX3_joined_73 : decode cX3_joined 73 = .ok (.iload_n 2, 1) := by decide +kernel
theorem dX3_joined_74 : decode cX3_joined 74 = .ok (.irem, 1) := by decide +kernel
theorem dX3_joined_75 : decode cX3_joined 75 = .ok (.ireturn, 1) := by decide +kernel
theorem dX3_joined_76 : decode cX3_joined 76 = .ok (.iload_n 1, 1) := by decide +kernel
theorem dX3_joined_77 : decode cX3_joined 77 = .ok (.iload_n 2, 1) := by decide +kernel
theorem dX3_joined_78 : decode cX3_joined 78 = .ok (.if_icmp .ge 7, 3) := by decide +kernel
theorem dX3_joined_81 : decode cX3_joined 81 = .ok (.iload_n 1, 1) := by decide +kernel
theorem dX3_joined_82 : decode cX3_joined 82 = .ok (.goto 4, 3) := by decide +kernel
theorem dX3_joined_85 : decode cX3_joined 85 = .ok (.iload_n 2, 1) := by decide +kernel
theorem dX3_joined_86 : decode cX3_joined 86 = .ok (.ireturn, 1) := by decide +kernel
theorem dX3_joined_87 : decode cX3_joined 87 = .ok (.iload_n 1, 1) := by decide +kernel
theorem dX3_joined_88 : decode cX3_joined 88 = .ok (.iload_n 2, 1) := by decide +kernel
theorem dX3_joined_89 : decode cX3_joined 89 = .ok (.if_icmp .le 7, 3) := by decide +kernel
theorem dX3_joined_92 : decode cX3_joined 92 = .ok (.iload_n 1, 1) := by decide +kernel
theorem dX3_joined_93 : decode cX3_joined 93 = .ok (.goto 4, 3) := by decide +kernel
theorem dX3_joined_96 : decode cX3_joined 96 = .ok (.iload_n 2, 1) := by decide +kernel
theorem dX3_joined_97 : decode cX3_joined 97 = .ok (.ireturn, 1) := by decide +kernel
theorem dX4_init_0 : decode cX4_init 0 = .ok (.aload_n 0, 1) := by decide +kernel
theorem dX4_init_1 : decode cX4_init 1 = .ok (.invokespecial 1, 3) := by decide +kernel
theorem dX4_init_4 : decode cX4_init 4 = .ok (.aload_n 0, 1) := by decide +kernel
theorem dX4_init_5 : decode cX4_init 5 = .ok (.aload_n 1, 1) := by decide +kernel
theorem dX4_init_6 : decode cX4_init 6 = .ok (.putfield 7, 3) := by decide +kernel
theorem dX4_init_9 : decode cX4_init 9 = .ok (.aload_n 0, 1) := by decide +kernel
theorem dX4_init_10 : decode cX4_init 10 = .ok (.aload_n 2, 1) := by decide +kernel
theorem dX4_init_11 : decode cX4_init 11 = .ok (.putfield 13, 3) := by decide +kernel
theorem dX4_init_14 : decode cX4_init 14 = .ok (.aload_n 0, 1) := by decide +kernel
theorem dX4_init_15 : decode cX4_init 15 = .ok (.aload_n 2, 1) := by decide +kernel
theorem dX4_init_16 : decode cX4_init 16 = .ok (.ifnonnull 7, 3) := by decide +kernel
theorem dX4_init_19 : decode cX4_init 19 = .ok (.iconst 1, 1) := by decide +kernel
theorem dX4_init_20 : decode cX4_init 20 = .ok (.goto 9, 3) := by decide +kernel
theorem dX4_init_23 : decode cX4_init 23 = .ok (.aload_n 2, 1) := by decide +kernel
theorem dX4_init_24 : decode cX4_init 24 = .ok (.getfield 17, 3) := by decide +kernel
theorem dX4_init_27 : decode cX4_init 27 = .ok (.iconst 1, 1) := by decide +kernel
theorem dX4_init_28 : decode cX4_init 28 = .ok (.iadd, 1) := by decide +kernel
theorem dX4_init_29 : decode cX4_init 29 = .ok (.putfield 17, 3) := by decide +kernel
theorem dX4_init_32 : decode cX4_init 32 = .ok (.return_, 1) := by decide +kernel
theorem dX5_init_0 : decode cX5_init 0 = .ok (.aload_n 0, 1) := by decide +kernel
theorem dX5_init_1 : decode cX5_init 1 = .ok (.invokespecial 3, 3) := by decide +kernel
theorem dX5_init_4 : decode cX5_init 4 = .ok (.aload_n 0, 1) := by decide +kernel
theorem dX5_init_5 : decode cX5_init 5 = .ok (.sipush 600, 3) := by decide +kernel
theorem dX5_init_8 : decode cX5_init 8 = .ok (.newarray .int, 2) := by decide +kernel
theorem dX5_init_10 : decode cX5_init 10 = .ok (.putfield 11, 3) := by decide +kernel
theorem dX5_init_13 : decode cX5_init 13 = .ok (.aload_n 0, 1) := by decide +kernel
theorem dX5_init_14 : decode cX5_init 14 = .ok (.iconst (-1), 1) := by decide +kernel
theorem dX5_init_15 : decode cX5_init 15 = .ok (.putfield 15, 3) := by decide +kernel
theorem dX5_init_18 : decode cX5_init 18 = .ok (.return_, 1) := by decide +kernel
theorem dX5_hasRoom_0 : decode cX5_hasRoom 0 = .ok (.aload_n 0, 1) := by decide +kernel
theorem dX5_hasRoom_1 : decode cX5_hasRoom 1 = .ok (.getfield 19, 3) := by decide +kernel
theorem dX5_hasRoom_4 : decode cX5_hasRoom 4 = .ok (.bipush 20, 2) := by decide +kernel
theorem dX5_hasRoom_6 : decode cX5_hasRoom 6 = .ok (.iadd, 1) := by decide +kernel
theorem dX5_hasRoom_7 : decode cX5_hasRoom 7 = .ok (.sipush 600, 3) := by decide +kernel
theorem dX5_hasRoom_10 : decode cX5_hasRoom 10 = .ok (.if_icmp .gt 7, 3) := by decide +kernel
theorem dX5_hasRoom_13 : decode cX5_hasRoom 13 = .ok (.iconst 1, 1) := by decide +kernel
theorem dX5_hasRoom_14 : decode cX5_hasRoom 14 = .ok (.goto 4, 3) := by decide +kernel
theorem dX5_hasRoom_17 : decode cX5_hasRoom 17 = .ok (.iconst 0, 1) := by decide +kernel
theorem dX5_hasRoom_18 : decode cX5_hasRoom 18 = .ok (.ireturn, 1) := by decide +kernel
theorem dX5_put_0 : decode cX5_put 0 = .ok (.bipush 24, 2) := by decide +kernel
theorem dX5_put_2 : decode cX5_put 2 = .ok (.istore_n 2, 1) := by decide +kernel
theorem dX5_put_3 : decode cX5_put 3 = .ok (.iload_n 2, 1) := by decide +kernel
theorem dX5_put_4 : decode cX5_put 4 = .ok (.ifCond .lt 45, 3) := by decide +kernel
theorem dX5_put_7 : decode cX5_put 7 = .ok (.aload_n 0, 1) := by decide +kernel
theorem dX5_put_8 : decode cX5_put 8 = .ok (.getfield 19, 3) := by decide +kernel
theorem dX5_put_11 : decode cX5_put 11 = .ok (.sipush 600, 3) := by decide +kernel
theorem dX5_put_14 : decode cX5_put 14 = .ok (.if_icmp .ge 35, 3) := by decide +kernel
theorem dX5_put_17 : decode cX5_put 17 = .ok (.aload_n 0, 1) := by decide +kernel
theorem dX5_put_18 : decode cX5_put 18 = .ok (.getfield 11, 3) := by decide +kernel
theorem dX5_put_21 : decode cX5_put 21 = .ok (.aload_n 0, 1) := by decide +kernel
theorem dX5_put_22 : decode cX5_put 22 = .ok (.getfield 19, 3) := by decide +kernel
theorem dX5_put_25 : decode cX5_put 25 = .ok (.iload_n 1, 1) := by decide +kernel
theorem dX5_put_26 : decode cX5_put 26 = .ok (.iload_n 2, 1) := by decide +kernel
theorem dX5_put_27 : decode cX5_put 27 = .ok (.iushr, 1) := by decide +kernel
theorem dX5_put_28 : decode cX5_put 28 = .ok (.sipush 255, 3) := by decide +kernel
theorem dX5_put_31 : decode cX5_put 31 = .ok (.iand, 1) := by decide +kernel
theorem dX5_put_32 : decode cX5_put 32 = .ok (.iastore, 1) := by decide +kernel
theorem dX5_put_33 : decode cX5_put 33 = .ok (.aload_n 0, 1) := by decide +kernel
theorem dX5_put_34 : decode cX5_put 34 = .ok (.dup, 1) := by decide +kernel
theorem dX5_put_35 : decode cX5_put 35 = .ok (.getfield 19, 3) := by decide +kernel
theorem dX5_put_38 : decode cX5_put 38 = .ok (.iconst 1, 1) := by decide +kernel
theorem dX5_put_39 : decode cX5_put 39 = .ok (.iadd, 1) := by decide +kernel
theorem dX5_put_40 : decode cX5_put 40 = .ok (.putfield 19, 3) := by decide +kernel
theorem dX5_put_43 : decode cX5_put 43 = .ok (.iinc 2 (-8), 3) := by decide +kernel
theorem dX5_put_46 : decode cX5_put 46 = .ok (.goto (-43), 3) := by decide +kernel
theorem dX5_put_49 : decode cX5_put 49 = .ok (.return_, 1) := by decide +kernel
theorem dX5_open_0 : decode cX5_open 0 = .ok (.aload_n 0, 1) := by decide +kernel
theorem dX5_open_1 : decode cX5_open 1 = .ok (.iload_n 1, 1) := by decide +kernel
theorem dX5_open_2 : decode cX5_open 2 = .ok (.putfield 22, 3) := by decide +kernel
theorem dX5_open_5 : decode cX5_open 5 = .ok (.aload_n 0, 1) := by decide +kernel
theorem dX5_open_6 : decode cX5_open 6 = .ok (.iconst 0, 1) := by decide +kernel
theorem dX5_open_7 : decode cX5_open 7 = .ok (.putfield 19, 3) := by decide +kernel
theorem dX5_open_10 : decode cX5_open 10 = .ok (.aload_n 0, 1) := by decide +kernel
theorem dX5_open_11 : decode cX5_open 11 = .ok (.iconst 0, 1) := by decide +kernel
theorem dX5_open_12 : decode cX5_open 12 = .ok (.putfield 25, 3) := by decide +kernel
theorem dX5_open_15 : decode cX5_open 15 = .ok (.aload_n 0, 1) := by decide +kernel
theorem dX5_open_16 : decode cX5_open 16 = .ok (.iconst 0, 1) := by decide +kernel
theorem dX5_open_17 : decode cX5_open 17 = .ok (.putfield 28, 3) := by decide +kernel
theorem dX5_open_20 : decode cX5_open 20 = .ok (.aload_n 0, 1) := by decide +kernel
theorem dX5_open_21 : decode cX5_open 21 = .ok (.iconst (-1), 1) := by decide +kernel
theorem dX5_open_22 : decode cX5_open 22 = .ok (.putfield 15, 3) := by decide +kernel
theorem dX5_open_25 : decode cX5_open 25 = .ok (.return_, 1) := by decide +kernel
theorem dX5_answer_0 : decode cX5_answer 0 = .ok (.aload_n 0, 1) := by decide +kernel
theorem dX5_answer_1 : decode cX5_answer 1 = .ok (.getfield 28, 3) := by decide +kernel
theorem dX5_answer_4 : decode cX5_answer 4 = .ok (.bipush 10, 2) := by decide +kernel
theorem dX5_answer_6 : decode cX5_answer 6 = .ok (.isub, 1) := by decide +kernel
theorem dX5_answer_7 : decode cX5_answer 7 = .ok (.ireturn, 1) := by decide +kernel
theorem dX5_ahead_0 : decode cX5_ahead 0 = .ok (.aload_n 0, 1) := by decide +kernel
theorem dX5_ahead_1 : decode cX5_ahead 1 = .ok (.getfield 25, 3) := by decide +kernel
theorem dX5_ahead_4 : decode cX5_ahead 4 = .ok (.aload_n 0, 1) := by decide +kernel
theorem dX5_ahead_5 : decode cX5_ahead 5 = .ok (.getfield 22, 3) := by decide +kernel
theorem dX5_ahead_8 : decode cX5_ahead 8 = .ok (.if_icmp .ge 30, 3) := by decide +kernel
theorem dX5_ahead_11 : decode cX5_ahead 11 = .ok (.aload_n 0, 1) := by decide +kernel
theorem dX5_ahead_12 : decode cX5_ahead 12 = .ok (.getfield 11, 3) := by decide +kernel
theorem dX5_ahead_15 : decode cX5_ahead 15 = .ok (.aload_n 0, 1) := by decide +kernel
theorem dX5_ahead_16 : decode cX5_ahead 16 = .ok (.getfield 25, 3) := by decide +kernel
theorem dX5_ahead_19 : decode cX5_ahead 19 = .ok (.iaload, 1) := by decide +kernel
theorem dX5_ahead_20 : decode cX5_ahead 20 = .ok (.bipush 32, 2) := by decide +kernel
theorem dX5_ahead_22 : decode cX5_ahead 22 = .ok (.if_icmp .ne 16, 3) := by decide +kernel
theorem dX5_ahead_25 : decode cX5_ahead 25 = .ok (.aload_n 0, 1) := by decide +kernel
theorem dX5_ahead_26 : decode cX5_ahead 26 = .ok (.dup, 1) := by decide +kernel
theorem dX5_ahead_27 : decode cX5_ahead 27 = .ok (.getfield 25, 3) := by decide +kernel
theorem dX5_ahead_30 : decode cX5_ahead 30 = .ok (.iconst 1, 1) := by decide +kernel
theorem dX5_ahead_31 : decode cX5_ahead 31 = .ok (.iadd, 1) := by decide +kernel
theorem dX5_ahead_32 : decode cX5_ahead 32 = .ok (.putfield 25, 3) := by decide +kernel
theorem dX5_ahead_35 : decode cX5_ahead 35 = .ok (.goto (-35), 3) := by decide +kernel
theorem dX5_ahead_38 : decode cX5_ahead 38 = .ok (.aload_n 0, 1) := by decide +kernel
theorem dX5_ahead_39 : decode cX5_ahead 39 = .ok (.getfield 25, 3) := by decide +kernel
theorem dX5_ahead_42 : decode cX5_ahead 42 = .ok (.aload_n 0, 1) := by decide +kernel
theorem dX5_ahead_43 : decode cX5_ahead 43 = .ok (.getfield 22, 3) := by decide +kernel
theorem dX5_ahead_46 : decode cX5_ahead 46 = .ok (.if_icmp .ge 15, 3) := by decide +kernel
theorem dX5_ahead_49 : decode cX5_ahead 49 = .ok (.aload_n 0, 1) := by decide +kernel
theorem dX5_ahead_50 : decode cX5_ahead 50 = .ok (.getfield 11, 3) := by decide +kernel
theorem dX5_ahead_53 : decode cX5_ahead 53 = .ok (.aload_n 0, 1) := by decide +kernel
theorem dX5_ahead_54 : decode cX5_ahead 54 = .ok (.getfield 25, 3) := by decide +kernel
theorem dX5_ahead_57 : decode cX5_ahead 57 = .ok (.iaload, 1) := by decide +kernel
theorem dX5_ahead_58 : decode cX5_ahead 58 = .ok (.goto 4, 3) := by decide +kernel
theorem dX5_ahead_61 : decode cX5_ahead 61 = .ok (.iconst (-1), 1) := by decide +kernel
theorem dX5_ahead_62 : decode cX5_ahead 62 = .ok (.ireturn, 1) := by decide +kernel
theorem dX5_fail_0 : decode cX5_fail 0 = .ok (.aload_n 0, 1) := by decide +kernel
theorem dX5_fail_1 : decode cX5_fail 1 = .ok (.getfield 28, 3) := by decide +kernel
theorem dX5_fail_4 : decode cX5_fail 4 = .ok (.ifCond .ne 13, 3) := by decide +kernel
theorem dX5_fail_7 : decode cX5_fail 7 = .ok (.aload_n 0, 1) := by decide +kernel
theorem dX5_fail_8 : decode cX5_fail 8 = .ok (.iload_n 1, 1) := by decide +kernel
theorem dX5_fail_9 : decode cX5_fail 9 = .ok (.putfield 28, 3) := by decide +kernel
theorem dX5_fail_12 : decode cX5_fail 12 = .ok (.aload_n 0, 1) := by decide +kernel
theorem dX5_fail_13 : decode cX5_fail 13 = .ok (.iload_n 2, 1) := by decide +kernel
theorem dX5_fail_14 : decode cX5_fail 14 = .ok (.putfield 15, 3) := by decide +kernel
theorem dX5_fail_17 : decode cX5_fail 17 = .ok (.aload_n 0, 1) := by decide +kernel
theorem dX5_fail_18 : decode cX5_fail 18 = .ok (.aload_n 0, 1) := by decide +kernel
theorem dX5_fail_19 : decode cX5_fail 19 = .ok (.getfield 22, 3) := by decide +kernel
theorem dX5_fail_22 : decode cX5_fail 22 = .ok (.putfield 25, 3) := by decide +kernel
theorem dX5_fail_25 : decode cX5_fail 25 = .ok (.return_, 1) := by decide +kernel
theorem dX5_finish_0 : decode cX5_finish 0 = .ok (.aload_n 0, 1) := by decide +kernel
theorem dX5_finish_1 : decode cX5_finish 1 = .ok (.invokevirtual 31, 3) := by decide +kernel
theorem dX5_finish_4 : decode cX5_finish 4 = .ok (.iconst (-1), 1) := by decide +kernel
theorem dX5_finish_5 : decode cX5_finish 5 = .ok (.if_icmp .eq 12, 3) := by decide +kernel
theorem dX5_finish_8 : decode cX5_finish 8 = .ok (.aload_n 0, 1) := by decide +kernel
theorem dX5_finish_9 : decode cX5_finish 9 = .ok (.iconst 1, 1) := by decide +kernel
theorem dX5_finish_10 : decode cX5_finish 10 = .ok (.aload_n 0, 1) := by decide +kernel
theorem dX5_finish_11 : decode cX5_finish 11 = .ok (.getfield 25, 3) := by decide +kernel
theorem dX5_finish_14 : decode cX5_finish 14 = .ok (.invokevirtual 35, 3) := by decide +kernel
theorem dX5_finish_17 : decode cX5_finish 17 = .ok (.aload_n 0, 1) := by decide +kernel
theorem dX5_finish_18 : decode cX5_finish 18 = .ok (.getfield 28, 3) := by decide +kernel
theorem dX5_finish_21 : decode cX5_finish 21 = .ok (.ifCond .ne 7, 3) := by decide +kernel
theorem dX5_finish_24 : decode cX5_finish 24 = .ok (.iconst 1, 1) := by decide +kernel
theorem dX5_finish_25 : decode cX5_finish 25 = .ok (.goto 4, 3) := by decide +kernel
theorem dX5_finish_28 : decode cX5_finish 28 = .ok (.iconst 0, 1) := by decide +kernel
theorem dX5_finish_29 : decode cX5_finish 29 = .ok (.ireturn, 1) := by decide +kernel
theorem dX5_sign_0 : decode cX5_sign 0 = .ok (.aload_n 0, 1) := by decide +kernel
theorem dX5_sign_1 : decode cX5_sign 1 = .ok (.invokevirtual 31, 3) := by decide +kernel
theorem dX5_sign_4 : decode cX5_sign 4 = .ok (.iload_n 1, 1) := by decide +kernel
theorem dX5_sign_5 : decode cX5_sign 5 = .ok (.if_icmp .ne 16, 3) := by decide +kernel
theorem dX5_sign_8 : decode cX5_sign 8 = .ok (.aload_n 0, 1) := by decide +kernel
theorem dX5_sign_9 : decode cX5_sign 9 = .ok (.dup, 1) := by decide +kernel
theorem dX5_sign_10 : decode cX5_sign 10 = .ok (.getfield 25, 3) := by decide +kernel
theorem dX5_sign_13 : decode cX5_sign 13 = .ok (.iconst 1, 1) := by decide +kernel
theorem dX5_sign_14 : decode cX5_sign 14 = .ok (.iadd, 1) := by decide +kernel
theorem dX5_sign_15 : decode cX5_sign 15 = .ok (.putfield 25, 3) := by decide +kernel
theorem dX5_sign_18 : decode cX5_sign 18 = .ok (.goto 12, 3) := by decide +kernel
theorem dX5_sign_21 : decode cX5_sign 21 = .ok (.aload_n 0, 1) := by decide +kernel
theorem dX5_sign_22 : decode cX5_sign 22 = .ok (.iconst 1, 1) := by decide +kernel
theorem dX5_sign_23 : decode cX5_sign 23 = .ok (.aload_n 0, 1) := by decide +kernel
theorem dX5_sign_24 : decode cX5_sign 24 = .ok (.getfield 25, 3) := by decide +kernel
theorem dX5_sign_27 : decode cX5_sign 27 = .ok (.invokevirtual 35, 3) := by decide +kernel
theorem dX5_sign_30 : decode cX5_sign 30 = .ok (.return_, 1) := by decide +kernel
theorem dX5_figure_0 : decode cX5_figure 0 = .ok (.aload_n 0, 1) := by decide +kernel
theorem dX5_figure_1 : decode cX5_figure 1 = .ok (.invokevirtual 31, 3) := by decide +kernel
theorem dX5_figure_4 : decode cX5_figure 4 = .ok (.pop, 1) := by decide +kernel
theorem dX5_figure_5 : decode cX5_figure 5 = .ok (.aload_n 0, 1) := by decide +kernel
theorem dX5_figure_6 : decode cX5_figure 6 = .ok (.getfield 25, 3) := by decide +kernel
theorem dX5_figure_9 : decode cX5_figure 9 = .ok (.istore_n 3, 1) := by decide +kernel
theorem dX5_figure_10 : decode cX5_figure 10 = .ok (.iconst 0, 1) := by decide +kernel
theorem dX5_figure_11 : decode cX5_figure 11 = .ok (.istore 4, 2) := by decide +kernel
theorem dX5_figure_13 : decode cX5_figure 13 = .ok (.aload_n 0, 1) := by decide +kernel
theorem dX5_figure_14 : decode cX5_figure 14 = .ok (.getfield 25, 3) := by decide +kernel
theorem dX5_figure_17 : decode cX5_figure 17 = .ok (.aload_n 0, 1) := by decide +kernel
theorem dX5_figure_18 : decode cX5_figure 18 = .ok (.getfield 22, 3) := by decide +kernel
theorem dX5_figure_21 : decode cX5_figure 21 = .ok (.if_icmp .ge 69, 3) := by decide +kernel
theorem dX5_figure_24 : decode cX5_figure 24 = .ok (.aload_n 0, 1) := by decide +kernel
theorem dX5_figure_25 : decode cX5_figure 25 = .ok (.getfield 11, 3) := by decide +kernel
theorem dX5_figure_28 : decode cX5_figure 28 = .ok (.aload_n 0, 1) := by decide +kernel
theorem dX5_figure_29 : decode cX5_figure 29 = .ok (.getfield 25, 3) := by decide +kernel
theorem dX5_figure_32 : decode cX5_figure 32 = .ok (.iaload, 1) := by decide +kernel
theorem dX5_figure_33 : decode cX5_figure 33 = .ok (.bipush 48, 2) := by decide +kernel
theorem dX5_figure_35 : decode cX5_figure 35 = .ok (.if_icmp .lt 55, 3) := by decide +kernel
theorem dX5_figure_38 : decode cX5_figure 38 = .ok (.aload_n 0, 1) := by decide +kernel
theorem dX5_figure_39 : decode cX5_figure 39 = .ok (.getfield 11, 3) := by decide +kernel
theorem dX5_figure_42 : decode cX5_figure 42 = .ok (.aload_n 0, 1) := by decide +kernel
theorem dX5_figure_43 : decode cX5_figure 43 = .ok (.getfield 25, 3) := by decide +kernel
theorem dX5_figure_46 : decode cX5_figure 46 = .ok (.iaload, 1) := by decide +kernel
theorem dX5_figure_47 : decode cX5_figure 47 = .ok (.bipush 57, 2) := by decide +kernel
theorem dX5_figure_49 : decode cX5_figure 49 = .ok (.if_icmp .gt 41, 3) := by decide +kernel
theorem dX5_figure_52 : decode cX5_figure 52 = .ok (.ldc 39, 2) := by decide +kernel
theorem dX5_figure_54 : decode cX5_figure 54 = .ok (.iload 4, 2) := by decide +kernel
theorem dX5_figure_56 : decode cX5_figure 56 = .ok (.bipush 10, 2) := by decide +kernel
theorem dX5_figure_58 : decode cX5_figure 58 = .ok (.imul, 1) := by decide +kernel
theorem dX5_figure_59 : decode cX5_figure 59 = .ok (.aload_n 0, 1) := by decide +kernel
theorem dX5_figure_60 : decode cX5_figure 60 = .ok (.getfield 11, 3) := by decide +kernel
theorem dX5_figure_63 : decode cX5_figure 63 = .ok (.aload_n 0, 1) := by decide +kernel
theorem dX5_figure_64 : decode cX5_figure 64 = .ok (.getfield 25, 3) := by decide +kernel
theorem dX5_figure_67 : decode cX5_figure 67 = .ok (.iaload, 1) := by decide +kernel
theorem dX5_figure_68 : decode cX5_figure 68 = .ok (.iadd, 1) := by decide +kernel
theorem dX5_figure_69 : decode cX5_figure 69 = .ok (.bipush 48, 2) := by decide +kernel
theorem dX5_figure_71 : decode cX5_figure 71 = .ok (.isub, 1) := by decide +kernel
theorem dX5_figure_72 : decode cX5_figure 72 = .ok (.invokestatic 40, 3) := by decide +kernel
theorem dX5_figure_75 : decode cX5_figure 75 = .ok (.istore 4, 2) := by decide +kernel
theorem dX5_figure_77 : decode cX5_figure 77 = .ok (.aload_n 0, 1) := by decide +kernel
theorem dX5_figure_78 : decode cX5_figure 78 = .ok (.dup, 1) := by decide +kernel
theorem dX5_figure_79 : decode cX5_figure 79 = .ok (.getfield 25, 3) := by decide +kernel
theorem dX5_figure_82 : decode cX5_figure 82 = .ok (.iconst 1, 1) := by decide +kernel
theorem dX5_figure_83 : decode cX5_figure 83 = .ok (.iadd, 1) := by decide +kernel
theorem dX5_figure_84 : decode cX5_figure 84 = .ok (.putfield 25, 3) := by decide +kernel
theorem dX5_figure_87 : decode cX5_figure 87 = .ok (.goto (-74), 3) := by decide +kernel
theorem dX5_figure_90 : decode cX5_figure 90 = .ok (.aload_n 0, 1) := by decide +kernel
theorem dX5_figure_91 : decode cX5_figure 91 = .ok (.getfield 25, 3) := by decide +kernel
theorem dX5_figure_94 : decode cX5_figure 94 = .ok (.iload_n 3, 1) := by decide +kernel
theorem dX5_figure_95 : decode cX5_figure 95 = .ok (.if_icmp .ne 11, 3) := by decide +kernel
theorem dX5_figure_98 : decode cX5_figure 98 = .ok (.aload_n 0, 1) := by decide +kernel
theorem dX5_figure_99 : decode cX5_figure 99 = .ok (.iconst 1, 1) := by decide +kernel
theorem dX5_figure_100 : decode cX5_figure 100 = .ok (.iload_n 3, 1) := by decide +kernel
theorem dX5_figure_101 : decode cX5_figure 101 = .ok (.invokevirtual 35, 3) := by decide +kernel
theorem dX5_figure_104 : decode cX5_figure 104 = .ok (.iload_n 1, 1) := by decide +kernel
theorem dX5_figure_105 : decode cX5_figure 105 = .ok (.ireturn, 1) := by decide +kernel
theorem dX5_figure_106 : decode cX5_figure 106 = .ok (.iload 4, 2) := by decide +kernel
theorem dX5_figure_108 : decode cX5_figure 108 = .ok (.iload_n 1, 1) := by decide +kernel
theorem dX5_figure_109 : decode cX5_figure 109 = .ok (.if_icmp .lt 9, 3) := by decide +kernel
theorem dX5_figure_112 : decode cX5_figure 112 = .ok (.iload 4, 2) := by decide +kernel
theorem dX5_figure_114 : decode cX5_figure 114 = .ok (.iload_n 2, 1) := by decide +kernel
theorem dX5_figure_115 : decode cX5_figure 115 = .ok (.if_icmp .le 11, 3) := by decide +kernel
theorem dX5_figure_118 : decode cX5_figure 118 = .ok (.aload_n 0, 1) := by decide +kernel
theorem dX5_figure_119 : decode cX5_figure 119 = .ok (.iconst 2, 1) := by decide +kernel
theorem dX5_figure_120 : decode cX5_figure 120 = .ok (.iload_n 3, 1) := by decide +kernel
theorem dX5_figure_121 : decode cX5_figure 121 = .ok (.invokevirtual 35, 3) := by decide +kernel
theorem dX5_figure_124 : decode cX5_figure 124 = .ok (.iload_n 1, 1) := by decide +kernel
theorem dX5_figure_125 : decode cX5_figure 125 = .ok (.ireturn, 1) := by decide +kernel
theorem dX5_figure_126 : decode cX5_figure 126 = .ok (.iload 4, 2) := by decide +kernel
theorem dX5_figure_128 : decode cX5_figure 128 = .ok (.ireturn, 1) := by decide +kernel
theorem dX5_word_0 : decode cX5_word 0 = .ok (.aload_n 0, 1) := by decide +kernel
theorem dX5_word_1 : decode cX5_word 1 = .ok (.invokevirtual 31, 3) := by decide +kernel
theorem dX5_word_4 : decode cX5_word 4 = .ok (.pop, 1) := by decide +kernel
theorem dX5_word_5 : decode cX5_word 5 = .ok (.aload_n 0, 1) := by decide +kernel
theorem dX5_word_6 : decode cX5_word 6 = .ok (.invokevirtual 46, 3) := by decide +kernel
theorem dX5_word_9 : decode cX5_word 9 = .ok (.istore_n 2, 1) := by decide +kernel
theorem dX5_word_10 : decode cX5_word 10 = .ok (.iconst 0, 1) := by decide +kernel
theorem dX5_word_11 : decode cX5_word 11 = .ok (.istore_n 3, 1) := by decide +kernel
theorem dX5_word_12 : decode cX5_word 12 = .ok (.iconst 0, 1) := by decide +kernel
theorem dX5_word_13 : decode cX5_word 13 = .ok (.istore 4, 2) := by decide +kernel
theorem dX5_word_15 : decode cX5_word 15 = .ok (.iconst 0, 1) := by decide +kernel
theorem dX5_word_16 : decode cX5_word 16 = .ok (.istore 5, 2) := by decide +kernel
theorem dX5_word_18 : decode cX5_word 18 = .ok (.iload 5, 2) := by decide +kernel
theorem dX5_word_20 : decode cX5_word 20 = .ok (.aload_n 1, 1) := by decide +kernel
theorem dX5_word_21 : decode cX5_word 21 = .ok (.invokevirtual 49, 3) := by decide +kernel
theorem dX5_word_24 : decode cX5_word 24 = .ok (.if_icmp .gt 74, 3) := by decide +kernel
theorem dX5_word_27 : decode cX5_word 27 = .ok (.iload 5, 2) := by decide +kernel
theorem dX5_word_29 : decode cX5_word 29 = .ok (.aload_n 1, 1) := by decide +kernel
theorem dX5_word_30 : decode cX5_word 30 = .ok (.invokevirtual 49, 3) := by decide +kernel
theorem dX5_word_33 : decode cX5_word 33 = .ok (.if_icmp .eq 14, 3) := by decide +kernel
theorem dX5_word_36 : decode cX5_word 36 = .ok (.aload_n 1, 1) := by decide +kernel
theorem dX5_word_37 : decode cX5_word 37 = .ok (.iload 5, 2) := by decide +kernel
theorem dX5_word_39 : decode cX5_word 39 = .ok (.invokevirtual 54, 3) := by decide +kernel
theorem dX5_word_42 : decode cX5_word 42 = .ok (.bipush 32, 2) := by decide +kernel
theorem dX5_word_44 : decode cX5_word 44 = .ok (.if_icmp .ne 48, 3) := by decide +kernel
theorem dX5_word_47 : decode cX5_word 47 = .ok (.iload_n 2, 1) := by decide +kernel
theorem dX5_word_48 : decode cX5_word 48 = .ok (.ifCond .le 35, 3) := by decide +kernel
theorem dX5_word_51 : decode cX5_word 51 = .ok (.iload 5, 2) := by decide +kernel
theorem dX5_word_53 : decode cX5_word 53 = .ok (.iload 4, 2) := by decide +kernel
theorem dX5_word_55 : decode cX5_word 55 = .ok (.isub, 1) := by decide +kernel
theorem dX5_word_56 : decode cX5_word 56 = .ok (.iload_n 2, 1) := by decide +kernel
theorem dX5_word_57 : decode cX5_word 57 = .ok (.if_icmp .ne 26, 3) := by decide +kernel
theorem dX5_word_60 : decode cX5_word 60 = .ok (.aload_n 0, 1) := by decide +kernel
theorem dX5_word_61 : decode cX5_word 61 = .ok (.aload_n 1, 1) := by decide +kernel
theorem dX5_word_62 : decode cX5_word 62 = .ok (.iload 4, 2) := by decide +kernel
theorem dX5_word_64 : decode cX5_word 64 = .ok (.iload_n 2, 1) := by decide +kernel
theorem dX5_word_65 : decode cX5_word 65 = .ok (.invokevirtual 58, 3) := by decide +kernel
theorem dX5_word_68 : decode cX5_word 68 = .ok (.ifCond .eq 15, 3) := by decide +kernel
theorem dX5_word_71 : decode cX5_word 71 = .ok (.aload_n 0, 1) := by decide +kernel
theorem dX5_word_72 : decode cX5_word 72 = .ok (.dup, 1) := by decide +kernel
theorem dX5_word_73 : decode cX5_word 73 = .ok (.getfield 25, 3) := by decide +kernel
theorem dX5_word_76 : decode cX5_word 76 = .ok (.iload_n 2, 1) := by decide +kernel
theorem dX5_word_77 : decode cX5_word 77 = .ok (.iadd, 1) := by decide +kernel
theorem dX5_word_78 : decode cX5_word 78 = .ok (.putfield 25, 3) := by decide +kernel
theorem dX5_word_81 : decode cX5_word 81 = .ok (.iload_n 3, 1) := by decide +kernel
theorem dX5_word_82 : decode cX5_word 82 = .ok (.ireturn, 1) := by decide +kernel
theorem dX5_word_83 : decode cX5_word 83 = .ok (.iinc 3 1, 3) := by decide +kernel
theorem dX5_word_86 : decode cX5_word 86 = .ok (.iload 5, 2) := by decide +kernel
theorem dX5_word_88 : decode cX5_word 88 = .ok (.iconst 1, 1) := by decide +kernel
theorem dX5_word_89 : decode cX5_word 89 = .ok (.iadd, 1) := by decide +kernel
theorem dX5_word_90 : decode cX5_word 90 = .ok (.istore 4, 2) := by decide +kernel
theorem dX5_word_92 : decode cX5_word 92 = .ok (.iinc 5 1, 3) := by decide +kernel
theorem dX5_word_95 : decode cX5_word 95 = .ok (.goto (-77), 3) := by decide +kernel
theorem dX5_word_98 : decode cX5_word 98 = .ok (.aload_n 0, 1) := by decide +kernel
theorem dX5_word_99 : decode cX5_word 99 = .ok (.iconst 1, 1) := by decide +kernel
theorem dX5_word_100 : decode cX5_word 100 = .ok (.aload_n 0, 1) := by decide +kernel
theorem dX5_word_101 : decode cX5_word 101 = .ok (.getfield 25, 3) := by decide +kernel
theorem dX5_word_104 : decode cX5_word 104 = .ok (.invokevirtual 35, 3) := by decide +kernel
theorem dX5_word_107 : decode cX5_word 107 = .ok (.iconst (-1), 1) := by decide +kernel
theorem dX5_word_108 : decode cX5_word 108 = .ok (.ireturn, 1) := by decide +kernel
theorem dX5_lettersAhead_0 : decode cX5_lettersAhead 0 = .ok (.aload_n 0, 1) := by decide +kernel
theorem dX5_lettersAhead_1 : decode cX5_lettersAhead 1 = .ok (.getfield 25, 3) := by decide +kernel
theorem dX5_lettersAhead_4 : decode cX5_lettersAhead 4 = .ok (.istore_n 1, 1) := by decide +kernel
theorem dX5_lettersAhead_5 : decode cX5_lettersAhead 5 = .ok (.iload_n 1, 1) := by decide +kernel
theorem dX5_lettersAhead_6 : decode cX5_lettersAhead 6 = .ok (.aload_n 0, 1) := by decide +kernel
theorem dX5_lettersAhead_7 : decode cX5_lettersAhead 7 = .ok (.getfield 22, 3) := by decide +kernel
theorem dX5_lettersAhead_10 : decode cX5_lettersAhead 10 = .ok (.if_icmp .ge 31, 3) := by decide +kernel
theorem dX5_lettersAhead_13 : decode cX5_lettersAhead 13 = .ok (.aload_n 0, 1) := by decide +kernel
theorem dX5_lettersAhead_14 : decode cX5_lettersAhead 14 = .ok (.getfield 11, 3) := by decide +kernel
theorem dX5_lettersAhead_17 : decode cX5_lettersAhead 17 = .ok (.iload_n 1, 1) := by decide +kernel
theorem dX5_lettersAhead_18 : decode cX5_lettersAhead 18 = .ok (.iaload, 1) := by decide +kernel
theorem dX5_lettersAhead_19 : decode cX5_lettersAhead 19 = .ok (.bipush 97, 2) := by decide +kernel
theorem dX5_lettersAhead_21 : decode cX5_lettersAhead 21 = .ok (.if_icmp .lt 20, 3) := by decide +kernel
theorem dX5_lettersAhead_24 : decode cX5_lettersAhead 24 = .ok (.aload_n 0, 1) := by decide +kernel
theorem dX5_lettersAhead_25 : decode cX5_lettersAhead 25 = .ok (.getfield 11, 3) := by decide +kernel
theorem dX5_lettersAhead_28 : decode cX5_lettersAhead 28 = .ok (.iload_n 1, 1) := by decide +kernel
theorem dX5_lettersAhead_29 : decode cX5_lettersAhead 29 = .ok (.iaload, 1) := by decide +kernel
theorem dX5_lettersAhead_30 : decode cX5_lettersAhead 30 = .ok (.bipush 122, 2) := by decide +kernel
theorem dX5_lettersAhead_32 : decode cX5_lettersAhead 32 = .ok (.if_icmp .gt 9, 3) := by decide +kernel
theorem dX5_lettersAhead_35 : decode cX5_lettersAhead 35 = .ok (.iinc 1 1, 3) := by decide +kernel
theorem dX5_lettersAhead_38 : decode cX5_lettersAhead 38 = .ok (.goto (-33), 3) := by decide +kernel
theorem dX5_lettersAhead_41 : decode cX5_lettersAhead 41 = .ok (.iload_n 1, 1) := by decide +kernel
theorem dX5_lettersAhead_42 : decode cX5_lettersAhead 42 = .ok (.aload_n 0, 1) := by decide +kernel
theorem dX5_lettersAhead_43 : decode cX5_lettersAhead 43 = .ok (.getfield 25, 3) := by decide +kernel
theorem dX5_lettersAhead_46 : decode cX5_lettersAhead 46 = .ok (.isub, 1) := by decide +kernel
theorem dX5_lettersAhead_47 : decode cX5_lettersAhead 47 = .ok (.ireturn, 1) := by decide +kernel
theorem dX5_isAhead_0 : decode cX5_isAhead 0 = .ok (.iconst 0, 1) := by decide +kernel
theorem dX5_isAhead_1 : decode cX5_isAhead 1 = .ok (.istore 4, 2) := by decide +kernel
theorem dX5_isAhead_3 : decode cX5_isAhead 3 = .ok (.iload 4, 2) := by decide +kernel
theorem dX5_isAhead_5 : decode cX5_isAhead 5 = .ok (.iload_n 3, 1) := by decide +kernel
theorem dX5_isAhead_6 : decode cX5_isAhead 6 = .ok (.if_icmp .ge 34, 3) := by decide +kernel
theorem dX5_isAhead_9 : decode cX5_isAhead 9 = .ok (.aload_n 1, 1) := by decide +kernel
theorem dX5_isAhead_10 : decode cX5_isAhead 10 = .ok (.iload_n 2, 1) := by decide +kernel
theorem dX5_isAhead_11 : decode cX5_isAhead 11 = .ok (.iload 4, 2) := by decide +kernel
theorem dX5_isAhead_13 : decode cX5_isAhead 13 = .ok (.iadd, 1) := by decide +kernel
theorem dX5_isAhead_14 : decode cX5_isAhead 14 = .ok (.invokevirtual 54, 3) := by decide +kernel
theorem dX5_isAhead_17 : decode cX5_isAhead 17 = .ok (.aload_n 0, 1) := by decide +kernel
theorem dX5_isAhead_18 : decode cX5_isAhead 18 = .ok (.getfield 11, 3) := by decide +kernel
theorem dX5_isAhead_21 : decode cX5_isAhead 21 = .ok (.aload_n 0, 1) := by decide +kernel
theorem dX5_isAhead_22 : decode cX5_isAhead 22 = .ok (.getfield 25, 3) := by decide +kernel
theorem dX5_isAhead_25 : decode cX5_isAhead 25 = .ok (.iload 4, 2) := by decide +kernel
theorem dX5_isAhead_27 : decode cX5_isAhead 27 = .ok (.iadd, 1) := by decide +kernel
theorem dX5_isAhead_28 : decode cX5_isAhead 28 = .ok (.iaload, 1) := by decide +kernel
theorem dX5_isAhead_29 : decode cX5_isAhead 29 = .ok (.if_icmp .eq 5, 3) := by decide +kernel
theorem dX5_isAhead_32 : decode cX5_isAhead 32 = .ok (.iconst 0, 1) := by decide +kernel
theorem dX5_isAhead_33 : decode cX5_isAhead 33 = .ok (.ireturn, 1) := by decide +kernel
theorem dX5_isAhead_34 : decode cX5_isAhead 34 = .ok (.iinc 4 1, 3) := by decide +kernel
theorem dX5_isAhead_37 : decode cX5_isAhead 37 = .ok (.goto (-34), 3) := by decide +kernel
theorem dX5_isAhead_40 : decode cX5_isAhead 40 = .ok (.iconst 1, 1) := by decide +kernel
theorem dX5_isAhead_41 : decode cX5_isAhead 41 = .ok (.ireturn, 1) := by decide +kernel
theorem dX6_init_0 : decode cX6_init 0 = .ok (.aload_n 0, 1) := by decide +kernel
theorem dX6_init_1 : decode cX6_init 1 = .ok (.invokespecial 3, 3) := by decide +kernel
theorem dX6_init_4 : decode cX6_init 4 = .ok (.aload_n 0, 1) := by decide +kernel
theorem dX6_init_5 : decode cX6_init 5 = .ok (.bipush 61, 2) := by decide +kernel
theorem dX6_init_7 : decode cX6_init 7 = .ok (.newarray .int, 2) := by decide +kernel
theorem dX6_init_9 : decode cX6_init 9 = .ok (.putfield 9, 3) := by decide +kernel
theorem dX6_init_12 : decode cX6_init 12 = .ok (.aload_n 0, 1) := by decide +kernel
theorem dX6_init_13 : decode cX6_init 13 = .ok (.iconst 0, 1) := by decide +kernel
theorem dX6_init_14 : decode cX6_init 14 = .ok (.newarray .int, 2) := by decide +kernel
theorem dX6_init_16 : decode cX6_init 16 = .ok (.putfield 15, 3) := by decide +kernel
theorem dX6_init_19 : decode cX6_init 19 = .ok (.return_, 1) := by decide +kernel
theorem dX6_gather_0 : decode cX6_gather 0 = .ok (.aload_n 0, 1) := by decide +kernel
theorem dX6_gather_1 : decode cX6_gather 1 = .ok (.aload_n 1, 1) := by decide +kernel
theorem dX6_gather_2 : decode cX6_gather 2 = .ok (.putfield 15, 3) := by decide +kernel
theorem dX6_gather_5 : decode cX6_gather 5 = .ok (.aload_n 0, 1) := by decide +kernel
theorem dX6_gather_6 : decode cX6_gather 6 = .ok (.iconst 0, 1) := by decide +kernel
theorem dX6_gather_7 : decode cX6_gather 7 = .ok (.putfield 18, 3) := by decide +kernel
theorem dX6_gather_10 : decode cX6_gather 10 = .ok (.aload_n 0, 1) := by decide +kernel
theorem dX6_gather_11 : decode cX6_gather 11 = .ok (.iconst (-1), 1) := by decide +kernel
theorem dX6_gather_12 : decode cX6_gather 12 = .ok (.putfield 22, 3) := by decide +kernel
theorem dX6_gather_15 : decode cX6_gather 15 = .ok (.iconst 0, 1) := by decide +kernel
theorem dX6_gather_16 : decode cX6_gather 16 = .ok (.istore 4, 2) := by decide +kernel
theorem dX6_gather_18 : decode cX6_gather 18 = .ok (.iload 4, 2) := by decide +kernel
theorem dX6_gather_20 : decode cX6_gather 20 = .ok (.bipush 60, 2) := by decide +kernel
theorem dX6_gather_22 : decode cX6_gather 22 = .ok (.if_icmp .gt 17, 3) := by decide +kernel
theorem dX6_gather_25 : decode cX6_gather 25 = .ok (.aload_n 0, 1) := by decide +kernel
theorem dX6_gather_26 : decode cX6_gather 26 = .ok (.getfield 9, 3) := by decide +kernel
theorem dX6_gather_29 : decode cX6_gather 29 = .ok (.iload 4, 2) := by decide +kernel
theorem dX6_gather_31 : decode cX6_gather 31 = .ok (.iconst 0, 1) := by decide +kernel
theorem dX6_gather_32 : decode cX6_gather 32 = .ok (.iastore, 1) := by decide +kernel
theorem dX6_gather_33 : decode cX6_gather 33 = .ok (.iinc 4 1, 3) := by decide +kernel
theorem dX6_gather_36 : decode cX6_gather 36 = .ok (.goto (-18), 3) := by decide +kernel
theorem dX6_gather_39 : decode cX6_gather 39 = .ok (.aload_n 0, 1) := by decide +kernel
theorem dX6_gather_40 : decode cX6_gather 40 = .ok (.getfield 15, 3) := by decide +kernel
theorem dX6_gather_43 : decode cX6_gather 43 = .ok (.arraylength, 1) := by decide +kernel
theorem dX6_gather_44 : decode cX6_gather 44 = .ok (.bipush 61, 2) := by decide +kernel
theorem dX6_gather_46 : decode cX6_gather 46 = .ok (.if_icmp .ge 4, 3) := by decide +kernel
theorem dX6_gather_49 : decode cX6_gather 49 = .ok (.return_, 1) := by decide +kernel
theorem dX6_gather_50 : decode cX6_gather 50 = .ok (.iconst 1, 1) := by decide +kernel
theorem dX6_gather_51 : decode cX6_gather 51 = .ok (.istore 4, 2) := by decide +kernel
theorem dX6_gather_53 : decode cX6_gather 53 = .ok (.iload 4, 2) := by decide +kernel
theorem dX6_gather_55 : decode cX6_gather 55 = .ok (.bipush 60, 2) := by decide +kernel
theorem dX6_gather_57 : decode cX6_gather 57 = .ok (.if_icmp .gt 59, 3) := by decide +kernel
theorem dX6_gather_60 : decode cX6_gather 60 = .ok (.iload_n 2, 1) := by decide +kernel
theorem dX6_gather_61 : decode cX6_gather 61 = .ok (.aload_n 0, 1) := by decide +kernel
theorem dX6_gather_62 : decode cX6_gather 62 = .ok (.getfield 15, 3) := by decide +kernel
theorem dX6_gather_65 : decode cX6_gather 65 = .ok (.iload 4, 2) := by decide +kernel
theorem dX6_gather_67 : decode cX6_gather 67 = .ok (.iaload, 1) := by decide +kernel
theorem dX6_gather_68 : decode cX6_gather 68 = .ok (.isub, 1) := by decide +kernel
theorem dX6_gather_69 : decode cX6_gather 69 = .ok (.istore 5, 2) := by decide +kernel
theorem dX6_gather_71 : decode cX6_gather 71 = .ok (.iload_n 3, 1) := by decide +kernel
theorem dX6_gather_72 : decode cX6_gather 72 = .ok (.iconst 1, 1) := by decide +kernel
theorem dX6_gather_73 : decode cX6_gather 73 = .ok (.if_icmp .le 15, 3) := by decide +kernel
theorem dX6_gather_76 : decode cX6_gather 76 = .ok (.aload_n 0, 1) := by decide +kernel
theorem dX6_gather_77 : decode cX6_gather 77 = .ok (.iload 4, 2) := by decide +kernel
theorem dX6_gather_79 : decode cX6_gather 79 = .ok (.iload 5, 2) := by decide +kernel
theorem dX6_gather_81 : decode cX6_gather 81 = .ok (.iload_n 3, 1) := by decide +kernel
theorem dX6_gather_82 : decode cX6_gather 82 = .ok (.invokevirtual 25, 3) := by decide +kernel
theorem dX6_gather_85 : decode cX6_gather 85 = .ok (.goto 25, 3) := by decide +kernel
theorem dX6_gather_88 : decode cX6_gather 88 = .ok (.iload 5, 2) := by decide +kernel
theorem dX6_gather_90 : decode cX6_gather 90 = .ok (.ifCond .ne 20, 3) := by decide +kernel
theorem dX6_gather_93 : decode cX6_gather 93 = .ok (.aload_n 0, 1) := by decide +kernel
theorem dX6_gather_94 : decode cX6_gather 94 = .ok (.iload 4, 2) := by decide +kernel
theorem dX6_gather_96 : decode cX6_gather 96 = .ok (.invokevirtual 29, 3) := by decide +kernel
theorem dX6_gather_99 : decode cX6_gather 99 = .ok (.aload_n 0, 1) := by decide +kernel
theorem dX6_gather_100 : decode cX6_gather 100 = .ok (.getfield 9, 3) := by decide +kernel
theorem dX6_gather_103 : decode cX6_gather 103 = .ok (.iload 4, 2) := by decide +kernel
theorem dX6_gather_105 : decode cX6_gather 105 = .ok (.dup2, 1) := by decide +kernel
theorem dX6_gather_106 : decode cX6_gather 106 = .ok (.iaload, 1) := by decide +kernel
theorem dX6_gather_107 : decode cX6_gather 107 = .ok (.iconst 1, 1) := by decide +kernel
theorem dX6_gather_108 : decode cX6_gather 108 = .ok (.iadd, 1) := by decide +kernel
theorem dX6_gather_109 : decode cX6_gather 109 = .ok (.iastore, 1) := by decide +kernel
theorem dX6_gather_110 : decode cX6_gather 110 = .ok (.iinc 4 1, 3) := by decide +kernel
theorem dX6_gather_113 : decode cX6_gather 113 = .ok (.goto (-60), 3) := by decide +kernel
theorem dX6_gather_116 : decode cX6_gather 116 = .ok (.return_, 1) := by decide +kernel
theorem dX6_gatherPairs_0 : decode cX6_gatherPairs 0 = .ok (.iload_n 1, 1) := by decide +kernel
theorem dX6_gatherPairs_1 : decode cX6_gatherPairs 1 = .ok (.istore 4, 2) := by decide +kernel
theorem dX6_gatherPairs_3 : decode cX6_gatherPairs 3 = .ok (.iload 4, 2) := by decide +kernel
theorem dX6_gatherPairs_5 : decode cX6_gatherPairs 5 = .ok (.bipush 60, 2) := by decide +kernel
theorem dX6_gatherPairs_7 : decode cX6_gatherPairs 7 = .ok (.if_icmp .gt 60, 3) := by decide +kernel
theorem dX6_gatherPairs_10 : decode cX6_gatherPairs 10 = .ok (.iload_n 2, 1) := by decide +kernel
theorem dX6_gatherPairs_11 : decode cX6_gatherPairs 11 = .ok (.aload_n 0, 1) := by decide +kernel
theorem dX6_gatherPairs_12 : decode cX6_gatherPairs 12 = .ok (.getfield 15, 3) := by decide +kernel
theorem dX6_gatherPairs_15 : decode cX6_gatherPairs 15 = .ok (.iload 4, 2) := by decide +kernel
theorem dX6_gatherPairs_17 : decode cX6_gatherPairs 17 = .ok (.iaload, 1) := by decide +kernel
theorem dX6_gatherPairs_18 : decode cX6_gatherPairs 18 = .ok (.isub, 1) := by decide +kernel
theorem dX6_gatherPairs_19 : decode cX6_gatherPairs 19 = .ok (.istore 5, 2) := by decide +kernel
theorem dX6_gatherPairs_21 : decode cX6_gatherPairs 21 = .ok (.iload_n 3, 1) := by decide +kernel
theorem dX6_gatherPairs_22 : decode cX6_gatherPairs 22 = .ok (.iconst 2, 1) := by decide +kernel
theorem dX6_gatherPairs_23 : decode cX6_gatherPairs 23 = .ok (.if_icmp .le 15, 3) := by decide +kernel
theorem dX6_gatherPairs_26 : decode cX6_gatherPairs 26 = .ok (.aload_n 0, 1) := by decide +kernel
theorem dX6_gatherPairs_27 : decode cX6_gatherPairs 27 = .ok (.iload_n 1, 1) := by decide +kernel
theorem dX6_gatherPairs_28 : decode cX6_gatherPairs 28 = .ok (.iload 4, 2) := by decide +kernel
theorem dX6_gatherPairs_30 : decode cX6_gatherPairs 30 = .ok (.iload 5, 2) := by decide +kernel
theorem dX6_gatherPairs_32 : decode cX6_gatherPairs 32 = .ok (.invokevirtual 33, 3) := by decide +kernel
theorem dX6_gatherPairs_35 : decode cX6_gatherPairs 35 = .ok (.goto 26, 3) := by decide +kernel
theorem dX6_gatherPairs_38 : decode cX6_gatherPairs 38 = .ok (.iload 5, 2) := by decide +kernel
theorem dX6_gatherPairs_40 : decode cX6_gatherPairs 40 = .ok (.ifCond .ne 21, 3) := by decide +kernel
theorem dX6_gatherPairs_43 : decode cX6_gatherPairs 43 = .ok (.aload_n 0, 1) := by decide +kernel
theorem dX6_gatherPairs_44 : decode cX6_gatherPairs 44 = .ok (.bipush 100, 2) := by decide +kernel
theorem dX6_gatherPairs_46 : decode cX6_gatherPairs 46 = .ok (.iload_n 1, 1) := by decide +kernel
theorem dX6_gatherPairs_47 : decode cX6_gatherPairs 47 = .ok (.imul, 1) := by decide +kernel
theorem dX6_gatherPairs_48 : decode cX6_gatherPairs 48 = .ok (.iload 4, 2) := by decide +kernel
theorem dX6_gatherPairs_50 : decode cX6_gatherPairs 50 = .ok (.iadd, 1) := by decide +kernel
theorem dX6_gatherPairs_51 : decode cX6_gatherPairs 51 = .ok (.invokevirtual 29, 3) := by decide +kernel
theorem dX6_gatherPairs_54 : decode cX6_gatherPairs 54 = .ok (.aload_n 0, 1) := by decide +kernel
theorem dX6_gatherPairs_55 : decode cX6_gatherPairs 55 = .ok (.iload_n 1, 1) := by decide +kernel
theorem dX6_gatherPairs_56 : decode cX6_gatherPairs 56 = .ok (.iload 4, 2) := by decide +kernel
theorem dX6_gatherPairs_58 : decode cX6_gatherPairs 58 = .ok (.invokevirtual 36, 3) := by decide +kernel
theorem dX6_gatherPairs_61 : decode cX6_gatherPairs 61 = .ok (.iinc 4 1, 3) := by decide +kernel
theorem dX6_gatherPairs_64 : decode cX6_gatherPairs 64 = .ok (.goto (-61), 3) := by decide +kernel
theorem dX6_gatherPairs_67 : decode cX6_gatherPairs 67 = .ok (.return_, 1) := by decide +kernel
theorem dX6_gatherTriples_0 : decode cX6_gatherTriples 0 = .ok (.iload_n 3, 1) := by decide +kernel
theorem dX6_gatherTriples_1 : decode cX6_gatherTriples 1 = .ok (.ifCond .lt 9, 3) := by decide +kernel
theorem dX6_gatherTriples_4 : decode cX6_gatherTriples 4 = .ok (.iload_n 3, 1) := by decide +kernel
theorem dX6_gatherTriples_5 : decode cX6_gatherTriples 5 = .ok (.bipush 99, 2) := by decide +kernel
theorem dX6_gatherTriples_7 : decode cX6_gatherTriples 7 = .ok (.if_icmp .le 4, 3) := by decide +kernel
theorem dX6_gatherTriples_10 : decode cX6_gatherTriples 10 = .ok (.return_, 1) := by decide +kernel
theorem dX6_gatherTriples_11 : decode cX6_gatherTriples 11 = .ok (.iload_n 2, 1) := by decide +kernel
theorem dX6_gatherTriples_12 : decode cX6_gatherTriples 12 = .ok (.istore 4, 2) := by decide +kernel
theorem dX6_gatherTriples_14 : decode cX6_gatherTriples 14 = .ok (.iload 4, 2) := by decide +kernel
theorem dX6_gatherTriples_16 : decode cX6_gatherTriples 16 = .ok (.bipush 60, 2) := by decide +kernel
theorem dX6_gatherTriples_18 : decode cX6_gatherTriples 18 = .ok (.if_icmp .gt 60, 3) := by decide +kernel
theorem dX6_gatherTriples_21 : decode cX6_gatherTriples 21 = .ok (.aload_n 0, 1) := by decide +kernel
theorem dX6_gatherTriples_22 : decode cX6_gatherTriples 22 = .ok (.getfield 15, 3) := by decide +kernel
theorem dX6_gatherTriples_25 : decode cX6_gatherTriples 25 = .ok (.iload 4, 2) := by decide +kernel
theorem dX6_gatherTriples_27 : decode cX6_gatherTriples 27 = .ok (.iaload, 1) := by decide +kernel
theorem dX6_gatherTriples_28 : decode cX6_gatherTriples 28 = .ok (.iload_n 3, 1) := by decide +kernel
theorem dX6_gatherTriples_29 : decode cX6_gatherTriples 29 = .ok (.if_icmp .ne 43, 3) := by decide +kernel
theorem dX6_gatherTriples_32 : decode cX6_gatherTriples 32 = .ok (.aload_n 0, 1) := by decide +kernel
theorem dX6_gatherTriples_33 : decode cX6_gatherTriples 33 = .ok (.sipush 10000, 3) := by decide +kernel
theorem dX6_gatherTriples_36 : decode cX6_gatherTriples 36 = .ok (.iload_n 1, 1) := by decide +kernel
theorem dX6_gatherTriples_37 : decode cX6_gatherTriples 37 = .ok (.imul, 1) := by decide +kernel
theorem dX6_gatherTriples_38 : decode cX6_gatherTriples 38 = .ok (.bipush 100, 2) := by decide +kernel
theorem dX6_gatherTriples_40 : decode cX6_gatherTriples 40 = .ok (.iload_n 2, 1) := by decide +kernel
theorem dX6_gatherTriples_41 : decode cX6_gatherTriples 41 = .ok (.imul, 1) := by decide +kernel
theorem dX6_gatherTriples_42 : decode cX6_gatherTriples 42 = .ok (.iadd, 1) := by decide +kernel
theorem dX6_gatherTriples_43 : decode cX6_gatherTriples 43 = .ok (.iload 4, 2) := by decide +kernel
theorem dX6_gatherTriples_45 : decode cX6_gatherTriples 45 = .ok (.iadd, 1) := by decide +kernel
theorem dX6_gatherTriples_46 : decode cX6_gatherTriples 46 = .ok (.invokevirtual 29, 3) := by decide +kernel
theorem dX6_gatherTriples_49 : decode cX6_gatherTriples 49 = .ok (.aload_n 0, 1) := by decide +kernel
theorem dX6_gatherTriples_50 : decode cX6_gatherTriples 50 = .ok (.iload_n 1, 1) := by decide +kernel
theorem dX6_gatherTriples_51 : decode cX6_gatherTriples 51 = .ok (.iload_n 2, 1) := by decide +kernel
theorem dX6_gatherTriples_52 : decode cX6_gatherTriples 52 = .ok (.invokevirtual 36, 3) := by decide +kernel
theorem dX6_gatherTriples_55 : decode cX6_gatherTriples 55 = .ok (.iload 4, 2) := by decide +kernel
theorem dX6_gatherTriples_57 : decode cX6_gatherTriples 57 = .ok (.iload_n 2, 1) := by decide +kernel
theorem dX6_gatherTriples_58 : decode cX6_gatherTriples 58 = .ok (.if_icmp .eq 14, 3) := by decide +kernel
theorem dX6_gatherTriples_61 : decode cX6_gatherTriples 61 = .ok (.aload_n 0, 1) := by decide +kernel
theorem dX6_gatherTriples_62 : decode cX6_gatherTriples 62 = .ok (.getfield 9, 3) := by decide +kernel
theorem dX6_gatherTriples_65 : decode cX6_gatherTriples 65 = .ok (.iload 4, 2) := by decide +kernel
theorem dX6_gatherTriples_67 : decode cX6_gatherTriples 67 = .ok (.dup2, 1) := by decide +kernel
theorem dX6_gatherTriples_68 : decode cX6_gatherTriples 68 = .ok (.iaload, 1) := by decide +kernel
theorem dX6_gatherTriples_69 : decode cX6_gatherTriples 69 = .ok (.iconst 1, 1) := by decide +kernel
theorem dX6_gatherTriples_70 : decode cX6_gatherTriples 70 = .ok (.iadd, 1) := by decide +kernel
theorem dX6_gatherTriples_71 : decode cX6_gatherTriples 71 = .ok (.iastore, 1) := by decide +kernel
theorem dX6_gatherTriples_72 : decode cX6_gatherTriples 72 = .ok (.iinc 4 1, 3) := by decide +kernel
theorem dX6_gatherTriples_75 : decode cX6_gatherTriples 75 = .ok (.goto (-61), 3) := by decide +kernel
theorem dX6_gatherTriples_78 : decode cX6_gatherTriples 78 = .ok (.return_, 1) := by decide +kernel
theorem dX6_found_0 : decode cX6_found 0 = .ok (.aload_n 0, 1) := by decide +kernel
theorem dX6_found_1 : decode cX6_found 1 = .ok (.getfield 18, 3) := by decide +kernel
theorem dX6_found_4 : decode cX6_found 4 = .ok (.ifCond .ne 8, 3) := by decide +kernel
theorem dX6_found_7 : decode cX6_found 7 = .ok (.aload_n 0, 1) := by decide +kernel
theorem dX6_found_8 : decode cX6_found 8 = .ok (.iload_n 1, 1) := by decide +kernel
theorem dX6_found_9 : decode cX6_found 9 = .ok (.putfield 22, 3) := by decide +kernel
theorem dX6_found_12 : decode cX6_found 12 = .ok (.aload_n 0, 1) := by decide +kernel
theorem dX6_found_13 : decode cX6_found 13 = .ok (.dup, 1) := by decide +kernel
theorem dX6_found_14 : decode cX6_found 14 = .ok (.getfield 18, 3) := by decide +kernel
theorem dX6_found_17 : decode cX6_found 17 = .ok (.iconst 1, 1) := by decide +kernel
theorem dX6_found_18 : decode cX6_found 18 = .ok (.iadd, 1) := by decide +kernel
theorem dX6_found_19 : decode cX6_found 19 = .ok (.putfield 18, 3) := by decide +kernel
theorem dX6_found_22 : decode cX6_found 22 = .ok (.return_, 1) := by decide +kernel
theorem dX6_holdBoth_0 : decode cX6_holdBoth 0 = .ok (.aload_n 0, 1) := by decide +kernel
theorem dX6_holdBoth_1 : decode cX6_holdBoth 1 = .ok (.getfield 9, 3) := by decide +kernel
theorem dX6_holdBoth_4 : decode cX6_holdBoth 4 = .ok (.iload_n 1, 1) := by decide +kernel
theorem dX6_holdBoth_5 : decode cX6_holdBoth 5 = .ok (.dup2, 1) := by decide +kernel
theorem dX6_holdBoth_6 : decode cX6_holdBoth 6 = .ok (.iaload, 1) := by decide +kernel
theorem dX6_holdBoth_7 : decode cX6_holdBoth 7 = .ok (.iconst 1, 1) := by decide +kernel
theorem dX6_holdBoth_8 : decode cX6_holdBoth 8 = .ok (.iadd, 1) := by decide +kernel
theorem dX6_holdBoth_9 : decode cX6_holdBoth 9 = .ok (.iastore, 1) := by decide +kernel
theorem dX6_holdBoth_10 : decode cX6_holdBoth 10 = .ok (.iload_n 2, 1) := by decide +kernel
theorem dX6_holdBoth_11 : decode cX6_holdBoth 11 = .ok (.iload_n 1, 1) := by decide +kernel
theorem dX6_holdBoth_12 : decode cX6_holdBoth 12 = .ok (.if_icmp .eq 13, 3) := by decide +kernel
theorem dX6_holdBoth_15 : decode cX6_holdBoth 15 = .ok (.aload_n 0, 1) := by decide +kernel
theorem dX6_holdBoth_16 : decode cX6_holdBoth 16 = .ok (.getfield 9, 3) := by decide +kernel
theorem dX6_holdBoth_19 : decode cX6_holdBoth 19 = .ok (.iload_n 2, 1) := by decide +kernel
theorem dX6_holdBoth_20 : decode cX6_holdBoth 20 = .ok (.dup2, 1) := by decide +kernel
theorem dX6_holdBoth_21 : decode cX6_holdBoth 21 = .ok (.iaload, 1) := by decide +kernel
theorem dX6_holdBoth_22 : decode cX6_holdBoth 22 = .ok (.iconst 1, 1) := by decide +kernel
theorem dX6_holdBoth_23 : decode cX6_holdBoth 23 = .ok (.iadd, 1) := by decide +kernel
theorem dX6_holdBoth_24 : decode cX6_holdBoth 24 = .ok (.iastore, 1) := by decide +kernel
theorem dX6_holdBoth_25 : decode cX6_holdBoth 25 = .ok (.return_, 1) := by decide +kernel
theorem dX6_leftAtWorst_0 : decode cX6_leftAtWorst 0 = .ok (.aload_n 0, 1) := by decide +kernel
theorem dX6_leftAtWorst_1 : decode cX6_leftAtWorst 1 = .ok (.getfield 9, 3) := by decide +kernel
theorem dX6_leftAtWorst_4 : decode cX6_leftAtWorst 4 = .ok (.iload_n 1, 1) := by decide +kernel
theorem dX6_leftAtWorst_5 : decode cX6_leftAtWorst 5 = .ok (.iaload, 1) := by decide +kernel
theorem dX6_leftAtWorst_6 : decode cX6_leftAtWorst 6 = .ok (.aload_n 0, 1) := by decide +kernel
theorem dX6_leftAtWorst_7 : decode cX6_leftAtWorst 7 = .ok (.getfield 18, 3) := by decide +kernel
theorem dX6_leftAtWorst_10 : decode cX6_leftAtWorst 10 = .ok (.aload_n 0, 1) := by decide +kernel
theorem dX6_leftAtWorst_11 : decode cX6_leftAtWorst 11 = .ok (.getfield 9, 3) := by decide +kernel
theorem dX6_leftAtWorst_14 : decode cX6_leftAtWorst 14 = .ok (.iload_n 1, 1) := by decide +kernel
theorem dX6_leftAtWorst_15 : decode cX6_leftAtWorst 15 = .ok (.iaload, 1) := by decide +kernel
theorem dX6_leftAtWorst_16 : decode cX6_leftAtWorst 16 = .ok (.isub, 1) := by decide +kernel
theorem dX6_leftAtWorst_17 : decode cX6_leftAtWorst 17 = .ok (.invokestatic 40, 3) := by decide +kernel
theorem dX6_leftAtWorst_20 : decode cX6_leftAtWorst 20 = .ok (.ireturn, 1) := by decide +kernel
theorem dX6_mostTelling_0 : decode cX6_mostTelling 0 = .ok (.iconst 1, 1) := by decide +kernel
theorem dX6_mostTelling_1 : decode cX6_mostTelling 1 = .ok (.istore_n 1, 1) := by decide +kernel
theorem dX6_mostTelling_2 : decode cX6_mostTelling 2 = .ok (.iconst 2, 1) := by decide +kernel
theorem dX6_mostTelling_3 : decode cX6_mostTelling 3 = .ok (.istore_n 2, 1) := by decide +kernel
theorem dX6_mostTelling_4 : decode cX6_mostTelling 4 = .ok (.iload_n 2, 1) := by decide +kernel
theorem dX6_mostTelling_5 : decode cX6_mostTelling 5 = .ok (.bipush 60, 2) := by decide +kernel
theorem dX6_mostTelling_7 : decode cX6_mostTelling 7 = .ok (.if_icmp .gt 24, 3) := by decide +kernel
theorem dX6_mostTelling_10 : decode cX6_mostTelling 10 = .ok (.aload_n 0, 1) := by decide +kernel
theorem dX6_mostTelling_11 : decode cX6_mostTelling 11 = .ok (.iload_n 2, 1) := by decide +kernel
theorem dX6_mostTelling_12 : decode cX6_mostTelling 12 = .ok (.invokevirtual 46, 3) := by decide +kernel
theorem dX6_mostTelling_15 : decode cX6_mostTelling 15 = .ok (.aload_n 0, 1) := by decide +kernel
theorem dX6_mostTelling_16 : decode cX6_mostTelling 16 = .ok (.iload_n 1, 1) := by decide +kernel
theorem dX6_mostTelling_17 : decode cX6_mostTelling 17 = .ok (.invokevirtual 46, 3) := by decide +kernel
theorem dX6_mostTelling_20 : decode cX6_mostTelling 20 = .ok (.if_icmp .ge 5, 3) := by decide +kernel
theorem dX6_mostTelling_23 : decode cX6_mostTelling 23 = .ok (.iload_n 2, 1) := by decide +kernel
theorem dX6_mostTelling_24 : decode cX6_mostTelling 24 = .ok (.istore_n 1, 1) := by decide +kernel
theorem dX6_mostTelling_25 : decode cX6_mostTelling 25 = .ok (.iinc 2 1, 3) := by decide +kernel
theorem dX6_mostTelling_28 : decode cX6_mostTelling 28 = .ok (.goto (-24), 3) := by decide +kernel
theorem dX6_mostTelling_31 : decode cX6_mostTelling 31 = .ok (.iload_n 1, 1) := by decide +kernel
theorem dX6_mostTelling_32 : decode cX6_mostTelling 32 = .ok (.ireturn, 1) := by decide +kernel
theorem dX7_init_0 : decode cX7_init 0 = .ok (.aload_n 0, 1) := by decide +kernel
theorem dX7_init_1 : decode cX7_init 1 = .ok (.invokespecial 3, 3) := by decide +kernel
theorem dX7_init_4 : decode cX7_init 4 = .ok (.aload_n 0, 1) := by decide +kernel
theorem dX7_init_5 : decode cX7_init 5 = .ok (.bipush 61, 2) := by decide +kernel
theorem dX7_init_7 : decode cX7_init 7 = .ok (.newarray .int, 2) := by decide +kernel
theorem dX7_init_9 : decode cX7_init 9 = .ok (.putfield 9, 3) := by decide +kernel
theorem dX7_init_12 : decode cX7_init 12 = .ok (.aload_n 0, 1) := by decide +kernel
theorem dX7_init_13 : decode cX7_init 13 = .ok (.bipush 61, 2) := by decide +kernel
theorem dX7_init_15 : decode cX7_init 15 = .ok (.newarray .int, 2) := by decide +kernel
theorem dX7_init_17 : decode cX7_init 17 = .ok (.putfield 15, 3) := by decide +kernel
theorem dX7_init_20 : decode cX7_init 20 = .ok (.aload_n 0, 1) := by decide +kernel
theorem dX7_init_21 : decode cX7_init 21 = .ok (.bipush 61, 2) := by decide +kernel
theorem dX7_init_23 : decode cX7_init 23 = .ok (.newarray .int, 2) := by decide +kernel
theorem dX7_init_25 : decode cX7_init 25 = .ok (.putfield 18, 3) := by decide +kernel
theorem dX7_init_28 : decode cX7_init 28 = .ok (.aload_n 0, 1) := by decide +kernel
theorem dX7_init_29 : decode cX7_init 29 = .ok (.bipush 61, 2) := by decide +kernel
theorem dX7_init_31 : decode cX7_init 31 = .ok (.newarray .int, 2) := by decide +kernel
theorem dX7_init_33 : decode cX7_init 33 = .ok (.putfield 21, 3) := by decide +kernel
theorem dX7_init_36 : decode cX7_init 36 = .ok (.aload_n 0, 1) := by decide +kernel
theorem dX7_init_37 : decode cX7_init 37 = .ok (.bipush 61, 2) := by decide +kernel
theorem dX7_init_39 : decode cX7_init 39 = .ok (.newarray .boolean, 2) := by decide +kernel
theorem dX7_init_41 : decode cX7_init 41 = .ok (.putfield 24, 3) := by decide +kernel
theorem dX7_init_44 : decode cX7_init 44 = .ok (.return_, 1) := by decide +kernel
theorem dX7_say_0 : decode cX7_say 0 = .ok (.aload_n 1, 1) := by decide +kernel
theorem dX7_say_1 : decode cX7_say 1 = .ok (.aload_n 2, 1) := by decide +kernel
theorem dX7_say_2 : decode cX7_say 2 = .ok (.iconst 1, 1) := by decide +kernel
theorem dX7_say_3 : decode cX7_say 3 = .ok (.aload_n 0, 1) := by decide +kernel
theorem dX7_say_4 : decode cX7_say 4 = .ok (.getfield 9, 3) := by decide +kernel
theorem dX7_say_7 : decode cX7_say 7 = .ok (.invokevirtual 28, 3) := by decide +kernel
theorem dX7_say_10 : decode cX7_say 10 = .ok (.aload_n 0, 1) := by decide +kernel
theorem dX7_say_11 : decode cX7_say 11 = .ok (.aload_n 1, 1) := by decide +kernel
theorem dX7_say_12 : decode cX7_say 12 = .ok (.getfield 34, 3) := by decide +kernel
theorem dX7_say_15 : decode cX7_say 15 = .ok (.putfield 38, 3) := by decide +kernel
theorem dX7_say_18 : decode cX7_say 18 = .ok (.aload_n 0, 1) := by decide +kernel
theorem dX7_say_19 : decode cX7_say 19 = .ok (.invokevirtual 39, 3) := by decide +kernel
theorem dX7_say_22 : decode cX7_say 22 = .ok (.return_, 1) := by decide +kernel
theorem dX7_reachFromFree_0 : decode cX7_reachFromFree 0 = .ok (.iconst 0, 1) := by decide +kernel
theorem dX7_reachFromFree_1 : decode cX7_reachFromFree 1 = .ok (.istore_n 2, 1) := by decide +kernel
theorem dX7_reachFromFree_2 : decode cX7_reachFromFree 2 = .ok (.iload_n 2, 1) := by decide +kernel
theorem dX7_reachFromFree_3 : decode cX7_reachFromFree 3 = .ok (.bipush 60, 2) := by decide +kernel
theorem dX7_reachFromFree_5 : decode cX7_reachFromFree 5 = .ok (.if_icmp .gt 29, 3) := by decide +kernel
theorem dX7_reachFromFree_8 : decode cX7_reachFromFree 8 = .ok (.aload_n 0, 1) := by decide +kernel
theorem dX7_reachFromFree_9 : decode cX7_reachFromFree 9 = .ok (.getfield 9, 3) := by decide +kernel
theorem dX7_reachFromFree_12 : decode cX7_reachFromFree 12 = .ok (.iload_n 2, 1) := by decide +kernel
theorem dX7_reachFromFree_13 : decode cX7_reachFromFree 13 = .ok (.aload_n 1, 1) := by decide +kernel
theorem dX7_reachFromFree_14 : decode cX7_reachFromFree 14 = .ok (.iload_n 2, 1) := by decide +kernel
theorem dX7_reachFromFree_15 : decode cX7_reachFromFree 15 = .ok (.invokevirtual 42, 3) := by decide +kernel
theorem dX7_reachFromFree_18 : decode cX7_reachFromFree 18 = .ok (.ifCond .ne 7, 3) := by decide +kernel
theorem dX7_reachFromFree_21 : decode cX7_reachFromFree 21 = .ok (.iconst 0, 1) := by decide +kernel
theorem dX7_reachFromFree_22 : decode cX7_reachFromFree 22 = .ok (.goto 5, 3) := by decide +kernel
theorem dX7_reachFromFree_25 : decode cX7_reachFromFree 25 = .ok (.ldc 46, 2) := by decide +kernel
theorem dX7_reachFromFree_27 : decode cX7_reachFromFree 27 = .ok (.iastore, 1) := by decide +kernel
theorem dX7_reachFromFree_28 : decode cX7_reachFromFree 28 = .ok (.iinc 2 1, 3) := by decide +kernel
theorem dX7_reachFromFree_31 : decode cX7_reachFromFree 31 = .ok (.goto (-29), 3) := by decide +kernel
theorem dX7_reachFromFree_34 : decode cX7_reachFromFree 34 = .ok (.aload_n 0, 1) := by decide +kernel
theorem dX7_reachFromFree_35 : decode cX7_reachFromFree 35 = .ok (.iconst 1, 1) := by decide +kernel
theorem dX7_reachFromFree_36 : decode cX7_reachFromFree 36 = .ok (.putfield 38, 3) := by decide +kernel
theorem dX7_reachFromFree_39 : decode cX7_reachFromFree 39 = .ok (.aload_n 0, 1) := by decide +kernel
theorem dX7_reachFromFree_40 : decode cX7_reachFromFree 40 = .ok (.invokevirtual 39, 3) := by decide +kernel
theorem dX7_reachFromFree_43 : decode cX7_reachFromFree 43 = .ok (.return_, 1) := by decide +kernel
theorem dX7_settleAll_0 : decode cX7_settleAll 0 = .ok (.iconst 0, 1) := by decide +kernel
theorem dX7_settleAll_1 : decode cX7_settleAll 1 = .ok (.istore_n 1, 1) := by decide +kernel
theorem dX7_settleAll_2 : decode cX7_settleAll 2 = .ok (.iload_n 1, 1) := by decide +kernel
theorem dX7_settleAll_3 : decode cX7_settleAll 3 = .ok (.bipush 60, 2) := by decide +kernel
theorem dX7_settleAll_5 : decode cX7_settleAll 5 = .ok (.if_icmp .gt 35, 3) := by decide +kernel
theorem dX7_settleAll_8 : decode cX7_settleAll 8 = .ok (.aload_n 0, 1) := by decide +kernel
theorem dX7_settleAll_9 : decode cX7_settleAll 9 = .ok (.getfield 15, 3) := by decide +kernel
theorem dX7_settleAll_12 : decode cX7_settleAll 12 = .ok (.iload_n 1, 1) := by decide +kernel
theorem dX7_settleAll_13 : decode cX7_settleAll 13 = .ok (.aload_n 0, 1) := by decide +kernel
theorem dX7_settleAll_14 : decode cX7_settleAll 14 = .ok (.getfield 9, 3) := by decide +kernel
theorem dX7_settleAll_17 : decode cX7_settleAll 17 = .ok (.iload_n 1, 1) := by decide +kernel
theorem dX7_settleAll_18 : decode cX7_settleAll 18 = .ok (.iaload, 1) := by decide +kernel
theorem dX7_settleAll_19 : decode cX7_settleAll 19 = .ok (.iastore, 1) := by decide +kernel
theorem dX7_settleAll_20 : decode cX7_settleAll 20 = .ok (.aload_n 0, 1) := by decide +kernel
theorem dX7_settleAll_21 : decode cX7_settleAll 21 = .ok (.getfield 18, 3) := by decide +kernel
theorem dX7_settleAll_24 : decode cX7_settleAll 24 = .ok (.iload_n 1, 1) := by decide +kernel
theorem dX7_settleAll_25 : decode cX7_settleAll 25 = .ok (.iconst 1, 1) := by decide +kernel
theorem dX7_settleAll_26 : decode cX7_settleAll 26 = .ok (.iastore, 1) := by decide +kernel
theorem dX7_settleAll_27 : decode cX7_settleAll 27 = .ok (.aload_n 0, 1) := by decide +kernel
theorem dX7_settleAll_28 : decode cX7_settleAll 28 = .ok (.getfield 24, 3) := by decide +kernel
theorem dX7_settleAll_31 : decode cX7_settleAll 31 = .ok (.iload_n 1, 1) := by decide +kernel
theorem dX7_settleAll_32 : decode cX7_settleAll 32 = .ok (.iconst 0, 1) := by decide +kernel
theorem dX7_settleAll_33 : decode cX7_settleAll 33 = .ok (.bastore, 1) := by decide +kernel
theorem dX7_settleAll_34 : decode cX7_settleAll 34 = .ok (.iinc 1 1, 3) := by decide +kernel
theorem dX7_settleAll_37 : decode cX7_settleAll 37 = .ok (.goto (-35), 3) := by decide +kernel
theorem dX7_settleAll_40 : decode cX7_settleAll 40 = .ok (.iconst 0, 1) := by decide +kernel
theorem dX7_settleAll_41 : decode cX7_settleAll 41 = .ok (.istore_n 1, 1) := by decide +kernel
theorem dX7_settleAll_42 : decode cX7_settleAll 42 = .ok (.iload_n 1, 1) := by decide +kernel
theorem dX7_settleAll_43 : decode cX7_settleAll 43 = .ok (.bipush 61, 2) := by decide +kernel
theorem dX7_settleAll_45 : decode cX7_settleAll 45 = .ok (.if_icmp .ge 58, 3) := by decide +kernel
theorem dX7_settleAll_48 : decode cX7_settleAll 48 = .ok (.aload_n 0, 1) := by decide +kernel
theorem dX7_settleAll_49 : decode cX7_settleAll 49 = .ok (.invokevirtual 47, 3) := by decide +kernel
theorem dX7_settleAll_52 : decode cX7_settleAll 52 = .ok (.istore_n 2, 1) := by decide +kernel
theorem dX7_settleAll_53 : decode cX7_settleAll 53 = .ok (.iload_n 2, 1) := by decide +kernel
theorem dX7_settleAll_54 : decode cX7_settleAll 54 = .ok (.iconst (-1), 1) := by decide +kernel
theorem dX7_settleAll_55 : decode cX7_settleAll 55 = .ok (.if_icmp .ne 4, 3) := by decide +kernel
theorem dX7_settleAll_58 : decode cX7_settleAll 58 = .ok (.return_, 1) := by decide +kernel
theorem dX7_settleAll_59 : decode cX7_settleAll 59 = .ok (.aload_n 0, 1) := by decide +kernel
theorem dX7_settleAll_60 : decode cX7_settleAll 60 = .ok (.getfield 24, 3) := by decide +kernel
theorem dX7_settleAll_63 : decode cX7_settleAll 63 = .ok (.iload_n 2, 1) := by decide +kernel
theorem dX7_settleAll_64 : decode cX7_settleAll 64 = .ok (.iconst 1, 1) := by decide +kernel
theorem dX7_settleAll_65 : decode cX7_settleAll 65 = .ok (.bastore, 1) := by decide +kernel
theorem dX7_settleAll_66 : decode cX7_settleAll 66 = .ok (.aload_n 0, 1) := by decide +kernel
theorem dX7_settleAll_67 : decode cX7_settleAll 67 = .ok (.getfield 21, 3) := by decide +kernel
theorem dX7_settleAll_70 : decode cX7_settleAll 70 = .ok (.iload_n 1, 1) := by decide +kernel
theorem dX7_settleAll_71 : decode cX7_settleAll 71 = .ok (.iload_n 2, 1) := by decide +kernel
theorem dX7_settleAll_72 : decode cX7_settleAll 72 = .ok (.iastore, 1) := by decide +kernel
theorem dX7_settleAll_73 : decode cX7_settleAll 73 = .ok (.iconst 0, 1) := by decide +kernel
theorem dX7_settleAll_74 : decode cX7_settleAll 74 = .ok (.istore_n 3, 1) := by decide +kernel
theorem dX7_settleAll_75 : decode cX7_settleAll 75 = .ok (.iload_n 3, 1) := by decide +kernel
theorem dX7_settleAll_76 : decode cX7_settleAll 76 = .ok (.iload_n 1, 1) := by decide +kernel
theorem dX7_settleAll_77 : decode cX7_settleAll 77 = .ok (.if_icmp .gt 20, 3) := by decide +kernel
theorem dX7_settleAll_80 : decode cX7_settleAll 80 = .ok (.aload_n 0, 1) := by decide +kernel
theorem dX7_settleAll_81 : decode cX7_settleAll 81 = .ok (.iload_n 2, 1) := by decide +kernel
theorem dX7_settleAll_82 : decode cX7_settleAll 82 = .ok (.aload_n 0, 1) := by decide +kernel
theorem dX7_settleAll_83 : decode cX7_settleAll 83 = .ok (.getfield 21, 3) := by decide +kernel
theorem dX7_settleAll_86 : decode cX7_settleAll 86 = .ok (.iload_n 3, 1) := by decide +kernel
theorem dX7_settleAll_87 : decode cX7_settleAll 87 = .ok (.iaload, 1) := by decide +kernel
theorem dX7_settleAll_88 : decode cX7_settleAll 88 = .ok (.invokevirtual 51, 3) := by decide +kernel
theorem dX7_settleAll_91 : decode cX7_settleAll 91 = .ok (.iinc 3 1, 3) := by decide +kernel
theorem dX7_settleAll_94 : decode cX7_settleAll 94 = .ok (.goto (-19), 3) := by decide +kernel
theorem dX7_settleAll_97 : decode cX7_settleAll 97 = .ok (.iinc 1 1, 3) := by decide +kernel
theorem dX7_settleAll_100 : decode cX7_settleAll 100 = .ok (.goto (-58), 3) := by decide +kernel
theorem dX7_settleAll_103 : decode cX7_settleAll 103 = .ok (.return_, 1) := by decide +kernel
theorem dX7_leastUnsettled_0 : decode cX7_leastUnsettled 0 = .ok (.iconst (-1), 1) := by decide +kernel
theorem dX7_leastUnsettled_1 : decode cX7_leastUnsettled 1 = .ok (.istore_n 1, 1) := by decide +kernel
theorem dX7_leastUnsettled_2 : decode cX7_leastUnsettled 2 = .ok (.iconst 0, 1) := by decide +kernel
theorem dX7_leastUnsettled_3 : decode cX7_leastUnsettled 3 = .ok (.istore_n 2, 1) := by decide +kernel
theorem dX7_leastUnsettled_4 : decode cX7_leastUnsettled 4 = .ok (.iload_n 2, 1) := by decide +kernel
theorem dX7_leastUnsettled_5 : decode cX7_leastUnsettled 5 = .ok (.bipush 60, 2) := by decide +kernel
theorem dX7_leastUnsettled_7 : decode cX7_leastUnsettled 7 = .ok (.if_icmp .gt 56, 3) := by decide +kernel
theorem dX7_leastUnsettled_10 : decode cX7_leastUnsettled 10 = .ok (.aload_n 0, 1) := by decide +kernel
theorem dX7_leastUnsettled_11 : decode cX7_leastUnsettled 11 = .ok (.getfield 24, 3) := by decide +kernel
theorem dX7_leastUnsettled_14 : decode cX7_leastUnsettled 14 = .ok (.iload_n 2, 1) := by decide +kernel
theorem dX7_leastUnsettled_15 : decode cX7_leastUnsettled 15 = .ok (.baload, 1) := by decide +kernel
theorem dX7_leastUnsettled_16 : decode cX7_leastUnsettled 16 = .ok (.ifCond .ne 41, 3) := by decide +kernel
theorem dX7_leastUnsettled_19 : decode cX7_leastUnsettled 19 = .ok (.aload_n 0, 1) := by decide +kernel
theorem dX7_leastUnsettled_20 : decode cX7_leastUnsettled 20 = .ok (.getfield 15, 3) := by decide +kernel
theorem dX7_leastUnsettled_23 : decode cX7_leastUnsettled 23 = .ok (.iload_n 2, 1) := by decide +kernel
theorem dX7_leastUnsettled_24 : decode cX7_leastUnsettled 24 = .ok (.iaload, 1) := by decide +kernel
theorem dX7_leastUnsettled_25 : decode cX7_leastUnsettled 25 = .ok (.ldc 46, 2) := by decide +kernel
theorem dX7_leastUnsettled_27 : decode cX7_leastUnsettled 27 = .ok (.if_icmp .ge 30, 3) := by decide +kernel
theorem dX7_leastUnsettled_30 : decode cX7_leastUnsettled 30 = .ok (.iload_n 1, 1) := by decide +kernel
theorem dX7_leastUnsettled_31 : decode cX7_leastUnsettled 31 = .ok (.iconst (-1), 1) := by decide +kernel
theorem dX7_leastUnsettled_32 : decode cX7_leastUnsettled 32 = .ok (.if_icmp .eq 23, 3) := by decide +kernel
theorem dX7_leastUnsettled_35 : decode cX7_leastUnsettled 35 = .ok (.aload_n 0, 1) := by decide +kernel
theorem dX7_leastUnsettled_36 : decode cX7_leastUnsettled 36 = .ok (.aload_n 0, 1) := by decide +kernel
theorem dX7_leastUnsettled_37 : decode cX7_leastUnsettled 37 = .ok (.getfield 15, 3) := by decide +kernel
theorem dX7_leastUnsettled_40 : decode cX7_leastUnsettled 40 = .ok (.iload_n 2, 1) := by decide +kernel
theorem dX7_leastUnsettled_41 : decode cX7_leastUnsettled 41 = .ok (.iaload, 1) := by decide +kernel
theorem dX7_leastUnsettled_42 : decode cX7_leastUnsettled 42 = .ok (.aload_n 0, 1) := by decide +kernel
theorem dX7_leastUnsettled_43 : decode cX7_leastUnsettled 43 = .ok (.getfield 18, 3) := by decide +kernel
theorem dX7_leastUnsettled_46 : decode cX7_leastUnsettled 46 = .ok (.iload_n 2, 1) := by decide +kernel
theorem dX7_leastUnsettled_47 : decode cX7_leastUnsettled 47 = .ok (.iaload, 1) := by decide +kernel
theorem dX7_leastUnsettled_48 : decode cX7_leastUnsettled 48 = .ok (.iload_n 1, 1) := by decide +kernel
theorem dX7_leastUnsettled_49 : decode cX7_leastUnsettled 49 = .ok (.invokevirtual 55, 3) := by decide +kernel
theorem dX7_leastUnsettled_52 : decode cX7_leastUnsettled 52 = .ok (.ifCond .eq 5, 3) := by decide +kernel
theorem dX7_leastUnsettled_55 : decode cX7_leastUnsettled 55 = .ok (.iload_n 2, 1) := by decide +kernel
theorem dX7_leastUnsettled_56 : decode cX7_leastUnsettled 56 = .ok (.istore_n 1, 1) := by decide +kernel
theorem dX7_leastUnsettled_57 : decode cX7_leastUnsettled 57 = .ok (.iinc 2 1, 3) := by decide +kernel
theorem dX7_leastUnsettled_60 : decode cX7_leastUnsettled 60 = .ok (.goto (-56), 3) := by decide +kernel
theorem dX7_leastUnsettled_63 : decode cX7_leastUnsettled 63 = .ok (.iload_n 1, 1) := by decide +kernel
theorem dX7_leastUnsettled_64 : decode cX7_leastUnsettled 64 = .ok (.ireturn, 1) := by decide +kernel
theorem dX7_isLess_0 : decode cX7_isLess 0 = .ok (.iload_n 1, 1) := by decide +kernel
theorem dX7_isLess_1 : decode cX7_isLess 1 = .ok (.aload_n 0, 1) := by decide +kernel
theorem dX7_isLess_2 : decode cX7_isLess 2 = .ok (.getfield 15, 3) := by decide +kernel
theorem dX7_isLess_5 : decode cX7_isLess 5 = .ok (.iload_n 3, 1) := by decide +kernel
theorem dX7_isLess_6 : decode cX7_isLess 6 = .ok (.iaload, 1) := by decide +kernel
theorem dX7_isLess_7 : decode cX7_isLess 7 = .ok (.if_icmp .lt 23, 3) := by decide +kernel
theorem dX7_isLess_10 : decode cX7_isLess 10 = .ok (.iload_n 1, 1) := by decide +kernel
theorem dX7_isLess_11 : decode cX7_isLess 11 = .ok (.aload_n 0, 1) := by decide +kernel
theorem dX7_isLess_12 : decode cX7_isLess 12 = .ok (.getfield 15, 3) := by decide +kernel
theorem dX7_isLess_15 : decode cX7_isLess 15 = .ok (.iload_n 3, 1) := by decide +kernel
theorem dX7_isLess_16 : decode cX7_isLess 16 = .ok (.iaload, 1) := by decide +kernel
theorem dX7_isLess_17 : decode cX7_isLess 17 = .ok (.if_icmp .ne 17, 3) := by decide +kernel
theorem dX7_isLess_20 : decode cX7_isLess 20 = .ok (.iload_n 2, 1) := by decide +kernel
theorem dX7_isLess_21 : decode cX7_isLess 21 = .ok (.aload_n 0, 1) := by decide +kernel
theorem dX7_isLess_22 : decode cX7_isLess 22 = .ok (.getfield 18, 3) := by decide +kernel
theorem dX7_isLess_25 : decode cX7_isLess 25 = .ok (.iload_n 3, 1) := by decide +kernel
theorem dX7_isLess_26 : decode cX7_isLess 26 = .ok (.iaload, 1) := by decide +kernel
theorem dX7_isLess_27 : decode cX7_isLess 27 = .ok (.if_icmp .ge 7, 3) := by decide +kernel
theorem dX7_isLess_30 : decode cX7_isLess 30 = .ok (.iconst 1, 1) := by decide +kernel
theorem dX7_isLess_31 : decode cX7_isLess 31 = .ok (.goto 4, 3) := by decide +kernel
theorem dX7_isLess_34 : decode cX7_isLess 34 = .ok (.iconst 0, 1) := by decide +kernel
theorem dX7_isLess_35 : decode cX7_isLess 35 = .ok (.ireturn, 1) := by decide +kernel
theorem dX7_offerJoined_0 : decode cX7_offerJoined 0 = .ok (.aload_n 0, 1) := by decide +kernel
theorem dX7_offerJoined_1 : decode cX7_offerJoined 1 = .ok (.getfield 15, 3) := by decide +kernel
theorem dX7_offerJoined_4 : decode cX7_offerJoined 4 = .ok (.iload_n 1, 1) := by decide +kernel
theorem dX7_offerJoined_5 : decode cX7_offerJoined 5 = .ok (.iaload, 1) := by decide +kernel
theorem dX7_offerJoined_6 : decode cX7_offerJoined 6 = .ok (.aload_n 0, 1) := by decide +kernel
theorem dX7_offerJoined_7 : decode cX7_offerJoined 7 = .ok (.getfield 15, 3) := by decide +kernel
theorem dX7_offerJoined_10 : decode cX7_offerJoined 10 = .ok (.iload_n 2, 1) := by decide +kernel
theorem dX7_offerJoined_11 : decode cX7_offerJoined 11 = .ok (.iaload, 1) := by decide +kernel
theorem dX7_offerJoined_12 : decode cX7_offerJoined 12 = .ok (.iadd, 1) := by decide +kernel
theorem dX7_offerJoined_13 : decode cX7_offerJoined 13 = .ok (.aload_n 0, 1) := by decide +kernel
theorem dX7_offerJoined_14 : decode cX7_offerJoined 14 = .ok (.getfield 38, 3) := by decide +kernel
theorem dX7_offerJoined_17 : decode cX7_offerJoined 17 = .ok (.iadd, 1) := by decide +kernel
theorem dX7_offerJoined_18 : decode cX7_offerJoined 18 = .ok (.istore_n 3, 1) := by decide +kernel
theorem dX7_offerJoined_19 : decode cX7_offerJoined 19 = .ok (.aload_n 0, 1) := by decide +kernel
theorem dX7_offerJoined_20 : decode cX7_offerJoined 20 = .ok (.getfield 18, 3) := by decide +kernel
theorem dX7_offerJoined_23 : decode cX7_offerJoined 23 = .ok (.iload_n 1, 1) := by decide +kernel
theorem dX7_offerJoined_24 : decode cX7_offerJoined 24 = .ok (.iaload, 1) := by decide +kernel
theorem dX7_offerJoined_25 : decode cX7_offerJoined 25 = .ok (.aload_n 0, 1) := by decide +kernel
theorem dX7_offerJoined_26 : decode cX7_offerJoined 26 = .ok (.getfield 18, 3) := by decide +kernel
theorem dX7_offerJoined_29 : decode cX7_offerJoined 29 = .ok (.iload_n 2, 1) := by decide +kernel
theorem dX7_offerJoined_30 : decode cX7_offerJoined 30 = .ok (.iaload, 1) := by decide +kernel
theorem dX7_offerJoined_31 : decode cX7_offerJoined 31 = .ok (.iadd, 1) := by decide +kernel
theorem dX7_offerJoined_32 : decode cX7_offerJoined 32 = .ok (.istore 4, 2) := by decide +kernel
theorem dX7_offerJoined_34 : decode cX7_offerJoined 34 = .ok (.aload_n 0, 1) := by decide +kernel
theorem dX7_offerJoined_35 : decode cX7_offerJoined 35 = .ok (.iload_n 1, 1) := by decide +kernel
theorem dX7_offerJoined_36 : decode cX7_offerJoined 36 = .ok (.iload_n 2, 1) := by decide +kernel
theorem dX7_offerJoined_37 : decode cX7_offerJoined 37 = .ok (.iadd, 1) := by decide +kernel
theorem dX7_offerJoined_38 : decode cX7_offerJoined 38 = .ok (.iload_n 3, 1) := by decide +kernel
theorem dX7_offerJoined_39 : decode cX7_offerJoined 39 = .ok (.iload 4, 2) := by decide +kernel
theorem dX7_offerJoined_41 : decode cX7_offerJoined 41 = .ok (.invokevirtual 59, 3) := by decide +kernel
theorem dX7_offerJoined_44 : decode cX7_offerJoined 44 = .ok (.aload_n 0, 1) := by decide +kernel
theorem dX7_offerJoined_45 : decode cX7_offerJoined 45 = .ok (.iload_n 1, 1) := by decide +kernel
theorem dX7_offerJoined_46 : decode cX7_offerJoined 46 = .ok (.iload_n 2, 1) := by decide +kernel
theorem dX7_offerJoined_47 : decode cX7_offerJoined 47 = .ok (.isub, 1) := by decide +kernel
theorem dX7_offerJoined_48 : decode cX7_offerJoined 48 = .ok (.invokestatic 63, 3) := by decide +kernel
theorem dX7_offerJoined_51 : decode cX7_offerJoined 51 = .ok (.iload_n 3, 1) := by decide +kernel
theorem dX7_offerJoined_52 : decode cX7_offerJoined 52 = .ok (.iload 4, 2) := by decide +kernel
theorem dX7_offerJoined_54 : decode cX7_offerJoined 54 = .ok (.invokevirtual 59, 3) := by decide +kernel
theorem dX7_offerJoined_57 : decode cX7_offerJoined 57 = .ok (.aload_n 0, 1) := by decide +kernel
theorem dX7_offerJoined_58 : decode cX7_offerJoined 58 = .ok (.iload_n 1, 1) := by decide +kernel
theorem dX7_offerJoined_59 : decode cX7_offerJoined 59 = .ok (.iload_n 2, 1) := by decide +kernel
theorem dX7_offerJoined_60 : decode cX7_offerJoined 60 = .ok (.imul, 1) := by decide +kernel
theorem dX7_offerJoined_61 : decode cX7_offerJoined 61 = .ok (.iload_n 3, 1) := by decide +kernel
theorem dX7_offerJoined_62 : decode cX7_offerJoined 62 = .ok (.iload 4, 2) := by decide +kernel
theorem dX7_offerJoined_64 : decode cX7_offerJoined 64 = .ok (.invokevirtual 59, 3) := by decide +kernel
theorem dX7_offerJoined_67 : decode cX7_offerJoined 67 = .ok (.return_, 1) := by decide +kernel
theorem dX7_offer_0 : decode cX7_offer 0 = .ok (.iload_n 1, 1) := by decide +kernel
theorem dX7_offer_1 : decode cX7_offer 1 = .ok (.bipush 60, 2) := by decide +kernel
theorem dX7_offer_3 : decode cX7_offer 3 = .ok (.if_icmp .gt 36, 3) := by decide +kernel
theorem dX7_offer_6 : decode cX7_offer 6 = .ok (.aload_n 0, 1) := by decide +kernel
theorem dX7_offer_7 : decode cX7_offer 7 = .ok (.getfield 24, 3) := by decide +kernel
theorem dX7_offer_10 : decode cX7_offer 10 = .ok (.iload_n 1, 1) := by decide +kernel
theorem dX7_offer_11 : decode cX7_offer 11 = .ok (.baload, 1) := by decide +kernel
theorem dX7_offer_12 : decode cX7_offer 12 = .ok (.ifCond .ne 27, 3) := by decide +kernel
theorem dX7_offer_15 : decode cX7_offer 15 = .ok (.aload_n 0, 1) := by decide +kernel
theorem dX7_offer_16 : decode cX7_offer 16 = .ok (.iload_n 2, 1) := by decide +kernel
theorem dX7_offer_17 : decode cX7_offer 17 = .ok (.iload_n 3, 1) := by decide +kernel
theorem dX7_offer_18 : decode cX7_offer 18 = .ok (.iload_n 1, 1) := by decide +kernel
theorem dX7_offer_19 : decode cX7_offer 19 = .ok (.invokevirtual 55, 3) := by decide +kernel
theorem dX7_offer_22 : decode cX7_offer 22 = .ok (.ifCond .eq 17, 3) := by decide +kernel
theorem dX7_offer_25 : decode cX7_offer 25 = .ok (.aload_n 0, 1) := by decide +kernel
theorem dX7_offer_26 : decode cX7_offer 26 = .ok (.getfield 15, 3) := by decide +kernel
theorem dX7_offer_29 : decode cX7_offer 29 = .ok (.iload_n 1, 1) := by decide +kernel
theorem dX7_offer_30 : decode cX7_offer 30 = .ok (.iload_n 2, 1) := by decide +kernel
theorem dX7_offer_31 : decode cX7_offer 31 = .ok (.iastore, 1) := by decide +kernel
theorem dX7_offer_32 : decode cX7_offer 32 = .ok (.aload_n 0, 1) := by decide +kernel
theorem dX7_offer_33 : decode cX7_offer 33 = .ok (.getfield 18, 3) := by decide +kernel
theorem dX7_offer_36 : decode cX7_offer 36 = .ok (.iload_n 1, 1) := by decide +kernel
theorem dX7_offer_37 : decode cX7_offer 37 = .ok (.iload_n 3, 1) := by decide +kernel
theorem dX7_offer_38 : decode cX7_offer 38 = .ok (.iastore, 1) := by decide +kernel
theorem dX7_offer_39 : decode cX7_offer 39 = .ok (.return_, 1) := by decide +kernel
theorem dX7_choose_0 : decode cX7_choose 0 = .ok (.aload_n 0, 1) := by decide +kernel
theorem dX7_choose_1 : decode cX7_choose 1 = .ok (.iconst 0, 1) := by decide +kernel
theorem dX7_choose_2 : decode cX7_choose 2 = .ok (.putfield 68, 3) := by decide +kernel
theorem dX7_choose_5 : decode cX7_choose 5 = .ok (.aload_n 0, 1) := by decide +kernel
theorem dX7_choose_6 : decode cX7_choose 6 = .ok (.iconst (-1), 1) := by decide +kernel
theorem dX7_choose_7 : decode cX7_choose 7 = .ok (.putfield 71, 3) := by decide +kernel
theorem dX7_choose_10 : decode cX7_choose 10 = .ok (.aload_n 0, 1) := by decide +kernel
theorem dX7_choose_11 : decode cX7_choose 11 = .ok (.iconst (-1), 1) := by decide +kernel
theorem dX7_choose_12 : decode cX7_choose 12 = .ok (.putfield 74, 3) := by decide +kernel
theorem dX7_choose_15 : decode cX7_choose 15 = .ok (.aload_n 0, 1) := by decide +kernel
theorem dX7_choose_16 : decode cX7_choose 16 = .ok (.getfield 15, 3) := by decide +kernel
theorem dX7_choose_19 : decode cX7_choose 19 = .ok (.iload_n 1, 1) := by decide +kernel
theorem dX7_choose_20 : decode cX7_choose 20 = .ok (.iaload, 1) := by decide +kernel
theorem dX7_choose_21 : decode cX7_choose 21 = .ok (.aload_n 0, 1) := by decide +kernel
theorem dX7_choose_22 : decode cX7_choose 22 = .ok (.getfield 9, 3) := by decide +kernel
theorem dX7_choose_25 : decode cX7_choose 25 = .ok (.iload_n 1, 1) := by decide +kernel
theorem dX7_choose_26 : decode cX7_choose 26 = .ok (.iaload, 1) := by decide +kernel
theorem dX7_choose_27 : decode cX7_choose 27 = .ok (.if_icmp .eq 19, 3) := by decide +kernel
theorem dX7_choose_30 : decode cX7_choose 30 = .ok (.aload_n 0, 1) := by decide +kernel
theorem dX7_choose_31 : decode cX7_choose 31 = .ok (.iload_n 1, 1) := by decide +kernel
theorem dX7_choose_32 : decode cX7_choose 32 = .ok (.invokevirtual 77, 3) := by decide +kernel
theorem dX7_choose_35 : decode cX7_choose 35 = .ok (.ifCond .ne 11, 3) := by decide +kernel
theorem dX7_choose_38 : decode cX7_choose 38 = .ok (.aload_n 0, 1) := by decide +kernel
theorem dX7_choose_39 : decode cX7_choose 39 = .ok (.iload_n 1, 1) := by decide +kernel
theorem dX7_choose_40 : decode cX7_choose 40 = .ok (.invokevirtual 81, 3) := by decide +kernel
theorem dX7_choose_43 : decode cX7_choose 43 = .ok (.ifCond .eq 4, 3) := by decide +kernel
theorem dX7_choose_46 : decode cX7_choose 46 = .ok (.return_, 1) := by decide +kernel
theorem dX7_choose_47 : decode cX7_choose 47 = .ok (.aload_n 0, 1) := by decide +kernel
theorem dX7_choose_48 : decode cX7_choose 48 = .ok (.iload_n 1, 1) := by decide +kernel
theorem dX7_choose_49 : decode cX7_choose 49 = .ok (.invokevirtual 84, 3) := by decide +kernel
theorem dX7_choose_52 : decode cX7_choose 52 = .ok (.return_, 1) := by decide +kernel
theorem dX7_chooseSum_0 : decode cX7_chooseSum 0 = .ok (.iconst 0, 1) := by decide +kernel
theorem dX7_chooseSum_1 : decode cX7_chooseSum 1 = .ok (.istore_n 2, 1) := by decide +kernel
theorem dX7_chooseSum_2 : decode cX7_chooseSum 2 = .ok (.iload_n 2, 1) := by decide +kernel
theorem dX7_chooseSum_3 : decode cX7_chooseSum 3 = .ok (.iload_n 1, 1) := by decide +kernel
theorem dX7_chooseSum_4 : decode cX7_chooseSum 4 = .ok (.iload_n 2, 1) := by decide +kernel
theorem dX7_chooseSum_5 : decode cX7_chooseSum 5 = .ok (.isub, 1) := by decide +kernel
theorem dX7_chooseSum_6 : decode cX7_chooseSum 6 = .ok (.if_icmp .gt 24, 3) := by decide +kernel
theorem dX7_chooseSum_9 : decode cX7_chooseSum 9 = .ok (.aload_n 0, 1) := by decide +kernel
theorem dX7_chooseSum_10 : decode cX7_chooseSum 10 = .ok (.iload_n 1, 1) := by decide +kernel
theorem dX7_chooseSum_11 : decode cX7_chooseSum 11 = .ok (.iconst 1, 1) := by decide +kernel
theorem dX7_chooseSum_12 : decode cX7_chooseSum 12 = .ok (.iload_n 2, 1) := by decide +kernel
theorem dX7_chooseSum_13 : decode cX7_chooseSum 13 = .ok (.iload_n 1, 1) := by decide +kernel
theorem dX7_chooseSum_14 : decode cX7_chooseSum 14 = .ok (.iload_n 2, 1) := by decide +kernel
theorem dX7_chooseSum_15 : decode cX7_chooseSum 15 = .ok (.isub, 1) := by decide +kernel
theorem dX7_chooseSum_16 : decode cX7_chooseSum 16 = .ok (.invokevirtual 88, 3) := by decide +kernel
theorem dX7_chooseSum_19 : decode cX7_chooseSum 19 = .ok (.ifCond .eq 5, 3) := by decide +kernel
theorem dX7_chooseSum_22 : decode cX7_chooseSum 22 = .ok (.iconst 1, 1) := by decide +kernel
theorem dX7_chooseSum_23 : decode cX7_chooseSum 23 = .ok (.ireturn, 1) := by decide +kernel
theorem dX7_chooseSum_24 : decode cX7_chooseSum 24 = .ok (.iinc 2 1, 3) := by decide +kernel
theorem dX7_chooseSum_27 : decode cX7_chooseSum 27 = .ok (.goto (-25), 3) := by decide +kernel
theorem dX7_chooseSum_30 : decode cX7_chooseSum 30 = .ok (.iconst 0, 1) := by decide +kernel
theorem dX7_chooseSum_31 : decode cX7_chooseSum 31 = .ok (.ireturn, 1) := by decide +kernel
theorem dX7_chooseDifference_0 : decode cX7_chooseDifference 0 = .ok (.iload_n 1, 1) := by decide +kernel
theorem dX7_chooseDifference_1 : decode cX7_chooseDifference 1 = .ok (.istore_n 2, 1) := by decide +kernel
theorem dX7_chooseDifference_2 : decode cX7_chooseDifference 2 = .ok (.iload_n 2, 1) := by decide +kernel
theorem dX7_chooseDifference_3 : decode cX7_chooseDifference 3 = .ok (.bipush 60, 2) := by decide +kernel
theorem dX7_chooseDifference_5 : decode cX7_chooseDifference 5 = .ok (.if_icmp .gt 24, 3) := by decide +kernel
theorem dX7_chooseDifference_8 : decode cX7_chooseDifference 8 = .ok (.aload_n 0, 1) := by decide +kernel
theorem dX7_chooseDifference_9 : decode cX7_chooseDifference 9 = .ok (.iload_n 1, 1) := by decide +kernel
theorem dX7_chooseDifference_10 : decode cX7_chooseDifference 10 = .ok (.iconst 2, 1) := by decide +kernel
theorem dX7_chooseDifference_11 : decode cX7_chooseDifference 11 = .ok (.iload_n 2, 1) := by decide +kernel
theorem dX7_chooseDifference_12 : decode cX7_chooseDifference 12 = .ok (.iload_n 2, 1) := by decide +kernel
theorem dX7_chooseDifference_13 : decode cX7_chooseDifference 13 = .ok (.iload_n 1, 1) := by decide +kernel
theorem dX7_chooseDifference_14 : decode cX7_chooseDifference 14 = .ok (.isub, 1) := by decide +kernel
theorem dX7_chooseDifference_15 : decode cX7_chooseDifference 15 = .ok (.invokevirtual 88, 3) := by decide +kernel
theorem dX7_chooseDifference_18 : decode cX7_chooseDifference 18 = .ok (.ifCond .eq 5, 3) := by decide +kernel
theorem dX7_chooseDifference_21 : decode cX7_chooseDifference 21 = .ok (.iconst 1, 1) := by decide +kernel
theorem dX7_chooseDifference_22 : decode cX7_chooseDifference 22 = .ok (.ireturn, 1) := by decide +kernel
theorem dX7_chooseDifference_23 : decode cX7_chooseDifference 23 = .ok (.iinc 2 1, 3) := by decide +kernel
theorem dX7_chooseDifference_26 : decode cX7_chooseDifference 26 = .ok (.goto (-24), 3) := by decide +kernel
theorem dX7_chooseDifference_29 : decode cX7_chooseDifference 29 = .ok (.iconst 0, 1) := by decide +kernel
theorem dX7_chooseDifference_30 : decode cX7_chooseDifference 30 = .ok (.ireturn, 1) := by decide +kernel
theorem dX7_chooseProduct_0 : decode cX7_chooseProduct 0 = .ok (.iconst 0, 1) := by decide +kernel
theorem dX7_chooseProduct_1 : decode cX7_chooseProduct 1 = .ok (.istore_n 2, 1) := by decide +kernel
theorem dX7_chooseProduct_2 : decode cX7_chooseProduct 2 = .ok (.iload_n 2, 1) := by decide +kernel
theorem dX7_chooseProduct_3 : decode cX7_chooseProduct 3 = .ok (.bipush 60, 2) := by decide +kernel
theorem dX7_chooseProduct_5 : decode cX7_chooseProduct 5 = .ok (.if_icmp .gt 42, 3) := by decide +kernel
theorem dX7_chooseProduct_8 : decode cX7_chooseProduct 8 = .ok (.iload_n 2, 1) := by decide +kernel
theorem dX7_chooseProduct_9 : decode cX7_chooseProduct 9 = .ok (.istore_n 3, 1) := by decide +kernel
theorem dX7_chooseProduct_10 : decode cX7_chooseProduct 10 = .ok (.iload_n 3, 1) := by decide +kernel
theorem dX7_chooseProduct_11 : decode cX7_chooseProduct 11 = .ok (.bipush 60, 2) := by decide +kernel
theorem dX7_chooseProduct_13 : decode cX7_chooseProduct 13 = .ok (.if_icmp .gt 28, 3) := by decide +kernel
theorem dX7_chooseProduct_16 : decode cX7_chooseProduct 16 = .ok (.iload_n 2, 1) := by decide +kernel
theorem dX7_chooseProduct_17 : decode cX7_chooseProduct 17 = .ok (.iload_n 3, 1) := by decide +kernel
theorem dX7_chooseProduct_18 : decode cX7_chooseProduct 18 = .ok (.imul, 1) := by decide +kernel
theorem dX7_chooseProduct_19 : decode cX7_chooseProduct 19 = .ok (.iload_n 1, 1) := by decide +kernel
theorem dX7_chooseProduct_20 : decode cX7_chooseProduct 20 = .ok (.if_icmp .ne 15, 3) := by decide +kernel
theorem dX7_chooseProduct_23 : decode cX7_chooseProduct 23 = .ok (.aload_n 0, 1) := by decide +kernel
theorem dX7_chooseProduct_24 : decode cX7_chooseProduct 24 = .ok (.iload_n 1, 1) := by decide +kernel
theorem dX7_chooseProduct_25 : decode cX7_chooseProduct 25 = .ok (.iconst 3, 1) := by decide +kernel
theorem dX7_chooseProduct_26 : decode cX7_chooseProduct 26 = .ok (.iload_n 2, 1) := by decide +kernel
theorem dX7_chooseProduct_27 : decode cX7_chooseProduct 27 = .ok (.iload_n 3, 1) := by decide +kernel
theorem dX7_chooseProduct_28 : decode cX7_chooseProduct 28 = .ok (.invokevirtual 88, 3) := by decide +kernel
theorem dX7_chooseProduct_31 : decode cX7_chooseProduct 31 = .ok (.ifCond .eq 4, 3) := by decide +kernel
theorem dX7_chooseProduct_34 : decode cX7_chooseProduct 34 = .ok (.return_, 1) := by decide +kernel
theorem dX7_chooseProduct_35 : decode cX7_chooseProduct 35 = .ok (.iinc 3 1, 3) := by decide +kernel
theorem dX7_chooseProduct_38 : decode cX7_chooseProduct 38 = .ok (.goto (-28), 3) := by decide +kernel
theorem dX7_chooseProduct_41 : decode cX7_chooseProduct 41 = .ok (.iinc 2 1, 3) := by decide +kernel
theorem dX7_chooseProduct_44 : decode cX7_chooseProduct 44 = .ok (.goto (-42), 3) := by decide +kernel
theorem dX7_chooseProduct_47 : decode cX7_chooseProduct 47 = .ok (.return_, 1) := by decide +kernel
theorem dX7_take_0 : decode cX7_take 0 = .ok (.aload_n 0, 1) := by decide +kernel
theorem dX7_take_1 : decode cX7_take 1 = .ok (.getfield 15, 3) := by decide +kernel
theorem dX7_take_4 : decode cX7_take 4 = .ok (.iload_n 3, 1) := by decide +kernel
theorem dX7_take_5 : decode cX7_take 5 = .ok (.iaload, 1) := by decide +kernel
theorem dX7_take_6 : decode cX7_take 6 = .ok (.aload_n 0, 1) := by decide +kernel
theorem dX7_take_7 : decode cX7_take 7 = .ok (.getfield 15, 3) := by decide +kernel
theorem dX7_take_10 : decode cX7_take 10 = .ok (.iload 4, 2) := by decide +kernel
theorem dX7_take_12 : decode cX7_take 12 = .ok (.iaload, 1) := by decide +kernel
theorem dX7_take_13 : decode cX7_take 13 = .ok (.iadd, 1) := by decide +kernel
theorem dX7_take_14 : decode cX7_take 14 = .ok (.aload_n 0, 1) := by decide +kernel
theorem dX7_take_15 : decode cX7_take 15 = .ok (.getfield 38, 3) := by decide +kernel
theorem dX7_take_18 : decode cX7_take 18 = .ok (.iadd, 1) := by decide +kernel
theorem dX7_take_19 : decode cX7_take 19 = .ok (.aload_n 0, 1) := by decide +kernel
theorem dX7_take_20 : decode cX7_take 20 = .ok (.getfield 15, 3) := by decide +kernel
theorem dX7_take_23 : decode cX7_take 23 = .ok (.iload_n 1, 1) := by decide +kernel
theorem dX7_take_24 : decode cX7_take 24 = .ok (.iaload, 1) := by decide +kernel
theorem dX7_take_25 : decode cX7_take 25 = .ok (.if_icmp .ne 26, 3) := by decide +kernel
theorem dX7_take_28 : decode cX7_take 28 = .ok (.aload_n 0, 1) := by decide +kernel
theorem dX7_take_29 : decode cX7_take 29 = .ok (.getfield 18, 3) := by decide +kernel
theorem dX7_take_32 : decode cX7_take 32 = .ok (.iload_n 3, 1) := by decide +kernel
theorem dX7_take_33 : decode cX7_take 33 = .ok (.iaload, 1) := by decide +kernel
theorem dX7_take_34 : decode cX7_take 34 = .ok (.aload_n 0, 1) := by decide +kernel
theorem dX7_take_35 : decode cX7_take 35 = .ok (.getfield 18, 3) := by decide +kernel
theorem dX7_take_38 : decode cX7_take 38 = .ok (.iload 4, 2) := by decide +kernel
theorem dX7_take_40 : decode cX7_take 40 = .ok (.iaload, 1) := by decide +kernel
theorem dX7_take_41 : decode cX7_take 41 = .ok (.iadd, 1) := by decide +kernel
theorem dX7_take_42 : decode cX7_take 42 = .ok (.aload_n 0, 1) := by decide +kernel
theorem dX7_take_43 : decode cX7_take 43 = .ok (.getfield 18, 3) := by decide +kernel
theorem dX7_take_46 : decode cX7_take 46 = .ok (.iload_n 1, 1) := by decide +kernel
theorem dX7_take_47 : decode cX7_take 47 = .ok (.iaload, 1) := by decide +kernel
theorem dX7_take_48 : decode cX7_take 48 = .ok (.if_icmp .eq 5, 3) := by decide +kernel
theorem dX7_take_51 : decode cX7_take 51 = .ok (.iconst 0, 1) := by decide +kernel
theorem dX7_take_52 : decode cX7_take 52 = .ok (.ireturn, 1) := by decide +kernel
theorem dX7_take_53 : decode cX7_take 53 = .ok (.aload_n 0, 1) := by decide +kernel
theorem dX7_take_54 : decode cX7_take 54 = .ok (.iload_n 2, 1) := by decide +kernel
theorem dX7_take_55 : decode cX7_take 55 = .ok (.putfield 68, 3) := by decide +kernel
theorem dX7_take_58 : decode cX7_take 58 = .ok (.aload_n 0, 1) := by decide +kernel
theorem dX7_take_59 : decode cX7_take 59 = .ok (.iload_n 3, 1) := by decide +kernel
theorem dX7_take_60 : decode cX7_take 60 = .ok (.putfield 71, 3) := by decide +kernel
theorem dX7_take_63 : decode cX7_take 63 = .ok (.aload_n 0, 1) := by decide +kernel
theorem dX7_take_64 : decode cX7_take 64 = .ok (.iload 4, 2) := by decide +kernel
theorem dX7_take_66 : decode cX7_take 66 = .ok (.putfield 74, 3) := by decide +kernel
theorem dX7_take_69 : decode cX7_take 69 = .ok (.iconst 1, 1) := by decide +kernel
theorem dX7_take_70 : decode cX7_take 70 = .ok (.ireturn, 1) := by decide +kernel
theorem dX8_init_0 : decode cX8_init 0 = .ok (.aload_n 0, 1) := by decide +kernel
theorem dX8_init_1 : decode cX8_init 1 = .ok (.invokespecial 3, 3) := by decide +kernel
theorem dX8_init_4 : decode cX8_init 4 = .ok (.aload_n 0, 1) := by decide +kernel
theorem dX8_init_5 : decode cX8_init 5 = .ok (.bipush 61, 2) := by decide +kernel
theorem dX8_init_7 : decode cX8_init 7 = .ok (.newarray .int, 2) := by decide +kernel
theorem dX8_init_9 : decode cX8_init 9 = .ok (.putfield 9, 3) := by decide +kernel
theorem dX8_init_12 : decode cX8_init 12 = .ok (.aload_n 0, 1) := by decide +kernel
theorem dX8_init_13 : decode cX8_init 13 = .ok (.bipush 61, 2) := by decide +kernel
theorem dX8_init_15 : decode cX8_init 15 = .ok (.newarray .int, 2) := by decide +kernel
theorem dX8_init_17 : decode cX8_init 17 = .ok (.putfield 15, 3) := by decide +kernel
theorem dX8_init_20 : decode cX8_init 20 = .ok (.return_, 1) := by decide +kernel
theorem dX8_measure_0 : decode cX8_measure 0 = .ok (.aload_n 1, 1) := by decide +kernel
theorem dX8_measure_1 : decode cX8_measure 1 = .ok (.aload_n 2, 1) := by decide +kernel
theorem dX8_measure_2 : decode cX8_measure 2 = .ok (.iconst 2, 1) := by decide +kernel
theorem dX8_measure_3 : decode cX8_measure 3 = .ok (.aload_n 0, 1) := by decide +kernel
theorem dX8_measure_4 : decode cX8_measure 4 = .ok (.getfield 9, 3) := by decide +kernel
theorem dX8_measure_7 : decode cX8_measure 7 = .ok (.invokevirtual 18, 3) := by decide +kernel
theorem dX8_measure_10 : decode cX8_measure 10 = .ok (.aload_n 0, 1) := by decide +kernel
theorem dX8_measure_11 : decode cX8_measure 11 = .ok (.getfield 9, 3) := by decide +kernel
theorem dX8_measure_14 : decode cX8_measure 14 = .ok (.iload_n 3, 1) := by decide +kernel
theorem dX8_measure_15 : decode cX8_measure 15 = .ok (.aload_n 1, 1) := by decide +kernel
theorem dX8_measure_16 : decode cX8_measure 16 = .ok (.aload_n 2, 1) := by decide +kernel
theorem dX8_measure_17 : decode cX8_measure 17 = .ok (.iload_n 3, 1) := by decide +kernel
theorem dX8_measure_18 : decode cX8_measure 18 = .ok (.iconst 1, 1) := by decide +kernel
theorem dX8_measure_19 : decode cX8_measure 19 = .ok (.invokevirtual 24, 3) := by decide +kernel
theorem dX8_measure_22 : decode cX8_measure 22 = .ok (.iastore, 1) := by decide +kernel
theorem dX8_measure_23 : decode cX8_measure 23 = .ok (.iconst 0, 1) := by decide +kernel
theorem dX8_measure_24 : decode cX8_measure 24 = .ok (.istore 4, 2) := by decide +kernel
theorem dX8_measure_26 : decode cX8_measure 26 = .ok (.iload 4, 2) := by decide +kernel
theorem dX8_measure_28 : decode cX8_measure 28 = .ok (.bipush 60, 2) := by decide +kernel
theorem dX8_measure_30 : decode cX8_measure 30 = .ok (.if_icmp .gt 18, 3) := by decide +kernel
theorem dX8_measure_33 : decode cX8_measure 33 = .ok (.aload_n 0, 1) := by decide +kernel
theorem dX8_measure_34 : decode cX8_measure 34 = .ok (.getfield 15, 3) := by decide +kernel
theorem dX8_measure_37 : decode cX8_measure 37 = .ok (.iload 4, 2) := by decide +kernel
theorem dX8_measure_39 : decode cX8_measure 39 = .ok (.ldc 28, 2) := by decide +kernel
theorem dX8_measure_41 : decode cX8_measure 41 = .ok (.iastore, 1) := by decide +kernel
theorem dX8_measure_42 : decode cX8_measure 42 = .ok (.iinc 4 1, 3) := by decide +kernel
theorem dX8_measure_45 : decode cX8_measure 45 = .ok (.goto (-19), 3) := by decide +kernel
theorem dX8_measure_48 : decode cX8_measure 48 = .ok (.aload_n 0, 1) := by decide +kernel
theorem dX8_measure_49 : decode cX8_measure 49 = .ok (.getfield 15, 3) := by decide +kernel
theorem dX8_measure_52 : decode cX8_measure 52 = .ok (.iload_n 3, 1) := by decide +kernel
theorem dX8_measure_53 : decode cX8_measure 53 = .ok (.iconst 0, 1) := by decide +kernel
theorem dX8_measure_54 : decode cX8_measure 54 = .ok (.iastore, 1) := by decide +kernel
theorem dX8_measure_55 : decode cX8_measure 55 = .ok (.iconst 1, 1) := by decide +kernel
theorem dX8_measure_56 : decode cX8_measure 56 = .ok (.istore 4, 2) := by decide +kernel
theorem dX8_measure_58 : decode cX8_measure 58 = .ok (.iconst 0, 1) := by decide +kernel
theorem dX8_measure_59 : decode cX8_measure 59 = .ok (.istore 5, 2) := by decide +kernel
theorem dX8_measure_61 : decode cX8_measure 61 = .ok (.iload 5, 2) := by decide +kernel
theorem dX8_measure_63 : decode cX8_measure 63 = .ok (.bipush 61, 2) := by decide +kernel
theorem dX8_measure_65 : decode cX8_measure 65 = .ok (.if_icmp .ge 20, 3) := by decide +kernel
theorem dX8_measure_68 : decode cX8_measure 68 = .ok (.iload 4, 2) := by decide +kernel
theorem dX8_measure_70 : decode cX8_measure 70 = .ok (.ifCond .eq 15, 3) := by decide +kernel
theorem dX8_measure_73 : decode cX8_measure 73 = .ok (.aload_n 0, 1) := by decide +kernel
theorem dX8_measure_74 : decode cX8_measure 74 = .ok (.invokevirtual 29, 3) := by decide +kernel
theorem dX8_measure_77 : decode cX8_measure 77 = .ok (.istore 4, 2) := by decide +kernel
theorem dX8_measure_79 : decode cX8_measure 79 = .ok (.iinc 5 1, 3) := by decide +kernel
theorem dX8_measure_82 : decode cX8_measure 82 = .ok (.goto (-21), 3) := by decide +kernel
theorem dX8_measure_85 : decode cX8_measure 85 = .ok (.return_, 1) := by decide +kernel
theorem dX8_shorten_0 : decode cX8_shorten 0 = .ok (.iconst 0, 1) := by decide +kernel
theorem dX8_shorten_1 : decode cX8_shorten 1 = .ok (.istore_n 1, 1) := by decide +kernel
theorem dX8_shorten_2 : decode cX8_shorten 2 = .ok (.iconst 0, 1) := by decide +kernel
theorem dX8_shorten_3 : decode cX8_shorten 3 = .ok (.istore_n 2, 1) := by decide +kernel
theorem dX8_shorten_4 : decode cX8_shorten 4 = .ok (.iload_n 2, 1) := by decide +kernel
theorem dX8_shorten_5 : decode cX8_shorten 5 = .ok (.bipush 60, 2) := by decide +kernel
theorem dX8_shorten_7 : decode cX8_shorten 7 = .ok (.if_icmp .gt 60, 3) := by decide +kernel
theorem dX8_shorten_10 : decode cX8_shorten 10 = .ok (.iload_n 2, 1) := by decide +kernel
theorem dX8_shorten_11 : decode cX8_shorten 11 = .ok (.invokestatic 33, 3) := by decide +kernel
theorem dX8_shorten_14 : decode cX8_shorten 14 = .ok (.istore_n 3, 1) := by decide +kernel
theorem dX8_shorten_15 : decode cX8_shorten 15 = .ok (.iload_n 3, 1) := by decide +kernel
theorem dX8_shorten_16 : decode cX8_shorten 16 = .ok (.iload_n 2, 1) := by decide +kernel
theorem dX8_shorten_17 : decode cX8_shorten 17 = .ok (.invokestatic 37, 3) := by decide +kernel
theorem dX8_shorten_20 : decode cX8_shorten 20 = .ok (.if_icmp .gt 41, 3) := by decide +kernel
theorem dX8_shorten_23 : decode cX8_shorten 23 = .ok (.iload_n 3, 1) := by decide +kernel
theorem dX8_shorten_24 : decode cX8_shorten 24 = .ok (.iload_n 2, 1) := by decide +kernel
theorem dX8_shorten_25 : decode cX8_shorten 25 = .ok (.if_icmp .eq 30, 3) := by decide +kernel
theorem dX8_shorten_28 : decode cX8_shorten 28 = .ok (.aload_n 0, 1) := by decide +kernel
theorem dX8_shorten_29 : decode cX8_shorten 29 = .ok (.iload_n 3, 1) := by decide +kernel
theorem dX8_shorten_30 : decode cX8_shorten 30 = .ok (.invokevirtual 40, 3) := by decide +kernel
theorem dX8_shorten_33 : decode cX8_shorten 33 = .ok (.aload_n 0, 1) := by decide +kernel
theorem dX8_shorten_34 : decode cX8_shorten 34 = .ok (.getfield 15, 3) := by decide +kernel
theorem dX8_shorten_37 : decode cX8_shorten 37 = .ok (.iload_n 2, 1) := by decide +kernel
theorem dX8_shorten_38 : decode cX8_shorten 38 = .ok (.iaload, 1) := by decide +kernel
theorem dX8_shorten_39 : decode cX8_shorten 39 = .ok (.if_icmp .ge 16, 3) := by decide +kernel
theorem dX8_shorten_42 : decode cX8_shorten 42 = .ok (.aload_n 0, 1) := by decide +kernel
theorem dX8_shorten_43 : decode cX8_shorten 43 = .ok (.getfield 15, 3) := by decide +kernel
theorem dX8_shorten_46 : decode cX8_shorten 46 = .ok (.iload_n 2, 1) := by decide +kernel
theorem dX8_shorten_47 : decode cX8_shorten 47 = .ok (.aload_n 0, 1) := by decide +kernel
theorem dX8_shorten_48 : decode cX8_shorten 48 = .ok (.iload_n 3, 1) := by decide +kernel
theorem dX8_shorten_49 : decode cX8_shorten 49 = .ok (.invokevirtual 40, 3) := by decide +kernel
theorem dX8_shorten_52 : decode cX8_shorten 52 = .ok (.iastore, 1) := by decide +kernel
theorem dX8_shorten_53 : decode cX8_shorten 53 = .ok (.iconst 1, 1) := by decide +kernel
theorem dX8_shorten_54 : decode cX8_shorten 54 = .ok (.istore_n 1, 1) := by decide +kernel
theorem dX8_shorten_55 : decode cX8_shorten 55 = .ok (.iinc 3 1, 3) := by decide +kernel
theorem dX8_shorten_58 : decode cX8_shorten 58 = .ok (.goto (-43), 3) := by decide +kernel
theorem dX8_shorten_61 : decode cX8_shorten 61 = .ok (.iinc 2 1, 3) := by decide +kernel
theorem dX8_shorten_64 : decode cX8_shorten 64 = .ok (.goto (-60), 3) := by decide +kernel
theorem dX8_shorten_67 : decode cX8_shorten 67 = .ok (.iload_n 1, 1) := by decide +kernel
theorem dX8_shorten_68 : decode cX8_shorten 68 = .ok (.ireturn, 1) := by decide +kernel
theorem dX8_lowest_0 : decode cX8_lowest 0 = .ok (.iconst 0, 1) := by decide +kernel
theorem dX8_lowest_1 : decode cX8_lowest 1 = .ok (.iload_n 0, 1) := by decide +kernel
theorem dX8_lowest_2 : decode cX8_lowest 2 = .ok (.iconst 3, 1) := by decide +kernel
theorem dX8_lowest_3 : decode cX8_lowest 3 = .ok (.isub, 1) := by decide +kernel
theorem dX8_lowest_4 : decode cX8_lowest 4 = .ok (.invokestatic 43, 3) := by decide +kernel
theorem dX8_lowest_7 : decode cX8_lowest 7 = .ok (.ireturn, 1) := by decide +kernel
theorem dX8_highest_0 : decode cX8_highest 0 = .ok (.bipush 60, 2) := by decide +kernel
theorem dX8_highest_2 : decode cX8_highest 2 = .ok (.iload_n 0, 1) := by decide +kernel
theorem dX8_highest_3 : decode cX8_highest 3 = .ok (.iconst 3, 1) := by decide +kernel
theorem dX8_highest_4 : decode cX8_highest 4 = .ok (.iadd, 1) := by decide +kernel
theorem dX8_highest_5 : decode cX8_highest 5 = .ok (.invokestatic 49, 3) := by decide +kernel
theorem dX8_highest_8 : decode cX8_highest 8 = .ok (.ireturn, 1) := by decide +kernel
theorem dX8_by_0 : decode cX8_by 0 = .ok (.aload_n 0, 1) := by decide +kernel
theorem dX8_by_1 : decode cX8_by 1 = .ok (.getfield 15, 3) := by decide +kernel
theorem dX8_by_4 : decode cX8_by 4 = .ok (.iload_n 1, 1) := by decide +kernel
theorem dX8_by_5 : decode cX8_by 5 = .ok (.iaload, 1) := by decide +kernel
theorem dX8_by_6 : decode cX8_by 6 = .ok (.ldc 28, 2) := by decide +kernel
theorem dX8_by_8 : decode cX8_by 8 = .ok (.if_icmp .ne 8, 3) := by decide +kernel
theorem dX8_by_11 : decode cX8_by 11 = .ok (.ldc 28, 2) := by decide +kernel
theorem dX8_by_13 : decode cX8_by 13 = .ok (.goto 21, 3) := by decide +kernel
theorem dX8_by_16 : decode cX8_by 16 = .ok (.aload_n 0, 1) := by decide +kernel
theorem dX8_by_17 : decode cX8_by 17 = .ok (.getfield 15, 3) := by decide +kernel
theorem dX8_by_20 : decode cX8_by 20 = .ok (.iload_n 1, 1) := by decide +kernel
theorem dX8_by_21 : decode cX8_by 21 = .ok (.iaload, 1) := by decide +kernel
theorem dX8_by_22 : decode cX8_by 22 = .ok (.aload_n 0, 1) := by decide +kernel
theorem dX8_by_23 : decode cX8_by 23 = .ok (.getfield 9, 3) := by decide +kernel
theorem dX8_by_26 : decode cX8_by 26 = .ok (.iload_n 1, 1) := by decide +kernel
theorem dX8_by_27 : decode cX8_by 27 = .ok (.iaload, 1) := by decide +kernel
theorem dX8_by_28 : decode cX8_by 28 = .ok (.bipush 64, 2) := by decide +kernel
theorem dX8_by_30 : decode cX8_by 30 = .ok (.imul, 1) := by decide +kernel
theorem dX8_by_31 : decode cX8_by 31 = .ok (.iadd, 1) := by decide +kernel
theorem dX8_by_32 : decode cX8_by 32 = .ok (.iconst 1, 1) := by decide +kernel
theorem dX8_by_33 : decode cX8_by 33 = .ok (.iadd, 1) := by decide +kernel
theorem dX8_by_34 : decode cX8_by 34 = .ok (.ireturn, 1) := by decide +kernel
theorem dX8_coins_0 : decode cX8_coins 0 = .ok (.aload_n 0, 1) := by decide +kernel
theorem dX8_coins_1 : decode cX8_coins 1 = .ok (.getfield 15, 3) := by decide +kernel
theorem dX8_coins_4 : decode cX8_coins 4 = .ok (.iload_n 1, 1) := by decide +kernel
theorem dX8_coins_5 : decode cX8_coins 5 = .ok (.iaload, 1) := by decide +kernel
theorem dX8_coins_6 : decode cX8_coins 6 = .ok (.bipush 64, 2) := by decide +kernel
theorem dX8_coins_8 : decode cX8_coins 8 = .ok (.idiv, 1) := by decide +kernel
theorem dX8_coins_9 : decode cX8_coins 9 = .ok (.ireturn, 1) := by decide +kernel
theorem dX8_steps_0 : decode cX8_steps 0 = .ok (.aload_n 0, 1) := by decide +kernel
theorem dX8_steps_1 : decode cX8_steps 1 = .ok (.getfield 15, 3) := by decide +kernel
theorem dX8_steps_4 : decode cX8_steps 4 = .ok (.iload_n 1, 1) := by decide +kernel
theorem dX8_steps_5 : decode cX8_steps 5 = .ok (.iaload, 1) := by decide +kernel
theorem dX8_steps_6 : decode cX8_steps 6 = .ok (.bipush 64, 2) := by decide +kernel
theorem dX8_steps_8 : decode cX8_steps 8 = .ok (.irem, 1) := by decide +kernel
theorem dX8_steps_9 : decode cX8_steps 9 = .ok (.ireturn, 1) := by decide +kernel
theorem dX8_firstFrom_0 : decode cX8_firstFrom 0 = .ok (.iload_n 1, 1) := by decide +kernel
theorem dX8_firstFrom_1 : decode cX8_firstFrom 1 = .ok (.iload_n 2, 1) := by decide +kernel
theorem dX8_firstFrom_2 : decode cX8_firstFrom 2 = .ok (.if_icmp .ne 5, 3) := by decide +kernel
theorem dX8_firstFrom_5 : decode cX8_firstFrom 5 = .ok (.iconst (-1), 1) := by decide +kernel
theorem dX8_firstFrom_6 : decode cX8_firstFrom 6 = .ok (.ireturn, 1) := by decide +kernel
theorem dX8_firstFrom_7 : decode cX8_firstFrom 7 = .ok (.iload_n 1, 1) := by decide +kernel
theorem dX8_firstFrom_8 : decode cX8_firstFrom 8 = .ok (.invokestatic 33, 3) := by decide +kernel
theorem dX8_firstFrom_11 : decode cX8_firstFrom 11 = .ok (.istore_n 3, 1) := by decide +kernel
theorem dX8_firstFrom_12 : decode cX8_firstFrom 12 = .ok (.iload_n 3, 1) := by decide +kernel
theorem dX8_firstFrom_13 : decode cX8_firstFrom 13 = .ok (.iload_n 1, 1) := by decide +kernel
theorem dX8_firstFrom_14 : decode cX8_firstFrom 14 = .ok (.invokestatic 37, 3) := by decide +kernel
theorem dX8_firstFrom_17 : decode cX8_firstFrom 17 = .ok (.if_icmp .gt 30, 3) := by decide +kernel
theorem dX8_firstFrom_20 : decode cX8_firstFrom 20 = .ok (.iload_n 3, 1) := by decide +kernel
theorem dX8_firstFrom_21 : decode cX8_firstFrom 21 = .ok (.iload_n 1, 1) := by decide +kernel
theorem dX8_firstFrom_22 : decode cX8_firstFrom 22 = .ok (.if_icmp .eq 19, 3) := by decide +kernel
theorem dX8_firstFrom_25 : decode cX8_firstFrom 25 = .ok (.aload_n 0, 1) := by decide +kernel
theorem dX8_firstFrom_26 : decode cX8_firstFrom 26 = .ok (.iload_n 3, 1) := by decide +kernel
theorem dX8_firstFrom_27 : decode cX8_firstFrom 27 = .ok (.invokevirtual 40, 3) := by decide +kernel
theorem dX8_firstFrom_30 : decode cX8_firstFrom 30 = .ok (.aload_n 0, 1) := by decide +kernel
theorem dX8_firstFrom_31 : decode cX8_firstFrom 31 = .ok (.getfield 15, 3) := by decide +kernel
theorem dX8_firstFrom_34 : decode cX8_firstFrom 34 = .ok (.iload_n 1, 1) := by decide +kernel
theorem dX8_firstFrom_35 : decode cX8_firstFrom 35 = .ok (.iaload, 1) := by decide +kernel
theorem dX8_firstFrom_36 : decode cX8_firstFrom 36 = .ok (.if_icmp .ne 5, 3) := by decide +kernel
theorem dX8_firstFrom_39 : decode cX8_firstFrom 39 = .ok (.iload_n 3, 1) := by decide +kernel
theorem dX8_firstFrom_40 : decode cX8_firstFrom 40 = .ok (.ireturn, 1) := by decide +kernel
theorem dX8_firstFrom_41 : decode cX8_firstFrom 41 = .ok (.iinc 3 1, 3) := by decide +kernel
theorem dX8_firstFrom_44 : decode cX8_firstFrom 44 = .ok (.goto (-32), 3) := by decide +kernel
theorem dX8_firstFrom_47 : decode cX8_firstFrom 47 = .ok (.iconst (-1), 1) := by decide +kernel
theorem dX8_firstFrom_48 : decode cX8_firstFrom 48 = .ok (.ireturn, 1) := by decide +kernel
theorem dX9_init_0 : decode cX9_init 0 = .ok (.aload_n 0, 1) := by decide +kernel
theorem dX9_init_1 : decode cX9_init 1 = .ok (.invokespecial 3, 3) := by decide +kernel
theorem dX9_init_4 : decode cX9_init 4 = .ok (.aload_n 0, 1) := by decide +kernel
theorem dX9_init_5 : decode cX9_init 5 = .ok (.new 9, 3) := by decide +kernel
theorem dX9_init_8 : decode cX9_init 8 = .ok (.dup, 1) := by decide +kernel
theorem dX9_init_9 : decode cX9_init 9 = .ok (.invokespecial 11, 3) := by decide +kernel
theorem dX9_init_12 : decode cX9_init 12 = .ok (.putfield 12, 3) := by decide +kernel
theorem dX9_init_15 : decode cX9_init 15 = .ok (.aload_n 0, 1) := by decide +kernel
theorem dX9_init_16 : decode cX9_init 16 = .ok (.bipush 61, 2) := by decide +kernel
theorem dX9_init_18 : decode cX9_init 18 = .ok (.newarray .boolean, 2) := by decide +kernel
theorem dX9_init_20 : decode cX9_init 20 = .ok (.putfield 18, 3) := by decide +kernel
theorem dX9_init_23 : decode cX9_init 23 = .ok (.return_, 1) := by decide +kernel
theorem dX9_live_0 : decode cX9_live 0 = .ok (.aload_n 0, 1) := by decide +kernel
theorem dX9_live_1 : decode cX9_live 1 = .ok (.getfield 12, 3) := by decide +kernel
theorem dX9_live_4 : decode cX9_live 4 = .ok (.aload_n 1, 1) := by decide +kernel
theorem dX9_live_5 : decode cX9_live 5 = .ok (.invokevirtual 22, 3) := by decide +kernel
theorem dX9_live_8 : decode cX9_live 8 = .ok (.aload_n 0, 1) := by decide +kernel
theorem dX9_live_9 : decode cX9_live 9 = .ok (.iload_n 3, 1) := by decide +kernel
theorem dX9_live_10 : decode cX9_live 10 = .ok (.putfield 26, 3) := by decide +kernel
theorem dX9_live_13 : decode cX9_live 13 = .ok (.aload_n 0, 1) := by decide +kernel
theorem dX9_live_14 : decode cX9_live 14 = .ok (.iconst 0, 1) := by decide +kernel
theorem dX9_live_15 : decode cX9_live 15 = .ok (.putfield 30, 3) := by decide +kernel
theorem dX9_live_18 : decode cX9_live 18 = .ok (.aload_n 0, 1) := by decide +kernel
theorem dX9_live_19 : decode cX9_live 19 = .ok (.iconst 0, 1) := by decide +kernel
theorem dX9_live_20 : decode cX9_live 20 = .ok (.putfield 33, 3) := by decide +kernel
theorem dX9_live_23 : decode cX9_live 23 = .ok (.iconst 0, 1) := by decide +kernel
theorem dX9_live_24 : decode cX9_live 24 = .ok (.istore 5, 2) := by decide +kernel
theorem dX9_live_26 : decode cX9_live 26 = .ok (.iload 5, 2) := by decide +kernel
theorem dX9_live_28 : decode cX9_live 28 = .ok (.bipush 60, 2) := by decide +kernel
theorem dX9_live_30 : decode cX9_live 30 = .ok (.if_icmp .gt 17, 3) := by decide +kernel
theorem dX9_live_33 : decode cX9_live 33 = .ok (.aload_n 0, 1) := by decide +kernel
theorem dX9_live_34 : decode cX9_live 34 = .ok (.getfield 18, 3) := by decide +kernel
theorem dX9_live_37 : decode cX9_live 37 = .ok (.iload 5, 2) := by decide +kernel
theorem dX9_live_39 : decode cX9_live 39 = .ok (.iconst 0, 1) := by decide +kernel
theorem dX9_live_40 : decode cX9_live 40 = .ok (.bastore, 1) := by decide +kernel
theorem dX9_live_41 : decode cX9_live 41 = .ok (.iinc 5 1, 3) := by decide +kernel
theorem dX9_live_44 : decode cX9_live 44 = .ok (.goto (-18), 3) := by decide +kernel
theorem dX9_live_47 : decode cX9_live 47 = .ok (.aload_n 0, 1) := by decide +kernel
theorem dX9_live_48 : decode cX9_live 48 = .ok (.getfield 12, 3) := by decide +kernel
theorem dX9_live_51 : decode cX9_live 51 = .ok (.getfield 36, 3) := by decide +kernel
theorem dX9_live_54 : decode cX9_live 54 = .ok (.ifCond .ne 4, 3) := by decide +kernel
theorem dX9_live_57 : decode cX9_live 57 = .ok (.return_, 1) := by decide +kernel
theorem dX9_live_58 : decode cX9_live 58 = .ok (.iconst 1, 1) := by decide +kernel
theorem dX9_live_59 : decode cX9_live 59 = .ok (.istore 5, 2) := by decide +kernel
theorem dX9_live_61 : decode cX9_live 61 = .ok (.iload 5, 2) := by decide +kernel
theorem dX9_live_63 : decode cX9_live 63 = .ok (.iload 4, 2) := by decide +kernel
theorem dX9_live_65 : decode cX9_live 65 = .ok (.if_icmp .gt 29, 3) := by decide +kernel
theorem dX9_live_68 : decode cX9_live 68 = .ok (.aload_n 0, 1) := by decide +kernel
theorem dX9_live_69 : decode cX9_live 69 = .ok (.aload_n 2, 1) := by decide +kernel
theorem dX9_live_70 : decode cX9_live 70 = .ok (.invokevirtual 39, 3) := by decide +kernel
theorem dX9_live_73 : decode cX9_live 73 = .ok (.iload 5, 2) := by decide +kernel
theorem dX9_live_75 : decode cX9_live 75 = .ok (.bipush 8, 2) := by decide +kernel
theorem dX9_live_77 : decode cX9_live 77 = .ok (.irem, 1) := by decide +kernel
theorem dX9_live_78 : decode cX9_live 78 = .ok (.ifCond .ne 10, 3) := by decide +kernel
theorem dX9_live_81 : decode cX9_live 81 = .ok (.aload_n 0, 1) := by decide +kernel
theorem dX9_live_82 : decode cX9_live 82 = .ok (.getfield 12, 3) := by decide +kernel
theorem dX9_live_85 : decode cX9_live 85 = .ok (.invokevirtual 43, 3) := by decide +kernel
theorem dX9_live_88 : decode cX9_live 88 = .ok (.iinc 5 1, 3) := by decide +kernel
theorem dX9_live_91 : decode cX9_live 91 = .ok (.goto (-30), 3) := by decide +kernel
theorem dX9_live_94 : decode cX9_live 94 = .ok (.return_, 1) := by decide +kernel
theorem dX9_useDrawn_0 : decode cX9_useDrawn 0 = .ok (.aload_n 0, 1) := by decide +kernel
theorem dX9_useDrawn_1 : decode cX9_useDrawn 1 = .ok (.aload_n 0, 1) := by decide +kernel
theorem dX9_useDrawn_2 : decode cX9_useDrawn 2 = .ok (.getfield 12, 3) := by decide +kernel
theorem dX9_useDrawn_5 : decode cX9_useDrawn 5 = .ok (.getfield 36, 3) := by decide +kernel
theorem dX9_useDrawn_8 : decode cX9_useDrawn 8 = .ok (.invokevirtual 46, 3) := by decide +kernel
theorem dX9_useDrawn_11 : decode cX9_useDrawn 11 = .ok (.istore_n 2, 1) := by decide +kernel
theorem dX9_useDrawn_12 : decode cX9_useDrawn 12 = .ok (.aload_n 0, 1) := by decide +kernel
theorem dX9_useDrawn_13 : decode cX9_useDrawn 13 = .ok (.bipush 61, 2) := by decide +kernel
theorem dX9_useDrawn_15 : decode cX9_useDrawn 15 = .ok (.invokevirtual 46, 3) := by decide +kernel
theorem dX9_useDrawn_18 : decode cX9_useDrawn 18 = .ok (.istore_n 3, 1) := by decide +kernel
theorem dX9_useDrawn_19 : decode cX9_useDrawn 19 = .ok (.aload_n 0, 1) := by decide +kernel
theorem dX9_useDrawn_20 : decode cX9_useDrawn 20 = .ok (.iconst 3, 1) := by decide +kernel
theorem dX9_useDrawn_21 : decode cX9_useDrawn 21 = .ok (.invokevirtual 46, 3) := by decide +kernel
theorem dX9_useDrawn_24 : decode cX9_useDrawn 24 = .ok (.istore 4, 2) := by decide +kernel
theorem dX9_useDrawn_26 : decode cX9_useDrawn 26 = .ok (.aload_n 0, 1) := by decide +kernel
theorem dX9_useDrawn_27 : decode cX9_useDrawn 27 = .ok (.getfield 12, 3) := by decide +kernel
theorem dX9_useDrawn_30 : decode cX9_useDrawn 30 = .ok (.iload_n 2, 1) := by decide +kernel
theorem dX9_useDrawn_31 : decode cX9_useDrawn 31 = .ok (.iload_n 3, 1) := by decide +kernel
theorem dX9_useDrawn_32 : decode cX9_useDrawn 32 = .ok (.aload_n 0, 1) := by decide +kernel
theorem dX9_useDrawn_33 : decode cX9_useDrawn 33 = .ok (.getfield 12, 3) := by decide +kernel
theorem dX9_useDrawn_36 : decode cX9_useDrawn 36 = .ok (.aload_n 1, 1) := by decide +kernel
theorem dX9_useDrawn_37 : decode cX9_useDrawn 37 = .ok (.iload_n 3, 1) := by decide +kernel
theorem dX9_useDrawn_38 : decode cX9_useDrawn 38 = .ok (.iload 4, 2) := by decide +kernel
theorem dX9_useDrawn_40 : decode cX9_useDrawn 40 = .ok (.invokevirtual 50, 3) := by decide +kernel
theorem dX9_useDrawn_43 : decode cX9_useDrawn 43 = .ok (.invokevirtual 54, 3) := by decide +kernel
theorem dX9_useDrawn_46 : decode cX9_useDrawn 46 = .ok (.ifCond .eq 23, 3) := by decide +kernel
theorem dX9_useDrawn_49 : decode cX9_useDrawn 49 = .ok (.aload_n 0, 1) := by decide +kernel
theorem dX9_useDrawn_50 : decode cX9_useDrawn 50 = .ok (.dup, 1) := by decide +kernel
theorem dX9_useDrawn_51 : decode cX9_useDrawn 51 = .ok (.getfield 30, 3) := by decide +kernel
theorem dX9_useDrawn_54 : decode cX9_useDrawn 54 = .ok (.iconst 1, 1) := by decide +kernel
theorem dX9_useDrawn_55 : decode cX9_useDrawn 55 = .ok (.iadd, 1) := by decide +kernel
theorem dX9_useDrawn_56 : decode cX9_useDrawn 56 = .ok (.putfield 30, 3) := by decide +kernel
theorem dX9_useDrawn_59 : decode cX9_useDrawn 59 = .ok (.aload_n 0, 1) := by decide +kernel
theorem dX9_useDrawn_60 : decode cX9_useDrawn 60 = .ok (.getfield 18, 3) := by decide +kernel
theorem dX9_useDrawn_63 : decode cX9_useDrawn 63 = .ok (.iload_n 3, 1) := by decide +kernel
theorem dX9_useDrawn_64 : decode cX9_useDrawn 64 = .ok (.iconst 1, 1) := by decide +kernel
theorem dX9_useDrawn_65 : decode cX9_useDrawn 65 = .ok (.bastore, 1) := by decide +kernel
theorem dX9_useDrawn_66 : decode cX9_useDrawn 66 = .ok (.goto 13, 3) := by decide +kernel
theorem dX9_useDrawn_69 : decode cX9_useDrawn 69 = .ok (.aload_n 0, 1) := by decide +kernel
theorem dX9_useDrawn_70 : decode cX9_useDrawn 70 = .ok (.dup, 1) := by decide +kernel
theorem dX9_useDrawn_71 : decode cX9_useDrawn 71 = .ok (.getfield 33, 3) := by decide +kernel
theorem dX9_useDrawn_74 : decode cX9_useDrawn 74 = .ok (.iconst 1, 1) := by decide +kernel
theorem dX9_useDrawn_75 : decode cX9_useDrawn 75 = .ok (.iadd, 1) := by decide +kernel
theorem dX9_useDrawn_76 : decode cX9_useDrawn 76 = .ok (.putfield 33, 3) := by decide +kernel
theorem dX9_useDrawn_79 : decode cX9_useDrawn 79 = .ok (.return_, 1) := by decide +kernel
theorem dX9_draw_0 : decode cX9_draw 0 = .ok (.aload_n 0, 1) := by decide +kernel
theorem dX9_draw_1 : decode cX9_draw 1 = .ok (.aload_n 0, 1) := by decide +kernel
theorem dX9_draw_2 : decode cX9_draw 2 = .ok (.getfield 26, 3) := by decide +kernel
theorem dX9_draw_5 : decode cX9_draw 5 = .ok (.ldc 58, 2) := by decide +kernel
theorem dX9_draw_7 : decode cX9_draw 7 = .ok (.imul, 1) := by decide +kernel
theorem dX9_draw_8 : decode cX9_draw 8 = .ok (.sipush 12345, 3) := by decide +kernel
theorem dX9_draw_11 : decode cX9_draw 11 = .ok (.iadd, 1) := by decide +kernel
theorem dX9_draw_12 : decode cX9_draw 12 = .ok (.putfield 26, 3) := by decide +kernel
theorem dX9_draw_15 : decode cX9_draw 15 = .ok (.iload_n 1, 1) := by decide +kernel
theorem dX9_draw_16 : decode cX9_draw 16 = .ok (.ifCond .gt 7, 3) := by decide +kernel
theorem dX9_draw_19 : decode cX9_draw 19 = .ok (.iconst 0, 1) := by decide +kernel
theorem dX9_draw_20 : decode cX9_draw 20 = .ok (.goto 16, 3) := by decide +kernel
theorem dX9_draw_23 : decode cX9_draw 23 = .ok (.aload_n 0, 1) := by decide +kernel
theorem dX9_draw_24 : decode cX9_draw 24 = .ok (.getfield 26, 3) := by decide +kernel
theorem dX9_draw_27 : decode cX9_draw 27 = .ok (.bipush 16, 2) := by decide +kernel
theorem dX9_draw_29 : decode cX9_draw 29 = .ok (.iushr, 1) := by decide +kernel
theorem dX9_draw_30 : decode cX9_draw 30 = .ok (.sipush 32767, 3) := by decide +kernel
theorem dX9_draw_33 : decode cX9_draw 33 = .ok (.iand, 1) := by decide +kernel
theorem dX9_draw_34 : decode cX9_draw 34 = .ok (.iload_n 1, 1) := by decide +kernel
theorem dX9_draw_35 : decode cX9_draw 35 = .ok (.irem, 1) := by decide +kernel
theorem dX9_draw_36 : decode cX9_draw 36 = .ok (.ireturn, 1) := by decide +kernel
theorem dX9_numbersMet_0 : decode cX9_numbersMet 0 = .ok (.iconst 0, 1) := by decide +kernel
theorem dX9_numbersMet_1 : decode cX9_numbersMet 1 = .ok (.istore_n 1, 1) := by decide +kernel
theorem dX9_numbersMet_2 : decode cX9_numbersMet 2 = .ok (.iconst 0, 1) := by decide +kernel
theorem dX9_numbersMet_3 : decode cX9_numbersMet 3 = .ok (.istore_n 2, 1) := by decide +kernel
theorem dX9_numbersMet_4 : decode cX9_numbersMet 4 = .ok (.iload_n 2, 1) := by decide +kernel
theorem dX9_numbersMet_5 : decode cX9_numbersMet 5 = .ok (.bipush 60, 2) := by decide +kernel
theorem dX9_numbersMet_7 : decode cX9_numbersMet 7 = .ok (.if_icmp .gt 21, 3) := by decide +kernel
theorem dX9_numbersMet_10 : decode cX9_numbersMet 10 = .ok (.aload_n 0, 1) := by decide +kernel
theorem dX9_numbersMet_11 : decode cX9_numbersMet 11 = .ok (.getfield 18, 3) := by decide +kernel
theorem dX9_numbersMet_14 : decode cX9_numbersMet 14 = .ok (.iload_n 2, 1) := by decide +kernel
theorem dX9_numbersMet_15 : decode cX9_numbersMet 15 = .ok (.baload, 1) := by decide +kernel
theorem dX9_numbersMet_16 : decode cX9_numbersMet 16 = .ok (.ifCond .eq 6, 3) := by decide +kernel
theorem dX9_numbersMet_19 : decode cX9_numbersMet 19 = .ok (.iinc 1 1, 3) := by decide +kernel
theorem dX9_numbersMet_22 : decode cX9_numbersMet 22 = .ok (.iinc 2 1, 3) := by decide +kernel
theorem dX9_numbersMet_25 : decode cX9_numbersMet 25 = .ok (.goto (-21), 3) := by decide +kernel
theorem dX9_numbersMet_28 : decode cX9_numbersMet 28 = .ok (.iload_n 1, 1) := by decide +kernel
theorem dX9_numbersMet_29 : decode cX9_numbersMet 29 = .ok (.ireturn, 1) := by decide +kernel
theorem dX10_init_0 : decode cX10_init 0 = .ok (.aload_n 0, 1) := by decide +kernel
theorem dX10_init_1 : decode cX10_init 1 = .ok (.invokespecial 1, 3) := by decide +kernel
theorem dX10_init_4 : decode cX10_init 4 = .ok (.aload_n 0, 1) := by decide +kernel
theorem dX10_init_5 : decode cX10_init 5 = .ok (.new 7, 3) := by decide +kernel
theorem dX10_init_8 : decode cX10_init 8 = .ok (.dup, 1) := by decide +kernel
theorem dX10_init_9 : decode cX10_init 9 = .ok (.invokespecial 9, 3) := by decide +kernel
theorem dX10_init_12 : decode cX10_init 12 = .ok (.putfield 10, 3) := by decide +kernel
theorem dX10_init_15 : decode cX10_init 15 = .ok (.aload_n 0, 1) := by decide +kernel
theorem dX10_init_16 : decode cX10_init 16 = .ok (.new 16, 3) := by decide +kernel
theorem dX10_init_19 : decode cX10_init 19 = .ok (.dup, 1) := by decide +kernel
theorem dX10_init_20 : decode cX10_init 20 = .ok (.invokespecial 18, 3) := by decide +kernel
theorem dX10_init_23 : decode cX10_init 23 = .ok (.putfield 19, 3) := by decide +kernel
theorem dX10_init_26 : decode cX10_init 26 = .ok (.aload_n 0, 1) := by decide +kernel
theorem dX10_init_27 : decode cX10_init 27 = .ok (.new 16, 3) := by decide +kernel
theorem dX10_init_30 : decode cX10_init 30 = .ok (.dup, 1) := by decide +kernel
theorem dX10_init_31 : decode cX10_init 31 = .ok (.invokespecial 18, 3) := by decide +kernel
theorem dX10_init_34 : decode cX10_init 34 = .ok (.putfield 23, 3) := by decide +kernel
theorem dX10_init_37 : decode cX10_init 37 = .ok (.aload_n 0, 1) := by decide +kernel
theorem dX10_init_38 : decode cX10_init 38 = .ok (.new 26, 3) := by decide +kernel
theorem dX10_init_41 : decode cX10_init 41 = .ok (.dup, 1) := by decide +kernel
theorem dX10_init_42 : decode cX10_init 42 = .ok (.invokespecial 28, 3) := by decide +kernel
theorem dX10_init_45 : decode cX10_init 45 = .ok (.putfield 29, 3) := by decide +kernel
theorem dX10_init_48 : decode cX10_init 48 = .ok (.aload_n 0, 1) := by decide +kernel
theorem dX10_init_49 : decode cX10_init 49 = .ok (.new 26, 3) := by decide +kernel
theorem dX10_init_52 : decode cX10_init 52 = .ok (.dup, 1) := by decide +kernel
theorem dX10_init_53 : decode cX10_init 53 = .ok (.invokespecial 28, 3) := by decide +kernel
theorem dX10_init_56 : decode cX10_init 56 = .ok (.putfield 33, 3) := by decide +kernel
theorem dX10_init_59 : decode cX10_init 59 = .ok (.aload_n 0, 1) := by decide +kernel
theorem dX10_init_60 : decode cX10_init 60 = .ok (.new 36, 3) := by decide +kernel
theorem dX10_init_63 : decode cX10_init 63 = .ok (.dup, 1) := by decide +kernel
theorem dX10_init_64 : decode cX10_init 64 = .ok (.invokespecial 38, 3) := by decide +kernel
theorem dX10_init_67 : decode cX10_init 67 = .ok (.putfield 39, 3) := by decide +kernel
theorem dX10_init_70 : decode cX10_init 70 = .ok (.aload_n 0, 1) := by decide +kernel
theorem dX10_init_71 : decode cX10_init 71 = .ok (.new 36, 3) := by decide +kernel
theorem dX10_init_74 : decode cX10_init 74 = .ok (.dup, 1) := by decide +kernel
theorem dX10_init_75 : decode cX10_init 75 = .ok (.invokespecial 38, 3) := by decide +kernel
theorem dX10_init_78 : decode cX10_init 78 = .ok (.putfield 43, 3) := by decide +kernel
theorem dX10_init_81 : decode cX10_init 81 = .ok (.aload_n 0, 1) := by decide +kernel
theorem dX10_init_82 : decode cX10_init 82 = .ok (.new 46, 3) := by decide +kernel
theorem dX10_init_85 : decode cX10_init 85 = .ok (.dup, 1) := by decide +kernel
theorem dX10_init_86 : decode cX10_init 86 = .ok (.invokespecial 48, 3) := by decide +kernel
theorem dX10_init_89 : decode cX10_init 89 = .ok (.putfield 49, 3) := by decide +kernel
theorem dX10_init_92 : decode cX10_init 92 = .ok (.aload_n 0, 1) := by decide +kernel
theorem dX10_init_93 : decode cX10_init 93 = .ok (.iconst 3, 1) := by decide +kernel
theorem dX10_init_94 : decode cX10_init 94 = .ok (.anewarray 53, 3) := by decide +kernel
theorem dX10_init_97 : decode cX10_init 97 = .ok (.putfield 55, 3) := by decide +kernel
theorem dX10_init_100 : decode cX10_init 100 = .ok (.aload_n 0, 1) := by decide +kernel
theorem dX10_init_101 : decode cX10_init 101 = .ok (.bipush 61, 2) := by decide +kernel
theorem dX10_init_103 : decode cX10_init 103 = .ok (.newarray .int, 2) := by decide +kernel
theorem dX10_init_105 : decode cX10_init 105 = .ok (.putfield 59, 3) := by decide +kernel
theorem dX10_init_108 : decode cX10_init 108 = .ok (.aload_n 0, 1) := by decide +kernel
theorem dX10_init_109 : decode cX10_init 109 = .ok (.new 63, 3) := by decide +kernel
theorem dX10_init_112 : decode cX10_init 112 = .ok (.dup, 1) := by decide +kernel
theorem dX10_init_113 : decode cX10_init 113 = .ok (.invokespecial 65, 3) := by decide +kernel
theorem dX10_init_116 : decode cX10_init 116 = .ok (.putfield 66, 3) := by decide +kernel
theorem dX10_init_119 : decode cX10_init 119 = .ok (.aload_n 0, 1) := by decide +kernel
theorem dX10_init_120 : decode cX10_init 120 = .ok (.new 70, 3) := by decide +kernel
theorem dX10_init_123 : decode cX10_init 123 = .ok (.dup, 1) := by decide +kernel
theorem dX10_init_124 : decode cX10_init 124 = .ok (.invokespecial 72, 3) := by decide +kernel
theorem dX10_init_127 : decode cX10_init 127 = .ok (.putfield 73, 3) := by decide +kernel
theorem dX10_init_130 : decode cX10_init 130 = .ok (.aload_n 0, 1) := by decide +kernel
theorem dX10_init_131 : decode cX10_init 131 = .ok (.new 77, 3) := by decide +kernel
theorem dX10_init_134 : decode cX10_init 134 = .ok (.dup, 1) := by decide +kernel
theorem dX10_init_135 : decode cX10_init 135 = .ok (.invokespecial 79, 3) := by decide +kernel
theorem dX10_init_138 : decode cX10_init 138 = .ok (.putfield 80, 3) := by decide +kernel
theorem dX10_init_141 : decode cX10_init 141 = .ok (.aload_n 0, 1) := by decide +kernel
theorem dX10_init_142 : decode cX10_init 142 = .ok (.new 84, 3) := by decide +kernel
theorem dX10_init_145 : decode cX10_init 145 = .ok (.dup, 1) := by decide +kernel
theorem dX10_init_146 : decode cX10_init 146 = .ok (.invokespecial 86, 3) := by decide +kernel
theorem dX10_init_149 : decode cX10_init 149 = .ok (.putfield 87, 3) := by decide +kernel
theorem dX10_init_152 : decode cX10_init 152 = .ok (.return_, 1) := by decide +kernel
theorem dX10_feed_0 : decode cX10_feed 0 = .ok (.aload_n 0, 1) := by decide +kernel
theorem dX10_feed_1 : decode cX10_feed 1 = .ok (.getfield 10, 3) := by decide +kernel
theorem dX10_feed_4 : decode cX10_feed 4 = .ok (.invokevirtual 91, 3) := by decide +kernel
theorem dX10_feed_7 : decode cX10_feed 7 = .ok (.ifCond .ne 5, 3) := by decide +kernel
theorem dX10_feed_10 : decode cX10_feed 10 = .ok (.iconst (-1), 1) := by decide +kernel
theorem dX10_feed_11 : decode cX10_feed 11 = .ok (.ireturn, 1) := by decide +kernel
theorem dX10_feed_12 : decode cX10_feed 12 = .ok (.aload_n 0, 1) := by decide +kernel
theorem dX10_feed_13 : decode cX10_feed 13 = .ok (.getfield 10, 3) := by decide +kernel
theorem dX10_feed_16 : decode cX10_feed 16 = .ok (.iload_n 1, 1) := by decide +kernel
theorem dX10_feed_17 : decode cX10_feed 17 = .ok (.invokevirtual 95, 3) := by decide +kernel
theorem dX10_feed_20 : decode cX10_feed 20 = .ok (.aload_n 0, 1) := by decide +kernel
theorem dX10_feed_21 : decode cX10_feed 21 = .ok (.getfield 10, 3) := by decide +kernel
theorem dX10_feed_24 : decode cX10_feed 24 = .ok (.iload_n 2, 1) := by decide +kernel
theorem dX10_feed_25 : decode cX10_feed 25 = .ok (.invokevirtual 95, 3) := by decide +kernel
theorem dX10_feed_28 : decode cX10_feed 28 = .ok (.aload_n 0, 1) := by decide +kernel
theorem dX10_feed_29 : decode cX10_feed 29 = .ok (.getfield 10, 3) := by decide +kernel
theorem dX10_feed_32 : decode cX10_feed 32 = .ok (.iload_n 3, 1) := by decide +kernel
theorem dX10_feed_33 : decode cX10_feed 33 = .ok (.invokevirtual 95, 3) := by decide +kernel
theorem dX10_feed_36 : decode cX10_feed 36 = .ok (.aload_n 0, 1) := by decide +kernel
theorem dX10_feed_37 : decode cX10_feed 37 = .ok (.getfield 10, 3) := by decide +kernel
theorem dX10_feed_40 : decode cX10_feed 40 = .ok (.iload 4, 2) := by decide +kernel
theorem dX10_feed_42 : decode cX10_feed 42 = .ok (.invokevirtual 95, 3) := by decide +kernel
theorem dX10_feed_45 : decode cX10_feed 45 = .ok (.aload_n 0, 1) := by decide +kernel
theorem dX10_feed_46 : decode cX10_feed 46 = .ok (.getfield 10, 3) := by decide +kernel
theorem dX10_feed_49 : decode cX10_feed 49 = .ok (.iload 5, 2) := by decide +kernel
theorem dX10_feed_51 : decode cX10_feed 51 = .ok (.invokevirtual 95, 3) := by decide +kernel
theorem dX10_feed_54 : decode cX10_feed 54 = .ok (.aload_n 0, 1) := by decide +kernel
theorem dX10_feed_55 : decode cX10_feed 55 = .ok (.getfield 10, 3) := by decide +kernel
theorem dX10_feed_58 : decode cX10_feed 58 = .ok (.getfield 99, 3) := by decide +kernel
theorem dX10_feed_61 : decode cX10_feed 61 = .ok (.ireturn, 1) := by decide +kernel
theorem dX10_land_0 : decode cX10_land 0 = .ok (.aload_n 0, 1) := by decide +kernel
theorem dX10_land_1 : decode cX10_land 1 = .ok (.iload_n 1, 1) := by decide +kernel
theorem dX10_land_2 : decode cX10_land 2 = .ok (.iconst 0, 1) := by decide +kernel
theorem dX10_land_3 : decode cX10_land 3 = .ok (.aload_n 0, 1) := by decide +kernel
theorem dX10_land_4 : decode cX10_land 4 = .ok (.getfield 10, 3) := by decide +kernel
theorem dX10_land_7 : decode cX10_land 7 = .ok (.getfield 99, 3) := by decide +kernel
theorem dX10_land_10 : decode cX10_land 10 = .ok (.invokevirtual 103, 3) := by decide +kernel
theorem dX10_land_13 : decode cX10_land 13 = .ok (.aload_n 0, 1) := by decide +kernel
theorem dX10_land_14 : decode cX10_land 14 = .ok (.getfield 10, 3) := by decide +kernel
theorem dX10_land_17 : decode cX10_land 17 = .ok (.iload_n 1, 1) := by decide +kernel
theorem dX10_land_18 : decode cX10_land 18 = .ok (.invokevirtual 107, 3) := by decide +kernel
theorem dX10_land_21 : decode cX10_land 21 = .ok (.aload_n 0, 1) := by decide +kernel
theorem dX10_land_22 : decode cX10_land 22 = .ok (.getfield 23, 3) := by decide +kernel
theorem dX10_land_25 : decode cX10_land 25 = .ok (.aload_n 0, 1) := by decide +kernel
theorem dX10_land_26 : decode cX10_land 26 = .ok (.getfield 10, 3) := by decide +kernel
theorem dX10_land_29 : decode cX10_land 29 = .ok (.invokevirtual 110, 3) := by decide +kernel
theorem dX10_land_32 : decode cX10_land 32 = .ok (.ifCond .ne 11, 3) := by decide +kernel
theorem dX10_land_35 : decode cX10_land 35 = .ok (.aload_n 0, 1) := by decide +kernel
theorem dX10_land_36 : decode cX10_land 36 = .ok (.getfield 10, 3) := by decide +kernel
theorem dX10_land_39 : decode cX10_land 39 = .ok (.invokevirtual 114, 3) := by decide +kernel
theorem dX10_land_42 : decode cX10_land 42 = .ok (.ireturn, 1) := by decide +kernel
theorem dX10_land_43 : decode cX10_land 43 = .ok (.aload_n 0, 1) := by decide +kernel
theorem dX10_land_44 : decode cX10_land 44 = .ok (.getfield 19, 3) := by decide +kernel
theorem dX10_land_47 : decode cX10_land 47 = .ok (.astore_n 2, 1) := by decide +kernel
theorem dX10_land_48 : decode cX10_land 48 = .ok (.aload_n 0, 1) := by decide +kernel
theorem dX10_land_49 : decode cX10_land 49 = .ok (.aload_n 0, 1) := by decide +kernel
theorem dX10_land_50 : decode cX10_land 50 = .ok (.getfield 23, 3) := by decide +kernel
theorem dX10_land_53 : decode cX10_land 53 = .ok (.putfield 19, 3) := by decide +kernel
theorem dX10_land_56 : decode cX10_land 56 = .ok (.aload_n 0, 1) := by decide +kernel
theorem dX10_land_57 : decode cX10_land 57 = .ok (.aload_n 2, 1) := by decide +kernel
theorem dX10_land_58 : decode cX10_land 58 = .ok (.putfield 23, 3) := by decide +kernel
theorem dX10_land_61 : decode cX10_land 61 = .ok (.aload_n 0, 1) := by decide +kernel
theorem dX10_land_62 : decode cX10_land 62 = .ok (.getfield 29, 3) := by decide +kernel
theorem dX10_land_65 : decode cX10_land 65 = .ok (.invokevirtual 118, 3) := by decide +kernel
theorem dX10_land_68 : decode cX10_land 68 = .ok (.aload_n 0, 1) := by decide +kernel
theorem dX10_land_69 : decode cX10_land 69 = .ok (.getfield 39, 3) := by decide +kernel
theorem dX10_land_72 : decode cX10_land 72 = .ok (.invokevirtual 121, 3) := by decide +kernel
theorem dX10_land_75 : decode cX10_land 75 = .ok (.aload_n 0, 1) := by decide +kernel
theorem dX10_land_76 : decode cX10_land 76 = .ok (.aconst_null, 1) := by decide +kernel
theorem dX10_land_77 : decode cX10_land 77 = .ok (.putfield 122, 3) := by decide +kernel
theorem dX10_land_80 : decode cX10_land 80 = .ok (.aload_n 0, 1) := by decide +kernel
theorem dX10_land_81 : decode cX10_land 81 = .ok (.iconst 0, 1) := by decide +kernel
theorem dX10_land_82 : decode cX10_land 82 = .ok (.invokevirtual 126, 3) := by decide +kernel
theorem dX10_land_85 : decode cX10_land 85 = .ok (.aload_n 0, 1) := by decide +kernel
theorem dX10_land_86 : decode cX10_land 86 = .ok (.iconst 0, 1) := by decide +kernel
theorem dX10_land_87 : decode cX10_land 87 = .ok (.putfield 129, 3) := by decide +kernel
theorem dX10_land_90 : decode cX10_land 90 = .ok (.aload_n 0, 1) := by decide +kernel
theorem dX10_land_91 : decode cX10_land 91 = .ok (.getfield 19, 3) := by decide +kernel
theorem dX10_land_94 : decode cX10_land 94 = .ok (.getfield 132, 3) := by decide +kernel
theorem dX10_land_97 : decode cX10_land 97 = .ok (.ireturn, 1) := by decide +kernel
theorem dX10_law_0 : decode cX10_law 0 = .ok (.aload_n 0, 1) := by decide +kernel
theorem dX10_law_1 : decode cX10_law 1 = .ok (.iload_n 1, 1) := by decide +kernel
theorem dX10_law_2 : decode cX10_law 2 = .ok (.iconst 0, 1) := by decide +kernel
theorem dX10_law_3 : decode cX10_law 3 = .ok (.aload_n 0, 1) := by decide +kernel
theorem dX10_law_4 : decode cX10_law 4 = .ok (.getfield 10, 3) := by decide +kernel
theorem dX10_law_7 : decode cX10_law 7 = .ok (.getfield 99, 3) := by decide +kernel
theorem dX10_law_10 : decode cX10_law 10 = .ok (.sipush 150, 3) := by decide +kernel
theorem dX10_law_13 : decode cX10_law 13 = .ok (.invokestatic 135, 3) := by decide +kernel
theorem dX10_law_16 : decode cX10_law 16 = .ok (.invokevirtual 103, 3) := by decide +kernel
theorem dX10_law_19 : decode cX10_law 19 = .ok (.aload_n 0, 1) := by decide +kernel
theorem dX10_law_20 : decode cX10_law 20 = .ok (.getfield 10, 3) := by decide +kernel
theorem dX10_law_23 : decode cX10_law 23 = .ok (.iload_n 1, 1) := by decide +kernel
theorem dX10_law_24 : decode cX10_law 24 = .ok (.invokevirtual 107, 3) := by decide +kernel
theorem dX10_law_27 : decode cX10_law 27 = .ok (.aload_n 0, 1) := by decide +kernel
theorem dX10_law_28 : decode cX10_law 28 = .ok (.getfield 33, 3) := by decide +kernel
theorem dX10_law_31 : decode cX10_law 31 = .ok (.aload_n 0, 1) := by decide +kernel
theorem dX10_law_32 : decode cX10_law 32 = .ok (.getfield 10, 3) := by decide +kernel
theorem dX10_law_35 : decode cX10_law 35 = .ok (.invokevirtual 141, 3) := by decide +kernel
theorem dX10_law_38 : decode cX10_law 38 = .ok (.ifCond .ne 11, 3) := by decide +kernel
theorem dX10_law_41 : decode cX10_law 41 = .ok (.aload_n 0, 1) := by decide +kernel
theorem dX10_law_42 : decode cX10_law 42 = .ok (.getfield 10, 3) := by decide +kernel
theorem dX10_law_45 : decode cX10_law 45 = .ok (.invokevirtual 114, 3) := by decide +kernel
theorem dX10_law_48 : decode cX10_law 48 = .ok (.ireturn, 1) := by decide +kernel
theorem dX10_law_49 : decode cX10_law 49 = .ok (.aload_n 0, 1) := by decide +kernel
theorem dX10_law_50 : decode cX10_law 50 = .ok (.getfield 29, 3) := by decide +kernel
theorem dX10_law_53 : decode cX10_law 53 = .ok (.astore_n 2, 1) := by decide +kernel
theorem dX10_law_54 : decode cX10_law 54 = .ok (.aload_n 0, 1) := by decide +kernel
theorem dX10_law_55 : decode cX10_law 55 = .ok (.aload_n 0, 1) := by decide +kernel
theorem dX10_law_56 : decode cX10_law 56 = .ok (.getfield 33, 3) := by decide +kernel
theorem dX10_law_59 : decode cX10_law 59 = .ok (.putfield 29, 3) := by decide +kernel
theorem dX10_law_62 : decode cX10_law 62 = .ok (.aload_n 0, 1) := by decide +kernel
theorem dX10_law_63 : decode cX10_law 63 = .ok (.aload_n 2, 1) := by decide +kernel
theorem dX10_law_64 : decode cX10_law 64 = .ok (.putfield 33, 3) := by decide +kernel
theorem dX10_law_67 : decode cX10_law 67 = .ok (.iconst 1, 1) := by decide +kernel
theorem dX10_law_68 : decode cX10_law 68 = .ok (.ireturn, 1) := by decide +kernel
theorem dX10_work_0 : decode cX10_work 0 = .ok (.aload_n 0, 1) := by decide +kernel
theorem dX10_work_1 : decode cX10_work 1 = .ok (.iload_n 1, 1) := by decide +kernel
theorem dX10_work_2 : decode cX10_work 2 = .ok (.iconst 0, 1) := by decide +kernel
theorem dX10_work_3 : decode cX10_work 3 = .ok (.aload_n 0, 1) := by decide +kernel
theorem dX10_work_4 : decode cX10_work 4 = .ok (.getfield 10, 3) := by decide +kernel
theorem dX10_work_7 : decode cX10_work 7 = .ok (.getfield 99, 3) := by decide +kernel
theorem dX10_work_10 : decode cX10_work 10 = .ok (.sipush 150, 3) := by decide +kernel
theorem dX10_work_13 : decode cX10_work 13 = .ok (.invokestatic 135, 3) := by decide +kernel
theorem dX10_work_16 : decode cX10_work 16 = .ok (.invokevirtual 103, 3) := by decide +kernel
theorem dX10_work_19 : decode cX10_work 19 = .ok (.aload_n 0, 1) := by decide +kernel
theorem dX10_work_20 : decode cX10_work 20 = .ok (.getfield 10, 3) := by decide +kernel
theorem dX10_work_23 : decode cX10_work 23 = .ok (.iload_n 1, 1) := by decide +kernel
theorem dX10_work_24 : decode cX10_work 24 = .ok (.invokevirtual 107, 3) := by decide +kernel
theorem dX10_work_27 : decode cX10_work 27 = .ok (.aload_n 0, 1) := by decide +kernel
theorem dX10_work_28 : decode cX10_work 28 = .ok (.invokevirtual 142, 3) := by decide +kernel
theorem dX10_work_31 : decode cX10_work 31 = .ok (.bipush 16, 2) := by decide +kernel
theorem dX10_work_33 : decode cX10_work 33 = .ok (.if_icmp .lt 6, 3) := by decide +kernel
theorem dX10_work_36 : decode cX10_work 36 = .ok (.bipush (-20), 2) := by decide +kernel
theorem dX10_work_38 : decode cX10_work 38 = .ok (.ireturn, 1) := by decide +kernel
theorem dX10_work_39 : decode cX10_work 39 = .ok (.aload_n 0, 1) := by decide +kernel
theorem dX10_work_40 : decode cX10_work 40 = .ok (.getfield 49, 3) := by decide +kernel
theorem dX10_work_43 : decode cX10_work 43 = .ok (.aload_n 0, 1) := by decide +kernel
theorem dX10_work_44 : decode cX10_work 44 = .ok (.getfield 10, 3) := by decide +kernel
theorem dX10_work_47 : decode cX10_work 47 = .ok (.aload_n 0, 1) := by decide +kernel
theorem dX10_work_48 : decode cX10_work 48 = .ok (.getfield 19, 3) := by decide +kernel
theorem dX10_work_51 : decode cX10_work 51 = .ok (.getfield 132, 3) := by decide +kernel
theorem dX10_work_54 : decode cX10_work 54 = .ok (.invokevirtual 145, 3) := by decide +kernel
theorem dX10_work_57 : decode cX10_work 57 = .ok (.ifCond .ne 11, 3) := by decide +kernel
theorem dX10_work_60 : decode cX10_work 60 = .ok (.aload_n 0, 1) := by decide +kernel
theorem dX10_work_61 : decode cX10_work 61 = .ok (.getfield 10, 3) := by decide +kernel
theorem dX10_work_64 : decode cX10_work 64 = .ok (.invokevirtual 114, 3) := by decide +kernel
theorem dX10_work_67 : decode cX10_work 67 = .ok (.ireturn, 1) := by decide +kernel
theorem dX10_work_68 : decode cX10_work 68 = .ok (.aload_n 0, 1) := by decide +kernel
theorem dX10_work_69 : decode cX10_work 69 = .ok (.new 53, 3) := by decide +kernel
theorem dX10_work_72 : decode cX10_work 72 = .ok (.dup, 1) := by decide +kernel
theorem dX10_work_73 : decode cX10_work 73 = .ok (.aload_n 0, 1) := by decide +kernel
theorem dX10_work_74 : decode cX10_work 74 = .ok (.getfield 19, 3) := by decide +kernel
theorem dX10_work_77 : decode cX10_work 77 = .ok (.invokevirtual 148, 3) := by decide +kernel
theorem dX10_work_80 : decode cX10_work 80 = .ok (.aload_n 0, 1) := by decide +kernel
theorem dX10_work_81 : decode cX10_work 81 = .ok (.getfield 122, 3) := by decide +kernel
theorem dX10_work_84 : decode cX10_work 84 = .ok (.invokespecial 152, 3) := by decide +kernel
theorem dX10_work_87 : decode cX10_work 87 = .ok (.putfield 122, 3) := by decide +kernel
theorem dX10_work_90 : decode cX10_work 90 = .ok (.aload_n 0, 1) := by decide +kernel
theorem dX10_work_91 : decode cX10_work 91 = .ok (.getfield 49, 3) := by decide +kernel
theorem dX10_work_94 : decode cX10_work 94 = .ok (.aload_n 0, 1) := by decide +kernel
theorem dX10_work_95 : decode cX10_work 95 = .ok (.getfield 19, 3) := by decide +kernel
theorem dX10_work_98 : decode cX10_work 98 = .ok (.aload_n 0, 1) := by decide +kernel
theorem dX10_work_99 : decode cX10_work 99 = .ok (.getfield 29, 3) := by decide +kernel
theorem dX10_work_102 : decode cX10_work 102 = .ok (.invokevirtual 155, 3) := by decide +kernel
theorem dX10_work_105 : decode cX10_work 105 = .ok (.aload_n 0, 1) := by decide +kernel
theorem dX10_work_106 : decode cX10_work 106 = .ok (.aload_n 0, 1) := by decide +kernel
theorem dX10_work_107 : decode cX10_work 107 = .ok (.getfield 49, 3) := by decide +kernel
theorem dX10_work_110 : decode cX10_work 110 = .ok (.getfield 159, 3) := by decide +kernel
theorem dX10_work_113 : decode cX10_work 113 = .ok (.putfield 129, 3) := by decide +kernel
theorem dX10_work_116 : decode cX10_work 116 = .ok (.aload_n 0, 1) := by decide +kernel
theorem dX10_work_117 : decode cX10_work 117 = .ok (.getfield 49, 3) := by decide +kernel
theorem dX10_work_120 : decode cX10_work 120 = .ok (.getfield 162, 3) := by decide +kernel
theorem dX10_work_123 : decode cX10_work 123 = .ok (.ireturn, 1) := by decide +kernel
theorem dX10_book_0 : decode cX10_book 0 = .ok (.aload_n 0, 1) := by decide +kernel
theorem dX10_book_1 : decode cX10_book 1 = .ok (.iload_n 1, 1) := by decide +kernel
theorem dX10_book_2 : decode cX10_book 2 = .ok (.iconst 0, 1) := by decide +kernel
theorem dX10_book_3 : decode cX10_book 3 = .ok (.aload_n 0, 1) := by decide +kernel
theorem dX10_book_4 : decode cX10_book 4 = .ok (.getfield 10, 3) := by decide +kernel
theorem dX10_book_7 : decode cX10_book 7 = .ok (.getfield 99, 3) := by decide +kernel
theorem dX10_book_10 : decode cX10_book 10 = .ok (.bipush 100, 2) := by decide +kernel
theorem dX10_book_12 : decode cX10_book 12 = .ok (.invokestatic 135, 3) := by decide +kernel
theorem dX10_book_15 : decode cX10_book 15 = .ok (.invokevirtual 103, 3) := by decide +kernel
theorem dX10_book_18 : decode cX10_book 18 = .ok (.aload_n 0, 1) := by decide +kernel
theorem dX10_book_19 : decode cX10_book 19 = .ok (.getfield 10, 3) := by decide +kernel
theorem dX10_book_22 : decode cX10_book 22 = .ok (.iload_n 1, 1) := by decide +kernel
theorem dX10_book_23 : decode cX10_book 23 = .ok (.invokevirtual 107, 3) := by decide +kernel
theorem dX10_book_26 : decode cX10_book 26 = .ok (.aload_n 0, 1) := by decide +kernel
theorem dX10_book_27 : decode cX10_book 27 = .ok (.getfield 43, 3) := by decide +kernel
theorem dX10_book_30 : decode cX10_book 30 = .ok (.aload_n 0, 1) := by decide +kernel
theorem dX10_book_31 : decode cX10_book 31 = .ok (.getfield 10, 3) := by decide +kernel
theorem dX10_book_34 : decode cX10_book 34 = .ok (.invokevirtual 165, 3) := by decide +kernel
theorem dX10_book_37 : decode cX10_book 37 = .ok (.ifCond .ne 11, 3) := by decide +kernel
theorem dX10_book_40 : decode cX10_book 40 = .ok (.aload_n 0, 1) := by decide +kernel
theorem dX10_book_41 : decode cX10_book 41 = .ok (.getfield 10, 3) := by decide +kernel
theorem dX10_book_44 : decode cX10_book 44 = .ok (.invokevirtual 114, 3) := by decide +kernel
theorem dX10_book_47 : decode cX10_book 47 = .ok (.ireturn, 1) := by decide +kernel
theorem dX10_book_48 : decode cX10_book 48 = .ok (.aload_n 0, 1) := by decide +kernel
theorem dX10_book_49 : decode cX10_book 49 = .ok (.getfield 39, 3) := by decide +kernel
theorem dX10_book_52 : decode cX10_book 52 = .ok (.astore_n 2, 1) := by decide +kernel
theorem dX10_book_53 : decode cX10_book 53 = .ok (.aload_n 0, 1) := by decide +kernel
theorem dX10_book_54 : decode cX10_book 54 = .ok (.aload_n 0, 1) := by decide +kernel
theorem dX10_book_55 : decode cX10_book 55 = .ok (.getfield 43, 3) := by decide +kernel
theorem dX10_book_58 : decode cX10_book 58 = .ok (.putfield 39, 3) := by decide +kernel
theorem dX10_book_61 : decode cX10_book 61 = .ok (.aload_n 0, 1) := by decide +kernel
theorem dX10_book_62 : decode cX10_book 62 = .ok (.aload_n 2, 1) := by decide +kernel
theorem dX10_book_63 : decode cX10_book 63 = .ok (.putfield 43, 3) := by decide +kernel
theorem dX10_book_66 : decode cX10_book 66 = .ok (.aload_n 0, 1) := by decide +kernel
theorem dX10_book_67 : decode cX10_book 67 = .ok (.getfield 39, 3) := by decide +kernel
theorem dX10_book_70 : decode cX10_book 70 = .ok (.getfield 166, 3) := by decide +kernel
theorem dX10_book_73 : decode cX10_book 73 = .ok (.ireturn, 1) := by decide +kernel
theorem dX10_fault_0 : decode cX10_fault 0 = .ok (.aload_n 0, 1) := by decide +kernel
theorem dX10_fault_1 : decode cX10_fault 1 = .ok (.getfield 10, 3) := by decide +kernel
theorem dX10_fault_4 : decode cX10_fault 4 = .ok (.getfield 169, 3) := by decide +kernel
theorem dX10_fault_7 : decode cX10_fault 7 = .ok (.ireturn, 1) := by decide +kernel
theorem dX10_undo_0 : decode cX10_undo 0 = .ok (.aload_n 0, 1) := by decide +kernel
theorem dX10_undo_1 : decode cX10_undo 1 = .ok (.getfield 122, 3) := by decide +kernel
theorem dX10_undo_4 : decode cX10_undo 4 = .ok (.ifnonnull 5, 3) := by decide +kernel
theorem dX10_undo_7 : decode cX10_undo 7 = .ok (.iconst (-1), 1) := by decide +kernel
theorem dX10_undo_8 : decode cX10_undo 8 = .ok (.ireturn, 1) := by decide +kernel
theorem dX10_undo_9 : decode cX10_undo 9 = .ok (.aload_n 0, 1) := by decide +kernel
theorem dX10_undo_10 : decode cX10_undo 10 = .ok (.getfield 19, 3) := by decide +kernel
theorem dX10_undo_13 : decode cX10_undo 13 = .ok (.aload_n 0, 1) := by decide +kernel
theorem dX10_undo_14 : decode cX10_undo 14 = .ok (.getfield 122, 3) := by decide +kernel
theorem dX10_undo_17 : decode cX10_undo 17 = .ok (.getfield 172, 3) := by decide +kernel
theorem dX10_undo_20 : decode cX10_undo 20 = .ok (.invokevirtual 175, 3) := by decide +kernel
theorem dX10_undo_23 : decode cX10_undo 23 = .ok (.aload_n 0, 1) := by decide +kernel
theorem dX10_undo_24 : decode cX10_undo 24 = .ok (.aload_n 0, 1) := by decide +kernel
theorem dX10_undo_25 : decode cX10_undo 25 = .ok (.getfield 122, 3) := by decide +kernel
theorem dX10_undo_28 : decode cX10_undo 28 = .ok (.getfield 179, 3) := by decide +kernel
theorem dX10_undo_31 : decode cX10_undo 31 = .ok (.putfield 122, 3) := by decide +kernel
theorem dX10_undo_34 : decode cX10_undo 34 = .ok (.aload_n 0, 1) := by decide +kernel
theorem dX10_undo_35 : decode cX10_undo 35 = .ok (.iconst 0, 1) := by decide +kernel
theorem dX10_undo_36 : decode cX10_undo 36 = .ok (.putfield 129, 3) := by decide +kernel
theorem dX10_undo_39 : decode cX10_undo 39 = .ok (.aload_n 0, 1) := by decide +kernel
theorem dX10_undo_40 : decode cX10_undo 40 = .ok (.invokevirtual 142, 3) := by decide +kernel
theorem dX10_undo_43 : decode cX10_undo 43 = .ok (.ireturn, 1) := by decide +kernel
theorem dX10_image_0 : decode cX10_image 0 = .ok (.aload_n 0, 1) := by decide +kernel
theorem dX10_image_1 : decode cX10_image 1 = .ok (.getfield 182, 3) := by decide +kernel
theorem dX10_image_4 : decode cX10_image 4 = .ok (.iconst 3, 1) := by decide +kernel
theorem dX10_image_5 : decode cX10_image 5 = .ok (.if_icmp .lt 5, 3) := by decide +kernel
theorem dX10_image_8 : decode cX10_image 8 = .ok (.iconst (-1), 1) := by decide +kernel
theorem dX10_image_9 : decode cX10_image 9 = .ok (.ireturn, 1) := by decide +kernel
theorem dX10_image_10 : decode cX10_image 10 = .ok (.aload_n 0, 1) := by decide +kernel
theorem dX10_image_11 : decode cX10_image 11 = .ok (.getfield 55, 3) := by decide +kernel
theorem dX10_image_14 : decode cX10_image 14 = .ok (.aload_n 0, 1) := by decide +kernel
theorem dX10_image_15 : decode cX10_image 15 = .ok (.getfield 182, 3) := by decide +kernel
theorem dX10_image_18 : decode cX10_image 18 = .ok (.new 53, 3) := by decide +kernel
theorem dX10_image_21 : decode cX10_image 21 = .ok (.dup, 1) := by decide +kernel
theorem dX10_image_22 : decode cX10_image 22 = .ok (.aload_n 0, 1) := by decide +kernel
theorem dX10_image_23 : decode cX10_image 23 = .ok (.getfield 19, 3) := by decide +kernel
theorem dX10_image_26 : decode cX10_image 26 = .ok (.invokevirtual 148, 3) := by decide +kernel
theorem dX10_image_29 : decode cX10_image 29 = .ok (.aload_n 0, 1) := by decide +kernel
theorem dX10_image_30 : decode cX10_image 30 = .ok (.getfield 122, 3) := by decide +kernel
theorem dX10_image_33 : decode cX10_image 33 = .ok (.invokespecial 152, 3) := by decide +kernel
theorem dX10_image_36 : decode cX10_image 36 = .ok (.aastore, 1) := by decide +kernel
theorem dX10_image_37 : decode cX10_image 37 = .ok (.aload_n 0, 1) := by decide +kernel
theorem dX10_image_38 : decode cX10_image 38 = .ok (.dup, 1) := by decide +kernel
theorem dX10_image_39 : decode cX10_image 39 = .ok (.getfield 182, 3) := by decide +kernel
theorem dX10_image_42 : decode cX10_image 42 = .ok (.iconst 1, 1) := by decide +kernel
theorem dX10_image_43 : decode cX10_image 43 = .ok (.iadd, 1) := by decide +kernel
theorem dX10_image_44 : decode cX10_image 44 = .ok (.putfield 182, 3) := by decide +kernel
theorem dX10_image_47 : decode cX10_image 47 = .ok (.aload_n 0, 1) := by decide +kernel
theorem dX10_image_48 : decode cX10_image 48 = .ok (.getfield 182, 3) := by decide +kernel
theorem dX10_image_51 : decode cX10_image 51 = .ok (.ireturn, 1) := by decide +kernel
theorem dX10_restore_0 : decode cX10_restore 0 = .ok (.aload_n 0, 1) := by decide +kernel
theorem dX10_restore_1 : decode cX10_restore 1 = .ok (.getfield 182, 3) := by decide +kernel
theorem dX10_restore_4 : decode cX10_restore 4 = .ok (.ifCond .gt 5, 3) := by decide +kernel
theorem dX10_restore_7 : decode cX10_restore 7 = .ok (.iconst (-1), 1) := by decide +kernel
theorem dX10_restore_8 : decode cX10_restore 8 = .ok (.ireturn, 1) := by decide +kernel
theorem dX10_restore_9 : decode cX10_restore 9 = .ok (.aload_n 0, 1) := by decide +kernel
theorem dX10_restore_10 : decode cX10_restore 10 = .ok (.getfield 55, 3) := by decide +kernel
theorem dX10_restore_13 : decode cX10_restore 13 = .ok (.aload_n 0, 1) := by decide +kernel
theorem dX10_restore_14 : decode cX10_restore 14 = .ok (.getfield 182, 3) := by decide +kernel
theorem dX10_restore_17 : decode cX10_restore 17 = .ok (.iconst 1, 1) := by decide +kernel
theorem dX10_restore_18 : decode cX10_restore 18 = .ok (.isub, 1) := by decide +kernel
theorem dX10_restore_19 : decode cX10_restore 19 = .ok (.aaload, 1) := by decide +kernel
theorem dX10_restore_20 : decode cX10_restore 20 = .ok (.astore_n 1, 1) := by decide +kernel
theorem dX10_restore_21 : decode cX10_restore 21 = .ok (.aload_n 1, 1) := by decide +kernel
theorem dX10_restore_22 : decode cX10_restore 22 = .ok (.ifnull 22, 3) := by decide +kernel
theorem dX10_restore_25 : decode cX10_restore 25 = .ok (.aload_n 0, 1) := by decide +kernel
theorem dX10_restore_26 : decode cX10_restore 26 = .ok (.getfield 19, 3) := by decide +kernel
theorem dX10_restore_29 : decode cX10_restore 29 = .ok (.aload_n 1, 1) := by decide +kernel
theorem dX10_restore_30 : decode cX10_restore 30 = .ok (.getfield 172, 3) := by decide +kernel
theorem dX10_restore_33 : decode cX10_restore 33 = .ok (.invokevirtual 175, 3) := by decide +kernel
theorem dX10_restore_36 : decode cX10_restore 36 = .ok (.aload_n 0, 1) := by decide +kernel
theorem dX10_restore_37 : decode cX10_restore 37 = .ok (.aload_n 1, 1) := by decide +kernel
theorem dX10_restore_38 : decode cX10_restore 38 = .ok (.getfield 179, 3) := by decide +kernel
theorem dX10_restore_41 : decode cX10_restore 41 = .ok (.putfield 122, 3) := by decide +kernel
theorem dX10_restore_44 : decode cX10_restore 44 = .ok (.aload_n 0, 1) := by decide +kernel
theorem dX10_restore_45 : decode cX10_restore 45 = .ok (.iconst 0, 1) := by decide +kernel
theorem dX10_restore_46 : decode cX10_restore 46 = .ok (.putfield 129, 3) := by decide +kernel
theorem dX10_restore_49 : decode cX10_restore 49 = .ok (.aload_n 0, 1) := by decide +kernel
theorem dX10_restore_50 : decode cX10_restore 50 = .ok (.aload_n 0, 1) := by decide +kernel
theorem dX10_restore_51 : decode cX10_restore 51 = .ok (.getfield 182, 3) := by decide +kernel
theorem dX10_restore_54 : decode cX10_restore 54 = .ok (.iconst 1, 1) := by decide +kernel
theorem dX10_restore_55 : decode cX10_restore 55 = .ok (.isub, 1) := by decide +kernel
theorem dX10_restore_56 : decode cX10_restore 56 = .ok (.invokevirtual 126, 3) := by decide +kernel
theorem dX10_restore_59 : decode cX10_restore 59 = .ok (.aload_n 0, 1) := by decide +kernel
theorem dX10_restore_60 : decode cX10_restore 60 = .ok (.getfield 182, 3) := by decide +kernel
theorem dX10_restore_63 : decode cX10_restore 63 = .ok (.ireturn, 1) := by decide +kernel
theorem dX10_status_0 : decode cX10_status 0 = .ok (.iload_n 1, 1) := by decide +kernel
theorem dX10_status_1 : decode cX10_status 1 = .ok (.lookupswitch 37 #[(0, 27), (1, 32)], 27) := by decide +kernel
theorem dX10_status_28 : decode cX10_status 28 = .ok (.aload_n 0, 1) := by decide +kernel
theorem dX10_status_29 : decode cX10_status 29 = .ok (.getfield 185, 3) := by decide +kernel
theorem dX10_status_32 : decode cX10_status 32 = .ok (.ireturn, 1) := by decide +kernel
theorem dX10_status_33 : decode cX10_status 33 = .ok (.aload_n 0, 1) := by decide +kernel
theorem dX10_status_34 : decode cX10_status 34 = .ok (.getfield 188, 3) := by decide +kernel
theorem dX10_status_37 : decode cX10_status 37 = .ok (.ireturn, 1) := by decide +kernel
theorem dX10_status_38 : decode cX10_status 38 = .ok (.iconst (-1), 1) := by decide +kernel
theorem dX10_status_39 : decode cX10_status 39 = .ok (.ireturn, 1) := by decide +kernel
theorem dX10_count_0 : decode cX10_count 0 = .ok (.iload_n 1, 1) := by decide +kernel
theorem dX10_count_1 : decode cX10_count 1 = .ok (.tableswitch 45 0 2 #[27, 32, 40], 27) := by decide +kernel
theorem dX10_count_28 : decode cX10_count 28 = .ok (.aload_n 0, 1) := by decide +kernel
theorem dX10_count_29 : decode cX10_count 29 = .ok (.getfield 182, 3) := by decide +kernel
theorem dX10_count_32 : decode cX10_count 32 = .ok (.ireturn, 1) := by decide +kernel
theorem dX10_count_33 : decode cX10_count 33 = .ok (.aload_n 0, 1) := by decide +kernel
theorem dX10_count_34 : decode cX10_count 34 = .ok (.getfield 10, 3) := by decide +kernel
theorem dX10_count_37 : decode cX10_count 37 = .ok (.getfield 99, 3) := by decide +kernel
theorem dX10_count_40 : decode cX10_count 40 = .ok (.ireturn, 1) := by decide +kernel
theorem dX10_count_41 : decode cX10_count 41 = .ok (.aload_n 0, 1) := by decide +kernel
theorem dX10_count_42 : decode cX10_count 42 = .ok (.invokevirtual 142, 3) := by decide +kernel
theorem dX10_count_45 : decode cX10_count 45 = .ok (.ireturn, 1) := by decide +kernel
theorem dX10_count_46 : decode cX10_count 46 = .ok (.iconst (-1), 1) := by decide +kernel
theorem dX10_count_47 : decode cX10_count 47 = .ok (.ireturn, 1) := by decide +kernel
theorem dX10_told_0 : decode cX10_told 0 = .ok (.aload_n 0, 1) := by decide +kernel
theorem dX10_told_1 : decode cX10_told 1 = .ok (.iload_n 1, 1) := by decide +kernel
theorem dX10_told_2 : decode cX10_told 2 = .ok (.iconst 0, 1) := by decide +kernel
theorem dX10_told_3 : decode cX10_told 3 = .ok (.bipush 7, 2) := by decide +kernel
theorem dX10_told_5 : decode cX10_told 5 = .ok (.invokevirtual 103, 3) := by decide +kernel
theorem dX10_told_8 : decode cX10_told 8 = .ok (.iload_n 1, 1) := by decide +kernel
theorem dX10_told_9 : decode cX10_told 9 = .ok (.tableswitch 96 0 6 #[43, 51, 59, 67, 75, 83, 91], 43) := by decide +kernel
theorem dX10_told_52 : decode cX10_told 52 = .ok (.aload_n 0, 1) := by decide +kernel
theorem dX10_told_53 : decode cX10_told 53 = .ok (.getfield 19, 3) := by decide +kernel
theorem dX10_told_56 : decode cX10_told 56 = .ok (.getfield 132, 3) := by decide +kernel
theorem dX10_told_59 : decode cX10_told 59 = .ok (.ireturn, 1) := by decide +kernel
theorem dX10_told_60 : decode cX10_told 60 = .ok (.aload_n 0, 1) := by decide +kernel
theorem dX10_told_61 : decode cX10_told 61 = .ok (.getfield 19, 3) := by decide +kernel
theorem dX10_told_64 : decode cX10_told 64 = .ok (.invokevirtual 191, 3) := by decide +kernel
theorem dX10_told_67 : decode cX10_told 67 = .ok (.ireturn, 1) := by decide +kernel
theorem dX10_told_68 : decode cX10_told 68 = .ok (.aload_n 0, 1) := by decide +kernel
theorem dX10_told_69 : decode cX10_told 69 = .ok (.getfield 19, 3) := by decide +kernel
theorem dX10_told_72 : decode cX10_told 72 = .ok (.getfield 194, 3) := by decide +kernel
theorem dX10_told_75 : decode cX10_told 75 = .ok (.ireturn, 1) := by decide +kernel
theorem dX10_told_76 : decode cX10_told 76 = .ok (.aload_n 0, 1) := by decide +kernel
theorem dX10_told_77 : decode cX10_told 77 = .ok (.getfield 19, 3) := by decide +kernel
theorem dX10_told_80 : decode cX10_told 80 = .ok (.invokevirtual 197, 3) := by decide +kernel
theorem dX10_told_83 : decode cX10_told 83 = .ok (.ireturn, 1) := by decide +kernel
theorem dX10_told_84 : decode cX10_told 84 = .ok (.aload_n 0, 1) := by decide +kernel
theorem dX10_told_85 : decode cX10_told 85 = .ok (.getfield 19, 3) := by decide +kernel
theorem dX10_told_88 : decode cX10_told 88 = .ok (.invokevirtual 200, 3) := by decide +kernel
theorem dX10_told_91 : decode cX10_told 91 = .ok (.ireturn, 1) := by decide +kernel
theorem dX10_told_92 : decode cX10_told 92 = .ok (.aload_n 0, 1) := by decide +kernel
theorem dX10_told_93 : decode cX10_told 93 = .ok (.getfield 39, 3) := by decide +kernel
theorem dX10_told_96 : decode cX10_told 96 = .ok (.getfield 166, 3) := by decide +kernel
theorem dX10_told_99 : decode cX10_told 99 = .ok (.ireturn, 1) := by decide +kernel
theorem dX10_told_100 : decode cX10_told 100 = .ok (.aload_n 0, 1) := by decide +kernel
theorem dX10_told_101 : decode cX10_told 101 = .ok (.getfield 129, 3) := by decide +kernel
theorem dX10_told_104 : decode cX10_told 104 = .ok (.ireturn, 1) := by decide +kernel
theorem dX10_told_105 : decode cX10_told 105 = .ok (.aload_n 0, 1) := by decide +kernel
theorem dX10_told_106 : decode cX10_told 106 = .ok (.getfield 19, 3) := by decide +kernel
theorem dX10_told_109 : decode cX10_told 109 = .ok (.invokevirtual 203, 3) := by decide +kernel
theorem dX10_told_112 : decode cX10_told 112 = .ok (.ireturn, 1) := by decide +kernel
theorem dX10_person_0 : decode cX10_person 0 = .ok (.aload_n 0, 1) := by decide +kernel
theorem dX10_person_1 : decode cX10_person 1 = .ok (.iload_n 1, 1) := by decide +kernel
theorem dX10_person_2 : decode cX10_person 2 = .ok (.invokevirtual 206, 3) := by decide +kernel
theorem dX10_person_5 : decode cX10_person 5 = .ok (.aload_n 0, 1) := by decide +kernel
theorem dX10_person_6 : decode cX10_person 6 = .ok (.iload_n 2, 1) := by decide +kernel
theorem dX10_person_7 : decode cX10_person 7 = .ok (.iconst 0, 1) := by decide +kernel
theorem dX10_person_8 : decode cX10_person 8 = .ok (.iconst 4, 1) := by decide +kernel
theorem dX10_person_9 : decode cX10_person 9 = .ok (.invokevirtual 103, 3) := by decide +kernel
theorem dX10_person_12 : decode cX10_person 12 = .ok (.iload_n 2, 1) := by decide +kernel
theorem dX10_person_13 : decode cX10_person 13 = .ok (.tableswitch 67 0 3 #[31, 40, 49, 58], 31) := by decide +kernel
theorem dX10_person_44 : decode cX10_person 44 = .ok (.aload_n 0, 1) := by decide +kernel
theorem dX10_person_45 : decode cX10_person 45 = .ok (.getfield 19, 3) := by decide +kernel
theorem dX10_person_48 : decode cX10_person 48 = .ok (.iload_n 1, 1) := by decide +kernel
theorem dX10_person_49 : decode cX10_person 49 = .ok (.invokevirtual 209, 3) := by decide +kernel
theorem dX10_person_52 : decode cX10_person 52 = .ok (.ireturn, 1) := by decide +kernel
theorem dX10_person_53 : decode cX10_person 53 = .ok (.aload_n 0, 1) := by decide +kernel
theorem dX10_person_54 : decode cX10_person 54 = .ok (.getfield 19, 3) := by decide +kernel
theorem dX10_person_57 : decode cX10_person 57 = .ok (.iload_n 1, 1) := by decide +kernel
theorem dX10_person_58 : decode cX10_person 58 = .ok (.invokevirtual 213, 3) := by decide +kernel
theorem dX10_person_61 : decode cX10_person 61 = .ok (.ireturn, 1) := by decide +kernel
theorem dX10_person_62 : decode cX10_person 62 = .ok (.aload_n 0, 1) := by decide +kernel
theorem dX10_person_63 : decode cX10_person 63 = .ok (.getfield 19, 3) := by decide +kernel
theorem dX10_person_66 : decode cX10_person 66 = .ok (.iload_n 1, 1) := by decide +kernel
theorem dX10_person_67 : decode cX10_person 67 = .ok (.invokevirtual 216, 3) := by decide +kernel
theorem dX10_person_70 : decode cX10_person 70 = .ok (.ireturn, 1) := by decide +kernel
theorem dX10_person_71 : decode cX10_person 71 = .ok (.aload_n 0, 1) := by decide +kernel
theorem dX10_person_72 : decode cX10_person 72 = .ok (.getfield 19, 3) := by decide +kernel
theorem dX10_person_75 : decode cX10_person 75 = .ok (.iload_n 1, 1) := by decide +kernel
theorem dX10_person_76 : decode cX10_person 76 = .ok (.invokevirtual 219, 3) := by decide +kernel
theorem dX10_person_79 : decode cX10_person 79 = .ok (.ireturn, 1) := by decide +kernel
theorem dX10_person_80 : decode cX10_person 80 = .ok (.aload_n 0, 1) := by decide +kernel
theorem dX10_person_81 : decode cX10_person 81 = .ok (.getfield 19, 3) := by decide +kernel
theorem dX10_person_84 : decode cX10_person 84 = .ok (.iload_n 1, 1) := by decide +kernel
theorem dX10_person_85 : decode cX10_person 85 = .ok (.invokevirtual 222, 3) := by decide +kernel
theorem dX10_person_88 : decode cX10_person 88 = .ok (.ireturn, 1) := by decide +kernel
theorem dX10_number_0 : decode cX10_number 0 = .ok (.aload_n 0, 1) := by decide +kernel
theorem dX10_number_1 : decode cX10_number 1 = .ok (.iload_n 1, 1) := by decide +kernel
theorem dX10_number_2 : decode cX10_number 2 = .ok (.invokevirtual 225, 3) := by decide +kernel
theorem dX10_number_5 : decode cX10_number 5 = .ok (.aload_n 0, 1) := by decide +kernel
theorem dX10_number_6 : decode cX10_number 6 = .ok (.iload_n 2, 1) := by decide +kernel
theorem dX10_number_7 : decode cX10_number 7 = .ok (.iconst 0, 1) := by decide +kernel
theorem dX10_number_8 : decode cX10_number 8 = .ok (.iconst 4, 1) := by decide +kernel
theorem dX10_number_9 : decode cX10_number 9 = .ok (.invokevirtual 103, 3) := by decide +kernel
theorem dX10_number_12 : decode cX10_number 12 = .ok (.iload_n 2, 1) := by decide +kernel
theorem dX10_number_13 : decode cX10_number 13 = .ok (.tableswitch 64 0 3 #[31, 40, 49, 58], 31) := by decide +kernel
theorem dX10_number_44 : decode cX10_number 44 = .ok (.aload_n 0, 1) := by decide +kernel
theorem dX10_number_45 : decode cX10_number 45 = .ok (.getfield 19, 3) := by decide +kernel
theorem dX10_number_48 : decode cX10_number 48 = .ok (.iload_n 1, 1) := by decide +kernel
theorem dX10_number_49 : decode cX10_number 49 = .ok (.invokevirtual 228, 3) := by decide +kernel
theorem dX10_number_52 : decode cX10_number 52 = .ok (.ireturn, 1) := by decide +kernel
theorem dX10_number_53 : decode cX10_number 53 = .ok (.aload_n 0, 1) := by decide +kernel
theorem dX10_number_54 : decode cX10_number 54 = .ok (.getfield 19, 3) := by decide +kernel
theorem dX10_number_57 : decode cX10_number 57 = .ok (.iload_n 1, 1) := by decide +kernel
theorem dX10_number_58 : decode cX10_number 58 = .ok (.invokevirtual 231, 3) := by decide +kernel
theorem dX10_number_61 : decode cX10_number 61 = .ok (.ireturn, 1) := by decide +kernel
theorem dX10_number_62 : decode cX10_number 62 = .ok (.aload_n 0, 1) := by decide +kernel
theorem dX10_number_63 : decode cX10_number 63 = .ok (.getfield 19, 3) := by decide +kernel
theorem dX10_number_66 : decode cX10_number 66 = .ok (.iload_n 1, 1) := by decide +kernel
theorem dX10_number_67 : decode cX10_number 67 = .ok (.invokevirtual 234, 3) := by decide +kernel
theorem dX10_number_70 : decode cX10_number 70 = .ok (.ireturn, 1) := by decide +kernel
theorem dX10_number_71 : decode cX10_number 71 = .ok (.getstatic 237, 3) := by decide +kernel
theorem dX10_number_74 : decode cX10_number 74 = .ok (.iload_n 1, 1) := by decide +kernel
theorem dX10_number_75 : decode cX10_number 75 = .ok (.iaload, 1) := by decide +kernel
theorem dX10_number_76 : decode cX10_number 76 = .ok (.ireturn, 1) := by decide +kernel
theorem dX10_number_77 : decode cX10_number 77 = .ok (.iload_n 1, 1) := by decide +kernel
theorem dX10_number_78 : decode cX10_number 78 = .ok (.invokestatic 240, 3) := by decide +kernel
theorem dX10_number_81 : decode cX10_number 81 = .ok (.ireturn, 1) := by decide +kernel
theorem dX10_landlord_0 : decode cX10_landlord 0 = .ok (.aload_n 0, 1) := by decide +kernel
theorem dX10_landlord_1 : decode cX10_landlord 1 = .ok (.iload_n 1, 1) := by decide +kernel
theorem dX10_landlord_2 : decode cX10_landlord 2 = .ok (.iconst 0, 1) := by decide +kernel
theorem dX10_landlord_3 : decode cX10_landlord 3 = .ok (.iconst 1, 1) := by decide +kernel
theorem dX10_landlord_4 : decode cX10_landlord 4 = .ok (.invokevirtual 103, 3) := by decide +kernel
theorem dX10_landlord_7 : decode cX10_landlord 7 = .ok (.iconst (-1), 1) := by decide +kernel
theorem dX10_landlord_8 : decode cX10_landlord 8 = .ok (.istore_n 2, 1) := by decide +kernel
theorem dX10_landlord_9 : decode cX10_landlord 9 = .ok (.iconst 0, 1) := by decide +kernel
theorem dX10_landlord_10 : decode cX10_landlord 10 = .ok (.istore_n 3, 1) := by decide +kernel
theorem dX10_landlord_11 : decode cX10_landlord 11 = .ok (.iconst 0, 1) := by decide +kernel
theorem dX10_landlord_12 : decode cX10_landlord 12 = .ok (.istore 4, 2) := by decide +kernel
theorem dX10_landlord_14 : decode cX10_landlord 14 = .ok (.iload 4, 2) := by decide +kernel
theorem dX10_landlord_16 : decode cX10_landlord 16 = .ok (.aload_n 0, 1) := by decide +kernel
theorem dX10_landlord_17 : decode cX10_landlord 17 = .ok (.getfield 19, 3) := by decide +kernel
theorem dX10_landlord_20 : decode cX10_landlord 20 = .ok (.getfield 132, 3) := by decide +kernel
theorem dX10_landlord_23 : decode cX10_landlord 23 = .ok (.if_icmp .ge 32, 3) := by decide +kernel
theorem dX10_landlord_26 : decode cX10_landlord 26 = .ok (.aload_n 0, 1) := by decide +kernel
theorem dX10_landlord_27 : decode cX10_landlord 27 = .ok (.getfield 19, 3) := by decide +kernel
theorem dX10_landlord_30 : decode cX10_landlord 30 = .ok (.iload 4, 2) := by decide +kernel
theorem dX10_landlord_32 : decode cX10_landlord 32 = .ok (.invokevirtual 216, 3) := by decide +kernel
theorem dX10_landlord_35 : decode cX10_landlord 35 = .ok (.istore 5, 2) := by decide +kernel
theorem dX10_landlord_37 : decode cX10_landlord 37 = .ok (.iload 5, 2) := by decide +kernel
theorem dX10_landlord_39 : decode cX10_landlord 39 = .ok (.iload_n 3, 1) := by decide +kernel
theorem dX10_landlord_40 : decode cX10_landlord 40 = .ok (.if_icmp .le 9, 3) := by decide +kernel
theorem dX10_landlord_43 : decode cX10_landlord 43 = .ok (.iload 5, 2) := by decide +kernel
theorem dX10_landlord_45 : decode cX10_landlord 45 = .ok (.istore_n 3, 1) := by decide +kernel
theorem dX10_landlord_46 : decode cX10_landlord 46 = .ok (.iload 4, 2) := by decide +kernel
theorem dX10_landlord_48 : decode cX10_landlord 48 = .ok (.istore_n 2, 1) := by decide +kernel
theorem dX10_landlord_49 : decode cX10_landlord 49 = .ok (.iinc 4 1, 3) := by decide +kernel
theorem dX10_landlord_52 : decode cX10_landlord 52 = .ok (.goto (-38), 3) := by decide +kernel
theorem dX10_landlord_55 : decode cX10_landlord 55 = .ok (.iload_n 1, 1) := by decide +kernel
theorem dX10_landlord_56 : decode cX10_landlord 56 = .ok (.ifCond .eq 8, 3) := by decide +kernel
theorem dX10_landlord_59 : decode cX10_landlord 59 = .ok (.iload_n 2, 1) := by decide +kernel
theorem dX10_landlord_60 : decode cX10_landlord 60 = .ok (.iconst (-1), 1) := by decide +kernel
theorem dX10_landlord_61 : decode cX10_landlord 61 = .ok (.if_icmp .ne 7, 3) := by decide +kernel
theorem dX10_landlord_64 : decode cX10_landlord 64 = .ok (.iload_n 2, 1) := by decide +kernel
theorem dX10_landlord_65 : decode cX10_landlord 65 = .ok (.goto 4, 3) := by decide +kernel
theorem dX10_landlord_68 : decode cX10_landlord 68 = .ok (.iload_n 3, 1) := by decide +kernel
theorem dX10_landlord_69 : decode cX10_landlord 69 = .ok (.ireturn, 1) := by decide +kernel
theorem dX10_worth_0 : decode cX10_worth 0 = .ok (.aload_n 0, 1) := by decide +kernel
theorem dX10_worth_1 : decode cX10_worth 1 = .ok (.iload_n 1, 1) := by decide +kernel
theorem dX10_worth_2 : decode cX10_worth 2 = .ok (.invokevirtual 206, 3) := by decide +kernel
theorem dX10_worth_5 : decode cX10_worth 5 = .ok (.iconst 0, 1) := by decide +kernel
theorem dX10_worth_6 : decode cX10_worth 6 = .ok (.istore_n 2, 1) := by decide +kernel
theorem dX10_worth_7 : decode cX10_worth 7 = .ok (.iconst 0, 1) := by decide +kernel
theorem dX10_worth_8 : decode cX10_worth 8 = .ok (.istore_n 3, 1) := by decide +kernel
theorem dX10_worth_9 : decode cX10_worth 9 = .ok (.iload_n 3, 1) := by decide +kernel
theorem dX10_worth_10 : decode cX10_worth 10 = .ok (.bipush 60, 2) := by decide +kernel
theorem dX10_worth_12 : decode cX10_worth 12 = .ok (.if_icmp .gt 32, 3) := by decide +kernel
theorem dX10_worth_15 : decode cX10_worth 15 = .ok (.aload_n 0, 1) := by decide +kernel
theorem dX10_worth_16 : decode cX10_worth 16 = .ok (.getfield 19, 3) := by decide +kernel
theorem dX10_worth_19 : decode cX10_worth 19 = .ok (.iload_n 3, 1) := by decide +kernel
theorem dX10_worth_20 : decode cX10_worth 20 = .ok (.invokevirtual 228, 3) := by decide +kernel
theorem dX10_worth_23 : decode cX10_worth 23 = .ok (.iload_n 1, 1) := by decide +kernel
theorem dX10_worth_24 : decode cX10_worth 24 = .ok (.if_icmp .ne 14, 3) := by decide +kernel
theorem dX10_worth_27 : decode cX10_worth 27 = .ok (.iload_n 2, 1) := by decide +kernel
theorem dX10_worth_28 : decode cX10_worth 28 = .ok (.aload_n 0, 1) := by decide +kernel
theorem dX10_worth_29 : decode cX10_worth 29 = .ok (.getfield 19, 3) := by decide +kernel
theorem dX10_worth_32 : decode cX10_worth 32 = .ok (.iload_n 3, 1) := by decide +kernel
theorem dX10_worth_33 : decode cX10_worth 33 = .ok (.invokevirtual 243, 3) := by decide +kernel
theorem dX10_worth_36 : decode cX10_worth 36 = .ok (.iadd, 1) := by decide +kernel
theorem dX10_worth_37 : decode cX10_worth 37 = .ok (.istore_n 2, 1) := by decide +kernel
theorem dX10_worth_38 : decode cX10_worth 38 = .ok (.iinc 3 1, 3) := by decide +kernel
theorem dX10_worth_41 : decode cX10_worth 41 = .ok (.goto (-32), 3) := by decide +kernel
theorem dX10_worth_44 : decode cX10_worth 44 = .ok (.iload_n 2, 1) := by decide +kernel
theorem dX10_worth_45 : decode cX10_worth 45 = .ok (.ireturn, 1) := by decide +kernel
theorem dX10_run_0 : decode cX10_run 0 = .ok (.aload_n 0, 1) := by decide +kernel
theorem dX10_run_1 : decode cX10_run 1 = .ok (.iload_n 1, 1) := by decide +kernel
theorem dX10_run_2 : decode cX10_run 2 = .ok (.invokevirtual 206, 3) := by decide +kernel
theorem dX10_run_5 : decode cX10_run 5 = .ok (.aload_n 0, 1) := by decide +kernel
theorem dX10_run_6 : decode cX10_run 6 = .ok (.iload_n 2, 1) := by decide +kernel
theorem dX10_run_7 : decode cX10_run 7 = .ok (.iconst 0, 1) := by decide +kernel
theorem dX10_run_8 : decode cX10_run 8 = .ok (.iconst 1, 1) := by decide +kernel
theorem dX10_run_9 : decode cX10_run 9 = .ok (.invokevirtual 103, 3) := by decide +kernel
theorem dX10_run_12 : decode cX10_run 12 = .ok (.iconst 0, 1) := by decide +kernel
theorem dX10_run_13 : decode cX10_run 13 = .ok (.istore_n 3, 1) := by decide +kernel
theorem dX10_run_14 : decode cX10_run 14 = .ok (.iconst (-1), 1) := by decide +kernel
theorem dX10_run_15 : decode cX10_run 15 = .ok (.istore 4, 2) := by decide +kernel
theorem dX10_run_17 : decode cX10_run 17 = .ok (.iconst 0, 1) := by decide +kernel
theorem dX10_run_18 : decode cX10_run 18 = .ok (.istore 5, 2) := by decide +kernel
theorem dX10_run_20 : decode cX10_run 20 = .ok (.iconst 0, 1) := by decide +kernel
theorem dX10_run_21 : decode cX10_run 21 = .ok (.istore 6, 2) := by decide +kernel
theorem dX10_run_23 : decode cX10_run 23 = .ok (.iload 6, 2) := by decide +kernel
theorem dX10_run_25 : decode cX10_run 25 = .ok (.bipush 60, 2) := by decide +kernel
theorem dX10_run_27 : decode cX10_run 27 = .ok (.if_icmp .gt 50, 3) := by decide +kernel
theorem dX10_run_30 : decode cX10_run 30 = .ok (.aload_n 0, 1) := by decide +kernel
theorem dX10_run_31 : decode cX10_run 31 = .ok (.getfield 19, 3) := by decide +kernel
theorem dX10_run_34 : decode cX10_run 34 = .ok (.iload 6, 2) := by decide +kernel
theorem dX10_run_36 : decode cX10_run 36 = .ok (.invokevirtual 228, 3) := by decide +kernel
theorem dX10_run_39 : decode cX10_run 39 = .ok (.iload_n 1, 1) := by decide +kernel
theorem dX10_run_40 : decode cX10_run 40 = .ok (.if_icmp .ne 10, 3) := by decide +kernel
theorem dX10_run_43 : decode cX10_run 43 = .ok (.iload 5, 2) := by decide +kernel
theorem dX10_run_45 : decode cX10_run 45 = .ok (.iconst 1, 1) := by decide +kernel
theorem dX10_run_46 : decode cX10_run 46 = .ok (.iadd, 1) := by decide +kernel
theorem dX10_run_47 : decode cX10_run 47 = .ok (.goto 4, 3) := by decide +kernel
theorem dX10_run_50 : decode cX10_run 50 = .ok (.iconst 0, 1) := by decide +kernel
theorem dX10_run_51 : decode cX10_run 51 = .ok (.istore 5, 2) := by decide +kernel
theorem dX10_run_53 : decode cX10_run 53 = .ok (.iload 5, 2) := by decide +kernel
theorem dX10_run_55 : decode cX10_run 55 = .ok (.iload_n 3, 1) := by decide +kernel
theorem dX10_run_56 : decode cX10_run 56 = .ok (.if_icmp .le 15, 3) := by decide +kernel
theorem dX10_run_59 : decode cX10_run 59 = .ok (.iload 5, 2) := by decide +kernel
theorem dX10_run_61 : decode cX10_run 61 = .ok (.istore_n 3, 1) := by decide +kernel
theorem dX10_run_62 : decode cX10_run 62 = .ok (.iload 6, 2) := by decide +kernel
theorem dX10_run_64 : decode cX10_run 64 = .ok (.iload 5, 2) := by decide +kernel
theorem dX10_run_66 : decode cX10_run 66 = .ok (.isub, 1) := by decide +kernel
theorem dX10_run_67 : decode cX10_run 67 = .ok (.iconst 1, 1) := by decide +kernel
theorem dX10_run_68 : decode cX10_run 68 = .ok (.iadd, 1) := by decide +kernel
theorem dX10_run_69 : decode cX10_run 69 = .ok (.istore 4, 2) := by decide +kernel
theorem dX10_run_71 : decode cX10_run 71 = .ok (.iinc 6 1, 3) := by decide +kernel
theorem dX10_run_74 : decode cX10_run 74 = .ok (.goto (-51), 3) := by decide +kernel
theorem dX10_run_77 : decode cX10_run 77 = .ok (.iload_n 2, 1) := by decide +kernel
theorem dX10_run_78 : decode cX10_run 78 = .ok (.ifCond .ne 7, 3) := by decide +kernel
theorem dX10_run_81 : decode cX10_run 81 = .ok (.iload_n 3, 1) := by decide +kernel
theorem dX10_run_82 : decode cX10_run 82 = .ok (.goto 5, 3) := by decide +kernel
theorem dX10_run_85 : decode cX10_run 85 = .ok (.iload 4, 2) := by decide +kernel
theorem dX10_run_87 : decode cX10_run 87 = .ok (.ireturn, 1) := by decide +kernel
theorem dX10_primes_0 : decode cX10_primes 0 = .ok (.aload_n 0, 1) := by decide +kernel
theorem dX10_primes_1 : decode cX10_primes 1 = .ok (.iload_n 1, 1) := by decide +kernel
theorem dX10_primes_2 : decode cX10_primes 2 = .ok (.invokevirtual 206, 3) := by decide +kernel
theorem dX10_primes_5 : decode cX10_primes 5 = .ok (.iconst 0, 1) := by decide +kernel
theorem dX10_primes_6 : decode cX10_primes 6 = .ok (.istore_n 2, 1) := by decide +kernel
theorem dX10_primes_7 : decode cX10_primes 7 = .ok (.iconst 0, 1) := by decide +kernel
theorem dX10_primes_8 : decode cX10_primes 8 = .ok (.istore_n 3, 1) := by decide +kernel
theorem dX10_primes_9 : decode cX10_primes 9 = .ok (.iload_n 3, 1) := by decide +kernel
theorem dX10_primes_10 : decode cX10_primes 10 = .ok (.bipush 60, 2) := by decide +kernel
theorem dX10_primes_12 : decode cX10_primes 12 = .ok (.if_icmp .gt 33, 3) := by decide +kernel
theorem dX10_primes_15 : decode cX10_primes 15 = .ok (.aload_n 0, 1) := by decide +kernel
theorem dX10_primes_16 : decode cX10_primes 16 = .ok (.getfield 19, 3) := by decide +kernel
theorem dX10_primes_19 : decode cX10_primes 19 = .ok (.iload_n 3, 1) := by decide +kernel
theorem dX10_primes_20 : decode cX10_primes 20 = .ok (.invokevirtual 228, 3) := by decide +kernel
theorem dX10_primes_23 : decode cX10_primes 23 = .ok (.iload_n 1, 1) := by decide +kernel
theorem dX10_primes_24 : decode cX10_primes 24 = .ok (.if_icmp .ne 15, 3) := by decide +kernel
theorem dX10_primes_27 : decode cX10_primes 27 = .ok (.getstatic 237, 3) := by decide +kernel
theorem dX10_primes_30 : decode cX10_primes 30 = .ok (.iload_n 3, 1) := by decide +kernel
theorem dX10_primes_31 : decode cX10_primes 31 = .ok (.iaload, 1) := by decide +kernel
theorem dX10_primes_32 : decode cX10_primes 32 = .ok (.iconst 2, 1) := by decide +kernel
theorem dX10_primes_33 : decode cX10_primes 33 = .ok (.if_icmp .ne 6, 3) := by decide +kernel
theorem dX10_primes_36 : decode cX10_primes 36 = .ok (.iinc 2 1, 3) := by decide +kernel
theorem dX10_primes_39 : decode cX10_primes 39 = .ok (.iinc 3 1, 3) := by decide +kernel
theorem dX10_primes_42 : decode cX10_primes 42 = .ok (.goto (-33), 3) := by decide +kernel
theorem dX10_primes_45 : decode cX10_primes 45 = .ok (.iload_n 2, 1) := by decide +kernel
theorem dX10_primes_46 : decode cX10_primes 46 = .ok (.ireturn, 1) := by decide +kernel
theorem dX10_poorest_0 : decode cX10_poorest 0 = .ok (.aload_n 0, 1) := by decide +kernel
theorem dX10_poorest_1 : decode cX10_poorest 1 = .ok (.iload_n 1, 1) := by decide +kernel
theorem dX10_poorest_2 : decode cX10_poorest 2 = .ok (.iconst 0, 1) := by decide +kernel
theorem dX10_poorest_3 : decode cX10_poorest 3 = .ok (.iconst 1, 1) := by decide +kernel
theorem dX10_poorest_4 : decode cX10_poorest 4 = .ok (.invokevirtual 103, 3) := by decide +kernel
theorem dX10_poorest_7 : decode cX10_poorest 7 = .ok (.iconst (-1), 1) := by decide +kernel
theorem dX10_poorest_8 : decode cX10_poorest 8 = .ok (.istore_n 2, 1) := by decide +kernel
theorem dX10_poorest_9 : decode cX10_poorest 9 = .ok (.iconst (-1), 1) := by decide +kernel
theorem dX10_poorest_10 : decode cX10_poorest 10 = .ok (.istore_n 3, 1) := by decide +kernel
theorem dX10_poorest_11 : decode cX10_poorest 11 = .ok (.iconst 0, 1) := by decide +kernel
theorem dX10_poorest_12 : decode cX10_poorest 12 = .ok (.istore 4, 2) := by decide +kernel
theorem dX10_poorest_14 : decode cX10_poorest 14 = .ok (.iload 4, 2) := by decide +kernel
theorem dX10_poorest_16 : decode cX10_poorest 16 = .ok (.aload_n 0, 1) := by decide +kernel
theorem dX10_poorest_17 : decode cX10_poorest 17 = .ok (.getfield 19, 3) := by decide +kernel
theorem dX10_poorest_20 : decode cX10_poorest 20 = .ok (.getfield 132, 3) := by decide +kernel
theorem dX10_poorest_23 : decode cX10_poorest 23 = .ok (.if_icmp .ge 40, 3) := by decide +kernel
theorem dX10_poorest_26 : decode cX10_poorest 26 = .ok (.iload_n 2, 1) := by decide +kernel
theorem dX10_poorest_27 : decode cX10_poorest 27 = .ok (.iconst (-1), 1) := by decide +kernel
theorem dX10_poorest_28 : decode cX10_poorest 28 = .ok (.if_icmp .eq 16, 3) := by decide +kernel
theorem dX10_poorest_31 : decode cX10_poorest 31 = .ok (.aload_n 0, 1) := by decide +kernel
theorem dX10_poorest_32 : decode cX10_poorest 32 = .ok (.getfield 19, 3) := by decide +kernel
theorem dX10_poorest_35 : decode cX10_poorest 35 = .ok (.iload 4, 2) := by decide +kernel
theorem dX10_poorest_37 : decode cX10_poorest 37 = .ok (.invokevirtual 209, 3) := by decide +kernel
theorem dX10_poorest_40 : decode cX10_poorest 40 = .ok (.iload_n 3, 1) := by decide +kernel
theorem dX10_poorest_41 : decode cX10_poorest 41 = .ok (.if_icmp .ge 16, 3) := by decide +kernel
theorem dX10_poorest_44 : decode cX10_poorest 44 = .ok (.iload 4, 2) := by decide +kernel
theorem dX10_poorest_46 : decode cX10_poorest 46 = .ok (.istore_n 2, 1) := by decide +kernel
theorem dX10_poorest_47 : decode cX10_poorest 47 = .ok (.aload_n 0, 1) := by decide +kernel
theorem dX10_poorest_48 : decode cX10_poorest 48 = .ok (.getfield 19, 3) := by decide +kernel
theorem dX10_poorest_51 : decode cX10_poorest 51 = .ok (.iload 4, 2) := by decide +kernel
theorem dX10_poorest_53 : decode cX10_poorest 53 = .ok (.invokevirtual 209, 3) := by decide +kernel
theorem dX10_poorest_56 : decode cX10_poorest 56 = .ok (.istore_n 3, 1) := by decide +kernel
theorem dX10_poorest_57 : decode cX10_poorest 57 = .ok (.iinc 4 1, 3) := by decide +kernel
theorem dX10_poorest_60 : decode cX10_poorest 60 = .ok (.goto (-46), 3) := by decide +kernel
theorem dX10_poorest_63 : decode cX10_poorest 63 = .ok (.iload_n 1, 1) := by decide +kernel
theorem dX10_poorest_64 : decode cX10_poorest 64 = .ok (.ifCond .ne 7, 3) := by decide +kernel
theorem dX10_poorest_67 : decode cX10_poorest 67 = .ok (.iload_n 2, 1) := by decide +kernel
theorem dX10_poorest_68 : decode cX10_poorest 68 = .ok (.goto 4, 3) := by decide +kernel
theorem dX10_poorest_71 : decode cX10_poorest 71 = .ok (.iload_n 3, 1) := by decide +kernel
theorem dX10_poorest_72 : decode cX10_poorest 72 = .ok (.ireturn, 1) := by decide +kernel
theorem dX10_tax_0 : decode cX10_tax 0 = .ok (.aload_n 0, 1) := by decide +kernel
theorem dX10_tax_1 : decode cX10_tax 1 = .ok (.iload_n 1, 1) := by decide +kernel
theorem dX10_tax_2 : decode cX10_tax 2 = .ok (.invokevirtual 206, 3) := by decide +kernel
theorem dX10_tax_5 : decode cX10_tax 5 = .ok (.aload_n 0, 1) := by decide +kernel
theorem dX10_tax_6 : decode cX10_tax 6 = .ok (.iload_n 2, 1) := by decide +kernel
theorem dX10_tax_7 : decode cX10_tax 7 = .ok (.iconst 0, 1) := by decide +kernel
theorem dX10_tax_8 : decode cX10_tax 8 = .ok (.sipush 9999, 3) := by decide +kernel
theorem dX10_tax_11 : decode cX10_tax 11 = .ok (.invokevirtual 103, 3) := by decide +kernel
theorem dX10_tax_14 : decode cX10_tax 14 = .ok (.aload_n 0, 1) := by decide +kernel
theorem dX10_tax_15 : decode cX10_tax 15 = .ok (.getfield 19, 3) := by decide +kernel
theorem dX10_tax_18 : decode cX10_tax 18 = .ok (.iload_n 1, 1) := by decide +kernel
theorem dX10_tax_19 : decode cX10_tax 19 = .ok (.invokevirtual 209, 3) := by decide +kernel
theorem dX10_tax_22 : decode cX10_tax 22 = .ok (.istore_n 3, 1) := by decide +kernel
theorem dX10_tax_23 : decode cX10_tax 23 = .ok (.aload_n 0, 1) := by decide +kernel
theorem dX10_tax_24 : decode cX10_tax 24 = .ok (.getfield 19, 3) := by decide +kernel
theorem dX10_tax_27 : decode cX10_tax 27 = .ok (.sipush 9999, 3) := by decide +kernel
theorem dX10_tax_30 : decode cX10_tax 30 = .ok (.invokevirtual 246, 3) := by decide +kernel
theorem dX10_tax_33 : decode cX10_tax 33 = .ok (.iload_n 2, 1) := by decide +kernel
theorem dX10_tax_34 : decode cX10_tax 34 = .ok (.if_icmp .gt 5, 3) := by decide +kernel
theorem dX10_tax_37 : decode cX10_tax 37 = .ok (.iload_n 3, 1) := by decide +kernel
theorem dX10_tax_38 : decode cX10_tax 38 = .ok (.ireturn, 1) := by decide +kernel
theorem dX10_tax_39 : decode cX10_tax 39 = .ok (.iconst 0, 1) := by decide +kernel
theorem dX10_tax_40 : decode cX10_tax 40 = .ok (.istore 4, 2) := by decide +kernel
theorem dX10_tax_42 : decode cX10_tax 42 = .ok (.sipush 9999, 3) := by decide +kernel
theorem dX10_tax_45 : decode cX10_tax 45 = .ok (.istore 5, 2) := by decide +kernel
theorem dX10_tax_47 : decode cX10_tax 47 = .ok (.iconst 0, 1) := by decide +kernel
theorem dX10_tax_48 : decode cX10_tax 48 = .ok (.istore 6, 2) := by decide +kernel
theorem dX10_tax_50 : decode cX10_tax 50 = .ok (.iload 6, 2) := by decide +kernel
theorem dX10_tax_52 : decode cX10_tax 52 = .ok (.bipush 32, 2) := by decide +kernel
theorem dX10_tax_54 : decode cX10_tax 54 = .ok (.if_icmp .ge 51, 3) := by decide +kernel
theorem dX10_tax_57 : decode cX10_tax 57 = .ok (.iload 5, 2) := by decide +kernel
theorem dX10_tax_59 : decode cX10_tax 59 = .ok (.iload 4, 2) := by decide +kernel
theorem dX10_tax_61 : decode cX10_tax 61 = .ok (.isub, 1) := by decide +kernel
theorem dX10_tax_62 : decode cX10_tax 62 = .ok (.iconst 1, 1) := by decide +kernel
theorem dX10_tax_63 : decode cX10_tax 63 = .ok (.if_icmp .le 42, 3) := by decide +kernel
theorem dX10_tax_66 : decode cX10_tax 66 = .ok (.iload 4, 2) := by decide +kernel
theorem dX10_tax_68 : decode cX10_tax 68 = .ok (.iload 5, 2) := by decide +kernel
theorem dX10_tax_70 : decode cX10_tax 70 = .ok (.iadd, 1) := by decide +kernel
theorem dX10_tax_71 : decode cX10_tax 71 = .ok (.iconst 2, 1) := by decide +kernel
theorem dX10_tax_72 : decode cX10_tax 72 = .ok (.idiv, 1) := by decide +kernel
theorem dX10_tax_73 : decode cX10_tax 73 = .ok (.istore 7, 2) := by decide +kernel
theorem dX10_tax_75 : decode cX10_tax 75 = .ok (.aload_n 0, 1) := by decide +kernel
theorem dX10_tax_76 : decode cX10_tax 76 = .ok (.getfield 19, 3) := by decide +kernel
theorem dX10_tax_79 : decode cX10_tax 79 = .ok (.iload 7, 2) := by decide +kernel
theorem dX10_tax_81 : decode cX10_tax 81 = .ok (.invokevirtual 246, 3) := by decide +kernel
theorem dX10_tax_84 : decode cX10_tax 84 = .ok (.iload_n 2, 1) := by decide +kernel
theorem dX10_tax_85 : decode cX10_tax 85 = .ok (.if_icmp .gt 10, 3) := by decide +kernel
theorem dX10_tax_88 : decode cX10_tax 88 = .ok (.iload 7, 2) := by decide +kernel
theorem dX10_tax_90 : decode cX10_tax 90 = .ok (.istore 4, 2) := by decide +kernel
theorem dX10_tax_92 : decode cX10_tax 92 = .ok (.goto 7, 3) := by decide +kernel
theorem dX10_tax_95 : decode cX10_tax 95 = .ok (.iload 7, 2) := by decide +kernel
theorem dX10_tax_97 : decode cX10_tax 97 = .ok (.istore 5, 2) := by decide +kernel
theorem dX10_tax_99 : decode cX10_tax 99 = .ok (.iinc 6 1, 3) := by decide +kernel
theorem dX10_tax_102 : decode cX10_tax 102 = .ok (.goto (-52), 3) := by decide +kernel
theorem dX10_tax_105 : decode cX10_tax 105 = .ok (.iload_n 3, 1) := by decide +kernel
theorem dX10_tax_106 : decode cX10_tax 106 = .ok (.iload 4, 2) := by decide +kernel
theorem dX10_tax_108 : decode cX10_tax 108 = .ok (.invokestatic 135, 3) := by decide +kernel
theorem dX10_tax_111 : decode cX10_tax 111 = .ok (.ireturn, 1) := by decide +kernel
theorem dX10_fare_0 : decode cX10_fare 0 = .ok (.aload_n 0, 1) := by decide +kernel
theorem dX10_fare_1 : decode cX10_fare 1 = .ok (.iload_n 1, 1) := by decide +kernel
theorem dX10_fare_2 : decode cX10_fare 2 = .ok (.invokevirtual 225, 3) := by decide +kernel
theorem dX10_fare_5 : decode cX10_fare 5 = .ok (.aload_n 0, 1) := by decide +kernel
theorem dX10_fare_6 : decode cX10_fare 6 = .ok (.iload_n 2, 1) := by decide +kernel
theorem dX10_fare_7 : decode cX10_fare 7 = .ok (.iconst 0, 1) := by decide +kernel
theorem dX10_fare_8 : decode cX10_fare 8 = .ok (.iconst 2, 1) := by decide +kernel
theorem dX10_fare_9 : decode cX10_fare 9 = .ok (.invokevirtual 103, 3) := by decide +kernel
theorem dX10_fare_12 : decode cX10_fare 12 = .ok (.aload_n 0, 1) := by decide +kernel
theorem dX10_fare_13 : decode cX10_fare 13 = .ok (.getfield 19, 3) := by decide +kernel
theorem dX10_fare_16 : decode cX10_fare 16 = .ok (.aload_n 0, 1) := by decide +kernel
theorem dX10_fare_17 : decode cX10_fare 17 = .ok (.getfield 29, 3) := by decide +kernel
theorem dX10_fare_20 : decode cX10_fare 20 = .ok (.iload_n 1, 1) := by decide +kernel
theorem dX10_fare_21 : decode cX10_fare 21 = .ok (.iload_n 2, 1) := by decide +kernel
theorem dX10_fare_22 : decode cX10_fare 22 = .ok (.invokevirtual 249, 3) := by decide +kernel
theorem dX10_fare_25 : decode cX10_fare 25 = .ok (.ireturn, 1) := by decide +kernel
theorem dX10_would_0 : decode cX10_would 0 = .ok (.aload_n 0, 1) := by decide +kernel
theorem dX10_would_1 : decode cX10_would 1 = .ok (.iload_n 1, 1) := by decide +kernel
theorem dX10_would_2 : decode cX10_would 2 = .ok (.iconst 0, 1) := by decide +kernel
theorem dX10_would_3 : decode cX10_would 3 = .ok (.bipush 60, 2) := by decide +kernel
theorem dX10_would_5 : decode cX10_would 5 = .ok (.invokevirtual 103, 3) := by decide +kernel
theorem dX10_would_8 : decode cX10_would 8 = .ok (.aload_n 0, 1) := by decide +kernel
theorem dX10_would_9 : decode cX10_would 9 = .ok (.iload_n 2, 1) := by decide +kernel
theorem dX10_would_10 : decode cX10_would 10 = .ok (.iconst 0, 1) := by decide +kernel
theorem dX10_would_11 : decode cX10_would 11 = .ok (.bipush 40, 2) := by decide +kernel
theorem dX10_would_13 : decode cX10_would 13 = .ok (.invokevirtual 103, 3) := by decide +kernel
theorem dX10_would_16 : decode cX10_would 16 = .ok (.aload_n 0, 1) := by decide +kernel
theorem dX10_would_17 : decode cX10_would 17 = .ok (.iload_n 3, 1) := by decide +kernel
theorem dX10_would_18 : decode cX10_would 18 = .ok (.iconst 0, 1) := by decide +kernel
theorem dX10_would_19 : decode cX10_would 19 = .ok (.iconst 2, 1) := by decide +kernel
theorem dX10_would_20 : decode cX10_would 20 = .ok (.invokevirtual 103, 3) := by decide +kernel
theorem dX10_would_23 : decode cX10_would 23 = .ok (.aload_n 0, 1) := by decide +kernel
theorem dX10_would_24 : decode cX10_would 24 = .ok (.iload 4, 2) := by decide +kernel
theorem dX10_would_26 : decode cX10_would 26 = .ok (.iconst 0, 1) := by decide +kernel
theorem dX10_would_27 : decode cX10_would 27 = .ok (.iconst 5, 1) := by decide +kernel
theorem dX10_would_28 : decode cX10_would 28 = .ok (.invokevirtual 103, 3) := by decide +kernel
theorem dX10_would_31 : decode cX10_would 31 = .ok (.aload_n 0, 1) := by decide +kernel
theorem dX10_would_32 : decode cX10_would 32 = .ok (.iload 5, 2) := by decide +kernel
theorem dX10_would_34 : decode cX10_would 34 = .ok (.iconst 0, 1) := by decide +kernel
theorem dX10_would_35 : decode cX10_would 35 = .ok (.sipush 999, 3) := by decide +kernel
theorem dX10_would_38 : decode cX10_would 38 = .ok (.invokevirtual 103, 3) := by decide +kernel
theorem dX10_would_41 : decode cX10_would 41 = .ok (.aload_n 0, 1) := by decide +kernel
theorem dX10_would_42 : decode cX10_would 42 = .ok (.iload 6, 2) := by decide +kernel
theorem dX10_would_44 : decode cX10_would 44 = .ok (.iconst 0, 1) := by decide +kernel
theorem dX10_would_45 : decode cX10_would 45 = .ok (.sipush 900, 3) := by decide +kernel
theorem dX10_would_48 : decode cX10_would 48 = .ok (.invokevirtual 103, 3) := by decide +kernel
theorem dX10_would_51 : decode cX10_would 51 = .ok (.aload_n 0, 1) := by decide +kernel
theorem dX10_would_52 : decode cX10_would 52 = .ok (.getfield 29, 3) := by decide +kernel
theorem dX10_would_55 : decode cX10_would 55 = .ok (.iload_n 1, 1) := by decide +kernel
theorem dX10_would_56 : decode cX10_would 56 = .ok (.iload_n 2, 1) := by decide +kernel
theorem dX10_would_57 : decode cX10_would 57 = .ok (.iload_n 3, 1) := by decide +kernel
theorem dX10_would_58 : decode cX10_would 58 = .ok (.iload 4, 2) := by decide +kernel
theorem dX10_would_60 : decode cX10_would 60 = .ok (.iload 5, 2) := by decide +kernel
theorem dX10_would_62 : decode cX10_would 62 = .ok (.iload 6, 2) := by decide +kernel
theorem dX10_would_64 : decode cX10_would 64 = .ok (.invokevirtual 253, 3) := by decide +kernel
theorem dX10_would_67 : decode cX10_would 67 = .ok (.ireturn, 1) := by decide +kernel
theorem dX10_cheapest_0 : decode cX10_cheapest 0 = .ok (.aload_n 0, 1) := by decide +kernel
theorem dX10_cheapest_1 : decode cX10_cheapest 1 = .ok (.iload_n 1, 1) := by decide +kernel
theorem dX10_cheapest_2 : decode cX10_cheapest 2 = .ok (.invokevirtual 225, 3) := by decide +kernel
theorem dX10_cheapest_5 : decode cX10_cheapest 5 = .ok (.aload_n 0, 1) := by decide +kernel
theorem dX10_cheapest_6 : decode cX10_cheapest 6 = .ok (.iload_n 2, 1) := by decide +kernel
theorem dX10_cheapest_7 : decode cX10_cheapest 7 = .ok (.iconst 0, 1) := by decide +kernel
theorem dX10_cheapest_8 : decode cX10_cheapest 8 = .ok (.iconst 1, 1) := by decide +kernel
theorem dX10_cheapest_9 : decode cX10_cheapest 9 = .ok (.invokevirtual 103, 3) := by decide +kernel
theorem dX10_cheapest_12 : decode cX10_cheapest 12 = .ok (.iconst 0, 1) := by decide +kernel
theorem dX10_cheapest_13 : decode cX10_cheapest 13 = .ok (.istore_n 3, 1) := by decide +kernel
theorem dX10_cheapest_14 : decode cX10_cheapest 14 = .ok (.aload_n 0, 1) := by decide +kernel
theorem dX10_cheapest_15 : decode cX10_cheapest 15 = .ok (.getfield 19, 3) := by decide +kernel
theorem dX10_cheapest_18 : decode cX10_cheapest 18 = .ok (.aload_n 0, 1) := by decide +kernel
theorem dX10_cheapest_19 : decode cX10_cheapest 19 = .ok (.getfield 29, 3) := by decide +kernel
theorem dX10_cheapest_22 : decode cX10_cheapest 22 = .ok (.iload_n 1, 1) := by decide +kernel
theorem dX10_cheapest_23 : decode cX10_cheapest 23 = .ok (.iconst 0, 1) := by decide +kernel
theorem dX10_cheapest_24 : decode cX10_cheapest 24 = .ok (.invokevirtual 249, 3) := by decide +kernel
theorem dX10_cheapest_27 : decode cX10_cheapest 27 = .ok (.istore 4, 2) := by decide +kernel
theorem dX10_cheapest_29 : decode cX10_cheapest 29 = .ok (.iconst 1, 1) := by decide +kernel
theorem dX10_cheapest_30 : decode cX10_cheapest 30 = .ok (.istore 5, 2) := by decide +kernel
theorem dX10_cheapest_32 : decode cX10_cheapest 32 = .ok (.iload 5, 2) := by decide +kernel
theorem dX10_cheapest_34 : decode cX10_cheapest 34 = .ok (.iconst 2, 1) := by decide +kernel
theorem dX10_cheapest_35 : decode cX10_cheapest 35 = .ok (.if_icmp .gt 39, 3) := by decide +kernel
theorem dX10_cheapest_38 : decode cX10_cheapest 38 = .ok (.aload_n 0, 1) := by decide +kernel
theorem dX10_cheapest_39 : decode cX10_cheapest 39 = .ok (.getfield 19, 3) := by decide +kernel
theorem dX10_cheapest_42 : decode cX10_cheapest 42 = .ok (.aload_n 0, 1) := by decide +kernel
theorem dX10_cheapest_43 : decode cX10_cheapest 43 = .ok (.getfield 29, 3) := by decide +kernel
theorem dX10_cheapest_46 : decode cX10_cheapest 46 = .ok (.iload_n 1, 1) := by decide +kernel
theorem dX10_cheapest_47 : decode cX10_cheapest 47 = .ok (.iload 5, 2) := by decide +kernel
theorem dX10_cheapest_49 : decode cX10_cheapest 49 = .ok (.invokevirtual 249, 3) := by decide +kernel
theorem dX10_cheapest_52 : decode cX10_cheapest 52 = .ok (.istore 6, 2) := by decide +kernel
theorem dX10_cheapest_54 : decode cX10_cheapest 54 = .ok (.iload 6, 2) := by decide +kernel
theorem dX10_cheapest_56 : decode cX10_cheapest 56 = .ok (.iload 4, 2) := by decide +kernel
theorem dX10_cheapest_58 : decode cX10_cheapest 58 = .ok (.if_icmp .ge 10, 3) := by decide +kernel
theorem dX10_cheapest_61 : decode cX10_cheapest 61 = .ok (.iload 6, 2) := by decide +kernel
theorem dX10_cheapest_63 : decode cX10_cheapest 63 = .ok (.istore 4, 2) := by decide +kernel
theorem dX10_cheapest_65 : decode cX10_cheapest 65 = .ok (.iload 5, 2) := by decide +kernel
theorem dX10_cheapest_67 : decode cX10_cheapest 67 = .ok (.istore_n 3, 1) := by decide +kernel
theorem dX10_cheapest_68 : decode cX10_cheapest 68 = .ok (.iinc 5 1, 3) := by decide +kernel
theorem dX10_cheapest_71 : decode cX10_cheapest 71 = .ok (.goto (-39), 3) := by decide +kernel
theorem dX10_cheapest_74 : decode cX10_cheapest 74 = .ok (.iload_n 2, 1) := by decide +kernel
theorem dX10_cheapest_75 : decode cX10_cheapest 75 = .ok (.ifCond .ne 7, 3) := by decide +kernel
theorem dX10_cheapest_78 : decode cX10_cheapest 78 = .ok (.iload_n 3, 1) := by decide +kernel
theorem dX10_cheapest_79 : decode cX10_cheapest 79 = .ok (.goto 5, 3) := by decide +kernel
theorem dX10_cheapest_82 : decode cX10_cheapest 82 = .ok (.iload 4, 2) := by decide +kernel
theorem dX10_cheapest_84 : decode cX10_cheapest 84 = .ok (.ireturn, 1) := by decide +kernel
theorem dX10_dearest_0 : decode cX10_dearest 0 = .ok (.aload_n 0, 1) := by decide +kernel
theorem dX10_dearest_1 : decode cX10_dearest 1 = .ok (.iload_n 1, 1) := by decide +kernel
theorem dX10_dearest_2 : decode cX10_dearest 2 = .ok (.iconst 0, 1) := by decide +kernel
theorem dX10_dearest_3 : decode cX10_dearest 3 = .ok (.bipush 60, 2) := by decide +kernel
theorem dX10_dearest_5 : decode cX10_dearest 5 = .ok (.invokevirtual 103, 3) := by decide +kernel
theorem dX10_dearest_8 : decode cX10_dearest 8 = .ok (.aload_n 0, 1) := by decide +kernel
theorem dX10_dearest_9 : decode cX10_dearest 9 = .ok (.iload_n 2, 1) := by decide +kernel
theorem dX10_dearest_10 : decode cX10_dearest 10 = .ok (.iload_n 1, 1) := by decide +kernel
theorem dX10_dearest_11 : decode cX10_dearest 11 = .ok (.bipush 60, 2) := by decide +kernel
theorem dX10_dearest_13 : decode cX10_dearest 13 = .ok (.invokevirtual 103, 3) := by decide +kernel
theorem dX10_dearest_16 : decode cX10_dearest 16 = .ok (.aload_n 0, 1) := by decide +kernel
theorem dX10_dearest_17 : decode cX10_dearest 17 = .ok (.iload_n 3, 1) := by decide +kernel
theorem dX10_dearest_18 : decode cX10_dearest 18 = .ok (.iconst 0, 1) := by decide +kernel
theorem dX10_dearest_19 : decode cX10_dearest 19 = .ok (.iconst 2, 1) := by decide +kernel
theorem dX10_dearest_20 : decode cX10_dearest 20 = .ok (.invokevirtual 103, 3) := by decide +kernel
theorem dX10_dearest_23 : decode cX10_dearest 23 = .ok (.aload_n 0, 1) := by decide +kernel
theorem dX10_dearest_24 : decode cX10_dearest 24 = .ok (.getfield 19, 3) := by decide +kernel
theorem dX10_dearest_27 : decode cX10_dearest 27 = .ok (.aload_n 0, 1) := by decide +kernel
theorem dX10_dearest_28 : decode cX10_dearest 28 = .ok (.getfield 29, 3) := by decide +kernel
theorem dX10_dearest_31 : decode cX10_dearest 31 = .ok (.iconst 1, 1) := by decide +kernel
theorem dX10_dearest_32 : decode cX10_dearest 32 = .ok (.aload_n 0, 1) := by decide +kernel
theorem dX10_dearest_33 : decode cX10_dearest 33 = .ok (.getfield 59, 3) := by decide +kernel
theorem dX10_dearest_36 : decode cX10_dearest 36 = .ok (.invokevirtual 257, 3) := by decide +kernel
theorem dX10_dearest_39 : decode cX10_dearest 39 = .ok (.iload_n 1, 1) := by decide +kernel
theorem dX10_dearest_40 : decode cX10_dearest 40 = .ok (.istore 4, 2) := by decide +kernel
theorem dX10_dearest_42 : decode cX10_dearest 42 = .ok (.iconst 0, 1) := by decide +kernel
theorem dX10_dearest_43 : decode cX10_dearest 43 = .ok (.istore 5, 2) := by decide +kernel
theorem dX10_dearest_45 : decode cX10_dearest 45 = .ok (.iload_n 1, 1) := by decide +kernel
theorem dX10_dearest_46 : decode cX10_dearest 46 = .ok (.istore 6, 2) := by decide +kernel
theorem dX10_dearest_48 : decode cX10_dearest 48 = .ok (.iload 6, 2) := by decide +kernel
theorem dX10_dearest_50 : decode cX10_dearest 50 = .ok (.iload_n 2, 1) := by decide +kernel
theorem dX10_dearest_51 : decode cX10_dearest 51 = .ok (.if_icmp .gt 42, 3) := by decide +kernel
theorem dX10_dearest_54 : decode cX10_dearest 54 = .ok (.iload 5, 2) := by decide +kernel
theorem dX10_dearest_56 : decode cX10_dearest 56 = .ok (.aload_n 0, 1) := by decide +kernel
theorem dX10_dearest_57 : decode cX10_dearest 57 = .ok (.getfield 59, 3) := by decide +kernel
theorem dX10_dearest_60 : decode cX10_dearest 60 = .ok (.iload 6, 2) := by decide +kernel
theorem dX10_dearest_62 : decode cX10_dearest 62 = .ok (.iaload, 1) := by decide +kernel
theorem dX10_dearest_63 : decode cX10_dearest 63 = .ok (.iadd, 1) := by decide +kernel
theorem dX10_dearest_64 : decode cX10_dearest 64 = .ok (.istore 5, 2) := by decide +kernel
theorem dX10_dearest_66 : decode cX10_dearest 66 = .ok (.aload_n 0, 1) := by decide +kernel
theorem dX10_dearest_67 : decode cX10_dearest 67 = .ok (.getfield 59, 3) := by decide +kernel
theorem dX10_dearest_70 : decode cX10_dearest 70 = .ok (.iload 6, 2) := by decide +kernel
theorem dX10_dearest_72 : decode cX10_dearest 72 = .ok (.iaload, 1) := by decide +kernel
theorem dX10_dearest_73 : decode cX10_dearest 73 = .ok (.aload_n 0, 1) := by decide +kernel
theorem dX10_dearest_74 : decode cX10_dearest 74 = .ok (.getfield 59, 3) := by decide +kernel
theorem dX10_dearest_77 : decode cX10_dearest 77 = .ok (.iload 4, 2) := by decide +kernel
theorem dX10_dearest_79 : decode cX10_dearest 79 = .ok (.iaload, 1) := by decide +kernel
theorem dX10_dearest_80 : decode cX10_dearest 80 = .ok (.if_icmp .le 7, 3) := by decide +kernel
theorem dX10_dearest_83 : decode cX10_dearest 83 = .ok (.iload 6, 2) := by decide +kernel
theorem dX10_dearest_85 : decode cX10_dearest 85 = .ok (.istore 4, 2) := by decide +kernel
theorem dX10_dearest_87 : decode cX10_dearest 87 = .ok (.iinc 6 1, 3) := by decide +kernel
theorem dX10_dearest_90 : decode cX10_dearest 90 = .ok (.goto (-42), 3) := by decide +kernel
theorem dX10_dearest_93 : decode cX10_dearest 93 = .ok (.iload_n 3, 1) := by decide +kernel
theorem dX10_dearest_94 : decode cX10_dearest 94 = .ok (.lookupswitch 37 #[(0, 26), (1, 29)], 26) := by decide +kernel
theorem dX10_dearest_120 : decode cX10_dearest 120 = .ok (.iload 4, 2) := by decide +kernel
theorem dX10_dearest_122 : decode cX10_dearest 122 = .ok (.ireturn, 1) := by decide +kernel
theorem dX10_dearest_123 : decode cX10_dearest 123 = .ok (.aload_n 0, 1) := by decide +kernel
theorem dX10_dearest_124 : decode cX10_dearest 124 = .ok (.getfield 59, 3) := by decide +kernel
theorem dX10_dearest_127 : decode cX10_dearest 127 = .ok (.iload 4, 2) := by decide +kernel
theorem dX10_dearest_129 : decode cX10_dearest 129 = .ok (.iaload, 1) := by decide +kernel
theorem dX10_dearest_130 : decode cX10_dearest 130 = .ok (.ireturn, 1) := by decide +kernel
theorem dX10_dearest_131 : decode cX10_dearest 131 = .ok (.iload 5, 2) := by decide +kernel
theorem dX10_dearest_133 : decode cX10_dearest 133 = .ok (.ireturn, 1) := by decide +kernel
theorem dX10_affords_0 : decode cX10_affords 0 = .ok (.aload_n 0, 1) := by decide +kernel
theorem dX10_affords_1 : decode cX10_affords 1 = .ok (.iload_n 1, 1) := by decide +kernel
theorem dX10_affords_2 : decode cX10_affords 2 = .ok (.invokevirtual 206, 3) := by decide +kernel
theorem dX10_affords_5 : decode cX10_affords 5 = .ok (.aload_n 0, 1) := by decide +kernel
theorem dX10_affords_6 : decode cX10_affords 6 = .ok (.iload_n 2, 1) := by decide +kernel
theorem dX10_affords_7 : decode cX10_affords 7 = .ok (.invokevirtual 225, 3) := by decide +kernel
theorem dX10_affords_10 : decode cX10_affords 10 = .ok (.aload_n 0, 1) := by decide +kernel
theorem dX10_affords_11 : decode cX10_affords 11 = .ok (.iload_n 3, 1) := by decide +kernel
theorem dX10_affords_12 : decode cX10_affords 12 = .ok (.iconst 0, 1) := by decide +kernel
theorem dX10_affords_13 : decode cX10_affords 13 = .ok (.iconst 2, 1) := by decide +kernel
theorem dX10_affords_14 : decode cX10_affords 14 = .ok (.invokevirtual 103, 3) := by decide +kernel
theorem dX10_affords_17 : decode cX10_affords 17 = .ok (.aload_n 0, 1) := by decide +kernel
theorem dX10_affords_18 : decode cX10_affords 18 = .ok (.getfield 19, 3) := by decide +kernel
theorem dX10_affords_21 : decode cX10_affords 21 = .ok (.iload_n 2, 1) := by decide +kernel
theorem dX10_affords_22 : decode cX10_affords 22 = .ok (.invokevirtual 228, 3) := by decide +kernel
theorem dX10_affords_25 : decode cX10_affords 25 = .ok (.istore 4, 2) := by decide +kernel
theorem dX10_affords_27 : decode cX10_affords 27 = .ok (.iload 4, 2) := by decide +kernel
theorem dX10_affords_29 : decode cX10_affords 29 = .ok (.iconst (-1), 1) := by decide +kernel
theorem dX10_affords_30 : decode cX10_affords 30 = .ok (.if_icmp .eq 9, 3) := by decide +kernel
theorem dX10_affords_33 : decode cX10_affords 33 = .ok (.iload 4, 2) := by decide +kernel
theorem dX10_affords_35 : decode cX10_affords 35 = .ok (.iload_n 1, 1) := by decide +kernel
theorem dX10_affords_36 : decode cX10_affords 36 = .ok (.if_icmp .ne 7, 3) := by decide +kernel
theorem dX10_affords_39 : decode cX10_affords 39 = .ok (.sipush 999, 3) := by decide +kernel
theorem dX10_affords_42 : decode cX10_affords 42 = .ok (.ireturn, 1) := by decide +kernel
theorem dX10_affords_43 : decode cX10_affords 43 = .ok (.aload_n 0, 1) := by decide +kernel
theorem dX10_affords_44 : decode cX10_affords 44 = .ok (.getfield 19, 3) := by decide +kernel
theorem dX10_affords_47 : decode cX10_affords 47 = .ok (.iload_n 1, 1) := by decide +kernel
theorem dX10_affords_48 : decode cX10_affords 48 = .ok (.invokevirtual 209, 3) := by decide +kernel
theorem dX10_affords_51 : decode cX10_affords 51 = .ok (.istore 5, 2) := by decide +kernel
theorem dX10_affords_53 : decode cX10_affords 53 = .ok (.iconst 0, 1) := by decide +kernel
theorem dX10_affords_54 : decode cX10_affords 54 = .ok (.istore 6, 2) := by decide +kernel
theorem dX10_affords_56 : decode cX10_affords 56 = .ok (.iload 6, 2) := by decide +kernel
theorem dX10_affords_58 : decode cX10_affords 58 = .ok (.sipush 999, 3) := by decide +kernel
theorem dX10_affords_61 : decode cX10_affords 61 = .ok (.if_icmp .ge 59, 3) := by decide +kernel
theorem dX10_affords_64 : decode cX10_affords 64 = .ok (.iload 5, 2) := by decide +kernel
theorem dX10_affords_66 : decode cX10_affords 66 = .ok (.aload_n 0, 1) := by decide +kernel
theorem dX10_affords_67 : decode cX10_affords 67 = .ok (.getfield 29, 3) := by decide +kernel
theorem dX10_affords_70 : decode cX10_affords 70 = .ok (.iload_n 2, 1) := by decide +kernel
theorem dX10_affords_71 : decode cX10_affords 71 = .ok (.aload_n 0, 1) := by decide +kernel
theorem dX10_affords_72 : decode cX10_affords 72 = .ok (.getfield 19, 3) := by decide +kernel
theorem dX10_affords_75 : decode cX10_affords 75 = .ok (.iload_n 2, 1) := by decide +kernel
theorem dX10_affords_76 : decode cX10_affords 76 = .ok (.invokevirtual 231, 3) := by decide +kernel
theorem dX10_affords_79 : decode cX10_affords 79 = .ok (.iload_n 3, 1) := by decide +kernel
theorem dX10_affords_80 : decode cX10_affords 80 = .ok (.iload 4, 2) := by decide +kernel
theorem dX10_affords_82 : decode cX10_affords 82 = .ok (.aload_n 0, 1) := by decide +kernel
theorem dX10_affords_83 : decode cX10_affords 83 = .ok (.getfield 19, 3) := by decide +kernel
theorem dX10_affords_86 : decode cX10_affords 86 = .ok (.iload_n 2, 1) := by decide +kernel
theorem dX10_affords_87 : decode cX10_affords 87 = .ok (.invokevirtual 234, 3) := by decide +kernel
theorem dX10_affords_90 : decode cX10_affords 90 = .ok (.iload 6, 2) := by decide +kernel
theorem dX10_affords_92 : decode cX10_affords 92 = .ok (.iadd, 1) := by decide +kernel
theorem dX10_affords_93 : decode cX10_affords 93 = .ok (.aload_n 0, 1) := by decide +kernel
theorem dX10_affords_94 : decode cX10_affords 94 = .ok (.getfield 19, 3) := by decide +kernel
theorem dX10_affords_97 : decode cX10_affords 97 = .ok (.invokevirtual 191, 3) := by decide +kernel
theorem dX10_affords_100 : decode cX10_affords 100 = .ok (.invokevirtual 253, 3) := by decide +kernel
theorem dX10_affords_103 : decode cX10_affords 103 = .ok (.isub, 1) := by decide +kernel
theorem dX10_affords_104 : decode cX10_affords 104 = .ok (.istore 5, 2) := by decide +kernel
theorem dX10_affords_106 : decode cX10_affords 106 = .ok (.iload 5, 2) := by decide +kernel
theorem dX10_affords_108 : decode cX10_affords 108 = .ok (.ifCond .ge 6, 3) := by decide +kernel
theorem dX10_affords_111 : decode cX10_affords 111 = .ok (.iload 6, 2) := by decide +kernel
theorem dX10_affords_113 : decode cX10_affords 113 = .ok (.ireturn, 1) := by decide +kernel
theorem dX10_affords_114 : decode cX10_affords 114 = .ok (.iinc 6 1, 3) := by decide +kernel
theorem dX10_affords_117 : decode cX10_affords 117 = .ok (.goto (-61), 3) := by decide +kernel
theorem dX10_affords_120 : decode cX10_affords 120 = .ok (.sipush 999, 3) := by decide +kernel
theorem dX10_affords_123 : decode cX10_affords 123 = .ok (.ireturn, 1) := by decide +kernel
theorem dX10_dice_0 : decode cX10_dice 0 = .ok (.aload_n 0, 1) := by decide +kernel
theorem dX10_dice_1 : decode cX10_dice 1 = .ok (.iload_n 1, 1) := by decide +kernel
theorem dX10_dice_2 : decode cX10_dice 2 = .ok (.iconst 1, 1) := by decide +kernel
theorem dX10_dice_3 : decode cX10_dice 3 = .ok (.bipush 60, 2) := by decide +kernel
theorem dX10_dice_5 : decode cX10_dice 5 = .ok (.invokevirtual 103, 3) := by decide +kernel
theorem dX10_dice_8 : decode cX10_dice 8 = .ok (.aload_n 0, 1) := by decide +kernel
theorem dX10_dice_9 : decode cX10_dice 9 = .ok (.iload_n 2, 1) := by decide +kernel
theorem dX10_dice_10 : decode cX10_dice 10 = .ok (.iconst 0, 1) := by decide +kernel
theorem dX10_dice_11 : decode cX10_dice 11 = .ok (.iconst 1, 1) := by decide +kernel
theorem dX10_dice_12 : decode cX10_dice 12 = .ok (.invokevirtual 103, 3) := by decide +kernel
theorem dX10_dice_15 : decode cX10_dice 15 = .ok (.aload_n 0, 1) := by decide +kernel
theorem dX10_dice_16 : decode cX10_dice 16 = .ok (.getfield 19, 3) := by decide +kernel
theorem dX10_dice_19 : decode cX10_dice 19 = .ok (.aload_n 0, 1) := by decide +kernel
theorem dX10_dice_20 : decode cX10_dice 20 = .ok (.getfield 29, 3) := by decide +kernel
theorem dX10_dice_23 : decode cX10_dice 23 = .ok (.iconst 1, 1) := by decide +kernel
theorem dX10_dice_24 : decode cX10_dice 24 = .ok (.aload_n 0, 1) := by decide +kernel
theorem dX10_dice_25 : decode cX10_dice 25 = .ok (.getfield 59, 3) := by decide +kernel
theorem dX10_dice_28 : decode cX10_dice 28 = .ok (.invokevirtual 257, 3) := by decide +kernel
theorem dX10_dice_31 : decode cX10_dice 31 = .ok (.iconst 0, 1) := by decide +kernel
theorem dX10_dice_32 : decode cX10_dice 32 = .ok (.istore_n 3, 1) := by decide +kernel
theorem dX10_dice_33 : decode cX10_dice 33 = .ok (.iconst 1, 1) := by decide +kernel
theorem dX10_dice_34 : decode cX10_dice 34 = .ok (.istore 4, 2) := by decide +kernel
theorem dX10_dice_36 : decode cX10_dice 36 = .ok (.iload 4, 2) := by decide +kernel
theorem dX10_dice_38 : decode cX10_dice 38 = .ok (.iload_n 1, 1) := by decide +kernel
theorem dX10_dice_39 : decode cX10_dice 39 = .ok (.if_icmp .gt 19, 3) := by decide +kernel
theorem dX10_dice_42 : decode cX10_dice 42 = .ok (.iload_n 3, 1) := by decide +kernel
theorem dX10_dice_43 : decode cX10_dice 43 = .ok (.aload_n 0, 1) := by decide +kernel
theorem dX10_dice_44 : decode cX10_dice 44 = .ok (.getfield 59, 3) := by decide +kernel
theorem dX10_dice_47 : decode cX10_dice 47 = .ok (.iload 4, 2) := by decide +kernel
theorem dX10_dice_49 : decode cX10_dice 49 = .ok (.iaload, 1) := by decide +kernel
theorem dX10_dice_50 : decode cX10_dice 50 = .ok (.iadd, 1) := by decide +kernel
theorem dX10_dice_51 : decode cX10_dice 51 = .ok (.istore_n 3, 1) := by decide +kernel
theorem dX10_dice_52 : decode cX10_dice 52 = .ok (.iinc 4 1, 3) := by decide +kernel
theorem dX10_dice_55 : decode cX10_dice 55 = .ok (.goto (-19), 3) := by decide +kernel
theorem dX10_dice_58 : decode cX10_dice 58 = .ok (.iload_n 3, 1) := by decide +kernel
theorem dX10_dice_59 : decode cX10_dice 59 = .ok (.iload_n 1, 1) := by decide +kernel
theorem dX10_dice_60 : decode cX10_dice 60 = .ok (.invokestatic 261, 3) := by decide +kernel
theorem dX10_dice_63 : decode cX10_dice 63 = .ok (.istore 4, 2) := by decide +kernel
theorem dX10_dice_65 : decode cX10_dice 65 = .ok (.iload 4, 2) := by decide +kernel
theorem dX10_dice_67 : decode cX10_dice 67 = .ok (.ifCond .ne 5, 3) := by decide +kernel
theorem dX10_dice_70 : decode cX10_dice 70 = .ok (.iconst 0, 1) := by decide +kernel
theorem dX10_dice_71 : decode cX10_dice 71 = .ok (.ireturn, 1) := by decide +kernel
theorem dX10_dice_72 : decode cX10_dice 72 = .ok (.iload_n 2, 1) := by decide +kernel
theorem dX10_dice_73 : decode cX10_dice 73 = .ok (.ifCond .ne 10, 3) := by decide +kernel
theorem dX10_dice_76 : decode cX10_dice 76 = .ok (.iload_n 3, 1) := by decide +kernel
theorem dX10_dice_77 : decode cX10_dice 77 = .ok (.iload 4, 2) := by decide +kernel
theorem dX10_dice_79 : decode cX10_dice 79 = .ok (.idiv, 1) := by decide +kernel
theorem dX10_dice_80 : decode cX10_dice 80 = .ok (.goto 7, 3) := by decide +kernel
theorem dX10_dice_83 : decode cX10_dice 83 = .ok (.iload_n 1, 1) := by decide +kernel
theorem dX10_dice_84 : decode cX10_dice 84 = .ok (.iload 4, 2) := by decide +kernel
theorem dX10_dice_86 : decode cX10_dice 86 = .ok (.idiv, 1) := by decide +kernel
theorem dX10_dice_87 : decode cX10_dice 87 = .ok (.ireturn, 1) := by decide +kernel
theorem dX10_cost_0 : decode cX10_cost 0 = .ok (.aload_n 0, 1) := by decide +kernel
theorem dX10_cost_1 : decode cX10_cost 1 = .ok (.iload_n 1, 1) := by decide +kernel
theorem dX10_cost_2 : decode cX10_cost 2 = .ok (.invokevirtual 225, 3) := by decide +kernel
theorem dX10_cost_5 : decode cX10_cost 5 = .ok (.aload_n 0, 1) := by decide +kernel
theorem dX10_cost_6 : decode cX10_cost 6 = .ok (.getfield 66, 3) := by decide +kernel
theorem dX10_cost_9 : decode cX10_cost 9 = .ok (.aload_n 0, 1) := by decide +kernel
theorem dX10_cost_10 : decode cX10_cost 10 = .ok (.getfield 19, 3) := by decide +kernel
theorem dX10_cost_13 : decode cX10_cost 13 = .ok (.aload_n 0, 1) := by decide +kernel
theorem dX10_cost_14 : decode cX10_cost 14 = .ok (.getfield 29, 3) := by decide +kernel
theorem dX10_cost_17 : decode cX10_cost 17 = .ok (.invokevirtual 264, 3) := by decide +kernel
theorem dX10_cost_20 : decode cX10_cost 20 = .ok (.aload_n 0, 1) := by decide +kernel
theorem dX10_cost_21 : decode cX10_cost 21 = .ok (.getfield 66, 3) := by decide +kernel
theorem dX10_cost_24 : decode cX10_cost 24 = .ok (.getfield 267, 3) := by decide +kernel
theorem dX10_cost_27 : decode cX10_cost 27 = .ok (.iload_n 1, 1) := by decide +kernel
theorem dX10_cost_28 : decode cX10_cost 28 = .ok (.iaload, 1) := by decide +kernel
theorem dX10_cost_29 : decode cX10_cost 29 = .ok (.ireturn, 1) := by decide +kernel
theorem dX10_saying_0 : decode cX10_saying 0 = .ok (.aload_n 0, 1) := by decide +kernel
theorem dX10_saying_1 : decode cX10_saying 1 = .ok (.iload_n 1, 1) := by decide +kernel
theorem dX10_saying_2 : decode cX10_saying 2 = .ok (.invokevirtual 225, 3) := by decide +kernel
theorem dX10_saying_5 : decode cX10_saying 5 = .ok (.aload_n 0, 1) := by decide +kernel
theorem dX10_saying_6 : decode cX10_saying 6 = .ok (.iload_n 2, 1) := by decide +kernel
theorem dX10_saying_7 : decode cX10_saying 7 = .ok (.iconst 0, 1) := by decide +kernel
theorem dX10_saying_8 : decode cX10_saying 8 = .ok (.iconst 2, 1) := by decide +kernel
theorem dX10_saying_9 : decode cX10_saying 9 = .ok (.invokevirtual 103, 3) := by decide +kernel
theorem dX10_saying_12 : decode cX10_saying 12 = .ok (.aload_n 0, 1) := by decide +kernel
theorem dX10_saying_13 : decode cX10_saying 13 = .ok (.getfield 66, 3) := by decide +kernel
theorem dX10_saying_16 : decode cX10_saying 16 = .ok (.aload_n 0, 1) := by decide +kernel
theorem dX10_saying_17 : decode cX10_saying 17 = .ok (.getfield 19, 3) := by decide +kernel
theorem dX10_saying_20 : decode cX10_saying 20 = .ok (.aload_n 0, 1) := by decide +kernel
theorem dX10_saying_21 : decode cX10_saying 21 = .ok (.getfield 29, 3) := by decide +kernel
theorem dX10_saying_24 : decode cX10_saying 24 = .ok (.invokevirtual 264, 3) := by decide +kernel
theorem dX10_saying_27 : decode cX10_saying 27 = .ok (.aload_n 0, 1) := by decide +kernel
theorem dX10_saying_28 : decode cX10_saying 28 = .ok (.getfield 66, 3) := by decide +kernel
theorem dX10_saying_31 : decode cX10_saying 31 = .ok (.iload_n 1, 1) := by decide +kernel
theorem dX10_saying_32 : decode cX10_saying 32 = .ok (.invokevirtual 269, 3) := by decide +kernel
theorem dX10_saying_35 : decode cX10_saying 35 = .ok (.iload_n 2, 1) := by decide +kernel
theorem dX10_saying_36 : decode cX10_saying 36 = .ok (.lookupswitch 44 #[(0, 28), (1, 36)], 28) := by decide +kernel
theorem dX10_saying_64 : decode cX10_saying 64 = .ok (.aload_n 0, 1) := by decide +kernel
theorem dX10_saying_65 : decode cX10_saying 65 = .ok (.getfield 66, 3) := by decide +kernel
theorem dX10_saying_68 : decode cX10_saying 68 = .ok (.getfield 272, 3) := by decide +kernel
theorem dX10_saying_71 : decode cX10_saying 71 = .ok (.ireturn, 1) := by decide +kernel
theorem dX10_saying_72 : decode cX10_saying 72 = .ok (.aload_n 0, 1) := by decide +kernel
theorem dX10_saying_73 : decode cX10_saying 73 = .ok (.getfield 66, 3) := by decide +kernel
theorem dX10_saying_76 : decode cX10_saying 76 = .ok (.getfield 275, 3) := by decide +kernel
theorem dX10_saying_79 : decode cX10_saying 79 = .ok (.ireturn, 1) := by decide +kernel
theorem dX10_saying_80 : decode cX10_saying 80 = .ok (.aload_n 0, 1) := by decide +kernel
theorem dX10_saying_81 : decode cX10_saying 81 = .ok (.getfield 66, 3) := by decide +kernel
theorem dX10_saying_84 : decode cX10_saying 84 = .ok (.getfield 278, 3) := by decide +kernel
theorem dX10_saying_87 : decode cX10_saying 87 = .ok (.ireturn, 1) := by decide +kernel
theorem dX10_leaves_0 : decode cX10_leaves 0 = .ok (.aload_n 0, 1) := by decide +kernel
theorem dX10_leaves_1 : decode cX10_leaves 1 = .ok (.iload_n 1, 1) := by decide +kernel
theorem dX10_leaves_2 : decode cX10_leaves 2 = .ok (.invokevirtual 225, 3) := by decide +kernel
theorem dX10_leaves_5 : decode cX10_leaves 5 = .ok (.aload_n 0, 1) := by decide +kernel
theorem dX10_leaves_6 : decode cX10_leaves 6 = .ok (.getfield 66, 3) := by decide +kernel
theorem dX10_leaves_9 : decode cX10_leaves 9 = .ok (.aload_n 0, 1) := by decide +kernel
theorem dX10_leaves_10 : decode cX10_leaves 10 = .ok (.getfield 19, 3) := by decide +kernel
theorem dX10_leaves_13 : decode cX10_leaves 13 = .ok (.aload_n 0, 1) := by decide +kernel
theorem dX10_leaves_14 : decode cX10_leaves 14 = .ok (.getfield 29, 3) := by decide +kernel
theorem dX10_leaves_17 : decode cX10_leaves 17 = .ok (.invokevirtual 264, 3) := by decide +kernel
theorem dX10_leaves_20 : decode cX10_leaves 20 = .ok (.aload_n 0, 1) := by decide +kernel
theorem dX10_leaves_21 : decode cX10_leaves 21 = .ok (.getfield 66, 3) := by decide +kernel
theorem dX10_leaves_24 : decode cX10_leaves 24 = .ok (.getfield 281, 3) := by decide +kernel
theorem dX10_leaves_27 : decode cX10_leaves 27 = .ok (.iload_n 1, 1) := by decide +kernel
theorem dX10_leaves_28 : decode cX10_leaves 28 = .ok (.iaload, 1) := by decide +kernel
theorem dX10_leaves_29 : decode cX10_leaves 29 = .ok (.ireturn, 1) := by decide +kernel
theorem dX10_common_0 : decode cX10_common 0 = .ok (.aload_n 0, 1) := by decide +kernel
theorem dX10_common_1 : decode cX10_common 1 = .ok (.iload_n 1, 1) := by decide +kernel
theorem dX10_common_2 : decode cX10_common 2 = .ok (.iconst 0, 1) := by decide +kernel
theorem dX10_common_3 : decode cX10_common 3 = .ok (.iconst 1, 1) := by decide +kernel
theorem dX10_common_4 : decode cX10_common 4 = .ok (.invokevirtual 103, 3) := by decide +kernel
theorem dX10_common_7 : decode cX10_common 7 = .ok (.aload_n 0, 1) := by decide +kernel
theorem dX10_common_8 : decode cX10_common 8 = .ok (.getfield 66, 3) := by decide +kernel
theorem dX10_common_11 : decode cX10_common 11 = .ok (.aload_n 0, 1) := by decide +kernel
theorem dX10_common_12 : decode cX10_common 12 = .ok (.getfield 19, 3) := by decide +kernel
theorem dX10_common_15 : decode cX10_common 15 = .ok (.aload_n 0, 1) := by decide +kernel
theorem dX10_common_16 : decode cX10_common 16 = .ok (.getfield 29, 3) := by decide +kernel
theorem dX10_common_19 : decode cX10_common 19 = .ok (.invokevirtual 264, 3) := by decide +kernel
theorem dX10_common_22 : decode cX10_common 22 = .ok (.iconst 0, 1) := by decide +kernel
theorem dX10_common_23 : decode cX10_common 23 = .ok (.istore_n 2, 1) := by decide +kernel
theorem dX10_common_24 : decode cX10_common 24 = .ok (.iconst 0, 1) := by decide +kernel
theorem dX10_common_25 : decode cX10_common 25 = .ok (.istore_n 3, 1) := by decide +kernel
theorem dX10_common_26 : decode cX10_common 26 = .ok (.iload_n 3, 1) := by decide +kernel
theorem dX10_common_27 : decode cX10_common 27 = .ok (.bipush 60, 2) := by decide +kernel
theorem dX10_common_29 : decode cX10_common 29 = .ok (.if_icmp .gt 44, 3) := by decide +kernel
theorem dX10_common_32 : decode cX10_common 32 = .ok (.iload_n 1, 1) := by decide +kernel
theorem dX10_common_33 : decode cX10_common 33 = .ok (.ifCond .ne 15, 3) := by decide +kernel
theorem dX10_common_36 : decode cX10_common 36 = .ok (.aload_n 0, 1) := by decide +kernel
theorem dX10_common_37 : decode cX10_common 37 = .ok (.getfield 66, 3) := by decide +kernel
theorem dX10_common_40 : decode cX10_common 40 = .ok (.getfield 284, 3) := by decide +kernel
theorem dX10_common_43 : decode cX10_common 43 = .ok (.iload_n 3, 1) := by decide +kernel
theorem dX10_common_44 : decode cX10_common 44 = .ok (.iaload, 1) := by decide +kernel
theorem dX10_common_45 : decode cX10_common 45 = .ok (.goto 12, 3) := by decide +kernel
theorem dX10_common_48 : decode cX10_common 48 = .ok (.aload_n 0, 1) := by decide +kernel
theorem dX10_common_49 : decode cX10_common 49 = .ok (.getfield 66, 3) := by decide +kernel
theorem dX10_common_52 : decode cX10_common 52 = .ok (.getfield 267, 3) := by decide +kernel
theorem dX10_common_55 : decode cX10_common 55 = .ok (.iload_n 3, 1) := by decide +kernel
theorem dX10_common_56 : decode cX10_common 56 = .ok (.iaload, 1) := by decide +kernel
theorem dX10_common_57 : decode cX10_common 57 = .ok (.istore 4, 2) := by decide +kernel
theorem dX10_common_59 : decode cX10_common 59 = .ok (.iload 4, 2) := by decide +kernel
theorem dX10_common_61 : decode cX10_common 61 = .ok (.ifCond .ne 6, 3) := by decide +kernel
theorem dX10_common_64 : decode cX10_common 64 = .ok (.iinc 2 1, 3) := by decide +kernel
theorem dX10_common_67 : decode cX10_common 67 = .ok (.iinc 3 1, 3) := by decide +kernel
theorem dX10_common_70 : decode cX10_common 70 = .ok (.goto (-44), 3) := by decide +kernel
theorem dX10_common_73 : decode cX10_common 73 = .ok (.iload_n 2, 1) := by decide +kernel
theorem dX10_common_74 : decode cX10_common 74 = .ok (.ireturn, 1) := by decide +kernel
theorem dX10_sayable_0 : decode cX10_sayable 0 = .ok (.aload_n 0, 1) := by decide +kernel
theorem dX10_sayable_1 : decode cX10_sayable 1 = .ok (.iload_n 1, 1) := by decide +kernel
theorem dX10_sayable_2 : decode cX10_sayable 2 = .ok (.iconst 0, 1) := by decide +kernel
theorem dX10_sayable_3 : decode cX10_sayable 3 = .ok (.bipush 99, 2) := by decide +kernel
theorem dX10_sayable_5 : decode cX10_sayable 5 = .ok (.invokevirtual 103, 3) := by decide +kernel
theorem dX10_sayable_8 : decode cX10_sayable 8 = .ok (.aload_n 0, 1) := by decide +kernel
theorem dX10_sayable_9 : decode cX10_sayable 9 = .ok (.iload_n 2, 1) := by decide +kernel
theorem dX10_sayable_10 : decode cX10_sayable 10 = .ok (.iconst 0, 1) := by decide +kernel
theorem dX10_sayable_11 : decode cX10_sayable 11 = .ok (.iconst 1, 1) := by decide +kernel
theorem dX10_sayable_12 : decode cX10_sayable 12 = .ok (.invokevirtual 103, 3) := by decide +kernel
theorem dX10_sayable_15 : decode cX10_sayable 15 = .ok (.aload_n 0, 1) := by decide +kernel
theorem dX10_sayable_16 : decode cX10_sayable 16 = .ok (.getfield 66, 3) := by decide +kernel
theorem dX10_sayable_19 : decode cX10_sayable 19 = .ok (.aload_n 0, 1) := by decide +kernel
theorem dX10_sayable_20 : decode cX10_sayable 20 = .ok (.getfield 19, 3) := by decide +kernel
theorem dX10_sayable_23 : decode cX10_sayable 23 = .ok (.aload_n 0, 1) := by decide +kernel
theorem dX10_sayable_24 : decode cX10_sayable 24 = .ok (.getfield 29, 3) := by decide +kernel
theorem dX10_sayable_27 : decode cX10_sayable 27 = .ok (.invokevirtual 264, 3) := by decide +kernel
theorem dX10_sayable_30 : decode cX10_sayable 30 = .ok (.iconst 0, 1) := by decide +kernel
theorem dX10_sayable_31 : decode cX10_sayable 31 = .ok (.istore_n 3, 1) := by decide +kernel
theorem dX10_sayable_32 : decode cX10_sayable 32 = .ok (.iconst (-1), 1) := by decide +kernel
theorem dX10_sayable_33 : decode cX10_sayable 33 = .ok (.istore 4, 2) := by decide +kernel
theorem dX10_sayable_35 : decode cX10_sayable 35 = .ok (.iconst 0, 1) := by decide +kernel
theorem dX10_sayable_36 : decode cX10_sayable 36 = .ok (.istore 5, 2) := by decide +kernel
theorem dX10_sayable_38 : decode cX10_sayable 38 = .ok (.iload 5, 2) := by decide +kernel
theorem dX10_sayable_40 : decode cX10_sayable 40 = .ok (.bipush 60, 2) := by decide +kernel
theorem dX10_sayable_42 : decode cX10_sayable 42 = .ok (.if_icmp .gt 30, 3) := by decide +kernel
theorem dX10_sayable_45 : decode cX10_sayable 45 = .ok (.aload_n 0, 1) := by decide +kernel
theorem dX10_sayable_46 : decode cX10_sayable 46 = .ok (.getfield 66, 3) := by decide +kernel
theorem dX10_sayable_49 : decode cX10_sayable 49 = .ok (.getfield 267, 3) := by decide +kernel
theorem dX10_sayable_52 : decode cX10_sayable 52 = .ok (.iload 5, 2) := by decide +kernel
theorem dX10_sayable_54 : decode cX10_sayable 54 = .ok (.iaload, 1) := by decide +kernel
theorem dX10_sayable_55 : decode cX10_sayable 55 = .ok (.iload_n 1, 1) := by decide +kernel
theorem dX10_sayable_56 : decode cX10_sayable 56 = .ok (.if_icmp .gt 10, 3) := by decide +kernel
theorem dX10_sayable_59 : decode cX10_sayable 59 = .ok (.iinc 3 1, 3) := by decide +kernel
theorem dX10_sayable_62 : decode cX10_sayable 62 = .ok (.iload 5, 2) := by decide +kernel
theorem dX10_sayable_64 : decode cX10_sayable 64 = .ok (.istore 4, 2) := by decide +kernel
theorem dX10_sayable_66 : decode cX10_sayable 66 = .ok (.iinc 5 1, 3) := by decide +kernel
theorem dX10_sayable_69 : decode cX10_sayable 69 = .ok (.goto (-31), 3) := by decide +kernel
theorem dX10_sayable_72 : decode cX10_sayable 72 = .ok (.iload_n 2, 1) := by decide +kernel
theorem dX10_sayable_73 : decode cX10_sayable 73 = .ok (.ifCond .ne 7, 3) := by decide +kernel
theorem dX10_sayable_76 : decode cX10_sayable 76 = .ok (.iload_n 3, 1) := by decide +kernel
theorem dX10_sayable_77 : decode cX10_sayable 77 = .ok (.goto 5, 3) := by decide +kernel
theorem dX10_sayable_80 : decode cX10_sayable 80 = .ok (.iload 4, 2) := by decide +kernel
theorem dX10_sayable_82 : decode cX10_sayable 82 = .ok (.ireturn, 1) := by decide +kernel
theorem dX10_out_0 : decode cX10_out 0 = .ok (.aload_n 0, 1) := by decide +kernel
theorem dX10_out_1 : decode cX10_out 1 = .ok (.iload_n 1, 1) := by decide +kernel
theorem dX10_out_2 : decode cX10_out 2 = .ok (.invokevirtual 225, 3) := by decide +kernel
theorem dX10_out_5 : decode cX10_out 5 = .ok (.aload_n 0, 1) := by decide +kernel
theorem dX10_out_6 : decode cX10_out 6 = .ok (.getfield 66, 3) := by decide +kernel
theorem dX10_out_9 : decode cX10_out 9 = .ok (.aload_n 0, 1) := by decide +kernel
theorem dX10_out_10 : decode cX10_out 10 = .ok (.getfield 19, 3) := by decide +kernel
theorem dX10_out_13 : decode cX10_out 13 = .ok (.invokevirtual 287, 3) := by decide +kernel
theorem dX10_out_16 : decode cX10_out 16 = .ok (.aload_n 0, 1) := by decide +kernel
theorem dX10_out_17 : decode cX10_out 17 = .ok (.getfield 66, 3) := by decide +kernel
theorem dX10_out_20 : decode cX10_out 20 = .ok (.getfield 267, 3) := by decide +kernel
theorem dX10_out_23 : decode cX10_out 23 = .ok (.iload_n 1, 1) := by decide +kernel
theorem dX10_out_24 : decode cX10_out 24 = .ok (.iaload, 1) := by decide +kernel
theorem dX10_out_25 : decode cX10_out 25 = .ok (.ldc_w 291, 3) := by decide +kernel
theorem dX10_out_28 : decode cX10_out 28 = .ok (.if_icmp .ne 7, 3) := by decide +kernel
theorem dX10_out_31 : decode cX10_out 31 = .ok (.iconst (-1), 1) := by decide +kernel
theorem dX10_out_32 : decode cX10_out 32 = .ok (.goto 12, 3) := by decide +kernel
theorem dX10_out_35 : decode cX10_out 35 = .ok (.aload_n 0, 1) := by decide +kernel
theorem dX10_out_36 : decode cX10_out 36 = .ok (.getfield 66, 3) := by decide +kernel
theorem dX10_out_39 : decode cX10_out 39 = .ok (.getfield 267, 3) := by decide +kernel
theorem dX10_out_42 : decode cX10_out 42 = .ok (.iload_n 1, 1) := by decide +kernel
theorem dX10_out_43 : decode cX10_out 43 = .ok (.iaload, 1) := by decide +kernel
theorem dX10_out_44 : decode cX10_out 44 = .ok (.ireturn, 1) := by decide +kernel
theorem dX10_round_0 : decode cX10_round 0 = .ok (.aload_n 0, 1) := by decide +kernel
theorem dX10_round_1 : decode cX10_round 1 = .ok (.iload_n 1, 1) := by decide +kernel
theorem dX10_round_2 : decode cX10_round 2 = .ok (.invokevirtual 225, 3) := by decide +kernel
theorem dX10_round_5 : decode cX10_round 5 = .ok (.aload_n 0, 1) := by decide +kernel
theorem dX10_round_6 : decode cX10_round 6 = .ok (.iload_n 2, 1) := by decide +kernel
theorem dX10_round_7 : decode cX10_round 7 = .ok (.invokevirtual 225, 3) := by decide +kernel
theorem dX10_round_10 : decode cX10_round 10 = .ok (.aload_n 0, 1) := by decide +kernel
theorem dX10_round_11 : decode cX10_round 11 = .ok (.iload_n 3, 1) := by decide +kernel
theorem dX10_round_12 : decode cX10_round 12 = .ok (.iconst 0, 1) := by decide +kernel
theorem dX10_round_13 : decode cX10_round 13 = .ok (.iconst 2, 1) := by decide +kernel
theorem dX10_round_14 : decode cX10_round 14 = .ok (.invokevirtual 103, 3) := by decide +kernel
theorem dX10_round_17 : decode cX10_round 17 = .ok (.aload_n 0, 1) := by decide +kernel
theorem dX10_round_18 : decode cX10_round 18 = .ok (.getfield 73, 3) := by decide +kernel
theorem dX10_round_21 : decode cX10_round 21 = .ok (.aload_n 0, 1) := by decide +kernel
theorem dX10_round_22 : decode cX10_round 22 = .ok (.getfield 19, 3) := by decide +kernel
theorem dX10_round_25 : decode cX10_round 25 = .ok (.aload_n 0, 1) := by decide +kernel
theorem dX10_round_26 : decode cX10_round 26 = .ok (.getfield 29, 3) := by decide +kernel
theorem dX10_round_29 : decode cX10_round 29 = .ok (.iload_n 2, 1) := by decide +kernel
theorem dX10_round_30 : decode cX10_round 30 = .ok (.invokevirtual 292, 3) := by decide +kernel
theorem dX10_round_33 : decode cX10_round 33 = .ok (.iload_n 3, 1) := by decide +kernel
theorem dX10_round_34 : decode cX10_round 34 = .ok (.lookupswitch 44 #[(0, 26), (1, 35)], 26) := by decide +kernel
theorem dX10_round_60 : decode cX10_round 60 = .ok (.aload_n 0, 1) := by decide +kernel
theorem dX10_round_61 : decode cX10_round 61 = .ok (.getfield 73, 3) := by decide +kernel
theorem dX10_round_64 : decode cX10_round 64 = .ok (.iload_n 1, 1) := by decide +kernel
theorem dX10_round_65 : decode cX10_round 65 = .ok (.invokevirtual 296, 3) := by decide +kernel
theorem dX10_round_68 : decode cX10_round 68 = .ok (.ireturn, 1) := by decide +kernel
theorem dX10_round_69 : decode cX10_round 69 = .ok (.aload_n 0, 1) := by decide +kernel
theorem dX10_round_70 : decode cX10_round 70 = .ok (.getfield 73, 3) := by decide +kernel
theorem dX10_round_73 : decode cX10_round 73 = .ok (.iload_n 1, 1) := by decide +kernel
theorem dX10_round_74 : decode cX10_round 74 = .ok (.invokevirtual 297, 3) := by decide +kernel
theorem dX10_round_77 : decode cX10_round 77 = .ok (.ireturn, 1) := by decide +kernel
theorem dX10_round_78 : decode cX10_round 78 = .ok (.aload_n 0, 1) := by decide +kernel
theorem dX10_round_79 : decode cX10_round 79 = .ok (.getfield 73, 3) := by decide +kernel
theorem dX10_round_82 : decode cX10_round 82 = .ok (.iload_n 1, 1) := by decide +kernel
theorem dX10_round_83 : decode cX10_round 83 = .ok (.iload_n 2, 1) := by decide +kernel
theorem dX10_round_84 : decode cX10_round 84 = .ok (.invokevirtual 300, 3) := by decide +kernel
theorem dX10_round_87 : decode cX10_round 87 = .ok (.ireturn, 1) := by decide +kernel
theorem dX10_buy_0 : decode cX10_buy 0 = .ok (.aload_n 0, 1) := by decide +kernel
theorem dX10_buy_1 : decode cX10_buy 1 = .ok (.iload_n 1, 1) := by decide +kernel
theorem dX10_buy_2 : decode cX10_buy 2 = .ok (.iconst 0, 1) := by decide +kernel
theorem dX10_buy_3 : decode cX10_buy 3 = .ok (.sipush 9999, 3) := by decide +kernel
theorem dX10_buy_6 : decode cX10_buy 6 = .ok (.invokevirtual 103, 3) := by decide +kernel
theorem dX10_buy_9 : decode cX10_buy 9 = .ok (.aload_n 0, 1) := by decide +kernel
theorem dX10_buy_10 : decode cX10_buy 10 = .ok (.iload_n 2, 1) := by decide +kernel
theorem dX10_buy_11 : decode cX10_buy 11 = .ok (.iconst 0, 1) := by decide +kernel
theorem dX10_buy_12 : decode cX10_buy 12 = .ok (.iconst 1, 1) := by decide +kernel
theorem dX10_buy_13 : decode cX10_buy 13 = .ok (.invokevirtual 103, 3) := by decide +kernel
theorem dX10_buy_16 : decode cX10_buy 16 = .ok (.aload_n 0, 1) := by decide +kernel
theorem dX10_buy_17 : decode cX10_buy 17 = .ok (.getfield 19, 3) := by decide +kernel
theorem dX10_buy_20 : decode cX10_buy 20 = .ok (.aload_n 0, 1) := by decide +kernel
theorem dX10_buy_21 : decode cX10_buy 21 = .ok (.getfield 29, 3) := by decide +kernel
theorem dX10_buy_24 : decode cX10_buy 24 = .ok (.iconst 1, 1) := by decide +kernel
theorem dX10_buy_25 : decode cX10_buy 25 = .ok (.aload_n 0, 1) := by decide +kernel
theorem dX10_buy_26 : decode cX10_buy 26 = .ok (.getfield 59, 3) := by decide +kernel
theorem dX10_buy_29 : decode cX10_buy 29 = .ok (.invokevirtual 257, 3) := by decide +kernel
theorem dX10_buy_32 : decode cX10_buy 32 = .ok (.iconst 0, 1) := by decide +kernel
theorem dX10_buy_33 : decode cX10_buy 33 = .ok (.istore_n 3, 1) := by decide +kernel
theorem dX10_buy_34 : decode cX10_buy 34 = .ok (.iconst 0, 1) := by decide +kernel
theorem dX10_buy_35 : decode cX10_buy 35 = .ok (.istore 4, 2) := by decide +kernel
theorem dX10_buy_37 : decode cX10_buy 37 = .ok (.iconst 1, 1) := by decide +kernel
theorem dX10_buy_38 : decode cX10_buy 38 = .ok (.istore 5, 2) := by decide +kernel
theorem dX10_buy_40 : decode cX10_buy 40 = .ok (.iload 5, 2) := by decide +kernel
theorem dX10_buy_42 : decode cX10_buy 42 = .ok (.iconst 1, 1) := by decide +kernel
theorem dX10_buy_43 : decode cX10_buy 43 = .ok (.aload_n 0, 1) := by decide +kernel
theorem dX10_buy_44 : decode cX10_buy 44 = .ok (.getfield 39, 3) := by decide +kernel
theorem dX10_buy_47 : decode cX10_buy 47 = .ok (.getfield 166, 3) := by decide +kernel
theorem dX10_buy_50 : decode cX10_buy 50 = .ok (.ishl, 1) := by decide +kernel
theorem dX10_buy_51 : decode cX10_buy 51 = .ok (.if_icmp .ge 55, 3) := by decide +kernel
theorem dX10_buy_54 : decode cX10_buy 54 = .ok (.aload_n 0, 1) := by decide +kernel
theorem dX10_buy_55 : decode cX10_buy 55 = .ok (.getfield 39, 3) := by decide +kernel
theorem dX10_buy_58 : decode cX10_buy 58 = .ok (.iload 5, 2) := by decide +kernel
theorem dX10_buy_60 : decode cX10_buy 60 = .ok (.aload_n 0, 1) := by decide +kernel
theorem dX10_buy_61 : decode cX10_buy 61 = .ok (.getfield 19, 3) := by decide +kernel
theorem dX10_buy_64 : decode cX10_buy 64 = .ok (.iload_n 1, 1) := by decide +kernel
theorem dX10_buy_65 : decode cX10_buy 65 = .ok (.invokevirtual 303, 3) := by decide +kernel
theorem dX10_buy_68 : decode cX10_buy 68 = .ok (.ifCond .eq 32, 3) := by decide +kernel
theorem dX10_buy_71 : decode cX10_buy 71 = .ok (.aload_n 0, 1) := by decide +kernel
theorem dX10_buy_72 : decode cX10_buy 72 = .ok (.getfield 39, 3) := by decide +kernel
theorem dX10_buy_75 : decode cX10_buy 75 = .ok (.iload 5, 2) := by decide +kernel
theorem dX10_buy_77 : decode cX10_buy 77 = .ok (.aload_n 0, 1) := by decide +kernel
theorem dX10_buy_78 : decode cX10_buy 78 = .ok (.getfield 59, 3) := by decide +kernel
theorem dX10_buy_81 : decode cX10_buy 81 = .ok (.invokevirtual 307, 3) := by decide +kernel
theorem dX10_buy_84 : decode cX10_buy 84 = .ok (.istore 6, 2) := by decide +kernel
theorem dX10_buy_86 : decode cX10_buy 86 = .ok (.iload 6, 2) := by decide +kernel
theorem dX10_buy_88 : decode cX10_buy 88 = .ok (.iload 4, 2) := by decide +kernel
theorem dX10_buy_90 : decode cX10_buy 90 = .ok (.if_icmp .le 10, 3) := by decide +kernel
theorem dX10_buy_93 : decode cX10_buy 93 = .ok (.iload 6, 2) := by decide +kernel
theorem dX10_buy_95 : decode cX10_buy 95 = .ok (.istore 4, 2) := by decide +kernel
theorem dX10_buy_97 : decode cX10_buy 97 = .ok (.iload 5, 2) := by decide +kernel
theorem dX10_buy_99 : decode cX10_buy 99 = .ok (.istore_n 3, 1) := by decide +kernel
theorem dX10_buy_100 : decode cX10_buy 100 = .ok (.iinc 5 1, 3) := by decide +kernel
theorem dX10_buy_103 : decode cX10_buy 103 = .ok (.goto (-63), 3) := by decide +kernel
theorem dX10_buy_106 : decode cX10_buy 106 = .ok (.iload_n 2, 1) := by decide +kernel
theorem dX10_buy_107 : decode cX10_buy 107 = .ok (.ifCond .ne 8, 3) := by decide +kernel
theorem dX10_buy_110 : decode cX10_buy 110 = .ok (.iload 4, 2) := by decide +kernel
theorem dX10_buy_112 : decode cX10_buy 112 = .ok (.goto 4, 3) := by decide +kernel
theorem dX10_buy_115 : decode cX10_buy 115 = .ok (.iload_n 3, 1) := by decide +kernel
theorem dX10_buy_116 : decode cX10_buy 116 = .ok (.ireturn, 1) := by decide +kernel
theorem dX10_meant_0 : decode cX10_meant 0 = .ok (.aload_n 0, 1) := by decide +kernel
theorem dX10_meant_1 : decode cX10_meant 1 = .ok (.iload_n 1, 1) := by decide +kernel
theorem dX10_meant_2 : decode cX10_meant 2 = .ok (.iload_n 2, 1) := by decide +kernel
theorem dX10_meant_3 : decode cX10_meant 3 = .ok (.iload_n 3, 1) := by decide +kernel
theorem dX10_meant_4 : decode cX10_meant 4 = .ok (.invokevirtual 311, 3) := by decide +kernel
theorem dX10_meant_7 : decode cX10_meant 7 = .ok (.iload_n 3, 1) := by decide +kernel
theorem dX10_meant_8 : decode cX10_meant 8 = .ok (.ifCond .ne 13, 3) := by decide +kernel
theorem dX10_meant_11 : decode cX10_meant 11 = .ok (.aload_n 0, 1) := by decide +kernel
theorem dX10_meant_12 : decode cX10_meant 12 = .ok (.getfield 80, 3) := by decide +kernel
theorem dX10_meant_15 : decode cX10_meant 15 = .ok (.getfield 314, 3) := by decide +kernel
theorem dX10_meant_18 : decode cX10_meant 18 = .ok (.goto 10, 3) := by decide +kernel
theorem dX10_meant_21 : decode cX10_meant 21 = .ok (.aload_n 0, 1) := by decide +kernel
theorem dX10_meant_22 : decode cX10_meant 22 = .ok (.getfield 80, 3) := by decide +kernel
theorem dX10_meant_25 : decode cX10_meant 25 = .ok (.getfield 317, 3) := by decide +kernel
theorem dX10_meant_28 : decode cX10_meant 28 = .ok (.ireturn, 1) := by decide +kernel
theorem dX10_look_0 : decode cX10_look 0 = .ok (.aload_n 0, 1) := by decide +kernel
theorem dX10_look_1 : decode cX10_look 1 = .ok (.iload_n 1, 1) := by decide +kernel
theorem dX10_look_2 : decode cX10_look 2 = .ok (.iload_n 2, 1) := by decide +kernel
theorem dX10_look_3 : decode cX10_look 3 = .ok (.iload_n 3, 1) := by decide +kernel
theorem dX10_look_4 : decode cX10_look 4 = .ok (.invokevirtual 311, 3) := by decide +kernel
theorem dX10_look_7 : decode cX10_look 7 = .ok (.aload_n 0, 1) := by decide +kernel
theorem dX10_look_8 : decode cX10_look 8 = .ok (.getfield 80, 3) := by decide +kernel
theorem dX10_look_11 : decode cX10_look 11 = .ok (.invokevirtual 318, 3) := by decide +kernel
theorem dX10_look_14 : decode cX10_look 14 = .ok (.istore 4, 2) := by decide +kernel
theorem dX10_look_16 : decode cX10_look 16 = .ok (.iload_n 3, 1) := by decide +kernel
theorem dX10_look_17 : decode cX10_look 17 = .ok (.ifCond .ne 8, 3) := by decide +kernel
theorem dX10_look_20 : decode cX10_look 20 = .ok (.iload 4, 2) := by decide +kernel
theorem dX10_look_22 : decode cX10_look 22 = .ok (.goto 12, 3) := by decide +kernel
theorem dX10_look_25 : decode cX10_look 25 = .ok (.aload_n 0, 1) := by decide +kernel
theorem dX10_look_26 : decode cX10_look 26 = .ok (.getfield 80, 3) := by decide +kernel
theorem dX10_look_29 : decode cX10_look 29 = .ok (.iload 4, 2) := by decide +kernel
theorem dX10_look_31 : decode cX10_look 31 = .ok (.invokevirtual 321, 3) := by decide +kernel
theorem dX10_look_34 : decode cX10_look 34 = .ok (.ireturn, 1) := by decide +kernel
theorem dX10_lets_0 : decode cX10_lets 0 = .ok (.aload_n 0, 1) := by decide +kernel
theorem dX10_lets_1 : decode cX10_lets 1 = .ok (.iload_n 1, 1) := by decide +kernel
theorem dX10_lets_2 : decode cX10_lets 2 = .ok (.iconst 0, 1) := by decide +kernel
theorem dX10_lets_3 : decode cX10_lets 3 = .ok (.bipush 20, 2) := by decide +kernel
theorem dX10_lets_5 : decode cX10_lets 5 = .ok (.invokevirtual 103, 3) := by decide +kernel
theorem dX10_lets_8 : decode cX10_lets 8 = .ok (.aload_n 0, 1) := by decide +kernel
theorem dX10_lets_9 : decode cX10_lets 9 = .ok (.iload_n 2, 1) := by decide +kernel
theorem dX10_lets_10 : decode cX10_lets 10 = .ok (.iconst 0, 1) := by decide +kernel
theorem dX10_lets_11 : decode cX10_lets 11 = .ok (.iconst 2, 1) := by decide +kernel
theorem dX10_lets_12 : decode cX10_lets 12 = .ok (.invokevirtual 103, 3) := by decide +kernel
theorem dX10_lets_15 : decode cX10_lets 15 = .ok (.iconst 0, 1) := by decide +kernel
theorem dX10_lets_16 : decode cX10_lets 16 = .ok (.istore_n 3, 1) := by decide +kernel
theorem dX10_lets_17 : decode cX10_lets 17 = .ok (.iconst (-1), 1) := by decide +kernel
theorem dX10_lets_18 : decode cX10_lets 18 = .ok (.istore 4, 2) := by decide +kernel
theorem dX10_lets_20 : decode cX10_lets 20 = .ok (.iconst 0, 1) := by decide +kernel
theorem dX10_lets_21 : decode cX10_lets 21 = .ok (.istore 5, 2) := by decide +kernel
theorem dX10_lets_23 : decode cX10_lets 23 = .ok (.iconst 0, 1) := by decide +kernel
theorem dX10_lets_24 : decode cX10_lets 24 = .ok (.istore 6, 2) := by decide +kernel
theorem dX10_lets_26 : decode cX10_lets 26 = .ok (.iload 6, 2) := by decide +kernel
theorem dX10_lets_28 : decode cX10_lets 28 = .ok (.iload_n 1, 1) := by decide +kernel
theorem dX10_lets_29 : decode cX10_lets 29 = .ok (.if_icmp .gt 83, 3) := by decide +kernel
theorem dX10_lets_32 : decode cX10_lets 32 = .ok (.iconst 0, 1) := by decide +kernel
theorem dX10_lets_33 : decode cX10_lets 33 = .ok (.istore 7, 2) := by decide +kernel
theorem dX10_lets_35 : decode cX10_lets 35 = .ok (.iload 7, 2) := by decide +kernel
theorem dX10_lets_37 : decode cX10_lets 37 = .ok (.iload_n 1, 1) := by decide +kernel
theorem dX10_lets_38 : decode cX10_lets 38 = .ok (.if_icmp .gt 68, 3) := by decide +kernel
theorem dX10_lets_41 : decode cX10_lets 41 = .ok (.iload 6, 2) := by decide +kernel
theorem dX10_lets_43 : decode cX10_lets 43 = .ok (.iload 7, 2) := by decide +kernel
theorem dX10_lets_45 : decode cX10_lets 45 = .ok (.iload_n 1, 1) := by decide +kernel
theorem dX10_lets_46 : decode cX10_lets 46 = .ok (.invokestatic 324, 3) := by decide +kernel
theorem dX10_lets_49 : decode cX10_lets 49 = .ok (.ifCond .eq 51, 3) := by decide +kernel
theorem dX10_lets_52 : decode cX10_lets 52 = .ok (.iload 7, 2) := by decide +kernel
theorem dX10_lets_54 : decode cX10_lets 54 = .ok (.iload 6, 2) := by decide +kernel
theorem dX10_lets_56 : decode cX10_lets 56 = .ok (.iload_n 1, 1) := by decide +kernel
theorem dX10_lets_57 : decode cX10_lets 57 = .ok (.invokestatic 324, 3) := by decide +kernel
theorem dX10_lets_60 : decode cX10_lets 60 = .ok (.ifCond .ne 6, 3) := by decide +kernel
theorem dX10_lets_63 : decode cX10_lets 63 = .ok (.goto 37, 3) := by decide +kernel
theorem dX10_lets_66 : decode cX10_lets 66 = .ok (.iload_n 3, 1) := by decide +kernel
theorem dX10_lets_67 : decode cX10_lets 67 = .ok (.ifCond .ne 30, 3) := by decide +kernel
theorem dX10_lets_70 : decode cX10_lets 70 = .ok (.bipush 100, 2) := by decide +kernel
theorem dX10_lets_72 : decode cX10_lets 72 = .ok (.iload 6, 2) := by decide +kernel
theorem dX10_lets_74 : decode cX10_lets 74 = .ok (.imul, 1) := by decide +kernel
theorem dX10_lets_75 : decode cX10_lets 75 = .ok (.iload 7, 2) := by decide +kernel
theorem dX10_lets_77 : decode cX10_lets 77 = .ok (.iadd, 1) := by decide +kernel
theorem dX10_lets_78 : decode cX10_lets 78 = .ok (.istore 4, 2) := by decide +kernel
theorem dX10_lets_80 : decode cX10_lets 80 = .ok (.iload 6, 2) := by decide +kernel
theorem dX10_lets_82 : decode cX10_lets 82 = .ok (.iload 7, 2) := by decide +kernel
theorem dX10_lets_84 : decode cX10_lets 84 = .ok (.invokestatic 328, 3) := by decide +kernel
theorem dX10_lets_87 : decode cX10_lets 87 = .ok (.iload 7, 2) := by decide +kernel
theorem dX10_lets_89 : decode cX10_lets 89 = .ok (.iload 6, 2) := by decide +kernel
theorem dX10_lets_91 : decode cX10_lets 91 = .ok (.invokestatic 328, 3) := by decide +kernel
theorem dX10_lets_94 : decode cX10_lets 94 = .ok (.iadd, 1) := by decide +kernel
theorem dX10_lets_95 : decode cX10_lets 95 = .ok (.istore 5, 2) := by decide +kernel
theorem dX10_lets_97 : decode cX10_lets 97 = .ok (.iinc 3 1, 3) := by decide +kernel
theorem dX10_lets_100 : decode cX10_lets 100 = .ok (.iinc 7 1, 3) := by decide +kernel
theorem dX10_lets_103 : decode cX10_lets 103 = .ok (.goto (-68), 3) := by decide +kernel
theorem dX10_lets_106 : decode cX10_lets 106 = .ok (.iinc 6 1, 3) := by decide +kernel
theorem dX10_lets_109 : decode cX10_lets 109 = .ok (.goto (-83), 3) := by decide +kernel
theorem dX10_lets_112 : decode cX10_lets 112 = .ok (.iload_n 2, 1) := by decide +kernel
theorem dX10_lets_113 : decode cX10_lets 113 = .ok (.lookupswitch 32 #[(0, 27), (1, 29)], 27) := by decide +kernel
theorem dX10_lets_140 : decode cX10_lets 140 = .ok (.iload_n 3, 1) := by decide +kernel
theorem dX10_lets_141 : decode cX10_lets 141 = .ok (.ireturn, 1) := by decide +kernel
theorem dX10_lets_142 : decode cX10_lets 142 = .ok (.iload 4, 2) := by decide +kernel
theorem dX10_lets_144 : decode cX10_lets 144 = .ok (.ireturn, 1) := by decide +kernel
theorem dX10_lets_145 : decode cX10_lets 145 = .ok (.iload 5, 2) := by decide +kernel
theorem dX10_lets_147 : decode cX10_lets 147 = .ok (.ireturn, 1) := by decide +kernel
theorem dX10_year_0 : decode cX10_year 0 = .ok (.aload_n 0, 1) := by decide +kernel
theorem dX10_year_1 : decode cX10_year 1 = .ok (.iload_n 2, 1) := by decide +kernel
theorem dX10_year_2 : decode cX10_year 2 = .ok (.iconst 1, 1) := by decide +kernel
theorem dX10_year_3 : decode cX10_year 3 = .ok (.bipush 96, 2) := by decide +kernel
theorem dX10_year_5 : decode cX10_year 5 = .ok (.invokevirtual 103, 3) := by decide +kernel
theorem dX10_year_8 : decode cX10_year 8 = .ok (.aload_n 0, 1) := by decide +kernel
theorem dX10_year_9 : decode cX10_year 9 = .ok (.iload_n 3, 1) := by decide +kernel
theorem dX10_year_10 : decode cX10_year 10 = .ok (.iconst 0, 1) := by decide +kernel
theorem dX10_year_11 : decode cX10_year 11 = .ok (.iconst 3, 1) := by decide +kernel
theorem dX10_year_12 : decode cX10_year 12 = .ok (.invokevirtual 103, 3) := by decide +kernel
theorem dX10_year_15 : decode cX10_year 15 = .ok (.aload_n 0, 1) := by decide +kernel
theorem dX10_year_16 : decode cX10_year 16 = .ok (.getfield 87, 3) := by decide +kernel
theorem dX10_year_19 : decode cX10_year 19 = .ok (.aload_n 0, 1) := by decide +kernel
theorem dX10_year_20 : decode cX10_year 20 = .ok (.getfield 19, 3) := by decide +kernel
theorem dX10_year_23 : decode cX10_year 23 = .ok (.aload_n 0, 1) := by decide +kernel
theorem dX10_year_24 : decode cX10_year 24 = .ok (.getfield 29, 3) := by decide +kernel
theorem dX10_year_27 : decode cX10_year 27 = .ok (.iload_n 1, 1) := by decide +kernel
theorem dX10_year_28 : decode cX10_year 28 = .ok (.iload_n 2, 1) := by decide +kernel
theorem dX10_year_29 : decode cX10_year 29 = .ok (.invokevirtual 331, 3) := by decide +kernel
theorem dX10_year_32 : decode cX10_year 32 = .ok (.iload_n 3, 1) := by decide +kernel
theorem dX10_year_33 : decode cX10_year 33 = .ok (.tableswitch 57 0 2 #[27, 35, 46], 27) := by decide +kernel
theorem dX10_year_60 : decode cX10_year 60 = .ok (.aload_n 0, 1) := by decide +kernel
theorem dX10_year_61 : decode cX10_year 61 = .ok (.getfield 87, 3) := by decide +kernel
theorem dX10_year_64 : decode cX10_year 64 = .ok (.getfield 335, 3) := by decide +kernel
theorem dX10_year_67 : decode cX10_year 67 = .ok (.ireturn, 1) := by decide +kernel
theorem dX10_year_68 : decode cX10_year 68 = .ok (.aload_n 0, 1) := by decide +kernel
theorem dX10_year_69 : decode cX10_year 69 = .ok (.getfield 87, 3) := by decide +kernel
theorem dX10_year_72 : decode cX10_year 72 = .ok (.getfield 336, 3) := by decide +kernel
theorem dX10_year_75 : decode cX10_year 75 = .ok (.invokevirtual 203, 3) := by decide +kernel
theorem dX10_year_78 : decode cX10_year 78 = .ok (.ireturn, 1) := by decide +kernel
theorem dX10_year_79 : decode cX10_year 79 = .ok (.aload_n 0, 1) := by decide +kernel
theorem dX10_year_80 : decode cX10_year 80 = .ok (.getfield 87, 3) := by decide +kernel
theorem dX10_year_83 : decode cX10_year 83 = .ok (.getfield 336, 3) := by decide +kernel
theorem dX10_year_86 : decode cX10_year 86 = .ok (.invokevirtual 337, 3) := by decide +kernel
theorem dX10_year_89 : decode cX10_year 89 = .ok (.ireturn, 1) := by decide +kernel
theorem dX10_year_90 : decode cX10_year 90 = .ok (.aload_n 0, 1) := by decide +kernel
theorem dX10_year_91 : decode cX10_year 91 = .ok (.getfield 87, 3) := by decide +kernel
theorem dX10_year_94 : decode cX10_year 94 = .ok (.invokevirtual 340, 3) := by decide +kernel
theorem dX10_year_97 : decode cX10_year 97 = .ok (.ireturn, 1) := by decide +kernel
theorem dX10_span_0 : decode cX10_span 0 = .ok (.aload_n 0, 1) := by decide +kernel
theorem dX10_span_1 : decode cX10_span 1 = .ok (.iload_n 2, 1) := by decide +kernel
theorem dX10_span_2 : decode cX10_span 2 = .ok (.iconst 1, 1) := by decide +kernel
theorem dX10_span_3 : decode cX10_span 3 = .ok (.bipush 20, 2) := by decide +kernel
theorem dX10_span_5 : decode cX10_span 5 = .ok (.invokevirtual 103, 3) := by decide +kernel
theorem dX10_span_8 : decode cX10_span 8 = .ok (.aload_n 0, 1) := by decide +kernel
theorem dX10_span_9 : decode cX10_span 9 = .ok (.iload_n 3, 1) := by decide +kernel
theorem dX10_span_10 : decode cX10_span 10 = .ok (.iconst 1, 1) := by decide +kernel
theorem dX10_span_11 : decode cX10_span 11 = .ok (.bipush 96, 2) := by decide +kernel
theorem dX10_span_13 : decode cX10_span 13 = .ok (.invokevirtual 103, 3) := by decide +kernel
theorem dX10_span_16 : decode cX10_span 16 = .ok (.aload_n 0, 1) := by decide +kernel
theorem dX10_span_17 : decode cX10_span 17 = .ok (.iload 4, 2) := by decide +kernel
theorem dX10_span_19 : decode cX10_span 19 = .ok (.iconst 0, 1) := by decide +kernel
theorem dX10_span_20 : decode cX10_span 20 = .ok (.iconst 2, 1) := by decide +kernel
theorem dX10_span_21 : decode cX10_span 21 = .ok (.invokevirtual 103, 3) := by decide +kernel
theorem dX10_span_24 : decode cX10_span 24 = .ok (.bipush 96, 2) := by decide +kernel
theorem dX10_span_26 : decode cX10_span 26 = .ok (.istore 5, 2) := by decide +kernel
theorem dX10_span_28 : decode cX10_span 28 = .ok (.iconst 0, 1) := by decide +kernel
theorem dX10_span_29 : decode cX10_span 29 = .ok (.istore 6, 2) := by decide +kernel
theorem dX10_span_31 : decode cX10_span 31 = .ok (.iconst 0, 1) := by decide +kernel
theorem dX10_span_32 : decode cX10_span 32 = .ok (.istore 7, 2) := by decide +kernel
theorem dX10_span_34 : decode cX10_span 34 = .ok (.iconst 0, 1) := by decide +kernel
theorem dX10_span_35 : decode cX10_span 35 = .ok (.istore 8, 2) := by decide +kernel
theorem dX10_span_37 : decode cX10_span 37 = .ok (.iload 8, 2) := by decide +kernel
theorem dX10_span_39 : decode cX10_span 39 = .ok (.iload_n 2, 1) := by decide +kernel
theorem dX10_span_40 : decode cX10_span 40 = .ok (.if_icmp .ge 70, 3) := by decide +kernel
theorem dX10_span_43 : decode cX10_span 43 = .ok (.aload_n 0, 1) := by decide +kernel
theorem dX10_span_44 : decode cX10_span 44 = .ok (.getfield 87, 3) := by decide +kernel
theorem dX10_span_47 : decode cX10_span 47 = .ok (.aload_n 0, 1) := by decide +kernel
theorem dX10_span_48 : decode cX10_span 48 = .ok (.getfield 19, 3) := by decide +kernel
theorem dX10_span_51 : decode cX10_span 51 = .ok (.aload_n 0, 1) := by decide +kernel
theorem dX10_span_52 : decode cX10_span 52 = .ok (.getfield 29, 3) := by decide +kernel
theorem dX10_span_55 : decode cX10_span 55 = .ok (.iload_n 1, 1) := by decide +kernel
theorem dX10_span_56 : decode cX10_span 56 = .ok (.iload 8, 2) := by decide +kernel
theorem dX10_span_58 : decode cX10_span 58 = .ok (.iadd, 1) := by decide +kernel
theorem dX10_span_59 : decode cX10_span 59 = .ok (.iload_n 3, 1) := by decide +kernel
theorem dX10_span_60 : decode cX10_span 60 = .ok (.invokevirtual 331, 3) := by decide +kernel
theorem dX10_span_63 : decode cX10_span 63 = .ok (.iload 5, 2) := by decide +kernel
theorem dX10_span_65 : decode cX10_span 65 = .ok (.aload_n 0, 1) := by decide +kernel
theorem dX10_span_66 : decode cX10_span 66 = .ok (.getfield 87, 3) := by decide +kernel
theorem dX10_span_69 : decode cX10_span 69 = .ok (.getfield 335, 3) := by decide +kernel
theorem dX10_span_72 : decode cX10_span 72 = .ok (.invokestatic 135, 3) := by decide +kernel
theorem dX10_span_75 : decode cX10_span 75 = .ok (.istore 5, 2) := by decide +kernel
theorem dX10_span_77 : decode cX10_span 77 = .ok (.iload 6, 2) := by decide +kernel
theorem dX10_span_79 : decode cX10_span 79 = .ok (.aload_n 0, 1) := by decide +kernel
theorem dX10_span_80 : decode cX10_span 80 = .ok (.getfield 87, 3) := by decide +kernel
theorem dX10_span_83 : decode cX10_span 83 = .ok (.getfield 335, 3) := by decide +kernel
theorem dX10_span_86 : decode cX10_span 86 = .ok (.invokestatic 343, 3) := by decide +kernel
theorem dX10_span_89 : decode cX10_span 89 = .ok (.istore 6, 2) := by decide +kernel
theorem dX10_span_91 : decode cX10_span 91 = .ok (.aload_n 0, 1) := by decide +kernel
theorem dX10_span_92 : decode cX10_span 92 = .ok (.getfield 87, 3) := by decide +kernel
theorem dX10_span_95 : decode cX10_span 95 = .ok (.getfield 346, 3) := by decide +kernel
theorem dX10_span_98 : decode cX10_span 98 = .ok (.ifCond .ne 6, 3) := by decide +kernel
theorem dX10_span_101 : decode cX10_span 101 = .ok (.iinc 7 1, 3) := by decide +kernel
theorem dX10_span_104 : decode cX10_span 104 = .ok (.iinc 8 1, 3) := by decide +kernel
theorem dX10_span_107 : decode cX10_span 107 = .ok (.goto (-70), 3) := by decide +kernel
theorem dX10_span_110 : decode cX10_span 110 = .ok (.iload 4, 2) := by decide +kernel
theorem dX10_span_112 : decode cX10_span 112 = .ok (.lookupswitch 34 #[(0, 28), (1, 31)], 28) := by decide +kernel
theorem dX10_span_140 : decode cX10_span 140 = .ok (.iload 5, 2) := by decide +kernel
theorem dX10_span_142 : decode cX10_span 142 = .ok (.ireturn, 1) := by decide +kernel
theorem dX10_span_143 : decode cX10_span 143 = .ok (.iload 6, 2) := by decide +kernel
theorem dX10_span_145 : decode cX10_span 145 = .ok (.ireturn, 1) := by decide +kernel
theorem dX10_span_146 : decode cX10_span 146 = .ok (.iload 7, 2) := by decide +kernel
theorem dX10_span_148 : decode cX10_span 148 = .ok (.ireturn, 1) := by decide +kernel
theorem dX10_needPerson_0 : decode cX10_needPerson 0 = .ok (.iload_n 1, 1) := by decide +kernel
theorem dX10_needPerson_1 : decode cX10_needPerson 1 = .ok (.ifCond .lt 14, 3) := by decide +kernel
theorem dX10_needPerson_4 : decode cX10_needPerson 4 = .ok (.iload_n 1, 1) := by decide +kernel
theorem dX10_needPerson_5 : decode cX10_needPerson 5 = .ok (.aload_n 0, 1) := by decide +kernel
theorem dX10_needPerson_6 : decode cX10_needPerson 6 = .ok (.getfield 19, 3) := by decide +kernel
theorem dX10_needPerson_9 : decode cX10_needPerson 9 = .ok (.getfield 132, 3) := by decide +kernel
theorem dX10_needPerson_12 : decode cX10_needPerson 12 = .ok (.if_icmp .lt 24, 3) := by decide +kernel
theorem dX10_needPerson_15 : decode cX10_needPerson 15 = .ok (.aload_n 0, 1) := by decide +kernel
theorem dX10_needPerson_16 : decode cX10_needPerson 16 = .ok (.dup, 1) := by decide +kernel
theorem dX10_needPerson_17 : decode cX10_needPerson 17 = .ok (.getfield 185, 3) := by decide +kernel
theorem dX10_needPerson_20 : decode cX10_needPerson 20 = .ok (.iconst 1, 1) := by decide +kernel
theorem dX10_needPerson_21 : decode cX10_needPerson 21 = .ok (.iadd, 1) := by decide +kernel
theorem dX10_needPerson_22 : decode cX10_needPerson 22 = .ok (.putfield 185, 3) := by decide +kernel
theorem dX10_needPerson_25 : decode cX10_needPerson 25 = .ok (.new 347, 3) := by decide +kernel
theorem dX10_needPerson_28 : decode cX10_needPerson 28 = .ok (.dup, 1) := by decide +kernel
theorem dX10_needPerson_29 : decode cX10_needPerson 29 = .ok (.ldc_w 349, 3) := by decide +kernel
theorem dX10_needPerson_32 : decode cX10_needPerson 32 = .ok (.invokespecial 351, 3) := by decide +kernel
theorem dX10_needPerson_35 : decode cX10_needPerson 35 = .ok (.athrow, 1) := by decide +kernel
theorem dX10_needPerson_36 : decode cX10_needPerson 36 = .ok (.return_, 1) := by decide +kernel
theorem dX10_needNumber_0 : decode cX10_needNumber 0 = .ok (.iload_n 1, 1) := by decide +kernel
theorem dX10_needNumber_1 : decode cX10_needNumber 1 = .ok (.ifCond .lt 9, 3) := by decide +kernel
theorem dX10_needNumber_4 : decode cX10_needNumber 4 = .ok (.iload_n 1, 1) := by decide +kernel
theorem dX10_needNumber_5 : decode cX10_needNumber 5 = .ok (.bipush 60, 2) := by decide +kernel
theorem dX10_needNumber_7 : decode cX10_needNumber 7 = .ok (.if_icmp .le 24, 3) := by decide +kernel
theorem dX10_needNumber_10 : decode cX10_needNumber 10 = .ok (.aload_n 0, 1) := by decide +kernel
theorem dX10_needNumber_11 : decode cX10_needNumber 11 = .ok (.dup, 1) := by decide +kernel
theorem dX10_needNumber_12 : decode cX10_needNumber 12 = .ok (.getfield 185, 3) := by decide +kernel
theorem dX10_needNumber_15 : decode cX10_needNumber 15 = .ok (.iconst 1, 1) := by decide +kernel
theorem dX10_needNumber_16 : decode cX10_needNumber 16 = .ok (.iadd, 1) := by decide +kernel
theorem dX10_needNumber_17 : decode cX10_needNumber 17 = .ok (.putfield 185, 3) := by decide +kernel
theorem dX10_needNumber_20 : decode cX10_needNumber 20 = .ok (.new 347, 3) := by decide +kernel
theorem dX10_needNumber_23 : decode cX10_needNumber 23 = .ok (.dup, 1) := by decide +kernel
theorem dX10_needNumber_24 : decode cX10_needNumber 24 = .ok (.ldc_w 354, 3) := by decide +kernel
theorem dX10_needNumber_27 : decode cX10_needNumber 27 = .ok (.invokespecial 351, 3) := by decide +kernel
theorem dX10_needNumber_30 : decode cX10_needNumber 30 = .ok (.athrow, 1) := by decide +kernel
theorem dX10_needNumber_31 : decode cX10_needNumber 31 = .ok (.return_, 1) := by decide +kernel
theorem dX10_within_0 : decode cX10_within 0 = .ok (.iload_n 1, 1) := by decide +kernel
theorem dX10_within_1 : decode cX10_within 1 = .ok (.iload_n 2, 1) := by decide +kernel
theorem dX10_within_2 : decode cX10_within 2 = .ok (.if_icmp .lt 8, 3) := by decide +kernel
theorem dX10_within_5 : decode cX10_within 5 = .ok (.iload_n 1, 1) := by decide +kernel
theorem dX10_within_6 : decode cX10_within 6 = .ok (.iload_n 3, 1) := by decide +kernel
theorem dX10_within_7 : decode cX10_within 7 = .ok (.if_icmp .le 24, 3) := by decide +kernel
theorem dX10_within_10 : decode cX10_within 10 = .ok (.aload_n 0, 1) := by decide +kernel
theorem dX10_within_11 : decode cX10_within 11 = .ok (.dup, 1) := by decide +kernel
theorem dX10_within_12 : decode cX10_within 12 = .ok (.getfield 188, 3) := by decide +kernel
theorem dX10_within_15 : decode cX10_within 15 = .ok (.iconst 1, 1) := by decide +kernel
theorem dX10_within_16 : decode cX10_within 16 = .ok (.iadd, 1) := by decide +kernel
theorem dX10_within_17 : decode cX10_within 17 = .ok (.putfield 188, 3) := by decide +kernel
theorem dX10_within_20 : decode cX10_within 20 = .ok (.new 356, 3) := by decide +kernel
theorem dX10_within_23 : decode cX10_within 23 = .ok (.dup, 1) := by decide +kernel
theorem dX10_within_24 : decode cX10_within 24 = .ok (.ldc_w 358, 3) := by decide +kernel
theorem dX10_within_27 : decode cX10_within 27 = .ok (.invokespecial 360, 3) := by decide +kernel
theorem dX10_within_30 : decode cX10_within 30 = .ok (.athrow, 1) := by decide +kernel
theorem dX10_within_31 : decode cX10_within 31 = .ok (.return_, 1) := by decide +kernel
theorem dX10_worksKept_0 : decode cX10_worksKept 0 = .ok (.aload_n 0, 1) := by decide +kernel
theorem dX10_worksKept_1 : decode cX10_worksKept 1 = .ok (.getfield 122, 3) := by decide +kernel
theorem dX10_worksKept_4 : decode cX10_worksKept 4 = .ok (.ifnonnull 7, 3) := by decide +kernel
theorem dX10_worksKept_7 : decode cX10_worksKept 7 = .ok (.iconst 0, 1) := by decide +kernel
theorem dX10_worksKept_8 : decode cX10_worksKept 8 = .ok (.goto 10, 3) := by decide +kernel
theorem dX10_worksKept_11 : decode cX10_worksKept 11 = .ok (.aload_n 0, 1) := by decide +kernel
theorem dX10_worksKept_12 : decode cX10_worksKept 12 = .ok (.getfield 122, 3) := by decide +kernel
theorem dX10_worksKept_15 : decode cX10_worksKept 15 = .ok (.getfield 361, 3) := by decide +kernel
theorem dX10_worksKept_18 : decode cX10_worksKept 18 = .ok (.ireturn, 1) := by decide +kernel
theorem dX10_dropImages_0 : decode cX10_dropImages 0 = .ok (.iload_n 1, 1) := by decide +kernel
theorem dX10_dropImages_1 : decode cX10_dropImages 1 = .ok (.istore_n 2, 1) := by decide +kernel
theorem dX10_dropImages_2 : decode cX10_dropImages 2 = .ok (.iload_n 2, 1) := by decide +kernel
theorem dX10_dropImages_3 : decode cX10_dropImages 3 = .ok (.iconst 3, 1) := by decide +kernel
theorem dX10_dropImages_4 : decode cX10_dropImages 4 = .ok (.if_icmp .ge 16, 3) := by decide +kernel
theorem dX10_dropImages_7 : decode cX10_dropImages 7 = .ok (.aload_n 0, 1) := by decide +kernel
theorem dX10_dropImages_8 : decode cX10_dropImages 8 = .ok (.getfield 55, 3) := by decide +kernel
theorem dX10_dropImages_11 : decode cX10_dropImages 11 = .ok (.iload_n 2, 1) := by decide +kernel
theorem dX10_dropImages_12 : decode cX10_dropImages 12 = .ok (.aconst_null, 1) := by decide +kernel
theorem dX10_dropImages_13 : decode cX10_dropImages 13 = .ok (.aastore, 1) := by decide +kernel
theorem dX10_dropImages_14 : decode cX10_dropImages 14 = .ok (.iinc 2 1, 3) := by decide +kernel
theorem dX10_dropImages_17 : decode cX10_dropImages 17 = .ok (.goto (-15), 3) := by decide +kernel
theorem dX10_dropImages_20 : decode cX10_dropImages 20 = .ok (.aload_n 0, 1) := by decide +kernel
theorem dX10_dropImages_21 : decode cX10_dropImages 21 = .ok (.iload_n 1, 1) := by decide +kernel
theorem dX10_dropImages_22 : decode cX10_dropImages 22 = .ok (.putfield 182, 3) := by decide +kernel
theorem dX10_dropImages_25 : decode cX10_dropImages 25 = .ok (.return_, 1) := by decide +kernel
theorem dX10_gatherRows_0 : decode cX10_gatherRows 0 = .ok (.aload_n 0, 1) := by decide +kernel
theorem dX10_gatherRows_1 : decode cX10_gatherRows 1 = .ok (.iload_n 1, 1) := by decide +kernel
theorem dX10_gatherRows_2 : decode cX10_gatherRows 2 = .ok (.iconst 0, 1) := by decide +kernel
theorem dX10_gatherRows_3 : decode cX10_gatherRows 3 = .ok (.sipush 297, 3) := by decide +kernel
theorem dX10_gatherRows_6 : decode cX10_gatherRows 6 = .ok (.invokevirtual 103, 3) := by decide +kernel
theorem dX10_gatherRows_9 : decode cX10_gatherRows 9 = .ok (.aload_n 0, 1) := by decide +kernel
theorem dX10_gatherRows_10 : decode cX10_gatherRows 10 = .ok (.iload_n 2, 1) := by decide +kernel
theorem dX10_gatherRows_11 : decode cX10_gatherRows 11 = .ok (.iconst 1, 1) := by decide +kernel
theorem dX10_gatherRows_12 : decode cX10_gatherRows 12 = .ok (.iconst 3, 1) := by decide +kernel
theorem dX10_gatherRows_13 : decode cX10_gatherRows 13 = .ok (.invokevirtual 103, 3) := by decide +kernel
theorem dX10_gatherRows_16 : decode cX10_gatherRows 16 = .ok (.aload_n 0, 1) := by decide +kernel
theorem dX10_gatherRows_17 : decode cX10_gatherRows 17 = .ok (.iload_n 3, 1) := by decide +kernel
theorem dX10_gatherRows_18 : decode cX10_gatherRows 18 = .ok (.iconst 0, 1) := by decide +kernel
theorem dX10_gatherRows_19 : decode cX10_gatherRows 19 = .ok (.iconst 1, 1) := by decide +kernel
theorem dX10_gatherRows_20 : decode cX10_gatherRows 20 = .ok (.invokevirtual 103, 3) := by decide +kernel
theorem dX10_gatherRows_23 : decode cX10_gatherRows 23 = .ok (.aload_n 0, 1) := by decide +kernel
theorem dX10_gatherRows_24 : decode cX10_gatherRows 24 = .ok (.getfield 19, 3) := by decide +kernel
theorem dX10_gatherRows_27 : decode cX10_gatherRows 27 = .ok (.aload_n 0, 1) := by decide +kernel
theorem dX10_gatherRows_28 : decode cX10_gatherRows 28 = .ok (.getfield 29, 3) := by decide +kernel
theorem dX10_gatherRows_31 : decode cX10_gatherRows 31 = .ok (.iconst 1, 1) := by decide +kernel
theorem dX10_gatherRows_32 : decode cX10_gatherRows 32 = .ok (.aload_n 0, 1) := by decide +kernel
theorem dX10_gatherRows_33 : decode cX10_gatherRows 33 = .ok (.getfield 59, 3) := by decide +kernel
theorem dX10_gatherRows_36 : decode cX10_gatherRows 36 = .ok (.invokevirtual 257, 3) := by decide +kernel
theorem dX10_gatherRows_39 : decode cX10_gatherRows 39 = .ok (.aload_n 0, 1) := by decide +kernel
theorem dX10_gatherRows_40 : decode cX10_gatherRows 40 = .ok (.getfield 80, 3) := by decide +kernel
theorem dX10_gatherRows_43 : decode cX10_gatherRows 43 = .ok (.aload_n 0, 1) := by decide +kernel
theorem dX10_gatherRows_44 : decode cX10_gatherRows 44 = .ok (.getfield 59, 3) := by decide +kernel
theorem dX10_gatherRows_47 : decode cX10_gatherRows 47 = .ok (.iload_n 1, 1) := by decide +kernel
theorem dX10_gatherRows_48 : decode cX10_gatherRows 48 = .ok (.iload_n 2, 1) := by decide +kernel
theorem dX10_gatherRows_49 : decode cX10_gatherRows 49 = .ok (.invokevirtual 364, 3) := by decide +kernel
theorem dX10_gatherRows_52 : decode cX10_gatherRows 52 = .ok (.return_, 1) := by decide +kernel
theorem dX10_leastPrime_0 : decode cX10_leastPrime 0 = .ok (.iconst 2, 1) := by decide +kernel
theorem dX10_leastPrime_1 : decode cX10_leastPrime 1 = .ok (.istore_n 1, 1) := by decide +kernel
theorem dX10_leastPrime_2 : decode cX10_leastPrime 2 = .ok (.iload_n 1, 1) := by decide +kernel
theorem dX10_leastPrime_3 : decode cX10_leastPrime 3 = .ok (.iload_n 0, 1) := by decide +kernel
theorem dX10_leastPrime_4 : decode cX10_leastPrime 4 = .ok (.if_icmp .gt 17, 3) := by decide +kernel
theorem dX10_leastPrime_7 : decode cX10_leastPrime 7 = .ok (.iload_n 0, 1) := by decide +kernel
theorem dX10_leastPrime_8 : decode cX10_leastPrime 8 = .ok (.iload_n 1, 1) := by decide +kernel
theorem dX10_leastPrime_9 : decode cX10_leastPrime 9 = .ok (.irem, 1) := by decide +kernel
theorem dX10_leastPrime_10 : decode cX10_leastPrime 10 = .ok (.ifCond .ne 5, 3) := by decide +kernel
theorem dX10_leastPrime_13 : decode cX10_leastPrime 13 = .ok (.iload_n 1, 1) := by decide +kernel
theorem dX10_leastPrime_14 : decode cX10_leastPrime 14 = .ok (.ireturn, 1) := by decide +kernel
theorem dX10_leastPrime_15 : decode cX10_leastPrime 15 = .ok (.iinc 1 1, 3) := by decide +kernel
theorem dX10_leastPrime_18 : decode cX10_leastPrime 18 = .ok (.goto (-16), 3) := by decide +kernel
theorem dX10_leastPrime_21 : decode cX10_leastPrime 21 = .ok (.iconst (-1), 1) := by decide +kernel
theorem dX10_leastPrime_22 : decode cX10_leastPrime 22 = .ok (.ireturn, 1) := by decide +kernel
theorem dX10_commonDivisor_0 : decode cX10_commonDivisor 0 = .ok (.iload_n 0, 1) := by decide +kernel
theorem dX10_commonDivisor_1 : decode cX10_commonDivisor 1 = .ok (.istore_n 2, 1) := by decide +kernel
theorem dX10_commonDivisor_2 : decode cX10_commonDivisor 2 = .ok (.iload_n 1, 1) := by decide +kernel
theorem dX10_commonDivisor_3 : decode cX10_commonDivisor 3 = .ok (.istore_n 3, 1) := by decide +kernel
theorem dX10_commonDivisor_4 : decode cX10_commonDivisor 4 = .ok (.iconst 0, 1) := by decide +kernel
theorem dX10_commonDivisor_5 : decode cX10_commonDivisor 5 = .ok (.istore 4, 2) := by decide +kernel
theorem dX10_commonDivisor_7 : decode cX10_commonDivisor 7 = .ok (.iload 4, 2) := by decide +kernel
theorem dX10_commonDivisor_9 : decode cX10_commonDivisor 9 = .ok (.bipush 64, 2) := by decide +kernel
theorem dX10_commonDivisor_11 : decode cX10_commonDivisor 11 = .ok (.if_icmp .ge 23, 3) := by decide +kernel
theorem dX10_commonDivisor_14 : decode cX10_commonDivisor 14 = .ok (.iload_n 3, 1) := by decide +kernel
theorem dX10_commonDivisor_15 : decode cX10_commonDivisor 15 = .ok (.ifCond .eq 19, 3) := by decide +kernel
theorem dX10_commonDivisor_18 : decode cX10_commonDivisor 18 = .ok (.iload_n 2, 1) := by decide +kernel
theorem dX10_commonDivisor_19 : decode cX10_commonDivisor 19 = .ok (.iload_n 3, 1) := by decide +kernel
theorem dX10_commonDivisor_20 : decode cX10_commonDivisor 20 = .ok (.irem, 1) := by decide +kernel
theorem dX10_commonDivisor_21 : decode cX10_commonDivisor 21 = .ok (.istore 5, 2) := by decide +kernel
theorem dX10_commonDivisor_23 : decode cX10_commonDivisor 23 = .ok (.iload_n 3, 1) := by decide +kernel
theorem dX10_commonDivisor_24 : decode cX10_commonDivisor 24 = .ok (.istore_n 2, 1) := by decide +kernel
theorem dX10_commonDivisor_25 : decode cX10_commonDivisor 25 = .ok (.iload 5, 2) := by decide +kernel
theorem dX10_commonDivisor_27 : decode cX10_commonDivisor 27 = .ok (.istore_n 3, 1) := by decide +kernel
theorem dX10_commonDivisor_28 : decode cX10_commonDivisor 28 = .ok (.iinc 4 1, 3) := by decide +kernel
theorem dX10_commonDivisor_31 : decode cX10_commonDivisor 31 = .ok (.goto (-24), 3) := by decide +kernel
theorem dX10_commonDivisor_34 : decode cX10_commonDivisor 34 = .ok (.iload_n 2, 1) := by decide +kernel
theorem dX10_commonDivisor_35 : decode cX10_commonDivisor 35 = .ok (.ireturn, 1) := by decide +kernel
theorem dX10_letFor_0 : decode cX10_letFor 0 = .ok (.iload_n 0, 1) := by decide +kernel
theorem dX10_letFor_1 : decode cX10_letFor 1 = .ok (.iload_n 1, 1) := by decide +kernel
theorem dX10_letFor_2 : decode cX10_letFor 2 = .ok (.if_icmp .ge 5, 3) := by decide +kernel
theorem dX10_letFor_5 : decode cX10_letFor 5 = .ok (.iload_n 0, 1) := by decide +kernel
theorem dX10_letFor_6 : decode cX10_letFor 6 = .ok (.ireturn, 1) := by decide +kernel
theorem dX10_letFor_7 : decode cX10_letFor 7 = .ok (.iload_n 0, 1) := by decide +kernel
theorem dX10_letFor_8 : decode cX10_letFor 8 = .ok (.iload_n 1, 1) := by decide +kernel
theorem dX10_letFor_9 : decode cX10_letFor 9 = .ok (.if_icmp .ne 9, 3) := by decide +kernel
theorem dX10_letFor_12 : decode cX10_letFor 12 = .ok (.iload_n 0, 1) := by decide +kernel
theorem dX10_letFor_13 : decode cX10_letFor 13 = .ok (.iconst 2, 1) := by decide +kernel
theorem dX10_letFor_14 : decode cX10_letFor 14 = .ok (.idiv, 1) := by decide +kernel
theorem dX10_letFor_15 : decode cX10_letFor 15 = .ok (.goto 4, 3) := by decide +kernel
theorem dX10_letFor_18 : decode cX10_letFor 18 = .ok (.iconst 0, 1) := by decide +kernel
theorem dX10_letFor_19 : decode cX10_letFor 19 = .ok (.ireturn, 1) := by decide +kernel
theorem dX10_holdsTo_0 : decode cX10_holdsTo 0 = .ok (.iload_n 0, 1) := by decide +kernel
theorem dX10_holdsTo_1 : decode cX10_holdsTo 1 = .ok (.iload_n 1, 1) := by decide +kernel
theorem dX10_holdsTo_2 : decode cX10_holdsTo 2 = .ok (.invokestatic 328, 3) := by decide +kernel
theorem dX10_holdsTo_5 : decode cX10_holdsTo 5 = .ok (.istore_n 3, 1) := by decide +kernel
theorem dX10_holdsTo_6 : decode cX10_holdsTo 6 = .ok (.iconst 0, 1) := by decide +kernel
theorem dX10_holdsTo_7 : decode cX10_holdsTo 7 = .ok (.istore 4, 2) := by decide +kernel
theorem dX10_holdsTo_9 : decode cX10_holdsTo 9 = .ok (.iload 4, 2) := by decide +kernel
theorem dX10_holdsTo_11 : decode cX10_holdsTo 11 = .ok (.iload_n 2, 1) := by decide +kernel
theorem dX10_holdsTo_12 : decode cX10_holdsTo 12 = .ok (.if_icmp .gt 21, 3) := by decide +kernel
theorem dX10_holdsTo_15 : decode cX10_holdsTo 15 = .ok (.iload 4, 2) := by decide +kernel
theorem dX10_holdsTo_17 : decode cX10_holdsTo 17 = .ok (.iload_n 1, 1) := by decide +kernel
theorem dX10_holdsTo_18 : decode cX10_holdsTo 18 = .ok (.invokestatic 328, 3) := by decide +kernel
theorem dX10_holdsTo_21 : decode cX10_holdsTo 21 = .ok (.iload_n 3, 1) := by decide +kernel
theorem dX10_holdsTo_22 : decode cX10_holdsTo 22 = .ok (.if_icmp .le 5, 3) := by decide +kernel
theorem dX10_holdsTo_25 : decode cX10_holdsTo 25 = .ok (.iconst 0, 1) := by decide +kernel
theorem dX10_holdsTo_26 : decode cX10_holdsTo 26 = .ok (.ireturn, 1) := by decide +kernel
theorem dX10_holdsTo_27 : decode cX10_holdsTo 27 = .ok (.iinc 4 1, 3) := by decide +kernel
theorem dX10_holdsTo_30 : decode cX10_holdsTo 30 = .ok (.goto (-21), 3) := by decide +kernel
theorem dX10_holdsTo_33 : decode cX10_holdsTo 33 = .ok (.iconst 1, 1) := by decide +kernel
theorem dX10_holdsTo_34 : decode cX10_holdsTo 34 = .ok (.ireturn, 1) := by decide +kernel
