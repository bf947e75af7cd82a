theorem dJ0_length_8abf5_0 : decode cJ0_length_8abf5 0 = .ok (.aload_n 0, 1) := by decide +kernel
theorem dJ0_length_8abf5_1 : decode cJ0_length_8abf5 1 = .ok (.getfield 9, 3) := by decide +kernel
theorem dJ0_length_8abf5_4 : decode cJ0_length_8abf5 4 = .ok (.arraylength, 1) := by decide +kernel
theorem dJ0_length_8abf5_5 : decode cJ0_length_8abf5 5 = .ok (.aload_n 0, 1) := by decide +kernel
theorem dJ0_length_8abf5_6 : decode cJ0_length_8abf5 6 = .ok (.invokevirtual 335, 3) := by decide +kernel
theorem dJ0_length_8abf5_9 : decode cJ0_length_8abf5 9 = .ok (.ishr, 1) := by decide +kernel
theorem dJ0_length_8abf5_10 : decode cJ0_length_8abf5 10 = .ok (.ireturn, 1) := by decide +kernel
theorem dJ0_charAt_5068e_0 : decode cJ0_charAt_5068e 0 = .ok (.aload_n 0, 1) := by decide +kernel
theorem dJ0_charAt_5068e_1 : decode cJ0_charAt_5068e 1 = .ok (.invokevirtual 492, 3) := by decide +kernel
theorem dJ0_charAt_5068e_4 : decode cJ0_charAt_5068e 4 = .ok (.ifCond .eq 12, 3) := by decide +kernel
theorem dJ0_charAt_5068e_7 : decode cJ0_charAt_5068e 7 = .ok (.aload_n 0, 1) := by decide +kernel
theorem dJ0_charAt_5068e_8 : decode cJ0_charAt_5068e 8 = .ok (.getfield 9, 3) := by decide +kernel
theorem dJ0_charAt_5068e_11 : decode cJ0_charAt_5068e 11 = .ok (.iload_n 1, 1) := by decide +kernel
theorem dJ0_charAt_5068e_12 : decode cJ0_charAt_5068e 12 = .ok (.invokestatic 495, 3) := by decide +kernel
theorem dJ0_charAt_5068e_15 : decode cJ0_charAt_5068e 15 = .ok (.ireturn, 1) := by decide +kernel
theorem dJ0_charAt_5068e_16 : decode cJ0_charAt_5068e 16 = .ok (.aload_n 0, 1) := by decide +kernel
theorem dJ0_charAt_5068e_17 : decode cJ0_charAt_5068e 17 = .ok (.getfield 9, 3) := by decide +kernel
theorem dJ0_charAt_5068e_20 : decode cJ0_charAt_5068e 20 = .ok (.iload_n 1, 1) := by decide +kernel
theorem dJ0_charAt_5068e_21 : decode cJ0_charAt_5068e 21 = .ok (.invokestatic 498, 3) := by decide +kernel
theorem dJ0_charAt_5068e_24 : decode cJ0_charAt_5068e 24 = .ok (.ireturn, 1) := by decide +kernel
theorem dJ0_indexOf_0f7a4_0 : decode cJ0_indexOf_0f7a4 0 = .ok (.aload_n 0, 1) := by decide +kernel
theorem dJ0_indexOf_0f7a4_1 : decode cJ0_indexOf_0f7a4 1 = .ok (.iload_n 1, 1) := by decide +kernel
theorem dJ0_indexOf_0f7a4_2 : decode cJ0_indexOf_0f7a4 2 = .ok (.iconst 0, 1) := by decide +kernel
theorem dJ0_indexOf_0f7a4_3 : decode cJ0_indexOf_0f7a4 3 = .ok (.invokevirtual 633, 3) := by decide +kernel
theorem dJ0_indexOf_0f7a4_6 : decode cJ0_indexOf_0f7a4 6 = .ok (.ireturn, 1) := by decide +kernel
theorem dJ0_indexOf_7cf53_0 : decode cJ0_indexOf_7cf53 0 = .ok (.aload_n 0, 1) := by decide +kernel
theorem dJ0_indexOf_7cf53_1 : decode cJ0_indexOf_7cf53 1 = .ok (.invokevirtual 492, 3) := by decide +kernel
theorem dJ0_indexOf_7cf53_4 : decode cJ0_indexOf_7cf53 4 = .ok (.ifCond .eq 19, 3) := by decide +kernel
theorem dJ0_indexOf_7cf53_7 : decode cJ0_indexOf_7cf53 7 = .ok (.aload_n 0, 1) := by decide +kernel
theorem dJ0_indexOf_7cf53_8 : decode cJ0_indexOf_7cf53 8 = .ok (.getfield 9, 3) := by decide +kernel
theorem dJ0_indexOf_7cf53_11 : decode cJ0_indexOf_7cf53 11 = .ok (.iload_n 1, 1) := by decide +kernel
theorem dJ0_indexOf_7cf53_12 : decode cJ0_indexOf_7cf53 12 = .ok (.iload_n 2, 1) := by decide +kernel
theorem dJ0_indexOf_7cf53_13 : decode cJ0_indexOf_7cf53 13 = .ok (.aload_n 0, 1) := by decide +kernel
theorem dJ0_indexOf_7cf53_14 : decode cJ0_indexOf_7cf53 14 = .ok (.invokevirtual 505, 3) := by decide +kernel
theorem dJ0_indexOf_7cf53_17 : decode cJ0_indexOf_7cf53 17 = .ok (.invokestatic 637, 3) := by decide +kernel
theorem dJ0_indexOf_7cf53_20 : decode cJ0_indexOf_7cf53 20 = .ok (.goto 16, 3) := by decide +kernel
theorem dJ0_indexOf_7cf53_23 : decode cJ0_indexOf_7cf53 23 = .ok (.aload_n 0, 1) := by decide +kernel
theorem dJ0_indexOf_7cf53_24 : decode cJ0_indexOf_7cf53 24 = .ok (.getfield 9, 3) := by decide +kernel
theorem dJ0_indexOf_7cf53_27 : decode cJ0_indexOf_7cf53 27 = .ok (.iload_n 1, 1) := by decide +kernel
theorem dJ0_indexOf_7cf53_28 : decode cJ0_indexOf_7cf53 28 = .ok (.iload_n 2, 1) := by decide +kernel
theorem dJ0_indexOf_7cf53_29 : decode cJ0_indexOf_7cf53 29 = .ok (.aload_n 0, 1) := by decide +kernel
theorem dJ0_indexOf_7cf53_30 : decode cJ0_indexOf_7cf53 30 = .ok (.invokevirtual 505, 3) := by decide +kernel
theorem dJ0_indexOf_7cf53_33 : decode cJ0_indexOf_7cf53 33 = .ok (.invokestatic 640, 3) := by decide +kernel
theorem dJ0_indexOf_7cf53_36 : decode cJ0_indexOf_7cf53 36 = .ok (.ireturn, 1) := by decide +kernel
theorem dJ0_coder_7d493_0 : decode cJ0_coder_7d493 0 = .ok (.getstatic 38, 3) := by decide +kernel
theorem dJ0_coder_7d493_3 : decode cJ0_coder_7d493 3 = .ok (.ifCond .eq 10, 3) := by decide +kernel
theorem dJ0_coder_7d493_6 : decode cJ0_coder_7d493 6 = .ok (.aload_n 0, 1) := by decide +kernel
theorem dJ0_coder_7d493_7 : decode cJ0_coder_7d493 7 = .ok (.getfield 15, 3) := by decide +kernel
theorem dJ0_coder_7d493_10 : decode cJ0_coder_7d493 10 = .ok (.goto 4, 3) := by decide +kernel
theorem dJ0_coder_7d493_13 : decode cJ0_coder_7d493 13 = .ok (.iconst 1, 1) := by decide +kernel
theorem dJ0_coder_7d493_14 : decode cJ0_coder_7d493 14 = .ok (.ireturn, 1) := by decide +kernel
theorem dJ0_isLatin1_aae02_0 : decode cJ0_isLatin1_aae02 0 = .ok (.getstatic 38, 3) := by decide +kernel
theorem dJ0_isLatin1_aae02_3 : decode cJ0_isLatin1_aae02 3 = .ok (.ifCond .eq 14, 3) := by decide +kernel
theorem dJ0_isLatin1_aae02_6 : decode cJ0_isLatin1_aae02 6 = .ok (.aload_n 0, 1) := by decide +kernel
theorem dJ0_isLatin1_aae02_7 : decode cJ0_isLatin1_aae02 7 = .ok (.getfield 15, 3) := by decide +kernel
theorem dJ0_isLatin1_aae02_10 : decode cJ0_isLatin1_aae02 10 = .ok (.ifCond .ne 7, 3) := by decide +kernel
theorem dJ0_isLatin1_aae02_13 : decode cJ0_isLatin1_aae02 13 = .ok (.iconst 1, 1) := by decide +kernel
theorem dJ0_isLatin1_aae02_14 : decode cJ0_isLatin1_aae02 14 = .ok (.goto 4, 3) := by decide +kernel
theorem dJ0_isLatin1_aae02_17 : decode cJ0_isLatin1_aae02 17 = .ok (.iconst 0, 1) := by decide +kernel
theorem dJ0_isLatin1_aae02_18 : decode cJ0_isLatin1_aae02 18 = .ok (.ireturn, 1) := by decide +kernel
theorem dJ0_checkIndex_df160_0 : decode cJ0_checkIndex_df160 0 = .ok (.iload_n 0, 1) := by decide +kernel
theorem dJ0_checkIndex_df160_1 : decode cJ0_checkIndex_df160 1 = .ok (.iload_n 1, 1) := by decide +kernel
theorem dJ0_checkIndex_df160_2 : decode cJ0_checkIndex_df160 2 = .ok (.getstatic 1053, 3) := by decide +kernel
theorem dJ0_checkIndex_df160_5 : decode cJ0_checkIndex_df160 5 = .ok (.invokestatic 1059, 3) := by decide +kernel
theorem dJ0_checkIndex_df160_8 : decode cJ0_checkIndex_df160 8 = .ok (.pop, 1) := by decide +kernel
theorem dJ0_checkIndex_df160_9 : decode cJ0_checkIndex_df160 9 = .ok (.return_, 1) := by decide +kernel
theorem dJ0_checkBoundsBeginEnd_23922_0 : decode cJ0_checkBoundsBeginEnd_23922 0 = .ok (.iload_n 0, 1) := by decide +kernel
theorem dJ0_checkBoundsBeginEnd_23922_1 : decode cJ0_checkBoundsBeginEnd_23922 1 = .ok (.iload_n 1, 1) := by decide +kernel
theorem dJ0_checkBoundsBeginEnd_23922_2 : decode cJ0_checkBoundsBeginEnd_23922 2 = .ok (.iload_n 2, 1) := by decide +kernel
theorem dJ0_checkBoundsBeginEnd_23922_3 : decode cJ0_checkBoundsBeginEnd_23922 3 = .ok (.getstatic 1053, 3) := by decide +kernel
theorem dJ0_checkBoundsBeginEnd_23922_6 : decode cJ0_checkBoundsBeginEnd_23922 6 = .ok (.invokestatic 1062, 3) := by decide +kernel
theorem dJ0_checkBoundsBeginEnd_23922_9 : decode cJ0_checkBoundsBeginEnd_23922 9 = .ok (.pop, 1) := by decide +kernel
theorem dJ0_checkBoundsBeginEnd_23922_10 : decode cJ0_checkBoundsBeginEnd_23922 10 = .ok (.return_, 1) := by decide +kernel
theorem dJ1_charAt_3b067_0 : decode cJ1_charAt_3b067 0 = .ok (.iload_n 1, 1) := by decide +kernel
theorem dJ1_charAt_3b067_1 : decode cJ1_charAt_3b067 1 = .ok (.aload_n 0, 1) := by decide +kernel
theorem dJ1_charAt_3b067_2 : decode cJ1_charAt_3b067 2 = .ok (.arraylength, 1) := by decide +kernel
theorem dJ1_charAt_3b067_3 : decode cJ1_charAt_3b067 3 = .ok (.invokestatic 9, 3) := by decide +kernel
theorem dJ1_charAt_3b067_6 : decode cJ1_charAt_3b067 6 = .ok (.aload_n 0, 1) := by decide +kernel
theorem dJ1_charAt_3b067_7 : decode cJ1_charAt_3b067 7 = .ok (.iload_n 1, 1) := by decide +kernel
theorem dJ1_charAt_3b067_8 : decode cJ1_charAt_3b067 8 = .ok (.baload, 1) := by decide +kernel
theorem dJ1_charAt_3b067_9 : decode cJ1_charAt_3b067 9 = .ok (.sipush 255, 3) := by decide +kernel
theorem dJ1_charAt_3b067_12 : decode cJ1_charAt_3b067 12 = .ok (.iand, 1) := by decide +kernel
theorem dJ1_charAt_3b067_13 : decode cJ1_charAt_3b067 13 = .ok (.i2c, 1) := by decide +kernel
theorem dJ1_charAt_3b067_14 : decode cJ1_charAt_3b067 14 = .ok (.ireturn, 1) := by decide +kernel
theorem dJ1_canEncode_9a6ad_0 : decode cJ1_canEncode_9a6ad 0 = .ok (.iload_n 0, 1) := by decide +kernel
theorem dJ1_canEncode_9a6ad_1 : decode cJ1_canEncode_9a6ad 1 = .ok (.ifCond .lt 14, 3) := by decide +kernel
theorem dJ1_canEncode_9a6ad_4 : decode cJ1_canEncode_9a6ad 4 = .ok (.iload_n 0, 1) := by decide +kernel
theorem dJ1_canEncode_9a6ad_5 : decode cJ1_canEncode_9a6ad 5 = .ok (.sipush 255, 3) := by decide +kernel
theorem dJ1_canEncode_9a6ad_8 : decode cJ1_canEncode_9a6ad 8 = .ok (.if_icmp .gt 7, 3) := by decide +kernel
theorem dJ1_canEncode_9a6ad_11 : decode cJ1_canEncode_9a6ad 11 = .ok (.iconst 1, 1) := by decide +kernel
theorem dJ1_canEncode_9a6ad_12 : decode cJ1_canEncode_9a6ad 12 = .ok (.goto 4, 3) := by decide +kernel
theorem dJ1_canEncode_9a6ad_15 : decode cJ1_canEncode_9a6ad 15 = .ok (.iconst 0, 1) := by decide +kernel
theorem dJ1_canEncode_9a6ad_16 : decode cJ1_canEncode_9a6ad 16 = .ok (.ireturn, 1) := by decide +kernel
theorem dJ1_indexOf_4cfef_0 : decode cJ1_indexOf_4cfef 0 = .ok (.iload_n 1, 1) := by decide +kernel
theorem dJ1_indexOf_4cfef_1 : decode cJ1_indexOf_4cfef 1 = .ok (.invokestatic 88, 3) := by decide +kernel
theorem dJ1_indexOf_4cfef_4 : decode cJ1_indexOf_4cfef 4 = .ok (.ifCond .ne 5, 3) := by decide +kernel
theorem dJ1_indexOf_4cfef_7 : decode cJ1_indexOf_4cfef 7 = .ok (.iconst (-1), 1) := by decide +kernel
theorem dJ1_indexOf_4cfef_8 : decode cJ1_indexOf_4cfef 8 = .ok (.ireturn, 1) := by decide +kernel
theorem dJ1_indexOf_4cfef_9 : decode cJ1_indexOf_4cfef 9 = .ok (.iload_n 2, 1) := by decide +kernel
theorem dJ1_indexOf_4cfef_10 : decode cJ1_indexOf_4cfef 10 = .ok (.iconst 0, 1) := by decide +kernel
theorem dJ1_indexOf_4cfef_11 : decode cJ1_indexOf_4cfef 11 = .ok (.invokestatic 92, 3) := by decide +kernel
theorem dJ1_indexOf_4cfef_14 : decode cJ1_indexOf_4cfef 14 = .ok (.istore_n 2, 1) := by decide +kernel
theorem dJ1_indexOf_4cfef_15 : decode cJ1_indexOf_4cfef 15 = .ok (.iload_n 3, 1) := by decide +kernel
theorem dJ1_indexOf_4cfef_16 : decode cJ1_indexOf_4cfef 16 = .ok (.aload_n 0, 1) := by decide +kernel
theorem dJ1_indexOf_4cfef_17 : decode cJ1_indexOf_4cfef 17 = .ok (.arraylength, 1) := by decide +kernel
theorem dJ1_indexOf_4cfef_18 : decode cJ1_indexOf_4cfef 18 = .ok (.invokestatic 38, 3) := by decide +kernel
theorem dJ1_indexOf_4cfef_21 : decode cJ1_indexOf_4cfef 21 = .ok (.istore_n 3, 1) := by decide +kernel
theorem dJ1_indexOf_4cfef_22 : decode cJ1_indexOf_4cfef 22 = .ok (.iload_n 2, 1) := by decide +kernel
theorem dJ1_indexOf_4cfef_23 : decode cJ1_indexOf_4cfef 23 = .ok (.iload_n 3, 1) := by decide +kernel
theorem dJ1_indexOf_4cfef_24 : decode cJ1_indexOf_4cfef 24 = .ok (.if_icmp .lt 5, 3) := by decide +kernel
theorem dJ1_indexOf_4cfef_27 : decode cJ1_indexOf_4cfef 27 = .ok (.iconst (-1), 1) := by decide +kernel
theorem dJ1_indexOf_4cfef_28 : decode cJ1_indexOf_4cfef 28 = .ok (.ireturn, 1) := by decide +kernel
theorem dJ1_indexOf_4cfef_29 : decode cJ1_indexOf_4cfef 29 = .ok (.aload_n 0, 1) := by decide +kernel
theorem dJ1_indexOf_4cfef_30 : decode cJ1_indexOf_4cfef 30 = .ok (.iload_n 1, 1) := by decide +kernel
theorem dJ1_indexOf_4cfef_31 : decode cJ1_indexOf_4cfef 31 = .ok (.iload_n 2, 1) := by decide +kernel
theorem dJ1_indexOf_4cfef_32 : decode cJ1_indexOf_4cfef 32 = .ok (.iload_n 3, 1) := by decide +kernel
theorem dJ1_indexOf_4cfef_33 : decode cJ1_indexOf_4cfef 33 = .ok (.invokestatic 95, 3) := by decide +kernel
theorem dJ1_indexOf_4cfef_36 : decode cJ1_indexOf_4cfef 36 = .ok (.ireturn, 1) := by decide +kernel
theorem dJ1_indexOfChar_4cfef_0 : decode cJ1_indexOfChar_4cfef 0 = .ok (.iload_n 1, 1) := by decide +kernel
theorem dJ1_indexOfChar_4cfef_1 : decode cJ1_indexOfChar_4cfef 1 = .ok (.i2b, 1) := by decide +kernel
theorem dJ1_indexOfChar_4cfef_2 : decode cJ1_indexOfChar_4cfef 2 = .ok (.istore 4, 2) := by decide +kernel
theorem dJ1_indexOfChar_4cfef_4 : decode cJ1_indexOfChar_4cfef 4 = .ok (.iload_n 2, 1) := by decide +kernel
theorem dJ1_indexOfChar_4cfef_5 : decode cJ1_indexOfChar_4cfef 5 = .ok (.istore 5, 2) := by decide +kernel
theorem dJ1_indexOfChar_4cfef_7 : decode cJ1_indexOfChar_4cfef 7 = .ok (.iload 5, 2) := by decide +kernel
theorem dJ1_indexOfChar_4cfef_9 : decode cJ1_indexOfChar_4cfef 9 = .ok (.iload_n 3, 1) := by decide +kernel
theorem dJ1_indexOfChar_4cfef_10 : decode cJ1_indexOfChar_4cfef 10 = .ok (.if_icmp .ge 21, 3) := by decide +kernel
theorem dJ1_indexOfChar_4cfef_13 : decode cJ1_indexOfChar_4cfef 13 = .ok (.aload_n 0, 1) := by decide +kernel
theorem dJ1_indexOfChar_4cfef_14 : decode cJ1_indexOfChar_4cfef 14 = .ok (.iload 5, 2) := by decide +kernel
theorem dJ1_indexOfChar_4cfef_16 : decode cJ1_indexOfChar_4cfef 16 = .ok (.baload, 1) := by decide +kernel
theorem dJ1_indexOfChar_4cfef_17 : decode cJ1_indexOfChar_4cfef 17 = .ok (.iload 4, 2) := by decide +kernel
theorem dJ1_indexOfChar_4cfef_19 : decode cJ1_indexOfChar_4cfef 19 = .ok (.if_icmp .ne 6, 3) := by decide +kernel
theorem dJ1_indexOfChar_4cfef_22 : decode cJ1_indexOfChar_4cfef 22 = .ok (.iload 5, 2) := by decide +kernel
theorem dJ1_indexOfChar_4cfef_24 : decode cJ1_indexOfChar_4cfef 24 = .ok (.ireturn, 1) := by decide +kernel
theorem dJ1_indexOfChar_4cfef_25 : decode cJ1_indexOfChar_4cfef 25 = .ok (.iinc 5 1, 3) := by decide +kernel
theorem dJ1_indexOfChar_4cfef_28 : decode cJ1_indexOfChar_4cfef 28 = .ok (.goto (-21), 3) := by decide +kernel
theorem dJ1_indexOfChar_4cfef_31 : decode cJ1_indexOfChar_4cfef 31 = .ok (.iconst (-1), 1) := by decide +kernel
theorem dJ1_indexOfChar_4cfef_32 : decode cJ1_indexOfChar_4cfef 32 = .ok (.ireturn, 1) := by decide +kernel
theorem dJ2_getChar_3b067_0 : decode cJ2_getChar_3b067 0 = .ok (.getstatic 44, 3) := by decide +kernel
theorem dJ2_getChar_3b067_3 : decode cJ2_getChar_3b067 3 = .ok (.ifCond .ne 25, 3) := by decide +kernel
theorem dJ2_getChar_3b067_6 : decode cJ2_getChar_3b067 6 = .ok (.iload_n 1, 1) := by decide +kernel
theorem dJ2_getChar_3b067_7 : decode cJ2_getChar_3b067 7 = .ok (.ifCond .lt 11, 3) := by decide +kernel
theorem dJ2_getChar_3b067_10 : decode cJ2_getChar_3b067 10 = .ok (.iload_n 1, 1) := by decide +kernel
theorem dJ2_getChar_3b067_11 : decode cJ2_getChar_3b067 11 = .ok (.aload_n 0, 1) := by decide +kernel
theorem dJ2_getChar_3b067_12 : decode cJ2_getChar_3b067 12 = .ok (.invokestatic 48, 3) := by decide +kernel
theorem dJ2_getChar_3b067_15 : decode cJ2_getChar_3b067 15 = .ok (.if_icmp .lt 13, 3) := by decide +kernel
theorem dJ2_getChar_3b067_18 : decode cJ2_getChar_3b067 18 = .ok (.new 52, 3) := by decide +kernel
theorem dJ2_getChar_3b067_21 : decode cJ2_getChar_3b067 21 = .ok (.dup, 1) := by decide +kernel
theorem dJ2_getChar_3b067_22 : decode cJ2_getChar_3b067 22 = .ok (.ldc 54, 2) := by decide +kernel
theorem dJ2_getChar_3b067_24 : decode cJ2_getChar_3b067 24 = .ok (.invokespecial 56, 3) := by decide +kernel
theorem dJ2_getChar_3b067_27 : decode cJ2_getChar_3b067 27 = .ok (.athrow, 1) := by decide +kernel
theorem dJ2_getChar_3b067_28 : decode cJ2_getChar_3b067 28 = .ok (.iload_n 1, 1) := by decide +kernel
theorem dJ2_getChar_3b067_29 : decode cJ2_getChar_3b067 29 = .ok (.iconst 1, 1) := by decide +kernel
theorem dJ2_getChar_3b067_30 : decode cJ2_getChar_3b067 30 = .ok (.ishl, 1) := by decide +kernel
theorem dJ2_getChar_3b067_31 : decode cJ2_getChar_3b067 31 = .ok (.istore_n 1, 1) := by decide +kernel
theorem dJ2_getChar_3b067_32 : decode cJ2_getChar_3b067 32 = .ok (.aload_n 0, 1) := by decide +kernel
theorem dJ2_getChar_3b067_33 : decode cJ2_getChar_3b067 33 = .ok (.iload_n 1, 1) := by decide +kernel
theorem dJ2_getChar_3b067_34 : decode cJ2_getChar_3b067 34 = .ok (.iinc 1 1, 3) := by decide +kernel
theorem dJ2_getChar_3b067_37 : decode cJ2_getChar_3b067 37 = .ok (.baload, 1) := by decide +kernel
theorem dJ2_getChar_3b067_38 : decode cJ2_getChar_3b067 38 = .ok (.sipush 255, 3) := by decide +kernel
theorem dJ2_getChar_3b067_41 : decode cJ2_getChar_3b067 41 = .ok (.iand, 1) := by decide +kernel
theorem dJ2_getChar_3b067_42 : decode cJ2_getChar_3b067 42 = .ok (.getstatic 59, 3) := by decide +kernel
theorem dJ2_getChar_3b067_45 : decode cJ2_getChar_3b067 45 = .ok (.ishl, 1) := by decide +kernel
theorem dJ2_getChar_3b067_46 : decode cJ2_getChar_3b067 46 = .ok (.aload_n 0, 1) := by decide +kernel
theorem dJ2_getChar_3b067_47 : decode cJ2_getChar_3b067 47 = .ok (.iload_n 1, 1) := by decide +kernel
theorem dJ2_getChar_3b067_48 : decode cJ2_getChar_3b067 48 = .ok (.baload, 1) := by decide +kernel
theorem dJ2_getChar_3b067_49 : decode cJ2_getChar_3b067 49 = .ok (.sipush 255, 3) := by decide +kernel
theorem dJ2_getChar_3b067_52 : decode cJ2_getChar_3b067 52 = .ok (.iand, 1) := by decide +kernel
theorem dJ2_getChar_3b067_53 : decode cJ2_getChar_3b067 53 = .ok (.getstatic 63, 3) := by decide +kernel
theorem dJ2_getChar_3b067_56 : decode cJ2_getChar_3b067 56 = .ok (.ishl, 1) := by decide +kernel
theorem dJ2_getChar_3b067_57 : decode cJ2_getChar_3b067 57 = .ok (.ior, 1) := by decide +kernel
theorem dJ2_getChar_3b067_58 : decode cJ2_getChar_3b067 58 = .ok (.i2c, 1) := by decide +kernel
theorem dJ2_getChar_3b067_59 : decode cJ2_getChar_3b067 59 = .ok (.ireturn, 1) := by decide +kernel
theorem dJ2_length_9d52b_0 : decode cJ2_length_9d52b 0 = .ok (.aload_n 0, 1) := by decide +kernel
theorem dJ2_length_9d52b_1 : decode cJ2_length_9d52b 1 = .ok (.arraylength, 1) := by decide +kernel
theorem dJ2_length_9d52b_2 : decode cJ2_length_9d52b 2 = .ok (.iconst 1, 1) := by decide +kernel
theorem dJ2_length_9d52b_3 : decode cJ2_length_9d52b 3 = .ok (.ishr, 1) := by decide +kernel
theorem dJ2_length_9d52b_4 : decode cJ2_length_9d52b 4 = .ok (.ireturn, 1) := by decide +kernel
theorem dJ2_indexOf_4cfef_0 : decode cJ2_indexOf_4cfef 0 = .ok (.iload_n 2, 1) := by decide +kernel
theorem dJ2_indexOf_4cfef_1 : decode cJ2_indexOf_4cfef 1 = .ok (.iconst 0, 1) := by decide +kernel
theorem dJ2_indexOf_4cfef_2 : decode cJ2_indexOf_4cfef 2 = .ok (.invokestatic 224, 3) := by decide +kernel
theorem dJ2_indexOf_4cfef_5 : decode cJ2_indexOf_4cfef 5 = .ok (.istore_n 2, 1) := by decide +kernel
theorem dJ2_indexOf_4cfef_6 : decode cJ2_indexOf_4cfef 6 = .ok (.iload_n 3, 1) := by decide +kernel
theorem dJ2_indexOf_4cfef_7 : decode cJ2_indexOf_4cfef 7 = .ok (.aload_n 0, 1) := by decide +kernel
theorem dJ2_indexOf_4cfef_8 : decode cJ2_indexOf_4cfef 8 = .ok (.arraylength, 1) := by decide +kernel
theorem dJ2_indexOf_4cfef_9 : decode cJ2_indexOf_4cfef 9 = .ok (.iconst 1, 1) := by decide +kernel
theorem dJ2_indexOf_4cfef_10 : decode cJ2_indexOf_4cfef 10 = .ok (.ishr, 1) := by decide +kernel
theorem dJ2_indexOf_4cfef_11 : decode cJ2_indexOf_4cfef 11 = .ok (.invokestatic 183, 3) := by decide +kernel
theorem dJ2_indexOf_4cfef_14 : decode cJ2_indexOf_4cfef 14 = .ok (.istore_n 3, 1) := by decide +kernel
theorem dJ2_indexOf_4cfef_15 : decode cJ2_indexOf_4cfef 15 = .ok (.iload_n 2, 1) := by decide +kernel
theorem dJ2_indexOf_4cfef_16 : decode cJ2_indexOf_4cfef 16 = .ok (.iload_n 3, 1) := by decide +kernel
theorem dJ2_indexOf_4cfef_17 : decode cJ2_indexOf_4cfef 17 = .ok (.if_icmp .lt 5, 3) := by decide +kernel
theorem dJ2_indexOf_4cfef_20 : decode cJ2_indexOf_4cfef 20 = .ok (.iconst (-1), 1) := by decide +kernel
theorem dJ2_indexOf_4cfef_21 : decode cJ2_indexOf_4cfef 21 = .ok (.ireturn, 1) := by decide +kernel
theorem dJ2_indexOf_4cfef_22 : decode cJ2_indexOf_4cfef 22 = .ok (.iload_n 1, 1) := by decide +kernel
theorem dJ2_indexOf_4cfef_23 : decode cJ2_indexOf_4cfef 23 = .ok (.ldc 227, 2) := by decide +kernel
theorem dJ2_indexOf_4cfef_25 : decode cJ2_indexOf_4cfef 25 = .ok (.if_icmp .ge 11, 3) := by decide +kernel
theorem dJ2_indexOf_4cfef_28 : decode cJ2_indexOf_4cfef 28 = .ok (.aload_n 0, 1) := by decide +kernel
theorem dJ2_indexOf_4cfef_29 : decode cJ2_indexOf_4cfef 29 = .ok (.iload_n 1, 1) := by decide +kernel
theorem dJ2_indexOf_4cfef_30 : decode cJ2_indexOf_4cfef 30 = .ok (.iload_n 2, 1) := by decide +kernel
theorem dJ2_indexOf_4cfef_31 : decode cJ2_indexOf_4cfef 31 = .ok (.iload_n 3, 1) := by decide +kernel
theorem dJ2_indexOf_4cfef_32 : decode cJ2_indexOf_4cfef 32 = .ok (.invokestatic 228, 3) := by decide +kernel
theorem dJ2_indexOf_4cfef_35 : decode cJ2_indexOf_4cfef 35 = .ok (.ireturn, 1) := by decide +kernel
theorem dJ2_indexOf_4cfef_36 : decode cJ2_indexOf_4cfef 36 = .ok (.aload_n 0, 1) := by decide +kernel
theorem dJ2_indexOf_4cfef_37 : decode cJ2_indexOf_4cfef 37 = .ok (.iload_n 1, 1) := by decide +kernel
theorem dJ2_indexOf_4cfef_38 : decode cJ2_indexOf_4cfef 38 = .ok (.iload_n 2, 1) := by decide +kernel
theorem dJ2_indexOf_4cfef_39 : decode cJ2_indexOf_4cfef 39 = .ok (.iload_n 3, 1) := by decide +kernel
theorem dJ2_indexOf_4cfef_40 : decode cJ2_indexOf_4cfef 40 = .ok (.invokestatic 232, 3) := by decide +kernel
theorem dJ2_indexOf_4cfef_43 : decode cJ2_indexOf_4cfef 43 = .ok (.ireturn, 1) := by decide +kernel
theorem dJ2_indexOfChar_4cfef_0 : decode cJ2_indexOfChar_4cfef 0 = .ok (.iload_n 2, 1) := by decide +kernel
theorem dJ2_indexOfChar_4cfef_1 : decode cJ2_indexOfChar_4cfef 1 = .ok (.iload_n 3, 1) := by decide +kernel
theorem dJ2_indexOfChar_4cfef_2 : decode cJ2_indexOfChar_4cfef 2 = .ok (.aload_n 0, 1) := by decide +kernel
theorem dJ2_indexOfChar_4cfef_3 : decode cJ2_indexOfChar_4cfef 3 = .ok (.invokestatic 96, 3) := by decide +kernel
theorem dJ2_indexOfChar_4cfef_6 : decode cJ2_indexOfChar_4cfef 6 = .ok (.aload_n 0, 1) := by decide +kernel
theorem dJ2_indexOfChar_4cfef_7 : decode cJ2_indexOfChar_4cfef 7 = .ok (.iload_n 1, 1) := by decide +kernel
theorem dJ2_indexOfChar_4cfef_8 : decode cJ2_indexOfChar_4cfef 8 = .ok (.iload_n 2, 1) := by decide +kernel
theorem dJ2_indexOfChar_4cfef_9 : decode cJ2_indexOfChar_4cfef 9 = .ok (.iload_n 3, 1) := by decide +kernel
theorem dJ2_indexOfChar_4cfef_10 : decode cJ2_indexOfChar_4cfef 10 = .ok (.invokestatic 244, 3) := by decide +kernel
theorem dJ2_indexOfChar_4cfef_13 : decode cJ2_indexOfChar_4cfef 13 = .ok (.ireturn, 1) := by decide +kernel
theorem dJ2_indexOfCharUnsafe_4cfef_0 : decode cJ2_indexOfCharUnsafe_4cfef 0 = .ok (.iload_n 2, 1) := by decide +kernel
theorem dJ2_indexOfCharUnsafe_4cfef_1 : decode cJ2_indexOfCharUnsafe_4cfef 1 = .ok (.istore 4, 2) := by decide +kernel
theorem dJ2_indexOfCharUnsafe_4cfef_3 : decode cJ2_indexOfCharUnsafe_4cfef 3 = .ok (.iload 4, 2) := by decide +kernel
theorem dJ2_indexOfCharUnsafe_4cfef_5 : decode cJ2_indexOfCharUnsafe_4cfef 5 = .ok (.iload_n 3, 1) := by decide +kernel
theorem dJ2_indexOfCharUnsafe_4cfef_6 : decode cJ2_indexOfCharUnsafe_4cfef 6 = .ok (.if_icmp .ge 22, 3) := by decide +kernel
theorem dJ2_indexOfCharUnsafe_4cfef_9 : decode cJ2_indexOfCharUnsafe_4cfef 9 = .ok (.aload_n 0, 1) := by decide +kernel
theorem dJ2_indexOfCharUnsafe_4cfef_10 : decode cJ2_indexOfCharUnsafe_4cfef 10 = .ok (.iload 4, 2) := by decide +kernel
theorem dJ2_indexOfCharUnsafe_4cfef_12 : decode cJ2_indexOfCharUnsafe_4cfef 12 = .ok (.invokestatic 71, 3) := by decide +kernel
theorem dJ2_indexOfCharUnsafe_4cfef_15 : decode cJ2_indexOfCharUnsafe_4cfef 15 = .ok (.iload_n 1, 1) := by decide +kernel
theorem dJ2_indexOfCharUnsafe_4cfef_16 : decode cJ2_indexOfCharUnsafe_4cfef 16 = .ok (.if_icmp .ne 6, 3) := by decide +kernel
theorem dJ2_indexOfCharUnsafe_4cfef_19 : decode cJ2_indexOfCharUnsafe_4cfef 19 = .ok (.iload 4, 2) := by decide +kernel
theorem dJ2_indexOfCharUnsafe_4cfef_21 : decode cJ2_indexOfCharUnsafe_4cfef 21 = .ok (.ireturn, 1) := by decide +kernel
theorem dJ2_indexOfCharUnsafe_4cfef_22 : decode cJ2_indexOfCharUnsafe_4cfef 22 = .ok (.iinc 4 1, 3) := by decide +kernel
theorem dJ2_indexOfCharUnsafe_4cfef_25 : decode cJ2_indexOfCharUnsafe_4cfef 25 = .ok (.goto (-22), 3) := by decide +kernel
theorem dJ2_indexOfCharUnsafe_4cfef_28 : decode cJ2_indexOfCharUnsafe_4cfef 28 = .ok (.iconst (-1), 1) := by decide +kernel
theorem dJ2_indexOfCharUnsafe_4cfef_29 : decode cJ2_indexOfCharUnsafe_4cfef 29 = .ok (.ireturn, 1) := by decide +kernel
theorem dJ2_indexOfSupplementary_4cfef_0 : decode cJ2_indexOfSupplementary_4cfef 0 = .ok (.iload_n 1, 1) := by decide +kernel
theorem dJ2_indexOfSupplementary_4cfef_1 : decode cJ2_indexOfSupplementary_4cfef 1 = .ok (.invokestatic 164, 3) := by decide +kernel
theorem dJ2_indexOfSupplementary_4cfef_4 : decode cJ2_indexOfSupplementary_4cfef 4 = .ok (.ifCond .eq 65, 3) := by decide +kernel
theorem dJ2_indexOfSupplementary_4cfef_7 : decode cJ2_indexOfSupplementary_4cfef 7 = .ok (.iload_n 1, 1) := by decide +kernel
theorem dJ2_indexOfSupplementary_4cfef_8 : decode cJ2_indexOfSupplementary_4cfef 8 = .ok (.invokestatic 157, 3) := by decide +kernel
theorem dJ2_indexOfSupplementary_4cfef_11 : decode cJ2_indexOfSupplementary_4cfef 11 = .ok (.istore 4, 2) := by decide +kernel
theorem dJ2_indexOfSupplementary_4cfef_13 : decode cJ2_indexOfSupplementary_4cfef 13 = .ok (.iload_n 1, 1) := by decide +kernel
theorem dJ2_indexOfSupplementary_4cfef_14 : decode cJ2_indexOfSupplementary_4cfef 14 = .ok (.invokestatic 161, 3) := by decide +kernel
theorem dJ2_indexOfSupplementary_4cfef_17 : decode cJ2_indexOfSupplementary_4cfef 17 = .ok (.istore 5, 2) := by decide +kernel
theorem dJ2_indexOfSupplementary_4cfef_19 : decode cJ2_indexOfSupplementary_4cfef 19 = .ok (.iload_n 2, 1) := by decide +kernel
theorem dJ2_indexOfSupplementary_4cfef_20 : decode cJ2_indexOfSupplementary_4cfef 20 = .ok (.iload_n 3, 1) := by decide +kernel
theorem dJ2_indexOfSupplementary_4cfef_21 : decode cJ2_indexOfSupplementary_4cfef 21 = .ok (.aload_n 0, 1) := by decide +kernel
theorem dJ2_indexOfSupplementary_4cfef_22 : decode cJ2_indexOfSupplementary_4cfef 22 = .ok (.invokestatic 96, 3) := by decide +kernel
theorem dJ2_indexOfSupplementary_4cfef_25 : decode cJ2_indexOfSupplementary_4cfef 25 = .ok (.iload_n 2, 1) := by decide +kernel
theorem dJ2_indexOfSupplementary_4cfef_26 : decode cJ2_indexOfSupplementary_4cfef 26 = .ok (.istore 6, 2) := by decide +kernel
theorem dJ2_indexOfSupplementary_4cfef_28 : decode cJ2_indexOfSupplementary_4cfef 28 = .ok (.iload 6, 2) := by decide +kernel
theorem dJ2_indexOfSupplementary_4cfef_30 : decode cJ2_indexOfSupplementary_4cfef 30 = .ok (.iload_n 3, 1) := by decide +kernel
theorem dJ2_indexOfSupplementary_4cfef_31 : decode cJ2_indexOfSupplementary_4cfef 31 = .ok (.iconst 1, 1) := by decide +kernel
theorem dJ2_indexOfSupplementary_4cfef_32 : decode cJ2_indexOfSupplementary_4cfef 32 = .ok (.isub, 1) := by decide +kernel
theorem dJ2_indexOfSupplementary_4cfef_33 : decode cJ2_indexOfSupplementary_4cfef 33 = .ok (.if_icmp .ge 36, 3) := by decide +kernel
theorem dJ2_indexOfSupplementary_4cfef_36 : decode cJ2_indexOfSupplementary_4cfef 36 = .ok (.aload_n 0, 1) := by decide +kernel
theorem dJ2_indexOfSupplementary_4cfef_37 : decode cJ2_indexOfSupplementary_4cfef 37 = .ok (.iload 6, 2) := by decide +kernel
theorem dJ2_indexOfSupplementary_4cfef_39 : decode cJ2_indexOfSupplementary_4cfef 39 = .ok (.invokestatic 71, 3) := by decide +kernel
theorem dJ2_indexOfSupplementary_4cfef_42 : decode cJ2_indexOfSupplementary_4cfef 42 = .ok (.iload 4, 2) := by decide +kernel
theorem dJ2_indexOfSupplementary_4cfef_44 : decode cJ2_indexOfSupplementary_4cfef 44 = .ok (.if_icmp .ne 19, 3) := by decide +kernel
theorem dJ2_indexOfSupplementary_4cfef_47 : decode cJ2_indexOfSupplementary_4cfef 47 = .ok (.aload_n 0, 1) := by decide +kernel
theorem dJ2_indexOfSupplementary_4cfef_48 : decode cJ2_indexOfSupplementary_4cfef 48 = .ok (.iload 6, 2) := by decide +kernel
theorem dJ2_indexOfSupplementary_4cfef_50 : decode cJ2_indexOfSupplementary_4cfef 50 = .ok (.iconst 1, 1) := by decide +kernel
theorem dJ2_indexOfSupplementary_4cfef_51 : decode cJ2_indexOfSupplementary_4cfef 51 = .ok (.iadd, 1) := by decide +kernel
theorem dJ2_indexOfSupplementary_4cfef_52 : decode cJ2_indexOfSupplementary_4cfef 52 = .ok (.invokestatic 71, 3) := by decide +kernel
theorem dJ2_indexOfSupplementary_4cfef_55 : decode cJ2_indexOfSupplementary_4cfef 55 = .ok (.iload 5, 2) := by decide +kernel
theorem dJ2_indexOfSupplementary_4cfef_57 : decode cJ2_indexOfSupplementary_4cfef 57 = .ok (.if_icmp .ne 6, 3) := by decide +kernel
theorem dJ2_indexOfSupplementary_4cfef_60 : decode cJ2_indexOfSupplementary_4cfef 60 = .ok (.iload 6, 2) := by decide +kernel
theorem dJ2_indexOfSupplementary_4cfef_62 : decode cJ2_indexOfSupplementary_4cfef 62 = .ok (.ireturn, 1) := by decide +kernel
theorem dJ2_indexOfSupplementary_4cfef_63 : decode cJ2_indexOfSupplementary_4cfef 63 = .ok (.iinc 6 1, 3) := by decide +kernel
theorem dJ2_indexOfSupplementary_4cfef_66 : decode cJ2_indexOfSupplementary_4cfef 66 = .ok (.goto (-38), 3) := by decide +kernel
theorem dJ2_indexOfSupplementary_4cfef_69 : decode cJ2_indexOfSupplementary_4cfef 69 = .ok (.iconst (-1), 1) := by decide +kernel
theorem dJ2_indexOfSupplementary_4cfef_70 : decode cJ2_indexOfSupplementary_4cfef 70 = .ok (.ireturn, 1) := by decide +kernel
theorem dJ2_charAt_3b067_0 : decode cJ2_charAt_3b067 0 = .ok (.iload_n 1, 1) := by decide +kernel
theorem dJ2_charAt_3b067_1 : decode cJ2_charAt_3b067 1 = .ok (.aload_n 0, 1) := by decide +kernel
theorem dJ2_charAt_3b067_2 : decode cJ2_charAt_3b067 2 = .ok (.invokestatic 67, 3) := by decide +kernel
theorem dJ2_charAt_3b067_5 : decode cJ2_charAt_3b067 5 = .ok (.aload_n 0, 1) := by decide +kernel
theorem dJ2_charAt_3b067_6 : decode cJ2_charAt_3b067 6 = .ok (.iload_n 1, 1) := by decide +kernel
theorem dJ2_charAt_3b067_7 : decode cJ2_charAt_3b067 7 = .ok (.invokestatic 71, 3) := by decide +kernel
theorem dJ2_charAt_3b067_10 : decode cJ2_charAt_3b067 10 = .ok (.ireturn, 1) := by decide +kernel
theorem dJ2_checkIndex_2214a_0 : decode cJ2_checkIndex_2214a 0 = .ok (.iload_n 0, 1) := by decide +kernel
theorem dJ2_checkIndex_2214a_1 : decode cJ2_checkIndex_2214a 1 = .ok (.aload_n 1, 1) := by decide +kernel
theorem dJ2_checkIndex_2214a_2 : decode cJ2_checkIndex_2214a 2 = .ok (.invokestatic 48, 3) := by decide +kernel
theorem dJ2_checkIndex_2214a_5 : decode cJ2_checkIndex_2214a 5 = .ok (.invokestatic 414, 3) := by decide +kernel
theorem dJ2_checkIndex_2214a_8 : decode cJ2_checkIndex_2214a 8 = .ok (.return_, 1) := by decide +kernel
theorem dJ2_checkBoundsBeginEnd_d044e_0 : decode cJ2_checkBoundsBeginEnd_d044e 0 = .ok (.iload_n 0, 1) := by decide +kernel
theorem dJ2_checkBoundsBeginEnd_d044e_1 : decode cJ2_checkBoundsBeginEnd_d044e 1 = .ok (.iload_n 1, 1) := by decide +kernel
theorem dJ2_checkBoundsBeginEnd_d044e_2 : decode cJ2_checkBoundsBeginEnd_d044e 2 = .ok (.aload_n 2, 1) := by decide +kernel
theorem dJ2_checkBoundsBeginEnd_d044e_3 : decode cJ2_checkBoundsBeginEnd_d044e 3 = .ok (.invokestatic 48, 3) := by decide +kernel
theorem dJ2_checkBoundsBeginEnd_d044e_6 : decode cJ2_checkBoundsBeginEnd_d044e 6 = .ok (.invokestatic 241, 3) := by decide +kernel
theorem dJ2_checkBoundsBeginEnd_d044e_9 : decode cJ2_checkBoundsBeginEnd_d044e 9 = .ok (.return_, 1) := by decide +kernel
theorem dJ3_checkIndex_8e157_0 : decode cJ3_checkIndex_8e157 0 = .ok (.iload_n 0, 1) := by decide +kernel
theorem dJ3_checkIndex_8e157_1 : decode cJ3_checkIndex_8e157 1 = .ok (.ifCond .lt 8, 3) := by decide +kernel
theorem dJ3_checkIndex_8e157_4 : decode cJ3_checkIndex_8e157 4 = .ok (.iload_n 0, 1) := by decide +kernel
theorem dJ3_checkIndex_8e157_5 : decode cJ3_checkIndex_8e157 5 = .ok (.iload_n 1, 1) := by decide +kernel
theorem dJ3_checkIndex_8e157_6 : decode cJ3_checkIndex_8e157 6 = .ok (.if_icmp .lt 10, 3) := by decide +kernel
theorem dJ3_checkIndex_8e157_9 : decode cJ3_checkIndex_8e157 9 = .ok (.aload_n 2, 1) := by decide +kernel
theorem dJ3_checkIndex_8e157_10 : decode cJ3_checkIndex_8e157 10 = .ok (.iload_n 0, 1) := by decide +kernel
theorem dJ3_checkIndex_8e157_11 : decode cJ3_checkIndex_8e157 11 = .ok (.iload_n 1, 1) := by decide +kernel
theorem dJ3_checkIndex_8e157_12 : decode cJ3_checkIndex_8e157 12 = .ok (.invokestatic 95, 3) := by decide +kernel
theorem dJ3_checkIndex_8e157_15 : decode cJ3_checkIndex_8e157 15 = .ok (.athrow, 1) := by decide +kernel
theorem dJ3_checkIndex_8e157_16 : decode cJ3_checkIndex_8e157 16 = .ok (.iload_n 0, 1) := by decide +kernel
theorem dJ3_checkIndex_8e157_17 : decode cJ3_checkIndex_8e157 17 = .ok (.ireturn, 1) := by decide +kernel
theorem dJ3_checkFromToIndex_8c36e_0 : decode cJ3_checkFromToIndex_8c36e 0 = .ok (.iload_n 0, 1) := by decide +kernel
theorem dJ3_checkFromToIndex_8c36e_1 : decode cJ3_checkFromToIndex_8c36e 1 = .ok (.ifCond .lt 13, 3) := by decide +kernel
theorem dJ3_checkFromToIndex_8c36e_4 : decode cJ3_checkFromToIndex_8c36e 4 = .ok (.iload_n 0, 1) := by decide +kernel
theorem dJ3_checkFromToIndex_8c36e_5 : decode cJ3_checkFromToIndex_8c36e 5 = .ok (.iload_n 1, 1) := by decide +kernel
theorem dJ3_checkFromToIndex_8c36e_6 : decode cJ3_checkFromToIndex_8c36e 6 = .ok (.if_icmp .gt 8, 3) := by decide +kernel
theorem dJ3_checkFromToIndex_8c36e_9 : decode cJ3_checkFromToIndex_8c36e 9 = .ok (.iload_n 1, 1) := by decide +kernel
theorem dJ3_checkFromToIndex_8c36e_10 : decode cJ3_checkFromToIndex_8c36e 10 = .ok (.iload_n 2, 1) := by decide +kernel
theorem dJ3_checkFromToIndex_8c36e_11 : decode cJ3_checkFromToIndex_8c36e 11 = .ok (.if_icmp .le 11, 3) := by decide +kernel
theorem dJ3_checkFromToIndex_8c36e_14 : decode cJ3_checkFromToIndex_8c36e 14 = .ok (.aload_n 3, 1) := by decide +kernel
theorem dJ3_checkFromToIndex_8c36e_15 : decode cJ3_checkFromToIndex_8c36e 15 = .ok (.iload_n 0, 1) := by decide +kernel
theorem dJ3_checkFromToIndex_8c36e_16 : decode cJ3_checkFromToIndex_8c36e 16 = .ok (.iload_n 1, 1) := by decide +kernel
theorem dJ3_checkFromToIndex_8c36e_17 : decode cJ3_checkFromToIndex_8c36e 17 = .ok (.iload_n 2, 1) := by decide +kernel
theorem dJ3_checkFromToIndex_8c36e_18 : decode cJ3_checkFromToIndex_8c36e 18 = .ok (.invokestatic 99, 3) := by decide +kernel
theorem dJ3_checkFromToIndex_8c36e_21 : decode cJ3_checkFromToIndex_8c36e 21 = .ok (.athrow, 1) := by decide +kernel
theorem dJ3_checkFromToIndex_8c36e_22 : decode cJ3_checkFromToIndex_8c36e 22 = .ok (.iload_n 0, 1) := by decide +kernel
theorem dJ3_checkFromToIndex_8c36e_23 : decode cJ3_checkFromToIndex_8c36e 23 = .ok (.ireturn, 1) := by decide +kernel
theorem dJ6_bitCount_0f7a4_0 : decode cJ6_bitCount_0f7a4 0 = .ok (.iload_n 0, 1) := by decide +kernel
theorem dJ6_bitCount_0f7a4_1 : decode cJ6_bitCount_0f7a4 1 = .ok (.iload_n 0, 1) := by decide +kernel
theorem dJ6_bitCount_0f7a4_2 : decode cJ6_bitCount_0f7a4 2 = .ok (.iconst 1, 1) := by decide +kernel
theorem dJ6_bitCount_0f7a4_3 : decode cJ6_bitCount_0f7a4 3 = .ok (.iushr, 1) := by decide +kernel
theorem dJ6_bitCount_0f7a4_4 : decode cJ6_bitCount_0f7a4 4 = .ok (.ldc_w 265, 3) := by decide +kernel
theorem dJ6_bitCount_0f7a4_7 : decode cJ6_bitCount_0f7a4 7 = .ok (.iand, 1) := by decide +kernel
theorem dJ6_bitCount_0f7a4_8 : decode cJ6_bitCount_0f7a4 8 = .ok (.isub, 1) := by decide +kernel
theorem dJ6_bitCount_0f7a4_9 : decode cJ6_bitCount_0f7a4 9 = .ok (.istore_n 0, 1) := by decide +kernel
theorem dJ6_bitCount_0f7a4_10 : decode cJ6_bitCount_0f7a4 10 = .ok (.iload_n 0, 1) := by decide +kernel
theorem dJ6_bitCount_0f7a4_11 : decode cJ6_bitCount_0f7a4 11 = .ok (.ldc_w 266, 3) := by decide +kernel
theorem dJ6_bitCount_0f7a4_14 : decode cJ6_bitCount_0f7a4 14 = .ok (.iand, 1) := by decide +kernel
theorem dJ6_bitCount_0f7a4_15 : decode cJ6_bitCount_0f7a4 15 = .ok (.iload_n 0, 1) := by decide +kernel
theorem dJ6_bitCount_0f7a4_16 : decode cJ6_bitCount_0f7a4 16 = .ok (.iconst 2, 1) := by decide +kernel
theorem dJ6_bitCount_0f7a4_17 : decode cJ6_bitCount_0f7a4 17 = .ok (.iushr, 1) := by decide +kernel
theorem dJ6_bitCount_0f7a4_18 : decode cJ6_bitCount_0f7a4 18 = .ok (.ldc_w 266, 3) := by decide +kernel
theorem dJ6_bitCount_0f7a4_21 : decode cJ6_bitCount_0f7a4 21 = .ok (.iand, 1) := by decide +kernel
theorem dJ6_bitCount_0f7a4_22 : decode cJ6_bitCount_0f7a4 22 = .ok (.iadd, 1) := by decide +kernel
theorem dJ6_bitCount_0f7a4_23 : decode cJ6_bitCount_0f7a4 23 = .ok (.istore_n 0, 1) := by decide +kernel
theorem dJ6_bitCount_0f7a4_24 : decode cJ6_bitCount_0f7a4 24 = .ok (.iload_n 0, 1) := by decide +kernel
theorem dJ6_bitCount_0f7a4_25 : decode cJ6_bitCount_0f7a4 25 = .ok (.iload_n 0, 1) := by decide +kernel
theorem dJ6_bitCount_0f7a4_26 : decode cJ6_bitCount_0f7a4 26 = .ok (.iconst 4, 1) := by decide +kernel
theorem dJ6_bitCount_0f7a4_27 : decode cJ6_bitCount_0f7a4 27 = .ok (.iushr, 1) := by decide +kernel
theorem dJ6_bitCount_0f7a4_28 : decode cJ6_bitCount_0f7a4 28 = .ok (.iadd, 1) := by decide +kernel
theorem dJ6_bitCount_0f7a4_29 : decode cJ6_bitCount_0f7a4 29 = .ok (.ldc_w 267, 3) := by decide +kernel
theorem dJ6_bitCount_0f7a4_32 : decode cJ6_bitCount_0f7a4 32 = .ok (.iand, 1) := by decide +kernel
theorem dJ6_bitCount_0f7a4_33 : decode cJ6_bitCount_0f7a4 33 = .ok (.istore_n 0, 1) := by decide +kernel
theorem dJ6_bitCount_0f7a4_34 : decode cJ6_bitCount_0f7a4 34 = .ok (.iload_n 0, 1) := by decide +kernel
theorem dJ6_bitCount_0f7a4_35 : decode cJ6_bitCount_0f7a4 35 = .ok (.iload_n 0, 1) := by decide +kernel
theorem dJ6_bitCount_0f7a4_36 : decode cJ6_bitCount_0f7a4 36 = .ok (.bipush 8, 2) := by decide +kernel
theorem dJ6_bitCount_0f7a4_38 : decode cJ6_bitCount_0f7a4 38 = .ok (.iushr, 1) := by decide +kernel
theorem dJ6_bitCount_0f7a4_39 : decode cJ6_bitCount_0f7a4 39 = .ok (.iadd, 1) := by decide +kernel
theorem dJ6_bitCount_0f7a4_40 : decode cJ6_bitCount_0f7a4 40 = .ok (.istore_n 0, 1) := by decide +kernel
theorem dJ6_bitCount_0f7a4_41 : decode cJ6_bitCount_0f7a4 41 = .ok (.iload_n 0, 1) := by decide +kernel
theorem dJ6_bitCount_0f7a4_42 : decode cJ6_bitCount_0f7a4 42 = .ok (.iload_n 0, 1) := by decide +kernel
theorem dJ6_bitCount_0f7a4_43 : decode cJ6_bitCount_0f7a4 43 = .ok (.bipush 16, 2) := by decide +kernel
theorem dJ6_bitCount_0f7a4_45 : decode cJ6_bitCount_0f7a4 45 = .ok (.iushr, 1) := by decide +kernel
theorem dJ6_bitCount_0f7a4_46 : decode cJ6_bitCount_0f7a4 46 = .ok (.iadd, 1) := by decide +kernel
theorem dJ6_bitCount_0f7a4_47 : decode cJ6_bitCount_0f7a4 47 = .ok (.istore_n 0, 1) := by decide +kernel
theorem dJ6_bitCount_0f7a4_48 : decode cJ6_bitCount_0f7a4 48 = .ok (.iload_n 0, 1) := by decide +kernel
theorem dJ6_bitCount_0f7a4_49 : decode cJ6_bitCount_0f7a4 49 = .ok (.bipush 63, 2) := by decide +kernel
theorem dJ6_bitCount_0f7a4_51 : decode cJ6_bitCount_0f7a4 51 = .ok (.iand, 1) := by decide +kernel
theorem dJ6_bitCount_0f7a4_52 : decode cJ6_bitCount_0f7a4 52 = .ok (.ireturn, 1) := by decide +kernel
theorem dJ7_fill_d0a16_0 : decode cJ7_fill_d0a16 0 = .ok (.iconst 0, 1) := by decide +kernel
theorem dJ7_fill_d0a16_1 : decode cJ7_fill_d0a16 1 = .ok (.istore_n 3, 1) := by decide +kernel
theorem dJ7_fill_d0a16_2 : decode cJ7_fill_d0a16 2 = .ok (.aload_n 0, 1) := by decide +kernel
theorem dJ7_fill_d0a16_3 : decode cJ7_fill_d0a16 3 = .ok (.arraylength, 1) := by decide +kernel
theorem dJ7_fill_d0a16_4 : decode cJ7_fill_d0a16 4 = .ok (.istore 4, 2) := by decide +kernel
theorem dJ7_fill_d0a16_6 : decode cJ7_fill_d0a16 6 = .ok (.iload_n 3, 1) := by decide +kernel
theorem dJ7_fill_d0a16_7 : decode cJ7_fill_d0a16 7 = .ok (.iload 4, 2) := by decide +kernel
theorem dJ7_fill_d0a16_9 : decode cJ7_fill_d0a16 9 = .ok (.if_icmp .ge 13, 3) := by decide +kernel
theorem dJ7_fill_d0a16_12 : decode cJ7_fill_d0a16 12 = .ok (.aload_n 0, 1) := by decide +kernel
theorem dJ7_fill_d0a16_13 : decode cJ7_fill_d0a16 13 = .ok (.iload_n 3, 1) := by decide +kernel
theorem dJ7_fill_d0a16_14 : decode cJ7_fill_d0a16 14 = .ok (.lload_n 1, 1) := by decide +kernel
theorem dJ7_fill_d0a16_15 : decode cJ7_fill_d0a16 15 = .ok (.lastore, 1) := by decide +kernel
theorem dJ7_fill_d0a16_16 : decode cJ7_fill_d0a16 16 = .ok (.iinc 3 1, 3) := by decide +kernel
theorem dJ7_fill_d0a16_19 : decode cJ7_fill_d0a16 19 = .ok (.goto (-13), 3) := by decide +kernel
theorem dJ7_fill_d0a16_22 : decode cJ7_fill_d0a16 22 = .ok (.return_, 1) := by decide +kernel
theorem dJ7_fill_53178_0 : decode cJ7_fill_53178 0 = .ok (.iconst 0, 1) := by decide +kernel
theorem dJ7_fill_53178_1 : decode cJ7_fill_53178 1 = .ok (.istore_n 2, 1) := by decide +kernel
theorem dJ7_fill_53178_2 : decode cJ7_fill_53178 2 = .ok (.aload_n 0, 1) := by decide +kernel
theorem dJ7_fill_53178_3 : decode cJ7_fill_53178 3 = .ok (.arraylength, 1) := by decide +kernel
theorem dJ7_fill_53178_4 : decode cJ7_fill_53178 4 = .ok (.istore_n 3, 1) := by decide +kernel
theorem dJ7_fill_53178_5 : decode cJ7_fill_53178 5 = .ok (.iload_n 2, 1) := by decide +kernel
theorem dJ7_fill_53178_6 : decode cJ7_fill_53178 6 = .ok (.iload_n 3, 1) := by decide +kernel
theorem dJ7_fill_53178_7 : decode cJ7_fill_53178 7 = .ok (.if_icmp .ge 13, 3) := by decide +kernel
theorem dJ7_fill_53178_10 : decode cJ7_fill_53178 10 = .ok (.aload_n 0, 1) := by decide +kernel
theorem dJ7_fill_53178_11 : decode cJ7_fill_53178 11 = .ok (.iload_n 2, 1) := by decide +kernel
theorem dJ7_fill_53178_12 : decode cJ7_fill_53178 12 = .ok (.iload_n 1, 1) := by decide +kernel
theorem dJ7_fill_53178_13 : decode cJ7_fill_53178 13 = .ok (.iastore, 1) := by decide +kernel
theorem dJ7_fill_53178_14 : decode cJ7_fill_53178 14 = .ok (.iinc 2 1, 3) := by decide +kernel
theorem dJ7_fill_53178_17 : decode cJ7_fill_53178 17 = .ok (.goto (-12), 3) := by decide +kernel
theorem dJ7_fill_53178_20 : decode cJ7_fill_53178 20 = .ok (.return_, 1) := by decide +kernel
theorem dJ9_max_7cf53_0 : decode cJ9_max_7cf53 0 = .ok (.iload_n 0, 1) := by decide +kernel
theorem dJ9_max_7cf53_1 : decode cJ9_max_7cf53 1 = .ok (.iload_n 1, 1) := by decide +kernel
theorem dJ9_max_7cf53_2 : decode cJ9_max_7cf53 2 = .ok (.if_icmp .lt 7, 3) := by decide +kernel
theorem dJ9_max_7cf53_5 : decode cJ9_max_7cf53 5 = .ok (.iload_n 0, 1) := by decide +kernel
theorem dJ9_max_7cf53_6 : decode cJ9_max_7cf53 6 = .ok (.goto 4, 3) := by decide +kernel
theorem dJ9_max_7cf53_9 : decode cJ9_max_7cf53 9 = .ok (.iload_n 1, 1) := by decide +kernel
theorem dJ9_max_7cf53_10 : decode cJ9_max_7cf53 10 = .ok (.ireturn, 1) := by decide +kernel
theorem dJ9_min_7cf53_0 : decode cJ9_min_7cf53 0 = .ok (.iload_n 0, 1) := by decide +kernel
theorem dJ9_min_7cf53_1 : decode cJ9_min_7cf53 1 = .ok (.iload_n 1, 1) := by decide +kernel
theorem dJ9_min_7cf53_2 : decode cJ9_min_7cf53 2 = .ok (.if_icmp .gt 7, 3) := by decide +kernel
theorem dJ9_min_7cf53_5 : decode cJ9_min_7cf53 5 = .ok (.iload_n 0, 1) := by decide +kernel
theorem dJ9_min_7cf53_6 : decode cJ9_min_7cf53 6 = .ok (.goto 4, 3) := by decide +kernel
theorem dJ9_min_7cf53_9 : decode cJ9_min_7cf53 9 = .ok (.iload_n 1, 1) := by decide +kernel
theorem dJ9_min_7cf53_10 : decode cJ9_min_7cf53 10 = .ok (.ireturn, 1) := by decide +kernel
theorem dJ11_isValidCodePoint_9a6ad_0 : decode cJ11_isValidCodePoint_9a6ad 0 = .ok (.iload_n 0, 1) := by decide +kernel
theorem dJ11_isValidCodePoint_9a6ad_1 : decode cJ11_isValidCodePoint_9a6ad 1 = .ok (.bipush 16, 2) := by decide +kernel
theorem dJ11_isValidCodePoint_9a6ad_3 : decode cJ11_isValidCodePoint_9a6ad 3 = .ok (.iushr, 1) := by decide +kernel
theorem dJ11_isValidCodePoint_9a6ad_4 : decode cJ11_isValidCodePoint_9a6ad 4 = .ok (.istore_n 1, 1) := by decide +kernel
theorem dJ11_isValidCodePoint_9a6ad_5 : decode cJ11_isValidCodePoint_9a6ad 5 = .ok (.iload_n 1, 1) := by decide +kernel
theorem dJ11_isValidCodePoint_9a6ad_6 : decode cJ11_isValidCodePoint_9a6ad 6 = .ok (.bipush 17, 2) := by decide +kernel
theorem dJ11_isValidCodePoint_9a6ad_8 : decode cJ11_isValidCodePoint_9a6ad 8 = .ok (.if_icmp .ge 7, 3) := by decide +kernel
theorem dJ11_isValidCodePoint_9a6ad_11 : decode cJ11_isValidCodePoint_9a6ad 11 = .ok (.iconst 1, 1) := by decide +kernel
theorem dJ11_isValidCodePoint_9a6ad_12 : decode cJ11_isValidCodePoint_9a6ad 12 = .ok (.goto 4, 3) := by decide +kernel
theorem dJ11_isValidCodePoint_9a6ad_15 : decode cJ11_isValidCodePoint_9a6ad 15 = .ok (.iconst 0, 1) := by decide +kernel
theorem dJ11_isValidCodePoint_9a6ad_16 : decode cJ11_isValidCodePoint_9a6ad 16 = .ok (.ireturn, 1) := by decide +kernel
theorem dJ11_highSurrogate_5068e_0 : decode cJ11_highSurrogate_5068e 0 = .ok (.iload_n 0, 1) := by decide +kernel
theorem dJ11_highSurrogate_5068e_1 : decode cJ11_highSurrogate_5068e 1 = .ok (.bipush 10, 2) := by decide +kernel
theorem dJ11_highSurrogate_5068e_3 : decode cJ11_highSurrogate_5068e 3 = .ok (.iushr, 1) := by decide +kernel
theorem dJ11_highSurrogate_5068e_4 : decode cJ11_highSurrogate_5068e 4 = .ok (.ldc 110, 2) := by decide +kernel
theorem dJ11_highSurrogate_5068e_6 : decode cJ11_highSurrogate_5068e 6 = .ok (.iadd, 1) := by decide +kernel
theorem dJ11_highSurrogate_5068e_7 : decode cJ11_highSurrogate_5068e 7 = .ok (.i2c, 1) := by decide +kernel
theorem dJ11_highSurrogate_5068e_8 : decode cJ11_highSurrogate_5068e 8 = .ok (.ireturn, 1) := by decide +kernel
theorem dJ11_lowSurrogate_5068e_0 : decode cJ11_lowSurrogate_5068e 0 = .ok (.iload_n 0, 1) := by decide +kernel
theorem dJ11_lowSurrogate_5068e_1 : decode cJ11_lowSurrogate_5068e 1 = .ok (.sipush 1023, 3) := by decide +kernel
theorem dJ11_lowSurrogate_5068e_4 : decode cJ11_lowSurrogate_5068e 4 = .ok (.iand, 1) := by decide +kernel
theorem dJ11_lowSurrogate_5068e_5 : decode cJ11_lowSurrogate_5068e 5 = .ok (.ldc 76, 2) := by decide +kernel
theorem dJ11_lowSurrogate_5068e_7 : decode cJ11_lowSurrogate_5068e 7 = .ok (.iadd, 1) := by decide +kernel
theorem dJ11_lowSurrogate_5068e_8 : decode cJ11_lowSurrogate_5068e 8 = .ok (.i2c, 1) := by decide +kernel
theorem dJ11_lowSurrogate_5068e_9 : decode cJ11_lowSurrogate_5068e 9 = .ok (.ireturn, 1) := by decide +kernel
theorem dX0_init_0 : decode cX0_init 0 = .ok (.aload_n 0, 1) := by decide +kernel
theorem dX0_init_1 : decode cX0_init 1 = .ok (.invokespecial 3, 3) := by decide +kernel
theorem dX0_init_4 : decode cX0_init 4 = .ok (.aload_n 0, 1) := by decide +kernel
theorem dX0_init_5 : decode cX0_init 5 = .ok (.bipush 20, 2) := by decide +kernel
theorem dX0_init_7 : decode cX0_init 7 = .ok (.newarray .int, 2) := by decide +kernel
theorem dX0_init_9 : decode cX0_init 9 = .ok (.putfield 9, 3) := by decide +kernel
theorem dX0_init_12 : decode cX0_init 12 = .ok (.return_, 1) := by decide +kernel
theorem dX0_begin_0 : decode cX0_begin 0 = .ok (.aload_n 0, 1) := by decide +kernel
theorem dX0_begin_1 : decode cX0_begin 1 = .ok (.aload_n 1, 1) := by decide +kernel
theorem dX0_begin_2 : decode cX0_begin 2 = .ok (.getfield 15, 3) := by decide +kernel
theorem dX0_begin_5 : decode cX0_begin 5 = .ok (.putfield 21, 3) := by decide +kernel
theorem dX0_begin_8 : decode cX0_begin 8 = .ok (.aload_n 0, 1) := by decide +kernel
theorem dX0_begin_9 : decode cX0_begin 9 = .ok (.aload_n 1, 1) := by decide +kernel
theorem dX0_begin_10 : decode cX0_begin 10 = .ok (.getfield 22, 3) := by decide +kernel
theorem dX0_begin_13 : decode cX0_begin 13 = .ok (.putfield 25, 3) := by decide +kernel
theorem dX0_begin_16 : decode cX0_begin 16 = .ok (.aload_n 0, 1) := by decide +kernel
theorem dX0_begin_17 : decode cX0_begin 17 = .ok (.iload_n 2, 1) := by decide +kernel
theorem dX0_begin_18 : decode cX0_begin 18 = .ok (.putfield 26, 3) := by decide +kernel
theorem dX0_begin_21 : decode cX0_begin 21 = .ok (.aload_n 0, 1) := by decide +kernel
theorem dX0_begin_22 : decode cX0_begin 22 = .ok (.iconst 0, 1) := by decide +kernel
theorem dX0_begin_23 : decode cX0_begin 23 = .ok (.putfield 29, 3) := by decide +kernel
theorem dX0_begin_26 : decode cX0_begin 26 = .ok (.aload_n 0, 1) := by decide +kernel
theorem dX0_begin_27 : decode cX0_begin 27 = .ok (.aload_n 0, 1) := by decide +kernel
theorem dX0_begin_28 : decode cX0_begin 28 = .ok (.getfield 21, 3) := by decide +kernel
theorem dX0_begin_31 : decode cX0_begin 31 = .ok (.iload_n 3, 1) := by decide +kernel
theorem dX0_begin_32 : decode cX0_begin 32 = .ok (.iload 4, 2) := by decide +kernel
theorem dX0_begin_34 : decode cX0_begin 34 = .ok (.iconst 0, 1) := by decide +kernel
theorem dX0_begin_35 : decode cX0_begin 35 = .ok (.invokevirtual 32, 3) := by decide +kernel
theorem dX0_begin_38 : decode cX0_begin 38 = .ok (.ireturn, 1) := by decide +kernel
theorem dX0_perform_0 : decode cX0_perform 0 = .ok (.iload_n 1, 1) := by decide +kernel
theorem dX0_perform_1 : decode cX0_perform 1 = .ok (.istore 5, 2) := by decide +kernel
theorem dX0_perform_3 : decode cX0_perform 3 = .ok (.iconst 0, 1) := by decide +kernel
theorem dX0_perform_4 : decode cX0_perform 4 = .ok (.istore 6, 2) := by decide +kernel
theorem dX0_perform_6 : decode cX0_perform 6 = .ok (.iload 6, 2) := by decide +kernel
theorem dX0_perform_8 : decode cX0_perform 8 = .ok (.bipush 7, 2) := by decide +kernel
theorem dX0_perform_10 : decode cX0_perform 10 = .ok (.if_icmp .ge 35, 3) := by decide +kernel
theorem dX0_perform_13 : decode cX0_perform 13 = .ok (.iload 5, 2) := by decide +kernel
theorem dX0_perform_15 : decode cX0_perform 15 = .ok (.ifCond .lt 30, 3) := by decide +kernel
theorem dX0_perform_18 : decode cX0_perform 18 = .ok (.getstatic 36, 3) := by decide +kernel
theorem dX0_perform_21 : decode cX0_perform 21 = .ok (.iload 5, 2) := by decide +kernel
theorem dX0_perform_23 : decode cX0_perform 23 = .ok (.iconst 3, 1) := by decide +kernel
theorem dX0_perform_24 : decode cX0_perform 24 = .ok (.imul, 1) := by decide +kernel
theorem dX0_perform_25 : decode cX0_perform 25 = .ok (.iload_n 2, 1) := by decide +kernel
theorem dX0_perform_26 : decode cX0_perform 26 = .ok (.iadd, 1) := by decide +kernel
theorem dX0_perform_27 : decode cX0_perform 27 = .ok (.iaload, 1) := by decide +kernel
theorem dX0_perform_28 : decode cX0_perform 28 = .ok (.ifCond .ne 17, 3) := by decide +kernel
theorem dX0_perform_31 : decode cX0_perform 31 = .ok (.getstatic 39, 3) := by decide +kernel
theorem dX0_perform_34 : decode cX0_perform 34 = .ok (.iload 5, 2) := by decide +kernel
theorem dX0_perform_36 : decode cX0_perform 36 = .ok (.iaload, 1) := by decide +kernel
theorem dX0_perform_37 : decode cX0_perform 37 = .ok (.istore 5, 2) := by decide +kernel
theorem dX0_perform_39 : decode cX0_perform 39 = .ok (.iinc 6 1, 3) := by decide +kernel
theorem dX0_perform_42 : decode cX0_perform 42 = .ok (.goto (-36), 3) := by decide +kernel
theorem dX0_perform_45 : decode cX0_perform 45 = .ok (.iload 5, 2) := by decide +kernel
theorem dX0_perform_47 : decode cX0_perform 47 = .ok (.ifCond .lt 10, 3) := by decide +kernel
theorem dX0_perform_50 : decode cX0_perform 50 = .ok (.iload 4, 2) := by decide +kernel
theorem dX0_perform_52 : decode cX0_perform 52 = .ok (.bipush 40, 2) := by decide +kernel
theorem dX0_perform_54 : decode cX0_perform 54 = .ok (.if_icmp .le 5, 3) := by decide +kernel
theorem dX0_perform_57 : decode cX0_perform 57 = .ok (.iconst 0, 1) := by decide +kernel
theorem dX0_perform_58 : decode cX0_perform 58 = .ok (.ireturn, 1) := by decide +kernel
theorem dX0_perform_59 : decode cX0_perform 59 = .ok (.getstatic 36, 3) := by decide +kernel
theorem dX0_perform_62 : decode cX0_perform 62 = .ok (.iload 5, 2) := by decide +kernel
theorem dX0_perform_64 : decode cX0_perform 64 = .ok (.iconst 3, 1) := by decide +kernel
theorem dX0_perform_65 : decode cX0_perform 65 = .ok (.imul, 1) := by decide +kernel
theorem dX0_perform_66 : decode cX0_perform 66 = .ok (.iload_n 2, 1) := by decide +kernel
theorem dX0_perform_67 : decode cX0_perform 67 = .ok (.iadd, 1) := by decide +kernel
theorem dX0_perform_68 : decode cX0_perform 68 = .ok (.iaload, 1) := by decide +kernel
theorem dX0_perform_69 : decode cX0_perform 69 = .ok (.istore 6, 2) := by decide +kernel
theorem dX0_perform_71 : decode cX0_perform 71 = .ok (.aload_n 0, 1) := by decide +kernel
theorem dX0_perform_72 : decode cX0_perform 72 = .ok (.getfield 29, 3) := by decide +kernel
theorem dX0_perform_75 : decode cX0_perform 75 = .ok (.bipush 20, 2) := by decide +kernel
theorem dX0_perform_77 : decode cX0_perform 77 = .ok (.if_icmp .ge 14, 3) := by decide +kernel
theorem dX0_perform_80 : decode cX0_perform 80 = .ok (.aload_n 0, 1) := by decide +kernel
theorem dX0_perform_81 : decode cX0_perform 81 = .ok (.getfield 9, 3) := by decide +kernel
theorem dX0_perform_84 : decode cX0_perform 84 = .ok (.aload_n 0, 1) := by decide +kernel
theorem dX0_perform_85 : decode cX0_perform 85 = .ok (.getfield 29, 3) := by decide +kernel
theorem dX0_perform_88 : decode cX0_perform 88 = .ok (.iload 6, 2) := by decide +kernel
theorem dX0_perform_90 : decode cX0_perform 90 = .ok (.iastore, 1) := by decide +kernel
theorem dX0_perform_91 : decode cX0_perform 91 = .ok (.aload_n 0, 1) := by decide +kernel
theorem dX0_perform_92 : decode cX0_perform 92 = .ok (.dup, 1) := by decide +kernel
theorem dX0_perform_93 : decode cX0_perform 93 = .ok (.getfield 29, 3) := by decide +kernel
theorem dX0_perform_96 : decode cX0_perform 96 = .ok (.iconst 1, 1) := by decide +kernel
theorem dX0_perform_97 : decode cX0_perform 97 = .ok (.iadd, 1) := by decide +kernel
theorem dX0_perform_98 : decode cX0_perform 98 = .ok (.putfield 29, 3) := by decide +kernel
theorem dX0_perform_101 : decode cX0_perform 101 = .ok (.aload_n 0, 1) := by decide +kernel
theorem dX0_perform_102 : decode cX0_perform 102 = .ok (.iload 6, 2) := by decide +kernel
theorem dX0_perform_104 : decode cX0_perform 104 = .ok (.getstatic 39, 3) := by decide +kernel
theorem dX0_perform_107 : decode cX0_perform 107 = .ok (.iload 5, 2) := by decide +kernel
theorem dX0_perform_109 : decode cX0_perform 109 = .ok (.iaload, 1) := by decide +kernel
theorem dX0_perform_110 : decode cX0_perform 110 = .ok (.iload_n 3, 1) := by decide +kernel
theorem dX0_perform_111 : decode cX0_perform 111 = .ok (.iload 4, 2) := by decide +kernel
theorem dX0_perform_113 : decode cX0_perform 113 = .ok (.iconst 1, 1) := by decide +kernel
theorem dX0_perform_114 : decode cX0_perform 114 = .ok (.iadd, 1) := by decide +kernel
theorem dX0_perform_115 : decode cX0_perform 115 = .ok (.invokevirtual 42, 3) := by decide +kernel
theorem dX0_perform_118 : decode cX0_perform 118 = .ok (.ireturn, 1) := by decide +kernel
theorem dX0_answer_0 : decode cX0_answer 0 = .ok (.iload_n 1, 1) := by decide +kernel
theorem dX0_answer_1 : decode cX0_answer 1 = .ok (.lookupswitch 260 #[(10, 99), (11, 106), (12, 124), (20, 139), (30, 152), (40, 164), (50, 187), (51, 198), (60, 210), (70, 225), (71, 245)], 99) := by decide +kernel
theorem dX0_answer_100 : decode cX0_answer 100 = .ok (.iload_n 3, 1) := by decide +kernel
theorem dX0_answer_101 : decode cX0_answer 101 = .ok (.aload_n 0, 1) := by decide +kernel
theorem dX0_answer_102 : decode cX0_answer 102 = .ok (.getfield 26, 3) := by decide +kernel
theorem dX0_answer_105 : decode cX0_answer 105 = .ok (.iadd, 1) := by decide +kernel
theorem dX0_answer_106 : decode cX0_answer 106 = .ok (.ireturn, 1) := by decide +kernel
theorem dX0_answer_107 : decode cX0_answer 107 = .ok (.aload_n 0, 1) := by decide +kernel
theorem dX0_answer_108 : decode cX0_answer 108 = .ok (.aload_n 0, 1) := by decide +kernel
theorem dX0_answer_109 : decode cX0_answer 109 = .ok (.getfield 21, 3) := by decide +kernel
theorem dX0_answer_112 : decode cX0_answer 112 = .ok (.iconst 0, 1) := by decide +kernel
theorem dX0_answer_113 : decode cX0_answer 113 = .ok (.iload_n 3, 1) := by decide +kernel
theorem dX0_answer_114 : decode cX0_answer 114 = .ok (.iload 4, 2) := by decide +kernel
theorem dX0_answer_116 : decode cX0_answer 116 = .ok (.invokevirtual 32, 3) := by decide +kernel
theorem dX0_answer_119 : decode cX0_answer 119 = .ok (.aload_n 0, 1) := by decide +kernel
theorem dX0_answer_120 : decode cX0_answer 120 = .ok (.getfield 25, 3) := by decide +kernel
theorem dX0_answer_123 : decode cX0_answer 123 = .ok (.isub, 1) := by decide +kernel
theorem dX0_answer_124 : decode cX0_answer 124 = .ok (.ireturn, 1) := by decide +kernel
theorem dX0_answer_125 : decode cX0_answer 125 = .ok (.aload_n 0, 1) := by decide +kernel
theorem dX0_answer_126 : decode cX0_answer 126 = .ok (.aload_n 0, 1) := by decide +kernel
theorem dX0_answer_127 : decode cX0_answer 127 = .ok (.getfield 21, 3) := by decide +kernel
theorem dX0_answer_130 : decode cX0_answer 130 = .ok (.iconst 1, 1) := by decide +kernel
theorem dX0_answer_131 : decode cX0_answer 131 = .ok (.iload_n 3, 1) := by decide +kernel
theorem dX0_answer_132 : decode cX0_answer 132 = .ok (.iload 4, 2) := by decide +kernel
theorem dX0_answer_134 : decode cX0_answer 134 = .ok (.invokevirtual 32, 3) := by decide +kernel
theorem dX0_answer_137 : decode cX0_answer 137 = .ok (.iconst 2, 1) := by decide +kernel
theorem dX0_answer_138 : decode cX0_answer 138 = .ok (.imul, 1) := by decide +kernel
theorem dX0_answer_139 : decode cX0_answer 139 = .ok (.ireturn, 1) := by decide +kernel
theorem dX0_answer_140 : decode cX0_answer 140 = .ok (.aload_n 0, 1) := by decide +kernel
theorem dX0_answer_141 : decode cX0_answer 141 = .ok (.iload_n 2, 1) := by decide +kernel
theorem dX0_answer_142 : decode cX0_answer 142 = .ok (.iconst 1, 1) := by decide +kernel
theorem dX0_answer_143 : decode cX0_answer 143 = .ok (.iload_n 3, 1) := by decide +kernel
theorem dX0_answer_144 : decode cX0_answer 144 = .ok (.iload 4, 2) := by decide +kernel
theorem dX0_answer_146 : decode cX0_answer 146 = .ok (.invokevirtual 32, 3) := by decide +kernel
theorem dX0_answer_149 : decode cX0_answer 149 = .ok (.bipush 6, 2) := by decide +kernel
theorem dX0_answer_151 : decode cX0_answer 151 = .ok (.ixor, 1) := by decide +kernel
theorem dX0_answer_152 : decode cX0_answer 152 = .ok (.ireturn, 1) := by decide +kernel
theorem dX0_answer_153 : decode cX0_answer 153 = .ok (.aload_n 0, 1) := by decide +kernel
theorem dX0_answer_154 : decode cX0_answer 154 = .ok (.iload_n 2, 1) := by decide +kernel
theorem dX0_answer_155 : decode cX0_answer 155 = .ok (.iconst 0, 1) := by decide +kernel
theorem dX0_answer_156 : decode cX0_answer 156 = .ok (.iload_n 3, 1) := by decide +kernel
theorem dX0_answer_157 : decode cX0_answer 157 = .ok (.iconst 3, 1) := by decide +kernel
theorem dX0_answer_158 : decode cX0_answer 158 = .ok (.imul, 1) := by decide +kernel
theorem dX0_answer_159 : decode cX0_answer 159 = .ok (.iload 4, 2) := by decide +kernel
theorem dX0_answer_161 : decode cX0_answer 161 = .ok (.invokevirtual 32, 3) := by decide +kernel
theorem dX0_answer_164 : decode cX0_answer 164 = .ok (.ireturn, 1) := by decide +kernel
theorem dX0_answer_165 : decode cX0_answer 165 = .ok (.aload_n 0, 1) := by decide +kernel
theorem dX0_answer_166 : decode cX0_answer 166 = .ok (.iload_n 2, 1) := by decide +kernel
theorem dX0_answer_167 : decode cX0_answer 167 = .ok (.iconst 2, 1) := by decide +kernel
theorem dX0_answer_168 : decode cX0_answer 168 = .ok (.iload_n 3, 1) := by decide +kernel
theorem dX0_answer_169 : decode cX0_answer 169 = .ok (.iload 4, 2) := by decide +kernel
theorem dX0_answer_171 : decode cX0_answer 171 = .ok (.invokevirtual 32, 3) := by decide +kernel
theorem dX0_answer_174 : decode cX0_answer 174 = .ok (.aload_n 0, 1) := by decide +kernel
theorem dX0_answer_175 : decode cX0_answer 175 = .ok (.aload_n 0, 1) := by decide +kernel
theorem dX0_answer_176 : decode cX0_answer 176 = .ok (.getfield 21, 3) := by decide +kernel
theorem dX0_answer_179 : decode cX0_answer 179 = .ok (.iconst 1, 1) := by decide +kernel
theorem dX0_answer_180 : decode cX0_answer 180 = .ok (.iconst 1, 1) := by decide +kernel
theorem dX0_answer_181 : decode cX0_answer 181 = .ok (.iload 4, 2) := by decide +kernel
theorem dX0_answer_183 : decode cX0_answer 183 = .ok (.invokevirtual 32, 3) := by decide +kernel
theorem dX0_answer_186 : decode cX0_answer 186 = .ok (.iadd, 1) := by decide +kernel
theorem dX0_answer_187 : decode cX0_answer 187 = .ok (.ireturn, 1) := by decide +kernel
theorem dX0_answer_188 : decode cX0_answer 188 = .ok (.aload_n 0, 1) := by decide +kernel
theorem dX0_answer_189 : decode cX0_answer 189 = .ok (.iload_n 2, 1) := by decide +kernel
theorem dX0_answer_190 : decode cX0_answer 190 = .ok (.iconst 0, 1) := by decide +kernel
theorem dX0_answer_191 : decode cX0_answer 191 = .ok (.iload_n 3, 1) := by decide +kernel
theorem dX0_answer_192 : decode cX0_answer 192 = .ok (.iload 4, 2) := by decide +kernel
theorem dX0_answer_194 : decode cX0_answer 194 = .ok (.invokevirtual 32, 3) := by decide +kernel
theorem dX0_answer_197 : decode cX0_answer 197 = .ok (.ineg, 1) := by decide +kernel
theorem dX0_answer_198 : decode cX0_answer 198 = .ok (.ireturn, 1) := by decide +kernel
theorem dX0_answer_199 : decode cX0_answer 199 = .ok (.aload_n 0, 1) := by decide +kernel
theorem dX0_answer_200 : decode cX0_answer 200 = .ok (.iload_n 2, 1) := by decide +kernel
theorem dX0_answer_201 : decode cX0_answer 201 = .ok (.iconst 1, 1) := by decide +kernel
theorem dX0_answer_202 : decode cX0_answer 202 = .ok (.iload_n 3, 1) := by decide +kernel
theorem dX0_answer_203 : decode cX0_answer 203 = .ok (.iconst 1, 1) := by decide +kernel
theorem dX0_answer_204 : decode cX0_answer 204 = .ok (.iadd, 1) := by decide +kernel
theorem dX0_answer_205 : decode cX0_answer 205 = .ok (.iload 4, 2) := by decide +kernel
theorem dX0_answer_207 : decode cX0_answer 207 = .ok (.invokevirtual 32, 3) := by decide +kernel
theorem dX0_answer_210 : decode cX0_answer 210 = .ok (.ireturn, 1) := by decide +kernel
theorem dX0_answer_211 : decode cX0_answer 211 = .ok (.aload_n 0, 1) := by decide +kernel
theorem dX0_answer_212 : decode cX0_answer 212 = .ok (.iload_n 2, 1) := by decide +kernel
theorem dX0_answer_213 : decode cX0_answer 213 = .ok (.iconst 2, 1) := by decide +kernel
theorem dX0_answer_214 : decode cX0_answer 214 = .ok (.iload_n 3, 1) := by decide +kernel
theorem dX0_answer_215 : decode cX0_answer 215 = .ok (.aload_n 0, 1) := by decide +kernel
theorem dX0_answer_216 : decode cX0_answer 216 = .ok (.getfield 26, 3) := by decide +kernel
theorem dX0_answer_219 : decode cX0_answer 219 = .ok (.isub, 1) := by decide +kernel
theorem dX0_answer_220 : decode cX0_answer 220 = .ok (.iload 4, 2) := by decide +kernel
theorem dX0_answer_222 : decode cX0_answer 222 = .ok (.invokevirtual 32, 3) := by decide +kernel
theorem dX0_answer_225 : decode cX0_answer 225 = .ok (.ireturn, 1) := by decide +kernel
theorem dX0_answer_226 : decode cX0_answer 226 = .ok (.aload_n 0, 1) := by decide +kernel
theorem dX0_answer_227 : decode cX0_answer 227 = .ok (.iload_n 2, 1) := by decide +kernel
theorem dX0_answer_228 : decode cX0_answer 228 = .ok (.iconst 1, 1) := by decide +kernel
theorem dX0_answer_229 : decode cX0_answer 229 = .ok (.iload_n 3, 1) := by decide +kernel
theorem dX0_answer_230 : decode cX0_answer 230 = .ok (.iload 4, 2) := by decide +kernel
theorem dX0_answer_232 : decode cX0_answer 232 = .ok (.invokevirtual 32, 3) := by decide +kernel
theorem dX0_answer_235 : decode cX0_answer 235 = .ok (.aload_n 0, 1) := by decide +kernel
theorem dX0_answer_236 : decode cX0_answer 236 = .ok (.iload_n 2, 1) := by decide +kernel
theorem dX0_answer_237 : decode cX0_answer 237 = .ok (.iconst 0, 1) := by decide +kernel
theorem dX0_answer_238 : decode cX0_answer 238 = .ok (.iconst 2, 1) := by decide +kernel
theorem dX0_answer_239 : decode cX0_answer 239 = .ok (.iload 4, 2) := by decide +kernel
theorem dX0_answer_241 : decode cX0_answer 241 = .ok (.invokevirtual 32, 3) := by decide +kernel
theorem dX0_answer_244 : decode cX0_answer 244 = .ok (.iadd, 1) := by decide +kernel
theorem dX0_answer_245 : decode cX0_answer 245 = .ok (.ireturn, 1) := by decide +kernel
theorem dX0_answer_246 : decode cX0_answer 246 = .ok (.aload_n 0, 1) := by decide +kernel
theorem dX0_answer_247 : decode cX0_answer 247 = .ok (.iload_n 2, 1) := by decide +kernel
theorem dX0_answer_248 : decode cX0_answer 248 = .ok (.iconst 0, 1) := by decide +kernel
theorem dX0_answer_249 : decode cX0_answer 249 = .ok (.iload_n 3, 1) := by decide +kernel
theorem dX0_answer_250 : decode cX0_answer 250 = .ok (.iload 4, 2) := by decide +kernel
theorem dX0_answer_252 : decode cX0_answer 252 = .ok (.invokevirtual 32, 3) := by decide +kernel
theorem dX0_answer_255 : decode cX0_answer 255 = .ok (.aload_n 0, 1) := by decide +kernel
theorem dX0_answer_256 : decode cX0_answer 256 = .ok (.getfield 25, 3) := by decide +kernel
theorem dX0_answer_259 : decode cX0_answer 259 = .ok (.ixor, 1) := by decide +kernel
theorem dX0_answer_260 : decode cX0_answer 260 = .ok (.ireturn, 1) := by decide +kernel
theorem dX0_answer_261 : decode cX0_answer 261 = .ok (.iconst 0, 1) := by decide +kernel
theorem dX0_answer_262 : decode cX0_answer 262 = .ok (.ireturn, 1) := by decide +kernel
theorem dX1_init_0 : decode cX1_init 0 = .ok (.aload_n 0, 1) := by decide +kernel
theorem dX1_init_1 : decode cX1_init 1 = .ok (.invokespecial 3, 3) := by decide +kernel
theorem dX1_init_4 : decode cX1_init 4 = .ok (.aload_n 0, 1) := by decide +kernel
theorem dX1_init_5 : decode cX1_init 5 = .ok (.bipush 100, 2) := by decide +kernel
theorem dX1_init_7 : decode cX1_init 7 = .ok (.newarray .int, 2) := by decide +kernel
theorem dX1_init_9 : decode cX1_init 9 = .ok (.putfield 9, 3) := by decide +kernel
theorem dX1_init_12 : decode cX1_init 12 = .ok (.aload_n 0, 1) := by decide +kernel
theorem dX1_init_13 : decode cX1_init 13 = .ok (.bipush 6, 2) := by decide +kernel
theorem dX1_init_15 : decode cX1_init 15 = .ok (.newarray .int, 2) := by decide +kernel
theorem dX1_init_17 : decode cX1_init 17 = .ok (.putfield 15, 3) := by decide +kernel
theorem dX1_init_20 : decode cX1_init 20 = .ok (.return_, 1) := by decide +kernel
theorem dX1_clear_0 : decode cX1_clear 0 = .ok (.aload_n 0, 1) := by decide +kernel
theorem dX1_clear_1 : decode cX1_clear 1 = .ok (.iconst 0, 1) := by decide +kernel
theorem dX1_clear_2 : decode cX1_clear 2 = .ok (.putfield 18, 3) := by decide +kernel
theorem dX1_clear_5 : decode cX1_clear 5 = .ok (.aload_n 0, 1) := by decide +kernel
theorem dX1_clear_6 : decode cX1_clear 6 = .ok (.iconst 0, 1) := by decide +kernel
theorem dX1_clear_7 : decode cX1_clear 7 = .ok (.putfield 22, 3) := by decide +kernel
theorem dX1_clear_10 : decode cX1_clear 10 = .ok (.return_, 1) := by decide +kernel
theorem dX1_add_0 : decode cX1_add 0 = .ok (.aload_n 0, 1) := by decide +kernel
theorem dX1_add_1 : decode cX1_add 1 = .ok (.getfield 22, 3) := by decide +kernel
theorem dX1_add_4 : decode cX1_add 4 = .ok (.aload_n 0, 1) := by decide +kernel
theorem dX1_add_5 : decode cX1_add 5 = .ok (.getfield 9, 3) := by decide +kernel
theorem dX1_add_8 : decode cX1_add 8 = .ok (.arraylength, 1) := by decide +kernel
theorem dX1_add_9 : decode cX1_add 9 = .ok (.if_icmp .ge 23, 3) := by decide +kernel
theorem dX1_add_12 : decode cX1_add 12 = .ok (.aload_n 0, 1) := by decide +kernel
theorem dX1_add_13 : decode cX1_add 13 = .ok (.getfield 9, 3) := by decide +kernel
theorem dX1_add_16 : decode cX1_add 16 = .ok (.aload_n 0, 1) := by decide +kernel
theorem dX1_add_17 : decode cX1_add 17 = .ok (.getfield 22, 3) := by decide +kernel
theorem dX1_add_20 : decode cX1_add 20 = .ok (.iload_n 1, 1) := by decide +kernel
theorem dX1_add_21 : decode cX1_add 21 = .ok (.iastore, 1) := by decide +kernel
theorem dX1_add_22 : decode cX1_add 22 = .ok (.aload_n 0, 1) := by decide +kernel
theorem dX1_add_23 : decode cX1_add 23 = .ok (.dup, 1) := by decide +kernel
theorem dX1_add_24 : decode cX1_add 24 = .ok (.getfield 22, 3) := by decide +kernel
theorem dX1_add_27 : decode cX1_add 27 = .ok (.iconst 1, 1) := by decide +kernel
theorem dX1_add_28 : decode cX1_add 28 = .ok (.iadd, 1) := by decide +kernel
theorem dX1_add_29 : decode cX1_add 29 = .ok (.putfield 22, 3) := by decide +kernel
theorem dX1_add_32 : decode cX1_add 32 = .ok (.return_, 1) := by decide +kernel
theorem dX1_sum_0 : decode cX1_sum 0 = .ok (.aload_n 0, 1) := by decide +kernel
theorem dX1_sum_1 : decode cX1_sum 1 = .ok (.getfield 15, 3) := by decide +kernel
theorem dX1_sum_4 : decode cX1_sum 4 = .ok (.iconst 0, 1) := by decide +kernel
theorem dX1_sum_5 : decode cX1_sum 5 = .ok (.iload_n 1, 1) := by decide +kernel
theorem dX1_sum_6 : decode cX1_sum 6 = .ok (.iastore, 1) := by decide +kernel
theorem dX1_sum_7 : decode cX1_sum 7 = .ok (.aload_n 0, 1) := by decide +kernel
theorem dX1_sum_8 : decode cX1_sum 8 = .ok (.getfield 15, 3) := by decide +kernel
theorem dX1_sum_11 : decode cX1_sum 11 = .ok (.iconst 1, 1) := by decide +kernel
theorem dX1_sum_12 : decode cX1_sum 12 = .ok (.iload_n 2, 1) := by decide +kernel
theorem dX1_sum_13 : decode cX1_sum 13 = .ok (.iastore, 1) := by decide +kernel
theorem dX1_sum_14 : decode cX1_sum 14 = .ok (.aload_n 0, 1) := by decide +kernel
theorem dX1_sum_15 : decode cX1_sum 15 = .ok (.getfield 15, 3) := by decide +kernel
theorem dX1_sum_18 : decode cX1_sum 18 = .ok (.iconst 2, 1) := by decide +kernel
theorem dX1_sum_19 : decode cX1_sum 19 = .ok (.iload_n 3, 1) := by decide +kernel
theorem dX1_sum_20 : decode cX1_sum 20 = .ok (.iastore, 1) := by decide +kernel
theorem dX1_sum_21 : decode cX1_sum 21 = .ok (.aload_n 0, 1) := by decide +kernel
theorem dX1_sum_22 : decode cX1_sum 22 = .ok (.getfield 15, 3) := by decide +kernel
theorem dX1_sum_25 : decode cX1_sum 25 = .ok (.iconst 3, 1) := by decide +kernel
theorem dX1_sum_26 : decode cX1_sum 26 = .ok (.iload 4, 2) := by decide +kernel
theorem dX1_sum_28 : decode cX1_sum 28 = .ok (.iastore, 1) := by decide +kernel
theorem dX1_sum_29 : decode cX1_sum 29 = .ok (.aload_n 0, 1) := by decide +kernel
theorem dX1_sum_30 : decode cX1_sum 30 = .ok (.getfield 15, 3) := by decide +kernel
theorem dX1_sum_33 : decode cX1_sum 33 = .ok (.iconst 4, 1) := by decide +kernel
theorem dX1_sum_34 : decode cX1_sum 34 = .ok (.iload 5, 2) := by decide +kernel
theorem dX1_sum_36 : decode cX1_sum 36 = .ok (.iastore, 1) := by decide +kernel
theorem dX1_sum_37 : decode cX1_sum 37 = .ok (.aload_n 0, 1) := by decide +kernel
theorem dX1_sum_38 : decode cX1_sum 38 = .ok (.getfield 15, 3) := by decide +kernel
theorem dX1_sum_41 : decode cX1_sum 41 = .ok (.iconst 5, 1) := by decide +kernel
theorem dX1_sum_42 : decode cX1_sum 42 = .ok (.iload 6, 2) := by decide +kernel
theorem dX1_sum_44 : decode cX1_sum 44 = .ok (.iastore, 1) := by decide +kernel
theorem dX1_sum_45 : decode cX1_sum 45 = .ok (.iconst 3, 1) := by decide +kernel
theorem dX1_sum_46 : decode cX1_sum 46 = .ok (.istore 7, 2) := by decide +kernel
theorem dX1_sum_48 : decode cX1_sum 48 = .ok (.iconst 0, 1) := by decide +kernel
theorem dX1_sum_49 : decode cX1_sum 49 = .ok (.istore 8, 2) := by decide +kernel
theorem dX1_sum_51 : decode cX1_sum 51 = .ok (.iconst 0, 1) := by decide +kernel
theorem dX1_sum_52 : decode cX1_sum 52 = .ok (.istore 9, 2) := by decide +kernel
theorem dX1_sum_54 : decode cX1_sum 54 = .ok (.iload 9, 2) := by decide +kernel
theorem dX1_sum_56 : decode cX1_sum 56 = .ok (.aload_n 0, 1) := by decide +kernel
theorem dX1_sum_57 : decode cX1_sum 57 = .ok (.getfield 22, 3) := by decide +kernel
theorem dX1_sum_60 : decode cX1_sum 60 = .ok (.if_icmp .ge 203, 3) := by decide +kernel
theorem dX1_sum_63 : decode cX1_sum 63 = .ok (.aload_n 0, 1) := by decide +kernel
theorem dX1_sum_64 : decode cX1_sum 64 = .ok (.getfield 9, 3) := by decide +kernel
theorem dX1_sum_67 : decode cX1_sum 67 = .ok (.iload 9, 2) := by decide +kernel
theorem dX1_sum_69 : decode cX1_sum 69 = .ok (.iaload, 1) := by decide +kernel
theorem dX1_sum_70 : decode cX1_sum 70 = .ok (.istore 10, 2) := by decide +kernel
theorem dX1_sum_72 : decode cX1_sum 72 = .ok (.iload 8, 2) := by decide +kernel
theorem dX1_sum_74 : decode cX1_sum 74 = .ok (.iconst 1, 1) := by decide +kernel
theorem dX1_sum_75 : decode cX1_sum 75 = .ok (.iand, 1) := by decide +kernel
theorem dX1_sum_76 : decode cX1_sum 76 = .ok (.istore 11, 2) := by decide +kernel
theorem dX1_sum_78 : decode cX1_sum 78 = .ok (.iload 10, 2) := by decide +kernel
theorem dX1_sum_80 : decode cX1_sum 80 = .ok (.sipush 2100, 3) := by decide +kernel
theorem dX1_sum_83 : decode cX1_sum 83 = .ok (.if_icmp .lt 23, 3) := by decide +kernel
theorem dX1_sum_86 : decode cX1_sum 86 = .ok (.iload 7, 2) := by decide +kernel
theorem dX1_sum_88 : decode cX1_sum 88 = .ok (.iload 11, 2) := by decide +kernel
theorem dX1_sum_90 : decode cX1_sum 90 = .ok (.iload 10, 2) := by decide +kernel
theorem dX1_sum_92 : decode cX1_sum 92 = .ok (.sipush 2100, 3) := by decide +kernel
theorem dX1_sum_95 : decode cX1_sum 95 = .ok (.isub, 1) := by decide +kernel
theorem dX1_sum_96 : decode cX1_sum 96 = .ok (.imul, 1) := by decide +kernel
theorem dX1_sum_97 : decode cX1_sum 97 = .ok (.isub, 1) := by decide +kernel
theorem dX1_sum_98 : decode cX1_sum 98 = .ok (.istore 7, 2) := by decide +kernel
theorem dX1_sum_100 : decode cX1_sum 100 = .ok (.iconst 0, 1) := by decide +kernel
theorem dX1_sum_101 : decode cX1_sum 101 = .ok (.istore 8, 2) := by decide +kernel
theorem dX1_sum_103 : decode cX1_sum 103 = .ok (.goto 154, 3) := by decide +kernel
theorem dX1_sum_106 : decode cX1_sum 106 = .ok (.iload 10, 2) := by decide +kernel
theorem dX1_sum_108 : decode cX1_sum 108 = .ok (.sipush 2000, 3) := by decide +kernel
theorem dX1_sum_111 : decode cX1_sum 111 = .ok (.if_icmp .lt 23, 3) := by decide +kernel
theorem dX1_sum_114 : decode cX1_sum 114 = .ok (.iload 7, 2) := by decide +kernel
theorem dX1_sum_116 : decode cX1_sum 116 = .ok (.iload 11, 2) := by decide +kernel
theorem dX1_sum_118 : decode cX1_sum 118 = .ok (.iload 10, 2) := by decide +kernel
theorem dX1_sum_120 : decode cX1_sum 120 = .ok (.sipush 2000, 3) := by decide +kernel
theorem dX1_sum_123 : decode cX1_sum 123 = .ok (.isub, 1) := by decide +kernel
theorem dX1_sum_124 : decode cX1_sum 124 = .ok (.imul, 1) := by decide +kernel
theorem dX1_sum_125 : decode cX1_sum 125 = .ok (.iadd, 1) := by decide +kernel
theorem dX1_sum_126 : decode cX1_sum 126 = .ok (.istore 7, 2) := by decide +kernel
theorem dX1_sum_128 : decode cX1_sum 128 = .ok (.iconst 0, 1) := by decide +kernel
theorem dX1_sum_129 : decode cX1_sum 129 = .ok (.istore 8, 2) := by decide +kernel
theorem dX1_sum_131 : decode cX1_sum 131 = .ok (.goto 126, 3) := by decide +kernel
theorem dX1_sum_134 : decode cX1_sum 134 = .ok (.iload 10, 2) := by decide +kernel
theorem dX1_sum_136 : decode cX1_sum 136 = .ok (.ifCond .lt 75, 3) := by decide +kernel
theorem dX1_sum_139 : decode cX1_sum 139 = .ok (.aload_n 0, 1) := by decide +kernel
theorem dX1_sum_140 : decode cX1_sum 140 = .ok (.getfield 15, 3) := by decide +kernel
theorem dX1_sum_143 : decode cX1_sum 143 = .ok (.iload 10, 2) := by decide +kernel
theorem dX1_sum_145 : decode cX1_sum 145 = .ok (.sipush 300, 3) := by decide +kernel
theorem dX1_sum_148 : decode cX1_sum 148 = .ok (.idiv, 1) := by decide +kernel
theorem dX1_sum_149 : decode cX1_sum 149 = .ok (.iaload, 1) := by decide +kernel
theorem dX1_sum_150 : decode cX1_sum 150 = .ok (.istore 12, 2) := by decide +kernel
theorem dX1_sum_152 : decode cX1_sum 152 = .ok (.iload 10, 2) := by decide +kernel
theorem dX1_sum_154 : decode cX1_sum 154 = .ok (.bipush 100, 2) := by decide +kernel
theorem dX1_sum_156 : decode cX1_sum 156 = .ok (.irem, 1) := by decide +kernel
theorem dX1_sum_157 : decode cX1_sum 157 = .ok (.istore 13, 2) := by decide +kernel
theorem dX1_sum_159 : decode cX1_sum 159 = .ok (.iload 12, 2) := by decide +kernel
theorem dX1_sum_161 : decode cX1_sum 161 = .ok (.iload 13, 2) := by decide +kernel
theorem dX1_sum_163 : decode cX1_sum 163 = .ok (.if_icmp .ge 7, 3) := by decide +kernel
theorem dX1_sum_166 : decode cX1_sum 166 = .ok (.iconst 0, 1) := by decide +kernel
theorem dX1_sum_167 : decode cX1_sum 167 = .ok (.goto 15, 3) := by decide +kernel
theorem dX1_sum_170 : decode cX1_sum 170 = .ok (.iload 12, 2) := by decide +kernel
theorem dX1_sum_172 : decode cX1_sum 172 = .ok (.iload 13, 2) := by decide +kernel
theorem dX1_sum_174 : decode cX1_sum 174 = .ok (.if_icmp .ne 7, 3) := by decide +kernel
theorem dX1_sum_177 : decode cX1_sum 177 = .ok (.iconst 1, 1) := by decide +kernel
theorem dX1_sum_178 : decode cX1_sum 178 = .ok (.goto 4, 3) := by decide +kernel
theorem dX1_sum_181 : decode cX1_sum 181 = .ok (.iconst 2, 1) := by decide +kernel
theorem dX1_sum_182 : decode cX1_sum 182 = .ok (.istore 14, 2) := by decide +kernel
theorem dX1_sum_184 : decode cX1_sum 184 = .ok (.iload 8, 2) := by decide +kernel
theorem dX1_sum_186 : decode cX1_sum 186 = .ok (.iconst 1, 1) := by decide +kernel
theorem dX1_sum_187 : decode cX1_sum 187 = .ok (.ishl, 1) := by decide +kernel
theorem dX1_sum_188 : decode cX1_sum 188 = .ok (.iload 14, 2) := by decide +kernel
theorem dX1_sum_190 : decode cX1_sum 190 = .ok (.iload 10, 2) := by decide +kernel
theorem dX1_sum_192 : decode cX1_sum 192 = .ok (.bipush 100, 2) := by decide +kernel
theorem dX1_sum_194 : decode cX1_sum 194 = .ok (.idiv, 1) := by decide +kernel
theorem dX1_sum_195 : decode cX1_sum 195 = .ok (.iconst 3, 1) := by decide +kernel
theorem dX1_sum_196 : decode cX1_sum 196 = .ok (.irem, 1) := by decide +kernel
theorem dX1_sum_197 : decode cX1_sum 197 = .ok (.if_icmp .ne 7, 3) := by decide +kernel
theorem dX1_sum_200 : decode cX1_sum 200 = .ok (.iconst 1, 1) := by decide +kernel
theorem dX1_sum_201 : decode cX1_sum 201 = .ok (.goto 4, 3) := by decide +kernel
theorem dX1_sum_204 : decode cX1_sum 204 = .ok (.iconst 0, 1) := by decide +kernel
theorem dX1_sum_205 : decode cX1_sum 205 = .ok (.ior, 1) := by decide +kernel
theorem dX1_sum_206 : decode cX1_sum 206 = .ok (.istore 8, 2) := by decide +kernel
theorem dX1_sum_208 : decode cX1_sum 208 = .ok (.goto 49, 3) := by decide +kernel
theorem dX1_sum_211 : decode cX1_sum 211 = .ok (.iload 10, 2) := by decide +kernel
theorem dX1_sum_213 : decode cX1_sum 213 = .ok (.bipush (-3), 2) := by decide +kernel
theorem dX1_sum_215 : decode cX1_sum 215 = .ok (.if_icmp .ne 12, 3) := by decide +kernel
theorem dX1_sum_218 : decode cX1_sum 218 = .ok (.iload 8, 2) := by decide +kernel
theorem dX1_sum_220 : decode cX1_sum 220 = .ok (.iconst 1, 1) := by decide +kernel
theorem dX1_sum_221 : decode cX1_sum 221 = .ok (.ixor, 1) := by decide +kernel
theorem dX1_sum_222 : decode cX1_sum 222 = .ok (.istore 8, 2) := by decide +kernel
theorem dX1_sum_224 : decode cX1_sum 224 = .ok (.goto 33, 3) := by decide +kernel
theorem dX1_sum_227 : decode cX1_sum 227 = .ok (.iload 10, 2) := by decide +kernel
theorem dX1_sum_229 : decode cX1_sum 229 = .ok (.iconst (-1), 1) := by decide +kernel
theorem dX1_sum_230 : decode cX1_sum 230 = .ok (.if_icmp .ne 18, 3) := by decide +kernel
theorem dX1_sum_233 : decode cX1_sum 233 = .ok (.iload 8, 2) := by decide +kernel
theorem dX1_sum_235 : decode cX1_sum 235 = .ok (.iconst 1, 1) := by decide +kernel
theorem dX1_sum_236 : decode cX1_sum 236 = .ok (.ishr, 1) := by decide +kernel
theorem dX1_sum_237 : decode cX1_sum 237 = .ok (.iload 11, 2) := by decide +kernel
theorem dX1_sum_239 : decode cX1_sum 239 = .ok (.bipush (-2), 2) := by decide +kernel
theorem dX1_sum_241 : decode cX1_sum 241 = .ok (.ior, 1) := by decide +kernel
theorem dX1_sum_242 : decode cX1_sum 242 = .ok (.iand, 1) := by decide +kernel
theorem dX1_sum_243 : decode cX1_sum 243 = .ok (.istore 8, 2) := by decide +kernel
theorem dX1_sum_245 : decode cX1_sum 245 = .ok (.goto 12, 3) := by decide +kernel
theorem dX1_sum_248 : decode cX1_sum 248 = .ok (.iload 8, 2) := by decide +kernel
theorem dX1_sum_250 : decode cX1_sum 250 = .ok (.iconst 1, 1) := by decide +kernel
theorem dX1_sum_251 : decode cX1_sum 251 = .ok (.ishr, 1) := by decide +kernel
theorem dX1_sum_252 : decode cX1_sum 252 = .ok (.iload 11, 2) := by decide +kernel
theorem dX1_sum_254 : decode cX1_sum 254 = .ok (.ior, 1) := by decide +kernel
theorem dX1_sum_255 : decode cX1_sum 255 = .ok (.istore 8, 2) := by decide +kernel
theorem dX1_sum_257 : decode cX1_sum 257 = .ok (.iinc 9 1, 3) := by decide +kernel
theorem dX1_sum_260 : decode cX1_sum 260 = .ok (.goto (-206), 3) := by decide +kernel
theorem dX1_sum_263 : decode cX1_sum 263 = .ok (.iload 7, 2) := by decide +kernel
theorem dX1_sum_265 : decode cX1_sum 265 = .ok (.ireturn, 1) := by decide +kernel
theorem dX2_init_0 : decode cX2_init 0 = .ok (.aload_n 0, 1) := by decide +kernel
theorem dX2_init_1 : decode cX2_init 1 = .ok (.invokespecial 3, 3) := by decide +kernel
theorem dX2_init_4 : decode cX2_init 4 = .ok (.aload_n 0, 1) := by decide +kernel
theorem dX2_init_5 : decode cX2_init 5 = .ok (.bipush (-5), 2) := by decide +kernel
theorem dX2_init_7 : decode cX2_init 7 = .ok (.putfield 9, 3) := by decide +kernel
theorem dX2_init_10 : decode cX2_init 10 = .ok (.aload_n 0, 1) := by decide +kernel
theorem dX2_init_11 : decode cX2_init 11 = .ok (.iconst 4, 1) := by decide +kernel
theorem dX2_init_12 : decode cX2_init 12 = .ok (.newarray .int, 2) := by decide +kernel
theorem dX2_init_14 : decode cX2_init 14 = .ok (.putfield 15, 3) := by decide +kernel
theorem dX2_init_17 : decode cX2_init 17 = .ok (.return_, 1) := by decide +kernel
theorem dX2_become_0 : decode cX2_become 0 = .ok (.aload_n 0, 1) := by decide +kernel
theorem dX2_become_1 : decode cX2_become 1 = .ok (.iload_n 1, 1) := by decide +kernel
theorem dX2_become_2 : decode cX2_become 2 = .ok (.putfield 19, 3) := by decide +kernel
theorem dX2_become_5 : decode cX2_become 5 = .ok (.aload_n 0, 1) := by decide +kernel
theorem dX2_become_6 : decode cX2_become 6 = .ok (.iload_n 2, 1) := by decide +kernel
theorem dX2_become_7 : decode cX2_become 7 = .ok (.putfield 22, 3) := by decide +kernel
theorem dX2_become_10 : decode cX2_become 10 = .ok (.aload_n 0, 1) := by decide +kernel
theorem dX2_become_11 : decode cX2_become 11 = .ok (.iload_n 3, 1) := by decide +kernel
theorem dX2_become_12 : decode cX2_become 12 = .ok (.putfield 25, 3) := by decide +kernel
theorem dX2_become_15 : decode cX2_become 15 = .ok (.aload_n 0, 1) := by decide +kernel
theorem dX2_become_16 : decode cX2_become 16 = .ok (.iload_n 3, 1) := by decide +kernel
theorem dX2_become_17 : decode cX2_become 17 = .ok (.putfield 28, 3) := by decide +kernel
theorem dX2_become_20 : decode cX2_become 20 = .ok (.aload_n 0, 1) := by decide +kernel
theorem dX2_become_21 : decode cX2_become 21 = .ok (.bipush (-5), 2) := by decide +kernel
theorem dX2_become_23 : decode cX2_become 23 = .ok (.putfield 9, 3) := by decide +kernel
theorem dX2_become_26 : decode cX2_become 26 = .ok (.aload_n 0, 1) := by decide +kernel
theorem dX2_become_27 : decode cX2_become 27 = .ok (.iconst 0, 1) := by decide +kernel
theorem dX2_become_28 : decode cX2_become 28 = .ok (.putfield 31, 3) := by decide +kernel
theorem dX2_become_31 : decode cX2_become 31 = .ok (.aload_n 0, 1) := by decide +kernel
theorem dX2_become_32 : decode cX2_become 32 = .ok (.getfield 15, 3) := by decide +kernel
theorem dX2_become_35 : decode cX2_become 35 = .ok (.iconst 0, 1) := by decide +kernel
theorem dX2_become_36 : decode cX2_become 36 = .ok (.invokestatic 34, 3) := by decide +kernel
theorem dX2_become_39 : decode cX2_become 39 = .ok (.return_, 1) := by decide +kernel
theorem dX2_copyFrom_0 : decode cX2_copyFrom 0 = .ok (.aload_n 0, 1) := by decide +kernel
theorem dX2_copyFrom_1 : decode cX2_copyFrom 1 = .ok (.aload_n 1, 1) := by decide +kernel
theorem dX2_copyFrom_2 : decode cX2_copyFrom 2 = .ok (.getfield 19, 3) := by decide +kernel
theorem dX2_copyFrom_5 : decode cX2_copyFrom 5 = .ok (.putfield 19, 3) := by decide +kernel
theorem dX2_copyFrom_8 : decode cX2_copyFrom 8 = .ok (.aload_n 0, 1) := by decide +kernel
theorem dX2_copyFrom_9 : decode cX2_copyFrom 9 = .ok (.aload_n 1, 1) := by decide +kernel
theorem dX2_copyFrom_10 : decode cX2_copyFrom 10 = .ok (.getfield 22, 3) := by decide +kernel
theorem dX2_copyFrom_13 : decode cX2_copyFrom 13 = .ok (.putfield 22, 3) := by decide +kernel
theorem dX2_copyFrom_16 : decode cX2_copyFrom 16 = .ok (.aload_n 0, 1) := by decide +kernel
theorem dX2_copyFrom_17 : decode cX2_copyFrom 17 = .ok (.aload_n 1, 1) := by decide +kernel
theorem dX2_copyFrom_18 : decode cX2_copyFrom 18 = .ok (.getfield 25, 3) := by decide +kernel
theorem dX2_copyFrom_21 : decode cX2_copyFrom 21 = .ok (.putfield 25, 3) := by decide +kernel
theorem dX2_copyFrom_24 : decode cX2_copyFrom 24 = .ok (.aload_n 0, 1) := by decide +kernel
theorem dX2_copyFrom_25 : decode cX2_copyFrom 25 = .ok (.aload_n 1, 1) := by decide +kernel
theorem dX2_copyFrom_26 : decode cX2_copyFrom 26 = .ok (.getfield 28, 3) := by decide +kernel
theorem dX2_copyFrom_29 : decode cX2_copyFrom 29 = .ok (.putfield 28, 3) := by decide +kernel
theorem dX2_copyFrom_32 : decode cX2_copyFrom 32 = .ok (.aload_n 0, 1) := by decide +kernel
theorem dX2_copyFrom_33 : decode cX2_copyFrom 33 = .ok (.aload_n 1, 1) := by decide +kernel
theorem dX2_copyFrom_34 : decode cX2_copyFrom 34 = .ok (.getfield 9, 3) := by decide +kernel
theorem dX2_copyFrom_37 : decode cX2_copyFrom 37 = .ok (.putfield 9, 3) := by decide +kernel
theorem dX2_copyFrom_40 : decode cX2_copyFrom 40 = .ok (.aload_n 0, 1) := by decide +kernel
theorem dX2_copyFrom_41 : decode cX2_copyFrom 41 = .ok (.aload_n 1, 1) := by decide +kernel
theorem dX2_copyFrom_42 : decode cX2_copyFrom 42 = .ok (.getfield 31, 3) := by decide +kernel
theorem dX2_copyFrom_45 : decode cX2_copyFrom 45 = .ok (.putfield 31, 3) := by decide +kernel
theorem dX2_copyFrom_48 : decode cX2_copyFrom 48 = .ok (.aload_n 1, 1) := by decide +kernel
theorem dX2_copyFrom_49 : decode cX2_copyFrom 49 = .ok (.getfield 15, 3) := by decide +kernel
theorem dX2_copyFrom_52 : decode cX2_copyFrom 52 = .ok (.iconst 0, 1) := by decide +kernel
theorem dX2_copyFrom_53 : decode cX2_copyFrom 53 = .ok (.aload_n 0, 1) := by decide +kernel
theorem dX2_copyFrom_54 : decode cX2_copyFrom 54 = .ok (.getfield 15, 3) := by decide +kernel
theorem dX2_copyFrom_57 : decode cX2_copyFrom 57 = .ok (.iconst 0, 1) := by decide +kernel
theorem dX2_copyFrom_58 : decode cX2_copyFrom 58 = .ok (.iconst 4, 1) := by decide +kernel
theorem dX2_copyFrom_59 : decode cX2_copyFrom 59 = .ok (.invokestatic 40, 3) := by decide +kernel
theorem dX2_copyFrom_62 : decode cX2_copyFrom 62 = .ok (.return_, 1) := by decide +kernel
theorem dX2_isDone_0 : decode cX2_isDone 0 = .ok (.aload_n 0, 1) := by decide +kernel
theorem dX2_isDone_1 : decode cX2_isDone 1 = .ok (.getfield 31, 3) := by decide +kernel
theorem dX2_isDone_4 : decode cX2_isDone 4 = .ok (.ifCond .ne 18, 3) := by decide +kernel
theorem dX2_isDone_7 : decode cX2_isDone 7 = .ok (.aload_n 0, 1) := by decide +kernel
theorem dX2_isDone_8 : decode cX2_isDone 8 = .ok (.getfield 25, 3) := by decide +kernel
theorem dX2_isDone_11 : decode cX2_isDone 11 = .ok (.aload_n 0, 1) := by decide +kernel
theorem dX2_isDone_12 : decode cX2_isDone 12 = .ok (.getfield 9, 3) := by decide +kernel
theorem dX2_isDone_15 : decode cX2_isDone 15 = .ok (.if_icmp .ne 7, 3) := by decide +kernel
theorem dX2_isDone_18 : decode cX2_isDone 18 = .ok (.iconst 1, 1) := by decide +kernel
theorem dX2_isDone_19 : decode cX2_isDone 19 = .ok (.goto 4, 3) := by decide +kernel
theorem dX2_isDone_22 : decode cX2_isDone 22 = .ok (.iconst 0, 1) := by decide +kernel
theorem dX2_isDone_23 : decode cX2_isDone 23 = .ok (.ireturn, 1) := by decide +kernel
theorem dX3_init_0 : decode cX3_init 0 = .ok (.aload_n 0, 1) := by decide +kernel
theorem dX3_init_1 : decode cX3_init 1 = .ok (.invokespecial 3, 3) := by decide +kernel
theorem dX3_init_4 : decode cX3_init 4 = .ok (.aload_n 0, 1) := by decide +kernel
theorem dX3_init_5 : decode cX3_init 5 = .ok (.iload_n 1, 1) := by decide +kernel
theorem dX3_init_6 : decode cX3_init 6 = .ok (.newarray .int, 2) := by decide +kernel
theorem dX3_init_8 : decode cX3_init 8 = .ok (.putfield 9, 3) := by decide +kernel
theorem dX3_init_11 : decode cX3_init 11 = .ok (.aload_n 0, 1) := by decide +kernel
theorem dX3_init_12 : decode cX3_init 12 = .ok (.iload_n 1, 1) := by decide +kernel
theorem dX3_init_13 : decode cX3_init 13 = .ok (.newarray .int, 2) := by decide +kernel
theorem dX3_init_15 : decode cX3_init 15 = .ok (.putfield 15, 3) := by decide +kernel
theorem dX3_init_18 : decode cX3_init 18 = .ok (.aload_n 0, 1) := by decide +kernel
theorem dX3_init_19 : decode cX3_init 19 = .ok (.iload_n 1, 1) := by decide +kernel
theorem dX3_init_20 : decode cX3_init 20 = .ok (.newarray .int, 2) := by decide +kernel
theorem dX3_init_22 : decode cX3_init 22 = .ok (.putfield 18, 3) := by decide +kernel
theorem dX3_init_25 : decode cX3_init 25 = .ok (.return_, 1) := by decide +kernel
theorem dX3_empty_0 : decode cX3_empty 0 = .ok (.aload_n 0, 1) := by decide +kernel
theorem dX3_empty_1 : decode cX3_empty 1 = .ok (.iconst 0, 1) := by decide +kernel
theorem dX3_empty_2 : decode cX3_empty 2 = .ok (.putfield 21, 3) := by decide +kernel
theorem dX3_empty_5 : decode cX3_empty 5 = .ok (.iconst 0, 1) := by decide +kernel
theorem dX3_empty_6 : decode cX3_empty 6 = .ok (.ireturn, 1) := by decide +kernel
theorem dX3_add_0 : decode cX3_add 0 = .ok (.aload_n 0, 1) := by decide +kernel
theorem dX3_add_1 : decode cX3_add 1 = .ok (.getfield 21, 3) := by decide +kernel
theorem dX3_add_4 : decode cX3_add 4 = .ok (.aload_n 0, 1) := by decide +kernel
theorem dX3_add_5 : decode cX3_add 5 = .ok (.getfield 9, 3) := by decide +kernel
theorem dX3_add_8 : decode cX3_add 8 = .ok (.arraylength, 1) := by decide +kernel
theorem dX3_add_9 : decode cX3_add 9 = .ok (.if_icmp .lt 6, 3) := by decide +kernel
theorem dX3_add_12 : decode cX3_add 12 = .ok (.bipush (-4), 2) := by decide +kernel
theorem dX3_add_14 : decode cX3_add 14 = .ok (.ireturn, 1) := by decide +kernel
theorem dX3_add_15 : decode cX3_add 15 = .ok (.aload_n 0, 1) := by decide +kernel
theorem dX3_add_16 : decode cX3_add 16 = .ok (.getfield 9, 3) := by decide +kernel
theorem dX3_add_19 : decode cX3_add 19 = .ok (.aload_n 0, 1) := by decide +kernel
theorem dX3_add_20 : decode cX3_add 20 = .ok (.getfield 21, 3) := by decide +kernel
theorem dX3_add_23 : decode cX3_add 23 = .ok (.iload_n 1, 1) := by decide +kernel
theorem dX3_add_24 : decode cX3_add 24 = .ok (.iastore, 1) := by decide +kernel
theorem dX3_add_25 : decode cX3_add 25 = .ok (.aload_n 0, 1) := by decide +kernel
theorem dX3_add_26 : decode cX3_add 26 = .ok (.getfield 15, 3) := by decide +kernel
theorem dX3_add_29 : decode cX3_add 29 = .ok (.aload_n 0, 1) := by decide +kernel
theorem dX3_add_30 : decode cX3_add 30 = .ok (.getfield 21, 3) := by decide +kernel
theorem dX3_add_33 : decode cX3_add 33 = .ok (.iload_n 2, 1) := by decide +kernel
theorem dX3_add_34 : decode cX3_add 34 = .ok (.iastore, 1) := by decide +kernel
theorem dX3_add_35 : decode cX3_add 35 = .ok (.aload_n 0, 1) := by decide +kernel
theorem dX3_add_36 : decode cX3_add 36 = .ok (.getfield 18, 3) := by decide +kernel
theorem dX3_add_39 : decode cX3_add 39 = .ok (.aload_n 0, 1) := by decide +kernel
theorem dX3_add_40 : decode cX3_add 40 = .ok (.getfield 21, 3) := by decide +kernel
theorem dX3_add_43 : decode cX3_add 43 = .ok (.iload_n 3, 1) := by decide +kernel
theorem dX3_add_44 : decode cX3_add 44 = .ok (.iastore, 1) := by decide +kernel
theorem dX3_add_45 : decode cX3_add 45 = .ok (.aload_n 0, 1) := by decide +kernel
theorem dX3_add_46 : decode cX3_add 46 = .ok (.dup, 1) := by decide +kernel
theorem dX3_add_47 : decode cX3_add 47 = .ok (.getfield 21, 3) := by decide +kernel
theorem dX3_add_50 : decode cX3_add 50 = .ok (.iconst 1, 1) := by decide +kernel
theorem dX3_add_51 : decode cX3_add 51 = .ok (.iadd, 1) := by decide +kernel
theorem dX3_add_52 : decode cX3_add 52 = .ok (.putfield 21, 3) := by decide +kernel
theorem dX3_add_55 : decode cX3_add 55 = .ok (.aload_n 0, 1) := by decide +kernel
theorem dX3_add_56 : decode cX3_add 56 = .ok (.getfield 21, 3) := by decide +kernel
theorem dX3_add_59 : decode cX3_add 59 = .ok (.ireturn, 1) := by decide +kernel
theorem dX3_copyFrom_0 : decode cX3_copyFrom 0 = .ok (.aload_n 0, 1) := by decide +kernel
theorem dX3_copyFrom_1 : decode cX3_copyFrom 1 = .ok (.aload_n 1, 1) := by decide +kernel
theorem dX3_copyFrom_2 : decode cX3_copyFrom 2 = .ok (.getfield 21, 3) := by decide +kernel
theorem dX3_copyFrom_5 : decode cX3_copyFrom 5 = .ok (.aload_n 0, 1) := by decide +kernel
theorem dX3_copyFrom_6 : decode cX3_copyFrom 6 = .ok (.getfield 9, 3) := by decide +kernel
theorem dX3_copyFrom_9 : decode cX3_copyFrom 9 = .ok (.arraylength, 1) := by decide +kernel
theorem dX3_copyFrom_10 : decode cX3_copyFrom 10 = .ok (.invokestatic 25, 3) := by decide +kernel
theorem dX3_copyFrom_13 : decode cX3_copyFrom 13 = .ok (.putfield 21, 3) := by decide +kernel
theorem dX3_copyFrom_16 : decode cX3_copyFrom 16 = .ok (.aload_n 1, 1) := by decide +kernel
theorem dX3_copyFrom_17 : decode cX3_copyFrom 17 = .ok (.getfield 9, 3) := by decide +kernel
theorem dX3_copyFrom_20 : decode cX3_copyFrom 20 = .ok (.iconst 0, 1) := by decide +kernel
theorem dX3_copyFrom_21 : decode cX3_copyFrom 21 = .ok (.aload_n 0, 1) := by decide +kernel
theorem dX3_copyFrom_22 : decode cX3_copyFrom 22 = .ok (.getfield 9, 3) := by decide +kernel
theorem dX3_copyFrom_25 : decode cX3_copyFrom 25 = .ok (.iconst 0, 1) := by decide +kernel
theorem dX3_copyFrom_26 : decode cX3_copyFrom 26 = .ok (.aload_n 0, 1) := by decide +kernel
theorem dX3_copyFrom_27 : decode cX3_copyFrom 27 = .ok (.getfield 21, 3) := by decide +kernel
theorem dX3_copyFrom_30 : decode cX3_copyFrom 30 = .ok (.invokestatic 31, 3) := by decide +kernel
theorem dX3_copyFrom_33 : decode cX3_copyFrom 33 = .ok (.aload_n 1, 1) := by decide +kernel
theorem dX3_copyFrom_34 : decode cX3_copyFrom 34 = .ok (.getfield 15, 3) := by decide +kernel
theorem dX3_copyFrom_37 : decode cX3_copyFrom 37 = .ok (.iconst 0, 1) := by decide +kernel
theorem dX3_copyFrom_38 : decode cX3_copyFrom 38 = .ok (.aload_n 0, 1) := by decide +kernel
theorem dX3_copyFrom_39 : decode cX3_copyFrom 39 = .ok (.getfield 15, 3) := by decide +kernel
theorem dX3_copyFrom_42 : decode cX3_copyFrom 42 = .ok (.iconst 0, 1) := by decide +kernel
theorem dX3_copyFrom_43 : decode cX3_copyFrom 43 = .ok (.aload_n 0, 1) := by decide +kernel
theorem dX3_copyFrom_44 : decode cX3_copyFrom 44 = .ok (.getfield 21, 3) := by decide +kernel
theorem dX3_copyFrom_47 : decode cX3_copyFrom 47 = .ok (.invokestatic 31, 3) := by decide +kernel
theorem dX3_copyFrom_50 : decode cX3_copyFrom 50 = .ok (.aload_n 1, 1) := by decide +kernel
theorem dX3_copyFrom_51 : decode cX3_copyFrom 51 = .ok (.getfield 18, 3) := by decide +kernel
theorem dX3_copyFrom_54 : decode cX3_copyFrom 54 = .ok (.iconst 0, 1) := by decide +kernel
theorem dX3_copyFrom_55 : decode cX3_copyFrom 55 = .ok (.aload_n 0, 1) := by decide +kernel
theorem dX3_copyFrom_56 : decode cX3_copyFrom 56 = .ok (.getfield 18, 3) := by decide +kernel
theorem dX3_copyFrom_59 : decode cX3_copyFrom 59 = .ok (.iconst 0, 1) := by decide +kernel
theorem dX3_copyFrom_60 : decode cX3_copyFrom 60 = .ok (.aload_n 0, 1) := by decide +kernel
theorem dX3_copyFrom_61 : decode cX3_copyFrom 61 = .ok (.getfield 21, 3) := by decide +kernel
theorem dX3_copyFrom_64 : decode cX3_copyFrom 64 = .ok (.invokestatic 31, 3) := by decide +kernel
theorem dX3_copyFrom_67 : decode cX3_copyFrom 67 = .ok (.return_, 1) := by decide +kernel
theorem dX3_lastHour_0 : decode cX3_lastHour 0 = .ok (.iconst (-1), 1) := by decide +kernel
theorem dX3_lastHour_1 : decode cX3_lastHour 1 = .ok (.istore_n 2, 1) := by decide +kernel
theorem dX3_lastHour_2 : decode cX3_lastHour 2 = .ok (.iconst 0, 1) := by decide +kernel
theorem dX3_lastHour_3 : decode cX3_lastHour 3 = .ok (.istore_n 3, 1) := by decide +kernel
theorem dX3_lastHour_4 : decode cX3_lastHour 4 = .ok (.iload_n 3, 1) := by decide +kernel
theorem dX3_lastHour_5 : decode cX3_lastHour 5 = .ok (.aload_n 0, 1) := by decide +kernel
theorem dX3_lastHour_6 : decode cX3_lastHour 6 = .ok (.getfield 21, 3) := by decide +kernel
theorem dX3_lastHour_9 : decode cX3_lastHour 9 = .ok (.if_icmp .ge 30, 3) := by decide +kernel
theorem dX3_lastHour_12 : decode cX3_lastHour 12 = .ok (.aload_n 0, 1) := by decide +kernel
theorem dX3_lastHour_13 : decode cX3_lastHour 13 = .ok (.getfield 9, 3) := by decide +kernel
theorem dX3_lastHour_16 : decode cX3_lastHour 16 = .ok (.iload_n 3, 1) := by decide +kernel
theorem dX3_lastHour_17 : decode cX3_lastHour 17 = .ok (.iaload, 1) := by decide +kernel
theorem dX3_lastHour_18 : decode cX3_lastHour 18 = .ok (.iload_n 1, 1) := by decide +kernel
theorem dX3_lastHour_19 : decode cX3_lastHour 19 = .ok (.if_icmp .ne 14, 3) := by decide +kernel
theorem dX3_lastHour_22 : decode cX3_lastHour 22 = .ok (.iload_n 2, 1) := by decide +kernel
theorem dX3_lastHour_23 : decode cX3_lastHour 23 = .ok (.aload_n 0, 1) := by decide +kernel
theorem dX3_lastHour_24 : decode cX3_lastHour 24 = .ok (.getfield 18, 3) := by decide +kernel
theorem dX3_lastHour_27 : decode cX3_lastHour 27 = .ok (.iload_n 3, 1) := by decide +kernel
theorem dX3_lastHour_28 : decode cX3_lastHour 28 = .ok (.iaload, 1) := by decide +kernel
theorem dX3_lastHour_29 : decode cX3_lastHour 29 = .ok (.invokestatic 37, 3) := by decide +kernel
theorem dX3_lastHour_32 : decode cX3_lastHour 32 = .ok (.istore_n 2, 1) := by decide +kernel
theorem dX3_lastHour_33 : decode cX3_lastHour 33 = .ok (.iinc 3 1, 3) := by decide +kernel
theorem dX3_lastHour_36 : decode cX3_lastHour 36 = .ok (.goto (-32), 3) := by decide +kernel
theorem dX3_lastHour_39 : decode cX3_lastHour 39 = .ok (.iload_n 2, 1) := by decide +kernel
theorem dX3_lastHour_40 : decode cX3_lastHour 40 = .ok (.ireturn, 1) := by decide +kernel
theorem dX3_agrees_0 : decode cX3_agrees 0 = .ok (.iconst 0, 1) := by decide +kernel
theorem dX3_agrees_1 : decode cX3_agrees 1 = .ok (.istore 4, 2) := by decide +kernel
theorem dX3_agrees_3 : decode cX3_agrees 3 = .ok (.iload 4, 2) := by decide +kernel
theorem dX3_agrees_5 : decode cX3_agrees 5 = .ok (.aload_n 0, 1) := by decide +kernel
theorem dX3_agrees_6 : decode cX3_agrees 6 = .ok (.getfield 21, 3) := by decide +kernel
theorem dX3_agrees_9 : decode cX3_agrees 9 = .ok (.if_icmp .ge 44, 3) := by decide +kernel
theorem dX3_agrees_12 : decode cX3_agrees 12 = .ok (.aload_n 0, 1) := by decide +kernel
theorem dX3_agrees_13 : decode cX3_agrees 13 = .ok (.getfield 9, 3) := by decide +kernel
theorem dX3_agrees_16 : decode cX3_agrees 16 = .ok (.iload 4, 2) := by decide +kernel
theorem dX3_agrees_18 : decode cX3_agrees 18 = .ok (.iaload, 1) := by decide +kernel
theorem dX3_agrees_19 : decode cX3_agrees 19 = .ok (.iload_n 1, 1) := by decide +kernel
theorem dX3_agrees_20 : decode cX3_agrees 20 = .ok (.if_icmp .ne 27, 3) := by decide +kernel
theorem dX3_agrees_23 : decode cX3_agrees 23 = .ok (.aload_n 0, 1) := by decide +kernel
theorem dX3_agrees_24 : decode cX3_agrees 24 = .ok (.getfield 18, 3) := by decide +kernel
theorem dX3_agrees_27 : decode cX3_agrees 27 = .ok (.iload 4, 2) := by decide +kernel
theorem dX3_agrees_29 : decode cX3_agrees 29 = .ok (.iaload, 1) := by decide +kernel
theorem dX3_agrees_30 : decode cX3_agrees 30 = .ok (.iload_n 3, 1) := by decide +kernel
theorem dX3_agrees_31 : decode cX3_agrees 31 = .ok (.if_icmp .ne 16, 3) := by decide +kernel
theorem dX3_agrees_34 : decode cX3_agrees 34 = .ok (.aload_n 0, 1) := by decide +kernel
theorem dX3_agrees_35 : decode cX3_agrees 35 = .ok (.getfield 15, 3) := by decide +kernel
theorem dX3_agrees_38 : decode cX3_agrees 38 = .ok (.iload 4, 2) := by decide +kernel
theorem dX3_agrees_40 : decode cX3_agrees 40 = .ok (.iaload, 1) := by decide +kernel
theorem dX3_agrees_41 : decode cX3_agrees 41 = .ok (.iload_n 2, 1) := by decide +kernel
theorem dX3_agrees_42 : decode cX3_agrees 42 = .ok (.if_icmp .eq 5, 3) := by decide +kernel
theorem dX3_agrees_45 : decode cX3_agrees 45 = .ok (.iconst 0, 1) := by decide +kernel
theorem dX3_agrees_46 : decode cX3_agrees 46 = .ok (.ireturn, 1) := by decide +kernel
theorem dX3_agrees_47 : decode cX3_agrees 47 = .ok (.iinc 4 1, 3) := by decide +kernel
theorem dX3_agrees_50 : decode cX3_agrees 50 = .ok (.goto (-47), 3) := by decide +kernel
theorem dX3_agrees_53 : decode cX3_agrees 53 = .ok (.iconst 1, 1) := by decide +kernel
theorem dX3_agrees_54 : decode cX3_agrees 54 = .ok (.ireturn, 1) := by decide +kernel
theorem dX4_init_0 : decode cX4_init 0 = .ok (.aload_n 0, 1) := by decide +kernel
theorem dX4_init_1 : decode cX4_init 1 = .ok (.invokespecial 3, 3) := by decide +kernel
theorem dX4_init_4 : decode cX4_init 4 = .ok (.aload_n 0, 1) := by decide +kernel
theorem dX4_init_5 : decode cX4_init 5 = .ok (.iconst (-1), 1) := by decide +kernel
theorem dX4_init_6 : decode cX4_init 6 = .ok (.putfield 9, 3) := by decide +kernel
theorem dX4_init_9 : decode cX4_init 9 = .ok (.aload_n 0, 1) := by decide +kernel
theorem dX4_init_10 : decode cX4_init 10 = .ok (.bipush 60, 2) := by decide +kernel
theorem dX4_init_12 : decode cX4_init 12 = .ok (.newarray .long, 2) := by decide +kernel
theorem dX4_init_14 : decode cX4_init 14 = .ok (.putfield 15, 3) := by decide +kernel
theorem dX4_init_17 : decode cX4_init 17 = .ok (.return_, 1) := by decide +kernel
theorem dX4_become_0 : decode cX4_become 0 = .ok (.aload_n 0, 1) := by decide +kernel
theorem dX4_become_1 : decode cX4_become 1 = .ok (.iload_n 1, 1) := by decide +kernel
theorem dX4_become_2 : decode cX4_become 2 = .ok (.putfield 9, 3) := by decide +kernel
theorem dX4_become_5 : decode cX4_become 5 = .ok (.aload_n 0, 1) := by decide +kernel
theorem dX4_become_6 : decode cX4_become 6 = .ok (.iload_n 2, 1) := by decide +kernel
theorem dX4_become_7 : decode cX4_become 7 = .ok (.putfield 19, 3) := by decide +kernel
theorem dX4_become_10 : decode cX4_become 10 = .ok (.aload_n 0, 1) := by decide +kernel
theorem dX4_become_11 : decode cX4_become 11 = .ok (.getfield 15, 3) := by decide +kernel
theorem dX4_become_14 : decode cX4_become 14 = .ok (.lconst 0, 1) := by decide +kernel
theorem dX4_become_15 : decode cX4_become 15 = .ok (.invokestatic 22, 3) := by decide +kernel
theorem dX4_become_18 : decode cX4_become 18 = .ok (.return_, 1) := by decide +kernel
theorem dX4_hasPlace_0 : decode cX4_hasPlace 0 = .ok (.iload_n 1, 1) := by decide +kernel
theorem dX4_hasPlace_1 : decode cX4_hasPlace 1 = .ok (.ifCond .lt 15, 3) := by decide +kernel
theorem dX4_hasPlace_4 : decode cX4_hasPlace 4 = .ok (.iload_n 1, 1) := by decide +kernel
theorem dX4_hasPlace_5 : decode cX4_hasPlace 5 = .ok (.aload_n 0, 1) := by decide +kernel
theorem dX4_hasPlace_6 : decode cX4_hasPlace 6 = .ok (.getfield 19, 3) := by decide +kernel
theorem dX4_hasPlace_9 : decode cX4_hasPlace 9 = .ok (.if_icmp .ge 7, 3) := by decide +kernel
theorem dX4_hasPlace_12 : decode cX4_hasPlace 12 = .ok (.iconst 1, 1) := by decide +kernel
theorem dX4_hasPlace_13 : decode cX4_hasPlace 13 = .ok (.goto 4, 3) := by decide +kernel
theorem dX4_hasPlace_16 : decode cX4_hasPlace 16 = .ok (.iconst 0, 1) := by decide +kernel
theorem dX4_hasPlace_17 : decode cX4_hasPlace 17 = .ok (.ireturn, 1) := by decide +kernel
theorem dX4_hasPart_0 : decode cX4_hasPart 0 = .ok (.iload_n 1, 1) := by decide +kernel
theorem dX4_hasPart_1 : decode cX4_hasPart 1 = .ok (.ifCond .lt 29, 3) := by decide +kernel
theorem dX4_hasPart_4 : decode cX4_hasPart 4 = .ok (.iload_n 2, 1) := by decide +kernel
theorem dX4_hasPart_5 : decode cX4_hasPart 5 = .ok (.ifCond .lt 25, 3) := by decide +kernel
theorem dX4_hasPart_8 : decode cX4_hasPart 8 = .ok (.iload_n 1, 1) := by decide +kernel
theorem dX4_hasPart_9 : decode cX4_hasPart 9 = .ok (.aload_n 0, 1) := by decide +kernel
theorem dX4_hasPart_10 : decode cX4_hasPart 10 = .ok (.getfield 19, 3) := by decide +kernel
theorem dX4_hasPart_13 : decode cX4_hasPart 13 = .ok (.if_icmp .gt 17, 3) := by decide +kernel
theorem dX4_hasPart_16 : decode cX4_hasPart 16 = .ok (.iload_n 2, 1) := by decide +kernel
theorem dX4_hasPart_17 : decode cX4_hasPart 17 = .ok (.aload_n 0, 1) := by decide +kernel
theorem dX4_hasPart_18 : decode cX4_hasPart 18 = .ok (.getfield 19, 3) := by decide +kernel
theorem dX4_hasPart_21 : decode cX4_hasPart 21 = .ok (.iload_n 1, 1) := by decide +kernel
theorem dX4_hasPart_22 : decode cX4_hasPart 22 = .ok (.isub, 1) := by decide +kernel
theorem dX4_hasPart_23 : decode cX4_hasPart 23 = .ok (.if_icmp .gt 7, 3) := by decide +kernel
theorem dX4_hasPart_26 : decode cX4_hasPart 26 = .ok (.iconst 1, 1) := by decide +kernel
theorem dX4_hasPart_27 : decode cX4_hasPart 27 = .ok (.goto 4, 3) := by decide +kernel
theorem dX4_hasPart_30 : decode cX4_hasPart 30 = .ok (.iconst 0, 1) := by decide +kernel
theorem dX4_hasPart_31 : decode cX4_hasPart 31 = .ok (.ireturn, 1) := by decide +kernel
theorem dX4_asItem_0 : decode cX4_asItem 0 = .ok (.aload_n 0, 1) := by decide +kernel
theorem dX4_asItem_1 : decode cX4_asItem 1 = .ok (.getfield 9, 3) := by decide +kernel
theorem dX4_asItem_4 : decode cX4_asItem 4 = .ok (.tableswitch 62 0 4 #[36, 41, 46, 62, 50], 36) := by decide +kernel
theorem dX4_asItem_40 : decode cX4_asItem 40 = .ok (.lload_n 1, 1) := by decide +kernel
theorem dX4_asItem_41 : decode cX4_asItem 41 = .ok (.l2i, 1) := by decide +kernel
theorem dX4_asItem_42 : decode cX4_asItem 42 = .ok (.i2b, 1) := by decide +kernel
theorem dX4_asItem_43 : decode cX4_asItem 43 = .ok (.i2l, 1) := by decide +kernel
theorem dX4_asItem_44 : decode cX4_asItem 44 = .ok (.lreturn, 1) := by decide +kernel
theorem dX4_asItem_45 : decode cX4_asItem 45 = .ok (.lload_n 1, 1) := by decide +kernel
theorem dX4_asItem_46 : decode cX4_asItem 46 = .ok (.l2i, 1) := by decide +kernel
theorem dX4_asItem_47 : decode cX4_asItem 47 = .ok (.i2s, 1) := by decide +kernel
theorem dX4_asItem_48 : decode cX4_asItem 48 = .ok (.i2l, 1) := by decide +kernel
theorem dX4_asItem_49 : decode cX4_asItem 49 = .ok (.lreturn, 1) := by decide +kernel
theorem dX4_asItem_50 : decode cX4_asItem 50 = .ok (.lload_n 1, 1) := by decide +kernel
theorem dX4_asItem_51 : decode cX4_asItem 51 = .ok (.l2i, 1) := by decide +kernel
theorem dX4_asItem_52 : decode cX4_asItem 52 = .ok (.i2l, 1) := by decide +kernel
theorem dX4_asItem_53 : decode cX4_asItem 53 = .ok (.lreturn, 1) := by decide +kernel
theorem dX4_asItem_54 : decode cX4_asItem 54 = .ok (.lload_n 1, 1) := by decide +kernel
theorem dX4_asItem_55 : decode cX4_asItem 55 = .ok (.lconst 0, 1) := by decide +kernel
theorem dX4_asItem_56 : decode cX4_asItem 56 = .ok (.lcmp, 1) := by decide +kernel
theorem dX4_asItem_57 : decode cX4_asItem 57 = .ok (.ifCond .eq 7, 3) := by decide +kernel
theorem dX4_asItem_60 : decode cX4_asItem 60 = .ok (.lconst 1, 1) := by decide +kernel
theorem dX4_asItem_61 : decode cX4_asItem 61 = .ok (.goto 4, 3) := by decide +kernel
theorem dX4_asItem_64 : decode cX4_asItem 64 = .ok (.lconst 0, 1) := by decide +kernel
theorem dX4_asItem_65 : decode cX4_asItem 65 = .ok (.lreturn, 1) := by decide +kernel
theorem dX4_asItem_66 : decode cX4_asItem 66 = .ok (.lload_n 1, 1) := by decide +kernel
theorem dX4_asItem_67 : decode cX4_asItem 67 = .ok (.lreturn, 1) := by decide +kernel
theorem dX5_init_0 : decode cX5_init 0 = .ok (.aload_n 0, 1) := by decide +kernel
theorem dX5_init_1 : decode cX5_init 1 = .ok (.invokespecial 3, 3) := by decide +kernel
theorem dX5_init_4 : decode cX5_init 4 = .ok (.aload_n 0, 1) := by decide +kernel
theorem dX5_init_5 : decode cX5_init 5 = .ok (.bipush 100, 2) := by decide +kernel
theorem dX5_init_7 : decode cX5_init 7 = .ok (.newarray .int, 2) := by decide +kernel
theorem dX5_init_9 : decode cX5_init 9 = .ok (.putfield 9, 3) := by decide +kernel
theorem dX5_init_12 : decode cX5_init 12 = .ok (.return_, 1) := by decide +kernel
theorem dX5_append_0 : decode cX5_append 0 = .ok (.aload_n 0, 1) := by decide +kernel
theorem dX5_append_1 : decode cX5_append 1 = .ok (.getfield 15, 3) := by decide +kernel
theorem dX5_append_4 : decode cX5_append 4 = .ok (.bipush 100, 2) := by decide +kernel
theorem dX5_append_6 : decode cX5_append 6 = .ok (.if_icmp .lt 6, 3) := by decide +kernel
theorem dX5_append_9 : decode cX5_append 9 = .ok (.bipush (-4), 2) := by decide +kernel
theorem dX5_append_11 : decode cX5_append 11 = .ok (.ireturn, 1) := by decide +kernel
theorem dX5_append_12 : decode cX5_append 12 = .ok (.aload_n 0, 1) := by decide +kernel
theorem dX5_append_13 : decode cX5_append 13 = .ok (.getfield 9, 3) := by decide +kernel
theorem dX5_append_16 : decode cX5_append 16 = .ok (.aload_n 0, 1) := by decide +kernel
theorem dX5_append_17 : decode cX5_append 17 = .ok (.getfield 15, 3) := by decide +kernel
theorem dX5_append_20 : decode cX5_append 20 = .ok (.iload_n 1, 1) := by decide +kernel
theorem dX5_append_21 : decode cX5_append 21 = .ok (.iastore, 1) := by decide +kernel
theorem dX5_append_22 : decode cX5_append 22 = .ok (.aload_n 0, 1) := by decide +kernel
theorem dX5_append_23 : decode cX5_append 23 = .ok (.dup, 1) := by decide +kernel
theorem dX5_append_24 : decode cX5_append 24 = .ok (.getfield 15, 3) := by decide +kernel
theorem dX5_append_27 : decode cX5_append 27 = .ok (.iconst 1, 1) := by decide +kernel
theorem dX5_append_28 : decode cX5_append 28 = .ok (.iadd, 1) := by decide +kernel
theorem dX5_append_29 : decode cX5_append 29 = .ok (.putfield 15, 3) := by decide +kernel
theorem dX5_append_32 : decode cX5_append 32 = .ok (.aload_n 0, 1) := by decide +kernel
theorem dX5_append_33 : decode cX5_append 33 = .ok (.getfield 15, 3) := by decide +kernel
theorem dX5_append_36 : decode cX5_append 36 = .ok (.ireturn, 1) := by decide +kernel
theorem dX5_readInto_0 : decode cX5_readInto 0 = .ok (.aload_n 1, 1) := by decide +kernel
theorem dX5_readInto_1 : decode cX5_readInto 1 = .ok (.invokevirtual 19, 3) := by decide +kernel
theorem dX5_readInto_4 : decode cX5_readInto 4 = .ok (.aload_n 0, 1) := by decide +kernel
theorem dX5_readInto_5 : decode cX5_readInto 5 = .ok (.iconst 0, 1) := by decide +kernel
theorem dX5_readInto_6 : decode cX5_readInto 6 = .ok (.putfield 24, 3) := by decide +kernel
theorem dX5_readInto_9 : decode cX5_readInto 9 = .ok (.iconst 0, 1) := by decide +kernel
theorem dX5_readInto_10 : decode cX5_readInto 10 = .ok (.istore_n 2, 1) := by decide +kernel
theorem dX5_readInto_11 : decode cX5_readInto 11 = .ok (.iload_n 2, 1) := by decide +kernel
theorem dX5_readInto_12 : decode cX5_readInto 12 = .ok (.bipush 10, 2) := by decide +kernel
theorem dX5_readInto_14 : decode cX5_readInto 14 = .ok (.if_icmp .ge 55, 3) := by decide +kernel
theorem dX5_readInto_17 : decode cX5_readInto 17 = .ok (.aload_n 0, 1) := by decide +kernel
theorem dX5_readInto_18 : decode cX5_readInto 18 = .ok (.aload_n 1, 1) := by decide +kernel
theorem dX5_readInto_19 : decode cX5_readInto 19 = .ok (.invokevirtual 27, 3) := by decide +kernel
theorem dX5_readInto_22 : decode cX5_readInto 22 = .ok (.ifCond .ne 8, 3) := by decide +kernel
theorem dX5_readInto_25 : decode cX5_readInto 25 = .ok (.aload_n 0, 1) := by decide +kernel
theorem dX5_readInto_26 : decode cX5_readInto 26 = .ok (.getfield 24, 3) := by decide +kernel
theorem dX5_readInto_29 : decode cX5_readInto 29 = .ok (.ireturn, 1) := by decide +kernel
theorem dX5_readInto_30 : decode cX5_readInto 30 = .ok (.aload_n 0, 1) := by decide +kernel
theorem dX5_readInto_31 : decode cX5_readInto 31 = .ok (.getfield 24, 3) := by decide +kernel
theorem dX5_readInto_34 : decode cX5_readInto 34 = .ok (.aload_n 0, 1) := by decide +kernel
theorem dX5_readInto_35 : decode cX5_readInto 35 = .ok (.getfield 15, 3) := by decide +kernel
theorem dX5_readInto_38 : decode cX5_readInto 38 = .ok (.if_icmp .lt 5, 3) := by decide +kernel
theorem dX5_readInto_41 : decode cX5_readInto 41 = .ok (.iconst (-1), 1) := by decide +kernel
theorem dX5_readInto_42 : decode cX5_readInto 42 = .ok (.ireturn, 1) := by decide +kernel
theorem dX5_readInto_43 : decode cX5_readInto 43 = .ok (.iload_n 2, 1) := by decide +kernel
theorem dX5_readInto_44 : decode cX5_readInto 44 = .ok (.bipush 9, 2) := by decide +kernel
theorem dX5_readInto_46 : decode cX5_readInto 46 = .ok (.if_icmp .eq 12, 3) := by decide +kernel
theorem dX5_readInto_49 : decode cX5_readInto 49 = .ok (.aload_n 0, 1) := by decide +kernel
theorem dX5_readInto_50 : decode cX5_readInto 50 = .ok (.bipush 59, 2) := by decide +kernel
theorem dX5_readInto_52 : decode cX5_readInto 52 = .ok (.invokevirtual 31, 3) := by decide +kernel
theorem dX5_readInto_55 : decode cX5_readInto 55 = .ok (.ifCond .ne 8, 3) := by decide +kernel
theorem dX5_readInto_58 : decode cX5_readInto 58 = .ok (.aload_n 0, 1) := by decide +kernel
theorem dX5_readInto_59 : decode cX5_readInto 59 = .ok (.getfield 24, 3) := by decide +kernel
theorem dX5_readInto_62 : decode cX5_readInto 62 = .ok (.ireturn, 1) := by decide +kernel
theorem dX5_readInto_63 : decode cX5_readInto 63 = .ok (.iinc 2 1, 3) := by decide +kernel
theorem dX5_readInto_66 : decode cX5_readInto 66 = .ok (.goto (-55), 3) := by decide +kernel
theorem dX5_readInto_69 : decode cX5_readInto 69 = .ok (.aload_n 0, 1) := by decide +kernel
theorem dX5_readInto_70 : decode cX5_readInto 70 = .ok (.getfield 24, 3) := by decide +kernel
theorem dX5_readInto_73 : decode cX5_readInto 73 = .ok (.ireturn, 1) := by decide +kernel
theorem dX5_readClause_0 : decode cX5_readClause 0 = .ok (.aload_n 0, 1) := by decide +kernel
theorem dX5_readClause_1 : decode cX5_readClause 1 = .ok (.invokevirtual 35, 3) := by decide +kernel
theorem dX5_readClause_4 : decode cX5_readClause 4 = .ok (.bipush 100, 2) := by decide +kernel
theorem dX5_readClause_6 : decode cX5_readClause 6 = .ok (.if_icmp .ne 35, 3) := by decide +kernel
theorem dX5_readClause_9 : decode cX5_readClause 9 = .ok (.aload_n 0, 1) := by decide +kernel
theorem dX5_readClause_10 : decode cX5_readClause 10 = .ok (.ldc 39, 2) := by decide +kernel
theorem dX5_readClause_12 : decode cX5_readClause 12 = .ok (.invokevirtual 41, 3) := by decide +kernel
theorem dX5_readClause_15 : decode cX5_readClause 15 = .ok (.ifCond .eq 14, 3) := by decide +kernel
theorem dX5_readClause_18 : decode cX5_readClause 18 = .ok (.aload_n 0, 1) := by decide +kernel
theorem dX5_readClause_19 : decode cX5_readClause 19 = .ok (.invokevirtual 45, 3) := by decide +kernel
theorem dX5_readClause_22 : decode cX5_readClause 22 = .ok (.ifCond .eq 7, 3) := by decide +kernel
theorem dX5_readClause_25 : decode cX5_readClause 25 = .ok (.iconst 1, 1) := by decide +kernel
theorem dX5_readClause_26 : decode cX5_readClause 26 = .ok (.goto 4, 3) := by decide +kernel
theorem dX5_readClause_29 : decode cX5_readClause 29 = .ok (.iconst 0, 1) := by decide +kernel
theorem dX5_readClause_30 : decode cX5_readClause 30 = .ok (.istore_n 2, 1) := by decide +kernel
theorem dX5_readClause_31 : decode cX5_readClause 31 = .ok (.aload_n 1, 1) := by decide +kernel
theorem dX5_readClause_32 : decode cX5_readClause 32 = .ok (.aload_n 0, 1) := by decide +kernel
theorem dX5_readClause_33 : decode cX5_readClause 33 = .ok (.getfield 49, 3) := by decide +kernel
theorem dX5_readClause_36 : decode cX5_readClause 36 = .ok (.putfield 52, 3) := by decide +kernel
theorem dX5_readClause_39 : decode cX5_readClause 39 = .ok (.iload_n 2, 1) := by decide +kernel
theorem dX5_readClause_40 : decode cX5_readClause 40 = .ok (.ireturn, 1) := by decide +kernel
theorem dX5_readClause_41 : decode cX5_readClause 41 = .ok (.aload_n 0, 1) := by decide +kernel
theorem dX5_readClause_42 : decode cX5_readClause 42 = .ok (.invokevirtual 35, 3) := by decide +kernel
theorem dX5_readClause_45 : decode cX5_readClause 45 = .ok (.bipush 98, 2) := by decide +kernel
theorem dX5_readClause_47 : decode cX5_readClause 47 = .ok (.if_icmp .ne 7, 3) := by decide +kernel
theorem dX5_readClause_50 : decode cX5_readClause 50 = .ok (.iconst 1, 1) := by decide +kernel
theorem dX5_readClause_51 : decode cX5_readClause 51 = .ok (.goto 4, 3) := by decide +kernel
theorem dX5_readClause_54 : decode cX5_readClause 54 = .ok (.iconst 0, 1) := by decide +kernel
theorem dX5_readClause_55 : decode cX5_readClause 55 = .ok (.istore_n 2, 1) := by decide +kernel
theorem dX5_readClause_56 : decode cX5_readClause 56 = .ok (.aload_n 0, 1) := by decide +kernel
theorem dX5_readClause_57 : decode cX5_readClause 57 = .ok (.iload_n 2, 1) := by decide +kernel
theorem dX5_readClause_58 : decode cX5_readClause 58 = .ok (.ifCond .eq 8, 3) := by decide +kernel
theorem dX5_readClause_61 : decode cX5_readClause 61 = .ok (.ldc 55, 2) := by decide +kernel
theorem dX5_readClause_63 : decode cX5_readClause 63 = .ok (.goto 5, 3) := by decide +kernel
theorem dX5_readClause_66 : decode cX5_readClause 66 = .ok (.ldc 57, 2) := by decide +kernel
theorem dX5_readClause_68 : decode cX5_readClause 68 = .ok (.invokevirtual 41, 3) := by decide +kernel
theorem dX5_readClause_71 : decode cX5_readClause 71 = .ok (.ifCond .eq 10, 3) := by decide +kernel
theorem dX5_readClause_74 : decode cX5_readClause 74 = .ok (.aload_n 0, 1) := by decide +kernel
theorem dX5_readClause_75 : decode cX5_readClause 75 = .ok (.invokevirtual 45, 3) := by decide +kernel
theorem dX5_readClause_78 : decode cX5_readClause 78 = .ok (.ifCond .ne 5, 3) := by decide +kernel
theorem dX5_readClause_81 : decode cX5_readClause 81 = .ok (.iconst 0, 1) := by decide +kernel
theorem dX5_readClause_82 : decode cX5_readClause 82 = .ok (.ireturn, 1) := by decide +kernel
theorem dX5_readClause_83 : decode cX5_readClause 83 = .ok (.aload_n 0, 1) := by decide +kernel
theorem dX5_readClause_84 : decode cX5_readClause 84 = .ok (.getfield 49, 3) := by decide +kernel
theorem dX5_readClause_87 : decode cX5_readClause 87 = .ok (.istore_n 3, 1) := by decide +kernel
theorem dX5_readClause_88 : decode cX5_readClause 88 = .ok (.aload_n 0, 1) := by decide +kernel
theorem dX5_readClause_89 : decode cX5_readClause 89 = .ok (.bipush 32, 2) := by decide +kernel
theorem dX5_readClause_91 : decode cX5_readClause 91 = .ok (.invokevirtual 31, 3) := by decide +kernel
theorem dX5_readClause_94 : decode cX5_readClause 94 = .ok (.ifCond .eq 12, 3) := by decide +kernel
theorem dX5_readClause_97 : decode cX5_readClause 97 = .ok (.aload_n 0, 1) := by decide +kernel
theorem dX5_readClause_98 : decode cX5_readClause 98 = .ok (.aload_n 1, 1) := by decide +kernel
theorem dX5_readClause_99 : decode cX5_readClause 99 = .ok (.iconst 0, 1) := by decide +kernel
theorem dX5_readClause_100 : decode cX5_readClause 100 = .ok (.invokevirtual 59, 3) := by decide +kernel
theorem dX5_readClause_103 : decode cX5_readClause 103 = .ok (.ifCond .ne 5, 3) := by decide +kernel
theorem dX5_readClause_106 : decode cX5_readClause 106 = .ok (.iconst 0, 1) := by decide +kernel
theorem dX5_readClause_107 : decode cX5_readClause 107 = .ok (.ireturn, 1) := by decide +kernel
theorem dX5_readClause_108 : decode cX5_readClause 108 = .ok (.aload_n 1, 1) := by decide +kernel
theorem dX5_readClause_109 : decode cX5_readClause 109 = .ok (.iload_n 2, 1) := by decide +kernel
theorem dX5_readClause_110 : decode cX5_readClause 110 = .ok (.ifCond .eq 9, 3) := by decide +kernel
theorem dX5_readClause_113 : decode cX5_readClause 113 = .ok (.sipush 2100, 3) := by decide +kernel
theorem dX5_readClause_116 : decode cX5_readClause 116 = .ok (.goto 6, 3) := by decide +kernel
theorem dX5_readClause_119 : decode cX5_readClause 119 = .ok (.sipush 2000, 3) := by decide +kernel
theorem dX5_readClause_122 : decode cX5_readClause 122 = .ok (.iload_n 3, 1) := by decide +kernel
theorem dX5_readClause_123 : decode cX5_readClause 123 = .ok (.iadd, 1) := by decide +kernel
theorem dX5_readClause_124 : decode cX5_readClause 124 = .ok (.invokevirtual 63, 3) := by decide +kernel
theorem dX5_readClause_127 : decode cX5_readClause 127 = .ok (.iconst 1, 1) := by decide +kernel
theorem dX5_readClause_128 : decode cX5_readClause 128 = .ok (.ireturn, 1) := by decide +kernel
theorem dX5_readExpression_0 : decode cX5_readExpression 0 = .ok (.iconst 0, 1) := by decide +kernel
theorem dX5_readExpression_1 : decode cX5_readExpression 1 = .ok (.istore_n 3, 1) := by decide +kernel
theorem dX5_readExpression_2 : decode cX5_readExpression 2 = .ok (.iconst 0, 1) := by decide +kernel
theorem dX5_readExpression_3 : decode cX5_readExpression 3 = .ok (.istore 4, 2) := by decide +kernel
theorem dX5_readExpression_5 : decode cX5_readExpression 5 = .ok (.iconst 0, 1) := by decide +kernel
theorem dX5_readExpression_6 : decode cX5_readExpression 6 = .ok (.istore 5, 2) := by decide +kernel
theorem dX5_readExpression_8 : decode cX5_readExpression 8 = .ok (.iload 5, 2) := by decide +kernel
theorem dX5_readExpression_10 : decode cX5_readExpression 10 = .ok (.bipush 100, 2) := by decide +kernel
theorem dX5_readExpression_12 : decode cX5_readExpression 12 = .ok (.if_icmp .gt 69, 3) := by decide +kernel
theorem dX5_readExpression_15 : decode cX5_readExpression 15 = .ok (.aload_n 0, 1) := by decide +kernel
theorem dX5_readExpression_16 : decode cX5_readExpression 16 = .ok (.aload_n 1, 1) := by decide +kernel
theorem dX5_readExpression_17 : decode cX5_readExpression 17 = .ok (.iload_n 2, 1) := by decide +kernel
theorem dX5_readExpression_18 : decode cX5_readExpression 18 = .ok (.invokevirtual 67, 3) := by decide +kernel
theorem dX5_readExpression_21 : decode cX5_readExpression 21 = .ok (.ifCond .ne 5, 3) := by decide +kernel
theorem dX5_readExpression_24 : decode cX5_readExpression 24 = .ok (.iconst 0, 1) := by decide +kernel
theorem dX5_readExpression_25 : decode cX5_readExpression 25 = .ok (.ireturn, 1) := by decide +kernel
theorem dX5_readExpression_26 : decode cX5_readExpression 26 = .ok (.iload_n 3, 1) := by decide +kernel
theorem dX5_readExpression_27 : decode cX5_readExpression 27 = .ok (.ifCond .eq 8, 3) := by decide +kernel
theorem dX5_readExpression_30 : decode cX5_readExpression 30 = .ok (.aload_n 1, 1) := by decide +kernel
theorem dX5_readExpression_31 : decode cX5_readExpression 31 = .ok (.iconst (-1), 1) := by decide +kernel
theorem dX5_readExpression_32 : decode cX5_readExpression 32 = .ok (.invokevirtual 63, 3) := by decide +kernel
theorem dX5_readExpression_35 : decode cX5_readExpression 35 = .ok (.aload_n 0, 1) := by decide +kernel
theorem dX5_readExpression_36 : decode cX5_readExpression 36 = .ok (.bipush 38, 2) := by decide +kernel
theorem dX5_readExpression_38 : decode cX5_readExpression 38 = .ok (.invokevirtual 31, 3) := by decide +kernel
theorem dX5_readExpression_41 : decode cX5_readExpression 41 = .ok (.istore_n 3, 1) := by decide +kernel
theorem dX5_readExpression_42 : decode cX5_readExpression 42 = .ok (.iload_n 3, 1) := by decide +kernel
theorem dX5_readExpression_43 : decode cX5_readExpression 43 = .ok (.ifCond .eq 6, 3) := by decide +kernel
theorem dX5_readExpression_46 : decode cX5_readExpression 46 = .ok (.goto 29, 3) := by decide +kernel
theorem dX5_readExpression_49 : decode cX5_readExpression 49 = .ok (.iload 4, 2) := by decide +kernel
theorem dX5_readExpression_51 : decode cX5_readExpression 51 = .ok (.ifCond .eq 9, 3) := by decide +kernel
theorem dX5_readExpression_54 : decode cX5_readExpression 54 = .ok (.aload_n 1, 1) := by decide +kernel
theorem dX5_readExpression_55 : decode cX5_readExpression 55 = .ok (.bipush (-2), 2) := by decide +kernel
theorem dX5_readExpression_57 : decode cX5_readExpression 57 = .ok (.invokevirtual 63, 3) := by decide +kernel
theorem dX5_readExpression_60 : decode cX5_readExpression 60 = .ok (.aload_n 0, 1) := by decide +kernel
theorem dX5_readExpression_61 : decode cX5_readExpression 61 = .ok (.bipush 124, 2) := by decide +kernel
theorem dX5_readExpression_63 : decode cX5_readExpression 63 = .ok (.invokevirtual 31, 3) := by decide +kernel
theorem dX5_readExpression_66 : decode cX5_readExpression 66 = .ok (.istore 4, 2) := by decide +kernel
theorem dX5_readExpression_68 : decode cX5_readExpression 68 = .ok (.iload 4, 2) := by decide +kernel
theorem dX5_readExpression_70 : decode cX5_readExpression 70 = .ok (.ifCond .ne 5, 3) := by decide +kernel
theorem dX5_readExpression_73 : decode cX5_readExpression 73 = .ok (.iconst 1, 1) := by decide +kernel
theorem dX5_readExpression_74 : decode cX5_readExpression 74 = .ok (.ireturn, 1) := by decide +kernel
theorem dX5_readExpression_75 : decode cX5_readExpression 75 = .ok (.iinc 5 1, 3) := by decide +kernel
theorem dX5_readExpression_78 : decode cX5_readExpression 78 = .ok (.goto (-70), 3) := by decide +kernel
theorem dX5_readExpression_81 : decode cX5_readExpression 81 = .ok (.iconst 0, 1) := by decide +kernel
theorem dX5_readExpression_82 : decode cX5_readExpression 82 = .ok (.ireturn, 1) := by decide +kernel
theorem dX5_readFactor_0 : decode cX5_readFactor 0 = .ok (.aload_n 0, 1) := by decide +kernel
theorem dX5_readFactor_1 : decode cX5_readFactor 1 = .ok (.invokevirtual 35, 3) := by decide +kernel
theorem dX5_readFactor_4 : decode cX5_readFactor 4 = .ok (.istore_n 3, 1) := by decide +kernel
theorem dX5_readFactor_5 : decode cX5_readFactor 5 = .ok (.iload_n 3, 1) := by decide +kernel
theorem dX5_readFactor_6 : decode cX5_readFactor 6 = .ok (.bipush 33, 2) := by decide +kernel
theorem dX5_readFactor_8 : decode cX5_readFactor 8 = .ok (.if_icmp .eq 15, 3) := by decide +kernel
theorem dX5_readFactor_11 : decode cX5_readFactor 11 = .ok (.iload_n 3, 1) := by decide +kernel
theorem dX5_readFactor_12 : decode cX5_readFactor 12 = .ok (.bipush 40, 2) := by decide +kernel
theorem dX5_readFactor_14 : decode cX5_readFactor 14 = .ok (.if_icmp .eq 9, 3) := by decide +kernel
theorem dX5_readFactor_17 : decode cX5_readFactor 17 = .ok (.aload_n 0, 1) := by decide +kernel
theorem dX5_readFactor_18 : decode cX5_readFactor 18 = .ok (.aload_n 1, 1) := by decide +kernel
theorem dX5_readFactor_19 : decode cX5_readFactor 19 = .ok (.invokevirtual 70, 3) := by decide +kernel
theorem dX5_readFactor_22 : decode cX5_readFactor 22 = .ok (.ireturn, 1) := by decide +kernel
theorem dX5_readFactor_23 : decode cX5_readFactor 23 = .ok (.iload_n 2, 1) := by decide +kernel
theorem dX5_readFactor_24 : decode cX5_readFactor 24 = .ok (.iconst 4, 1) := by decide +kernel
theorem dX5_readFactor_25 : decode cX5_readFactor 25 = .ok (.if_icmp .lt 5, 3) := by decide +kernel
theorem dX5_readFactor_28 : decode cX5_readFactor 28 = .ok (.iconst 0, 1) := by decide +kernel
theorem dX5_readFactor_29 : decode cX5_readFactor 29 = .ok (.ireturn, 1) := by decide +kernel
theorem dX5_readFactor_30 : decode cX5_readFactor 30 = .ok (.aload_n 0, 1) := by decide +kernel
theorem dX5_readFactor_31 : decode cX5_readFactor 31 = .ok (.dup, 1) := by decide +kernel
theorem dX5_readFactor_32 : decode cX5_readFactor 32 = .ok (.getfield 24, 3) := by decide +kernel
theorem dX5_readFactor_35 : decode cX5_readFactor 35 = .ok (.iconst 1, 1) := by decide +kernel
theorem dX5_readFactor_36 : decode cX5_readFactor 36 = .ok (.iadd, 1) := by decide +kernel
theorem dX5_readFactor_37 : decode cX5_readFactor 37 = .ok (.putfield 24, 3) := by decide +kernel
theorem dX5_readFactor_40 : decode cX5_readFactor 40 = .ok (.iload_n 3, 1) := by decide +kernel
theorem dX5_readFactor_41 : decode cX5_readFactor 41 = .ok (.bipush 33, 2) := by decide +kernel
theorem dX5_readFactor_43 : decode cX5_readFactor 43 = .ok (.if_icmp .ne 12, 3) := by decide +kernel
theorem dX5_readFactor_46 : decode cX5_readFactor 46 = .ok (.aload_n 0, 1) := by decide +kernel
theorem dX5_readFactor_47 : decode cX5_readFactor 47 = .ok (.aload_n 1, 1) := by decide +kernel
theorem dX5_readFactor_48 : decode cX5_readFactor 48 = .ok (.iload_n 2, 1) := by decide +kernel
theorem dX5_readFactor_49 : decode cX5_readFactor 49 = .ok (.iconst 1, 1) := by decide +kernel
theorem dX5_readFactor_50 : decode cX5_readFactor 50 = .ok (.iadd, 1) := by decide +kernel
theorem dX5_readFactor_51 : decode cX5_readFactor 51 = .ok (.invokevirtual 73, 3) := by decide +kernel
theorem dX5_readFactor_54 : decode cX5_readFactor 54 = .ok (.ireturn, 1) := by decide +kernel
theorem dX5_readFactor_55 : decode cX5_readFactor 55 = .ok (.aload_n 0, 1) := by decide +kernel
theorem dX5_readFactor_56 : decode cX5_readFactor 56 = .ok (.aload_n 1, 1) := by decide +kernel
theorem dX5_readFactor_57 : decode cX5_readFactor 57 = .ok (.iload_n 2, 1) := by decide +kernel
theorem dX5_readFactor_58 : decode cX5_readFactor 58 = .ok (.iconst 1, 1) := by decide +kernel
theorem dX5_readFactor_59 : decode cX5_readFactor 59 = .ok (.iadd, 1) := by decide +kernel
theorem dX5_readFactor_60 : decode cX5_readFactor 60 = .ok (.invokevirtual 59, 3) := by decide +kernel
theorem dX5_readFactor_63 : decode cX5_readFactor 63 = .ok (.ifCond .eq 16, 3) := by decide +kernel
theorem dX5_readFactor_66 : decode cX5_readFactor 66 = .ok (.aload_n 0, 1) := by decide +kernel
theorem dX5_readFactor_67 : decode cX5_readFactor 67 = .ok (.bipush 41, 2) := by decide +kernel
theorem dX5_readFactor_69 : decode cX5_readFactor 69 = .ok (.invokevirtual 31, 3) := by decide +kernel
theorem dX5_readFactor_72 : decode cX5_readFactor 72 = .ok (.ifCond .eq 7, 3) := by decide +kernel
theorem dX5_readFactor_75 : decode cX5_readFactor 75 = .ok (.iconst 1, 1) := by decide +kernel
theorem dX5_readFactor_76 : decode cX5_readFactor 76 = .ok (.goto 4, 3) := by decide +kernel
theorem dX5_readFactor_79 : decode cX5_readFactor 79 = .ok (.iconst 0, 1) := by decide +kernel
theorem dX5_readFactor_80 : decode cX5_readFactor 80 = .ok (.ireturn, 1) := by decide +kernel
theorem dX5_readDenied_0 : decode cX5_readDenied 0 = .ok (.aload_n 0, 1) := by decide +kernel
theorem dX5_readDenied_1 : decode cX5_readDenied 1 = .ok (.aload_n 1, 1) := by decide +kernel
theorem dX5_readDenied_2 : decode cX5_readDenied 2 = .ok (.iload_n 2, 1) := by decide +kernel
theorem dX5_readDenied_3 : decode cX5_readDenied 3 = .ok (.invokevirtual 67, 3) := by decide +kernel
theorem dX5_readDenied_6 : decode cX5_readDenied 6 = .ok (.ifCond .ne 5, 3) := by decide +kernel
theorem dX5_readDenied_9 : decode cX5_readDenied 9 = .ok (.iconst 0, 1) := by decide +kernel
theorem dX5_readDenied_10 : decode cX5_readDenied 10 = .ok (.ireturn, 1) := by decide +kernel
theorem dX5_readDenied_11 : decode cX5_readDenied 11 = .ok (.aload_n 1, 1) := by decide +kernel
theorem dX5_readDenied_12 : decode cX5_readDenied 12 = .ok (.bipush (-3), 2) := by decide +kernel
theorem dX5_readDenied_14 : decode cX5_readDenied 14 = .ok (.invokevirtual 63, 3) := by decide +kernel
theorem dX5_readDenied_17 : decode cX5_readDenied 17 = .ok (.iconst 1, 1) := by decide +kernel
theorem dX5_readDenied_18 : decode cX5_readDenied 18 = .ok (.ireturn, 1) := by decide +kernel
theorem dX5_readTest_0 : decode cX5_readTest 0 = .ok (.aload_n 0, 1) := by decide +kernel
theorem dX5_readTest_1 : decode cX5_readTest 1 = .ok (.ldc 76, 2) := by decide +kernel
theorem dX5_readTest_3 : decode cX5_readTest 3 = .ok (.invokevirtual 78, 3) := by decide +kernel
theorem dX5_readTest_6 : decode cX5_readTest 6 = .ok (.istore_n 2, 1) := by decide +kernel
theorem dX5_readTest_7 : decode cX5_readTest 7 = .ok (.iload_n 2, 1) := by decide +kernel
theorem dX5_readTest_8 : decode cX5_readTest 8 = .ok (.ifCond .ge 5, 3) := by decide +kernel
theorem dX5_readTest_11 : decode cX5_readTest 11 = .ok (.iconst 0, 1) := by decide +kernel
theorem dX5_readTest_12 : decode cX5_readTest 12 = .ok (.ireturn, 1) := by decide +kernel
theorem dX5_readTest_13 : decode cX5_readTest 13 = .ok (.aload_n 0, 1) := by decide +kernel
theorem dX5_readTest_14 : decode cX5_readTest 14 = .ok (.ldc 82, 2) := by decide +kernel
theorem dX5_readTest_16 : decode cX5_readTest 16 = .ok (.invokevirtual 78, 3) := by decide +kernel
theorem dX5_readTest_19 : decode cX5_readTest 19 = .ok (.istore_n 3, 1) := by decide +kernel
theorem dX5_readTest_20 : decode cX5_readTest 20 = .ok (.iload_n 3, 1) := by decide +kernel
theorem dX5_readTest_21 : decode cX5_readTest 21 = .ok (.ifCond .lt 10, 3) := by decide +kernel
theorem dX5_readTest_24 : decode cX5_readTest 24 = .ok (.aload_n 0, 1) := by decide +kernel
theorem dX5_readTest_25 : decode cX5_readTest 25 = .ok (.invokevirtual 45, 3) := by decide +kernel
theorem dX5_readTest_28 : decode cX5_readTest 28 = .ok (.ifCond .ne 5, 3) := by decide +kernel
theorem dX5_readTest_31 : decode cX5_readTest 31 = .ok (.iconst 0, 1) := by decide +kernel
theorem dX5_readTest_32 : decode cX5_readTest 32 = .ok (.ireturn, 1) := by decide +kernel
theorem dX5_readTest_33 : decode cX5_readTest 33 = .ok (.aload_n 1, 1) := by decide +kernel
theorem dX5_readTest_34 : decode cX5_readTest 34 = .ok (.iload_n 2, 1) := by decide +kernel
theorem dX5_readTest_35 : decode cX5_readTest 35 = .ok (.sipush 300, 3) := by decide +kernel
theorem dX5_readTest_38 : decode cX5_readTest 38 = .ok (.imul, 1) := by decide +kernel
theorem dX5_readTest_39 : decode cX5_readTest 39 = .ok (.iload_n 3, 1) := by decide +kernel
theorem dX5_readTest_40 : decode cX5_readTest 40 = .ok (.bipush 100, 2) := by decide +kernel
theorem dX5_readTest_42 : decode cX5_readTest 42 = .ok (.imul, 1) := by decide +kernel
theorem dX5_readTest_43 : decode cX5_readTest 43 = .ok (.iadd, 1) := by decide +kernel
theorem dX5_readTest_44 : decode cX5_readTest 44 = .ok (.aload_n 0, 1) := by decide +kernel
theorem dX5_readTest_45 : decode cX5_readTest 45 = .ok (.getfield 49, 3) := by decide +kernel
theorem dX5_readTest_48 : decode cX5_readTest 48 = .ok (.iadd, 1) := by decide +kernel
theorem dX5_readTest_49 : decode cX5_readTest 49 = .ok (.invokevirtual 63, 3) := by decide +kernel
theorem dX5_readTest_52 : decode cX5_readTest 52 = .ok (.iconst 1, 1) := by decide +kernel
theorem dX5_readTest_53 : decode cX5_readTest 53 = .ok (.ireturn, 1) := by decide +kernel
theorem dX5_sign_0 : decode cX5_sign 0 = .ok (.aload_n 0, 1) := by decide +kernel
theorem dX5_sign_1 : decode cX5_sign 1 = .ok (.getfield 24, 3) := by decide +kernel
theorem dX5_sign_4 : decode cX5_sign 4 = .ok (.aload_n 0, 1) := by decide +kernel
theorem dX5_sign_5 : decode cX5_sign 5 = .ok (.getfield 15, 3) := by decide +kernel
theorem dX5_sign_8 : decode cX5_sign 8 = .ok (.if_icmp .ge 15, 3) := by decide +kernel
theorem dX5_sign_11 : decode cX5_sign 11 = .ok (.aload_n 0, 1) := by decide +kernel
theorem dX5_sign_12 : decode cX5_sign 12 = .ok (.getfield 9, 3) := by decide +kernel
theorem dX5_sign_15 : decode cX5_sign 15 = .ok (.aload_n 0, 1) := by decide +kernel
theorem dX5_sign_16 : decode cX5_sign 16 = .ok (.getfield 24, 3) := by decide +kernel
theorem dX5_sign_19 : decode cX5_sign 19 = .ok (.iaload, 1) := by decide +kernel
theorem dX5_sign_20 : decode cX5_sign 20 = .ok (.goto 4, 3) := by decide +kernel
theorem dX5_sign_23 : decode cX5_sign 23 = .ok (.iconst (-1), 1) := by decide +kernel
theorem dX5_sign_24 : decode cX5_sign 24 = .ok (.ireturn, 1) := by decide +kernel
theorem dX5_takes_0 : decode cX5_takes 0 = .ok (.aload_n 0, 1) := by decide +kernel
theorem dX5_takes_1 : decode cX5_takes 1 = .ok (.invokevirtual 35, 3) := by decide +kernel
theorem dX5_takes_4 : decode cX5_takes 4 = .ok (.iload_n 1, 1) := by decide +kernel
theorem dX5_takes_5 : decode cX5_takes 5 = .ok (.if_icmp .eq 5, 3) := by decide +kernel
theorem dX5_takes_8 : decode cX5_takes 8 = .ok (.iconst 0, 1) := by decide +kernel
theorem dX5_takes_9 : decode cX5_takes 9 = .ok (.ireturn, 1) := by decide +kernel
theorem dX5_takes_10 : decode cX5_takes 10 = .ok (.aload_n 0, 1) := by decide +kernel
theorem dX5_takes_11 : decode cX5_takes 11 = .ok (.dup, 1) := by decide +kernel
theorem dX5_takes_12 : decode cX5_takes 12 = .ok (.getfield 24, 3) := by decide +kernel
theorem dX5_takes_15 : decode cX5_takes 15 = .ok (.iconst 1, 1) := by decide +kernel
theorem dX5_takes_16 : decode cX5_takes 16 = .ok (.iadd, 1) := by decide +kernel
theorem dX5_takes_17 : decode cX5_takes 17 = .ok (.putfield 24, 3) := by decide +kernel
theorem dX5_takes_20 : decode cX5_takes 20 = .ok (.iconst 1, 1) := by decide +kernel
theorem dX5_takes_21 : decode cX5_takes 21 = .ok (.ireturn, 1) := by decide +kernel
theorem dX5_takesWord_0 : decode cX5_takesWord 0 = .ok (.iconst 0, 1) := by decide +kernel
theorem dX5_takesWord_1 : decode cX5_takesWord 1 = .ok (.istore_n 2, 1) := by decide +kernel
theorem dX5_takesWord_2 : decode cX5_takesWord 2 = .ok (.iload_n 2, 1) := by decide +kernel
theorem dX5_takesWord_3 : decode cX5_takesWord 3 = .ok (.aload_n 1, 1) := by decide +kernel
theorem dX5_takesWord_4 : decode cX5_takesWord 4 = .ok (.invokevirtual 84, 3) := by decide +kernel
theorem dX5_takesWord_7 : decode cX5_takesWord 7 = .ok (.if_icmp .ge 23, 3) := by decide +kernel
theorem dX5_takesWord_10 : decode cX5_takesWord 10 = .ok (.aload_n 0, 1) := by decide +kernel
theorem dX5_takesWord_11 : decode cX5_takesWord 11 = .ok (.aload_n 1, 1) := by decide +kernel
theorem dX5_takesWord_12 : decode cX5_takesWord 12 = .ok (.iload_n 2, 1) := by decide +kernel
theorem dX5_takesWord_13 : decode cX5_takesWord 13 = .ok (.invokevirtual 88, 3) := by decide +kernel
theorem dX5_takesWord_16 : decode cX5_takesWord 16 = .ok (.invokevirtual 31, 3) := by decide +kernel
theorem dX5_takesWord_19 : decode cX5_takesWord 19 = .ok (.ifCond .ne 5, 3) := by decide +kernel
theorem dX5_takesWord_22 : decode cX5_takesWord 22 = .ok (.iconst 0, 1) := by decide +kernel
theorem dX5_takesWord_23 : decode cX5_takesWord 23 = .ok (.ireturn, 1) := by decide +kernel
theorem dX5_takesWord_24 : decode cX5_takesWord 24 = .ok (.iinc 2 1, 3) := by decide +kernel
theorem dX5_takesWord_27 : decode cX5_takesWord 27 = .ok (.goto (-25), 3) := by decide +kernel
theorem dX5_takesWord_30 : decode cX5_takesWord 30 = .ok (.iconst 1, 1) := by decide +kernel
theorem dX5_takesWord_31 : decode cX5_takesWord 31 = .ok (.ireturn, 1) := by decide +kernel
theorem dX5_takesOneOf_0 : decode cX5_takesOneOf 0 = .ok (.aload_n 0, 1) := by decide +kernel
theorem dX5_takesOneOf_1 : decode cX5_takesOneOf 1 = .ok (.invokevirtual 35, 3) := by decide +kernel
theorem dX5_takesOneOf_4 : decode cX5_takesOneOf 4 = .ok (.istore_n 2, 1) := by decide +kernel
theorem dX5_takesOneOf_5 : decode cX5_takesOneOf 5 = .ok (.iload_n 2, 1) := by decide +kernel
theorem dX5_takesOneOf_6 : decode cX5_takesOneOf 6 = .ok (.ifCond .ge 5, 3) := by decide +kernel
theorem dX5_takesOneOf_9 : decode cX5_takesOneOf 9 = .ok (.iconst (-1), 1) := by decide +kernel
theorem dX5_takesOneOf_10 : decode cX5_takesOneOf 10 = .ok (.ireturn, 1) := by decide +kernel
theorem dX5_takesOneOf_11 : decode cX5_takesOneOf 11 = .ok (.aload_n 1, 1) := by decide +kernel
theorem dX5_takesOneOf_12 : decode cX5_takesOneOf 12 = .ok (.iload_n 2, 1) := by decide +kernel
theorem dX5_takesOneOf_13 : decode cX5_takesOneOf 13 = .ok (.i2c, 1) := by decide +kernel
theorem dX5_takesOneOf_14 : decode cX5_takesOneOf 14 = .ok (.invokevirtual 92, 3) := by decide +kernel
theorem dX5_takesOneOf_17 : decode cX5_takesOneOf 17 = .ok (.istore_n 3, 1) := by decide +kernel
theorem dX5_takesOneOf_18 : decode cX5_takesOneOf 18 = .ok (.iload_n 3, 1) := by decide +kernel
theorem dX5_takesOneOf_19 : decode cX5_takesOneOf 19 = .ok (.ifCond .lt 13, 3) := by decide +kernel
theorem dX5_takesOneOf_22 : decode cX5_takesOneOf 22 = .ok (.aload_n 0, 1) := by decide +kernel
theorem dX5_takesOneOf_23 : decode cX5_takesOneOf 23 = .ok (.dup, 1) := by decide +kernel
theorem dX5_takesOneOf_24 : decode cX5_takesOneOf 24 = .ok (.getfield 24, 3) := by decide +kernel
theorem dX5_takesOneOf_27 : decode cX5_takesOneOf 27 = .ok (.iconst 1, 1) := by decide +kernel
theorem dX5_takesOneOf_28 : decode cX5_takesOneOf 28 = .ok (.iadd, 1) := by decide +kernel
theorem dX5_takesOneOf_29 : decode cX5_takesOneOf 29 = .ok (.putfield 24, 3) := by decide +kernel
theorem dX5_takesOneOf_32 : decode cX5_takesOneOf 32 = .ok (.iload_n 3, 1) := by decide +kernel
theorem dX5_takesOneOf_33 : decode cX5_takesOneOf 33 = .ok (.ireturn, 1) := by decide +kernel
theorem dX5_takesNumber_0 : decode cX5_takesNumber 0 = .ok (.aload_n 0, 1) := by decide +kernel
theorem dX5_takesNumber_1 : decode cX5_takesNumber 1 = .ok (.iconst 0, 1) := by decide +kernel
theorem dX5_takesNumber_2 : decode cX5_takesNumber 2 = .ok (.putfield 49, 3) := by decide +kernel
theorem dX5_takesNumber_5 : decode cX5_takesNumber 5 = .ok (.iconst 0, 1) := by decide +kernel
theorem dX5_takesNumber_6 : decode cX5_takesNumber 6 = .ok (.istore_n 1, 1) := by decide +kernel
theorem dX5_takesNumber_7 : decode cX5_takesNumber 7 = .ok (.iconst 0, 1) := by decide +kernel
theorem dX5_takesNumber_8 : decode cX5_takesNumber 8 = .ok (.istore_n 2, 1) := by decide +kernel
theorem dX5_takesNumber_9 : decode cX5_takesNumber 9 = .ok (.iload_n 2, 1) := by decide +kernel
theorem dX5_takesNumber_10 : decode cX5_takesNumber 10 = .ok (.iconst 2, 1) := by decide +kernel
theorem dX5_takesNumber_11 : decode cX5_takesNumber 11 = .ok (.if_icmp .ge 59, 3) := by decide +kernel
theorem dX5_takesNumber_14 : decode cX5_takesNumber 14 = .ok (.aload_n 0, 1) := by decide +kernel
theorem dX5_takesNumber_15 : decode cX5_takesNumber 15 = .ok (.invokevirtual 35, 3) := by decide +kernel
theorem dX5_takesNumber_18 : decode cX5_takesNumber 18 = .ok (.bipush 48, 2) := by decide +kernel
theorem dX5_takesNumber_20 : decode cX5_takesNumber 20 = .ok (.if_icmp .lt 50, 3) := by decide +kernel
theorem dX5_takesNumber_23 : decode cX5_takesNumber 23 = .ok (.aload_n 0, 1) := by decide +kernel
theorem dX5_takesNumber_24 : decode cX5_takesNumber 24 = .ok (.invokevirtual 35, 3) := by decide +kernel
theorem dX5_takesNumber_27 : decode cX5_takesNumber 27 = .ok (.bipush 57, 2) := by decide +kernel
theorem dX5_takesNumber_29 : decode cX5_takesNumber 29 = .ok (.if_icmp .gt 41, 3) := by decide +kernel
theorem dX5_takesNumber_32 : decode cX5_takesNumber 32 = .ok (.aload_n 0, 1) := by decide +kernel
theorem dX5_takesNumber_33 : decode cX5_takesNumber 33 = .ok (.aload_n 0, 1) := by decide +kernel
theorem dX5_takesNumber_34 : decode cX5_takesNumber 34 = .ok (.getfield 49, 3) := by decide +kernel
theorem dX5_takesNumber_37 : decode cX5_takesNumber 37 = .ok (.bipush 10, 2) := by decide +kernel
theorem dX5_takesNumber_39 : decode cX5_takesNumber 39 = .ok (.imul, 1) := by decide +kernel
theorem dX5_takesNumber_40 : decode cX5_takesNumber 40 = .ok (.aload_n 0, 1) := by decide +kernel
theorem dX5_takesNumber_41 : decode cX5_takesNumber 41 = .ok (.invokevirtual 35, 3) := by decide +kernel
theorem dX5_takesNumber_44 : decode cX5_takesNumber 44 = .ok (.iadd, 1) := by decide +kernel
theorem dX5_takesNumber_45 : decode cX5_takesNumber 45 = .ok (.bipush 48, 2) := by decide +kernel
theorem dX5_takesNumber_47 : decode cX5_takesNumber 47 = .ok (.isub, 1) := by decide +kernel
theorem dX5_takesNumber_48 : decode cX5_takesNumber 48 = .ok (.putfield 49, 3) := by decide +kernel
theorem dX5_takesNumber_51 : decode cX5_takesNumber 51 = .ok (.aload_n 0, 1) := by decide +kernel
theorem dX5_takesNumber_52 : decode cX5_takesNumber 52 = .ok (.dup, 1) := by decide +kernel
theorem dX5_takesNumber_53 : decode cX5_takesNumber 53 = .ok (.getfield 24, 3) := by decide +kernel
theorem dX5_takesNumber_56 : decode cX5_takesNumber 56 = .ok (.iconst 1, 1) := by decide +kernel
theorem dX5_takesNumber_57 : decode cX5_takesNumber 57 = .ok (.iadd, 1) := by decide +kernel
theorem dX5_takesNumber_58 : decode cX5_takesNumber 58 = .ok (.putfield 24, 3) := by decide +kernel
theorem dX5_takesNumber_61 : decode cX5_takesNumber 61 = .ok (.iinc 1 1, 3) := by decide +kernel
theorem dX5_takesNumber_64 : decode cX5_takesNumber 64 = .ok (.iinc 2 1, 3) := by decide +kernel
theorem dX5_takesNumber_67 : decode cX5_takesNumber 67 = .ok (.goto (-58), 3) := by decide +kernel
theorem dX5_takesNumber_70 : decode cX5_takesNumber 70 = .ok (.iload_n 1, 1) := by decide +kernel
theorem dX5_takesNumber_71 : decode cX5_takesNumber 71 = .ok (.ifCond .le 7, 3) := by decide +kernel
theorem dX5_takesNumber_74 : decode cX5_takesNumber 74 = .ok (.iconst 1, 1) := by decide +kernel
theorem dX5_takesNumber_75 : decode cX5_takesNumber 75 = .ok (.goto 4, 3) := by decide +kernel
theorem dX5_takesNumber_78 : decode cX5_takesNumber 78 = .ok (.iconst 0, 1) := by decide +kernel
theorem dX5_takesNumber_79 : decode cX5_takesNumber 79 = .ok (.ireturn, 1) := by decide +kernel
theorem dX6_init_0 : decode cX6_init 0 = .ok (.aload_n 0, 1) := by decide +kernel
theorem dX6_init_1 : decode cX6_init 1 = .ok (.invokespecial 3, 3) := by decide +kernel
theorem dX6_init_4 : decode cX6_init 4 = .ok (.aload_n 0, 1) := by decide +kernel
theorem dX6_init_5 : decode cX6_init 5 = .ok (.sipush 1536, 3) := by decide +kernel
theorem dX6_init_8 : decode cX6_init 8 = .ok (.newarray .int, 2) := by decide +kernel
theorem dX6_init_10 : decode cX6_init 10 = .ok (.putfield 9, 3) := by decide +kernel
theorem dX6_init_13 : decode cX6_init 13 = .ok (.aload_n 0, 1) := by decide +kernel
theorem dX6_init_14 : decode cX6_init 14 = .ok (.sipush 1536, 3) := by decide +kernel
theorem dX6_init_17 : decode cX6_init 17 = .ok (.newarray .int, 2) := by decide +kernel
theorem dX6_init_19 : decode cX6_init 19 = .ok (.putfield 15, 3) := by decide +kernel
theorem dX6_init_22 : decode cX6_init 22 = .ok (.aload_n 0, 1) := by decide +kernel
theorem dX6_init_23 : decode cX6_init 23 = .ok (.sipush 1536, 3) := by decide +kernel
theorem dX6_init_26 : decode cX6_init 26 = .ok (.newarray .boolean, 2) := by decide +kernel
theorem dX6_init_28 : decode cX6_init 28 = .ok (.putfield 18, 3) := by decide +kernel
theorem dX6_init_31 : decode cX6_init 31 = .ok (.aload_n 0, 1) := by decide +kernel
theorem dX6_init_32 : decode cX6_init 32 = .ok (.bipush 72, 2) := by decide +kernel
theorem dX6_init_34 : decode cX6_init 34 = .ok (.newarray .int, 2) := by decide +kernel
theorem dX6_init_36 : decode cX6_init 36 = .ok (.putfield 22, 3) := by decide +kernel
theorem dX6_init_39 : decode cX6_init 39 = .ok (.return_, 1) := by decide +kernel
theorem dX6_search_0 : decode cX6_search 0 = .ok (.aload_n 0, 1) := by decide +kernel
theorem dX6_search_1 : decode cX6_search 1 = .ok (.aload_n 1, 1) := by decide +kernel
theorem dX6_search_2 : decode cX6_search 2 = .ok (.getfield 25, 3) := by decide +kernel
theorem dX6_search_5 : decode cX6_search 5 = .ok (.iload_n 2, 1) := by decide +kernel
theorem dX6_search_6 : decode cX6_search 6 = .ok (.aaload, 1) := by decide +kernel
theorem dX6_search_7 : decode cX6_search 7 = .ok (.invokevirtual 31, 3) := by decide +kernel
theorem dX6_search_10 : decode cX6_search 10 = .ok (.iload_n 3, 1) := by decide +kernel
theorem dX6_search_11 : decode cX6_search 11 = .ok (.sipush 256, 3) := by decide +kernel
theorem dX6_search_14 : decode cX6_search 14 = .ok (.imul, 1) := by decide +kernel
theorem dX6_search_15 : decode cX6_search 15 = .ok (.istore 4, 2) := by decide +kernel
theorem dX6_search_17 : decode cX6_search 17 = .ok (.aload_n 0, 1) := by decide +kernel
theorem dX6_search_18 : decode cX6_search 18 = .ok (.getfield 9, 3) := by decide +kernel
theorem dX6_search_21 : decode cX6_search 21 = .ok (.iconst 0, 1) := by decide +kernel
theorem dX6_search_22 : decode cX6_search 22 = .ok (.iaload, 1) := by decide +kernel
theorem dX6_search_23 : decode cX6_search 23 = .ok (.iload 4, 2) := by decide +kernel
theorem dX6_search_25 : decode cX6_search 25 = .ok (.if_icmp .ne 7, 3) := by decide +kernel
theorem dX6_search_28 : decode cX6_search 28 = .ok (.iconst 1, 1) := by decide +kernel
theorem dX6_search_29 : decode cX6_search 29 = .ok (.goto 4, 3) := by decide +kernel
theorem dX6_search_32 : decode cX6_search 32 = .ok (.iconst 0, 1) := by decide +kernel
theorem dX6_search_33 : decode cX6_search 33 = .ok (.istore 5, 2) := by decide +kernel
theorem dX6_search_35 : decode cX6_search 35 = .ok (.iconst 0, 1) := by decide +kernel
theorem dX6_search_36 : decode cX6_search 36 = .ok (.istore 6, 2) := by decide +kernel
theorem dX6_search_38 : decode cX6_search 38 = .ok (.iconst 0, 1) := by decide +kernel
theorem dX6_search_39 : decode cX6_search 39 = .ok (.istore 7, 2) := by decide +kernel
theorem dX6_search_41 : decode cX6_search 41 = .ok (.iload 7, 2) := by decide +kernel
theorem dX6_search_43 : decode cX6_search 43 = .ok (.bipush 12, 2) := by decide +kernel
theorem dX6_search_45 : decode cX6_search 45 = .ok (.if_icmp .ge 215, 3) := by decide +kernel
theorem dX6_search_48 : decode cX6_search 48 = .ok (.iload 5, 2) := by decide +kernel
theorem dX6_search_50 : decode cX6_search 50 = .ok (.ifCond .ne 210, 3) := by decide +kernel
theorem dX6_search_53 : decode cX6_search 53 = .ok (.aload_n 0, 1) := by decide +kernel
theorem dX6_search_54 : decode cX6_search 54 = .ok (.getfield 35, 3) := by decide +kernel
theorem dX6_search_57 : decode cX6_search 57 = .ok (.istore 8, 2) := by decide +kernel
theorem dX6_search_59 : decode cX6_search 59 = .ok (.iload 6, 2) := by decide +kernel
theorem dX6_search_61 : decode cX6_search 61 = .ok (.iload 8, 2) := by decide +kernel
theorem dX6_search_63 : decode cX6_search 63 = .ok (.if_icmp .ge 191, 3) := by decide +kernel
theorem dX6_search_66 : decode cX6_search 66 = .ok (.iload 5, 2) := by decide +kernel
theorem dX6_search_68 : decode cX6_search 68 = .ok (.ifCond .ne 186, 3) := by decide +kernel
theorem dX6_search_71 : decode cX6_search 71 = .ok (.aload_n 0, 1) := by decide +kernel
theorem dX6_search_72 : decode cX6_search 72 = .ok (.getfield 9, 3) := by decide +kernel
theorem dX6_search_75 : decode cX6_search 75 = .ok (.iload 6, 2) := by decide +kernel
theorem dX6_search_77 : decode cX6_search 77 = .ok (.iaload, 1) := by decide +kernel
theorem dX6_search_78 : decode cX6_search 78 = .ok (.sipush 256, 3) := by decide +kernel
theorem dX6_search_81 : decode cX6_search 81 = .ok (.idiv, 1) := by decide +kernel
theorem dX6_search_82 : decode cX6_search 82 = .ok (.istore 9, 2) := by decide +kernel
theorem dX6_search_84 : decode cX6_search 84 = .ok (.aload_n 0, 1) := by decide +kernel
theorem dX6_search_85 : decode cX6_search 85 = .ok (.getfield 9, 3) := by decide +kernel
theorem dX6_search_88 : decode cX6_search 88 = .ok (.iload 6, 2) := by decide +kernel
theorem dX6_search_90 : decode cX6_search 90 = .ok (.iaload, 1) := by decide +kernel
theorem dX6_search_91 : decode cX6_search 91 = .ok (.sipush 256, 3) := by decide +kernel
theorem dX6_search_94 : decode cX6_search 94 = .ok (.irem, 1) := by decide +kernel
theorem dX6_search_95 : decode cX6_search 95 = .ok (.istore 10, 2) := by decide +kernel
theorem dX6_search_97 : decode cX6_search 97 = .ok (.iload 10, 2) := by decide +kernel
theorem dX6_search_99 : decode cX6_search 99 = .ok (.invokestatic 39, 3) := by decide +kernel
theorem dX6_search_102 : decode cX6_search 102 = .ok (.istore 11, 2) := by decide +kernel
theorem dX6_search_104 : decode cX6_search 104 = .ok (.iconst 0, 1) := by decide +kernel
theorem dX6_search_105 : decode cX6_search 105 = .ok (.istore 12, 2) := by decide +kernel
theorem dX6_search_107 : decode cX6_search 107 = .ok (.iload 12, 2) := by decide +kernel
theorem dX6_search_109 : decode cX6_search 109 = .ok (.aload_n 1, 1) := by decide +kernel
theorem dX6_search_110 : decode cX6_search 110 = .ok (.getfield 45, 3) := by decide +kernel
theorem dX6_search_113 : decode cX6_search 113 = .ok (.if_icmp .ge 135, 3) := by decide +kernel
theorem dX6_search_116 : decode cX6_search 116 = .ok (.iload 5, 2) := by decide +kernel
theorem dX6_search_118 : decode cX6_search 118 = .ok (.ifCond .ne 130, 3) := by decide +kernel
theorem dX6_search_121 : decode cX6_search 121 = .ok (.aload_n 1, 1) := by decide +kernel
theorem dX6_search_122 : decode cX6_search 122 = .ok (.iload 12, 2) := by decide +kernel
theorem dX6_search_124 : decode cX6_search 124 = .ok (.iload 9, 2) := by decide +kernel
theorem dX6_search_126 : decode cX6_search 126 = .ok (.invokevirtual 48, 3) := by decide +kernel
theorem dX6_search_129 : decode cX6_search 129 = .ok (.istore 13, 2) := by decide +kernel
theorem dX6_search_131 : decode cX6_search 131 = .ok (.iload 13, 2) := by decide +kernel
theorem dX6_search_133 : decode cX6_search 133 = .ok (.ifCond .ge 6, 3) := by decide +kernel
theorem dX6_search_136 : decode cX6_search 136 = .ok (.goto 106, 3) := by decide +kernel
theorem dX6_search_139 : decode cX6_search 139 = .ok (.iload 12, 2) := by decide +kernel
theorem dX6_search_141 : decode cX6_search 141 = .ok (.bipush 9, 2) := by decide +kernel
theorem dX6_search_143 : decode cX6_search 143 = .ok (.imul, 1) := by decide +kernel
theorem dX6_search_144 : decode cX6_search 144 = .ok (.iload 11, 2) := by decide +kernel
theorem dX6_search_146 : decode cX6_search 146 = .ok (.iadd, 1) := by decide +kernel
theorem dX6_search_147 : decode cX6_search 147 = .ok (.istore 14, 2) := by decide +kernel
theorem dX6_search_149 : decode cX6_search 149 = .ok (.aload_n 0, 1) := by decide +kernel
theorem dX6_search_150 : decode cX6_search 150 = .ok (.getfield 22, 3) := by decide +kernel
theorem dX6_search_153 : decode cX6_search 153 = .ok (.iload 14, 2) := by decide +kernel
theorem dX6_search_155 : decode cX6_search 155 = .ok (.iaload, 1) := by decide +kernel
theorem dX6_search_156 : decode cX6_search 156 = .ok (.ifCond .ne 27, 3) := by decide +kernel
theorem dX6_search_159 : decode cX6_search 159 = .ok (.aload_n 0, 1) := by decide +kernel
theorem dX6_search_160 : decode cX6_search 160 = .ok (.getfield 22, 3) := by decide +kernel
theorem dX6_search_163 : decode cX6_search 163 = .ok (.iload 14, 2) := by decide +kernel
theorem dX6_search_165 : decode cX6_search 165 = .ok (.aload_n 1, 1) := by decide +kernel
theorem dX6_search_166 : decode cX6_search 166 = .ok (.iload_n 2, 1) := by decide +kernel
theorem dX6_search_167 : decode cX6_search 167 = .ok (.iload 12, 2) := by decide +kernel
theorem dX6_search_169 : decode cX6_search 169 = .ok (.iload 11, 2) := by decide +kernel
theorem dX6_search_171 : decode cX6_search 171 = .ok (.invokevirtual 52, 3) := by decide +kernel
theorem dX6_search_174 : decode cX6_search 174 = .ok (.ifCond .eq 7, 3) := by decide +kernel
theorem dX6_search_177 : decode cX6_search 177 = .ok (.iconst 1, 1) := by decide +kernel
theorem dX6_search_178 : decode cX6_search 178 = .ok (.goto 4, 3) := by decide +kernel
theorem dX6_search_181 : decode cX6_search 181 = .ok (.iconst 2, 1) := by decide +kernel
theorem dX6_search_182 : decode cX6_search 182 = .ok (.iastore, 1) := by decide +kernel
theorem dX6_search_183 : decode cX6_search 183 = .ok (.aload_n 0, 1) := by decide +kernel
theorem dX6_search_184 : decode cX6_search 184 = .ok (.getfield 22, 3) := by decide +kernel
theorem dX6_search_187 : decode cX6_search 187 = .ok (.iload 14, 2) := by decide +kernel
theorem dX6_search_189 : decode cX6_search 189 = .ok (.iaload, 1) := by decide +kernel
theorem dX6_search_190 : decode cX6_search 190 = .ok (.iconst 1, 1) := by decide +kernel
theorem dX6_search_191 : decode cX6_search 191 = .ok (.if_icmp .ne 51, 3) := by decide +kernel
theorem dX6_search_194 : decode cX6_search 194 = .ok (.iload 13, 2) := by decide +kernel
theorem dX6_search_196 : decode cX6_search 196 = .ok (.sipush 256, 3) := by decide +kernel
theorem dX6_search_199 : decode cX6_search 199 = .ok (.imul, 1) := by decide +kernel
theorem dX6_search_200 : decode cX6_search 200 = .ok (.aload_n 1, 1) := by decide +kernel
theorem dX6_search_201 : decode cX6_search 201 = .ok (.iload 10, 2) := by decide +kernel
theorem dX6_search_203 : decode cX6_search 203 = .ok (.iload 12, 2) := by decide +kernel
theorem dX6_search_205 : decode cX6_search 205 = .ok (.invokevirtual 56, 3) := by decide +kernel
theorem dX6_search_208 : decode cX6_search 208 = .ok (.iadd, 1) := by decide +kernel
theorem dX6_search_209 : decode cX6_search 209 = .ok (.istore 15, 2) := by decide +kernel
theorem dX6_search_211 : decode cX6_search 211 = .ok (.aload_n 0, 1) := by decide +kernel
theorem dX6_search_212 : decode cX6_search 212 = .ok (.iload 15, 2) := by decide +kernel
theorem dX6_search_214 : decode cX6_search 214 = .ok (.iload 6, 2) := by decide +kernel
theorem dX6_search_216 : decode cX6_search 216 = .ok (.bipush 8, 2) := by decide +kernel
theorem dX6_search_218 : decode cX6_search 218 = .ok (.imul, 1) := by decide +kernel
theorem dX6_search_219 : decode cX6_search 219 = .ok (.iload 12, 2) := by decide +kernel
theorem dX6_search_221 : decode cX6_search 221 = .ok (.iadd, 1) := by decide +kernel
theorem dX6_search_222 : decode cX6_search 222 = .ok (.invokevirtual 59, 3) := by decide +kernel
theorem dX6_search_225 : decode cX6_search 225 = .ok (.ifCond .eq 14, 3) := by decide +kernel
theorem dX6_search_228 : decode cX6_search 228 = .ok (.iload 15, 2) := by decide +kernel
theorem dX6_search_230 : decode cX6_search 230 = .ok (.iload 4, 2) := by decide +kernel
theorem dX6_search_232 : decode cX6_search 232 = .ok (.if_icmp .ne 7, 3) := by decide +kernel
theorem dX6_search_235 : decode cX6_search 235 = .ok (.iconst 1, 1) := by decide +kernel
theorem dX6_search_236 : decode cX6_search 236 = .ok (.goto 4, 3) := by decide +kernel
theorem dX6_search_239 : decode cX6_search 239 = .ok (.iconst 0, 1) := by decide +kernel
theorem dX6_search_240 : decode cX6_search 240 = .ok (.istore 5, 2) := by decide +kernel
theorem dX6_search_242 : decode cX6_search 242 = .ok (.iinc 12 1, 3) := by decide +kernel
theorem dX6_search_245 : decode cX6_search 245 = .ok (.goto (-138), 3) := by decide +kernel
theorem dX6_search_248 : decode cX6_search 248 = .ok (.iinc 6 1, 3) := by decide +kernel
theorem dX6_search_251 : decode cX6_search 251 = .ok (.goto (-192), 3) := by decide +kernel
theorem dX6_search_254 : decode cX6_search 254 = .ok (.iinc 7 1, 3) := by decide +kernel
theorem dX6_search_257 : decode cX6_search 257 = .ok (.goto (-216), 3) := by decide +kernel
theorem dX6_search_260 : decode cX6_search 260 = .ok (.aload_n 0, 1) := by decide +kernel
theorem dX6_search_261 : decode cX6_search 261 = .ok (.iload 5, 2) := by decide +kernel
theorem dX6_search_263 : decode cX6_search 263 = .ok (.ifCond .eq 8, 3) := by decide +kernel
theorem dX6_search_266 : decode cX6_search 266 = .ok (.iload 7, 2) := by decide +kernel
theorem dX6_search_268 : decode cX6_search 268 = .ok (.goto 5, 3) := by decide +kernel
theorem dX6_search_271 : decode cX6_search 271 = .ok (.bipush (-5), 2) := by decide +kernel
theorem dX6_search_273 : decode cX6_search 273 = .ok (.putfield 63, 3) := by decide +kernel
theorem dX6_search_276 : decode cX6_search 276 = .ok (.aload_n 0, 1) := by decide +kernel
theorem dX6_search_277 : decode cX6_search 277 = .ok (.getfield 63, 3) := by decide +kernel
theorem dX6_search_280 : decode cX6_search 280 = .ok (.ireturn, 1) := by decide +kernel
theorem dX6_stepAt_0 : decode cX6_stepAt 0 = .ok (.iload_n 1, 1) := by decide +kernel
theorem dX6_stepAt_1 : decode cX6_stepAt 1 = .ok (.ifCond .lt 11, 3) := by decide +kernel
theorem dX6_stepAt_4 : decode cX6_stepAt 4 = .ok (.iload_n 1, 1) := by decide +kernel
theorem dX6_stepAt_5 : decode cX6_stepAt 5 = .ok (.aload_n 0, 1) := by decide +kernel
theorem dX6_stepAt_6 : decode cX6_stepAt 6 = .ok (.getfield 63, 3) := by decide +kernel
theorem dX6_stepAt_9 : decode cX6_stepAt 9 = .ok (.if_icmp .lt 6, 3) := by decide +kernel
theorem dX6_stepAt_12 : decode cX6_stepAt 12 = .ok (.bipush (-5), 2) := by decide +kernel
theorem dX6_stepAt_14 : decode cX6_stepAt 14 = .ok (.ireturn, 1) := by decide +kernel
theorem dX6_stepAt_15 : decode cX6_stepAt 15 = .ok (.aload_n 0, 1) := by decide +kernel
theorem dX6_stepAt_16 : decode cX6_stepAt 16 = .ok (.getfield 35, 3) := by decide +kernel
theorem dX6_stepAt_19 : decode cX6_stepAt 19 = .ok (.iconst 1, 1) := by decide +kernel
theorem dX6_stepAt_20 : decode cX6_stepAt 20 = .ok (.isub, 1) := by decide +kernel
theorem dX6_stepAt_21 : decode cX6_stepAt 21 = .ok (.istore_n 2, 1) := by decide +kernel
theorem dX6_stepAt_22 : decode cX6_stepAt 22 = .ok (.aload_n 0, 1) := by decide +kernel
theorem dX6_stepAt_23 : decode cX6_stepAt 23 = .ok (.getfield 63, 3) := by decide +kernel
theorem dX6_stepAt_26 : decode cX6_stepAt 26 = .ok (.iconst 1, 1) := by decide +kernel
theorem dX6_stepAt_27 : decode cX6_stepAt 27 = .ok (.isub, 1) := by decide +kernel
theorem dX6_stepAt_28 : decode cX6_stepAt 28 = .ok (.istore_n 3, 1) := by decide +kernel
theorem dX6_stepAt_29 : decode cX6_stepAt 29 = .ok (.iload_n 3, 1) := by decide +kernel
theorem dX6_stepAt_30 : decode cX6_stepAt 30 = .ok (.iload_n 1, 1) := by decide +kernel
theorem dX6_stepAt_31 : decode cX6_stepAt 31 = .ok (.if_icmp .le 19, 3) := by decide +kernel
theorem dX6_stepAt_34 : decode cX6_stepAt 34 = .ok (.aload_n 0, 1) := by decide +kernel
theorem dX6_stepAt_35 : decode cX6_stepAt 35 = .ok (.getfield 15, 3) := by decide +kernel
theorem dX6_stepAt_38 : decode cX6_stepAt 38 = .ok (.iload_n 2, 1) := by decide +kernel
theorem dX6_stepAt_39 : decode cX6_stepAt 39 = .ok (.iaload, 1) := by decide +kernel
theorem dX6_stepAt_40 : decode cX6_stepAt 40 = .ok (.bipush 8, 2) := by decide +kernel
theorem dX6_stepAt_42 : decode cX6_stepAt 42 = .ok (.idiv, 1) := by decide +kernel
theorem dX6_stepAt_43 : decode cX6_stepAt 43 = .ok (.istore_n 2, 1) := by decide +kernel
theorem dX6_stepAt_44 : decode cX6_stepAt 44 = .ok (.iinc 3 (-1), 3) := by decide +kernel
theorem dX6_stepAt_47 : decode cX6_stepAt 47 = .ok (.goto (-18), 3) := by decide +kernel
theorem dX6_stepAt_50 : decode cX6_stepAt 50 = .ok (.aload_n 0, 1) := by decide +kernel
theorem dX6_stepAt_51 : decode cX6_stepAt 51 = .ok (.getfield 15, 3) := by decide +kernel
theorem dX6_stepAt_54 : decode cX6_stepAt 54 = .ok (.iload_n 2, 1) := by decide +kernel
theorem dX6_stepAt_55 : decode cX6_stepAt 55 = .ok (.iaload, 1) := by decide +kernel
theorem dX6_stepAt_56 : decode cX6_stepAt 56 = .ok (.bipush 8, 2) := by decide +kernel
theorem dX6_stepAt_58 : decode cX6_stepAt 58 = .ok (.irem, 1) := by decide +kernel
theorem dX6_stepAt_59 : decode cX6_stepAt 59 = .ok (.ireturn, 1) := by decide +kernel
theorem dX6_reachable_0 : decode cX6_reachable 0 = .ok (.aload_n 0, 1) := by decide +kernel
theorem dX6_reachable_1 : decode cX6_reachable 1 = .ok (.aload_n 1, 1) := by decide +kernel
theorem dX6_reachable_2 : decode cX6_reachable 2 = .ok (.iload_n 2, 1) := by decide +kernel
theorem dX6_reachable_3 : decode cX6_reachable 3 = .ok (.iconst (-1), 1) := by decide +kernel
theorem dX6_reachable_4 : decode cX6_reachable 4 = .ok (.invokevirtual 66, 3) := by decide +kernel
theorem dX6_reachable_7 : decode cX6_reachable 7 = .ok (.pop, 1) := by decide +kernel
theorem dX6_reachable_8 : decode cX6_reachable 8 = .ok (.iconst 0, 1) := by decide +kernel
theorem dX6_reachable_9 : decode cX6_reachable 9 = .ok (.istore_n 3, 1) := by decide +kernel
theorem dX6_reachable_10 : decode cX6_reachable 10 = .ok (.iconst 0, 1) := by decide +kernel
theorem dX6_reachable_11 : decode cX6_reachable 11 = .ok (.istore 4, 2) := by decide +kernel
theorem dX6_reachable_13 : decode cX6_reachable 13 = .ok (.iload 4, 2) := by decide +kernel
theorem dX6_reachable_15 : decode cX6_reachable 15 = .ok (.bipush 6, 2) := by decide +kernel
theorem dX6_reachable_17 : decode cX6_reachable 17 = .ok (.if_icmp .ge 30, 3) := by decide +kernel
theorem dX6_reachable_20 : decode cX6_reachable 20 = .ok (.aload_n 0, 1) := by decide +kernel
theorem dX6_reachable_21 : decode cX6_reachable 21 = .ok (.getfield 18, 3) := by decide +kernel
theorem dX6_reachable_24 : decode cX6_reachable 24 = .ok (.iload 4, 2) := by decide +kernel
theorem dX6_reachable_26 : decode cX6_reachable 26 = .ok (.sipush 256, 3) := by decide +kernel
theorem dX6_reachable_29 : decode cX6_reachable 29 = .ok (.imul, 1) := by decide +kernel
theorem dX6_reachable_30 : decode cX6_reachable 30 = .ok (.baload, 1) := by decide +kernel
theorem dX6_reachable_31 : decode cX6_reachable 31 = .ok (.ifCond .eq 10, 3) := by decide +kernel
theorem dX6_reachable_34 : decode cX6_reachable 34 = .ok (.iload_n 3, 1) := by decide +kernel
theorem dX6_reachable_35 : decode cX6_reachable 35 = .ok (.iconst 1, 1) := by decide +kernel
theorem dX6_reachable_36 : decode cX6_reachable 36 = .ok (.iload 4, 2) := by decide +kernel
theorem dX6_reachable_38 : decode cX6_reachable 38 = .ok (.ishl, 1) := by decide +kernel
theorem dX6_reachable_39 : decode cX6_reachable 39 = .ok (.ior, 1) := by decide +kernel
theorem dX6_reachable_40 : decode cX6_reachable 40 = .ok (.istore_n 3, 1) := by decide +kernel
theorem dX6_reachable_41 : decode cX6_reachable 41 = .ok (.iinc 4 1, 3) := by decide +kernel
theorem dX6_reachable_44 : decode cX6_reachable 44 = .ok (.goto (-31), 3) := by decide +kernel
theorem dX6_reachable_47 : decode cX6_reachable 47 = .ok (.iload_n 3, 1) := by decide +kernel
theorem dX6_reachable_48 : decode cX6_reachable 48 = .ok (.ireturn, 1) := by decide +kernel
theorem dX6_begin_0 : decode cX6_begin 0 = .ok (.iconst 0, 1) := by decide +kernel
theorem dX6_begin_1 : decode cX6_begin 1 = .ok (.istore_n 2, 1) := by decide +kernel
theorem dX6_begin_2 : decode cX6_begin 2 = .ok (.iload_n 2, 1) := by decide +kernel
theorem dX6_begin_3 : decode cX6_begin 3 = .ok (.aload_n 0, 1) := by decide +kernel
theorem dX6_begin_4 : decode cX6_begin 4 = .ok (.getfield 35, 3) := by decide +kernel
theorem dX6_begin_7 : decode cX6_begin 7 = .ok (.if_icmp .ge 21, 3) := by decide +kernel
theorem dX6_begin_10 : decode cX6_begin 10 = .ok (.aload_n 0, 1) := by decide +kernel
theorem dX6_begin_11 : decode cX6_begin 11 = .ok (.getfield 18, 3) := by decide +kernel
theorem dX6_begin_14 : decode cX6_begin 14 = .ok (.aload_n 0, 1) := by decide +kernel
theorem dX6_begin_15 : decode cX6_begin 15 = .ok (.getfield 9, 3) := by decide +kernel
theorem dX6_begin_18 : decode cX6_begin 18 = .ok (.iload_n 2, 1) := by decide +kernel
theorem dX6_begin_19 : decode cX6_begin 19 = .ok (.iaload, 1) := by decide +kernel
theorem dX6_begin_20 : decode cX6_begin 20 = .ok (.iconst 0, 1) := by decide +kernel
theorem dX6_begin_21 : decode cX6_begin 21 = .ok (.bastore, 1) := by decide +kernel
theorem dX6_begin_22 : decode cX6_begin 22 = .ok (.iinc 2 1, 3) := by decide +kernel
theorem dX6_begin_25 : decode cX6_begin 25 = .ok (.goto (-23), 3) := by decide +kernel
theorem dX6_begin_28 : decode cX6_begin 28 = .ok (.aload_n 0, 1) := by decide +kernel
theorem dX6_begin_29 : decode cX6_begin 29 = .ok (.getfield 22, 3) := by decide +kernel
theorem dX6_begin_32 : decode cX6_begin 32 = .ok (.iconst 0, 1) := by decide +kernel
theorem dX6_begin_33 : decode cX6_begin 33 = .ok (.invokestatic 70, 3) := by decide +kernel
theorem dX6_begin_36 : decode cX6_begin 36 = .ok (.aload_n 0, 1) := by decide +kernel
theorem dX6_begin_37 : decode cX6_begin 37 = .ok (.iconst 0, 1) := by decide +kernel
theorem dX6_begin_38 : decode cX6_begin 38 = .ok (.putfield 35, 3) := by decide +kernel
theorem dX6_begin_41 : decode cX6_begin 41 = .ok (.aload_n 0, 1) := by decide +kernel
theorem dX6_begin_42 : decode cX6_begin 42 = .ok (.aload_n 1, 1) := by decide +kernel
theorem dX6_begin_43 : decode cX6_begin 43 = .ok (.getfield 76, 3) := by decide +kernel
theorem dX6_begin_46 : decode cX6_begin 46 = .ok (.sipush 256, 3) := by decide +kernel
theorem dX6_begin_49 : decode cX6_begin 49 = .ok (.imul, 1) := by decide +kernel
theorem dX6_begin_50 : decode cX6_begin 50 = .ok (.aload_n 1, 1) := by decide +kernel
theorem dX6_begin_51 : decode cX6_begin 51 = .ok (.getfield 81, 3) := by decide +kernel
theorem dX6_begin_54 : decode cX6_begin 54 = .ok (.iadd, 1) := by decide +kernel
theorem dX6_begin_55 : decode cX6_begin 55 = .ok (.iconst 0, 1) := by decide +kernel
theorem dX6_begin_56 : decode cX6_begin 56 = .ok (.invokevirtual 59, 3) := by decide +kernel
theorem dX6_begin_59 : decode cX6_begin 59 = .ok (.pop, 1) := by decide +kernel
theorem dX6_begin_60 : decode cX6_begin 60 = .ok (.return_, 1) := by decide +kernel
theorem dX6_meet_0 : decode cX6_meet 0 = .ok (.aload_n 0, 1) := by decide +kernel
theorem dX6_meet_1 : decode cX6_meet 1 = .ok (.getfield 18, 3) := by decide +kernel
theorem dX6_meet_4 : decode cX6_meet 4 = .ok (.iload_n 1, 1) := by decide +kernel
theorem dX6_meet_5 : decode cX6_meet 5 = .ok (.baload, 1) := by decide +kernel
theorem dX6_meet_6 : decode cX6_meet 6 = .ok (.ifCond .ne 13, 3) := by decide +kernel
theorem dX6_meet_9 : decode cX6_meet 9 = .ok (.aload_n 0, 1) := by decide +kernel
theorem dX6_meet_10 : decode cX6_meet 10 = .ok (.getfield 35, 3) := by decide +kernel
theorem dX6_meet_13 : decode cX6_meet 13 = .ok (.sipush 1536, 3) := by decide +kernel
theorem dX6_meet_16 : decode cX6_meet 16 = .ok (.if_icmp .lt 5, 3) := by decide +kernel
theorem dX6_meet_19 : decode cX6_meet 19 = .ok (.iconst 0, 1) := by decide +kernel
theorem dX6_meet_20 : decode cX6_meet 20 = .ok (.ireturn, 1) := by decide +kernel
theorem dX6_meet_21 : decode cX6_meet 21 = .ok (.aload_n 0, 1) := by decide +kernel
theorem dX6_meet_22 : decode cX6_meet 22 = .ok (.getfield 18, 3) := by decide +kernel
theorem dX6_meet_25 : decode cX6_meet 25 = .ok (.iload_n 1, 1) := by decide +kernel
theorem dX6_meet_26 : decode cX6_meet 26 = .ok (.iconst 1, 1) := by decide +kernel
theorem dX6_meet_27 : decode cX6_meet 27 = .ok (.bastore, 1) := by decide +kernel
theorem dX6_meet_28 : decode cX6_meet 28 = .ok (.aload_n 0, 1) := by decide +kernel
theorem dX6_meet_29 : decode cX6_meet 29 = .ok (.getfield 9, 3) := by decide +kernel
theorem dX6_meet_32 : decode cX6_meet 32 = .ok (.aload_n 0, 1) := by decide +kernel
theorem dX6_meet_33 : decode cX6_meet 33 = .ok (.getfield 35, 3) := by decide +kernel
theorem dX6_meet_36 : decode cX6_meet 36 = .ok (.iload_n 1, 1) := by decide +kernel
theorem dX6_meet_37 : decode cX6_meet 37 = .ok (.iastore, 1) := by decide +kernel
theorem dX6_meet_38 : decode cX6_meet 38 = .ok (.aload_n 0, 1) := by decide +kernel
theorem dX6_meet_39 : decode cX6_meet 39 = .ok (.getfield 15, 3) := by decide +kernel
theorem dX6_meet_42 : decode cX6_meet 42 = .ok (.aload_n 0, 1) := by decide +kernel
theorem dX6_meet_43 : decode cX6_meet 43 = .ok (.getfield 35, 3) := by decide +kernel
theorem dX6_meet_46 : decode cX6_meet 46 = .ok (.iload_n 2, 1) := by decide +kernel
theorem dX6_meet_47 : decode cX6_meet 47 = .ok (.iastore, 1) := by decide +kernel
theorem dX6_meet_48 : decode cX6_meet 48 = .ok (.aload_n 0, 1) := by decide +kernel
theorem dX6_meet_49 : decode cX6_meet 49 = .ok (.dup, 1) := by decide +kernel
theorem dX6_meet_50 : decode cX6_meet 50 = .ok (.getfield 35, 3) := by decide +kernel
theorem dX6_meet_53 : decode cX6_meet 53 = .ok (.iconst 1, 1) := by decide +kernel
theorem dX6_meet_54 : decode cX6_meet 54 = .ok (.iadd, 1) := by decide +kernel
theorem dX6_meet_55 : decode cX6_meet 55 = .ok (.putfield 35, 3) := by decide +kernel
theorem dX6_meet_58 : decode cX6_meet 58 = .ok (.iconst 1, 1) := by decide +kernel
theorem dX6_meet_59 : decode cX6_meet 59 = .ok (.ireturn, 1) := by decide +kernel
theorem dX7_init_0 : decode cX7_init 0 = .ok (.aload_n 0, 1) := by decide +kernel
theorem dX7_init_1 : decode cX7_init 1 = .ok (.invokespecial 3, 3) := by decide +kernel
theorem dX7_init_4 : decode cX7_init 4 = .ok (.aload_n 0, 1) := by decide +kernel
theorem dX7_init_5 : decode cX7_init 5 = .ok (.bipush 8, 2) := by decide +kernel
theorem dX7_init_7 : decode cX7_init 7 = .ok (.newarray .int, 2) := by decide +kernel
theorem dX7_init_9 : decode cX7_init 9 = .ok (.putfield 9, 3) := by decide +kernel
theorem dX7_init_12 : decode cX7_init 12 = .ok (.aload_n 0, 1) := by decide +kernel
theorem dX7_init_13 : decode cX7_init 13 = .ok (.bipush 8, 2) := by decide +kernel
theorem dX7_init_15 : decode cX7_init 15 = .ok (.newarray .int, 2) := by decide +kernel
theorem dX7_init_17 : decode cX7_init 17 = .ok (.putfield 15, 3) := by decide +kernel
theorem dX7_init_20 : decode cX7_init 20 = .ok (.aload_n 0, 1) := by decide +kernel
theorem dX7_init_21 : decode cX7_init 21 = .ok (.bipush 8, 2) := by decide +kernel
theorem dX7_init_23 : decode cX7_init 23 = .ok (.newarray .int, 2) := by decide +kernel
theorem dX7_init_25 : decode cX7_init 25 = .ok (.putfield 18, 3) := by decide +kernel
theorem dX7_init_28 : decode cX7_init 28 = .ok (.aload_n 0, 1) := by decide +kernel
theorem dX7_init_29 : decode cX7_init 29 = .ok (.bipush 6, 2) := by decide +kernel
theorem dX7_init_31 : decode cX7_init 31 = .ok (.anewarray 21, 3) := by decide +kernel
theorem dX7_init_34 : decode cX7_init 34 = .ok (.putfield 23, 3) := by decide +kernel
theorem dX7_init_37 : decode cX7_init 37 = .ok (.aload_n 0, 1) := by decide +kernel
theorem dX7_init_38 : decode cX7_init 38 = .ok (.new 27, 3) := by decide +kernel
theorem dX7_init_41 : decode cX7_init 41 = .ok (.dup, 1) := by decide +kernel
theorem dX7_init_42 : decode cX7_init 42 = .ok (.iconst 5, 1) := by decide +kernel
theorem dX7_init_43 : decode cX7_init 43 = .ok (.invokespecial 29, 3) := by decide +kernel
theorem dX7_init_46 : decode cX7_init 46 = .ok (.putfield 32, 3) := by decide +kernel
theorem dX7_init_49 : decode cX7_init 49 = .ok (.aload_n 0, 1) := by decide +kernel
theorem dX7_init_50 : decode cX7_init 50 = .ok (.new 27, 3) := by decide +kernel
theorem dX7_init_53 : decode cX7_init 53 = .ok (.dup, 1) := by decide +kernel
theorem dX7_init_54 : decode cX7_init 54 = .ok (.bipush 8, 2) := by decide +kernel
theorem dX7_init_56 : decode cX7_init 56 = .ok (.invokespecial 29, 3) := by decide +kernel
theorem dX7_init_59 : decode cX7_init 59 = .ok (.putfield 36, 3) := by decide +kernel
theorem dX7_init_62 : decode cX7_init 62 = .ok (.aload_n 0, 1) := by decide +kernel
theorem dX7_init_63 : decode cX7_init 63 = .ok (.new 27, 3) := by decide +kernel
theorem dX7_init_66 : decode cX7_init 66 = .ok (.dup, 1) := by decide +kernel
theorem dX7_init_67 : decode cX7_init 67 = .ok (.bipush 8, 2) := by decide +kernel
theorem dX7_init_69 : decode cX7_init 69 = .ok (.invokespecial 29, 3) := by decide +kernel
theorem dX7_init_72 : decode cX7_init 72 = .ok (.putfield 39, 3) := by decide +kernel
theorem dX7_init_75 : decode cX7_init 75 = .ok (.iconst 0, 1) := by decide +kernel
theorem dX7_init_76 : decode cX7_init 76 = .ok (.istore_n 1, 1) := by decide +kernel
theorem dX7_init_77 : decode cX7_init 77 = .ok (.iload_n 1, 1) := by decide +kernel
theorem dX7_init_78 : decode cX7_init 78 = .ok (.bipush 6, 2) := by decide +kernel
theorem dX7_init_80 : decode cX7_init 80 = .ok (.if_icmp .ge 22, 3) := by decide +kernel
theorem dX7_init_83 : decode cX7_init 83 = .ok (.aload_n 0, 1) := by decide +kernel
theorem dX7_init_84 : decode cX7_init 84 = .ok (.getfield 23, 3) := by decide +kernel
theorem dX7_init_87 : decode cX7_init 87 = .ok (.iload_n 1, 1) := by decide +kernel
theorem dX7_init_88 : decode cX7_init 88 = .ok (.new 21, 3) := by decide +kernel
theorem dX7_init_91 : decode cX7_init 91 = .ok (.dup, 1) := by decide +kernel
theorem dX7_init_92 : decode cX7_init 92 = .ok (.invokespecial 42, 3) := by decide +kernel
theorem dX7_init_95 : decode cX7_init 95 = .ok (.aastore, 1) := by decide +kernel
theorem dX7_init_96 : decode cX7_init 96 = .ok (.iinc 1 1, 3) := by decide +kernel
theorem dX7_init_99 : decode cX7_init 99 = .ok (.goto (-22), 3) := by decide +kernel
theorem dX7_init_102 : decode cX7_init 102 = .ok (.return_, 1) := by decide +kernel
theorem dX7_copyFrom_0 : decode cX7_copyFrom 0 = .ok (.aload_n 0, 1) := by decide +kernel
theorem dX7_copyFrom_1 : decode cX7_copyFrom 1 = .ok (.aload_n 1, 1) := by decide +kernel
theorem dX7_copyFrom_2 : decode cX7_copyFrom 2 = .ok (.getfield 43, 3) := by decide +kernel
theorem dX7_copyFrom_5 : decode cX7_copyFrom 5 = .ok (.putfield 43, 3) := by decide +kernel
theorem dX7_copyFrom_8 : decode cX7_copyFrom 8 = .ok (.aload_n 1, 1) := by decide +kernel
theorem dX7_copyFrom_9 : decode cX7_copyFrom 9 = .ok (.getfield 9, 3) := by decide +kernel
theorem dX7_copyFrom_12 : decode cX7_copyFrom 12 = .ok (.iconst 0, 1) := by decide +kernel
theorem dX7_copyFrom_13 : decode cX7_copyFrom 13 = .ok (.aload_n 0, 1) := by decide +kernel
theorem dX7_copyFrom_14 : decode cX7_copyFrom 14 = .ok (.getfield 9, 3) := by decide +kernel
theorem dX7_copyFrom_17 : decode cX7_copyFrom 17 = .ok (.iconst 0, 1) := by decide +kernel
theorem dX7_copyFrom_18 : decode cX7_copyFrom 18 = .ok (.bipush 8, 2) := by decide +kernel
theorem dX7_copyFrom_20 : decode cX7_copyFrom 20 = .ok (.invokestatic 47, 3) := by decide +kernel
theorem dX7_copyFrom_23 : decode cX7_copyFrom 23 = .ok (.aload_n 1, 1) := by decide +kernel
theorem dX7_copyFrom_24 : decode cX7_copyFrom 24 = .ok (.getfield 15, 3) := by decide +kernel
theorem dX7_copyFrom_27 : decode cX7_copyFrom 27 = .ok (.iconst 0, 1) := by decide +kernel
theorem dX7_copyFrom_28 : decode cX7_copyFrom 28 = .ok (.aload_n 0, 1) := by decide +kernel
theorem dX7_copyFrom_29 : decode cX7_copyFrom 29 = .ok (.getfield 15, 3) := by decide +kernel
theorem dX7_copyFrom_32 : decode cX7_copyFrom 32 = .ok (.iconst 0, 1) := by decide +kernel
theorem dX7_copyFrom_33 : decode cX7_copyFrom 33 = .ok (.bipush 8, 2) := by decide +kernel
theorem dX7_copyFrom_35 : decode cX7_copyFrom 35 = .ok (.invokestatic 47, 3) := by decide +kernel
theorem dX7_copyFrom_38 : decode cX7_copyFrom 38 = .ok (.aload_n 1, 1) := by decide +kernel
theorem dX7_copyFrom_39 : decode cX7_copyFrom 39 = .ok (.getfield 18, 3) := by decide +kernel
theorem dX7_copyFrom_42 : decode cX7_copyFrom 42 = .ok (.iconst 0, 1) := by decide +kernel
theorem dX7_copyFrom_43 : decode cX7_copyFrom 43 = .ok (.aload_n 0, 1) := by decide +kernel
theorem dX7_copyFrom_44 : decode cX7_copyFrom 44 = .ok (.getfield 18, 3) := by decide +kernel
theorem dX7_copyFrom_47 : decode cX7_copyFrom 47 = .ok (.iconst 0, 1) := by decide +kernel
theorem dX7_copyFrom_48 : decode cX7_copyFrom 48 = .ok (.bipush 8, 2) := by decide +kernel
theorem dX7_copyFrom_50 : decode cX7_copyFrom 50 = .ok (.invokestatic 47, 3) := by decide +kernel
theorem dX7_copyFrom_53 : decode cX7_copyFrom 53 = .ok (.aload_n 0, 1) := by decide +kernel
theorem dX7_copyFrom_54 : decode cX7_copyFrom 54 = .ok (.aload_n 1, 1) := by decide +kernel
theorem dX7_copyFrom_55 : decode cX7_copyFrom 55 = .ok (.getfield 53, 3) := by decide +kernel
theorem dX7_copyFrom_58 : decode cX7_copyFrom 58 = .ok (.putfield 53, 3) := by decide +kernel
theorem dX7_copyFrom_61 : decode cX7_copyFrom 61 = .ok (.aload_n 0, 1) := by decide +kernel
theorem dX7_copyFrom_62 : decode cX7_copyFrom 62 = .ok (.aload_n 1, 1) := by decide +kernel
theorem dX7_copyFrom_63 : decode cX7_copyFrom 63 = .ok (.getfield 56, 3) := by decide +kernel
theorem dX7_copyFrom_66 : decode cX7_copyFrom 66 = .ok (.putfield 56, 3) := by decide +kernel
theorem dX7_copyFrom_69 : decode cX7_copyFrom 69 = .ok (.iconst 0, 1) := by decide +kernel
theorem dX7_copyFrom_70 : decode cX7_copyFrom 70 = .ok (.istore_n 2, 1) := by decide +kernel
theorem dX7_copyFrom_71 : decode cX7_copyFrom 71 = .ok (.iload_n 2, 1) := by decide +kernel
theorem dX7_copyFrom_72 : decode cX7_copyFrom 72 = .ok (.aload_n 0, 1) := by decide +kernel
theorem dX7_copyFrom_73 : decode cX7_copyFrom 73 = .ok (.getfield 56, 3) := by decide +kernel
theorem dX7_copyFrom_76 : decode cX7_copyFrom 76 = .ok (.if_icmp .ge 24, 3) := by decide +kernel
theorem dX7_copyFrom_79 : decode cX7_copyFrom 79 = .ok (.aload_n 0, 1) := by decide +kernel
theorem dX7_copyFrom_80 : decode cX7_copyFrom 80 = .ok (.getfield 23, 3) := by decide +kernel
theorem dX7_copyFrom_83 : decode cX7_copyFrom 83 = .ok (.iload_n 2, 1) := by decide +kernel
theorem dX7_copyFrom_84 : decode cX7_copyFrom 84 = .ok (.aaload, 1) := by decide +kernel
theorem dX7_copyFrom_85 : decode cX7_copyFrom 85 = .ok (.aload_n 1, 1) := by decide +kernel
theorem dX7_copyFrom_86 : decode cX7_copyFrom 86 = .ok (.getfield 23, 3) := by decide +kernel
theorem dX7_copyFrom_89 : decode cX7_copyFrom 89 = .ok (.iload_n 2, 1) := by decide +kernel
theorem dX7_copyFrom_90 : decode cX7_copyFrom 90 = .ok (.aaload, 1) := by decide +kernel
theorem dX7_copyFrom_91 : decode cX7_copyFrom 91 = .ok (.invokevirtual 59, 3) := by decide +kernel
theorem dX7_copyFrom_94 : decode cX7_copyFrom 94 = .ok (.iinc 2 1, 3) := by decide +kernel
theorem dX7_copyFrom_97 : decode cX7_copyFrom 97 = .ok (.goto (-26), 3) := by decide +kernel
theorem dX7_copyFrom_100 : decode cX7_copyFrom 100 = .ok (.aload_n 0, 1) := by decide +kernel
theorem dX7_copyFrom_101 : decode cX7_copyFrom 101 = .ok (.aload_n 1, 1) := by decide +kernel
theorem dX7_copyFrom_102 : decode cX7_copyFrom 102 = .ok (.getfield 63, 3) := by decide +kernel
theorem dX7_copyFrom_105 : decode cX7_copyFrom 105 = .ok (.putfield 63, 3) := by decide +kernel
theorem dX7_copyFrom_108 : decode cX7_copyFrom 108 = .ok (.aload_n 0, 1) := by decide +kernel
theorem dX7_copyFrom_109 : decode cX7_copyFrom 109 = .ok (.aload_n 1, 1) := by decide +kernel
theorem dX7_copyFrom_110 : decode cX7_copyFrom 110 = .ok (.getfield 66, 3) := by decide +kernel
theorem dX7_copyFrom_113 : decode cX7_copyFrom 113 = .ok (.putfield 66, 3) := by decide +kernel
theorem dX7_copyFrom_116 : decode cX7_copyFrom 116 = .ok (.aload_n 0, 1) := by decide +kernel
theorem dX7_copyFrom_117 : decode cX7_copyFrom 117 = .ok (.getfield 32, 3) := by decide +kernel
theorem dX7_copyFrom_120 : decode cX7_copyFrom 120 = .ok (.aload_n 1, 1) := by decide +kernel
theorem dX7_copyFrom_121 : decode cX7_copyFrom 121 = .ok (.getfield 32, 3) := by decide +kernel
theorem dX7_copyFrom_124 : decode cX7_copyFrom 124 = .ok (.invokevirtual 70, 3) := by decide +kernel
theorem dX7_copyFrom_127 : decode cX7_copyFrom 127 = .ok (.aload_n 0, 1) := by decide +kernel
theorem dX7_copyFrom_128 : decode cX7_copyFrom 128 = .ok (.getfield 36, 3) := by decide +kernel
theorem dX7_copyFrom_131 : decode cX7_copyFrom 131 = .ok (.aload_n 1, 1) := by decide +kernel
theorem dX7_copyFrom_132 : decode cX7_copyFrom 132 = .ok (.getfield 36, 3) := by decide +kernel
theorem dX7_copyFrom_135 : decode cX7_copyFrom 135 = .ok (.invokevirtual 70, 3) := by decide +kernel
theorem dX7_copyFrom_138 : decode cX7_copyFrom 138 = .ok (.aload_n 0, 1) := by decide +kernel
theorem dX7_copyFrom_139 : decode cX7_copyFrom 139 = .ok (.getfield 39, 3) := by decide +kernel
theorem dX7_copyFrom_142 : decode cX7_copyFrom 142 = .ok (.aload_n 1, 1) := by decide +kernel
theorem dX7_copyFrom_143 : decode cX7_copyFrom 143 = .ok (.getfield 39, 3) := by decide +kernel
theorem dX7_copyFrom_146 : decode cX7_copyFrom 146 = .ok (.invokevirtual 70, 3) := by decide +kernel
theorem dX7_copyFrom_149 : decode cX7_copyFrom 149 = .ok (.return_, 1) := by decide +kernel
theorem dX7_addBridge_0 : decode cX7_addBridge 0 = .ok (.aload_n 0, 1) := by decide +kernel
theorem dX7_addBridge_1 : decode cX7_addBridge 1 = .ok (.getfield 43, 3) := by decide +kernel
theorem dX7_addBridge_4 : decode cX7_addBridge 4 = .ok (.bipush 8, 2) := by decide +kernel
theorem dX7_addBridge_6 : decode cX7_addBridge 6 = .ok (.if_icmp .lt 6, 3) := by decide +kernel
theorem dX7_addBridge_9 : decode cX7_addBridge 9 = .ok (.bipush (-4), 2) := by decide +kernel
theorem dX7_addBridge_11 : decode cX7_addBridge 11 = .ok (.ireturn, 1) := by decide +kernel
theorem dX7_addBridge_12 : decode cX7_addBridge 12 = .ok (.aload_n 0, 1) := by decide +kernel
theorem dX7_addBridge_13 : decode cX7_addBridge 13 = .ok (.getfield 9, 3) := by decide +kernel
theorem dX7_addBridge_16 : decode cX7_addBridge 16 = .ok (.aload_n 0, 1) := by decide +kernel
theorem dX7_addBridge_17 : decode cX7_addBridge 17 = .ok (.getfield 43, 3) := by decide +kernel
theorem dX7_addBridge_20 : decode cX7_addBridge 20 = .ok (.iload_n 1, 1) := by decide +kernel
theorem dX7_addBridge_21 : decode cX7_addBridge 21 = .ok (.iastore, 1) := by decide +kernel
theorem dX7_addBridge_22 : decode cX7_addBridge 22 = .ok (.aload_n 0, 1) := by decide +kernel
theorem dX7_addBridge_23 : decode cX7_addBridge 23 = .ok (.getfield 15, 3) := by decide +kernel
theorem dX7_addBridge_26 : decode cX7_addBridge 26 = .ok (.aload_n 0, 1) := by decide +kernel
theorem dX7_addBridge_27 : decode cX7_addBridge 27 = .ok (.getfield 43, 3) := by decide +kernel
theorem dX7_addBridge_30 : decode cX7_addBridge 30 = .ok (.iload_n 2, 1) := by decide +kernel
theorem dX7_addBridge_31 : decode cX7_addBridge 31 = .ok (.iastore, 1) := by decide +kernel
theorem dX7_addBridge_32 : decode cX7_addBridge 32 = .ok (.aload_n 0, 1) := by decide +kernel
theorem dX7_addBridge_33 : decode cX7_addBridge 33 = .ok (.getfield 18, 3) := by decide +kernel
theorem dX7_addBridge_36 : decode cX7_addBridge 36 = .ok (.aload_n 0, 1) := by decide +kernel
theorem dX7_addBridge_37 : decode cX7_addBridge 37 = .ok (.getfield 43, 3) := by decide +kernel
theorem dX7_addBridge_40 : decode cX7_addBridge 40 = .ok (.bipush (-5), 2) := by decide +kernel
theorem dX7_addBridge_42 : decode cX7_addBridge 42 = .ok (.iastore, 1) := by decide +kernel
theorem dX7_addBridge_43 : decode cX7_addBridge 43 = .ok (.aload_n 0, 1) := by decide +kernel
theorem dX7_addBridge_44 : decode cX7_addBridge 44 = .ok (.getfield 43, 3) := by decide +kernel
theorem dX7_addBridge_47 : decode cX7_addBridge 47 = .ok (.iconst 2, 1) := by decide +kernel
theorem dX7_addBridge_48 : decode cX7_addBridge 48 = .ok (.irem, 1) := by decide +kernel
theorem dX7_addBridge_49 : decode cX7_addBridge 49 = .ok (.iconst 1, 1) := by decide +kernel
theorem dX7_addBridge_50 : decode cX7_addBridge 50 = .ok (.if_icmp .ne 33, 3) := by decide +kernel
theorem dX7_addBridge_53 : decode cX7_addBridge 53 = .ok (.aload_n 0, 1) := by decide +kernel
theorem dX7_addBridge_54 : decode cX7_addBridge 54 = .ok (.getfield 18, 3) := by decide +kernel
theorem dX7_addBridge_57 : decode cX7_addBridge 57 = .ok (.aload_n 0, 1) := by decide +kernel
theorem dX7_addBridge_58 : decode cX7_addBridge 58 = .ok (.getfield 43, 3) := by decide +kernel
theorem dX7_addBridge_61 : decode cX7_addBridge 61 = .ok (.aload_n 0, 1) := by decide +kernel
theorem dX7_addBridge_62 : decode cX7_addBridge 62 = .ok (.getfield 43, 3) := by decide +kernel
theorem dX7_addBridge_65 : decode cX7_addBridge 65 = .ok (.iconst 1, 1) := by decide +kernel
theorem dX7_addBridge_66 : decode cX7_addBridge 66 = .ok (.isub, 1) := by decide +kernel
theorem dX7_addBridge_67 : decode cX7_addBridge 67 = .ok (.iastore, 1) := by decide +kernel
theorem dX7_addBridge_68 : decode cX7_addBridge 68 = .ok (.aload_n 0, 1) := by decide +kernel
theorem dX7_addBridge_69 : decode cX7_addBridge 69 = .ok (.getfield 18, 3) := by decide +kernel
theorem dX7_addBridge_72 : decode cX7_addBridge 72 = .ok (.aload_n 0, 1) := by decide +kernel
theorem dX7_addBridge_73 : decode cX7_addBridge 73 = .ok (.getfield 43, 3) := by decide +kernel
theorem dX7_addBridge_76 : decode cX7_addBridge 76 = .ok (.iconst 1, 1) := by decide +kernel
theorem dX7_addBridge_77 : decode cX7_addBridge 77 = .ok (.isub, 1) := by decide +kernel
theorem dX7_addBridge_78 : decode cX7_addBridge 78 = .ok (.aload_n 0, 1) := by decide +kernel
theorem dX7_addBridge_79 : decode cX7_addBridge 79 = .ok (.getfield 43, 3) := by decide +kernel
theorem dX7_addBridge_82 : decode cX7_addBridge 82 = .ok (.iastore, 1) := by decide +kernel
theorem dX7_addBridge_83 : decode cX7_addBridge 83 = .ok (.aload_n 0, 1) := by decide +kernel
theorem dX7_addBridge_84 : decode cX7_addBridge 84 = .ok (.dup, 1) := by decide +kernel
theorem dX7_addBridge_85 : decode cX7_addBridge 85 = .ok (.getfield 43, 3) := by decide +kernel
theorem dX7_addBridge_88 : decode cX7_addBridge 88 = .ok (.dup_x1, 1) := by decide +kernel
theorem dX7_addBridge_89 : decode cX7_addBridge 89 = .ok (.iconst 1, 1) := by decide +kernel
theorem dX7_addBridge_90 : decode cX7_addBridge 90 = .ok (.iadd, 1) := by decide +kernel
theorem dX7_addBridge_91 : decode cX7_addBridge 91 = .ok (.putfield 43, 3) := by decide +kernel
theorem dX7_addBridge_94 : decode cX7_addBridge 94 = .ok (.ireturn, 1) := by decide +kernel
theorem dX7_addPerson_0 : decode cX7_addPerson 0 = .ok (.aload_n 0, 1) := by decide +kernel
theorem dX7_addPerson_1 : decode cX7_addPerson 1 = .ok (.getfield 56, 3) := by decide +kernel
theorem dX7_addPerson_4 : decode cX7_addPerson 4 = .ok (.bipush 6, 2) := by decide +kernel
theorem dX7_addPerson_6 : decode cX7_addPerson 6 = .ok (.if_icmp .lt 6, 3) := by decide +kernel
theorem dX7_addPerson_9 : decode cX7_addPerson 9 = .ok (.bipush (-4), 2) := by decide +kernel
theorem dX7_addPerson_11 : decode cX7_addPerson 11 = .ok (.ireturn, 1) := by decide +kernel
theorem dX7_addPerson_12 : decode cX7_addPerson 12 = .ok (.aload_n 0, 1) := by decide +kernel
theorem dX7_addPerson_13 : decode cX7_addPerson 13 = .ok (.getfield 23, 3) := by decide +kernel
theorem dX7_addPerson_16 : decode cX7_addPerson 16 = .ok (.aload_n 0, 1) := by decide +kernel
theorem dX7_addPerson_17 : decode cX7_addPerson 17 = .ok (.getfield 56, 3) := by decide +kernel
theorem dX7_addPerson_20 : decode cX7_addPerson 20 = .ok (.aaload, 1) := by decide +kernel
theorem dX7_addPerson_21 : decode cX7_addPerson 21 = .ok (.iload_n 1, 1) := by decide +kernel
theorem dX7_addPerson_22 : decode cX7_addPerson 22 = .ok (.iload_n 2, 1) := by decide +kernel
theorem dX7_addPerson_23 : decode cX7_addPerson 23 = .ok (.iload_n 3, 1) := by decide +kernel
theorem dX7_addPerson_24 : decode cX7_addPerson 24 = .ok (.invokevirtual 73, 3) := by decide +kernel
theorem dX7_addPerson_27 : decode cX7_addPerson 27 = .ok (.aload_n 0, 1) := by decide +kernel
theorem dX7_addPerson_28 : decode cX7_addPerson 28 = .ok (.dup, 1) := by decide +kernel
theorem dX7_addPerson_29 : decode cX7_addPerson 29 = .ok (.getfield 56, 3) := by decide +kernel
theorem dX7_addPerson_32 : decode cX7_addPerson 32 = .ok (.dup_x1, 1) := by decide +kernel
theorem dX7_addPerson_33 : decode cX7_addPerson 33 = .ok (.iconst 1, 1) := by decide +kernel
theorem dX7_addPerson_34 : decode cX7_addPerson 34 = .ok (.iadd, 1) := by decide +kernel
theorem dX7_addPerson_35 : decode cX7_addPerson 35 = .ok (.putfield 56, 3) := by decide +kernel
theorem dX7_addPerson_38 : decode cX7_addPerson 38 = .ok (.ireturn, 1) := by decide +kernel
theorem dX7_setLost_0 : decode cX7_setLost 0 = .ok (.iconst 1, 1) := by decide +kernel
theorem dX7_setLost_1 : decode cX7_setLost 1 = .ok (.iload_n 1, 1) := by decide +kernel
theorem dX7_setLost_2 : decode cX7_setLost 2 = .ok (.ishl, 1) := by decide +kernel
theorem dX7_setLost_3 : decode cX7_setLost 3 = .ok (.istore_n 3, 1) := by decide +kernel
theorem dX7_setLost_4 : decode cX7_setLost 4 = .ok (.aload_n 0, 1) := by decide +kernel
theorem dX7_setLost_5 : decode cX7_setLost 5 = .ok (.iload_n 2, 1) := by decide +kernel
theorem dX7_setLost_6 : decode cX7_setLost 6 = .ok (.ifCond .eq 12, 3) := by decide +kernel
theorem dX7_setLost_9 : decode cX7_setLost 9 = .ok (.aload_n 0, 1) := by decide +kernel
theorem dX7_setLost_10 : decode cX7_setLost 10 = .ok (.getfield 53, 3) := by decide +kernel
theorem dX7_setLost_13 : decode cX7_setLost 13 = .ok (.iload_n 3, 1) := by decide +kernel
theorem dX7_setLost_14 : decode cX7_setLost 14 = .ok (.ior, 1) := by decide +kernel
theorem dX7_setLost_15 : decode cX7_setLost 15 = .ok (.goto 11, 3) := by decide +kernel
theorem dX7_setLost_18 : decode cX7_setLost 18 = .ok (.aload_n 0, 1) := by decide +kernel
theorem dX7_setLost_19 : decode cX7_setLost 19 = .ok (.getfield 53, 3) := by decide +kernel
theorem dX7_setLost_22 : decode cX7_setLost 22 = .ok (.iload_n 3, 1) := by decide +kernel
theorem dX7_setLost_23 : decode cX7_setLost 23 = .ok (.iconst (-1), 1) := by decide +kernel
theorem dX7_setLost_24 : decode cX7_setLost 24 = .ok (.ixor, 1) := by decide +kernel
theorem dX7_setLost_25 : decode cX7_setLost 25 = .ok (.iand, 1) := by decide +kernel
theorem dX7_setLost_26 : decode cX7_setLost 26 = .ok (.putfield 53, 3) := by decide +kernel
theorem dX7_setLost_29 : decode cX7_setLost 29 = .ok (.return_, 1) := by decide +kernel
theorem dX7_canExchange_0 : decode cX7_canExchange 0 = .ok (.iload_n 1, 1) := by decide +kernel
theorem dX7_canExchange_1 : decode cX7_canExchange 1 = .ok (.iload_n 2, 1) := by decide +kernel
theorem dX7_canExchange_2 : decode cX7_canExchange 2 = .ok (.if_icmp .eq 39, 3) := by decide +kernel
theorem dX7_canExchange_5 : decode cX7_canExchange 5 = .ok (.aload_n 0, 1) := by decide +kernel
theorem dX7_canExchange_6 : decode cX7_canExchange 6 = .ok (.getfield 18, 3) := by decide +kernel
theorem dX7_canExchange_9 : decode cX7_canExchange 9 = .ok (.iload_n 1, 1) := by decide +kernel
theorem dX7_canExchange_10 : decode cX7_canExchange 10 = .ok (.iaload, 1) := by decide +kernel
theorem dX7_canExchange_11 : decode cX7_canExchange 11 = .ok (.bipush (-5), 2) := by decide +kernel
theorem dX7_canExchange_13 : decode cX7_canExchange 13 = .ok (.if_icmp .eq 28, 3) := by decide +kernel
theorem dX7_canExchange_16 : decode cX7_canExchange 16 = .ok (.aload_n 0, 1) := by decide +kernel
theorem dX7_canExchange_17 : decode cX7_canExchange 17 = .ok (.getfield 18, 3) := by decide +kernel
theorem dX7_canExchange_20 : decode cX7_canExchange 20 = .ok (.iload_n 2, 1) := by decide +kernel
theorem dX7_canExchange_21 : decode cX7_canExchange 21 = .ok (.iaload, 1) := by decide +kernel
theorem dX7_canExchange_22 : decode cX7_canExchange 22 = .ok (.bipush (-5), 2) := by decide +kernel
theorem dX7_canExchange_24 : decode cX7_canExchange 24 = .ok (.if_icmp .eq 17, 3) := by decide +kernel
theorem dX7_canExchange_27 : decode cX7_canExchange 27 = .ok (.aload_n 0, 1) := by decide +kernel
theorem dX7_canExchange_28 : decode cX7_canExchange 28 = .ok (.getfield 18, 3) := by decide +kernel
theorem dX7_canExchange_31 : decode cX7_canExchange 31 = .ok (.iload_n 1, 1) := by decide +kernel
theorem dX7_canExchange_32 : decode cX7_canExchange 32 = .ok (.iaload, 1) := by decide +kernel
theorem dX7_canExchange_33 : decode cX7_canExchange 33 = .ok (.iload_n 2, 1) := by decide +kernel
theorem dX7_canExchange_34 : decode cX7_canExchange 34 = .ok (.if_icmp .eq 7, 3) := by decide +kernel
theorem dX7_canExchange_37 : decode cX7_canExchange 37 = .ok (.iconst 1, 1) := by decide +kernel
theorem dX7_canExchange_38 : decode cX7_canExchange 38 = .ok (.goto 4, 3) := by decide +kernel
theorem dX7_canExchange_41 : decode cX7_canExchange 41 = .ok (.iconst 0, 1) := by decide +kernel
theorem dX7_canExchange_42 : decode cX7_canExchange 42 = .ok (.ireturn, 1) := by decide +kernel
theorem dX7_exchange_0 : decode cX7_exchange 0 = .ok (.aload_n 0, 1) := by decide +kernel
theorem dX7_exchange_1 : decode cX7_exchange 1 = .ok (.getfield 18, 3) := by decide +kernel
theorem dX7_exchange_4 : decode cX7_exchange 4 = .ok (.iload_n 1, 1) := by decide +kernel
theorem dX7_exchange_5 : decode cX7_exchange 5 = .ok (.iaload, 1) := by decide +kernel
theorem dX7_exchange_6 : decode cX7_exchange 6 = .ok (.istore_n 3, 1) := by decide +kernel
theorem dX7_exchange_7 : decode cX7_exchange 7 = .ok (.aload_n 0, 1) := by decide +kernel
theorem dX7_exchange_8 : decode cX7_exchange 8 = .ok (.getfield 18, 3) := by decide +kernel
theorem dX7_exchange_11 : decode cX7_exchange 11 = .ok (.iload_n 2, 1) := by decide +kernel
theorem dX7_exchange_12 : decode cX7_exchange 12 = .ok (.iaload, 1) := by decide +kernel
theorem dX7_exchange_13 : decode cX7_exchange 13 = .ok (.istore 4, 2) := by decide +kernel
theorem dX7_exchange_15 : decode cX7_exchange 15 = .ok (.aload_n 0, 1) := by decide +kernel
theorem dX7_exchange_16 : decode cX7_exchange 16 = .ok (.getfield 18, 3) := by decide +kernel
theorem dX7_exchange_19 : decode cX7_exchange 19 = .ok (.iload_n 1, 1) := by decide +kernel
theorem dX7_exchange_20 : decode cX7_exchange 20 = .ok (.iload 4, 2) := by decide +kernel
theorem dX7_exchange_22 : decode cX7_exchange 22 = .ok (.iastore, 1) := by decide +kernel
theorem dX7_exchange_23 : decode cX7_exchange 23 = .ok (.aload_n 0, 1) := by decide +kernel
theorem dX7_exchange_24 : decode cX7_exchange 24 = .ok (.getfield 18, 3) := by decide +kernel
theorem dX7_exchange_27 : decode cX7_exchange 27 = .ok (.iload 4, 2) := by decide +kernel
theorem dX7_exchange_29 : decode cX7_exchange 29 = .ok (.iload_n 1, 1) := by decide +kernel
theorem dX7_exchange_30 : decode cX7_exchange 30 = .ok (.iastore, 1) := by decide +kernel
theorem dX7_exchange_31 : decode cX7_exchange 31 = .ok (.aload_n 0, 1) := by decide +kernel
theorem dX7_exchange_32 : decode cX7_exchange 32 = .ok (.getfield 18, 3) := by decide +kernel
theorem dX7_exchange_35 : decode cX7_exchange 35 = .ok (.iload_n 2, 1) := by decide +kernel
theorem dX7_exchange_36 : decode cX7_exchange 36 = .ok (.iload_n 3, 1) := by decide +kernel
theorem dX7_exchange_37 : decode cX7_exchange 37 = .ok (.iastore, 1) := by decide +kernel
theorem dX7_exchange_38 : decode cX7_exchange 38 = .ok (.aload_n 0, 1) := by decide +kernel
theorem dX7_exchange_39 : decode cX7_exchange 39 = .ok (.getfield 18, 3) := by decide +kernel
theorem dX7_exchange_42 : decode cX7_exchange 42 = .ok (.iload_n 3, 1) := by decide +kernel
theorem dX7_exchange_43 : decode cX7_exchange 43 = .ok (.iload_n 2, 1) := by decide +kernel
theorem dX7_exchange_44 : decode cX7_exchange 44 = .ok (.iastore, 1) := by decide +kernel
theorem dX7_exchange_45 : decode cX7_exchange 45 = .ok (.return_, 1) := by decide +kernel
theorem dX7_otherEnd_0 : decode cX7_otherEnd 0 = .ok (.aload_n 0, 1) := by decide +kernel
theorem dX7_otherEnd_1 : decode cX7_otherEnd 1 = .ok (.getfield 9, 3) := by decide +kernel
theorem dX7_otherEnd_4 : decode cX7_otherEnd 4 = .ok (.iload_n 1, 1) := by decide +kernel
theorem dX7_otherEnd_5 : decode cX7_otherEnd 5 = .ok (.iaload, 1) := by decide +kernel
theorem dX7_otherEnd_6 : decode cX7_otherEnd 6 = .ok (.iload_n 2, 1) := by decide +kernel
theorem dX7_otherEnd_7 : decode cX7_otherEnd 7 = .ok (.if_icmp .ne 10, 3) := by decide +kernel
theorem dX7_otherEnd_10 : decode cX7_otherEnd 10 = .ok (.aload_n 0, 1) := by decide +kernel
theorem dX7_otherEnd_11 : decode cX7_otherEnd 11 = .ok (.getfield 15, 3) := by decide +kernel
theorem dX7_otherEnd_14 : decode cX7_otherEnd 14 = .ok (.iload_n 1, 1) := by decide +kernel
theorem dX7_otherEnd_15 : decode cX7_otherEnd 15 = .ok (.iaload, 1) := by decide +kernel
theorem dX7_otherEnd_16 : decode cX7_otherEnd 16 = .ok (.ireturn, 1) := by decide +kernel
theorem dX7_otherEnd_17 : decode cX7_otherEnd 17 = .ok (.aload_n 0, 1) := by decide +kernel
theorem dX7_otherEnd_18 : decode cX7_otherEnd 18 = .ok (.getfield 15, 3) := by decide +kernel
theorem dX7_otherEnd_21 : decode cX7_otherEnd 21 = .ok (.iload_n 1, 1) := by decide +kernel
theorem dX7_otherEnd_22 : decode cX7_otherEnd 22 = .ok (.iaload, 1) := by decide +kernel
theorem dX7_otherEnd_23 : decode cX7_otherEnd 23 = .ok (.iload_n 2, 1) := by decide +kernel
theorem dX7_otherEnd_24 : decode cX7_otherEnd 24 = .ok (.if_icmp .ne 12, 3) := by decide +kernel
theorem dX7_otherEnd_27 : decode cX7_otherEnd 27 = .ok (.aload_n 0, 1) := by decide +kernel
theorem dX7_otherEnd_28 : decode cX7_otherEnd 28 = .ok (.getfield 9, 3) := by decide +kernel
theorem dX7_otherEnd_31 : decode cX7_otherEnd 31 = .ok (.iload_n 1, 1) := by decide +kernel
theorem dX7_otherEnd_32 : decode cX7_otherEnd 32 = .ok (.iaload, 1) := by decide +kernel
theorem dX7_otherEnd_33 : decode cX7_otherEnd 33 = .ok (.goto 4, 3) := by decide +kernel
theorem dX7_otherEnd_36 : decode cX7_otherEnd 36 = .ok (.iconst (-1), 1) := by decide +kernel
theorem dX7_otherEnd_37 : decode cX7_otherEnd 37 = .ok (.ireturn, 1) := by decide +kernel
theorem dX7_halfBehind_0 : decode cX7_halfBehind 0 = .ok (.aload_n 0, 1) := by decide +kernel
theorem dX7_halfBehind_1 : decode cX7_halfBehind 1 = .ok (.getfield 18, 3) := by decide +kernel
theorem dX7_halfBehind_4 : decode cX7_halfBehind 4 = .ok (.iload_n 2, 1) := by decide +kernel
theorem dX7_halfBehind_5 : decode cX7_halfBehind 5 = .ok (.iaload, 1) := by decide +kernel
theorem dX7_halfBehind_6 : decode cX7_halfBehind 6 = .ok (.istore_n 3, 1) := by decide +kernel
theorem dX7_halfBehind_7 : decode cX7_halfBehind 7 = .ok (.iload_n 3, 1) := by decide +kernel
theorem dX7_halfBehind_8 : decode cX7_halfBehind 8 = .ok (.bipush (-5), 2) := by decide +kernel
theorem dX7_halfBehind_10 : decode cX7_halfBehind 10 = .ok (.if_icmp .eq 17, 3) := by decide +kernel
theorem dX7_halfBehind_13 : decode cX7_halfBehind 13 = .ok (.iload_n 1, 1) := by decide +kernel
theorem dX7_halfBehind_14 : decode cX7_halfBehind 14 = .ok (.iload_n 3, 1) := by decide +kernel
theorem dX7_halfBehind_15 : decode cX7_halfBehind 15 = .ok (.ishr, 1) := by decide +kernel
theorem dX7_halfBehind_16 : decode cX7_halfBehind 16 = .ok (.iconst 1, 1) := by decide +kernel
theorem dX7_halfBehind_17 : decode cX7_halfBehind 17 = .ok (.iand, 1) := by decide +kernel
theorem dX7_halfBehind_18 : decode cX7_halfBehind 18 = .ok (.ifCond .eq 9, 3) := by decide +kernel
theorem dX7_halfBehind_21 : decode cX7_halfBehind 21 = .ok (.iload_n 1, 1) := by decide +kernel
theorem dX7_halfBehind_22 : decode cX7_halfBehind 22 = .ok (.iconst 1, 1) := by decide +kernel
theorem dX7_halfBehind_23 : decode cX7_halfBehind 23 = .ok (.iload_n 3, 1) := by decide +kernel
theorem dX7_halfBehind_24 : decode cX7_halfBehind 24 = .ok (.ishl, 1) := by decide +kernel
theorem dX7_halfBehind_25 : decode cX7_halfBehind 25 = .ok (.ixor, 1) := by decide +kernel
theorem dX7_halfBehind_26 : decode cX7_halfBehind 26 = .ok (.ireturn, 1) := by decide +kernel
theorem dX7_halfBehind_27 : decode cX7_halfBehind 27 = .ok (.iload_n 1, 1) := by decide +kernel
theorem dX7_halfBehind_28 : decode cX7_halfBehind 28 = .ok (.iconst 1, 1) := by decide +kernel
theorem dX7_halfBehind_29 : decode cX7_halfBehind 29 = .ok (.iload_n 2, 1) := by decide +kernel
theorem dX7_halfBehind_30 : decode cX7_halfBehind 30 = .ok (.ishl, 1) := by decide +kernel
theorem dX7_halfBehind_31 : decode cX7_halfBehind 31 = .ok (.ixor, 1) := by decide +kernel
theorem dX7_halfBehind_32 : decode cX7_halfBehind 32 = .ok (.ireturn, 1) := by decide +kernel
theorem dX7_goOver_0 : decode cX7_goOver 0 = .ok (.aload_n 0, 1) := by decide +kernel
theorem dX7_goOver_1 : decode cX7_goOver 1 = .ok (.getfield 23, 3) := by decide +kernel
theorem dX7_goOver_4 : decode cX7_goOver 4 = .ok (.iload_n 1, 1) := by decide +kernel
theorem dX7_goOver_5 : decode cX7_goOver 5 = .ok (.aaload, 1) := by decide +kernel
theorem dX7_goOver_6 : decode cX7_goOver 6 = .ok (.astore_n 3, 1) := by decide +kernel
theorem dX7_goOver_7 : decode cX7_goOver 7 = .ok (.aload_n 3, 1) := by decide +kernel
theorem dX7_goOver_8 : decode cX7_goOver 8 = .ok (.aload_n 0, 1) := by decide +kernel
theorem dX7_goOver_9 : decode cX7_goOver 9 = .ok (.iload_n 2, 1) := by decide +kernel
theorem dX7_goOver_10 : decode cX7_goOver 10 = .ok (.aload_n 3, 1) := by decide +kernel
theorem dX7_goOver_11 : decode cX7_goOver 11 = .ok (.getfield 77, 3) := by decide +kernel
theorem dX7_goOver_14 : decode cX7_goOver 14 = .ok (.invokevirtual 80, 3) := by decide +kernel
theorem dX7_goOver_17 : decode cX7_goOver 17 = .ok (.putfield 77, 3) := by decide +kernel
theorem dX7_goOver_20 : decode cX7_goOver 20 = .ok (.aload_n 3, 1) := by decide +kernel
theorem dX7_goOver_21 : decode cX7_goOver 21 = .ok (.aload_n 0, 1) := by decide +kernel
theorem dX7_goOver_22 : decode cX7_goOver 22 = .ok (.aload_n 3, 1) := by decide +kernel
theorem dX7_goOver_23 : decode cX7_goOver 23 = .ok (.getfield 84, 3) := by decide +kernel
theorem dX7_goOver_26 : decode cX7_goOver 26 = .ok (.iload_n 2, 1) := by decide +kernel
theorem dX7_goOver_27 : decode cX7_goOver 27 = .ok (.invokevirtual 87, 3) := by decide +kernel
theorem dX7_goOver_30 : decode cX7_goOver 30 = .ok (.putfield 84, 3) := by decide +kernel
theorem dX7_goOver_33 : decode cX7_goOver 33 = .ok (.aload_n 3, 1) := by decide +kernel
theorem dX7_goOver_34 : decode cX7_goOver 34 = .ok (.getfield 84, 3) := by decide +kernel
theorem dX7_goOver_37 : decode cX7_goOver 37 = .ok (.ifCond .ne 11, 3) := by decide +kernel
theorem dX7_goOver_40 : decode cX7_goOver 40 = .ok (.aload_n 3, 1) := by decide +kernel
theorem dX7_goOver_41 : decode cX7_goOver 41 = .ok (.aload_n 3, 1) := by decide +kernel
theorem dX7_goOver_42 : decode cX7_goOver 42 = .ok (.getfield 77, 3) := by decide +kernel
theorem dX7_goOver_45 : decode cX7_goOver 45 = .ok (.putfield 90, 3) := by decide +kernel
theorem dX7_goOver_48 : decode cX7_goOver 48 = .ok (.return_, 1) := by decide +kernel
theorem dX7_leave_0 : decode cX7_leave 0 = .ok (.aload_n 0, 1) := by decide +kernel
theorem dX7_leave_1 : decode cX7_leave 1 = .ok (.getfield 23, 3) := by decide +kernel
theorem dX7_leave_4 : decode cX7_leave 4 = .ok (.iload_n 1, 1) := by decide +kernel
theorem dX7_leave_5 : decode cX7_leave 5 = .ok (.aaload, 1) := by decide +kernel
theorem dX7_leave_6 : decode cX7_leave 6 = .ok (.astore 4, 2) := by decide +kernel
theorem dX7_leave_8 : decode cX7_leave 8 = .ok (.aload_n 0, 1) := by decide +kernel
theorem dX7_leave_9 : decode cX7_leave 9 = .ok (.getfield 66, 3) := by decide +kernel
theorem dX7_leave_12 : decode cX7_leave 12 = .ok (.ifnonnull 7, 3) := by decide +kernel
theorem dX7_leave_15 : decode cX7_leave 15 = .ok (.iconst 3, 1) := by decide +kernel
theorem dX7_leave_16 : decode cX7_leave 16 = .ok (.goto 30, 3) := by decide +kernel
theorem dX7_leave_19 : decode cX7_leave 19 = .ok (.aload_n 0, 1) := by decide +kernel
theorem dX7_leave_20 : decode cX7_leave 20 = .ok (.getfield 66, 3) := by decide +kernel
theorem dX7_leave_23 : decode cX7_leave 23 = .ok (.iload_n 1, 1) := by decide +kernel
theorem dX7_leave_24 : decode cX7_leave 24 = .ok (.aload 4, 2) := by decide +kernel
theorem dX7_leave_26 : decode cX7_leave 26 = .ok (.getfield 93, 3) := by decide +kernel
theorem dX7_leave_29 : decode cX7_leave 29 = .ok (.aload 4, 2) := by decide +kernel
theorem dX7_leave_31 : decode cX7_leave 31 = .ok (.getfield 96, 3) := by decide +kernel
theorem dX7_leave_34 : decode cX7_leave 34 = .ok (.iload_n 2, 1) := by decide +kernel
theorem dX7_leave_35 : decode cX7_leave 35 = .ok (.iload_n 3, 1) := by decide +kernel
theorem dX7_leave_36 : decode cX7_leave 36 = .ok (.aload_n 0, 1) := by decide +kernel
theorem dX7_leave_37 : decode cX7_leave 37 = .ok (.getfield 63, 3) := by decide +kernel
theorem dX7_leave_40 : decode cX7_leave 40 = .ok (.bipush 10, 2) := by decide +kernel
theorem dX7_leave_42 : decode cX7_leave 42 = .ok (.irem, 1) := by decide +kernel
theorem dX7_leave_43 : decode cX7_leave 43 = .ok (.invokevirtual 99, 3) := by decide +kernel
theorem dX7_leave_46 : decode cX7_leave 46 = .ok (.istore 5, 2) := by decide +kernel
theorem dX7_leave_48 : decode cX7_leave 48 = .ok (.aload 4, 2) := by decide +kernel
theorem dX7_leave_50 : decode cX7_leave 50 = .ok (.getfield 93, 3) := by decide +kernel
theorem dX7_leave_53 : decode cX7_leave 53 = .ok (.tableswitch 116 1 6 #[39, 54, 59, 66, 90, 97], 39) := by decide +kernel
theorem dX7_leave_92 : decode cX7_leave 92 = .ok (.iload 5, 2) := by decide +kernel
theorem dX7_leave_94 : decode cX7_leave 94 = .ok (.aload 4, 2) := by decide +kernel
theorem dX7_leave_96 : decode cX7_leave 96 = .ok (.getfield 96, 3) := by decide +kernel
theorem dX7_leave_99 : decode cX7_leave 99 = .ok (.iadd, 1) := by decide +kernel
theorem dX7_leave_100 : decode cX7_leave 100 = .ok (.iload_n 2, 1) := by decide +kernel
theorem dX7_leave_101 : decode cX7_leave 101 = .ok (.iconst 2, 1) := by decide +kernel
theorem dX7_leave_102 : decode cX7_leave 102 = .ok (.irem, 1) := by decide +kernel
theorem dX7_leave_103 : decode cX7_leave 103 = .ok (.iconst 5, 1) := by decide +kernel
theorem dX7_leave_104 : decode cX7_leave 104 = .ok (.imul, 1) := by decide +kernel
theorem dX7_leave_105 : decode cX7_leave 105 = .ok (.isub, 1) := by decide +kernel
theorem dX7_leave_106 : decode cX7_leave 106 = .ok (.ireturn, 1) := by decide +kernel
theorem dX7_leave_107 : decode cX7_leave 107 = .ok (.iload 5, 2) := by decide +kernel
theorem dX7_leave_109 : decode cX7_leave 109 = .ok (.iconst 2, 1) := by decide +kernel
theorem dX7_leave_110 : decode cX7_leave 110 = .ok (.idiv, 1) := by decide +kernel
theorem dX7_leave_111 : decode cX7_leave 111 = .ok (.ireturn, 1) := by decide +kernel
theorem dX7_leave_112 : decode cX7_leave 112 = .ok (.iload 5, 2) := by decide +kernel
theorem dX7_leave_114 : decode cX7_leave 114 = .ok (.iconst 2, 1) := by decide +kernel
theorem dX7_leave_115 : decode cX7_leave 115 = .ok (.iload_n 3, 1) := by decide +kernel
theorem dX7_leave_116 : decode cX7_leave 116 = .ok (.imul, 1) := by decide +kernel
theorem dX7_leave_117 : decode cX7_leave 117 = .ok (.isub, 1) := by decide +kernel
theorem dX7_leave_118 : decode cX7_leave 118 = .ok (.ireturn, 1) := by decide +kernel
theorem dX7_leave_119 : decode cX7_leave 119 = .ok (.iload_n 3, 1) := by decide +kernel
theorem dX7_leave_120 : decode cX7_leave 120 = .ok (.iconst 2, 1) := by decide +kernel
theorem dX7_leave_121 : decode cX7_leave 121 = .ok (.if_icmp .le 7, 3) := by decide +kernel
theorem dX7_leave_124 : decode cX7_leave 124 = .ok (.iconst 0, 1) := by decide +kernel
theorem dX7_leave_125 : decode cX7_leave 125 = .ok (.goto 17, 3) := by decide +kernel
theorem dX7_leave_128 : decode cX7_leave 128 = .ok (.iload 5, 2) := by decide +kernel
theorem dX7_leave_130 : decode cX7_leave 130 = .ok (.aload 4, 2) := by decide +kernel
theorem dX7_leave_132 : decode cX7_leave 132 = .ok (.getfield 96, 3) := by decide +kernel
theorem dX7_leave_135 : decode cX7_leave 135 = .ok (.iadd, 1) := by decide +kernel
theorem dX7_leave_136 : decode cX7_leave 136 = .ok (.iload_n 2, 1) := by decide +kernel
theorem dX7_leave_137 : decode cX7_leave 137 = .ok (.iconst 2, 1) := by decide +kernel
theorem dX7_leave_138 : decode cX7_leave 138 = .ok (.irem, 1) := by decide +kernel
theorem dX7_leave_139 : decode cX7_leave 139 = .ok (.iconst 5, 1) := by decide +kernel
theorem dX7_leave_140 : decode cX7_leave 140 = .ok (.imul, 1) := by decide +kernel
theorem dX7_leave_141 : decode cX7_leave 141 = .ok (.isub, 1) := by decide +kernel
theorem dX7_leave_142 : decode cX7_leave 142 = .ok (.ireturn, 1) := by decide +kernel
theorem dX7_leave_143 : decode cX7_leave 143 = .ok (.iload 5, 2) := by decide +kernel
theorem dX7_leave_145 : decode cX7_leave 145 = .ok (.iconst 2, 1) := by decide +kernel
theorem dX7_leave_146 : decode cX7_leave 146 = .ok (.idiv, 1) := by decide +kernel
theorem dX7_leave_147 : decode cX7_leave 147 = .ok (.iconst 2, 1) := by decide +kernel
theorem dX7_leave_148 : decode cX7_leave 148 = .ok (.iadd, 1) := by decide +kernel
theorem dX7_leave_149 : decode cX7_leave 149 = .ok (.ireturn, 1) := by decide +kernel
theorem dX7_leave_150 : decode cX7_leave 150 = .ok (.iload 5, 2) := by decide +kernel
theorem dX7_leave_152 : decode cX7_leave 152 = .ok (.iconst 2, 1) := by decide +kernel
theorem dX7_leave_153 : decode cX7_leave 153 = .ok (.iload_n 3, 1) := by decide +kernel
theorem dX7_leave_154 : decode cX7_leave 154 = .ok (.imul, 1) := by decide +kernel
theorem dX7_leave_155 : decode cX7_leave 155 = .ok (.isub, 1) := by decide +kernel
theorem dX7_leave_156 : decode cX7_leave 156 = .ok (.aload 4, 2) := by decide +kernel
theorem dX7_leave_158 : decode cX7_leave 158 = .ok (.getfield 105, 3) := by decide +kernel
theorem dX7_leave_161 : decode cX7_leave 161 = .ok (.iload_n 2, 1) := by decide +kernel
theorem dX7_leave_162 : decode cX7_leave 162 = .ok (.iconst 4, 1) := by decide +kernel
theorem dX7_leave_163 : decode cX7_leave 163 = .ok (.irem, 1) := by decide +kernel
theorem dX7_leave_164 : decode cX7_leave 164 = .ok (.iaload, 1) := by decide +kernel
theorem dX7_leave_165 : decode cX7_leave 165 = .ok (.iadd, 1) := by decide +kernel
theorem dX7_leave_166 : decode cX7_leave 166 = .ok (.iconst 4, 1) := by decide +kernel
theorem dX7_leave_167 : decode cX7_leave 167 = .ok (.isub, 1) := by decide +kernel
theorem dX7_leave_168 : decode cX7_leave 168 = .ok (.ireturn, 1) := by decide +kernel
theorem dX7_leave_169 : decode cX7_leave 169 = .ok (.iload 5, 2) := by decide +kernel
theorem dX7_leave_171 : decode cX7_leave 171 = .ok (.ireturn, 1) := by decide +kernel
theorem dX7_mayCross_0 : decode cX7_mayCross 0 = .ok (.aload_n 0, 1) := by decide +kernel
theorem dX7_mayCross_1 : decode cX7_mayCross 1 = .ok (.getfield 53, 3) := by decide +kernel
theorem dX7_mayCross_4 : decode cX7_mayCross 4 = .ok (.iload_n 2, 1) := by decide +kernel
theorem dX7_mayCross_5 : decode cX7_mayCross 5 = .ok (.ishr, 1) := by decide +kernel
theorem dX7_mayCross_6 : decode cX7_mayCross 6 = .ok (.iconst 1, 1) := by decide +kernel
theorem dX7_mayCross_7 : decode cX7_mayCross 7 = .ok (.iand, 1) := by decide +kernel
theorem dX7_mayCross_8 : decode cX7_mayCross 8 = .ok (.ifCond .eq 16, 3) := by decide +kernel
theorem dX7_mayCross_11 : decode cX7_mayCross 11 = .ok (.aload_n 0, 1) := by decide +kernel
theorem dX7_mayCross_12 : decode cX7_mayCross 12 = .ok (.getfield 23, 3) := by decide +kernel
theorem dX7_mayCross_15 : decode cX7_mayCross 15 = .ok (.iload_n 1, 1) := by decide +kernel
theorem dX7_mayCross_16 : decode cX7_mayCross 16 = .ok (.aaload, 1) := by decide +kernel
theorem dX7_mayCross_17 : decode cX7_mayCross 17 = .ok (.getfield 93, 3) := by decide +kernel
theorem dX7_mayCross_20 : decode cX7_mayCross 20 = .ok (.iconst 5, 1) := by decide +kernel
theorem dX7_mayCross_21 : decode cX7_mayCross 21 = .ok (.if_icmp .ne 7, 3) := by decide +kernel
theorem dX7_mayCross_24 : decode cX7_mayCross 24 = .ok (.iconst 1, 1) := by decide +kernel
theorem dX7_mayCross_25 : decode cX7_mayCross 25 = .ok (.goto 4, 3) := by decide +kernel
theorem dX7_mayCross_28 : decode cX7_mayCross 28 = .ok (.iconst 0, 1) := by decide +kernel
theorem dX7_mayCross_29 : decode cX7_mayCross 29 = .ok (.istore 4, 2) := by decide +kernel
theorem dX7_mayCross_31 : decode cX7_mayCross 31 = .ok (.iload 4, 2) := by decide +kernel
theorem dX7_mayCross_33 : decode cX7_mayCross 33 = .ok (.ifCond .eq 18, 3) := by decide +kernel
theorem dX7_mayCross_36 : decode cX7_mayCross 36 = .ok (.aload_n 0, 1) := by decide +kernel
theorem dX7_mayCross_37 : decode cX7_mayCross 37 = .ok (.iload_n 1, 1) := by decide +kernel
theorem dX7_mayCross_38 : decode cX7_mayCross 38 = .ok (.iload_n 2, 1) := by decide +kernel
theorem dX7_mayCross_39 : decode cX7_mayCross 39 = .ok (.iload_n 3, 1) := by decide +kernel
theorem dX7_mayCross_40 : decode cX7_mayCross 40 = .ok (.invokevirtual 108, 3) := by decide +kernel
theorem dX7_mayCross_43 : decode cX7_mayCross 43 = .ok (.iconst 1, 1) := by decide +kernel
theorem dX7_mayCross_44 : decode cX7_mayCross 44 = .ok (.if_icmp .lt 7, 3) := by decide +kernel
theorem dX7_mayCross_47 : decode cX7_mayCross 47 = .ok (.iconst 1, 1) := by decide +kernel
theorem dX7_mayCross_48 : decode cX7_mayCross 48 = .ok (.goto 4, 3) := by decide +kernel
theorem dX7_mayCross_51 : decode cX7_mayCross 51 = .ok (.iconst 0, 1) := by decide +kernel
theorem dX7_mayCross_52 : decode cX7_mayCross 52 = .ok (.ireturn, 1) := by decide +kernel
theorem dX7_dark_0 : decode cX7_dark 0 = .ok (.aload_n 0, 1) := by decide +kernel
theorem dX7_dark_1 : decode cX7_dark 1 = .ok (.getfield 66, 3) := by decide +kernel
theorem dX7_dark_4 : decode cX7_dark 4 = .ok (.ifnonnull 7, 3) := by decide +kernel
theorem dX7_dark_7 : decode cX7_dark 7 = .ok (.iconst 0, 1) := by decide +kernel
theorem dX7_dark_8 : decode cX7_dark 8 = .ok (.goto 10, 3) := by decide +kernel
theorem dX7_dark_11 : decode cX7_dark 11 = .ok (.aload_n 0, 1) := by decide +kernel
theorem dX7_dark_12 : decode cX7_dark 12 = .ok (.getfield 66, 3) := by decide +kernel
theorem dX7_dark_15 : decode cX7_dark 15 = .ok (.getfield 112, 3) := by decide +kernel
theorem dX7_dark_18 : decode cX7_dark 18 = .ok (.ireturn, 1) := by decide +kernel
theorem dX7_arrived_0 : decode cX7_arrived 0 = .ok (.iconst 0, 1) := by decide +kernel
theorem dX7_arrived_1 : decode cX7_arrived 1 = .ok (.istore_n 1, 1) := by decide +kernel
theorem dX7_arrived_2 : decode cX7_arrived 2 = .ok (.iconst 0, 1) := by decide +kernel
theorem dX7_arrived_3 : decode cX7_arrived 3 = .ok (.istore_n 2, 1) := by decide +kernel
theorem dX7_arrived_4 : decode cX7_arrived 4 = .ok (.iload_n 2, 1) := by decide +kernel
theorem dX7_arrived_5 : decode cX7_arrived 5 = .ok (.aload_n 0, 1) := by decide +kernel
theorem dX7_arrived_6 : decode cX7_arrived 6 = .ok (.getfield 56, 3) := by decide +kernel
theorem dX7_arrived_9 : decode cX7_arrived 9 = .ok (.if_icmp .ge 27, 3) := by decide +kernel
theorem dX7_arrived_12 : decode cX7_arrived 12 = .ok (.aload_n 0, 1) := by decide +kernel
theorem dX7_arrived_13 : decode cX7_arrived 13 = .ok (.getfield 23, 3) := by decide +kernel
theorem dX7_arrived_16 : decode cX7_arrived 16 = .ok (.iload_n 2, 1) := by decide +kernel
theorem dX7_arrived_17 : decode cX7_arrived 17 = .ok (.aaload, 1) := by decide +kernel
theorem dX7_arrived_18 : decode cX7_arrived 18 = .ok (.invokevirtual 115, 3) := by decide +kernel
theorem dX7_arrived_21 : decode cX7_arrived 21 = .ok (.ifCond .eq 9, 3) := by decide +kernel
theorem dX7_arrived_24 : decode cX7_arrived 24 = .ok (.iload_n 1, 1) := by decide +kernel
theorem dX7_arrived_25 : decode cX7_arrived 25 = .ok (.iconst 1, 1) := by decide +kernel
theorem dX7_arrived_26 : decode cX7_arrived 26 = .ok (.iload_n 2, 1) := by decide +kernel
theorem dX7_arrived_27 : decode cX7_arrived 27 = .ok (.ishl, 1) := by decide +kernel
theorem dX7_arrived_28 : decode cX7_arrived 28 = .ok (.ior, 1) := by decide +kernel
theorem dX7_arrived_29 : decode cX7_arrived 29 = .ok (.istore_n 1, 1) := by decide +kernel
theorem dX7_arrived_30 : decode cX7_arrived 30 = .ok (.iinc 2 1, 3) := by decide +kernel
theorem dX7_arrived_33 : decode cX7_arrived 33 = .ok (.goto (-29), 3) := by decide +kernel
theorem dX7_arrived_36 : decode cX7_arrived 36 = .ok (.iload_n 1, 1) := by decide +kernel
theorem dX7_arrived_37 : decode cX7_arrived 37 = .ok (.ireturn, 1) := by decide +kernel
theorem dX7_halves_0 : decode cX7_halves 0 = .ok (.iconst 0, 1) := by decide +kernel
theorem dX7_halves_1 : decode cX7_halves 1 = .ok (.istore_n 1, 1) := by decide +kernel
theorem dX7_halves_2 : decode cX7_halves 2 = .ok (.iconst 0, 1) := by decide +kernel
theorem dX7_halves_3 : decode cX7_halves 3 = .ok (.istore_n 2, 1) := by decide +kernel
theorem dX7_halves_4 : decode cX7_halves 4 = .ok (.iload_n 2, 1) := by decide +kernel
theorem dX7_halves_5 : decode cX7_halves 5 = .ok (.aload_n 0, 1) := by decide +kernel
theorem dX7_halves_6 : decode cX7_halves 6 = .ok (.getfield 56, 3) := by decide +kernel
theorem dX7_halves_9 : decode cX7_halves 9 = .ok (.if_icmp .ge 24, 3) := by decide +kernel
theorem dX7_halves_12 : decode cX7_halves 12 = .ok (.iload_n 1, 1) := by decide +kernel
theorem dX7_halves_13 : decode cX7_halves 13 = .ok (.aload_n 0, 1) := by decide +kernel
theorem dX7_halves_14 : decode cX7_halves 14 = .ok (.getfield 23, 3) := by decide +kernel
theorem dX7_halves_17 : decode cX7_halves 17 = .ok (.iload_n 2, 1) := by decide +kernel
theorem dX7_halves_18 : decode cX7_halves 18 = .ok (.aaload, 1) := by decide +kernel
theorem dX7_halves_19 : decode cX7_halves 19 = .ok (.getfield 84, 3) := by decide +kernel
theorem dX7_halves_22 : decode cX7_halves 22 = .ok (.invokestatic 119, 3) := by decide +kernel
theorem dX7_halves_25 : decode cX7_halves 25 = .ok (.iadd, 1) := by decide +kernel
theorem dX7_halves_26 : decode cX7_halves 26 = .ok (.istore_n 1, 1) := by decide +kernel
theorem dX7_halves_27 : decode cX7_halves 27 = .ok (.iinc 2 1, 3) := by decide +kernel
theorem dX7_halves_30 : decode cX7_halves 30 = .ok (.goto (-26), 3) := by decide +kernel
theorem dX7_halves_33 : decode cX7_halves 33 = .ok (.iload_n 1, 1) := by decide +kernel
theorem dX7_halves_34 : decode cX7_halves 34 = .ok (.ireturn, 1) := by decide +kernel
theorem dX8_init_0 : decode cX8_init 0 = .ok (.aload_n 0, 1) := by decide +kernel
theorem dX8_init_1 : decode cX8_init 1 = .ok (.invokespecial 5, 3) := by decide +kernel
theorem dX8_init_4 : decode cX8_init 4 = .ok (.aload_n 0, 1) := by decide +kernel
theorem dX8_init_5 : decode cX8_init 5 = .ok (.new 11, 3) := by decide +kernel
theorem dX8_init_8 : decode cX8_init 8 = .ok (.dup, 1) := by decide +kernel
theorem dX8_init_9 : decode cX8_init 9 = .ok (.invokespecial 13, 3) := by decide +kernel
theorem dX8_init_12 : decode cX8_init 12 = .ok (.putfield 14, 3) := by decide +kernel
theorem dX8_init_15 : decode cX8_init 15 = .ok (.aload_n 0, 1) := by decide +kernel
theorem dX8_init_16 : decode cX8_init 16 = .ok (.new 11, 3) := by decide +kernel
theorem dX8_init_19 : decode cX8_init 19 = .ok (.dup, 1) := by decide +kernel
theorem dX8_init_20 : decode cX8_init 20 = .ok (.invokespecial 13, 3) := by decide +kernel
theorem dX8_init_23 : decode cX8_init 23 = .ok (.putfield 18, 3) := by decide +kernel
theorem dX8_init_26 : decode cX8_init 26 = .ok (.aload_n 0, 1) := by decide +kernel
theorem dX8_init_27 : decode cX8_init 27 = .ok (.new 11, 3) := by decide +kernel
theorem dX8_init_30 : decode cX8_init 30 = .ok (.dup, 1) := by decide +kernel
theorem dX8_init_31 : decode cX8_init 31 = .ok (.invokespecial 13, 3) := by decide +kernel
theorem dX8_init_34 : decode cX8_init 34 = .ok (.putfield 21, 3) := by decide +kernel
theorem dX8_init_37 : decode cX8_init 37 = .ok (.aload_n 0, 1) := by decide +kernel
theorem dX8_init_38 : decode cX8_init 38 = .ok (.new 24, 3) := by decide +kernel
theorem dX8_init_41 : decode cX8_init 41 = .ok (.dup, 1) := by decide +kernel
theorem dX8_init_42 : decode cX8_init 42 = .ok (.invokespecial 26, 3) := by decide +kernel
theorem dX8_init_45 : decode cX8_init 45 = .ok (.putfield 27, 3) := by decide +kernel
theorem dX8_init_48 : decode cX8_init 48 = .ok (.aload_n 0, 1) := by decide +kernel
theorem dX8_init_49 : decode cX8_init 49 = .ok (.new 31, 3) := by decide +kernel
theorem dX8_init_52 : decode cX8_init 52 = .ok (.dup, 1) := by decide +kernel
theorem dX8_init_53 : decode cX8_init 53 = .ok (.invokespecial 33, 3) := by decide +kernel
theorem dX8_init_56 : decode cX8_init 56 = .ok (.putfield 34, 3) := by decide +kernel
theorem dX8_init_59 : decode cX8_init 59 = .ok (.aload_n 0, 1) := by decide +kernel
theorem dX8_init_60 : decode cX8_init 60 = .ok (.bipush 6, 2) := by decide +kernel
theorem dX8_init_62 : decode cX8_init 62 = .ok (.anewarray 38, 3) := by decide +kernel
theorem dX8_init_65 : decode cX8_init 65 = .ok (.putfield 40, 3) := by decide +kernel
theorem dX8_init_68 : decode cX8_init 68 = .ok (.aload_n 0, 1) := by decide +kernel
theorem dX8_init_69 : decode cX8_init 69 = .ok (.bipush 6, 2) := by decide +kernel
theorem dX8_init_71 : decode cX8_init 71 = .ok (.anewarray 44, 3) := by decide +kernel
theorem dX8_init_74 : decode cX8_init 74 = .ok (.putfield 46, 3) := by decide +kernel
theorem dX8_init_77 : decode cX8_init 77 = .ok (.aload_n 0, 1) := by decide +kernel
theorem dX8_init_78 : decode cX8_init 78 = .ok (.new 50, 3) := by decide +kernel
theorem dX8_init_81 : decode cX8_init 81 = .ok (.dup, 1) := by decide +kernel
theorem dX8_init_82 : decode cX8_init 82 = .ok (.invokespecial 52, 3) := by decide +kernel
theorem dX8_init_85 : decode cX8_init 85 = .ok (.putfield 53, 3) := by decide +kernel
theorem dX8_init_88 : decode cX8_init 88 = .ok (.iconst 0, 1) := by decide +kernel
theorem dX8_init_89 : decode cX8_init 89 = .ok (.istore_n 1, 1) := by decide +kernel
theorem dX8_init_90 : decode cX8_init 90 = .ok (.iload_n 1, 1) := by decide +kernel
theorem dX8_init_91 : decode cX8_init 91 = .ok (.bipush 6, 2) := by decide +kernel
theorem dX8_init_93 : decode cX8_init 93 = .ok (.if_icmp .ge 22, 3) := by decide +kernel
theorem dX8_init_96 : decode cX8_init 96 = .ok (.aload_n 0, 1) := by decide +kernel
theorem dX8_init_97 : decode cX8_init 97 = .ok (.getfield 40, 3) := by decide +kernel
theorem dX8_init_100 : decode cX8_init 100 = .ok (.iload_n 1, 1) := by decide +kernel
theorem dX8_init_101 : decode cX8_init 101 = .ok (.new 38, 3) := by decide +kernel
theorem dX8_init_104 : decode cX8_init 104 = .ok (.dup, 1) := by decide +kernel
theorem dX8_init_105 : decode cX8_init 105 = .ok (.invokespecial 57, 3) := by decide +kernel
theorem dX8_init_108 : decode cX8_init 108 = .ok (.aastore, 1) := by decide +kernel
theorem dX8_init_109 : decode cX8_init 109 = .ok (.iinc 1 1, 3) := by decide +kernel
theorem dX8_init_112 : decode cX8_init 112 = .ok (.goto (-22), 3) := by decide +kernel
theorem dX8_init_115 : decode cX8_init 115 = .ok (.iconst 0, 1) := by decide +kernel
theorem dX8_init_116 : decode cX8_init 116 = .ok (.istore_n 1, 1) := by decide +kernel
theorem dX8_init_117 : decode cX8_init 117 = .ok (.iload_n 1, 1) := by decide +kernel
theorem dX8_init_118 : decode cX8_init 118 = .ok (.bipush 6, 2) := by decide +kernel
theorem dX8_init_120 : decode cX8_init 120 = .ok (.if_icmp .ge 22, 3) := by decide +kernel
theorem dX8_init_123 : decode cX8_init 123 = .ok (.aload_n 0, 1) := by decide +kernel
theorem dX8_init_124 : decode cX8_init 124 = .ok (.getfield 46, 3) := by decide +kernel
theorem dX8_init_127 : decode cX8_init 127 = .ok (.iload_n 1, 1) := by decide +kernel
theorem dX8_init_128 : decode cX8_init 128 = .ok (.new 44, 3) := by decide +kernel
theorem dX8_init_131 : decode cX8_init 131 = .ok (.dup, 1) := by decide +kernel
theorem dX8_init_132 : decode cX8_init 132 = .ok (.invokespecial 58, 3) := by decide +kernel
theorem dX8_init_135 : decode cX8_init 135 = .ok (.aastore, 1) := by decide +kernel
theorem dX8_init_136 : decode cX8_init 136 = .ok (.iinc 1 1, 3) := by decide +kernel
theorem dX8_init_139 : decode cX8_init 139 = .ok (.goto (-22), 3) := by decide +kernel
theorem dX8_init_142 : decode cX8_init 142 = .ok (.return_, 1) := by decide +kernel
theorem dX8_bridge_0 : decode cX8_bridge 0 = .ok (.iload_n 1, 1) := by decide +kernel
theorem dX8_bridge_1 : decode cX8_bridge 1 = .ok (.invokestatic 59, 3) := by decide +kernel
theorem dX8_bridge_4 : decode cX8_bridge 4 = .ok (.ifCond .eq 10, 3) := by decide +kernel
theorem dX8_bridge_7 : decode cX8_bridge 7 = .ok (.iload_n 2, 1) := by decide +kernel
theorem dX8_bridge_8 : decode cX8_bridge 8 = .ok (.invokestatic 59, 3) := by decide +kernel
theorem dX8_bridge_11 : decode cX8_bridge 11 = .ok (.ifCond .ne 5, 3) := by decide +kernel
theorem dX8_bridge_14 : decode cX8_bridge 14 = .ok (.iconst (-1), 1) := by decide +kernel
theorem dX8_bridge_15 : decode cX8_bridge 15 = .ok (.ireturn, 1) := by decide +kernel
theorem dX8_bridge_16 : decode cX8_bridge 16 = .ok (.iload_n 1, 1) := by decide +kernel
theorem dX8_bridge_17 : decode cX8_bridge 17 = .ok (.iload_n 2, 1) := by decide +kernel
theorem dX8_bridge_18 : decode cX8_bridge 18 = .ok (.if_icmp .ne 6, 3) := by decide +kernel
theorem dX8_bridge_21 : decode cX8_bridge 21 = .ok (.bipush (-2), 2) := by decide +kernel
theorem dX8_bridge_23 : decode cX8_bridge 23 = .ok (.ireturn, 1) := by decide +kernel
theorem dX8_bridge_24 : decode cX8_bridge 24 = .ok (.aload_n 0, 1) := by decide +kernel
theorem dX8_bridge_25 : decode cX8_bridge 25 = .ok (.getfield 14, 3) := by decide +kernel
theorem dX8_bridge_28 : decode cX8_bridge 28 = .ok (.iload_n 1, 1) := by decide +kernel
theorem dX8_bridge_29 : decode cX8_bridge 29 = .ok (.iload_n 2, 1) := by decide +kernel
theorem dX8_bridge_30 : decode cX8_bridge 30 = .ok (.invokevirtual 63, 3) := by decide +kernel
theorem dX8_bridge_33 : decode cX8_bridge 33 = .ok (.ireturn, 1) := by decide +kernel
theorem dX8_one_0 : decode cX8_one 0 = .ok (.iload_n 1, 1) := by decide +kernel
theorem dX8_one_1 : decode cX8_one 1 = .ok (.ifCond .lt 16, 3) := by decide +kernel
theorem dX8_one_4 : decode cX8_one 4 = .ok (.iload_n 1, 1) := by decide +kernel
theorem dX8_one_5 : decode cX8_one 5 = .ok (.bipush 7, 2) := by decide +kernel
theorem dX8_one_7 : decode cX8_one 7 = .ok (.if_icmp .ge 10, 3) := by decide +kernel
theorem dX8_one_10 : decode cX8_one 10 = .ok (.iload_n 3, 1) := by decide +kernel
theorem dX8_one_11 : decode cX8_one 11 = .ok (.invokestatic 59, 3) := by decide +kernel
theorem dX8_one_14 : decode cX8_one 14 = .ok (.ifCond .ne 5, 3) := by decide +kernel
theorem dX8_one_17 : decode cX8_one 17 = .ok (.iconst (-1), 1) := by decide +kernel
theorem dX8_one_18 : decode cX8_one 18 = .ok (.ireturn, 1) := by decide +kernel
theorem dX8_one_19 : decode cX8_one 19 = .ok (.iload_n 2, 1) := by decide +kernel
theorem dX8_one_20 : decode cX8_one 20 = .ok (.ifCond .lt 9, 3) := by decide +kernel
theorem dX8_one_23 : decode cX8_one 23 = .ok (.iload_n 2, 1) := by decide +kernel
theorem dX8_one_24 : decode cX8_one 24 = .ok (.bipush 9, 2) := by decide +kernel
theorem dX8_one_26 : decode cX8_one 26 = .ok (.if_icmp .le 6, 3) := by decide +kernel
theorem dX8_one_29 : decode cX8_one 29 = .ok (.bipush (-2), 2) := by decide +kernel
theorem dX8_one_31 : decode cX8_one 31 = .ok (.ireturn, 1) := by decide +kernel
theorem dX8_one_32 : decode cX8_one 32 = .ok (.aload_n 0, 1) := by decide +kernel
theorem dX8_one_33 : decode cX8_one 33 = .ok (.getfield 14, 3) := by decide +kernel
theorem dX8_one_36 : decode cX8_one 36 = .ok (.iload_n 1, 1) := by decide +kernel
theorem dX8_one_37 : decode cX8_one 37 = .ok (.iload_n 2, 1) := by decide +kernel
theorem dX8_one_38 : decode cX8_one 38 = .ok (.iload_n 3, 1) := by decide +kernel
theorem dX8_one_39 : decode cX8_one 39 = .ok (.invokevirtual 67, 3) := by decide +kernel
theorem dX8_one_42 : decode cX8_one 42 = .ok (.ireturn, 1) := by decide +kernel
theorem dX8_of_0 : decode cX8_of 0 = .ok (.aload_n 0, 1) := by decide +kernel
theorem dX8_of_1 : decode cX8_of 1 = .ok (.iload_n 1, 1) := by decide +kernel
theorem dX8_of_2 : decode cX8_of 2 = .ok (.invokevirtual 71, 3) := by decide +kernel
theorem dX8_of_5 : decode cX8_of 5 = .ok (.ifCond .ne 7, 3) := by decide +kernel
theorem dX8_of_8 : decode cX8_of 8 = .ok (.sipush (-10001), 3) := by decide +kernel
theorem dX8_of_11 : decode cX8_of 11 = .ok (.ireturn, 1) := by decide +kernel
theorem dX8_of_12 : decode cX8_of 12 = .ok (.aload_n 0, 1) := by decide +kernel
theorem dX8_of_13 : decode cX8_of 13 = .ok (.getfield 14, 3) := by decide +kernel
theorem dX8_of_16 : decode cX8_of 16 = .ok (.getfield 74, 3) := by decide +kernel
theorem dX8_of_19 : decode cX8_of 19 = .ok (.iload_n 1, 1) := by decide +kernel
theorem dX8_of_20 : decode cX8_of 20 = .ok (.aaload, 1) := by decide +kernel
theorem dX8_of_21 : decode cX8_of 21 = .ok (.astore_n 3, 1) := by decide +kernel
theorem dX8_of_22 : decode cX8_of 22 = .ok (.iload_n 2, 1) := by decide +kernel
theorem dX8_of_23 : decode cX8_of 23 = .ok (.tableswitch 104 0 8 #[49, 54, 59, 64, 69, 74, 79, 92, 98], 49) := by decide +kernel
theorem dX8_of_72 : decode cX8_of 72 = .ok (.aload_n 3, 1) := by decide +kernel
theorem dX8_of_73 : decode cX8_of 73 = .ok (.getfield 78, 3) := by decide +kernel
theorem dX8_of_76 : decode cX8_of 76 = .ok (.ireturn, 1) := by decide +kernel
theorem dX8_of_77 : decode cX8_of 77 = .ok (.aload_n 3, 1) := by decide +kernel
theorem dX8_of_78 : decode cX8_of 78 = .ok (.getfield 84, 3) := by decide +kernel
theorem dX8_of_81 : decode cX8_of 81 = .ok (.ireturn, 1) := by decide +kernel
theorem dX8_of_82 : decode cX8_of 82 = .ok (.aload_n 3, 1) := by decide +kernel
theorem dX8_of_83 : decode cX8_of 83 = .ok (.getfield 87, 3) := by decide +kernel
theorem dX8_of_86 : decode cX8_of 86 = .ok (.ireturn, 1) := by decide +kernel
theorem dX8_of_87 : decode cX8_of 87 = .ok (.aload_n 3, 1) := by decide +kernel
theorem dX8_of_88 : decode cX8_of 88 = .ok (.getfield 90, 3) := by decide +kernel
theorem dX8_of_91 : decode cX8_of 91 = .ok (.ireturn, 1) := by decide +kernel
theorem dX8_of_92 : decode cX8_of 92 = .ok (.aload_n 3, 1) := by decide +kernel
theorem dX8_of_93 : decode cX8_of 93 = .ok (.getfield 93, 3) := by decide +kernel
theorem dX8_of_96 : decode cX8_of 96 = .ok (.ireturn, 1) := by decide +kernel
theorem dX8_of_97 : decode cX8_of 97 = .ok (.aload_n 3, 1) := by decide +kernel
theorem dX8_of_98 : decode cX8_of 98 = .ok (.getfield 96, 3) := by decide +kernel
theorem dX8_of_101 : decode cX8_of 101 = .ok (.ireturn, 1) := by decide +kernel
theorem dX8_of_102 : decode cX8_of 102 = .ok (.aload_n 0, 1) := by decide +kernel
theorem dX8_of_103 : decode cX8_of 103 = .ok (.getfield 27, 3) := by decide +kernel
theorem dX8_of_106 : decode cX8_of 106 = .ok (.aload_n 0, 1) := by decide +kernel
theorem dX8_of_107 : decode cX8_of 107 = .ok (.getfield 14, 3) := by decide +kernel
theorem dX8_of_110 : decode cX8_of 110 = .ok (.iload_n 1, 1) := by decide +kernel
theorem dX8_of_111 : decode cX8_of 111 = .ok (.invokevirtual 99, 3) := by decide +kernel
theorem dX8_of_114 : decode cX8_of 114 = .ok (.ireturn, 1) := by decide +kernel
theorem dX8_of_115 : decode cX8_of 115 = .ok (.aload_n 0, 1) := by decide +kernel
theorem dX8_of_116 : decode cX8_of 116 = .ok (.iload_n 1, 1) := by decide +kernel
theorem dX8_of_117 : decode cX8_of 117 = .ok (.invokevirtual 103, 3) := by decide +kernel
theorem dX8_of_120 : decode cX8_of 120 = .ok (.ireturn, 1) := by decide +kernel
theorem dX8_of_121 : decode cX8_of 121 = .ok (.aload_n 0, 1) := by decide +kernel
theorem dX8_of_122 : decode cX8_of 122 = .ok (.iload_n 1, 1) := by decide +kernel
theorem dX8_of_123 : decode cX8_of 123 = .ok (.invokevirtual 107, 3) := by decide +kernel
theorem dX8_of_126 : decode cX8_of 126 = .ok (.ireturn, 1) := by decide +kernel
theorem dX8_of_127 : decode cX8_of 127 = .ok (.aload_n 0, 1) := by decide +kernel
theorem dX8_of_128 : decode cX8_of 128 = .ok (.iload_n 1, 1) := by decide +kernel
theorem dX8_of_129 : decode cX8_of 129 = .ok (.iload_n 2, 1) := by decide +kernel
theorem dX8_of_130 : decode cX8_of 130 = .ok (.invokevirtual 110, 3) := by decide +kernel
theorem dX8_of_133 : decode cX8_of 133 = .ok (.ireturn, 1) := by decide +kernel
theorem dX8_span_0 : decode cX8_span 0 = .ok (.aload_n 0, 1) := by decide +kernel
theorem dX8_span_1 : decode cX8_span 1 = .ok (.iload_n 1, 1) := by decide +kernel
theorem dX8_span_2 : decode cX8_span 2 = .ok (.invokevirtual 113, 3) := by decide +kernel
theorem dX8_span_5 : decode cX8_span 5 = .ok (.ifCond .ne 5, 3) := by decide +kernel
theorem dX8_span_8 : decode cX8_span 8 = .ok (.iconst (-1), 1) := by decide +kernel
theorem dX8_span_9 : decode cX8_span 9 = .ok (.ireturn, 1) := by decide +kernel
theorem dX8_span_10 : decode cX8_span 10 = .ok (.iload_n 2, 1) := by decide +kernel
theorem dX8_span_11 : decode cX8_span 11 = .ok (.tableswitch 71 0 3 #[29, 39, 49, 59], 29) := by decide +kernel
theorem dX8_span_40 : decode cX8_span 40 = .ok (.aload_n 0, 1) := by decide +kernel
theorem dX8_span_41 : decode cX8_span 41 = .ok (.getfield 14, 3) := by decide +kernel
theorem dX8_span_44 : decode cX8_span 44 = .ok (.getfield 116, 3) := by decide +kernel
theorem dX8_span_47 : decode cX8_span 47 = .ok (.iload_n 1, 1) := by decide +kernel
theorem dX8_span_48 : decode cX8_span 48 = .ok (.iaload, 1) := by decide +kernel
theorem dX8_span_49 : decode cX8_span 49 = .ok (.ireturn, 1) := by decide +kernel
theorem dX8_span_50 : decode cX8_span 50 = .ok (.aload_n 0, 1) := by decide +kernel
theorem dX8_span_51 : decode cX8_span 51 = .ok (.getfield 14, 3) := by decide +kernel
theorem dX8_span_54 : decode cX8_span 54 = .ok (.getfield 120, 3) := by decide +kernel
theorem dX8_span_57 : decode cX8_span 57 = .ok (.iload_n 1, 1) := by decide +kernel
theorem dX8_span_58 : decode cX8_span 58 = .ok (.iaload, 1) := by decide +kernel
theorem dX8_span_59 : decode cX8_span 59 = .ok (.ireturn, 1) := by decide +kernel
theorem dX8_span_60 : decode cX8_span 60 = .ok (.aload_n 0, 1) := by decide +kernel
theorem dX8_span_61 : decode cX8_span 61 = .ok (.getfield 14, 3) := by decide +kernel
theorem dX8_span_64 : decode cX8_span 64 = .ok (.getfield 123, 3) := by decide +kernel
theorem dX8_span_67 : decode cX8_span 67 = .ok (.iload_n 1, 1) := by decide +kernel
theorem dX8_span_68 : decode cX8_span 68 = .ok (.iaload, 1) := by decide +kernel
theorem dX8_span_69 : decode cX8_span 69 = .ok (.ireturn, 1) := by decide +kernel
theorem dX8_span_70 : decode cX8_span 70 = .ok (.aload_n 0, 1) := by decide +kernel
theorem dX8_span_71 : decode cX8_span 71 = .ok (.getfield 14, 3) := by decide +kernel
theorem dX8_span_74 : decode cX8_span 74 = .ok (.getfield 126, 3) := by decide +kernel
theorem dX8_span_77 : decode cX8_span 77 = .ok (.iload_n 1, 1) := by decide +kernel
theorem dX8_span_78 : decode cX8_span 78 = .ok (.ishr, 1) := by decide +kernel
theorem dX8_span_79 : decode cX8_span 79 = .ok (.iconst 1, 1) := by decide +kernel
theorem dX8_span_80 : decode cX8_span 80 = .ok (.iand, 1) := by decide +kernel
theorem dX8_span_81 : decode cX8_span 81 = .ok (.ireturn, 1) := by decide +kernel
theorem dX8_span_82 : decode cX8_span 82 = .ok (.iconst (-1), 1) := by decide +kernel
theorem dX8_span_83 : decode cX8_span 83 = .ok (.ireturn, 1) := by decide +kernel
theorem dX8_errand_0 : decode cX8_errand 0 = .ok (.aload_n 0, 1) := by decide +kernel
theorem dX8_errand_1 : decode cX8_errand 1 = .ok (.iload_n 1, 1) := by decide +kernel
theorem dX8_errand_2 : decode cX8_errand 2 = .ok (.invokevirtual 71, 3) := by decide +kernel
theorem dX8_errand_5 : decode cX8_errand 5 = .ok (.ifCond .eq 15, 3) := by decide +kernel
theorem dX8_errand_8 : decode cX8_errand 8 = .ok (.iload_n 2, 1) := by decide +kernel
theorem dX8_errand_9 : decode cX8_errand 9 = .ok (.iconst (-1), 1) := by decide +kernel
theorem dX8_errand_10 : decode cX8_errand 10 = .ok (.if_icmp .eq 12, 3) := by decide +kernel
theorem dX8_errand_13 : decode cX8_errand 13 = .ok (.iload_n 2, 1) := by decide +kernel
theorem dX8_errand_14 : decode cX8_errand 14 = .ok (.invokestatic 59, 3) := by decide +kernel
theorem dX8_errand_17 : decode cX8_errand 17 = .ok (.ifCond .ne 5, 3) := by decide +kernel
theorem dX8_errand_20 : decode cX8_errand 20 = .ok (.iconst (-1), 1) := by decide +kernel
theorem dX8_errand_21 : decode cX8_errand 21 = .ok (.ireturn, 1) := by decide +kernel
theorem dX8_errand_22 : decode cX8_errand 22 = .ok (.aload_n 0, 1) := by decide +kernel
theorem dX8_errand_23 : decode cX8_errand 23 = .ok (.getfield 14, 3) := by decide +kernel
theorem dX8_errand_26 : decode cX8_errand 26 = .ok (.getfield 74, 3) := by decide +kernel
theorem dX8_errand_29 : decode cX8_errand 29 = .ok (.iload_n 1, 1) := by decide +kernel
theorem dX8_errand_30 : decode cX8_errand 30 = .ok (.aaload, 1) := by decide +kernel
theorem dX8_errand_31 : decode cX8_errand 31 = .ok (.astore_n 3, 1) := by decide +kernel
theorem dX8_errand_32 : decode cX8_errand 32 = .ok (.aload_n 3, 1) := by decide +kernel
theorem dX8_errand_33 : decode cX8_errand 33 = .ok (.getfield 93, 3) := by decide +kernel
theorem dX8_errand_36 : decode cX8_errand 36 = .ok (.istore 4, 2) := by decide +kernel
theorem dX8_errand_38 : decode cX8_errand 38 = .ok (.aload_n 3, 1) := by decide +kernel
theorem dX8_errand_39 : decode cX8_errand 39 = .ok (.iload_n 2, 1) := by decide +kernel
theorem dX8_errand_40 : decode cX8_errand 40 = .ok (.iconst (-1), 1) := by decide +kernel
theorem dX8_errand_41 : decode cX8_errand 41 = .ok (.if_icmp .ne 8, 3) := by decide +kernel
theorem dX8_errand_44 : decode cX8_errand 44 = .ok (.bipush (-5), 2) := by decide +kernel
theorem dX8_errand_46 : decode cX8_errand 46 = .ok (.goto 4, 3) := by decide +kernel
theorem dX8_errand_49 : decode cX8_errand 49 = .ok (.iload_n 2, 1) := by decide +kernel
theorem dX8_errand_50 : decode cX8_errand 50 = .ok (.putfield 93, 3) := by decide +kernel
theorem dX8_errand_53 : decode cX8_errand 53 = .ok (.iload 4, 2) := by decide +kernel
theorem dX8_errand_55 : decode cX8_errand 55 = .ok (.ireturn, 1) := by decide +kernel
theorem dX8_cross_0 : decode cX8_cross 0 = .ok (.aload_n 0, 1) := by decide +kernel
theorem dX8_cross_1 : decode cX8_cross 1 = .ok (.iload_n 1, 1) := by decide +kernel
theorem dX8_cross_2 : decode cX8_cross 2 = .ok (.invokevirtual 71, 3) := by decide +kernel
theorem dX8_cross_5 : decode cX8_cross 5 = .ok (.ifCond .eq 11, 3) := by decide +kernel
theorem dX8_cross_8 : decode cX8_cross 8 = .ok (.aload_n 0, 1) := by decide +kernel
theorem dX8_cross_9 : decode cX8_cross 9 = .ok (.iload_n 2, 1) := by decide +kernel
theorem dX8_cross_10 : decode cX8_cross 10 = .ok (.invokevirtual 113, 3) := by decide +kernel
theorem dX8_cross_13 : decode cX8_cross 13 = .ok (.ifCond .ne 5, 3) := by decide +kernel
theorem dX8_cross_16 : decode cX8_cross 16 = .ok (.iconst (-1), 1) := by decide +kernel
theorem dX8_cross_17 : decode cX8_cross 17 = .ok (.ireturn, 1) := by decide +kernel
theorem dX8_cross_18 : decode cX8_cross 18 = .ok (.aload_n 0, 1) := by decide +kernel
theorem dX8_cross_19 : decode cX8_cross 19 = .ok (.iload_n 1, 1) := by decide +kernel
theorem dX8_cross_20 : decode cX8_cross 20 = .ok (.invokevirtual 107, 3) := by decide +kernel
theorem dX8_cross_23 : decode cX8_cross 23 = .ok (.iload_n 2, 1) := by decide +kernel
theorem dX8_cross_24 : decode cX8_cross 24 = .ok (.ishr, 1) := by decide +kernel
theorem dX8_cross_25 : decode cX8_cross 25 = .ok (.iconst 1, 1) := by decide +kernel
theorem dX8_cross_26 : decode cX8_cross 26 = .ok (.iand, 1) := by decide +kernel
theorem dX8_cross_27 : decode cX8_cross 27 = .ok (.ifCond .ne 6, 3) := by decide +kernel
theorem dX8_cross_30 : decode cX8_cross 30 = .ok (.bipush (-3), 2) := by decide +kernel
theorem dX8_cross_32 : decode cX8_cross 32 = .ok (.ireturn, 1) := by decide +kernel
theorem dX8_cross_33 : decode cX8_cross 33 = .ok (.aload_n 0, 1) := by decide +kernel
theorem dX8_cross_34 : decode cX8_cross 34 = .ok (.getfield 14, 3) := by decide +kernel
theorem dX8_cross_37 : decode cX8_cross 37 = .ok (.iload_n 1, 1) := by decide +kernel
theorem dX8_cross_38 : decode cX8_cross 38 = .ok (.iload_n 2, 1) := by decide +kernel
theorem dX8_cross_39 : decode cX8_cross 39 = .ok (.invokevirtual 129, 3) := by decide +kernel
theorem dX8_cross_42 : decode cX8_cross 42 = .ok (.aload_n 0, 1) := by decide +kernel
theorem dX8_cross_43 : decode cX8_cross 43 = .ok (.getfield 14, 3) := by decide +kernel
theorem dX8_cross_46 : decode cX8_cross 46 = .ok (.getfield 74, 3) := by decide +kernel
theorem dX8_cross_49 : decode cX8_cross 49 = .ok (.iload_n 1, 1) := by decide +kernel
theorem dX8_cross_50 : decode cX8_cross 50 = .ok (.aaload, 1) := by decide +kernel
theorem dX8_cross_51 : decode cX8_cross 51 = .ok (.getfield 87, 3) := by decide +kernel
theorem dX8_cross_54 : decode cX8_cross 54 = .ok (.ireturn, 1) := by decide +kernel
theorem dX8_lose_0 : decode cX8_lose 0 = .ok (.aload_n 0, 1) := by decide +kernel
theorem dX8_lose_1 : decode cX8_lose 1 = .ok (.iload_n 1, 1) := by decide +kernel
theorem dX8_lose_2 : decode cX8_lose 2 = .ok (.invokevirtual 113, 3) := by decide +kernel
theorem dX8_lose_5 : decode cX8_lose 5 = .ok (.ifCond .ne 5, 3) := by decide +kernel
theorem dX8_lose_8 : decode cX8_lose 8 = .ok (.iconst (-1), 1) := by decide +kernel
theorem dX8_lose_9 : decode cX8_lose 9 = .ok (.ireturn, 1) := by decide +kernel
theorem dX8_lose_10 : decode cX8_lose 10 = .ok (.aload_n 0, 1) := by decide +kernel
theorem dX8_lose_11 : decode cX8_lose 11 = .ok (.getfield 14, 3) := by decide +kernel
theorem dX8_lose_14 : decode cX8_lose 14 = .ok (.getfield 126, 3) := by decide +kernel
theorem dX8_lose_17 : decode cX8_lose 17 = .ok (.iload_n 1, 1) := by decide +kernel
theorem dX8_lose_18 : decode cX8_lose 18 = .ok (.ishr, 1) := by decide +kernel
theorem dX8_lose_19 : decode cX8_lose 19 = .ok (.iconst 1, 1) := by decide +kernel
theorem dX8_lose_20 : decode cX8_lose 20 = .ok (.iand, 1) := by decide +kernel
theorem dX8_lose_21 : decode cX8_lose 21 = .ok (.istore_n 3, 1) := by decide +kernel
theorem dX8_lose_22 : decode cX8_lose 22 = .ok (.aload_n 0, 1) := by decide +kernel
theorem dX8_lose_23 : decode cX8_lose 23 = .ok (.getfield 14, 3) := by decide +kernel
theorem dX8_lose_26 : decode cX8_lose 26 = .ok (.iload_n 1, 1) := by decide +kernel
theorem dX8_lose_27 : decode cX8_lose 27 = .ok (.iload_n 2, 1) := by decide +kernel
theorem dX8_lose_28 : decode cX8_lose 28 = .ok (.invokevirtual 133, 3) := by decide +kernel
theorem dX8_lose_31 : decode cX8_lose 31 = .ok (.iload_n 3, 1) := by decide +kernel
theorem dX8_lose_32 : decode cX8_lose 32 = .ok (.ireturn, 1) := by decide +kernel
theorem dX8_swap_0 : decode cX8_swap 0 = .ok (.aload_n 0, 1) := by decide +kernel
theorem dX8_swap_1 : decode cX8_swap 1 = .ok (.iload_n 1, 1) := by decide +kernel
theorem dX8_swap_2 : decode cX8_swap 2 = .ok (.invokevirtual 113, 3) := by decide +kernel
theorem dX8_swap_5 : decode cX8_swap 5 = .ok (.ifCond .eq 11, 3) := by decide +kernel
theorem dX8_swap_8 : decode cX8_swap 8 = .ok (.aload_n 0, 1) := by decide +kernel
theorem dX8_swap_9 : decode cX8_swap 9 = .ok (.iload_n 2, 1) := by decide +kernel
theorem dX8_swap_10 : decode cX8_swap 10 = .ok (.invokevirtual 113, 3) := by decide +kernel
theorem dX8_swap_13 : decode cX8_swap 13 = .ok (.ifCond .ne 5, 3) := by decide +kernel
theorem dX8_swap_16 : decode cX8_swap 16 = .ok (.iconst (-1), 1) := by decide +kernel
theorem dX8_swap_17 : decode cX8_swap 17 = .ok (.ireturn, 1) := by decide +kernel
theorem dX8_swap_18 : decode cX8_swap 18 = .ok (.aload_n 0, 1) := by decide +kernel
theorem dX8_swap_19 : decode cX8_swap 19 = .ok (.getfield 14, 3) := by decide +kernel
theorem dX8_swap_22 : decode cX8_swap 22 = .ok (.iload_n 1, 1) := by decide +kernel
theorem dX8_swap_23 : decode cX8_swap 23 = .ok (.iload_n 2, 1) := by decide +kernel
theorem dX8_swap_24 : decode cX8_swap 24 = .ok (.invokevirtual 137, 3) := by decide +kernel
theorem dX8_swap_27 : decode cX8_swap 27 = .ok (.ifCond .ne 6, 3) := by decide +kernel
theorem dX8_swap_30 : decode cX8_swap 30 = .ok (.bipush (-3), 2) := by decide +kernel
theorem dX8_swap_32 : decode cX8_swap 32 = .ok (.ireturn, 1) := by decide +kernel
theorem dX8_swap_33 : decode cX8_swap 33 = .ok (.aload_n 0, 1) := by decide +kernel
theorem dX8_swap_34 : decode cX8_swap 34 = .ok (.getfield 14, 3) := by decide +kernel
theorem dX8_swap_37 : decode cX8_swap 37 = .ok (.iload_n 1, 1) := by decide +kernel
theorem dX8_swap_38 : decode cX8_swap 38 = .ok (.iload_n 2, 1) := by decide +kernel
theorem dX8_swap_39 : decode cX8_swap 39 = .ok (.invokevirtual 141, 3) := by decide +kernel
theorem dX8_swap_42 : decode cX8_swap 42 = .ok (.aload_n 0, 1) := by decide +kernel
theorem dX8_swap_43 : decode cX8_swap 43 = .ok (.getfield 14, 3) := by decide +kernel
theorem dX8_swap_46 : decode cX8_swap 46 = .ok (.getfield 123, 3) := by decide +kernel
theorem dX8_swap_49 : decode cX8_swap 49 = .ok (.iload_n 1, 1) := by decide +kernel
theorem dX8_swap_50 : decode cX8_swap 50 = .ok (.iaload, 1) := by decide +kernel
theorem dX8_swap_51 : decode cX8_swap 51 = .ok (.ireturn, 1) := by decide +kernel
theorem dX8_row_0 : decode cX8_row 0 = .ok (.aload_n 0, 1) := by decide +kernel
theorem dX8_row_1 : decode cX8_row 1 = .ok (.iload_n 1, 1) := by decide +kernel
theorem dX8_row_2 : decode cX8_row 2 = .ok (.invokevirtual 71, 3) := by decide +kernel
theorem dX8_row_5 : decode cX8_row 5 = .ok (.ifCond .eq 12, 3) := by decide +kernel
theorem dX8_row_8 : decode cX8_row 8 = .ok (.iload_n 2, 1) := by decide +kernel
theorem dX8_row_9 : decode cX8_row 9 = .ok (.ifCond .lt 8, 3) := by decide +kernel
theorem dX8_row_12 : decode cX8_row 12 = .ok (.iload_n 2, 1) := by decide +kernel
theorem dX8_row_13 : decode cX8_row 13 = .ok (.iconst 4, 1) := by decide +kernel
theorem dX8_row_14 : decode cX8_row 14 = .ok (.if_icmp .lt 5, 3) := by decide +kernel
theorem dX8_row_17 : decode cX8_row 17 = .ok (.iconst (-1), 1) := by decide +kernel
theorem dX8_row_18 : decode cX8_row 18 = .ok (.ireturn, 1) := by decide +kernel
theorem dX8_row_19 : decode cX8_row 19 = .ok (.iload_n 3, 1) := by decide +kernel
theorem dX8_row_20 : decode cX8_row 20 = .ok (.ifCond .lt 9, 3) := by decide +kernel
theorem dX8_row_23 : decode cX8_row 23 = .ok (.iload_n 3, 1) := by decide +kernel
theorem dX8_row_24 : decode cX8_row 24 = .ok (.bipush 9, 2) := by decide +kernel
theorem dX8_row_26 : decode cX8_row 26 = .ok (.if_icmp .le 6, 3) := by decide +kernel
theorem dX8_row_29 : decode cX8_row 29 = .ok (.bipush (-2), 2) := by decide +kernel
theorem dX8_row_31 : decode cX8_row 31 = .ok (.ireturn, 1) := by decide +kernel
theorem dX8_row_32 : decode cX8_row 32 = .ok (.aload_n 0, 1) := by decide +kernel
theorem dX8_row_33 : decode cX8_row 33 = .ok (.getfield 14, 3) := by decide +kernel
theorem dX8_row_36 : decode cX8_row 36 = .ok (.getfield 74, 3) := by decide +kernel
theorem dX8_row_39 : decode cX8_row 39 = .ok (.iload_n 1, 1) := by decide +kernel
theorem dX8_row_40 : decode cX8_row 40 = .ok (.aaload, 1) := by decide +kernel
theorem dX8_row_41 : decode cX8_row 41 = .ok (.astore 4, 2) := by decide +kernel
theorem dX8_row_43 : decode cX8_row 43 = .ok (.aload 4, 2) := by decide +kernel
theorem dX8_row_45 : decode cX8_row 45 = .ok (.getfield 78, 3) := by decide +kernel
theorem dX8_row_48 : decode cX8_row 48 = .ok (.bipush 6, 2) := by decide +kernel
theorem dX8_row_50 : decode cX8_row 50 = .ok (.if_icmp .eq 6, 3) := by decide +kernel
theorem dX8_row_53 : decode cX8_row 53 = .ok (.bipush (-3), 2) := by decide +kernel
theorem dX8_row_55 : decode cX8_row 55 = .ok (.ireturn, 1) := by decide +kernel
theorem dX8_row_56 : decode cX8_row 56 = .ok (.aload 4, 2) := by decide +kernel
theorem dX8_row_58 : decode cX8_row 58 = .ok (.getfield 144, 3) := by decide +kernel
theorem dX8_row_61 : decode cX8_row 61 = .ok (.iload_n 2, 1) := by decide +kernel
theorem dX8_row_62 : decode cX8_row 62 = .ok (.iaload, 1) := by decide +kernel
theorem dX8_row_63 : decode cX8_row 63 = .ok (.istore 5, 2) := by decide +kernel
theorem dX8_row_65 : decode cX8_row 65 = .ok (.aload 4, 2) := by decide +kernel
theorem dX8_row_67 : decode cX8_row 67 = .ok (.getfield 144, 3) := by decide +kernel
theorem dX8_row_70 : decode cX8_row 70 = .ok (.iload_n 2, 1) := by decide +kernel
theorem dX8_row_71 : decode cX8_row 71 = .ok (.iload_n 3, 1) := by decide +kernel
theorem dX8_row_72 : decode cX8_row 72 = .ok (.iastore, 1) := by decide +kernel
theorem dX8_row_73 : decode cX8_row 73 = .ok (.iload 5, 2) := by decide +kernel
theorem dX8_row_75 : decode cX8_row 75 = .ok (.ireturn, 1) := by decide +kernel
theorem dX8_feed_0 : decode cX8_feed 0 = .ok (.iload_n 1, 1) := by decide +kernel
theorem dX8_feed_1 : decode cX8_feed 1 = .ok (.ifCond .lt 9, 3) := by decide +kernel
theorem dX8_feed_4 : decode cX8_feed 4 = .ok (.iload_n 1, 1) := by decide +kernel
theorem dX8_feed_5 : decode cX8_feed 5 = .ok (.bipush 127, 2) := by decide +kernel
theorem dX8_feed_7 : decode cX8_feed 7 = .ok (.if_icmp .le 6, 3) := by decide +kernel
theorem dX8_feed_10 : decode cX8_feed 10 = .ok (.bipush (-2), 2) := by decide +kernel
theorem dX8_feed_12 : decode cX8_feed 12 = .ok (.ireturn, 1) := by decide +kernel
theorem dX8_feed_13 : decode cX8_feed 13 = .ok (.aload_n 0, 1) := by decide +kernel
theorem dX8_feed_14 : decode cX8_feed 14 = .ok (.getfield 34, 3) := by decide +kernel
theorem dX8_feed_17 : decode cX8_feed 17 = .ok (.iload_n 1, 1) := by decide +kernel
theorem dX8_feed_18 : decode cX8_feed 18 = .ok (.invokevirtual 147, 3) := by decide +kernel
theorem dX8_feed_21 : decode cX8_feed 21 = .ok (.ireturn, 1) := by decide +kernel
theorem dX8_city_0 : decode cX8_city 0 = .ok (.aload_n 0, 1) := by decide +kernel
theorem dX8_city_1 : decode cX8_city 1 = .ok (.getfield 150, 3) := by decide +kernel
theorem dX8_city_4 : decode cX8_city 4 = .ok (.bipush 6, 2) := by decide +kernel
theorem dX8_city_6 : decode cX8_city 6 = .ok (.if_icmp .lt 6, 3) := by decide +kernel
theorem dX8_city_9 : decode cX8_city 9 = .ok (.bipush (-4), 2) := by decide +kernel
theorem dX8_city_11 : decode cX8_city 11 = .ok (.ireturn, 1) := by decide +kernel
theorem dX8_city_12 : decode cX8_city 12 = .ok (.aload_n 0, 1) := by decide +kernel
theorem dX8_city_13 : decode cX8_city 13 = .ok (.getfield 40, 3) := by decide +kernel
theorem dX8_city_16 : decode cX8_city 16 = .ok (.aload_n 0, 1) := by decide +kernel
theorem dX8_city_17 : decode cX8_city 17 = .ok (.getfield 150, 3) := by decide +kernel
theorem dX8_city_20 : decode cX8_city 20 = .ok (.aaload, 1) := by decide +kernel
theorem dX8_city_21 : decode cX8_city 21 = .ok (.astore_n 1, 1) := by decide +kernel
theorem dX8_city_22 : decode cX8_city 22 = .ok (.aload_n 0, 1) := by decide +kernel
theorem dX8_city_23 : decode cX8_city 23 = .ok (.getfield 34, 3) := by decide +kernel
theorem dX8_city_26 : decode cX8_city 26 = .ok (.aload_n 1, 1) := by decide +kernel
theorem dX8_city_27 : decode cX8_city 27 = .ok (.invokevirtual 153, 3) := by decide +kernel
theorem dX8_city_30 : decode cX8_city 30 = .ok (.istore_n 2, 1) := by decide +kernel
theorem dX8_city_31 : decode cX8_city 31 = .ok (.aload_n 0, 1) := by decide +kernel
theorem dX8_city_32 : decode cX8_city 32 = .ok (.getfield 34, 3) := by decide +kernel
theorem dX8_city_35 : decode cX8_city 35 = .ok (.iconst 0, 1) := by decide +kernel
theorem dX8_city_36 : decode cX8_city 36 = .ok (.putfield 157, 3) := by decide +kernel
theorem dX8_city_39 : decode cX8_city 39 = .ok (.iload_n 2, 1) := by decide +kernel
theorem dX8_city_40 : decode cX8_city 40 = .ok (.ifCond .lt 8, 3) := by decide +kernel
theorem dX8_city_43 : decode cX8_city 43 = .ok (.bipush (-10), 2) := by decide +kernel
theorem dX8_city_45 : decode cX8_city 45 = .ok (.iload_n 2, 1) := by decide +kernel
theorem dX8_city_46 : decode cX8_city 46 = .ok (.isub, 1) := by decide +kernel
theorem dX8_city_47 : decode cX8_city 47 = .ok (.ireturn, 1) := by decide +kernel
theorem dX8_city_48 : decode cX8_city 48 = .ok (.aload_n 0, 1) := by decide +kernel
theorem dX8_city_49 : decode cX8_city 49 = .ok (.getfield 14, 3) := by decide +kernel
theorem dX8_city_52 : decode cX8_city 52 = .ok (.aload_n 1, 1) := by decide +kernel
theorem dX8_city_53 : decode cX8_city 53 = .ok (.putfield 160, 3) := by decide +kernel
theorem dX8_city_56 : decode cX8_city 56 = .ok (.aload_n 0, 1) := by decide +kernel
theorem dX8_city_57 : decode cX8_city 57 = .ok (.dup, 1) := by decide +kernel
theorem dX8_city_58 : decode cX8_city 58 = .ok (.getfield 150, 3) := by decide +kernel
theorem dX8_city_61 : decode cX8_city 61 = .ok (.dup_x1, 1) := by decide +kernel
theorem dX8_city_62 : decode cX8_city 62 = .ok (.iconst 1, 1) := by decide +kernel
theorem dX8_city_63 : decode cX8_city 63 = .ok (.iadd, 1) := by decide +kernel
theorem dX8_city_64 : decode cX8_city 64 = .ok (.putfield 150, 3) := by decide +kernel
theorem dX8_city_67 : decode cX8_city 67 = .ok (.ireturn, 1) := by decide +kernel
theorem dX8_told_0 : decode cX8_told 0 = .ok (.iload_n 1, 1) := by decide +kernel
theorem dX8_told_1 : decode cX8_told 1 = .ok (.tableswitch 75 0 4 #[35, 43, 51, 59, 67], 35) := by decide +kernel
theorem dX8_told_36 : decode cX8_told 36 = .ok (.aload_n 0, 1) := by decide +kernel
theorem dX8_told_37 : decode cX8_told 37 = .ok (.getfield 14, 3) := by decide +kernel
theorem dX8_told_40 : decode cX8_told 40 = .ok (.getfield 164, 3) := by decide +kernel
theorem dX8_told_43 : decode cX8_told 43 = .ok (.ireturn, 1) := by decide +kernel
theorem dX8_told_44 : decode cX8_told 44 = .ok (.aload_n 0, 1) := by decide +kernel
theorem dX8_told_45 : decode cX8_told 45 = .ok (.getfield 14, 3) := by decide +kernel
theorem dX8_told_48 : decode cX8_told 48 = .ok (.invokevirtual 167, 3) := by decide +kernel
theorem dX8_told_51 : decode cX8_told 51 = .ok (.ireturn, 1) := by decide +kernel
theorem dX8_told_52 : decode cX8_told 52 = .ok (.aload_n 0, 1) := by decide +kernel
theorem dX8_told_53 : decode cX8_told 53 = .ok (.getfield 14, 3) := by decide +kernel
theorem dX8_told_56 : decode cX8_told 56 = .ok (.invokevirtual 171, 3) := by decide +kernel
theorem dX8_told_59 : decode cX8_told 59 = .ok (.ireturn, 1) := by decide +kernel
theorem dX8_told_60 : decode cX8_told 60 = .ok (.aload_n 0, 1) := by decide +kernel
theorem dX8_told_61 : decode cX8_told 61 = .ok (.getfield 14, 3) := by decide +kernel
theorem dX8_told_64 : decode cX8_told 64 = .ok (.invokevirtual 174, 3) := by decide +kernel
theorem dX8_told_67 : decode cX8_told 67 = .ok (.ireturn, 1) := by decide +kernel
theorem dX8_told_68 : decode cX8_told 68 = .ok (.aload_n 0, 1) := by decide +kernel
theorem dX8_told_69 : decode cX8_told 69 = .ok (.getfield 14, 3) := by decide +kernel
theorem dX8_told_72 : decode cX8_told 72 = .ok (.getfield 126, 3) := by decide +kernel
theorem dX8_told_75 : decode cX8_told 75 = .ok (.ireturn, 1) := by decide +kernel
theorem dX8_told_76 : decode cX8_told 76 = .ok (.iconst (-1), 1) := by decide +kernel
theorem dX8_told_77 : decode cX8_told 77 = .ok (.ireturn, 1) := by decide +kernel
theorem dX8_pass_0 : decode cX8_pass 0 = .ok (.iload_n 1, 1) := by decide +kernel
theorem dX8_pass_1 : decode cX8_pass 1 = .ok (.ifCond .lt 9, 3) := by decide +kernel
theorem dX8_pass_4 : decode cX8_pass 4 = .ok (.iload_n 1, 1) := by decide +kernel
theorem dX8_pass_5 : decode cX8_pass 5 = .ok (.bipush 12, 2) := by decide +kernel
theorem dX8_pass_7 : decode cX8_pass 7 = .ok (.if_icmp .le 6, 3) := by decide +kernel
theorem dX8_pass_10 : decode cX8_pass 10 = .ok (.bipush (-2), 2) := by decide +kernel
theorem dX8_pass_12 : decode cX8_pass 12 = .ok (.ireturn, 1) := by decide +kernel
theorem dX8_pass_13 : decode cX8_pass 13 = .ok (.aload_n 0, 1) := by decide +kernel
theorem dX8_pass_14 : decode cX8_pass 14 = .ok (.getfield 14, 3) := by decide +kernel
theorem dX8_pass_17 : decode cX8_pass 17 = .ok (.getfield 164, 3) := by decide +kernel
theorem dX8_pass_20 : decode cX8_pass 20 = .ok (.iload_n 1, 1) := by decide +kernel
theorem dX8_pass_21 : decode cX8_pass 21 = .ok (.iadd, 1) := by decide +kernel
theorem dX8_pass_22 : decode cX8_pass 22 = .ok (.sipush 9999, 3) := by decide +kernel
theorem dX8_pass_25 : decode cX8_pass 25 = .ok (.if_icmp .le 6, 3) := by decide +kernel
theorem dX8_pass_28 : decode cX8_pass 28 = .ok (.bipush (-3), 2) := by decide +kernel
theorem dX8_pass_30 : decode cX8_pass 30 = .ok (.ireturn, 1) := by decide +kernel
theorem dX8_pass_31 : decode cX8_pass 31 = .ok (.aload_n 0, 1) := by decide +kernel
theorem dX8_pass_32 : decode cX8_pass 32 = .ok (.aload_n 0, 1) := by decide +kernel
theorem dX8_pass_33 : decode cX8_pass 33 = .ok (.getfield 14, 3) := by decide +kernel
theorem dX8_pass_36 : decode cX8_pass 36 = .ok (.iload_n 1, 1) := by decide +kernel
theorem dX8_pass_37 : decode cX8_pass 37 = .ok (.iconst (-1), 1) := by decide +kernel
theorem dX8_pass_38 : decode cX8_pass 38 = .ok (.invokevirtual 177, 3) := by decide +kernel
theorem dX8_pass_41 : decode cX8_pass 41 = .ok (.aload_n 0, 1) := by decide +kernel
theorem dX8_pass_42 : decode cX8_pass 42 = .ok (.getfield 14, 3) := by decide +kernel
theorem dX8_pass_45 : decode cX8_pass 45 = .ok (.getfield 164, 3) := by decide +kernel
theorem dX8_pass_48 : decode cX8_pass 48 = .ok (.ireturn, 1) := by decide +kernel
theorem dX8_on_0 : decode cX8_on 0 = .ok (.iload_n 2, 1) := by decide +kernel
theorem dX8_on_1 : decode cX8_on 1 = .ok (.bipush 10, 2) := by decide +kernel
theorem dX8_on_3 : decode cX8_on 3 = .ok (.irem, 1) := by decide +kernel
theorem dX8_on_4 : decode cX8_on 4 = .ok (.istore_n 3, 1) := by decide +kernel
theorem dX8_on_5 : decode cX8_on 5 = .ok (.iload_n 2, 1) := by decide +kernel
theorem dX8_on_6 : decode cX8_on 6 = .ok (.bipush 10, 2) := by decide +kernel
theorem dX8_on_8 : decode cX8_on 8 = .ok (.if_icmp .lt 21, 3) := by decide +kernel
theorem dX8_on_11 : decode cX8_on 11 = .ok (.iload_n 2, 1) := by decide +kernel
theorem dX8_on_12 : decode cX8_on 12 = .ok (.bipush 40, 2) := by decide +kernel
theorem dX8_on_14 : decode cX8_on 14 = .ok (.if_icmp .ge 15, 3) := by decide +kernel
theorem dX8_on_17 : decode cX8_on 17 = .ok (.aload_n 0, 1) := by decide +kernel
theorem dX8_on_18 : decode cX8_on 18 = .ok (.iload_n 3, 1) := by decide +kernel
theorem dX8_on_19 : decode cX8_on 19 = .ok (.invokevirtual 71, 3) := by decide +kernel
theorem dX8_on_22 : decode cX8_on 22 = .ok (.ifCond .eq 7, 3) := by decide +kernel
theorem dX8_on_25 : decode cX8_on 25 = .ok (.iconst 1, 1) := by decide +kernel
theorem dX8_on_26 : decode cX8_on 26 = .ok (.goto 4, 3) := by decide +kernel
theorem dX8_on_29 : decode cX8_on 29 = .ok (.iconst 0, 1) := by decide +kernel
theorem dX8_on_30 : decode cX8_on 30 = .ok (.istore 4, 2) := by decide +kernel
theorem dX8_on_32 : decode cX8_on 32 = .ok (.iload_n 2, 1) := by decide +kernel
theorem dX8_on_33 : decode cX8_on 33 = .ok (.ifCond .eq 10, 3) := by decide +kernel
theorem dX8_on_36 : decode cX8_on 36 = .ok (.iload 4, 2) := by decide +kernel
theorem dX8_on_38 : decode cX8_on 38 = .ok (.ifCond .ne 5, 3) := by decide +kernel
theorem dX8_on_41 : decode cX8_on 41 = .ok (.iconst (-1), 1) := by decide +kernel
theorem dX8_on_42 : decode cX8_on 42 = .ok (.ireturn, 1) := by decide +kernel
theorem dX8_on_43 : decode cX8_on 43 = .ok (.iload_n 1, 1) := by decide +kernel
theorem dX8_on_44 : decode cX8_on 44 = .ok (.ifCond .lt 9, 3) := by decide +kernel
theorem dX8_on_47 : decode cX8_on 47 = .ok (.iload_n 1, 1) := by decide +kernel
theorem dX8_on_48 : decode cX8_on 48 = .ok (.bipush 12, 2) := by decide +kernel
theorem dX8_on_50 : decode cX8_on 50 = .ok (.if_icmp .le 6, 3) := by decide +kernel
theorem dX8_on_53 : decode cX8_on 53 = .ok (.bipush (-2), 2) := by decide +kernel
theorem dX8_on_55 : decode cX8_on 55 = .ok (.ireturn, 1) := by decide +kernel
theorem dX8_on_56 : decode cX8_on 56 = .ok (.aload_n 0, 1) := by decide +kernel
theorem dX8_on_57 : decode cX8_on 57 = .ok (.getfield 21, 3) := by decide +kernel
theorem dX8_on_60 : decode cX8_on 60 = .ok (.aload_n 0, 1) := by decide +kernel
theorem dX8_on_61 : decode cX8_on 61 = .ok (.getfield 14, 3) := by decide +kernel
theorem dX8_on_64 : decode cX8_on 64 = .ok (.invokevirtual 181, 3) := by decide +kernel
theorem dX8_on_67 : decode cX8_on 67 = .ok (.aload_n 0, 1) := by decide +kernel
theorem dX8_on_68 : decode cX8_on 68 = .ok (.aload_n 0, 1) := by decide +kernel
theorem dX8_on_69 : decode cX8_on 69 = .ok (.getfield 21, 3) := by decide +kernel
theorem dX8_on_72 : decode cX8_on 72 = .ok (.iload_n 1, 1) := by decide +kernel
theorem dX8_on_73 : decode cX8_on 73 = .ok (.iload_n 2, 1) := by decide +kernel
theorem dX8_on_74 : decode cX8_on 74 = .ok (.ifCond .ne 7, 3) := by decide +kernel
theorem dX8_on_77 : decode cX8_on 77 = .ok (.iconst (-1), 1) := by decide +kernel
theorem dX8_on_78 : decode cX8_on 78 = .ok (.goto 6, 3) := by decide +kernel
theorem dX8_on_81 : decode cX8_on 81 = .ok (.iconst 1, 1) := by decide +kernel
theorem dX8_on_82 : decode cX8_on 82 = .ok (.iload_n 3, 1) := by decide +kernel
theorem dX8_on_83 : decode cX8_on 83 = .ok (.ishl, 1) := by decide +kernel
theorem dX8_on_84 : decode cX8_on 84 = .ok (.invokevirtual 177, 3) := by decide +kernel
theorem dX8_on_87 : decode cX8_on 87 = .ok (.iload_n 2, 1) := by decide +kernel
theorem dX8_on_88 : decode cX8_on 88 = .ok (.bipush 10, 2) := by decide +kernel
theorem dX8_on_90 : decode cX8_on 90 = .ok (.idiv, 1) := by decide +kernel
theorem dX8_on_91 : decode cX8_on 91 = .ok (.tableswitch 64 1 3 #[25, 38, 51], 25) := by decide +kernel
theorem dX8_on_116 : decode cX8_on 116 = .ok (.aload_n 0, 1) := by decide +kernel
theorem dX8_on_117 : decode cX8_on 117 = .ok (.getfield 21, 3) := by decide +kernel
theorem dX8_on_120 : decode cX8_on 120 = .ok (.getfield 74, 3) := by decide +kernel
theorem dX8_on_123 : decode cX8_on 123 = .ok (.iload_n 3, 1) := by decide +kernel
theorem dX8_on_124 : decode cX8_on 124 = .ok (.aaload, 1) := by decide +kernel
theorem dX8_on_125 : decode cX8_on 125 = .ok (.getfield 87, 3) := by decide +kernel
theorem dX8_on_128 : decode cX8_on 128 = .ok (.ireturn, 1) := by decide +kernel
theorem dX8_on_129 : decode cX8_on 129 = .ok (.aload_n 0, 1) := by decide +kernel
theorem dX8_on_130 : decode cX8_on 130 = .ok (.getfield 21, 3) := by decide +kernel
theorem dX8_on_133 : decode cX8_on 133 = .ok (.getfield 74, 3) := by decide +kernel
theorem dX8_on_136 : decode cX8_on 136 = .ok (.iload_n 3, 1) := by decide +kernel
theorem dX8_on_137 : decode cX8_on 137 = .ok (.aaload, 1) := by decide +kernel
theorem dX8_on_138 : decode cX8_on 138 = .ok (.getfield 90, 3) := by decide +kernel
theorem dX8_on_141 : decode cX8_on 141 = .ok (.ireturn, 1) := by decide +kernel
theorem dX8_on_142 : decode cX8_on 142 = .ok (.aload_n 0, 1) := by decide +kernel
theorem dX8_on_143 : decode cX8_on 143 = .ok (.getfield 21, 3) := by decide +kernel
theorem dX8_on_146 : decode cX8_on 146 = .ok (.getfield 74, 3) := by decide +kernel
theorem dX8_on_149 : decode cX8_on 149 = .ok (.iload_n 3, 1) := by decide +kernel
theorem dX8_on_150 : decode cX8_on 150 = .ok (.aaload, 1) := by decide +kernel
theorem dX8_on_151 : decode cX8_on 151 = .ok (.getfield 96, 3) := by decide +kernel
theorem dX8_on_154 : decode cX8_on 154 = .ok (.ireturn, 1) := by decide +kernel
theorem dX8_on_155 : decode cX8_on 155 = .ok (.aload_n 0, 1) := by decide +kernel
theorem dX8_on_156 : decode cX8_on 156 = .ok (.getfield 21, 3) := by decide +kernel
theorem dX8_on_159 : decode cX8_on 159 = .ok (.invokevirtual 171, 3) := by decide +kernel
theorem dX8_on_162 : decode cX8_on 162 = .ok (.ireturn, 1) := by decide +kernel
theorem dX8_way_0 : decode cX8_way 0 = .ok (.aload_n 0, 1) := by decide +kernel
theorem dX8_way_1 : decode cX8_way 1 = .ok (.iload_n 1, 1) := by decide +kernel
theorem dX8_way_2 : decode cX8_way 2 = .ok (.invokevirtual 71, 3) := by decide +kernel
theorem dX8_way_5 : decode cX8_way 5 = .ok (.ifCond .eq 21, 3) := by decide +kernel
theorem dX8_way_8 : decode cX8_way 8 = .ok (.iload_n 2, 1) := by decide +kernel
theorem dX8_way_9 : decode cX8_way 9 = .ok (.invokestatic 59, 3) := by decide +kernel
theorem dX8_way_12 : decode cX8_way 12 = .ok (.ifCond .eq 14, 3) := by decide +kernel
theorem dX8_way_15 : decode cX8_way 15 = .ok (.iload_n 3, 1) := by decide +kernel
theorem dX8_way_16 : decode cX8_way 16 = .ok (.iconst (-1), 1) := by decide +kernel
theorem dX8_way_17 : decode cX8_way 17 = .ok (.if_icmp .lt 9, 3) := by decide +kernel
theorem dX8_way_20 : decode cX8_way 20 = .ok (.iload_n 3, 1) := by decide +kernel
theorem dX8_way_21 : decode cX8_way 21 = .ok (.bipush 12, 2) := by decide +kernel
theorem dX8_way_23 : decode cX8_way 23 = .ok (.if_icmp .lt 5, 3) := by decide +kernel
theorem dX8_way_26 : decode cX8_way 26 = .ok (.iconst (-1), 1) := by decide +kernel
theorem dX8_way_27 : decode cX8_way 27 = .ok (.ireturn, 1) := by decide +kernel
theorem dX8_way_28 : decode cX8_way 28 = .ok (.aload_n 0, 1) := by decide +kernel
theorem dX8_way_29 : decode cX8_way 29 = .ok (.getfield 27, 3) := by decide +kernel
theorem dX8_way_32 : decode cX8_way 32 = .ok (.aload_n 0, 1) := by decide +kernel
theorem dX8_way_33 : decode cX8_way 33 = .ok (.getfield 14, 3) := by decide +kernel
theorem dX8_way_36 : decode cX8_way 36 = .ok (.iload_n 1, 1) := by decide +kernel
theorem dX8_way_37 : decode cX8_way 37 = .ok (.iload_n 2, 1) := by decide +kernel
theorem dX8_way_38 : decode cX8_way 38 = .ok (.invokevirtual 185, 3) := by decide +kernel
theorem dX8_way_41 : decode cX8_way 41 = .ok (.istore 4, 2) := by decide +kernel
theorem dX8_way_43 : decode cX8_way 43 = .ok (.iload_n 3, 1) := by decide +kernel
theorem dX8_way_44 : decode cX8_way 44 = .ok (.iconst (-1), 1) := by decide +kernel
theorem dX8_way_45 : decode cX8_way 45 = .ok (.if_icmp .ne 8, 3) := by decide +kernel
theorem dX8_way_48 : decode cX8_way 48 = .ok (.iload 4, 2) := by decide +kernel
theorem dX8_way_50 : decode cX8_way 50 = .ok (.goto 11, 3) := by decide +kernel
theorem dX8_way_53 : decode cX8_way 53 = .ok (.aload_n 0, 1) := by decide +kernel
theorem dX8_way_54 : decode cX8_way 54 = .ok (.getfield 27, 3) := by decide +kernel
theorem dX8_way_57 : decode cX8_way 57 = .ok (.iload_n 3, 1) := by decide +kernel
theorem dX8_way_58 : decode cX8_way 58 = .ok (.invokevirtual 189, 3) := by decide +kernel
theorem dX8_way_61 : decode cX8_way 61 = .ok (.ireturn, 1) := by decide +kernel
theorem dX8_sisters_0 : decode cX8_sisters 0 = .ok (.aload_n 0, 1) := by decide +kernel
theorem dX8_sisters_1 : decode cX8_sisters 1 = .ok (.iload_n 1, 1) := by decide +kernel
theorem dX8_sisters_2 : decode cX8_sisters 2 = .ok (.invokevirtual 71, 3) := by decide +kernel
theorem dX8_sisters_5 : decode cX8_sisters 5 = .ok (.ifCond .eq 10, 3) := by decide +kernel
theorem dX8_sisters_8 : decode cX8_sisters 8 = .ok (.iload_n 2, 1) := by decide +kernel
theorem dX8_sisters_9 : decode cX8_sisters 9 = .ok (.invokestatic 59, 3) := by decide +kernel
theorem dX8_sisters_12 : decode cX8_sisters 12 = .ok (.ifCond .ne 5, 3) := by decide +kernel
theorem dX8_sisters_15 : decode cX8_sisters 15 = .ok (.iconst (-1), 1) := by decide +kernel
theorem dX8_sisters_16 : decode cX8_sisters 16 = .ok (.ireturn, 1) := by decide +kernel
theorem dX8_sisters_17 : decode cX8_sisters 17 = .ok (.aload_n 0, 1) := by decide +kernel
theorem dX8_sisters_18 : decode cX8_sisters 18 = .ok (.getfield 27, 3) := by decide +kernel
theorem dX8_sisters_21 : decode cX8_sisters 21 = .ok (.aload_n 0, 1) := by decide +kernel
theorem dX8_sisters_22 : decode cX8_sisters 22 = .ok (.getfield 14, 3) := by decide +kernel
theorem dX8_sisters_25 : decode cX8_sisters 25 = .ok (.iload_n 1, 1) := by decide +kernel
theorem dX8_sisters_26 : decode cX8_sisters 26 = .ok (.iload_n 2, 1) := by decide +kernel
theorem dX8_sisters_27 : decode cX8_sisters 27 = .ok (.invokevirtual 185, 3) := by decide +kernel
theorem dX8_sisters_30 : decode cX8_sisters 30 = .ok (.invokestatic 192, 3) := by decide +kernel
theorem dX8_sisters_33 : decode cX8_sisters 33 = .ok (.istore_n 3, 1) := by decide +kernel
theorem dX8_sisters_34 : decode cX8_sisters 34 = .ok (.bipush (-5), 2) := by decide +kernel
theorem dX8_sisters_36 : decode cX8_sisters 36 = .ok (.istore 4, 2) := by decide +kernel
theorem dX8_sisters_38 : decode cX8_sisters 38 = .ok (.aload_n 0, 1) := by decide +kernel
theorem dX8_sisters_39 : decode cX8_sisters 39 = .ok (.getfield 21, 3) := by decide +kernel
theorem dX8_sisters_42 : decode cX8_sisters 42 = .ok (.aload_n 0, 1) := by decide +kernel
theorem dX8_sisters_43 : decode cX8_sisters 43 = .ok (.getfield 14, 3) := by decide +kernel
theorem dX8_sisters_46 : decode cX8_sisters 46 = .ok (.invokevirtual 181, 3) := by decide +kernel
theorem dX8_sisters_49 : decode cX8_sisters 49 = .ok (.iconst 0, 1) := by decide +kernel
theorem dX8_sisters_50 : decode cX8_sisters 50 = .ok (.istore 5, 2) := by decide +kernel
theorem dX8_sisters_52 : decode cX8_sisters 52 = .ok (.iload 5, 2) := by decide +kernel
theorem dX8_sisters_54 : decode cX8_sisters 54 = .ok (.aload_n 0, 1) := by decide +kernel
theorem dX8_sisters_55 : decode cX8_sisters 55 = .ok (.getfield 21, 3) := by decide +kernel
theorem dX8_sisters_58 : decode cX8_sisters 58 = .ok (.getfield 195, 3) := by decide +kernel
theorem dX8_sisters_61 : decode cX8_sisters 61 = .ok (.if_icmp .ge 109, 3) := by decide +kernel
theorem dX8_sisters_64 : decode cX8_sisters 64 = .ok (.iload 5, 2) := by decide +kernel
theorem dX8_sisters_66 : decode cX8_sisters 66 = .ok (.iconst 1, 1) := by decide +kernel
theorem dX8_sisters_67 : decode cX8_sisters 67 = .ok (.iadd, 1) := by decide +kernel
theorem dX8_sisters_68 : decode cX8_sisters 68 = .ok (.istore 6, 2) := by decide +kernel
theorem dX8_sisters_70 : decode cX8_sisters 70 = .ok (.iload 6, 2) := by decide +kernel
theorem dX8_sisters_72 : decode cX8_sisters 72 = .ok (.aload_n 0, 1) := by decide +kernel
theorem dX8_sisters_73 : decode cX8_sisters 73 = .ok (.getfield 21, 3) := by decide +kernel
theorem dX8_sisters_76 : decode cX8_sisters 76 = .ok (.getfield 195, 3) := by decide +kernel
theorem dX8_sisters_79 : decode cX8_sisters 79 = .ok (.if_icmp .ge 85, 3) := by decide +kernel
theorem dX8_sisters_82 : decode cX8_sisters 82 = .ok (.aload_n 0, 1) := by decide +kernel
theorem dX8_sisters_83 : decode cX8_sisters 83 = .ok (.getfield 21, 3) := by decide +kernel
theorem dX8_sisters_86 : decode cX8_sisters 86 = .ok (.iload 5, 2) := by decide +kernel
theorem dX8_sisters_88 : decode cX8_sisters 88 = .ok (.iload 6, 2) := by decide +kernel
theorem dX8_sisters_90 : decode cX8_sisters 90 = .ok (.invokevirtual 137, 3) := by decide +kernel
theorem dX8_sisters_93 : decode cX8_sisters 93 = .ok (.ifCond .ne 6, 3) := by decide +kernel
theorem dX8_sisters_96 : decode cX8_sisters 96 = .ok (.goto 62, 3) := by decide +kernel
theorem dX8_sisters_99 : decode cX8_sisters 99 = .ok (.aload_n 0, 1) := by decide +kernel
theorem dX8_sisters_100 : decode cX8_sisters 100 = .ok (.getfield 21, 3) := by decide +kernel
theorem dX8_sisters_103 : decode cX8_sisters 103 = .ok (.iload 5, 2) := by decide +kernel
theorem dX8_sisters_105 : decode cX8_sisters 105 = .ok (.iload 6, 2) := by decide +kernel
theorem dX8_sisters_107 : decode cX8_sisters 107 = .ok (.invokevirtual 141, 3) := by decide +kernel
theorem dX8_sisters_110 : decode cX8_sisters 110 = .ok (.aload_n 0, 1) := by decide +kernel
theorem dX8_sisters_111 : decode cX8_sisters 111 = .ok (.getfield 27, 3) := by decide +kernel
theorem dX8_sisters_114 : decode cX8_sisters 114 = .ok (.aload_n 0, 1) := by decide +kernel
theorem dX8_sisters_115 : decode cX8_sisters 115 = .ok (.getfield 21, 3) := by decide +kernel
theorem dX8_sisters_118 : decode cX8_sisters 118 = .ok (.iload_n 1, 1) := by decide +kernel
theorem dX8_sisters_119 : decode cX8_sisters 119 = .ok (.iload_n 2, 1) := by decide +kernel
theorem dX8_sisters_120 : decode cX8_sisters 120 = .ok (.invokevirtual 185, 3) := by decide +kernel
theorem dX8_sisters_123 : decode cX8_sisters 123 = .ok (.invokestatic 192, 3) := by decide +kernel
theorem dX8_sisters_126 : decode cX8_sisters 126 = .ok (.istore 7, 2) := by decide +kernel
theorem dX8_sisters_128 : decode cX8_sisters 128 = .ok (.aload_n 0, 1) := by decide +kernel
theorem dX8_sisters_129 : decode cX8_sisters 129 = .ok (.getfield 21, 3) := by decide +kernel
theorem dX8_sisters_132 : decode cX8_sisters 132 = .ok (.iload 5, 2) := by decide +kernel
theorem dX8_sisters_134 : decode cX8_sisters 134 = .ok (.iload 6, 2) := by decide +kernel
theorem dX8_sisters_136 : decode cX8_sisters 136 = .ok (.invokevirtual 141, 3) := by decide +kernel
theorem dX8_sisters_139 : decode cX8_sisters 139 = .ok (.iload 7, 2) := by decide +kernel
theorem dX8_sisters_141 : decode cX8_sisters 141 = .ok (.iload_n 3, 1) := by decide +kernel
theorem dX8_sisters_142 : decode cX8_sisters 142 = .ok (.if_icmp .ge 16, 3) := by decide +kernel
theorem dX8_sisters_145 : decode cX8_sisters 145 = .ok (.iload 7, 2) := by decide +kernel
theorem dX8_sisters_147 : decode cX8_sisters 147 = .ok (.istore_n 3, 1) := by decide +kernel
theorem dX8_sisters_148 : decode cX8_sisters 148 = .ok (.bipush 10, 2) := by decide +kernel
theorem dX8_sisters_150 : decode cX8_sisters 150 = .ok (.iload 5, 2) := by decide +kernel
theorem dX8_sisters_152 : decode cX8_sisters 152 = .ok (.imul, 1) := by decide +kernel
theorem dX8_sisters_153 : decode cX8_sisters 153 = .ok (.iload 6, 2) := by decide +kernel
theorem dX8_sisters_155 : decode cX8_sisters 155 = .ok (.iadd, 1) := by decide +kernel
theorem dX8_sisters_156 : decode cX8_sisters 156 = .ok (.istore 4, 2) := by decide +kernel
theorem dX8_sisters_158 : decode cX8_sisters 158 = .ok (.iinc 6 1, 3) := by decide +kernel
theorem dX8_sisters_161 : decode cX8_sisters 161 = .ok (.goto (-91), 3) := by decide +kernel
theorem dX8_sisters_164 : decode cX8_sisters 164 = .ok (.iinc 5 1, 3) := by decide +kernel
theorem dX8_sisters_167 : decode cX8_sisters 167 = .ok (.goto (-115), 3) := by decide +kernel
theorem dX8_sisters_170 : decode cX8_sisters 170 = .ok (.iload 4, 2) := by decide +kernel
theorem dX8_sisters_172 : decode cX8_sisters 172 = .ok (.ireturn, 1) := by decide +kernel
theorem dX8_see_0 : decode cX8_see 0 = .ok (.iload_n 1, 1) := by decide +kernel
theorem dX8_see_1 : decode cX8_see 1 = .ok (.iconst (-1), 1) := by decide +kernel
theorem dX8_see_2 : decode cX8_see 2 = .ok (.if_icmp .ne 14, 3) := by decide +kernel
theorem dX8_see_5 : decode cX8_see 5 = .ok (.aload_n 0, 1) := by decide +kernel
theorem dX8_see_6 : decode cX8_see 6 = .ok (.getfield 14, 3) := by decide +kernel
theorem dX8_see_9 : decode cX8_see 9 = .ok (.getfield 198, 3) := by decide +kernel
theorem dX8_see_12 : decode cX8_see 12 = .ok (.invokevirtual 202, 3) := by decide +kernel
theorem dX8_see_15 : decode cX8_see 15 = .ok (.ireturn, 1) := by decide +kernel
theorem dX8_see_16 : decode cX8_see 16 = .ok (.aload_n 0, 1) := by decide +kernel
theorem dX8_see_17 : decode cX8_see 17 = .ok (.iload_n 1, 1) := by decide +kernel
theorem dX8_see_18 : decode cX8_see 18 = .ok (.invokevirtual 71, 3) := by decide +kernel
theorem dX8_see_21 : decode cX8_see 21 = .ok (.ifCond .eq 10, 3) := by decide +kernel
theorem dX8_see_24 : decode cX8_see 24 = .ok (.iload_n 3, 1) := by decide +kernel
theorem dX8_see_25 : decode cX8_see 25 = .ok (.invokestatic 59, 3) := by decide +kernel
theorem dX8_see_28 : decode cX8_see 28 = .ok (.ifCond .ne 5, 3) := by decide +kernel
theorem dX8_see_31 : decode cX8_see 31 = .ok (.iconst (-1), 1) := by decide +kernel
theorem dX8_see_32 : decode cX8_see 32 = .ok (.ireturn, 1) := by decide +kernel
theorem dX8_see_33 : decode cX8_see 33 = .ok (.iload_n 2, 1) := by decide +kernel
theorem dX8_see_34 : decode cX8_see 34 = .ok (.ifCond .lt 9, 3) := by decide +kernel
theorem dX8_see_37 : decode cX8_see 37 = .ok (.iload_n 2, 1) := by decide +kernel
theorem dX8_see_38 : decode cX8_see 38 = .ok (.bipush 8, 2) := by decide +kernel
theorem dX8_see_40 : decode cX8_see 40 = .ok (.if_icmp .le 6, 3) := by decide +kernel
theorem dX8_see_43 : decode cX8_see 43 = .ok (.bipush (-2), 2) := by decide +kernel
theorem dX8_see_45 : decode cX8_see 45 = .ok (.ireturn, 1) := by decide +kernel
theorem dX8_see_46 : decode cX8_see 46 = .ok (.aload_n 0, 1) := by decide +kernel
theorem dX8_see_47 : decode cX8_see 47 = .ok (.getfield 14, 3) := by decide +kernel
theorem dX8_see_50 : decode cX8_see 50 = .ok (.getfield 198, 3) := by decide +kernel
theorem dX8_see_53 : decode cX8_see 53 = .ok (.iload_n 1, 1) := by decide +kernel
theorem dX8_see_54 : decode cX8_see 54 = .ok (.iload_n 3, 1) := by decide +kernel
theorem dX8_see_55 : decode cX8_see 55 = .ok (.iload_n 2, 1) := by decide +kernel
theorem dX8_see_56 : decode cX8_see 56 = .ok (.invokevirtual 207, 3) := by decide +kernel
theorem dX8_see_59 : decode cX8_see 59 = .ok (.ireturn, 1) := by decide +kernel
theorem dX8_from_0 : decode cX8_from 0 = .ok (.aload_n 0, 1) := by decide +kernel
theorem dX8_from_1 : decode cX8_from 1 = .ok (.iload_n 1, 1) := by decide +kernel
theorem dX8_from_2 : decode cX8_from 2 = .ok (.invokevirtual 71, 3) := by decide +kernel
theorem dX8_from_5 : decode cX8_from 5 = .ok (.ifCond .ne 5, 3) := by decide +kernel
theorem dX8_from_8 : decode cX8_from 8 = .ok (.iconst (-1), 1) := by decide +kernel
theorem dX8_from_9 : decode cX8_from 9 = .ok (.ireturn, 1) := by decide +kernel
theorem dX8_from_10 : decode cX8_from 10 = .ok (.iconst 0, 1) := by decide +kernel
theorem dX8_from_11 : decode cX8_from 11 = .ok (.istore_n 2, 1) := by decide +kernel
theorem dX8_from_12 : decode cX8_from 12 = .ok (.iconst 0, 1) := by decide +kernel
theorem dX8_from_13 : decode cX8_from 13 = .ok (.istore_n 3, 1) := by decide +kernel
theorem dX8_from_14 : decode cX8_from 14 = .ok (.iload_n 3, 1) := by decide +kernel
theorem dX8_from_15 : decode cX8_from 15 = .ok (.bipush 6, 2) := by decide +kernel
theorem dX8_from_17 : decode cX8_from 17 = .ok (.if_icmp .ge 47, 3) := by decide +kernel
theorem dX8_from_20 : decode cX8_from 20 = .ok (.aload_n 0, 1) := by decide +kernel
theorem dX8_from_21 : decode cX8_from 21 = .ok (.getfield 21, 3) := by decide +kernel
theorem dX8_from_24 : decode cX8_from 24 = .ok (.aload_n 0, 1) := by decide +kernel
theorem dX8_from_25 : decode cX8_from 25 = .ok (.getfield 14, 3) := by decide +kernel
theorem dX8_from_28 : decode cX8_from 28 = .ok (.invokevirtual 181, 3) := by decide +kernel
theorem dX8_from_31 : decode cX8_from 31 = .ok (.aload_n 0, 1) := by decide +kernel
theorem dX8_from_32 : decode cX8_from 32 = .ok (.getfield 21, 3) := by decide +kernel
theorem dX8_from_35 : decode cX8_from 35 = .ok (.getfield 74, 3) := by decide +kernel
theorem dX8_from_38 : decode cX8_from 38 = .ok (.iload_n 1, 1) := by decide +kernel
theorem dX8_from_39 : decode cX8_from 39 = .ok (.aaload, 1) := by decide +kernel
theorem dX8_from_40 : decode cX8_from 40 = .ok (.iload_n 3, 1) := by decide +kernel
theorem dX8_from_41 : decode cX8_from 41 = .ok (.putfield 87, 3) := by decide +kernel
theorem dX8_from_44 : decode cX8_from 44 = .ok (.aload_n 0, 1) := by decide +kernel
theorem dX8_from_45 : decode cX8_from 45 = .ok (.iload_n 1, 1) := by decide +kernel
theorem dX8_from_46 : decode cX8_from 46 = .ok (.invokevirtual 210, 3) := by decide +kernel
theorem dX8_from_49 : decode cX8_from 49 = .ok (.ifCond .eq 9, 3) := by decide +kernel
theorem dX8_from_52 : decode cX8_from 52 = .ok (.iload_n 2, 1) := by decide +kernel
theorem dX8_from_53 : decode cX8_from 53 = .ok (.iconst 1, 1) := by decide +kernel
theorem dX8_from_54 : decode cX8_from 54 = .ok (.iload_n 3, 1) := by decide +kernel
theorem dX8_from_55 : decode cX8_from 55 = .ok (.ishl, 1) := by decide +kernel
theorem dX8_from_56 : decode cX8_from 56 = .ok (.ior, 1) := by decide +kernel
theorem dX8_from_57 : decode cX8_from 57 = .ok (.istore_n 2, 1) := by decide +kernel
theorem dX8_from_58 : decode cX8_from 58 = .ok (.iinc 3 1, 3) := by decide +kernel
theorem dX8_from_61 : decode cX8_from 61 = .ok (.goto (-47), 3) := by decide +kernel
theorem dX8_from_64 : decode cX8_from 64 = .ok (.iload_n 2, 1) := by decide +kernel
theorem dX8_from_65 : decode cX8_from 65 = .ok (.ireturn, 1) := by decide +kernel
theorem dX8_can_0 : decode cX8_can 0 = .ok (.aload_n 0, 1) := by decide +kernel
theorem dX8_can_1 : decode cX8_can 1 = .ok (.iload_n 1, 1) := by decide +kernel
theorem dX8_can_2 : decode cX8_can 2 = .ok (.invokevirtual 71, 3) := by decide +kernel
theorem dX8_can_5 : decode cX8_can 5 = .ok (.ifCond .eq 12, 3) := by decide +kernel
theorem dX8_can_8 : decode cX8_can 8 = .ok (.iload_n 2, 1) := by decide +kernel
theorem dX8_can_9 : decode cX8_can 9 = .ok (.ifCond .lt 8, 3) := by decide +kernel
theorem dX8_can_12 : decode cX8_can 12 = .ok (.iload_n 2, 1) := by decide +kernel
theorem dX8_can_13 : decode cX8_can 13 = .ok (.iconst 1, 1) := by decide +kernel
theorem dX8_can_14 : decode cX8_can 14 = .ok (.if_icmp .le 5, 3) := by decide +kernel
theorem dX8_can_17 : decode cX8_can 17 = .ok (.iconst (-1), 1) := by decide +kernel
theorem dX8_can_18 : decode cX8_can 18 = .ok (.ireturn, 1) := by decide +kernel
theorem dX8_can_19 : decode cX8_can 19 = .ok (.iconst 0, 1) := by decide +kernel
theorem dX8_can_20 : decode cX8_can 20 = .ok (.istore_n 3, 1) := by decide +kernel
theorem dX8_can_21 : decode cX8_can 21 = .ok (.bipush (-5), 2) := by decide +kernel
theorem dX8_can_23 : decode cX8_can 23 = .ok (.istore 4, 2) := by decide +kernel
theorem dX8_can_25 : decode cX8_can 25 = .ok (.bipush 9, 2) := by decide +kernel
theorem dX8_can_27 : decode cX8_can 27 = .ok (.istore 5, 2) := by decide +kernel
theorem dX8_can_29 : decode cX8_can 29 = .ok (.iload 5, 2) := by decide +kernel
theorem dX8_can_31 : decode cX8_can 31 = .ok (.ifCond .lt 49, 3) := by decide +kernel
theorem dX8_can_34 : decode cX8_can 34 = .ok (.aload_n 0, 1) := by decide +kernel
theorem dX8_can_35 : decode cX8_can 35 = .ok (.getfield 21, 3) := by decide +kernel
theorem dX8_can_38 : decode cX8_can 38 = .ok (.aload_n 0, 1) := by decide +kernel
theorem dX8_can_39 : decode cX8_can 39 = .ok (.getfield 14, 3) := by decide +kernel
theorem dX8_can_42 : decode cX8_can 42 = .ok (.invokevirtual 181, 3) := by decide +kernel
theorem dX8_can_45 : decode cX8_can 45 = .ok (.aload_n 0, 1) := by decide +kernel
theorem dX8_can_46 : decode cX8_can 46 = .ok (.getfield 21, 3) := by decide +kernel
theorem dX8_can_49 : decode cX8_can 49 = .ok (.getfield 74, 3) := by decide +kernel
theorem dX8_can_52 : decode cX8_can 52 = .ok (.iload_n 1, 1) := by decide +kernel
theorem dX8_can_53 : decode cX8_can 53 = .ok (.aaload, 1) := by decide +kernel
theorem dX8_can_54 : decode cX8_can 54 = .ok (.iload 5, 2) := by decide +kernel
theorem dX8_can_56 : decode cX8_can 56 = .ok (.putfield 84, 3) := by decide +kernel
theorem dX8_can_59 : decode cX8_can 59 = .ok (.aload_n 0, 1) := by decide +kernel
theorem dX8_can_60 : decode cX8_can 60 = .ok (.iload_n 1, 1) := by decide +kernel
theorem dX8_can_61 : decode cX8_can 61 = .ok (.invokevirtual 210, 3) := by decide +kernel
theorem dX8_can_64 : decode cX8_can 64 = .ok (.ifCond .eq 10, 3) := by decide +kernel
theorem dX8_can_67 : decode cX8_can 67 = .ok (.iinc 3 1, 3) := by decide +kernel
theorem dX8_can_70 : decode cX8_can 70 = .ok (.iload 5, 2) := by decide +kernel
theorem dX8_can_72 : decode cX8_can 72 = .ok (.istore 4, 2) := by decide +kernel
theorem dX8_can_74 : decode cX8_can 74 = .ok (.iinc 5 (-1), 3) := by decide +kernel
theorem dX8_can_77 : decode cX8_can 77 = .ok (.goto (-48), 3) := by decide +kernel
theorem dX8_can_80 : decode cX8_can 80 = .ok (.iload_n 2, 1) := by decide +kernel
theorem dX8_can_81 : decode cX8_can 81 = .ok (.ifCond .ne 7, 3) := by decide +kernel
theorem dX8_can_84 : decode cX8_can 84 = .ok (.iload_n 3, 1) := by decide +kernel
theorem dX8_can_85 : decode cX8_can 85 = .ok (.goto 5, 3) := by decide +kernel
theorem dX8_can_88 : decode cX8_can 88 = .ok (.iload 4, 2) := by decide +kernel
theorem dX8_can_90 : decode cX8_can 90 = .ok (.ireturn, 1) := by decide +kernel
theorem dX8_odds_0 : decode cX8_odds 0 = .ok (.aload_n 0, 1) := by decide +kernel
theorem dX8_odds_1 : decode cX8_odds 1 = .ok (.iload_n 1, 1) := by decide +kernel
theorem dX8_odds_2 : decode cX8_odds 2 = .ok (.invokevirtual 71, 3) := by decide +kernel
theorem dX8_odds_5 : decode cX8_odds 5 = .ok (.ifCond .eq 27, 3) := by decide +kernel
theorem dX8_odds_8 : decode cX8_odds 8 = .ok (.iload_n 2, 1) := by decide +kernel
theorem dX8_odds_9 : decode cX8_odds 9 = .ok (.invokestatic 59, 3) := by decide +kernel
theorem dX8_odds_12 : decode cX8_odds 12 = .ok (.ifCond .eq 20, 3) := by decide +kernel
theorem dX8_odds_15 : decode cX8_odds 15 = .ok (.iload_n 3, 1) := by decide +kernel
theorem dX8_odds_16 : decode cX8_odds 16 = .ok (.invokestatic 213, 3) := by decide +kernel
theorem dX8_odds_19 : decode cX8_odds 19 = .ok (.ifCond .eq 13, 3) := by decide +kernel
theorem dX8_odds_22 : decode cX8_odds 22 = .ok (.aload_n 0, 1) := by decide +kernel
theorem dX8_odds_23 : decode cX8_odds 23 = .ok (.getfield 14, 3) := by decide +kernel
theorem dX8_odds_26 : decode cX8_odds 26 = .ok (.getfield 195, 3) := by decide +kernel
theorem dX8_odds_29 : decode cX8_odds 29 = .ok (.ifCond .ne 7, 3) := by decide +kernel
theorem dX8_odds_32 : decode cX8_odds 32 = .ok (.ldc2_w 216, 3) := by decide +kernel
theorem dX8_odds_35 : decode cX8_odds 35 = .ok (.lreturn, 1) := by decide +kernel
theorem dX8_odds_36 : decode cX8_odds 36 = .ok (.iconst 0, 1) := by decide +kernel
theorem dX8_odds_37 : decode cX8_odds 37 = .ok (.istore 4, 2) := by decide +kernel
theorem dX8_odds_39 : decode cX8_odds 39 = .ok (.aload_n 0, 1) := by decide +kernel
theorem dX8_odds_40 : decode cX8_odds 40 = .ok (.getfield 21, 3) := by decide +kernel
theorem dX8_odds_43 : decode cX8_odds 43 = .ok (.aload_n 0, 1) := by decide +kernel
theorem dX8_odds_44 : decode cX8_odds 44 = .ok (.getfield 14, 3) := by decide +kernel
theorem dX8_odds_47 : decode cX8_odds 47 = .ok (.invokevirtual 181, 3) := by decide +kernel
theorem dX8_odds_50 : decode cX8_odds 50 = .ok (.iconst 0, 1) := by decide +kernel
theorem dX8_odds_51 : decode cX8_odds 51 = .ok (.istore 5, 2) := by decide +kernel
theorem dX8_odds_53 : decode cX8_odds 53 = .ok (.iload 5, 2) := by decide +kernel
theorem dX8_odds_55 : decode cX8_odds 55 = .ok (.aload_n 0, 1) := by decide +kernel
theorem dX8_odds_56 : decode cX8_odds 56 = .ok (.getfield 14, 3) := by decide +kernel
theorem dX8_odds_59 : decode cX8_odds 59 = .ok (.getfield 195, 3) := by decide +kernel
theorem dX8_odds_62 : decode cX8_odds 62 = .ok (.if_icmp .ge 47, 3) := by decide +kernel
theorem dX8_odds_65 : decode cX8_odds 65 = .ok (.aload_n 0, 1) := by decide +kernel
theorem dX8_odds_66 : decode cX8_odds 66 = .ok (.getfield 21, 3) := by decide +kernel
theorem dX8_odds_69 : decode cX8_odds 69 = .ok (.aload_n 0, 1) := by decide +kernel
theorem dX8_odds_70 : decode cX8_odds 70 = .ok (.getfield 14, 3) := by decide +kernel
theorem dX8_odds_73 : decode cX8_odds 73 = .ok (.getfield 126, 3) := by decide +kernel
theorem dX8_odds_76 : decode cX8_odds 76 = .ok (.iconst 1, 1) := by decide +kernel
theorem dX8_odds_77 : decode cX8_odds 77 = .ok (.iload 5, 2) := by decide +kernel
theorem dX8_odds_79 : decode cX8_odds 79 = .ok (.ishl, 1) := by decide +kernel
theorem dX8_odds_80 : decode cX8_odds 80 = .ok (.ior, 1) := by decide +kernel
theorem dX8_odds_81 : decode cX8_odds 81 = .ok (.putfield 126, 3) := by decide +kernel
theorem dX8_odds_84 : decode cX8_odds 84 = .ok (.aload_n 0, 1) := by decide +kernel
theorem dX8_odds_85 : decode cX8_odds 85 = .ok (.getfield 27, 3) := by decide +kernel
theorem dX8_odds_88 : decode cX8_odds 88 = .ok (.aload_n 0, 1) := by decide +kernel
theorem dX8_odds_89 : decode cX8_odds 89 = .ok (.getfield 21, 3) := by decide +kernel
theorem dX8_odds_92 : decode cX8_odds 92 = .ok (.iload_n 1, 1) := by decide +kernel
theorem dX8_odds_93 : decode cX8_odds 93 = .ok (.iload_n 2, 1) := by decide +kernel
theorem dX8_odds_94 : decode cX8_odds 94 = .ok (.invokevirtual 185, 3) := by decide +kernel
theorem dX8_odds_97 : decode cX8_odds 97 = .ok (.ifCond .lt 6, 3) := by decide +kernel
theorem dX8_odds_100 : decode cX8_odds 100 = .ok (.iinc 4 1, 3) := by decide +kernel
theorem dX8_odds_103 : decode cX8_odds 103 = .ok (.iinc 5 1, 3) := by decide +kernel
theorem dX8_odds_106 : decode cX8_odds 106 = .ok (.goto (-53), 3) := by decide +kernel
theorem dX8_odds_109 : decode cX8_odds 109 = .ok (.iload 4, 2) := by decide +kernel
theorem dX8_odds_111 : decode cX8_odds 111 = .ok (.aload_n 0, 1) := by decide +kernel
theorem dX8_odds_112 : decode cX8_odds 112 = .ok (.getfield 14, 3) := by decide +kernel
theorem dX8_odds_115 : decode cX8_odds 115 = .ok (.getfield 195, 3) := by decide +kernel
theorem dX8_odds_118 : decode cX8_odds 118 = .ok (.iload_n 3, 1) := by decide +kernel
theorem dX8_odds_119 : decode cX8_odds 119 = .ok (.invokestatic 218, 3) := by decide +kernel
theorem dX8_odds_122 : decode cX8_odds 122 = .ok (.lreturn, 1) := by decide +kernel
theorem dX8_mean_0 : decode cX8_mean 0 = .ok (.iload_n 1, 1) := by decide +kernel
theorem dX8_mean_1 : decode cX8_mean 1 = .ok (.invokestatic 213, 3) := by decide +kernel
theorem dX8_mean_4 : decode cX8_mean 4 = .ok (.ifCond .eq 13, 3) := by decide +kernel
theorem dX8_mean_7 : decode cX8_mean 7 = .ok (.aload_n 0, 1) := by decide +kernel
theorem dX8_mean_8 : decode cX8_mean 8 = .ok (.getfield 14, 3) := by decide +kernel
theorem dX8_mean_11 : decode cX8_mean 11 = .ok (.getfield 222, 3) := by decide +kernel
theorem dX8_mean_14 : decode cX8_mean 14 = .ok (.ifCond .ne 7, 3) := by decide +kernel
theorem dX8_mean_17 : decode cX8_mean 17 = .ok (.ldc2_w 216, 3) := by decide +kernel
theorem dX8_mean_20 : decode cX8_mean 20 = .ok (.lreturn, 1) := by decide +kernel
theorem dX8_mean_21 : decode cX8_mean 21 = .ok (.aload_n 0, 1) := by decide +kernel
theorem dX8_mean_22 : decode cX8_mean 22 = .ok (.getfield 14, 3) := by decide +kernel
theorem dX8_mean_25 : decode cX8_mean 25 = .ok (.invokevirtual 174, 3) := by decide +kernel
theorem dX8_mean_28 : decode cX8_mean 28 = .ok (.aload_n 0, 1) := by decide +kernel
theorem dX8_mean_29 : decode cX8_mean 29 = .ok (.getfield 14, 3) := by decide +kernel
theorem dX8_mean_32 : decode cX8_mean 32 = .ok (.getfield 222, 3) := by decide +kernel
theorem dX8_mean_35 : decode cX8_mean 35 = .ok (.iload_n 1, 1) := by decide +kernel
theorem dX8_mean_36 : decode cX8_mean 36 = .ok (.invokestatic 218, 3) := by decide +kernel
theorem dX8_mean_39 : decode cX8_mean 39 = .ok (.lreturn, 1) := by decide +kernel
theorem dX8_plan_0 : decode cX8_plan 0 = .ok (.iload_n 1, 1) := by decide +kernel
theorem dX8_plan_1 : decode cX8_plan 1 = .ok (.iconst (-1), 1) := by decide +kernel
theorem dX8_plan_2 : decode cX8_plan 2 = .ok (.if_icmp .ne 14, 3) := by decide +kernel
theorem dX8_plan_5 : decode cX8_plan 5 = .ok (.aload_n 0, 1) := by decide +kernel
theorem dX8_plan_6 : decode cX8_plan 6 = .ok (.getfield 14, 3) := by decide +kernel
theorem dX8_plan_9 : decode cX8_plan 9 = .ok (.getfield 225, 3) := by decide +kernel
theorem dX8_plan_12 : decode cX8_plan 12 = .ok (.invokevirtual 202, 3) := by decide +kernel
theorem dX8_plan_15 : decode cX8_plan 15 = .ok (.ireturn, 1) := by decide +kernel
theorem dX8_plan_16 : decode cX8_plan 16 = .ok (.iload_n 1, 1) := by decide +kernel
theorem dX8_plan_17 : decode cX8_plan 17 = .ok (.tableswitch 54 0 3 #[31, 36, 36, 45], 31) := by decide +kernel
theorem dX8_plan_48 : decode cX8_plan 48 = .ok (.iconst 1, 1) := by decide +kernel
theorem dX8_plan_49 : decode cX8_plan 49 = .ok (.istore_n 3, 1) := by decide +kernel
theorem dX8_plan_50 : decode cX8_plan 50 = .ok (.goto 23, 3) := by decide +kernel
theorem dX8_plan_53 : decode cX8_plan 53 = .ok (.aload_n 0, 1) := by decide +kernel
theorem dX8_plan_54 : decode cX8_plan 54 = .ok (.iload_n 2, 1) := by decide +kernel
theorem dX8_plan_55 : decode cX8_plan 55 = .ok (.invokevirtual 113, 3) := by decide +kernel
theorem dX8_plan_58 : decode cX8_plan 58 = .ok (.istore_n 3, 1) := by decide +kernel
theorem dX8_plan_59 : decode cX8_plan 59 = .ok (.goto 14, 3) := by decide +kernel
theorem dX8_plan_62 : decode cX8_plan 62 = .ok (.aload_n 0, 1) := by decide +kernel
theorem dX8_plan_63 : decode cX8_plan 63 = .ok (.iload_n 2, 1) := by decide +kernel
theorem dX8_plan_64 : decode cX8_plan 64 = .ok (.invokevirtual 71, 3) := by decide +kernel
theorem dX8_plan_67 : decode cX8_plan 67 = .ok (.istore_n 3, 1) := by decide +kernel
theorem dX8_plan_68 : decode cX8_plan 68 = .ok (.goto 5, 3) := by decide +kernel
theorem dX8_plan_71 : decode cX8_plan 71 = .ok (.iconst 0, 1) := by decide +kernel
theorem dX8_plan_72 : decode cX8_plan 72 = .ok (.istore_n 3, 1) := by decide +kernel
theorem dX8_plan_73 : decode cX8_plan 73 = .ok (.iload_n 3, 1) := by decide +kernel
theorem dX8_plan_74 : decode cX8_plan 74 = .ok (.ifCond .eq 19, 3) := by decide +kernel
theorem dX8_plan_77 : decode cX8_plan 77 = .ok (.aload_n 0, 1) := by decide +kernel
theorem dX8_plan_78 : decode cX8_plan 78 = .ok (.getfield 14, 3) := by decide +kernel
theorem dX8_plan_81 : decode cX8_plan 81 = .ok (.getfield 225, 3) := by decide +kernel
theorem dX8_plan_84 : decode cX8_plan 84 = .ok (.iload_n 2, 1) := by decide +kernel
theorem dX8_plan_85 : decode cX8_plan 85 = .ok (.iload_n 1, 1) := by decide +kernel
theorem dX8_plan_86 : decode cX8_plan 86 = .ok (.iconst 0, 1) := by decide +kernel
theorem dX8_plan_87 : decode cX8_plan 87 = .ok (.invokevirtual 207, 3) := by decide +kernel
theorem dX8_plan_90 : decode cX8_plan 90 = .ok (.goto 4, 3) := by decide +kernel
theorem dX8_plan_93 : decode cX8_plan 93 = .ok (.iconst (-1), 1) := by decide +kernel
theorem dX8_plan_94 : decode cX8_plan 94 = .ok (.ireturn, 1) := by decide +kernel
theorem dX8_ends_0 : decode cX8_ends 0 = .ok (.iload_n 1, 1) := by decide +kernel
theorem dX8_ends_1 : decode cX8_ends 1 = .ok (.ifCond .lt 8, 3) := by decide +kernel
theorem dX8_ends_4 : decode cX8_ends 4 = .ok (.iload_n 1, 1) := by decide +kernel
theorem dX8_ends_5 : decode cX8_ends 5 = .ok (.iconst 1, 1) := by decide +kernel
theorem dX8_ends_6 : decode cX8_ends 6 = .ok (.if_icmp .le 5, 3) := by decide +kernel
theorem dX8_ends_9 : decode cX8_ends 9 = .ok (.iconst (-1), 1) := by decide +kernel
theorem dX8_ends_10 : decode cX8_ends 10 = .ok (.ireturn, 1) := by decide +kernel
theorem dX8_ends_11 : decode cX8_ends 11 = .ok (.aload_n 0, 1) := by decide +kernel
theorem dX8_ends_12 : decode cX8_ends 12 = .ok (.getfield 21, 3) := by decide +kernel
theorem dX8_ends_15 : decode cX8_ends 15 = .ok (.aload_n 0, 1) := by decide +kernel
theorem dX8_ends_16 : decode cX8_ends 16 = .ok (.getfield 14, 3) := by decide +kernel
theorem dX8_ends_19 : decode cX8_ends 19 = .ok (.invokevirtual 181, 3) := by decide +kernel
theorem dX8_ends_22 : decode cX8_ends 22 = .ok (.iconst 0, 1) := by decide +kernel
theorem dX8_ends_23 : decode cX8_ends 23 = .ok (.istore_n 2, 1) := by decide +kernel
theorem dX8_ends_24 : decode cX8_ends 24 = .ok (.iload_n 2, 1) := by decide +kernel
theorem dX8_ends_25 : decode cX8_ends 25 = .ok (.aload_n 0, 1) := by decide +kernel
theorem dX8_ends_26 : decode cX8_ends 26 = .ok (.getfield 14, 3) := by decide +kernel
theorem dX8_ends_29 : decode cX8_ends 29 = .ok (.getfield 225, 3) := by decide +kernel
theorem dX8_ends_32 : decode cX8_ends 32 = .ok (.getfield 228, 3) := by decide +kernel
theorem dX8_ends_35 : decode cX8_ends 35 = .ok (.if_icmp .ge 110, 3) := by decide +kernel
theorem dX8_ends_38 : decode cX8_ends 38 = .ok (.aload_n 0, 1) := by decide +kernel
theorem dX8_ends_39 : decode cX8_ends 39 = .ok (.getfield 14, 3) := by decide +kernel
theorem dX8_ends_42 : decode cX8_ends 42 = .ok (.getfield 225, 3) := by decide +kernel
theorem dX8_ends_45 : decode cX8_ends 45 = .ok (.getfield 231, 3) := by decide +kernel
theorem dX8_ends_48 : decode cX8_ends 48 = .ok (.iload_n 2, 1) := by decide +kernel
theorem dX8_ends_49 : decode cX8_ends 49 = .ok (.iaload, 1) := by decide +kernel
theorem dX8_ends_50 : decode cX8_ends 50 = .ok (.istore_n 3, 1) := by decide +kernel
theorem dX8_ends_51 : decode cX8_ends 51 = .ok (.aload_n 0, 1) := by decide +kernel
theorem dX8_ends_52 : decode cX8_ends 52 = .ok (.getfield 14, 3) := by decide +kernel
theorem dX8_ends_55 : decode cX8_ends 55 = .ok (.getfield 225, 3) := by decide +kernel
theorem dX8_ends_58 : decode cX8_ends 58 = .ok (.getfield 234, 3) := by decide +kernel
theorem dX8_ends_61 : decode cX8_ends 61 = .ok (.iload_n 2, 1) := by decide +kernel
theorem dX8_ends_62 : decode cX8_ends 62 = .ok (.iaload, 1) := by decide +kernel
theorem dX8_ends_63 : decode cX8_ends 63 = .ok (.tableswitch 62 0 2 #[25, 38, 50], 25) := by decide +kernel
theorem dX8_ends_88 : decode cX8_ends 88 = .ok (.aload_n 0, 1) := by decide +kernel
theorem dX8_ends_89 : decode cX8_ends 89 = .ok (.aload_n 0, 1) := by decide +kernel
theorem dX8_ends_90 : decode cX8_ends 90 = .ok (.getfield 21, 3) := by decide +kernel
theorem dX8_ends_93 : decode cX8_ends 93 = .ok (.iconst 1, 1) := by decide +kernel
theorem dX8_ends_94 : decode cX8_ends 94 = .ok (.iconst (-1), 1) := by decide +kernel
theorem dX8_ends_95 : decode cX8_ends 95 = .ok (.invokevirtual 177, 3) := by decide +kernel
theorem dX8_ends_98 : decode cX8_ends 98 = .ok (.goto 41, 3) := by decide +kernel
theorem dX8_ends_101 : decode cX8_ends 101 = .ok (.aload_n 0, 1) := by decide +kernel
theorem dX8_ends_102 : decode cX8_ends 102 = .ok (.getfield 21, 3) := by decide +kernel
theorem dX8_ends_105 : decode cX8_ends 105 = .ok (.iload_n 3, 1) := by decide +kernel
theorem dX8_ends_106 : decode cX8_ends 106 = .ok (.iconst 1, 1) := by decide +kernel
theorem dX8_ends_107 : decode cX8_ends 107 = .ok (.invokevirtual 133, 3) := by decide +kernel
theorem dX8_ends_110 : decode cX8_ends 110 = .ok (.goto 29, 3) := by decide +kernel
theorem dX8_ends_113 : decode cX8_ends 113 = .ok (.aload_n 0, 1) := by decide +kernel
theorem dX8_ends_114 : decode cX8_ends 114 = .ok (.getfield 21, 3) := by decide +kernel
theorem dX8_ends_117 : decode cX8_ends 117 = .ok (.iload_n 3, 1) := by decide +kernel
theorem dX8_ends_118 : decode cX8_ends 118 = .ok (.iconst 0, 1) := by decide +kernel
theorem dX8_ends_119 : decode cX8_ends 119 = .ok (.invokevirtual 133, 3) := by decide +kernel
theorem dX8_ends_122 : decode cX8_ends 122 = .ok (.goto 17, 3) := by decide +kernel
theorem dX8_ends_125 : decode cX8_ends 125 = .ok (.aload_n 0, 1) := by decide +kernel
theorem dX8_ends_126 : decode cX8_ends 126 = .ok (.getfield 21, 3) := by decide +kernel
theorem dX8_ends_129 : decode cX8_ends 129 = .ok (.getfield 74, 3) := by decide +kernel
theorem dX8_ends_132 : decode cX8_ends 132 = .ok (.iload_n 3, 1) := by decide +kernel
theorem dX8_ends_133 : decode cX8_ends 133 = .ok (.aaload, 1) := by decide +kernel
theorem dX8_ends_134 : decode cX8_ends 134 = .ok (.bipush (-5), 2) := by decide +kernel
theorem dX8_ends_136 : decode cX8_ends 136 = .ok (.putfield 93, 3) := by decide +kernel
theorem dX8_ends_139 : decode cX8_ends 139 = .ok (.iinc 2 1, 3) := by decide +kernel
theorem dX8_ends_142 : decode cX8_ends 142 = .ok (.goto (-118), 3) := by decide +kernel
theorem dX8_ends_145 : decode cX8_ends 145 = .ok (.iload_n 1, 1) := by decide +kernel
theorem dX8_ends_146 : decode cX8_ends 146 = .ok (.ifCond .ne 13, 3) := by decide +kernel
theorem dX8_ends_149 : decode cX8_ends 149 = .ok (.aload_n 0, 1) := by decide +kernel
theorem dX8_ends_150 : decode cX8_ends 150 = .ok (.getfield 21, 3) := by decide +kernel
theorem dX8_ends_153 : decode cX8_ends 153 = .ok (.invokevirtual 171, 3) := by decide +kernel
theorem dX8_ends_156 : decode cX8_ends 156 = .ok (.goto 10, 3) := by decide +kernel
theorem dX8_ends_159 : decode cX8_ends 159 = .ok (.aload_n 0, 1) := by decide +kernel
theorem dX8_ends_160 : decode cX8_ends 160 = .ok (.getfield 21, 3) := by decide +kernel
theorem dX8_ends_163 : decode cX8_ends 163 = .ok (.invokevirtual 174, 3) := by decide +kernel
theorem dX8_ends_166 : decode cX8_ends 166 = .ok (.ireturn, 1) := by decide +kernel
theorem dX8_book_0 : decode cX8_book 0 = .ok (.iload_n 1, 1) := by decide +kernel
theorem dX8_book_1 : decode cX8_book 1 = .ok (.iconst (-1), 1) := by decide +kernel
theorem dX8_book_2 : decode cX8_book 2 = .ok (.if_icmp .ne 14, 3) := by decide +kernel
theorem dX8_book_5 : decode cX8_book 5 = .ok (.aload_n 0, 1) := by decide +kernel
theorem dX8_book_6 : decode cX8_book 6 = .ok (.getfield 14, 3) := by decide +kernel
theorem dX8_book_9 : decode cX8_book 9 = .ok (.getfield 237, 3) := by decide +kernel
theorem dX8_book_12 : decode cX8_book 12 = .ok (.invokevirtual 202, 3) := by decide +kernel
theorem dX8_book_15 : decode cX8_book 15 = .ok (.ireturn, 1) := by decide +kernel
theorem dX8_book_16 : decode cX8_book 16 = .ok (.aload_n 0, 1) := by decide +kernel
theorem dX8_book_17 : decode cX8_book 17 = .ok (.iload_n 1, 1) := by decide +kernel
theorem dX8_book_18 : decode cX8_book 18 = .ok (.invokevirtual 71, 3) := by decide +kernel
theorem dX8_book_21 : decode cX8_book 21 = .ok (.ifCond .eq 10, 3) := by decide +kernel
theorem dX8_book_24 : decode cX8_book 24 = .ok (.iload_n 2, 1) := by decide +kernel
theorem dX8_book_25 : decode cX8_book 25 = .ok (.invokestatic 59, 3) := by decide +kernel
theorem dX8_book_28 : decode cX8_book 28 = .ok (.ifCond .ne 5, 3) := by decide +kernel
theorem dX8_book_31 : decode cX8_book 31 = .ok (.iconst (-1), 1) := by decide +kernel
theorem dX8_book_32 : decode cX8_book 32 = .ok (.ireturn, 1) := by decide +kernel
theorem dX8_book_33 : decode cX8_book 33 = .ok (.aload_n 0, 1) := by decide +kernel
theorem dX8_book_34 : decode cX8_book 34 = .ok (.getfield 14, 3) := by decide +kernel
theorem dX8_book_37 : decode cX8_book 37 = .ok (.getfield 237, 3) := by decide +kernel
theorem dX8_book_40 : decode cX8_book 40 = .ok (.iload_n 1, 1) := by decide +kernel
theorem dX8_book_41 : decode cX8_book 41 = .ok (.iload_n 2, 1) := by decide +kernel
theorem dX8_book_42 : decode cX8_book 42 = .ok (.iconst 0, 1) := by decide +kernel
theorem dX8_book_43 : decode cX8_book 43 = .ok (.invokevirtual 207, 3) := by decide +kernel
theorem dX8_book_46 : decode cX8_book 46 = .ok (.ireturn, 1) := by decide +kernel
theorem dX8_looked_0 : decode cX8_looked 0 = .ok (.iconst 0, 1) := by decide +kernel
theorem dX8_looked_1 : decode cX8_looked 1 = .ok (.istore_n 1, 1) := by decide +kernel
theorem dX8_looked_2 : decode cX8_looked 2 = .ok (.iload_n 1, 1) := by decide +kernel
theorem dX8_looked_3 : decode cX8_looked 3 = .ok (.aload_n 0, 1) := by decide +kernel
theorem dX8_looked_4 : decode cX8_looked 4 = .ok (.getfield 14, 3) := by decide +kernel
theorem dX8_looked_7 : decode cX8_looked 7 = .ok (.getfield 237, 3) := by decide +kernel
theorem dX8_looked_10 : decode cX8_looked 10 = .ok (.getfield 228, 3) := by decide +kernel
theorem dX8_looked_13 : decode cX8_looked 13 = .ok (.if_icmp .ge 49, 3) := by decide +kernel
theorem dX8_looked_16 : decode cX8_looked 16 = .ok (.aload_n 0, 1) := by decide +kernel
theorem dX8_looked_17 : decode cX8_looked 17 = .ok (.getfield 14, 3) := by decide +kernel
theorem dX8_looked_20 : decode cX8_looked 20 = .ok (.getfield 74, 3) := by decide +kernel
theorem dX8_looked_23 : decode cX8_looked 23 = .ok (.aload_n 0, 1) := by decide +kernel
theorem dX8_looked_24 : decode cX8_looked 24 = .ok (.getfield 14, 3) := by decide +kernel
theorem dX8_looked_27 : decode cX8_looked 27 = .ok (.getfield 237, 3) := by decide +kernel
theorem dX8_looked_30 : decode cX8_looked 30 = .ok (.getfield 231, 3) := by decide +kernel
theorem dX8_looked_33 : decode cX8_looked 33 = .ok (.iload_n 1, 1) := by decide +kernel
theorem dX8_looked_34 : decode cX8_looked 34 = .ok (.iaload, 1) := by decide +kernel
theorem dX8_looked_35 : decode cX8_looked 35 = .ok (.aaload, 1) := by decide +kernel
theorem dX8_looked_36 : decode cX8_looked 36 = .ok (.getfield 90, 3) := by decide +kernel
theorem dX8_looked_39 : decode cX8_looked 39 = .ok (.aload_n 0, 1) := by decide +kernel
theorem dX8_looked_40 : decode cX8_looked 40 = .ok (.getfield 14, 3) := by decide +kernel
theorem dX8_looked_43 : decode cX8_looked 43 = .ok (.getfield 237, 3) := by decide +kernel
theorem dX8_looked_46 : decode cX8_looked 46 = .ok (.getfield 234, 3) := by decide +kernel
theorem dX8_looked_49 : decode cX8_looked 49 = .ok (.iload_n 1, 1) := by decide +kernel
theorem dX8_looked_50 : decode cX8_looked 50 = .ok (.iaload, 1) := by decide +kernel
theorem dX8_looked_51 : decode cX8_looked 51 = .ok (.if_icmp .eq 5, 3) := by decide +kernel
theorem dX8_looked_54 : decode cX8_looked 54 = .ok (.iload_n 1, 1) := by decide +kernel
theorem dX8_looked_55 : decode cX8_looked 55 = .ok (.ireturn, 1) := by decide +kernel
theorem dX8_looked_56 : decode cX8_looked 56 = .ok (.iinc 1 1, 3) := by decide +kernel
theorem dX8_looked_59 : decode cX8_looked 59 = .ok (.goto (-57), 3) := by decide +kernel
theorem dX8_looked_62 : decode cX8_looked 62 = .ok (.bipush (-5), 2) := by decide +kernel
theorem dX8_looked_64 : decode cX8_looked 64 = .ok (.ireturn, 1) := by decide +kernel
theorem dX8_judge_0 : decode cX8_judge 0 = .ok (.iload_n 1, 1) := by decide +kernel
theorem dX8_judge_1 : decode cX8_judge 1 = .ok (.invokestatic 240, 3) := by decide +kernel
theorem dX8_judge_4 : decode cX8_judge 4 = .ok (.ifCond .ne 5, 3) := by decide +kernel
theorem dX8_judge_7 : decode cX8_judge 7 = .ok (.iconst (-1), 1) := by decide +kernel
theorem dX8_judge_8 : decode cX8_judge 8 = .ok (.ireturn, 1) := by decide +kernel
theorem dX8_judge_9 : decode cX8_judge 9 = .ok (.aload_n 0, 1) := by decide +kernel
theorem dX8_judge_10 : decode cX8_judge 10 = .ok (.getfield 46, 3) := by decide +kernel
theorem dX8_judge_13 : decode cX8_judge 13 = .ok (.iload_n 1, 1) := by decide +kernel
theorem dX8_judge_14 : decode cX8_judge 14 = .ok (.aaload, 1) := by decide +kernel
theorem dX8_judge_15 : decode cX8_judge 15 = .ok (.astore_n 3, 1) := by decide +kernel
theorem dX8_judge_16 : decode cX8_judge 16 = .ok (.aload_n 3, 1) := by decide +kernel
theorem dX8_judge_17 : decode cX8_judge 17 = .ok (.getfield 243, 3) := by decide +kernel
theorem dX8_judge_20 : decode cX8_judge 20 = .ok (.iconst 1, 1) := by decide +kernel
theorem dX8_judge_21 : decode cX8_judge 21 = .ok (.if_icmp .eq 14, 3) := by decide +kernel
theorem dX8_judge_24 : decode cX8_judge 24 = .ok (.aload_n 3, 1) := by decide +kernel
theorem dX8_judge_25 : decode cX8_judge 25 = .ok (.getfield 243, 3) := by decide +kernel
theorem dX8_judge_28 : decode cX8_judge 28 = .ok (.iconst (-1), 1) := by decide +kernel
theorem dX8_judge_29 : decode cX8_judge 29 = .ok (.if_icmp .eq 6, 3) := by decide +kernel
theorem dX8_judge_32 : decode cX8_judge 32 = .ok (.bipush (-12), 2) := by decide +kernel
theorem dX8_judge_34 : decode cX8_judge 34 = .ok (.ireturn, 1) := by decide +kernel
theorem dX8_judge_35 : decode cX8_judge 35 = .ok (.aload_n 0, 1) := by decide +kernel
theorem dX8_judge_36 : decode cX8_judge 36 = .ok (.getfield 14, 3) := by decide +kernel
theorem dX8_judge_39 : decode cX8_judge 39 = .ok (.getfield 222, 3) := by decide +kernel
theorem dX8_judge_42 : decode cX8_judge 42 = .ok (.ifCond .ne 6, 3) := by decide +kernel
theorem dX8_judge_45 : decode cX8_judge 45 = .ok (.bipush (-5), 2) := by decide +kernel
theorem dX8_judge_47 : decode cX8_judge 47 = .ok (.ireturn, 1) := by decide +kernel
theorem dX8_judge_48 : decode cX8_judge 48 = .ok (.iconst 0, 1) := by decide +kernel
theorem dX8_judge_49 : decode cX8_judge 49 = .ok (.istore 4, 2) := by decide +kernel
theorem dX8_judge_51 : decode cX8_judge 51 = .ok (.iload 4, 2) := by decide +kernel
theorem dX8_judge_53 : decode cX8_judge 53 = .ok (.aload_n 0, 1) := by decide +kernel
theorem dX8_judge_54 : decode cX8_judge 54 = .ok (.getfield 14, 3) := by decide +kernel
theorem dX8_judge_57 : decode cX8_judge 57 = .ok (.getfield 222, 3) := by decide +kernel
theorem dX8_judge_60 : decode cX8_judge 60 = .ok (.if_icmp .ge 64, 3) := by decide +kernel
theorem dX8_judge_63 : decode cX8_judge 63 = .ok (.aload_n 3, 1) := by decide +kernel
theorem dX8_judge_64 : decode cX8_judge 64 = .ok (.iload_n 2, 1) := by decide +kernel
theorem dX8_judge_65 : decode cX8_judge 65 = .ok (.invokevirtual 246, 3) := by decide +kernel
theorem dX8_judge_68 : decode cX8_judge 68 = .ok (.ifCond .eq 14, 3) := by decide +kernel
theorem dX8_judge_71 : decode cX8_judge 71 = .ok (.aload_n 3, 1) := by decide +kernel
theorem dX8_judge_72 : decode cX8_judge 72 = .ok (.iload_n 2, 1) := by decide +kernel
theorem dX8_judge_73 : decode cX8_judge 73 = .ok (.iload 4, 2) := by decide +kernel
theorem dX8_judge_75 : decode cX8_judge 75 = .ok (.iadd, 1) := by decide +kernel
theorem dX8_judge_76 : decode cX8_judge 76 = .ok (.invokevirtual 246, 3) := by decide +kernel
theorem dX8_judge_79 : decode cX8_judge 79 = .ok (.ifCond .ne 9, 3) := by decide +kernel
theorem dX8_judge_82 : decode cX8_judge 82 = .ok (.bipush 100, 2) := by decide +kernel
theorem dX8_judge_84 : decode cX8_judge 84 = .ok (.iload 4, 2) := by decide +kernel
theorem dX8_judge_86 : decode cX8_judge 86 = .ok (.iadd, 1) := by decide +kernel
theorem dX8_judge_87 : decode cX8_judge 87 = .ok (.ireturn, 1) := by decide +kernel
theorem dX8_judge_88 : decode cX8_judge 88 = .ok (.aload_n 3, 1) := by decide +kernel
theorem dX8_judge_89 : decode cX8_judge 89 = .ok (.getfield 249, 3) := by decide +kernel
theorem dX8_judge_92 : decode cX8_judge 92 = .ok (.iload_n 2, 1) := by decide +kernel
theorem dX8_judge_93 : decode cX8_judge 93 = .ok (.iload 4, 2) := by decide +kernel
theorem dX8_judge_95 : decode cX8_judge 95 = .ok (.iadd, 1) := by decide +kernel
theorem dX8_judge_96 : decode cX8_judge 96 = .ok (.laload, 1) := by decide +kernel
theorem dX8_judge_97 : decode cX8_judge 97 = .ok (.aload_n 0, 1) := by decide +kernel
theorem dX8_judge_98 : decode cX8_judge 98 = .ok (.getfield 14, 3) := by decide +kernel
theorem dX8_judge_101 : decode cX8_judge 101 = .ok (.getfield 74, 3) := by decide +kernel
theorem dX8_judge_104 : decode cX8_judge 104 = .ok (.iload 4, 2) := by decide +kernel
theorem dX8_judge_106 : decode cX8_judge 106 = .ok (.aaload, 1) := by decide +kernel
theorem dX8_judge_107 : decode cX8_judge 107 = .ok (.getfield 96, 3) := by decide +kernel
theorem dX8_judge_110 : decode cX8_judge 110 = .ok (.i2l, 1) := by decide +kernel
theorem dX8_judge_111 : decode cX8_judge 111 = .ok (.lcmp, 1) := by decide +kernel
theorem dX8_judge_112 : decode cX8_judge 112 = .ok (.ifCond .eq 6, 3) := by decide +kernel
theorem dX8_judge_115 : decode cX8_judge 115 = .ok (.iload 4, 2) := by decide +kernel
theorem dX8_judge_117 : decode cX8_judge 117 = .ok (.ireturn, 1) := by decide +kernel
theorem dX8_judge_118 : decode cX8_judge 118 = .ok (.iinc 4 1, 3) := by decide +kernel
theorem dX8_judge_121 : decode cX8_judge 121 = .ok (.goto (-70), 3) := by decide +kernel
theorem dX8_judge_124 : decode cX8_judge 124 = .ok (.bipush (-5), 2) := by decide +kernel
theorem dX8_judge_126 : decode cX8_judge 126 = .ok (.ireturn, 1) := by decide +kernel
theorem dX8_image_0 : decode cX8_image 0 = .ok (.aload_n 0, 1) := by decide +kernel
theorem dX8_image_1 : decode cX8_image 1 = .ok (.getfield 18, 3) := by decide +kernel
theorem dX8_image_4 : decode cX8_image 4 = .ok (.aload_n 0, 1) := by decide +kernel
theorem dX8_image_5 : decode cX8_image 5 = .ok (.getfield 14, 3) := by decide +kernel
theorem dX8_image_8 : decode cX8_image 8 = .ok (.invokevirtual 181, 3) := by decide +kernel
theorem dX8_image_11 : decode cX8_image 11 = .ok (.aload_n 0, 1) := by decide +kernel
theorem dX8_image_12 : decode cX8_image 12 = .ok (.iconst 1, 1) := by decide +kernel
theorem dX8_image_13 : decode cX8_image 13 = .ok (.putfield 253, 3) := by decide +kernel
theorem dX8_image_16 : decode cX8_image 16 = .ok (.aload_n 0, 1) := by decide +kernel
theorem dX8_image_17 : decode cX8_image 17 = .ok (.getfield 14, 3) := by decide +kernel
theorem dX8_image_20 : decode cX8_image 20 = .ok (.getfield 222, 3) := by decide +kernel
theorem dX8_image_23 : decode cX8_image 23 = .ok (.ireturn, 1) := by decide +kernel
theorem dX8_undo_0 : decode cX8_undo 0 = .ok (.aload_n 0, 1) := by decide +kernel
theorem dX8_undo_1 : decode cX8_undo 1 = .ok (.getfield 253, 3) := by decide +kernel
theorem dX8_undo_4 : decode cX8_undo 4 = .ok (.ifCond .ne 6, 3) := by decide +kernel
theorem dX8_undo_7 : decode cX8_undo 7 = .ok (.bipush (-3), 2) := by decide +kernel
theorem dX8_undo_9 : decode cX8_undo 9 = .ok (.ireturn, 1) := by decide +kernel
theorem dX8_undo_10 : decode cX8_undo 10 = .ok (.aload_n 0, 1) := by decide +kernel
theorem dX8_undo_11 : decode cX8_undo 11 = .ok (.getfield 14, 3) := by decide +kernel
theorem dX8_undo_14 : decode cX8_undo 14 = .ok (.aload_n 0, 1) := by decide +kernel
theorem dX8_undo_15 : decode cX8_undo 15 = .ok (.getfield 18, 3) := by decide +kernel
theorem dX8_undo_18 : decode cX8_undo 18 = .ok (.invokevirtual 181, 3) := by decide +kernel
theorem dX8_undo_21 : decode cX8_undo 21 = .ok (.aload_n 0, 1) := by decide +kernel
theorem dX8_undo_22 : decode cX8_undo 22 = .ok (.getfield 14, 3) := by decide +kernel
theorem dX8_undo_25 : decode cX8_undo 25 = .ok (.getfield 222, 3) := by decide +kernel
theorem dX8_undo_28 : decode cX8_undo 28 = .ok (.ireturn, 1) := by decide +kernel
theorem dX8_act_0 : decode cX8_act 0 = .ok (.aload_n 0, 1) := by decide +kernel
theorem dX8_act_1 : decode cX8_act 1 = .ok (.iload_n 1, 1) := by decide +kernel
theorem dX8_act_2 : decode cX8_act 2 = .ok (.invokevirtual 71, 3) := by decide +kernel
theorem dX8_act_5 : decode cX8_act 5 = .ok (.ifCond .eq 12, 3) := by decide +kernel
theorem dX8_act_8 : decode cX8_act 8 = .ok (.iload_n 2, 1) := by decide +kernel
theorem dX8_act_9 : decode cX8_act 9 = .ok (.ifCond .lt 8, 3) := by decide +kernel
theorem dX8_act_12 : decode cX8_act 12 = .ok (.iload_n 2, 1) := by decide +kernel
theorem dX8_act_13 : decode cX8_act 13 = .ok (.iconst 3, 1) := by decide +kernel
theorem dX8_act_14 : decode cX8_act 14 = .ok (.if_icmp .lt 13, 3) := by decide +kernel
theorem dX8_act_17 : decode cX8_act 17 = .ok (.aload_n 0, 1) := by decide +kernel
theorem dX8_act_18 : decode cX8_act 18 = .ok (.getfield 53, 3) := by decide +kernel
theorem dX8_act_21 : decode cX8_act 21 = .ok (.iconst 0, 1) := by decide +kernel
theorem dX8_act_22 : decode cX8_act 22 = .ok (.putfield 257, 3) := by decide +kernel
theorem dX8_act_25 : decode cX8_act 25 = .ok (.iconst 0, 1) := by decide +kernel
theorem dX8_act_26 : decode cX8_act 26 = .ok (.ireturn, 1) := by decide +kernel
theorem dX8_act_27 : decode cX8_act 27 = .ok (.aload_n 0, 1) := by decide +kernel
theorem dX8_act_28 : decode cX8_act 28 = .ok (.getfield 53, 3) := by decide +kernel
theorem dX8_act_31 : decode cX8_act 31 = .ok (.aload_n 0, 1) := by decide +kernel
theorem dX8_act_32 : decode cX8_act 32 = .ok (.getfield 14, 3) := by decide +kernel
theorem dX8_act_35 : decode cX8_act 35 = .ok (.getfield 74, 3) := by decide +kernel
theorem dX8_act_38 : decode cX8_act 38 = .ok (.iload_n 1, 1) := by decide +kernel
theorem dX8_act_39 : decode cX8_act 39 = .ok (.aaload, 1) := by decide +kernel
theorem dX8_act_40 : decode cX8_act 40 = .ok (.iload_n 1, 1) := by decide +kernel
theorem dX8_act_41 : decode cX8_act 41 = .ok (.iload_n 2, 1) := by decide +kernel
theorem dX8_act_42 : decode cX8_act 42 = .ok (.iload_n 3, 1) := by decide +kernel
theorem dX8_act_43 : decode cX8_act 43 = .ok (.invokevirtual 260, 3) := by decide +kernel
theorem dX8_act_46 : decode cX8_act 46 = .ok (.ireturn, 1) := by decide +kernel
theorem dX8_trace_0 : decode cX8_trace 0 = .ok (.iload_n 1, 1) := by decide +kernel
theorem dX8_trace_1 : decode cX8_trace 1 = .ok (.ifCond .lt 32, 3) := by decide +kernel
theorem dX8_trace_4 : decode cX8_trace 4 = .ok (.iload_n 1, 1) := by decide +kernel
theorem dX8_trace_5 : decode cX8_trace 5 = .ok (.aload_n 0, 1) := by decide +kernel
theorem dX8_trace_6 : decode cX8_trace 6 = .ok (.getfield 53, 3) := by decide +kernel
theorem dX8_trace_9 : decode cX8_trace 9 = .ok (.getfield 257, 3) := by decide +kernel
theorem dX8_trace_12 : decode cX8_trace 12 = .ok (.if_icmp .ge 21, 3) := by decide +kernel
theorem dX8_trace_15 : decode cX8_trace 15 = .ok (.iload_n 1, 1) := by decide +kernel
theorem dX8_trace_16 : decode cX8_trace 16 = .ok (.bipush 20, 2) := by decide +kernel
theorem dX8_trace_18 : decode cX8_trace 18 = .ok (.if_icmp .ge 15, 3) := by decide +kernel
theorem dX8_trace_21 : decode cX8_trace 21 = .ok (.aload_n 0, 1) := by decide +kernel
theorem dX8_trace_22 : decode cX8_trace 22 = .ok (.getfield 53, 3) := by decide +kernel
theorem dX8_trace_25 : decode cX8_trace 25 = .ok (.getfield 264, 3) := by decide +kernel
theorem dX8_trace_28 : decode cX8_trace 28 = .ok (.iload_n 1, 1) := by decide +kernel
theorem dX8_trace_29 : decode cX8_trace 29 = .ok (.iaload, 1) := by decide +kernel
theorem dX8_trace_30 : decode cX8_trace 30 = .ok (.goto 4, 3) := by decide +kernel
theorem dX8_trace_33 : decode cX8_trace 33 = .ok (.iconst (-1), 1) := by decide +kernel
theorem dX8_trace_34 : decode cX8_trace 34 = .ok (.ireturn, 1) := by decide +kernel
theorem dX8_taken_0 : decode cX8_taken 0 = .ok (.iload_n 2, 1) := by decide +kernel
theorem dX8_taken_1 : decode cX8_taken 1 = .ok (.ifCond .lt 9, 3) := by decide +kernel
theorem dX8_taken_4 : decode cX8_taken 4 = .ok (.iload_n 2, 1) := by decide +kernel
theorem dX8_taken_5 : decode cX8_taken 5 = .ok (.bipush 7, 2) := by decide +kernel
theorem dX8_taken_7 : decode cX8_taken 7 = .ok (.if_icmp .lt 6, 3) := by decide +kernel
theorem dX8_taken_10 : decode cX8_taken 10 = .ok (.bipush (-2), 2) := by decide +kernel
theorem dX8_taken_12 : decode cX8_taken 12 = .ok (.ireturn, 1) := by decide +kernel
theorem dX8_taken_13 : decode cX8_taken 13 = .ok (.aload_n 0, 1) := by decide +kernel
theorem dX8_taken_14 : decode cX8_taken 14 = .ok (.iload_n 1, 1) := by decide +kernel
theorem dX8_taken_15 : decode cX8_taken 15 = .ok (.invokevirtual 71, 3) := by decide +kernel
theorem dX8_taken_18 : decode cX8_taken 18 = .ok (.ifCond .ne 6, 3) := by decide +kernel
theorem dX8_taken_21 : decode cX8_taken 21 = .ok (.bipush (-11), 2) := by decide +kernel
theorem dX8_taken_23 : decode cX8_taken 23 = .ok (.ireturn, 1) := by decide +kernel
theorem dX8_taken_24 : decode cX8_taken 24 = .ok (.aload_n 0, 1) := by decide +kernel
theorem dX8_taken_25 : decode cX8_taken 25 = .ok (.getfield 14, 3) := by decide +kernel
theorem dX8_taken_28 : decode cX8_taken 28 = .ok (.getfield 74, 3) := by decide +kernel
theorem dX8_taken_31 : decode cX8_taken 31 = .ok (.iload_n 1, 1) := by decide +kernel
theorem dX8_taken_32 : decode cX8_taken 32 = .ok (.aaload, 1) := by decide +kernel
theorem dX8_taken_33 : decode cX8_taken 33 = .ok (.getfield 78, 3) := by decide +kernel
theorem dX8_taken_36 : decode cX8_taken 36 = .ok (.istore_n 3, 1) := by decide +kernel
theorem dX8_taken_37 : decode cX8_taken 37 = .ok (.iload_n 3, 1) := by decide +kernel
theorem dX8_taken_38 : decode cX8_taken 38 = .ok (.iload_n 2, 1) := by decide +kernel
theorem dX8_taken_39 : decode cX8_taken 39 = .ok (.invokestatic 267, 3) := by decide +kernel
theorem dX8_taken_42 : decode cX8_taken 42 = .ok (.ifCond .eq 7, 3) := by decide +kernel
theorem dX8_taken_45 : decode cX8_taken 45 = .ok (.iload_n 3, 1) := by decide +kernel
theorem dX8_taken_46 : decode cX8_taken 46 = .ok (.goto 5, 3) := by decide +kernel
theorem dX8_taken_49 : decode cX8_taken 49 = .ok (.bipush (-12), 2) := by decide +kernel
theorem dX8_taken_51 : decode cX8_taken 51 = .ok (.ireturn, 1) := by decide +kernel
theorem dX8_count_0 : decode cX8_count 0 = .ok (.iload_n 1, 1) := by decide +kernel
theorem dX8_count_1 : decode cX8_count 1 = .ok (.tableswitch 117 0 7 #[47, 55, 63, 68, 79, 90, 101, 109], 47) := by decide +kernel
theorem dX8_count_48 : decode cX8_count 48 = .ok (.aload_n 0, 1) := by decide +kernel
theorem dX8_count_49 : decode cX8_count 49 = .ok (.getfield 14, 3) := by decide +kernel
theorem dX8_count_52 : decode cX8_count 52 = .ok (.getfield 222, 3) := by decide +kernel
theorem dX8_count_55 : decode cX8_count 55 = .ok (.ireturn, 1) := by decide +kernel
theorem dX8_count_56 : decode cX8_count 56 = .ok (.aload_n 0, 1) := by decide +kernel
theorem dX8_count_57 : decode cX8_count 57 = .ok (.getfield 14, 3) := by decide +kernel
theorem dX8_count_60 : decode cX8_count 60 = .ok (.getfield 195, 3) := by decide +kernel
theorem dX8_count_63 : decode cX8_count 63 = .ok (.ireturn, 1) := by decide +kernel
theorem dX8_count_64 : decode cX8_count 64 = .ok (.aload_n 0, 1) := by decide +kernel
theorem dX8_count_65 : decode cX8_count 65 = .ok (.getfield 150, 3) := by decide +kernel
theorem dX8_count_68 : decode cX8_count 68 = .ok (.ireturn, 1) := by decide +kernel
theorem dX8_count_69 : decode cX8_count 69 = .ok (.aload_n 0, 1) := by decide +kernel
theorem dX8_count_70 : decode cX8_count 70 = .ok (.getfield 14, 3) := by decide +kernel
theorem dX8_count_73 : decode cX8_count 73 = .ok (.getfield 198, 3) := by decide +kernel
theorem dX8_count_76 : decode cX8_count 76 = .ok (.getfield 228, 3) := by decide +kernel
theorem dX8_count_79 : decode cX8_count 79 = .ok (.ireturn, 1) := by decide +kernel
theorem dX8_count_80 : decode cX8_count 80 = .ok (.aload_n 0, 1) := by decide +kernel
theorem dX8_count_81 : decode cX8_count 81 = .ok (.getfield 14, 3) := by decide +kernel
theorem dX8_count_84 : decode cX8_count 84 = .ok (.getfield 225, 3) := by decide +kernel
theorem dX8_count_87 : decode cX8_count 87 = .ok (.getfield 228, 3) := by decide +kernel
theorem dX8_count_90 : decode cX8_count 90 = .ok (.ireturn, 1) := by decide +kernel
theorem dX8_count_91 : decode cX8_count 91 = .ok (.aload_n 0, 1) := by decide +kernel
theorem dX8_count_92 : decode cX8_count 92 = .ok (.getfield 14, 3) := by decide +kernel
theorem dX8_count_95 : decode cX8_count 95 = .ok (.getfield 237, 3) := by decide +kernel
theorem dX8_count_98 : decode cX8_count 98 = .ok (.getfield 228, 3) := by decide +kernel
theorem dX8_count_101 : decode cX8_count 101 = .ok (.ireturn, 1) := by decide +kernel
theorem dX8_count_102 : decode cX8_count 102 = .ok (.aload_n 0, 1) := by decide +kernel
theorem dX8_count_103 : decode cX8_count 103 = .ok (.getfield 34, 3) := by decide +kernel
theorem dX8_count_106 : decode cX8_count 106 = .ok (.getfield 157, 3) := by decide +kernel
theorem dX8_count_109 : decode cX8_count 109 = .ok (.ireturn, 1) := by decide +kernel
theorem dX8_count_110 : decode cX8_count 110 = .ok (.aload_n 0, 1) := by decide +kernel
theorem dX8_count_111 : decode cX8_count 111 = .ok (.getfield 53, 3) := by decide +kernel
theorem dX8_count_114 : decode cX8_count 114 = .ok (.getfield 257, 3) := by decide +kernel
theorem dX8_count_117 : decode cX8_count 117 = .ok (.ireturn, 1) := by decide +kernel
theorem dX8_count_118 : decode cX8_count 118 = .ok (.bipush (-2), 2) := by decide +kernel
theorem dX8_count_120 : decode cX8_count 120 = .ok (.ireturn, 1) := by decide +kernel
theorem dX8_tape_0 : decode cX8_tape 0 = .ok (.iload_n 1, 1) := by decide +kernel
theorem dX8_tape_1 : decode cX8_tape 1 = .ok (.invokestatic 240, 3) := by decide +kernel
theorem dX8_tape_4 : decode cX8_tape 4 = .ok (.ifCond .ne 5, 3) := by decide +kernel
theorem dX8_tape_7 : decode cX8_tape 7 = .ok (.iconst (-1), 1) := by decide +kernel
theorem dX8_tape_8 : decode cX8_tape 8 = .ok (.ireturn, 1) := by decide +kernel
theorem dX8_tape_9 : decode cX8_tape 9 = .ok (.iload_n 2, 1) := by decide +kernel
theorem dX8_tape_10 : decode cX8_tape 10 = .ok (.iconst (-1), 1) := by decide +kernel
theorem dX8_tape_11 : decode cX8_tape 11 = .ok (.if_icmp .lt 19, 3) := by decide +kernel
theorem dX8_tape_14 : decode cX8_tape 14 = .ok (.iload_n 2, 1) := by decide +kernel
theorem dX8_tape_15 : decode cX8_tape 15 = .ok (.iconst 4, 1) := by decide +kernel
theorem dX8_tape_16 : decode cX8_tape 16 = .ok (.if_icmp .gt 14, 3) := by decide +kernel
theorem dX8_tape_19 : decode cX8_tape 19 = .ok (.iload_n 2, 1) := by decide +kernel
theorem dX8_tape_20 : decode cX8_tape 20 = .ok (.iconst (-1), 1) := by decide +kernel
theorem dX8_tape_21 : decode cX8_tape 21 = .ok (.if_icmp .eq 12, 3) := by decide +kernel
theorem dX8_tape_24 : decode cX8_tape 24 = .ok (.iload_n 3, 1) := by decide +kernel
theorem dX8_tape_25 : decode cX8_tape 25 = .ok (.bipush 60, 2) := by decide +kernel
theorem dX8_tape_27 : decode cX8_tape 27 = .ok (.if_icmp .le 6, 3) := by decide +kernel
theorem dX8_tape_30 : decode cX8_tape 30 = .ok (.bipush (-2), 2) := by decide +kernel
theorem dX8_tape_32 : decode cX8_tape 32 = .ok (.ireturn, 1) := by decide +kernel
theorem dX8_tape_33 : decode cX8_tape 33 = .ok (.iload_n 2, 1) := by decide +kernel
theorem dX8_tape_34 : decode cX8_tape 34 = .ok (.iconst (-1), 1) := by decide +kernel
theorem dX8_tape_35 : decode cX8_tape 35 = .ok (.if_icmp .eq 10, 3) := by decide +kernel
theorem dX8_tape_38 : decode cX8_tape 38 = .ok (.iload_n 3, 1) := by decide +kernel
theorem dX8_tape_39 : decode cX8_tape 39 = .ok (.ifCond .ge 6, 3) := by decide +kernel
theorem dX8_tape_42 : decode cX8_tape 42 = .ok (.bipush (-14), 2) := by decide +kernel
theorem dX8_tape_44 : decode cX8_tape 44 = .ok (.ireturn, 1) := by decide +kernel
theorem dX8_tape_45 : decode cX8_tape 45 = .ok (.aload_n 0, 1) := by decide +kernel
theorem dX8_tape_46 : decode cX8_tape 46 = .ok (.getfield 46, 3) := by decide +kernel
theorem dX8_tape_49 : decode cX8_tape 49 = .ok (.iload_n 1, 1) := by decide +kernel
theorem dX8_tape_50 : decode cX8_tape 50 = .ok (.aaload, 1) := by decide +kernel
theorem dX8_tape_51 : decode cX8_tape 51 = .ok (.iload_n 2, 1) := by decide +kernel
theorem dX8_tape_52 : decode cX8_tape 52 = .ok (.iload_n 2, 1) := by decide +kernel
theorem dX8_tape_53 : decode cX8_tape 53 = .ok (.iconst (-1), 1) := by decide +kernel
theorem dX8_tape_54 : decode cX8_tape 54 = .ok (.if_icmp .ne 7, 3) := by decide +kernel
theorem dX8_tape_57 : decode cX8_tape 57 = .ok (.iconst 0, 1) := by decide +kernel
theorem dX8_tape_58 : decode cX8_tape 58 = .ok (.goto 4, 3) := by decide +kernel
theorem dX8_tape_61 : decode cX8_tape 61 = .ok (.iload_n 3, 1) := by decide +kernel
theorem dX8_tape_62 : decode cX8_tape 62 = .ok (.invokevirtual 270, 3) := by decide +kernel
theorem dX8_tape_65 : decode cX8_tape 65 = .ok (.iconst 1, 1) := by decide +kernel
theorem dX8_tape_66 : decode cX8_tape 66 = .ok (.ireturn, 1) := by decide +kernel
theorem dX8_item_0 : decode cX8_item 0 = .ok (.iload_n 1, 1) := by decide +kernel
theorem dX8_item_1 : decode cX8_item 1 = .ok (.invokestatic 240, 3) := by decide +kernel
theorem dX8_item_4 : decode cX8_item 4 = .ok (.ifCond .ne 5, 3) := by decide +kernel
theorem dX8_item_7 : decode cX8_item 7 = .ok (.iconst (-1), 1) := by decide +kernel
theorem dX8_item_8 : decode cX8_item 8 = .ok (.ireturn, 1) := by decide +kernel
theorem dX8_item_9 : decode cX8_item 9 = .ok (.aload_n 0, 1) := by decide +kernel
theorem dX8_item_10 : decode cX8_item 10 = .ok (.getfield 46, 3) := by decide +kernel
theorem dX8_item_13 : decode cX8_item 13 = .ok (.iload_n 1, 1) := by decide +kernel
theorem dX8_item_14 : decode cX8_item 14 = .ok (.aaload, 1) := by decide +kernel
theorem dX8_item_15 : decode cX8_item 15 = .ok (.astore 5, 2) := by decide +kernel
theorem dX8_item_17 : decode cX8_item 17 = .ok (.aload 5, 2) := by decide +kernel
theorem dX8_item_19 : decode cX8_item 19 = .ok (.getfield 243, 3) := by decide +kernel
theorem dX8_item_22 : decode cX8_item 22 = .ok (.iconst (-1), 1) := by decide +kernel
theorem dX8_item_23 : decode cX8_item 23 = .ok (.if_icmp .ne 6, 3) := by decide +kernel
theorem dX8_item_26 : decode cX8_item 26 = .ok (.bipush (-11), 2) := by decide +kernel
theorem dX8_item_28 : decode cX8_item 28 = .ok (.ireturn, 1) := by decide +kernel
theorem dX8_item_29 : decode cX8_item 29 = .ok (.aload 5, 2) := by decide +kernel
theorem dX8_item_31 : decode cX8_item 31 = .ok (.iload_n 2, 1) := by decide +kernel
theorem dX8_item_32 : decode cX8_item 32 = .ok (.invokevirtual 246, 3) := by decide +kernel
theorem dX8_item_35 : decode cX8_item 35 = .ok (.ifCond .ne 6, 3) := by decide +kernel
theorem dX8_item_38 : decode cX8_item 38 = .ok (.bipush (-13), 2) := by decide +kernel
theorem dX8_item_40 : decode cX8_item 40 = .ok (.ireturn, 1) := by decide +kernel
theorem dX8_item_41 : decode cX8_item 41 = .ok (.aload 5, 2) := by decide +kernel
theorem dX8_item_43 : decode cX8_item 43 = .ok (.getfield 249, 3) := by decide +kernel
theorem dX8_item_46 : decode cX8_item 46 = .ok (.iload_n 2, 1) := by decide +kernel
theorem dX8_item_47 : decode cX8_item 47 = .ok (.aload 5, 2) := by decide +kernel
theorem dX8_item_49 : decode cX8_item 49 = .ok (.lload_n 3, 1) := by decide +kernel
theorem dX8_item_50 : decode cX8_item 50 = .ok (.invokevirtual 273, 3) := by decide +kernel
theorem dX8_item_53 : decode cX8_item 53 = .ok (.lastore, 1) := by decide +kernel
theorem dX8_item_54 : decode cX8_item 54 = .ok (.iconst 1, 1) := by decide +kernel
theorem dX8_item_55 : decode cX8_item 55 = .ok (.ireturn, 1) := by decide +kernel
theorem dX8_read_0 : decode cX8_read 0 = .ok (.iload_n 1, 1) := by decide +kernel
theorem dX8_read_1 : decode cX8_read 1 = .ok (.invokestatic 240, 3) := by decide +kernel
theorem dX8_read_4 : decode cX8_read 4 = .ok (.ifCond .eq 30, 3) := by decide +kernel
theorem dX8_read_7 : decode cX8_read 7 = .ok (.aload_n 0, 1) := by decide +kernel
theorem dX8_read_8 : decode cX8_read 8 = .ok (.getfield 46, 3) := by decide +kernel
theorem dX8_read_11 : decode cX8_read 11 = .ok (.iload_n 1, 1) := by decide +kernel
theorem dX8_read_12 : decode cX8_read 12 = .ok (.aaload, 1) := by decide +kernel
theorem dX8_read_13 : decode cX8_read 13 = .ok (.iload_n 2, 1) := by decide +kernel
theorem dX8_read_14 : decode cX8_read 14 = .ok (.invokevirtual 246, 3) := by decide +kernel
theorem dX8_read_17 : decode cX8_read 17 = .ok (.ifCond .eq 17, 3) := by decide +kernel
theorem dX8_read_20 : decode cX8_read 20 = .ok (.aload_n 0, 1) := by decide +kernel
theorem dX8_read_21 : decode cX8_read 21 = .ok (.getfield 46, 3) := by decide +kernel
theorem dX8_read_24 : decode cX8_read 24 = .ok (.iload_n 1, 1) := by decide +kernel
theorem dX8_read_25 : decode cX8_read 25 = .ok (.aaload, 1) := by decide +kernel
theorem dX8_read_26 : decode cX8_read 26 = .ok (.getfield 249, 3) := by decide +kernel
theorem dX8_read_29 : decode cX8_read 29 = .ok (.iload_n 2, 1) := by decide +kernel
theorem dX8_read_30 : decode cX8_read 30 = .ok (.laload, 1) := by decide +kernel
theorem dX8_read_31 : decode cX8_read 31 = .ok (.goto 6, 3) := by decide +kernel
theorem dX8_read_34 : decode cX8_read 34 = .ok (.ldc2_w 216, 3) := by decide +kernel
theorem dX8_read_37 : decode cX8_read 37 = .ok (.lreturn, 1) := by decide +kernel
theorem dX8_shift_0 : decode cX8_shift 0 = .ok (.iload_n 1, 1) := by decide +kernel
theorem dX8_shift_1 : decode cX8_shift 1 = .ok (.invokestatic 240, 3) := by decide +kernel
theorem dX8_shift_4 : decode cX8_shift 4 = .ok (.ifCond .eq 10, 3) := by decide +kernel
theorem dX8_shift_7 : decode cX8_shift 7 = .ok (.iload_n 3, 1) := by decide +kernel
theorem dX8_shift_8 : decode cX8_shift 8 = .ok (.invokestatic 240, 3) := by decide +kernel
theorem dX8_shift_11 : decode cX8_shift 11 = .ok (.ifCond .ne 5, 3) := by decide +kernel
theorem dX8_shift_14 : decode cX8_shift 14 = .ok (.iconst (-1), 1) := by decide +kernel
theorem dX8_shift_15 : decode cX8_shift 15 = .ok (.ireturn, 1) := by decide +kernel
theorem dX8_shift_16 : decode cX8_shift 16 = .ok (.aload_n 0, 1) := by decide +kernel
theorem dX8_shift_17 : decode cX8_shift 17 = .ok (.getfield 46, 3) := by decide +kernel
theorem dX8_shift_20 : decode cX8_shift 20 = .ok (.iload_n 1, 1) := by decide +kernel
theorem dX8_shift_21 : decode cX8_shift 21 = .ok (.aaload, 1) := by decide +kernel
theorem dX8_shift_22 : decode cX8_shift 22 = .ok (.astore 6, 2) := by decide +kernel
theorem dX8_shift_24 : decode cX8_shift 24 = .ok (.aload_n 0, 1) := by decide +kernel
theorem dX8_shift_25 : decode cX8_shift 25 = .ok (.getfield 46, 3) := by decide +kernel
theorem dX8_shift_28 : decode cX8_shift 28 = .ok (.iload_n 3, 1) := by decide +kernel
theorem dX8_shift_29 : decode cX8_shift 29 = .ok (.aaload, 1) := by decide +kernel
theorem dX8_shift_30 : decode cX8_shift 30 = .ok (.astore 7, 2) := by decide +kernel
theorem dX8_shift_32 : decode cX8_shift 32 = .ok (.aload 6, 2) := by decide +kernel
theorem dX8_shift_34 : decode cX8_shift 34 = .ok (.getfield 243, 3) := by decide +kernel
theorem dX8_shift_37 : decode cX8_shift 37 = .ok (.iconst (-1), 1) := by decide +kernel
theorem dX8_shift_38 : decode cX8_shift 38 = .ok (.if_icmp .eq 12, 3) := by decide +kernel
theorem dX8_shift_41 : decode cX8_shift 41 = .ok (.aload 7, 2) := by decide +kernel
theorem dX8_shift_43 : decode cX8_shift 43 = .ok (.getfield 243, 3) := by decide +kernel
theorem dX8_shift_46 : decode cX8_shift 46 = .ok (.iconst (-1), 1) := by decide +kernel
theorem dX8_shift_47 : decode cX8_shift 47 = .ok (.if_icmp .ne 6, 3) := by decide +kernel
theorem dX8_shift_50 : decode cX8_shift 50 = .ok (.bipush (-11), 2) := by decide +kernel
theorem dX8_shift_52 : decode cX8_shift 52 = .ok (.ireturn, 1) := by decide +kernel
theorem dX8_shift_53 : decode cX8_shift 53 = .ok (.aload 6, 2) := by decide +kernel
theorem dX8_shift_55 : decode cX8_shift 55 = .ok (.getfield 243, 3) := by decide +kernel
theorem dX8_shift_58 : decode cX8_shift 58 = .ok (.aload 7, 2) := by decide +kernel
theorem dX8_shift_60 : decode cX8_shift 60 = .ok (.getfield 243, 3) := by decide +kernel
theorem dX8_shift_63 : decode cX8_shift 63 = .ok (.if_icmp .eq 6, 3) := by decide +kernel
theorem dX8_shift_66 : decode cX8_shift 66 = .ok (.bipush (-12), 2) := by decide +kernel
theorem dX8_shift_68 : decode cX8_shift 68 = .ok (.ireturn, 1) := by decide +kernel
theorem dX8_shift_69 : decode cX8_shift 69 = .ok (.aload 6, 2) := by decide +kernel
theorem dX8_shift_71 : decode cX8_shift 71 = .ok (.iload_n 2, 1) := by decide +kernel
theorem dX8_shift_72 : decode cX8_shift 72 = .ok (.iload 5, 2) := by decide +kernel
theorem dX8_shift_74 : decode cX8_shift 74 = .ok (.invokevirtual 277, 3) := by decide +kernel
theorem dX8_shift_77 : decode cX8_shift 77 = .ok (.ifCond .eq 15, 3) := by decide +kernel
theorem dX8_shift_80 : decode cX8_shift 80 = .ok (.aload 7, 2) := by decide +kernel
theorem dX8_shift_82 : decode cX8_shift 82 = .ok (.iload 4, 2) := by decide +kernel
theorem dX8_shift_84 : decode cX8_shift 84 = .ok (.iload 5, 2) := by decide +kernel
theorem dX8_shift_86 : decode cX8_shift 86 = .ok (.invokevirtual 277, 3) := by decide +kernel
theorem dX8_shift_89 : decode cX8_shift 89 = .ok (.ifCond .ne 6, 3) := by decide +kernel
theorem dX8_shift_92 : decode cX8_shift 92 = .ok (.bipush (-13), 2) := by decide +kernel
theorem dX8_shift_94 : decode cX8_shift 94 = .ok (.ireturn, 1) := by decide +kernel
theorem dX8_shift_95 : decode cX8_shift 95 = .ok (.aload 6, 2) := by decide +kernel
theorem dX8_shift_97 : decode cX8_shift 97 = .ok (.getfield 249, 3) := by decide +kernel
theorem dX8_shift_100 : decode cX8_shift 100 = .ok (.iload_n 2, 1) := by decide +kernel
theorem dX8_shift_101 : decode cX8_shift 101 = .ok (.aload 7, 2) := by decide +kernel
theorem dX8_shift_103 : decode cX8_shift 103 = .ok (.getfield 249, 3) := by decide +kernel
theorem dX8_shift_106 : decode cX8_shift 106 = .ok (.iload 4, 2) := by decide +kernel
theorem dX8_shift_108 : decode cX8_shift 108 = .ok (.iload 5, 2) := by decide +kernel
theorem dX8_shift_110 : decode cX8_shift 110 = .ok (.invokestatic 280, 3) := by decide +kernel
theorem dX8_shift_113 : decode cX8_shift 113 = .ok (.iload 5, 2) := by decide +kernel
theorem dX8_shift_115 : decode cX8_shift 115 = .ok (.ireturn, 1) := by decide +kernel
theorem dX8_isQuarter_0 : decode cX8_isQuarter 0 = .ok (.iload_n 0, 1) := by decide +kernel
theorem dX8_isQuarter_1 : decode cX8_isQuarter 1 = .ok (.ifCond .lt 13, 3) := by decide +kernel
theorem dX8_isQuarter_4 : decode cX8_isQuarter 4 = .ok (.iload_n 0, 1) := by decide +kernel
theorem dX8_isQuarter_5 : decode cX8_isQuarter 5 = .ok (.bipush 6, 2) := by decide +kernel
theorem dX8_isQuarter_7 : decode cX8_isQuarter 7 = .ok (.if_icmp .ge 7, 3) := by decide +kernel
theorem dX8_isQuarter_10 : decode cX8_isQuarter 10 = .ok (.iconst 1, 1) := by decide +kernel
theorem dX8_isQuarter_11 : decode cX8_isQuarter 11 = .ok (.goto 4, 3) := by decide +kernel
theorem dX8_isQuarter_14 : decode cX8_isQuarter 14 = .ok (.iconst 0, 1) := by decide +kernel
theorem dX8_isQuarter_15 : decode cX8_isQuarter 15 = .ok (.ireturn, 1) := by decide +kernel
theorem dX8_isTape_0 : decode cX8_isTape 0 = .ok (.iload_n 0, 1) := by decide +kernel
theorem dX8_isTape_1 : decode cX8_isTape 1 = .ok (.ifCond .lt 13, 3) := by decide +kernel
theorem dX8_isTape_4 : decode cX8_isTape 4 = .ok (.iload_n 0, 1) := by decide +kernel
theorem dX8_isTape_5 : decode cX8_isTape 5 = .ok (.bipush 6, 2) := by decide +kernel
theorem dX8_isTape_7 : decode cX8_isTape 7 = .ok (.if_icmp .ge 7, 3) := by decide +kernel
theorem dX8_isTape_10 : decode cX8_isTape 10 = .ok (.iconst 1, 1) := by decide +kernel
theorem dX8_isTape_11 : decode cX8_isTape 11 = .ok (.goto 4, 3) := by decide +kernel
theorem dX8_isTape_14 : decode cX8_isTape 14 = .ok (.iconst 0, 1) := by decide +kernel
theorem dX8_isTape_15 : decode cX8_isTape 15 = .ok (.ireturn, 1) := by decide +kernel
theorem dX8_isPart_0 : decode cX8_isPart 0 = .ok (.iload_n 0, 1) := by decide +kernel
theorem dX8_isPart_1 : decode cX8_isPart 1 = .ok (.ifCond .eq 8, 3) := by decide +kernel
theorem dX8_isPart_4 : decode cX8_isPart 4 = .ok (.iload_n 0, 1) := by decide +kernel
theorem dX8_isPart_5 : decode cX8_isPart 5 = .ok (.iconst 1, 1) := by decide +kernel
theorem dX8_isPart_6 : decode cX8_isPart 6 = .ok (.if_icmp .ne 7, 3) := by decide +kernel
theorem dX8_isPart_9 : decode cX8_isPart 9 = .ok (.iconst 1, 1) := by decide +kernel
theorem dX8_isPart_10 : decode cX8_isPart 10 = .ok (.goto 4, 3) := by decide +kernel
theorem dX8_isPart_13 : decode cX8_isPart 13 = .ok (.iconst 0, 1) := by decide +kernel
theorem dX8_isPart_14 : decode cX8_isPart 14 = .ok (.ireturn, 1) := by decide +kernel
theorem dX8_isPerson_0 : decode cX8_isPerson 0 = .ok (.iload_n 1, 1) := by decide +kernel
theorem dX8_isPerson_1 : decode cX8_isPerson 1 = .ok (.ifCond .lt 18, 3) := by decide +kernel
theorem dX8_isPerson_4 : decode cX8_isPerson 4 = .ok (.iload_n 1, 1) := by decide +kernel
theorem dX8_isPerson_5 : decode cX8_isPerson 5 = .ok (.aload_n 0, 1) := by decide +kernel
theorem dX8_isPerson_6 : decode cX8_isPerson 6 = .ok (.getfield 14, 3) := by decide +kernel
theorem dX8_isPerson_9 : decode cX8_isPerson 9 = .ok (.getfield 222, 3) := by decide +kernel
theorem dX8_isPerson_12 : decode cX8_isPerson 12 = .ok (.if_icmp .ge 7, 3) := by decide +kernel
theorem dX8_isPerson_15 : decode cX8_isPerson 15 = .ok (.iconst 1, 1) := by decide +kernel
theorem dX8_isPerson_16 : decode cX8_isPerson 16 = .ok (.goto 4, 3) := by decide +kernel
theorem dX8_isPerson_19 : decode cX8_isPerson 19 = .ok (.iconst 0, 1) := by decide +kernel
theorem dX8_isPerson_20 : decode cX8_isPerson 20 = .ok (.ireturn, 1) := by decide +kernel
theorem dX8_isBridge_0 : decode cX8_isBridge 0 = .ok (.iload_n 1, 1) := by decide +kernel
theorem dX8_isBridge_1 : decode cX8_isBridge 1 = .ok (.ifCond .lt 18, 3) := by decide +kernel
theorem dX8_isBridge_4 : decode cX8_isBridge 4 = .ok (.iload_n 1, 1) := by decide +kernel
theorem dX8_isBridge_5 : decode cX8_isBridge 5 = .ok (.aload_n 0, 1) := by decide +kernel
theorem dX8_isBridge_6 : decode cX8_isBridge 6 = .ok (.getfield 14, 3) := by decide +kernel
theorem dX8_isBridge_9 : decode cX8_isBridge 9 = .ok (.getfield 195, 3) := by decide +kernel
theorem dX8_isBridge_12 : decode cX8_isBridge 12 = .ok (.if_icmp .ge 7, 3) := by decide +kernel
theorem dX8_isBridge_15 : decode cX8_isBridge 15 = .ok (.iconst 1, 1) := by decide +kernel
theorem dX8_isBridge_16 : decode cX8_isBridge 16 = .ok (.goto 4, 3) := by decide +kernel
theorem dX8_isBridge_19 : decode cX8_isBridge 19 = .ok (.iconst 0, 1) := by decide +kernel
theorem dX8_isBridge_20 : decode cX8_isBridge 20 = .ok (.ireturn, 1) := by decide +kernel
theorem dX8_isUnder_0 : decode cX8_isUnder 0 = .ok (.iload_n 0, 1) := by decide +kernel
theorem dX8_isUnder_1 : decode cX8_isUnder 1 = .ok (.istore_n 2, 1) := by decide +kernel
theorem dX8_isUnder_2 : decode cX8_isUnder 2 = .ok (.iconst 0, 1) := by decide +kernel
theorem dX8_isUnder_3 : decode cX8_isUnder 3 = .ok (.istore_n 3, 1) := by decide +kernel
theorem dX8_isUnder_4 : decode cX8_isUnder 4 = .ok (.iload_n 3, 1) := by decide +kernel
theorem dX8_isUnder_5 : decode cX8_isUnder 5 = .ok (.bipush 7, 2) := by decide +kernel
theorem dX8_isUnder_7 : decode cX8_isUnder 7 = .ok (.if_icmp .ge 26, 3) := by decide +kernel
theorem dX8_isUnder_10 : decode cX8_isUnder 10 = .ok (.iload_n 2, 1) := by decide +kernel
theorem dX8_isUnder_11 : decode cX8_isUnder 11 = .ok (.ifCond .lt 22, 3) := by decide +kernel
theorem dX8_isUnder_14 : decode cX8_isUnder 14 = .ok (.iload_n 2, 1) := by decide +kernel
theorem dX8_isUnder_15 : decode cX8_isUnder 15 = .ok (.iload_n 1, 1) := by decide +kernel
theorem dX8_isUnder_16 : decode cX8_isUnder 16 = .ok (.if_icmp .ne 5, 3) := by decide +kernel
theorem dX8_isUnder_19 : decode cX8_isUnder 19 = .ok (.iconst 1, 1) := by decide +kernel
theorem dX8_isUnder_20 : decode cX8_isUnder 20 = .ok (.ireturn, 1) := by decide +kernel
theorem dX8_isUnder_21 : decode cX8_isUnder 21 = .ok (.getstatic 286, 3) := by decide +kernel
theorem dX8_isUnder_24 : decode cX8_isUnder 24 = .ok (.iload_n 2, 1) := by decide +kernel
theorem dX8_isUnder_25 : decode cX8_isUnder 25 = .ok (.iaload, 1) := by decide +kernel
theorem dX8_isUnder_26 : decode cX8_isUnder 26 = .ok (.istore_n 2, 1) := by decide +kernel
theorem dX8_isUnder_27 : decode cX8_isUnder 27 = .ok (.iinc 3 1, 3) := by decide +kernel
theorem dX8_isUnder_30 : decode cX8_isUnder 30 = .ok (.goto (-26), 3) := by decide +kernel
theorem dX8_isUnder_33 : decode cX8_isUnder 33 = .ok (.iconst 0, 1) := by decide +kernel
theorem dX8_isUnder_34 : decode cX8_isUnder 34 = .ok (.ireturn, 1) := by decide +kernel
theorem dX8_lengthOrFar_0 : decode cX8_lengthOrFar 0 = .ok (.iload_n 0, 1) := by decide +kernel
theorem dX8_lengthOrFar_1 : decode cX8_lengthOrFar 1 = .ok (.bipush (-5), 2) := by decide +kernel
theorem dX8_lengthOrFar_3 : decode cX8_lengthOrFar 3 = .ok (.if_icmp .ne 8, 3) := by decide +kernel
theorem dX8_lengthOrFar_6 : decode cX8_lengthOrFar 6 = .ok (.bipush 13, 2) := by decide +kernel
theorem dX8_lengthOrFar_8 : decode cX8_lengthOrFar 8 = .ok (.goto 4, 3) := by decide +kernel
theorem dX8_lengthOrFar_11 : decode cX8_lengthOrFar 11 = .ok (.iload_n 0, 1) := by decide +kernel
theorem dX8_lengthOrFar_12 : decode cX8_lengthOrFar 12 = .ok (.ireturn, 1) := by decide +kernel
theorem dX8_lowest_0 : decode cX8_lowest 0 = .ok (.iconst 1, 1) := by decide +kernel
theorem dX8_lowest_1 : decode cX8_lowest 1 = .ok (.istore_n 3, 1) := by decide +kernel
theorem dX8_lowest_2 : decode cX8_lowest 2 = .ok (.iconst 2, 1) := by decide +kernel
theorem dX8_lowest_3 : decode cX8_lowest 3 = .ok (.istore 4, 2) := by decide +kernel
theorem dX8_lowest_5 : decode cX8_lowest 5 = .ok (.iload 4, 2) := by decide +kernel
theorem dX8_lowest_7 : decode cX8_lowest 7 = .ok (.iload_n 1, 1) := by decide +kernel
theorem dX8_lowest_8 : decode cX8_lowest 8 = .ok (.if_icmp .gt 26, 3) := by decide +kernel
theorem dX8_lowest_11 : decode cX8_lowest 11 = .ok (.iload_n 0, 1) := by decide +kernel
theorem dX8_lowest_12 : decode cX8_lowest 12 = .ok (.iload 4, 2) := by decide +kernel
theorem dX8_lowest_14 : decode cX8_lowest 14 = .ok (.irem, 1) := by decide +kernel
theorem dX8_lowest_15 : decode cX8_lowest 15 = .ok (.ifCond .ne 13, 3) := by decide +kernel
theorem dX8_lowest_18 : decode cX8_lowest 18 = .ok (.iload_n 1, 1) := by decide +kernel
theorem dX8_lowest_19 : decode cX8_lowest 19 = .ok (.iload 4, 2) := by decide +kernel
theorem dX8_lowest_21 : decode cX8_lowest 21 = .ok (.irem, 1) := by decide +kernel
theorem dX8_lowest_22 : decode cX8_lowest 22 = .ok (.ifCond .ne 6, 3) := by decide +kernel
theorem dX8_lowest_25 : decode cX8_lowest 25 = .ok (.iload 4, 2) := by decide +kernel
theorem dX8_lowest_27 : decode cX8_lowest 27 = .ok (.istore_n 3, 1) := by decide +kernel
theorem dX8_lowest_28 : decode cX8_lowest 28 = .ok (.iinc 4 1, 3) := by decide +kernel
theorem dX8_lowest_31 : decode cX8_lowest 31 = .ok (.goto (-26), 3) := by decide +kernel
theorem dX8_lowest_34 : decode cX8_lowest 34 = .ok (.iload_n 2, 1) := by decide +kernel
theorem dX8_lowest_35 : decode cX8_lowest 35 = .ok (.ifCond .ne 7, 3) := by decide +kernel
theorem dX8_lowest_38 : decode cX8_lowest 38 = .ok (.iload_n 0, 1) := by decide +kernel
theorem dX8_lowest_39 : decode cX8_lowest 39 = .ok (.goto 4, 3) := by decide +kernel
theorem dX8_lowest_42 : decode cX8_lowest 42 = .ok (.iload_n 1, 1) := by decide +kernel
theorem dX8_lowest_43 : decode cX8_lowest 43 = .ok (.iload_n 3, 1) := by decide +kernel
theorem dX8_lowest_44 : decode cX8_lowest 44 = .ok (.idiv, 1) := by decide +kernel
theorem dX8_lowest_45 : decode cX8_lowest 45 = .ok (.i2l, 1) := by decide +kernel
theorem dX8_lowest_46 : decode cX8_lowest 46 = .ok (.lreturn, 1) := by decide +kernel
theorem dX8_hoursGo_0 : decode cX8_hoursGo 0 = .ok (.iconst 0, 1) := by decide +kernel
theorem dX8_hoursGo_1 : decode cX8_hoursGo 1 = .ok (.istore 4, 2) := by decide +kernel
theorem dX8_hoursGo_3 : decode cX8_hoursGo 3 = .ok (.iload 4, 2) := by decide +kernel
theorem dX8_hoursGo_5 : decode cX8_hoursGo 5 = .ok (.iload_n 2, 1) := by decide +kernel
theorem dX8_hoursGo_6 : decode cX8_hoursGo 6 = .ok (.if_icmp .ge 143, 3) := by decide +kernel
theorem dX8_hoursGo_9 : decode cX8_hoursGo 9 = .ok (.aload_n 1, 1) := by decide +kernel
theorem dX8_hoursGo_10 : decode cX8_hoursGo 10 = .ok (.getfield 164, 3) := by decide +kernel
theorem dX8_hoursGo_13 : decode cX8_hoursGo 13 = .ok (.bipush 10, 2) := by decide +kernel
theorem dX8_hoursGo_15 : decode cX8_hoursGo 15 = .ok (.irem, 1) := by decide +kernel
theorem dX8_hoursGo_16 : decode cX8_hoursGo 16 = .ok (.aload_n 1, 1) := by decide +kernel
theorem dX8_hoursGo_17 : decode cX8_hoursGo 17 = .ok (.invokevirtual 167, 3) := by decide +kernel
theorem dX8_hoursGo_20 : decode cX8_hoursGo 20 = .ok (.if_icmp .ge 7, 3) := by decide +kernel
theorem dX8_hoursGo_23 : decode cX8_hoursGo 23 = .ok (.iconst 1, 1) := by decide +kernel
theorem dX8_hoursGo_24 : decode cX8_hoursGo 24 = .ok (.goto 4, 3) := by decide +kernel
theorem dX8_hoursGo_27 : decode cX8_hoursGo 27 = .ok (.iconst 0, 1) := by decide +kernel
theorem dX8_hoursGo_28 : decode cX8_hoursGo 28 = .ok (.istore 5, 2) := by decide +kernel
theorem dX8_hoursGo_30 : decode cX8_hoursGo 30 = .ok (.iconst 0, 1) := by decide +kernel
theorem dX8_hoursGo_31 : decode cX8_hoursGo 31 = .ok (.istore 6, 2) := by decide +kernel
theorem dX8_hoursGo_33 : decode cX8_hoursGo 33 = .ok (.iload 6, 2) := by decide +kernel
theorem dX8_hoursGo_35 : decode cX8_hoursGo 35 = .ok (.aload_n 1, 1) := by decide +kernel
theorem dX8_hoursGo_36 : decode cX8_hoursGo 36 = .ok (.getfield 222, 3) := by decide +kernel
theorem dX8_hoursGo_39 : decode cX8_hoursGo 39 = .ok (.if_icmp .ge 94, 3) := by decide +kernel
theorem dX8_hoursGo_42 : decode cX8_hoursGo 42 = .ok (.iload 5, 2) := by decide +kernel
theorem dX8_hoursGo_44 : decode cX8_hoursGo 44 = .ok (.ifCond .ne 89, 3) := by decide +kernel
theorem dX8_hoursGo_47 : decode cX8_hoursGo 47 = .ok (.aload_n 1, 1) := by decide +kernel
theorem dX8_hoursGo_48 : decode cX8_hoursGo 48 = .ok (.getfield 74, 3) := by decide +kernel
theorem dX8_hoursGo_51 : decode cX8_hoursGo 51 = .ok (.iload 6, 2) := by decide +kernel
theorem dX8_hoursGo_53 : decode cX8_hoursGo 53 = .ok (.aaload, 1) := by decide +kernel
theorem dX8_hoursGo_54 : decode cX8_hoursGo 54 = .ok (.astore 7, 2) := by decide +kernel
theorem dX8_hoursGo_56 : decode cX8_hoursGo 56 = .ok (.iload_n 3, 1) := by decide +kernel
theorem dX8_hoursGo_57 : decode cX8_hoursGo 57 = .ok (.iload 6, 2) := by decide +kernel
theorem dX8_hoursGo_59 : decode cX8_hoursGo 59 = .ok (.ishr, 1) := by decide +kernel
theorem dX8_hoursGo_60 : decode cX8_hoursGo 60 = .ok (.iconst 1, 1) := by decide +kernel
theorem dX8_hoursGo_61 : decode cX8_hoursGo 61 = .ok (.iand, 1) := by decide +kernel
theorem dX8_hoursGo_62 : decode cX8_hoursGo 62 = .ok (.ifCond .eq 25, 3) := by decide +kernel
theorem dX8_hoursGo_65 : decode cX8_hoursGo 65 = .ok (.aload 7, 2) := by decide +kernel
theorem dX8_hoursGo_67 : decode cX8_hoursGo 67 = .ok (.getfield 93, 3) := by decide +kernel
theorem dX8_hoursGo_70 : decode cX8_hoursGo 70 = .ok (.bipush (-5), 2) := by decide +kernel
theorem dX8_hoursGo_72 : decode cX8_hoursGo 72 = .ok (.if_icmp .eq 15, 3) := by decide +kernel
theorem dX8_hoursGo_75 : decode cX8_hoursGo 75 = .ok (.aload 7, 2) := by decide +kernel
theorem dX8_hoursGo_77 : decode cX8_hoursGo 77 = .ok (.invokevirtual 289, 3) := by decide +kernel
theorem dX8_hoursGo_80 : decode cX8_hoursGo 80 = .ok (.ifCond .ne 7, 3) := by decide +kernel
theorem dX8_hoursGo_83 : decode cX8_hoursGo 83 = .ok (.iconst 1, 1) := by decide +kernel
theorem dX8_hoursGo_84 : decode cX8_hoursGo 84 = .ok (.goto 4, 3) := by decide +kernel
theorem dX8_hoursGo_87 : decode cX8_hoursGo 87 = .ok (.iconst 0, 1) := by decide +kernel
theorem dX8_hoursGo_88 : decode cX8_hoursGo 88 = .ok (.istore 8, 2) := by decide +kernel
theorem dX8_hoursGo_90 : decode cX8_hoursGo 90 = .ok (.iload 8, 2) := by decide +kernel
theorem dX8_hoursGo_92 : decode cX8_hoursGo 92 = .ok (.ifCond .eq 35, 3) := by decide +kernel
theorem dX8_hoursGo_95 : decode cX8_hoursGo 95 = .ok (.aload_n 0, 1) := by decide +kernel
theorem dX8_hoursGo_96 : decode cX8_hoursGo 96 = .ok (.getfield 27, 3) := by decide +kernel
theorem dX8_hoursGo_99 : decode cX8_hoursGo 99 = .ok (.aload_n 1, 1) := by decide +kernel
theorem dX8_hoursGo_100 : decode cX8_hoursGo 100 = .ok (.iload 6, 2) := by decide +kernel
theorem dX8_hoursGo_102 : decode cX8_hoursGo 102 = .ok (.aload 7, 2) := by decide +kernel
theorem dX8_hoursGo_104 : decode cX8_hoursGo 104 = .ok (.getfield 93, 3) := by decide +kernel
theorem dX8_hoursGo_107 : decode cX8_hoursGo 107 = .ok (.invokevirtual 185, 3) := by decide +kernel
theorem dX8_hoursGo_110 : decode cX8_hoursGo 110 = .ok (.ifCond .le 17, 3) := by decide +kernel
theorem dX8_hoursGo_113 : decode cX8_hoursGo 113 = .ok (.aload_n 1, 1) := by decide +kernel
theorem dX8_hoursGo_114 : decode cX8_hoursGo 114 = .ok (.iload 6, 2) := by decide +kernel
theorem dX8_hoursGo_116 : decode cX8_hoursGo 116 = .ok (.aload_n 0, 1) := by decide +kernel
theorem dX8_hoursGo_117 : decode cX8_hoursGo 117 = .ok (.getfield 27, 3) := by decide +kernel
theorem dX8_hoursGo_120 : decode cX8_hoursGo 120 = .ok (.iconst 0, 1) := by decide +kernel
theorem dX8_hoursGo_121 : decode cX8_hoursGo 121 = .ok (.invokevirtual 189, 3) := by decide +kernel
theorem dX8_hoursGo_124 : decode cX8_hoursGo 124 = .ok (.invokevirtual 129, 3) := by decide +kernel
theorem dX8_hoursGo_127 : decode cX8_hoursGo 127 = .ok (.iinc 6 1, 3) := by decide +kernel
theorem dX8_hoursGo_130 : decode cX8_hoursGo 130 = .ok (.goto (-97), 3) := by decide +kernel
theorem dX8_hoursGo_133 : decode cX8_hoursGo 133 = .ok (.aload_n 1, 1) := by decide +kernel
theorem dX8_hoursGo_134 : decode cX8_hoursGo 134 = .ok (.dup, 1) := by decide +kernel
theorem dX8_hoursGo_135 : decode cX8_hoursGo 135 = .ok (.getfield 164, 3) := by decide +kernel
theorem dX8_hoursGo_138 : decode cX8_hoursGo 138 = .ok (.iconst 1, 1) := by decide +kernel
theorem dX8_hoursGo_139 : decode cX8_hoursGo 139 = .ok (.iadd, 1) := by decide +kernel
theorem dX8_hoursGo_140 : decode cX8_hoursGo 140 = .ok (.putfield 164, 3) := by decide +kernel
theorem dX8_hoursGo_143 : decode cX8_hoursGo 143 = .ok (.iinc 4 1, 3) := by decide +kernel
theorem dX8_hoursGo_146 : decode cX8_hoursGo 146 = .ok (.goto (-143), 3) := by decide +kernel
theorem dX8_hoursGo_149 : decode cX8_hoursGo 149 = .ok (.return_, 1) := by decide +kernel
theorem dX8_hoursUntilDone_0 : decode cX8_hoursUntilDone 0 = .ok (.aload_n 0, 1) := by decide +kernel
theorem dX8_hoursUntilDone_1 : decode cX8_hoursUntilDone 1 = .ok (.getfield 14, 3) := by decide +kernel
theorem dX8_hoursUntilDone_4 : decode cX8_hoursUntilDone 4 = .ok (.getfield 74, 3) := by decide +kernel
theorem dX8_hoursUntilDone_7 : decode cX8_hoursUntilDone 7 = .ok (.iload_n 1, 1) := by decide +kernel
theorem dX8_hoursUntilDone_8 : decode cX8_hoursUntilDone 8 = .ok (.aaload, 1) := by decide +kernel
theorem dX8_hoursUntilDone_9 : decode cX8_hoursUntilDone 9 = .ok (.getfield 93, 3) := by decide +kernel
theorem dX8_hoursUntilDone_12 : decode cX8_hoursUntilDone 12 = .ok (.bipush (-5), 2) := by decide +kernel
theorem dX8_hoursUntilDone_14 : decode cX8_hoursUntilDone 14 = .ok (.if_icmp .ne 6, 3) := by decide +kernel
theorem dX8_hoursUntilDone_17 : decode cX8_hoursUntilDone 17 = .ok (.bipush (-5), 2) := by decide +kernel
theorem dX8_hoursUntilDone_19 : decode cX8_hoursUntilDone 19 = .ok (.ireturn, 1) := by decide +kernel
theorem dX8_hoursUntilDone_20 : decode cX8_hoursUntilDone 20 = .ok (.aload_n 0, 1) := by decide +kernel
theorem dX8_hoursUntilDone_21 : decode cX8_hoursUntilDone 21 = .ok (.getfield 21, 3) := by decide +kernel
theorem dX8_hoursUntilDone_24 : decode cX8_hoursUntilDone 24 = .ok (.aload_n 0, 1) := by decide +kernel
theorem dX8_hoursUntilDone_25 : decode cX8_hoursUntilDone 25 = .ok (.getfield 14, 3) := by decide +kernel
theorem dX8_hoursUntilDone_28 : decode cX8_hoursUntilDone 28 = .ok (.invokevirtual 181, 3) := by decide +kernel
theorem dX8_hoursUntilDone_31 : decode cX8_hoursUntilDone 31 = .ok (.iconst 0, 1) := by decide +kernel
theorem dX8_hoursUntilDone_32 : decode cX8_hoursUntilDone 32 = .ok (.istore_n 2, 1) := by decide +kernel
theorem dX8_hoursUntilDone_33 : decode cX8_hoursUntilDone 33 = .ok (.iload_n 2, 1) := by decide +kernel
theorem dX8_hoursUntilDone_34 : decode cX8_hoursUntilDone 34 = .ok (.bipush 20, 2) := by decide +kernel
theorem dX8_hoursUntilDone_36 : decode cX8_hoursUntilDone 36 = .ok (.if_icmp .gt 38, 3) := by decide +kernel
theorem dX8_hoursUntilDone_39 : decode cX8_hoursUntilDone 39 = .ok (.aload_n 0, 1) := by decide +kernel
theorem dX8_hoursUntilDone_40 : decode cX8_hoursUntilDone 40 = .ok (.getfield 21, 3) := by decide +kernel
theorem dX8_hoursUntilDone_43 : decode cX8_hoursUntilDone 43 = .ok (.getfield 74, 3) := by decide +kernel
theorem dX8_hoursUntilDone_46 : decode cX8_hoursUntilDone 46 = .ok (.iload_n 1, 1) := by decide +kernel
theorem dX8_hoursUntilDone_47 : decode cX8_hoursUntilDone 47 = .ok (.aaload, 1) := by decide +kernel
theorem dX8_hoursUntilDone_48 : decode cX8_hoursUntilDone 48 = .ok (.invokevirtual 289, 3) := by decide +kernel
theorem dX8_hoursUntilDone_51 : decode cX8_hoursUntilDone 51 = .ok (.ifCond .eq 5, 3) := by decide +kernel
theorem dX8_hoursUntilDone_54 : decode cX8_hoursUntilDone 54 = .ok (.iload_n 2, 1) := by decide +kernel
theorem dX8_hoursUntilDone_55 : decode cX8_hoursUntilDone 55 = .ok (.ireturn, 1) := by decide +kernel
theorem dX8_hoursUntilDone_56 : decode cX8_hoursUntilDone 56 = .ok (.aload_n 0, 1) := by decide +kernel
theorem dX8_hoursUntilDone_57 : decode cX8_hoursUntilDone 57 = .ok (.aload_n 0, 1) := by decide +kernel
theorem dX8_hoursUntilDone_58 : decode cX8_hoursUntilDone 58 = .ok (.getfield 21, 3) := by decide +kernel
theorem dX8_hoursUntilDone_61 : decode cX8_hoursUntilDone 61 = .ok (.iconst 1, 1) := by decide +kernel
theorem dX8_hoursUntilDone_62 : decode cX8_hoursUntilDone 62 = .ok (.iconst 1, 1) := by decide +kernel
theorem dX8_hoursUntilDone_63 : decode cX8_hoursUntilDone 63 = .ok (.iload_n 1, 1) := by decide +kernel
theorem dX8_hoursUntilDone_64 : decode cX8_hoursUntilDone 64 = .ok (.ishl, 1) := by decide +kernel
theorem dX8_hoursUntilDone_65 : decode cX8_hoursUntilDone 65 = .ok (.invokevirtual 177, 3) := by decide +kernel
theorem dX8_hoursUntilDone_68 : decode cX8_hoursUntilDone 68 = .ok (.iinc 2 1, 3) := by decide +kernel
theorem dX8_hoursUntilDone_71 : decode cX8_hoursUntilDone 71 = .ok (.goto (-38), 3) := by decide +kernel
theorem dX8_hoursUntilDone_74 : decode cX8_hoursUntilDone 74 = .ok (.bipush (-5), 2) := by decide +kernel
theorem dX8_hoursUntilDone_76 : decode cX8_hoursUntilDone 76 = .ok (.ireturn, 1) := by decide +kernel
theorem dX8_crossable_0 : decode cX8_crossable 0 = .ok (.aload_n 0, 1) := by decide +kernel
theorem dX8_crossable_1 : decode cX8_crossable 1 = .ok (.getfield 14, 3) := by decide +kernel
theorem dX8_crossable_4 : decode cX8_crossable 4 = .ok (.getfield 74, 3) := by decide +kernel
theorem dX8_crossable_7 : decode cX8_crossable 7 = .ok (.iload_n 1, 1) := by decide +kernel
theorem dX8_crossable_8 : decode cX8_crossable 8 = .ok (.aaload, 1) := by decide +kernel
theorem dX8_crossable_9 : decode cX8_crossable 9 = .ok (.astore_n 2, 1) := by decide +kernel
theorem dX8_crossable_10 : decode cX8_crossable 10 = .ok (.aload_n 2, 1) := by decide +kernel
theorem dX8_crossable_11 : decode cX8_crossable 11 = .ok (.getfield 96, 3) := by decide +kernel
theorem dX8_crossable_14 : decode cX8_crossable 14 = .ok (.invokestatic 293, 3) := by decide +kernel
theorem dX8_crossable_17 : decode cX8_crossable 17 = .ok (.istore_n 3, 1) := by decide +kernel
theorem dX8_crossable_18 : decode cX8_crossable 18 = .ok (.iconst 0, 1) := by decide +kernel
theorem dX8_crossable_19 : decode cX8_crossable 19 = .ok (.istore 4, 2) := by decide +kernel
theorem dX8_crossable_21 : decode cX8_crossable 21 = .ok (.iconst 0, 1) := by decide +kernel
theorem dX8_crossable_22 : decode cX8_crossable 22 = .ok (.istore 5, 2) := by decide +kernel
theorem dX8_crossable_24 : decode cX8_crossable 24 = .ok (.iload 5, 2) := by decide +kernel
theorem dX8_crossable_26 : decode cX8_crossable 26 = .ok (.aload_n 0, 1) := by decide +kernel
theorem dX8_crossable_27 : decode cX8_crossable 27 = .ok (.getfield 14, 3) := by decide +kernel
theorem dX8_crossable_30 : decode cX8_crossable 30 = .ok (.getfield 195, 3) := by decide +kernel
theorem dX8_crossable_33 : decode cX8_crossable 33 = .ok (.if_icmp .ge 48, 3) := by decide +kernel
theorem dX8_crossable_36 : decode cX8_crossable 36 = .ok (.aload_n 0, 1) := by decide +kernel
theorem dX8_crossable_37 : decode cX8_crossable 37 = .ok (.getfield 14, 3) := by decide +kernel
theorem dX8_crossable_40 : decode cX8_crossable 40 = .ok (.iload 5, 2) := by decide +kernel
theorem dX8_crossable_42 : decode cX8_crossable 42 = .ok (.aload_n 2, 1) := by decide +kernel
theorem dX8_crossable_43 : decode cX8_crossable 43 = .ok (.getfield 87, 3) := by decide +kernel
theorem dX8_crossable_46 : decode cX8_crossable 46 = .ok (.invokevirtual 298, 3) := by decide +kernel
theorem dX8_crossable_49 : decode cX8_crossable 49 = .ok (.ifCond .lt 26, 3) := by decide +kernel
theorem dX8_crossable_52 : decode cX8_crossable 52 = .ok (.aload_n 0, 1) := by decide +kernel
theorem dX8_crossable_53 : decode cX8_crossable 53 = .ok (.getfield 14, 3) := by decide +kernel
theorem dX8_crossable_56 : decode cX8_crossable 56 = .ok (.iload_n 1, 1) := by decide +kernel
theorem dX8_crossable_57 : decode cX8_crossable 57 = .ok (.iload 5, 2) := by decide +kernel
theorem dX8_crossable_59 : decode cX8_crossable 59 = .ok (.iload_n 3, 1) := by decide +kernel
theorem dX8_crossable_60 : decode cX8_crossable 60 = .ok (.invokevirtual 301, 3) := by decide +kernel
theorem dX8_crossable_63 : decode cX8_crossable 63 = .ok (.ifCond .eq 12, 3) := by decide +kernel
theorem dX8_crossable_66 : decode cX8_crossable 66 = .ok (.iload 4, 2) := by decide +kernel
theorem dX8_crossable_68 : decode cX8_crossable 68 = .ok (.iconst 1, 1) := by decide +kernel
theorem dX8_crossable_69 : decode cX8_crossable 69 = .ok (.iload 5, 2) := by decide +kernel
theorem dX8_crossable_71 : decode cX8_crossable 71 = .ok (.ishl, 1) := by decide +kernel
theorem dX8_crossable_72 : decode cX8_crossable 72 = .ok (.ior, 1) := by decide +kernel
theorem dX8_crossable_73 : decode cX8_crossable 73 = .ok (.istore 4, 2) := by decide +kernel
theorem dX8_crossable_75 : decode cX8_crossable 75 = .ok (.iinc 5 1, 3) := by decide +kernel
theorem dX8_crossable_78 : decode cX8_crossable 78 = .ok (.goto (-54), 3) := by decide +kernel
theorem dX8_crossable_81 : decode cX8_crossable 81 = .ok (.iload 4, 2) := by decide +kernel
theorem dX8_crossable_83 : decode cX8_crossable 83 = .ok (.ireturn, 1) := by decide +kernel
theorem dX8_leaveNow_0 : decode cX8_leaveNow 0 = .ok (.iload_n 2, 1) := by decide +kernel
theorem dX8_leaveNow_1 : decode cX8_leaveNow 1 = .ok (.bipush 10, 2) := by decide +kernel
theorem dX8_leaveNow_3 : decode cX8_leaveNow 3 = .ok (.if_icmp .lt 14, 3) := by decide +kernel
theorem dX8_leaveNow_6 : decode cX8_leaveNow 6 = .ok (.aload_n 0, 1) := by decide +kernel
theorem dX8_leaveNow_7 : decode cX8_leaveNow 7 = .ok (.iload_n 2, 1) := by decide +kernel
theorem dX8_leaveNow_8 : decode cX8_leaveNow 8 = .ok (.bipush 10, 2) := by decide +kernel
theorem dX8_leaveNow_10 : decode cX8_leaveNow 10 = .ok (.isub, 1) := by decide +kernel
theorem dX8_leaveNow_11 : decode cX8_leaveNow 11 = .ok (.invokevirtual 113, 3) := by decide +kernel
theorem dX8_leaveNow_14 : decode cX8_leaveNow 14 = .ok (.ifCond .ne 7, 3) := by decide +kernel
theorem dX8_leaveNow_17 : decode cX8_leaveNow 17 = .ok (.sipush (-10001), 3) := by decide +kernel
theorem dX8_leaveNow_20 : decode cX8_leaveNow 20 = .ok (.ireturn, 1) := by decide +kernel
theorem dX8_leaveNow_21 : decode cX8_leaveNow 21 = .ok (.aload_n 0, 1) := by decide +kernel
theorem dX8_leaveNow_22 : decode cX8_leaveNow 22 = .ok (.getfield 14, 3) := by decide +kernel
theorem dX8_leaveNow_25 : decode cX8_leaveNow 25 = .ok (.iload_n 1, 1) := by decide +kernel
theorem dX8_leaveNow_26 : decode cX8_leaveNow 26 = .ok (.iload_n 2, 1) := by decide +kernel
theorem dX8_leaveNow_27 : decode cX8_leaveNow 27 = .ok (.bipush 10, 2) := by decide +kernel
theorem dX8_leaveNow_29 : decode cX8_leaveNow 29 = .ok (.isub, 1) := by decide +kernel
theorem dX8_leaveNow_30 : decode cX8_leaveNow 30 = .ok (.aload_n 0, 1) := by decide +kernel
theorem dX8_leaveNow_31 : decode cX8_leaveNow 31 = .ok (.getfield 14, 3) := by decide +kernel
theorem dX8_leaveNow_34 : decode cX8_leaveNow 34 = .ok (.getfield 74, 3) := by decide +kernel
theorem dX8_leaveNow_37 : decode cX8_leaveNow 37 = .ok (.iload_n 1, 1) := by decide +kernel
theorem dX8_leaveNow_38 : decode cX8_leaveNow 38 = .ok (.aaload, 1) := by decide +kernel
theorem dX8_leaveNow_39 : decode cX8_leaveNow 39 = .ok (.getfield 96, 3) := by decide +kernel
theorem dX8_leaveNow_42 : decode cX8_leaveNow 42 = .ok (.invokestatic 293, 3) := by decide +kernel
theorem dX8_leaveNow_45 : decode cX8_leaveNow 45 = .ok (.invokevirtual 305, 3) := by decide +kernel
theorem dX8_leaveNow_48 : decode cX8_leaveNow 48 = .ok (.ireturn, 1) := by decide +kernel
theorem dX8_goesAsSeen_0 : decode cX8_goesAsSeen 0 = .ok (.aload_n 0, 1) := by decide +kernel
theorem dX8_goesAsSeen_1 : decode cX8_goesAsSeen 1 = .ok (.getfield 14, 3) := by decide +kernel
theorem dX8_goesAsSeen_4 : decode cX8_goesAsSeen 4 = .ok (.getfield 198, 3) := by decide +kernel
theorem dX8_goesAsSeen_7 : decode cX8_goesAsSeen 7 = .ok (.iload_n 1, 1) := by decide +kernel
theorem dX8_goesAsSeen_8 : decode cX8_goesAsSeen 8 = .ok (.invokevirtual 308, 3) := by decide +kernel
theorem dX8_goesAsSeen_11 : decode cX8_goesAsSeen 11 = .ok (.istore_n 2, 1) := by decide +kernel
theorem dX8_goesAsSeen_12 : decode cX8_goesAsSeen 12 = .ok (.iconst 0, 1) := by decide +kernel
theorem dX8_goesAsSeen_13 : decode cX8_goesAsSeen 13 = .ok (.istore_n 3, 1) := by decide +kernel
theorem dX8_goesAsSeen_14 : decode cX8_goesAsSeen 14 = .ok (.iload_n 3, 1) := by decide +kernel
theorem dX8_goesAsSeen_15 : decode cX8_goesAsSeen 15 = .ok (.iload_n 2, 1) := by decide +kernel
theorem dX8_goesAsSeen_16 : decode cX8_goesAsSeen 16 = .ok (.if_icmp .gt 54, 3) := by decide +kernel
theorem dX8_goesAsSeen_19 : decode cX8_goesAsSeen 19 = .ok (.iload_n 3, 1) := by decide +kernel
theorem dX8_goesAsSeen_20 : decode cX8_goesAsSeen 20 = .ok (.ifCond .le 15, 3) := by decide +kernel
theorem dX8_goesAsSeen_23 : decode cX8_goesAsSeen 23 = .ok (.aload_n 0, 1) := by decide +kernel
theorem dX8_goesAsSeen_24 : decode cX8_goesAsSeen 24 = .ok (.aload_n 0, 1) := by decide +kernel
theorem dX8_goesAsSeen_25 : decode cX8_goesAsSeen 25 = .ok (.getfield 21, 3) := by decide +kernel
theorem dX8_goesAsSeen_28 : decode cX8_goesAsSeen 28 = .ok (.iconst 1, 1) := by decide +kernel
theorem dX8_goesAsSeen_29 : decode cX8_goesAsSeen 29 = .ok (.iconst 1, 1) := by decide +kernel
theorem dX8_goesAsSeen_30 : decode cX8_goesAsSeen 30 = .ok (.iload_n 1, 1) := by decide +kernel
theorem dX8_goesAsSeen_31 : decode cX8_goesAsSeen 31 = .ok (.ishl, 1) := by decide +kernel
theorem dX8_goesAsSeen_32 : decode cX8_goesAsSeen 32 = .ok (.invokevirtual 177, 3) := by decide +kernel
theorem dX8_goesAsSeen_35 : decode cX8_goesAsSeen 35 = .ok (.aload_n 0, 1) := by decide +kernel
theorem dX8_goesAsSeen_36 : decode cX8_goesAsSeen 36 = .ok (.getfield 14, 3) := by decide +kernel
theorem dX8_goesAsSeen_39 : decode cX8_goesAsSeen 39 = .ok (.getfield 198, 3) := by decide +kernel
theorem dX8_goesAsSeen_42 : decode cX8_goesAsSeen 42 = .ok (.iload_n 1, 1) := by decide +kernel
theorem dX8_goesAsSeen_43 : decode cX8_goesAsSeen 43 = .ok (.aload_n 0, 1) := by decide +kernel
theorem dX8_goesAsSeen_44 : decode cX8_goesAsSeen 44 = .ok (.getfield 21, 3) := by decide +kernel
theorem dX8_goesAsSeen_47 : decode cX8_goesAsSeen 47 = .ok (.getfield 74, 3) := by decide +kernel
theorem dX8_goesAsSeen_50 : decode cX8_goesAsSeen 50 = .ok (.iload_n 1, 1) := by decide +kernel
theorem dX8_goesAsSeen_51 : decode cX8_goesAsSeen 51 = .ok (.aaload, 1) := by decide +kernel
theorem dX8_goesAsSeen_52 : decode cX8_goesAsSeen 52 = .ok (.getfield 87, 3) := by decide +kernel
theorem dX8_goesAsSeen_55 : decode cX8_goesAsSeen 55 = .ok (.iload_n 3, 1) := by decide +kernel
theorem dX8_goesAsSeen_56 : decode cX8_goesAsSeen 56 = .ok (.invokevirtual 311, 3) := by decide +kernel
theorem dX8_goesAsSeen_59 : decode cX8_goesAsSeen 59 = .ok (.ifCond .ne 5, 3) := by decide +kernel
theorem dX8_goesAsSeen_62 : decode cX8_goesAsSeen 62 = .ok (.iconst 0, 1) := by decide +kernel
theorem dX8_goesAsSeen_63 : decode cX8_goesAsSeen 63 = .ok (.ireturn, 1) := by decide +kernel
theorem dX8_goesAsSeen_64 : decode cX8_goesAsSeen 64 = .ok (.iinc 3 1, 3) := by decide +kernel
theorem dX8_goesAsSeen_67 : decode cX8_goesAsSeen 67 = .ok (.goto (-53), 3) := by decide +kernel
theorem dX8_goesAsSeen_70 : decode cX8_goesAsSeen 70 = .ok (.iconst 1, 1) := by decide +kernel
theorem dX8_goesAsSeen_71 : decode cX8_goesAsSeen 71 = .ok (.ireturn, 1) := by decide +kernel
