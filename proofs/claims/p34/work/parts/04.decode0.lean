theorem dJ0_length_8abf5_0 : decode cJ0_length_8abf5 0 = .ok (.aload_n 0, 1) := by decide +kernel
theorem dJ0_length_8abf5_1 : decode cJ0_length_8abf5 1 = .ok (.getfield 9, 3) := by decide +kernel
theorem dJ0_length_8abf5_4 : decode cJ0_length_8abf5 4 = .ok (.arraylength, 1) := by decide +kernel
theorem dJ0_length_8abf5_5 : decode cJ0_length_8abf5 5 = .ok (.aload_n 0, 1) := by decide +kernel
theorem dJ0_length_8abf5_6 : decode cJ0_length_8abf5 6 = .ok (.invokevirtual 335, 3) := by decide +kernel
theorem dJ0_length_8abf5_9 : decode cJ0_length_8abf5 9 = .ok (.ishr, 1) := by decide +kernel
theorem dJ0_length_8abf5_10 : decode cJ0_length_8abf5 10 = .ok (.ireturn, 1) := by decide +kernel
theorem dJ0_indexOf_0f7a4_0 : decode cJ0_indexOf_0f7a4 0 = .ok (.aload_n 0, 1) := by decide +kernel
theorem dJ0_indexOf_0f7a4_1 : decode cJ0_indexOf_0f7a4 1 = .ok (.iload_n 1, 1) := by decide +kernel
theorem dJ0_indexOf_0f7a4_2 : decode cJ0_indexOf_0f7a4 2 = .ok (.iconst 0, 1) := by decide +kernel
theorem dJ0_indexOf_0f7a4_3 : decode cJ0_indexOf_0f7a4 3 = .ok (.invokevirtual 633, 3) := by decide +kernel
theorem dJ0_indexOf_0f7a4_6 : decode cJ0_indexOf_0f7a4 6 = .ok (.ireturn, 1) := by decide +kernel
theorem dJ0_indexOf_7cf53_0 : decode cJ0_indexOf_7cf53 0 = .ok (.aload_n 0, 1) := by decide +kernel
theorem dJ0_indexOf_7cf53_1 : decode cJ0_indexOf_7cf53 1 = .ok (.invokevirtual 492, 3) := by decide +kernel
theorem dJ0_indexOf_7cf53_4 : decode cJ0_indexOf_7cf53 4 = .ok (.ifCond .eq 19, 3) := by decide +kernel
theorem dJ0_indexOf_7cf53_7 : decode cJ0_indexOf_7cf53 7 = .ok (.aload_n 0, 1) := by decide +kernel
theorem dJ0_indexOf_7cf53_8 : decode cJ0_indexOf_7cf53 8 = .ok (.getfield 9, 3) := by decide +kernel
theorem dJ0_indexOf_7cf53_11 : decode cJ0_indexOf_7cf53 11 = .ok (.iload_n 1, 1) := by decide +kernel
theorem dJ0_indexOf_7cf53_12 : decode cJ0_indexOf_7cf53 12 = .ok (.iload_n 2, 1) := by decide +kernel
theorem dJ0_indexOf_7cf53_13 : decode cJ0_indexOf_7cf53 13 = .ok (.aload_n 0, 1) := by decide +kernel
theorem dJ0_indexOf_7cf53_14 : decode cJ0_indexOf_7cf53 14 = .ok (.invokevirtual 505, 3) := by decide +kernel
theorem dJ0_indexOf_7cf53_17 : decode cJ0_indexOf_7cf53 17 = .ok (.invokestatic 637, 3) := by decide +kernel
theorem dJ0_indexOf_7cf53_20 : decode cJ0_indexOf_7cf53 20 = .ok (.goto 16, 3) := by decide +kernel
theorem dJ0_indexOf_7cf53_23 : decode cJ0_indexOf_7cf53 23 = .ok (.aload_n 0, 1) := by decide +kernel
theorem dJ0_indexOf_7cf53_24 : decode cJ0_indexOf_7cf53 24 = .ok (.getfield 9, 3) := by decide +kernel
theorem dJ0_indexOf_7cf53_27 : decode cJ0_indexOf_7cf53 27 = .ok (.iload_n 1, 1) := by decide +kernel
theorem dJ0_indexOf_7cf53_28 : decode cJ0_indexOf_7cf53 28 = .ok (.iload_n 2, 1) := by decide +kernel
theorem dJ0_indexOf_7cf53_29 : decode cJ0_indexOf_7cf53 29 = .ok (.aload_n 0, 1) := by decide +kernel
theorem dJ0_indexOf_7cf53_30 : decode cJ0_indexOf_7cf53 30 = .ok (.invokevirtual 505, 3) := by decide +kernel
theorem dJ0_indexOf_7cf53_33 : decode cJ0_indexOf_7cf53 33 = .ok (.invokestatic 640, 3) := by decide +kernel
theorem dJ0_indexOf_7cf53_36 : decode cJ0_indexOf_7cf53 36 = .ok (.ireturn, 1) := by decide +kernel
theorem dJ0_coder_7d493_0 : decode cJ0_coder_7d493 0 = .ok (.getstatic 38, 3) := by decide +kernel
theorem dJ0_coder_7d493_3 : decode cJ0_coder_7d493 3 = .ok (.ifCond .eq 10, 3) := by decide +kernel
theorem dJ0_coder_7d493_6 : decode cJ0_coder_7d493 6 = .ok (.aload_n 0, 1) := by decide +kernel
theorem dJ0_coder_7d493_7 : decode cJ0_coder_7d493 7 = .ok (.getfield 15, 3) := by decide +kernel
theorem dJ0_coder_7d493_10 : decode cJ0_coder_7d493 10 = .ok (.goto 4, 3) := by decide +kernel
theorem dJ0_coder_7d493_13 : decode cJ0_coder_7d493 13 = .ok (.iconst 1, 1) := by decide +kernel
theorem dJ0_coder_7d493_14 : decode cJ0_coder_7d493 14 = .ok (.ireturn, 1) := by decide +kernel
theorem dJ0_isLatin1_aae02_0 : decode cJ0_isLatin1_aae02 0 = .ok (.getstatic 38, 3) := by decide +kernel
theorem dJ0_isLatin1_aae02_3 : decode cJ0_isLatin1_aae02 3 = .ok (.ifCond .eq 14, 3) := by decide +kernel
theorem dJ0_isLatin1_aae02_6 : decode cJ0_isLatin1_aae02 6 = .ok (.aload_n 0, 1) := by decide +kernel
theorem dJ0_isLatin1_aae02_7 : decode cJ0_isLatin1_aae02 7 = .ok (.getfield 15, 3) := by decide +kernel
theorem dJ0_isLatin1_aae02_10 : decode cJ0_isLatin1_aae02 10 = .ok (.ifCond .ne 7, 3) := by decide +kernel
theorem dJ0_isLatin1_aae02_13 : decode cJ0_isLatin1_aae02 13 = .ok (.iconst 1, 1) := by decide +kernel
theorem dJ0_isLatin1_aae02_14 : decode cJ0_isLatin1_aae02 14 = .ok (.goto 4, 3) := by decide +kernel
theorem dJ0_isLatin1_aae02_17 : decode cJ0_isLatin1_aae02 17 = .ok (.iconst 0, 1) := by decide +kernel
theorem dJ0_isLatin1_aae02_18 : decode cJ0_isLatin1_aae02 18 = .ok (.ireturn, 1) := by decide +kernel
theorem dJ0_checkBoundsBeginEnd_23922_0 : decode cJ0_checkBoundsBeginEnd_23922 0 = .ok (.iload_n 0, 1) := by decide +kernel
theorem dJ0_checkBoundsBeginEnd_23922_1 : decode cJ0_checkBoundsBeginEnd_23922 1 = .ok (.iload_n 1, 1) := by decide +kernel
theorem dJ0_checkBoundsBeginEnd_23922_2 : decode cJ0_checkBoundsBeginEnd_23922 2 = .ok (.iload_n 2, 1) := by decide +kernel
theorem dJ0_checkBoundsBeginEnd_23922_3 : decode cJ0_checkBoundsBeginEnd_23922 3 = .ok (.getstatic 1053, 3) := by decide +kernel
theorem dJ0_checkBoundsBeginEnd_23922_6 : decode cJ0_checkBoundsBeginEnd_23922 6 = .ok (.invokestatic 1062, 3) := by decide +kernel
theorem dJ0_checkBoundsBeginEnd_23922_9 : decode cJ0_checkBoundsBeginEnd_23922 9 = .ok (.pop, 1) := by decide +kernel
theorem dJ0_checkBoundsBeginEnd_23922_10 : decode cJ0_checkBoundsBeginEnd_23922 10 = .ok (.return_, 1) := by decide +kernel
theorem dJ1_canEncode_9a6ad_0 : decode cJ1_canEncode_9a6ad 0 = .ok (.iload_n 0, 1) := by decide +kernel
theorem dJ1_canEncode_9a6ad_1 : decode cJ1_canEncode_9a6ad 1 = .ok (.ifCond .lt 14, 3) := by decide +kernel
theorem dJ1_canEncode_9a6ad_4 : decode cJ1_canEncode_9a6ad 4 = .ok (.iload_n 0, 1) := by decide +kernel
theorem dJ1_canEncode_9a6ad_5 : decode cJ1_canEncode_9a6ad 5 = .ok (.sipush 255, 3) := by decide +kernel
theorem dJ1_canEncode_9a6ad_8 : decode cJ1_canEncode_9a6ad 8 = .ok (.if_icmp .gt 7, 3) := by decide +kernel
theorem dJ1_canEncode_9a6ad_11 : decode cJ1_canEncode_9a6ad 11 = .ok (.iconst 1, 1) := by decide +kernel
theorem dJ1_canEncode_9a6ad_12 : decode cJ1_canEncode_9a6ad 12 = .ok (.goto 4, 3) := by decide +kernel
theorem dJ1_canEncode_9a6ad_15 : decode cJ1_canEncode_9a6ad 15 = .ok (.iconst 0, 1) := by decide +kernel
theorem dJ1_canEncode_9a6ad_16 : decode cJ1_canEncode_9a6ad 16 = .ok (.ireturn, 1) := by decide +kernel
theorem dJ1_indexOf_4cfef_0 : decode cJ1_indexOf_4cfef 0 = .ok (.iload_n 1, 1) := by decide +kernel
theorem dJ1_indexOf_4cfef_1 : decode cJ1_indexOf_4cfef 1 = .ok (.invokestatic 88, 3) := by decide +kernel
theorem dJ1_indexOf_4cfef_4 : decode cJ1_indexOf_4cfef 4 = .ok (.ifCond .ne 5, 3) := by decide +kernel
theorem dJ1_indexOf_4cfef_7 : decode cJ1_indexOf_4cfef 7 = .ok (.iconst (-1), 1) := by decide +kernel
theorem dJ1_indexOf_4cfef_8 : decode cJ1_indexOf_4cfef 8 = .ok (.ireturn, 1) := by decide +kernel
theorem dJ1_indexOf_4cfef_9 : decode cJ1_indexOf_4cfef 9 = .ok (.iload_n 2, 1) := by decide +kernel
theorem dJ1_indexOf_4cfef_10 : decode cJ1_indexOf_4cfef 10 = .ok (.iconst 0, 1) := by decide +kernel
theorem dJ1_indexOf_4cfef_11 : decode cJ1_indexOf_4cfef 11 = .ok (.invokestatic 92, 3) := by decide +kernel
theorem dJ1_indexOf_4cfef_14 : decode cJ1_indexOf_4cfef 14 = .ok (.istore_n 2, 1) := by decide +kernel
theorem dJ1_indexOf_4cfef_15 : decode cJ1_indexOf_4cfef 15 = .ok (.iload_n 3, 1) := by decide +kernel
theorem dJ1_indexOf_4cfef_16 : decode cJ1_indexOf_4cfef 16 = .ok (.aload_n 0, 1) := by decide +kernel
theorem dJ1_indexOf_4cfef_17 : decode cJ1_indexOf_4cfef 17 = .ok (.arraylength, 1) := by decide +kernel
theorem dJ1_indexOf_4cfef_18 : decode cJ1_indexOf_4cfef 18 = .ok (.invokestatic 38, 3) := by decide +kernel
theorem dJ1_indexOf_4cfef_21 : decode cJ1_indexOf_4cfef 21 = .ok (.istore_n 3, 1) := by decide +kernel
theorem dJ1_indexOf_4cfef_22 : decode cJ1_indexOf_4cfef 22 = .ok (.iload_n 2, 1) := by decide +kernel
theorem dJ1_indexOf_4cfef_23 : decode cJ1_indexOf_4cfef 23 = .ok (.iload_n 3, 1) := by decide +kernel
theorem dJ1_indexOf_4cfef_24 : decode cJ1_indexOf_4cfef 24 = .ok (.if_icmp .lt 5, 3) := by decide +kernel
theorem dJ1_indexOf_4cfef_27 : decode cJ1_indexOf_4cfef 27 = .ok (.iconst (-1), 1) := by decide +kernel
theorem dJ1_indexOf_4cfef_28 : decode cJ1_indexOf_4cfef 28 = .ok (.ireturn, 1) := by decide +kernel
theorem dJ1_indexOf_4cfef_29 : decode cJ1_indexOf_4cfef 29 = .ok (.aload_n 0, 1) := by decide +kernel
theorem dJ1_indexOf_4cfef_30 : decode cJ1_indexOf_4cfef 30 = .ok (.iload_n 1, 1) := by decide +kernel
theorem dJ1_indexOf_4cfef_31 : decode cJ1_indexOf_4cfef 31 = .ok (.iload_n 2, 1) := by decide +kernel
theorem dJ1_indexOf_4cfef_32 : decode cJ1_indexOf_4cfef 32 = .ok (.iload_n 3, 1) := by decide +kernel
theorem dJ1_indexOf_4cfef_33 : decode cJ1_indexOf_4cfef 33 = .ok (.invokestatic 95, 3) := by decide +kernel
theorem dJ1_indexOf_4cfef_36 : decode cJ1_indexOf_4cfef 36 = .ok (.ireturn, 1) := by decide +kernel
theorem dJ1_indexOfChar_4cfef_0 : decode cJ1_indexOfChar_4cfef 0 = .ok (.iload_n 1, 1) := by decide +kernel
theorem dJ1_indexOfChar_4cfef_1 : decode cJ1_indexOfChar_4cfef 1 = .ok (.i2b, 1) := by decide +kernel
theorem dJ1_indexOfChar_4cfef_2 : decode cJ1_indexOfChar_4cfef 2 = .ok (.istore 4, 2) := by decide +kernel
theorem dJ1_indexOfChar_4cfef_4 : decode cJ1_indexOfChar_4cfef 4 = .ok (.iload_n 2, 1) := by decide +kernel
theorem dJ1_indexOfChar_4cfef_5 : decode cJ1_indexOfChar_4cfef 5 = .ok (.istore 5, 2) := by decide +kernel
theorem dJ1_indexOfChar_4cfef_7 : decode cJ1_indexOfChar_4cfef 7 = .ok (.iload 5, 2) := by decide +kernel
theorem dJ1_indexOfChar_4cfef_9 : decode cJ1_indexOfChar_4cfef 9 = .ok (.iload_n 3, 1) := by decide +kernel
theorem dJ1_indexOfChar_4cfef_10 : decode cJ1_indexOfChar_4cfef 10 = .ok (.if_icmp .ge 21, 3) := by decide +kernel
theorem dJ1_indexOfChar_4cfef_13 : decode cJ1_indexOfChar_4cfef 13 = .ok (.aload_n 0, 1) := by decide +kernel
theorem dJ1_indexOfChar_4cfef_14 : decode cJ1_indexOfChar_4cfef 14 = .ok (.iload 5, 2) := by decide +kernel
theorem dJ1_indexOfChar_4cfef_16 : decode cJ1_indexOfChar_4cfef 16 = .ok (.baload, 1) := by decide +kernel
theorem dJ1_indexOfChar_4cfef_17 : decode cJ1_indexOfChar_4cfef 17 = .ok (.iload 4, 2) := by decide +kernel
theorem dJ1_indexOfChar_4cfef_19 : decode cJ1_indexOfChar_4cfef 19 = .ok (.if_icmp .ne 6, 3) := by decide +kernel
theorem dJ1_indexOfChar_4cfef_22 : decode cJ1_indexOfChar_4cfef 22 = .ok (.iload 5, 2) := by decide +kernel
theorem dJ1_indexOfChar_4cfef_24 : decode cJ1_indexOfChar_4cfef 24 = .ok (.ireturn, 1) := by decide +kernel
theorem dJ1_indexOfChar_4cfef_25 : decode cJ1_indexOfChar_4cfef 25 = .ok (.iinc 5 1, 3) := by decide +kernel
theorem dJ1_indexOfChar_4cfef_28 : decode cJ1_indexOfChar_4cfef 28 = .ok (.goto (-21), 3) := by decide +kernel
theorem dJ1_indexOfChar_4cfef_31 : decode cJ1_indexOfChar_4cfef 31 = .ok (.iconst (-1), 1) := by decide +kernel
theorem dJ1_indexOfChar_4cfef_32 : decode cJ1_indexOfChar_4cfef 32 = .ok (.ireturn, 1) := by decide +kernel
theorem dJ11_isValidCodePoint_9a6ad_0 : decode cJ11_isValidCodePoint_9a6ad 0 = .ok (.iload_n 0, 1) := by decide +kernel
theorem dJ11_isValidCodePoint_9a6ad_1 : decode cJ11_isValidCodePoint_9a6ad 1 = .ok (.bipush 16, 2) := by decide +kernel
theorem dJ11_isValidCodePoint_9a6ad_3 : decode cJ11_isValidCodePoint_9a6ad 3 = .ok (.iushr, 1) := by decide +kernel
theorem dJ11_isValidCodePoint_9a6ad_4 : decode cJ11_isValidCodePoint_9a6ad 4 = .ok (.istore_n 1, 1) := by decide +kernel
theorem dJ11_isValidCodePoint_9a6ad_5 : decode cJ11_isValidCodePoint_9a6ad 5 = .ok (.iload_n 1, 1) := by decide +kernel
theorem dJ11_isValidCodePoint_9a6ad_6 : decode cJ11_isValidCodePoint_9a6ad 6 = .ok (.bipush 17, 2) := by decide +kernel
theorem dJ11_isValidCodePoint_9a6ad_8 : decode cJ11_isValidCodePoint_9a6ad 8 = .ok (.if_icmp .ge 7, 3) := by decide +kernel
theorem dJ11_isValidCodePoint_9a6ad_11 : decode cJ11_isValidCodePoint_9a6ad 11 = .ok (.iconst 1, 1) := by decide +kernel
theorem dJ11_isValidCodePoint_9a6ad_12 : decode cJ11_isValidCodePoint_9a6ad 12 = .ok (.goto 4, 3) := by decide +kernel
theorem dJ11_isValidCodePoint_9a6ad_15 : decode cJ11_isValidCodePoint_9a6ad 15 = .ok (.iconst 0, 1) := by decide +kernel
theorem dJ11_isValidCodePoint_9a6ad_16 : decode cJ11_isValidCodePoint_9a6ad 16 = .ok (.ireturn, 1) := by decide +kernel
theorem dJ11_highSurrogate_5068e_0 : decode cJ11_highSurrogate_5068e 0 = .ok (.iload_n 0, 1) := by decide +kernel
theorem dJ11_highSurrogate_5068e_1 : decode cJ11_highSurrogate_5068e 1 = .ok (.bipush 10, 2) := by decide +kernel
theorem dJ11_highSurrogate_5068e_3 : decode cJ11_highSurrogate_5068e 3 = .ok (.iushr, 1) := by decide +kernel
theorem dJ11_highSurrogate_5068e_4 : decode cJ11_highSurrogate_5068e 4 = .ok (.ldc 110, 2) := by decide +kernel
theorem dJ11_highSurrogate_5068e_6 : decode cJ11_highSurrogate_5068e 6 = .ok (.iadd, 1) := by decide +kernel
theorem dJ11_highSurrogate_5068e_7 : decode cJ11_highSurrogate_5068e 7 = .ok (.i2c, 1) := by decide +kernel
theorem dJ11_highSurrogate_5068e_8 : decode cJ11_highSurrogate_5068e 8 = .ok (.ireturn, 1) := by decide +kernel
theorem dJ11_lowSurrogate_5068e_0 : decode cJ11_lowSurrogate_5068e 0 = .ok (.iload_n 0, 1) := by decide +kernel
theorem dJ11_lowSurrogate_5068e_1 : decode cJ11_lowSurrogate_5068e 1 = .ok (.sipush 1023, 3) := by decide +kernel
theorem dJ11_lowSurrogate_5068e_4 : decode cJ11_lowSurrogate_5068e 4 = .ok (.iand, 1) := by decide +kernel
theorem dJ11_lowSurrogate_5068e_5 : decode cJ11_lowSurrogate_5068e 5 = .ok (.ldc 76, 2) := by decide +kernel
theorem dJ11_lowSurrogate_5068e_7 : decode cJ11_lowSurrogate_5068e 7 = .ok (.iadd, 1) := by decide +kernel
theorem dJ11_lowSurrogate_5068e_8 : decode cJ11_lowSurrogate_5068e 8 = .ok (.i2c, 1) := by decide +kernel
theorem dJ11_lowSurrogate_5068e_9 : decode cJ11_lowSurrogate_5068e 9 = .ok (.ireturn, 1) := by decide +kernel
theorem dJ2_getChar_3b067_0 : decode cJ2_getChar_3b067 0 = .ok (.getstatic 44, 3) := by decide +kernel
theorem dJ2_getChar_3b067_3 : decode cJ2_getChar_3b067 3 = .ok (.ifCond .ne 25, 3) := by decide +kernel
theorem dJ2_getChar_3b067_6 : decode cJ2_getChar_3b067 6 = .ok (.iload_n 1, 1) := by decide +kernel
theorem dJ2_getChar_3b067_7 : decode cJ2_getChar_3b067 7 = .ok (.ifCond .lt 11, 3) := by decide +kernel
theorem dJ2_getChar_3b067_10 : decode cJ2_getChar_3b067 10 = .ok (.iload_n 1, 1) := by decide +kernel
theorem dJ2_getChar_3b067_11 : decode cJ2_getChar_3b067 11 = .ok (.aload_n 0, 1) := by decide +kernel
theorem dJ2_getChar_3b067_12 : decode cJ2_getChar_3b067 12 = .ok (.invokestatic 48, 3) := by decide +kernel
theorem dJ2_getChar_3b067_15 : decode cJ2_getChar_3b067 15 = .ok (.if_icmp .lt 13, 3) := by decide +kernel
theorem dJ2_getChar_3b067_18 : decode cJ2_getChar_3b067 18 = .ok (.new 52, 3) := by decide +kernel
theorem dJ2_getChar_3b067_21 : decode cJ2_getChar_3b067 21 = .ok (.dup, 1) := by decide +kernel
theorem dJ2_getChar_3b067_22 : decode cJ2_getChar_3b067 22 = .ok (.ldc 54, 2) := by decide +kernel
theorem dJ2_getChar_3b067_24 : decode cJ2_getChar_3b067 24 = .ok (.invokespecial 56, 3) := by decide +kernel
theorem dJ2_getChar_3b067_27 : decode cJ2_getChar_3b067 27 = .ok (.athrow, 1) := by decide +kernel
theorem dJ2_getChar_3b067_28 : decode cJ2_getChar_3b067 28 = .ok (.iload_n 1, 1) := by decide +kernel
theorem dJ2_getChar_3b067_29 : decode cJ2_getChar_3b067 29 = .ok (.iconst 1, 1) := by decide +kernel
theorem dJ2_getChar_3b067_30 : decode cJ2_getChar_3b067 30 = .ok (.ishl, 1) := by decide +kernel
theorem dJ2_getChar_3b067_31 : decode cJ2_getChar_3b067 31 = .ok (.istore_n 1, 1) := by decide +kernel
theorem dJ2_getChar_3b067_32 : decode cJ2_getChar_3b067 32 = .ok (.aload_n 0, 1) := by decide +kernel
theorem dJ2_getChar_3b067_33 : decode cJ2_getChar_3b067 33 = .ok (.iload_n 1, 1) := by decide +kernel
theorem dJ2_getChar_3b067_34 : decode cJ2_getChar_3b067 34 = .ok (.iinc 1 1, 3) := by decide +kernel
theorem dJ2_getChar_3b067_37 : decode cJ2_getChar_3b067 37 = .ok (.baload, 1) := by decide +kernel
theorem dJ2_getChar_3b067_38 : decode cJ2_getChar_3b067 38 = .ok (.sipush 255, 3) := by decide +kernel
theorem dJ2_getChar_3b067_41 : decode cJ2_getChar_3b067 41 = .ok (.iand, 1) := by decide +kernel
theorem dJ2_getChar_3b067_42 : decode cJ2_getChar_3b067 42 = .ok (.getstatic 59, 3) := by decide +kernel
theorem dJ2_getChar_3b067_45 : decode cJ2_getChar_3b067 45 = .ok (.ishl, 1) := by decide +kernel
theorem dJ2_getChar_3b067_46 : decode cJ2_getChar_3b067 46 = .ok (.aload_n 0, 1) := by decide +kernel
theorem dJ2_getChar_3b067_47 : decode cJ2_getChar_3b067 47 = .ok (.iload_n 1, 1) := by decide +kernel
theorem dJ2_getChar_3b067_48 : decode cJ2_getChar_3b067 48 = .ok (.baload, 1) := by decide +kernel
theorem dJ2_getChar_3b067_49 : decode cJ2_getChar_3b067 49 = .ok (.sipush 255, 3) := by decide +kernel
theorem dJ2_getChar_3b067_52 : decode cJ2_getChar_3b067 52 = .ok (.iand, 1) := by decide +kernel
theorem dJ2_getChar_3b067_53 : decode cJ2_getChar_3b067 53 = .ok (.getstatic 63, 3) := by decide +kernel
theorem dJ2_getChar_3b067_56 : decode cJ2_getChar_3b067 56 = .ok (.ishl, 1) := by decide +kernel
theorem dJ2_getChar_3b067_57 : decode cJ2_getChar_3b067 57 = .ok (.ior, 1) := by decide +kernel
theorem dJ2_getChar_3b067_58 : decode cJ2_getChar_3b067 58 = .ok (.i2c, 1) := by decide +kernel
theorem dJ2_getChar_3b067_59 : decode cJ2_getChar_3b067 59 = .ok (.ireturn, 1) := by decide +kernel
theorem dJ2_length_9d52b_0 : decode cJ2_length_9d52b 0 = .ok (.aload_n 0, 1) := by decide +kernel
theorem dJ2_length_9d52b_1 : decode cJ2_length_9d52b 1 = .ok (.arraylength, 1) := by decide +kernel
theorem dJ2_length_9d52b_2 : decode cJ2_length_9d52b 2 = .ok (.iconst 1, 1) := by decide +kernel
theorem dJ2_length_9d52b_3 : decode cJ2_length_9d52b 3 = .ok (.ishr, 1) := by decide +kernel
theorem dJ2_length_9d52b_4 : decode cJ2_length_9d52b 4 = .ok (.ireturn, 1) := by decide +kernel
theorem dJ2_indexOf_4cfef_0 : decode cJ2_indexOf_4cfef 0 = .ok (.iload_n 2, 1) := by decide +kernel
theorem dJ2_indexOf_4cfef_1 : decode cJ2_indexOf_4cfef 1 = .ok (.iconst 0, 1) := by decide +kernel
theorem dJ2_indexOf_4cfef_2 : decode cJ2_indexOf_4cfef 2 = .ok (.invokestatic 224, 3) := by decide +kernel
theorem dJ2_indexOf_4cfef_5 : decode cJ2_indexOf_4cfef 5 = .ok (.istore_n 2, 1) := by decide +kernel
theorem dJ2_indexOf_4cfef_6 : decode cJ2_indexOf_4cfef 6 = .ok (.iload_n 3, 1) := by decide +kernel
theorem dJ2_indexOf_4cfef_7 : decode cJ2_indexOf_4cfef 7 = .ok (.aload_n 0, 1) := by decide +kernel
theorem dJ2_indexOf_4cfef_8 : decode cJ2_indexOf_4cfef 8 = .ok (.arraylength, 1) := by decide +kernel
theorem dJ2_indexOf_4cfef_9 : decode cJ2_indexOf_4cfef 9 = .ok (.iconst 1, 1) := by decide +kernel
theorem dJ2_indexOf_4cfef_10 : decode cJ2_indexOf_4cfef 10 = .ok (.ishr, 1) := by decide +kernel
theorem dJ2_indexOf_4cfef_11 : decode cJ2_indexOf_4cfef 11 = .ok (.invokestatic 183, 3) := by decide +kernel
theorem dJ2_indexOf_4cfef_14 : decode cJ2_indexOf_4cfef 14 = .ok (.istore_n 3, 1) := by decide +kernel
theorem dJ2_indexOf_4cfef_15 : decode cJ2_indexOf_4cfef 15 = .ok (.iload_n 2, 1) := by decide +kernel
theorem dJ2_indexOf_4cfef_16 : decode cJ2_indexOf_4cfef 16 = .ok (.iload_n 3, 1) := by decide +kernel
theorem dJ2_indexOf_4cfef_17 : decode cJ2_indexOf_4cfef 17 = .ok (.if_icmp .lt 5, 3) := by decide +kernel
theorem dJ2_indexOf_4cfef_20 : decode cJ2_indexOf_4cfef 20 = .ok (.iconst (-1), 1) := by decide +kernel
theorem dJ2_indexOf_4cfef_21 : decode cJ2_indexOf_4cfef 21 = .ok (.ireturn, 1) := by decide +kernel
theorem dJ2_indexOf_4cfef_22 : decode cJ2_indexOf_4cfef 22 = .ok (.iload_n 1, 1) := by decide +kernel
theorem dJ2_indexOf_4cfef_23 : decode cJ2_indexOf_4cfef 23 = .ok (.ldc 227, 2) := by decide +kernel
theorem dJ2_indexOf_4cfef_25 : decode cJ2_indexOf_4cfef 25 = .ok (.if_icmp .ge 11, 3) := by decide +kernel
theorem dJ2_indexOf_4cfef_28 : decode cJ2_indexOf_4cfef 28 = .ok (.aload_n 0, 1) := by decide +kernel
theorem dJ2_indexOf_4cfef_29 : decode cJ2_indexOf_4cfef 29 = .ok (.iload_n 1, 1) := by decide +kernel
theorem dJ2_indexOf_4cfef_30 : decode cJ2_indexOf_4cfef 30 = .ok (.iload_n 2, 1) := by decide +kernel
theorem dJ2_indexOf_4cfef_31 : decode cJ2_indexOf_4cfef 31 = .ok (.iload_n 3, 1) := by decide +kernel
theorem dJ2_indexOf_4cfef_32 : decode cJ2_indexOf_4cfef 32 = .ok (.invokestatic 228, 3) := by decide +kernel
theorem dJ2_indexOf_4cfef_35 : decode cJ2_indexOf_4cfef 35 = .ok (.ireturn, 1) := by decide +kernel
theorem dJ2_indexOf_4cfef_36 : decode cJ2_indexOf_4cfef 36 = .ok (.aload_n 0, 1) := by decide +kernel
theorem dJ2_indexOf_4cfef_37 : decode cJ2_indexOf_4cfef 37 = .ok (.iload_n 1, 1) := by decide +kernel
theorem dJ2_indexOf_4cfef_38 : decode cJ2_indexOf_4cfef 38 = .ok (.iload_n 2, 1) := by decide +kernel
theorem dJ2_indexOf_4cfef_39 : decode cJ2_indexOf_4cfef 39 = .ok (.iload_n 3, 1) := by decide +kernel
theorem dJ2_indexOf_4cfef_40 : decode cJ2_indexOf_4cfef 40 = .ok (.invokestatic 232, 3) := by decide +kernel
theorem dJ2_indexOf_4cfef_43 : decode cJ2_indexOf_4cfef 43 = .ok (.ireturn, 1) := by decide +kernel
theorem dJ2_indexOfChar_4cfef_0 : decode cJ2_indexOfChar_4cfef 0 = .ok (.iload_n 2, 1) := by decide +kernel
theorem dJ2_indexOfChar_4cfef_1 : decode cJ2_indexOfChar_4cfef 1 = .ok (.iload_n 3, 1) := by decide +kernel
theorem dJ2_indexOfChar_4cfef_2 : decode cJ2_indexOfChar_4cfef 2 = .ok (.aload_n 0, 1) := by decide +kernel
theorem dJ2_indexOfChar_4cfef_3 : decode cJ2_indexOfChar_4cfef 3 = .ok (.invokestatic 96, 3) := by decide +kernel
theorem dJ2_indexOfChar_4cfef_6 : decode cJ2_indexOfChar_4cfef 6 = .ok (.aload_n 0, 1) := by decide +kernel
theorem dJ2_indexOfChar_4cfef_7 : decode cJ2_indexOfChar_4cfef 7 = .ok (.iload_n 1, 1) := by decide +kernel
theorem dJ2_indexOfChar_4cfef_8 : decode cJ2_indexOfChar_4cfef 8 = .ok (.iload_n 2, 1) := by decide +kernel
theorem dJ2_indexOfChar_4cfef_9 : decode cJ2_indexOfChar_4cfef 9 = .ok (.iload_n 3, 1) := by decide +kernel
theorem dJ2_indexOfChar_4cfef_10 : decode cJ2_indexOfChar_4cfef 10 = .ok (.invokestatic 244, 3) := by decide +kernel
theorem dJ2_indexOfChar_4cfef_13 : decode cJ2_indexOfChar_4cfef 13 = .ok (.ireturn, 1) := by decide +kernel
theorem dJ2_indexOfCharUnsafe_4cfef_0 : decode cJ2_indexOfCharUnsafe_4cfef 0 = .ok (.iload_n 2, 1) := by decide +kernel
theorem dJ2_indexOfCharUnsafe_4cfef_1 : decode cJ2_indexOfCharUnsafe_4cfef 1 = .ok (.istore 4, 2) := by decide +kernel
theorem dJ2_indexOfCharUnsafe_4cfef_3 : decode cJ2_indexOfCharUnsafe_4cfef 3 = .ok (.iload 4, 2) := by decide +kernel
theorem dJ2_indexOfCharUnsafe_4cfef_5 : decode cJ2_indexOfCharUnsafe_4cfef 5 = .ok (.iload_n 3, 1) := by decide +kernel
theorem dJ2_indexOfCharUnsafe_4cfef_6 : decode cJ2_indexOfCharUnsafe_4cfef 6 = .ok (.if_icmp .ge 22, 3) := by decide +kernel
theorem dJ2_indexOfCharUnsafe_4cfef_9 : decode cJ2_indexOfCharUnsafe_4cfef 9 = .ok (.aload_n 0, 1) := by decide +kernel
theorem dJ2_indexOfCharUnsafe_4cfef_10 : decode cJ2_indexOfCharUnsafe_4cfef 10 = .ok (.iload 4, 2) := by decide +kernel
theorem dJ2_indexOfCharUnsafe_4cfef_12 : decode cJ2_indexOfCharUnsafe_4cfef 12 = .ok (.invokestatic 71, 3) := by decide +kernel
theorem dJ2_indexOfCharUnsafe_4cfef_15 : decode cJ2_indexOfCharUnsafe_4cfef 15 = .ok (.iload_n 1, 1) := by decide +kernel
theorem dJ2_indexOfCharUnsafe_4cfef_16 : decode cJ2_indexOfCharUnsafe_4cfef 16 = .ok (.if_icmp .ne 6, 3) := by decide +kernel
theorem dJ2_indexOfCharUnsafe_4cfef_19 : decode cJ2_indexOfCharUnsafe_4cfef 19 = .ok (.iload 4, 2) := by decide +kernel
theorem dJ2_indexOfCharUnsafe_4cfef_21 : decode cJ2_indexOfCharUnsafe_4cfef 21 = .ok (.ireturn, 1) := by decide +kernel
theorem dJ2_indexOfCharUnsafe_4cfef_22 : decode cJ2_indexOfCharUnsafe_4cfef 22 = .ok (.iinc 4 1, 3) := by decide +kernel
theorem dJ2_indexOfCharUnsafe_4cfef_25 : decode cJ2_indexOfCharUnsafe_4cfef 25 = .ok (.goto (-22), 3) := by decide +kernel
theorem dJ2_indexOfCharUnsafe_4cfef_28 : decode cJ2_indexOfCharUnsafe_4cfef 28 = .ok (.iconst (-1), 1) := by decide +kernel
theorem dJ2_indexOfCharUnsafe_4cfef_29 : decode cJ2_indexOfCharUnsafe_4cfef 29 = .ok (.ireturn, 1) := by decide +kernel
theorem dJ2_indexOfSupplementary_4cfef_0 : decode cJ2_indexOfSupplementary_4cfef 0 = .ok (.iload_n 1, 1) := by decide +kernel
theorem dJ2_indexOfSupplementary_4cfef_1 : decode cJ2_indexOfSupplementary_4cfef 1 = .ok (.invokestatic 164, 3) := by decide +kernel
theorem dJ2_indexOfSupplementary_4cfef_4 : decode cJ2_indexOfSupplementary_4cfef 4 = .ok (.ifCond .eq 65, 3) := by decide +kernel
theorem dJ2_indexOfSupplementary_4cfef_7 : decode cJ2_indexOfSupplementary_4cfef 7 = .ok (.iload_n 1, 1) := by decide +kernel
theorem dJ2_indexOfSupplementary_4cfef_8 : decode cJ2_indexOfSupplementary_4cfef 8 = .ok (.invokestatic 157, 3) := by decide +kernel
theorem dJ2_indexOfSupplementary_4cfef_11 : decode cJ2_indexOfSupplementary_4cfef 11 = .ok (.istore 4, 2) := by decide +kernel
theorem dJ2_indexOfSupplementary_4cfef_13 : decode cJ2_indexOfSupplementary_4cfef 13 = .ok (.iload_n 1, 1) := by decide +kernel
theorem dJ2_indexOfSupplementary_4cfef_14 : decode cJ2_indexOfSupplementary_4cfef 14 = .ok (.invokestatic 161, 3) := by decide +kernel
theorem dJ2_indexOfSupplementary_4cfef_17 : decode cJ2_indexOfSupplementary_4cfef 17 = .ok (.istore 5, 2) := by decide +kernel
theorem dJ2_indexOfSupplementary_4cfef_19 : decode cJ2_indexOfSupplementary_4cfef 19 = .ok (.iload_n 2, 1) := by decide +kernel
theorem dJ2_indexOfSupplementary_4cfef_20 : decode cJ2_indexOfSupplementary_4cfef 20 = .ok (.iload_n 3, 1) := by decide +kernel
theorem dJ2_indexOfSupplementary_4cfef_21 : decode cJ2_indexOfSupplementary_4cfef 21 = .ok (.aload_n 0, 1) := by decide +kernel
theorem dJ2_indexOfSupplementary_4cfef_22 : decode cJ2_indexOfSupplementary_4cfef 22 = .ok (.invokestatic 96, 3) := by decide +kernel
theorem dJ2_indexOfSupplementary_4cfef_25 : decode cJ2_indexOfSupplementary_4cfef 25 = .ok (.iload_n 2, 1) := by decide +kernel
theorem dJ2_indexOfSupplementary_4cfef_26 : decode cJ2_indexOfSupplementary_4cfef 26 = .ok (.istore 6, 2) := by decide +kernel
theorem dJ2_indexOfSupplementary_4cfef_28 : decode cJ2_indexOfSupplementary_4cfef 28 = .ok (.iload 6, 2) := by decide +kernel
theorem dJ2_indexOfSupplementary_4cfef_30 : decode cJ2_indexOfSupplementary_4cfef 30 = .ok (.iload_n 3, 1) := by decide +kernel
theorem dJ2_indexOfSupplementary_4cfef_31 : decode cJ2_indexOfSupplementary_4cfef 31 = .ok (.iconst 1, 1) := by decide +kernel
theorem dJ2_indexOfSupplementary_4cfef_32 : decode cJ2_indexOfSupplementary_4cfef 32 = .ok (.isub, 1) := by decide +kernel
theorem dJ2_indexOfSupplementary_4cfef_33 : decode cJ2_indexOfSupplementary_4cfef 33 = .ok (.if_icmp .ge 36, 3) := by decide +kernel
theorem dJ2_indexOfSupplementary_4cfef_36 : decode cJ2_indexOfSupplementary_4cfef 36 = .ok (.aload_n 0, 1) := by decide +kernel
theorem dJ2_indexOfSupplementary_4cfef_37 : decode cJ2_indexOfSupplementary_4cfef 37 = .ok (.iload 6, 2) := by decide +kernel
theorem dJ2_indexOfSupplementary_4cfef_39 : decode cJ2_indexOfSupplementary_4cfef 39 = .ok (.invokestatic 71, 3) := by decide +kernel
theorem dJ2_indexOfSupplementary_4cfef_42 : decode cJ2_indexOfSupplementary_4cfef 42 = .ok (.iload 4, 2) := by decide +kernel
theorem dJ2_indexOfSupplementary_4cfef_44 : decode cJ2_indexOfSupplementary_4cfef 44 = .ok (.if_icmp .ne 19, 3) := by decide +kernel
theorem dJ2_indexOfSupplementary_4cfef_47 : decode cJ2_indexOfSupplementary_4cfef 47 = .ok (.aload_n 0, 1) := by decide +kernel
theorem dJ2_indexOfSupplementary_4cfef_48 : decode cJ2_indexOfSupplementary_4cfef 48 = .ok (.iload 6, 2) := by decide +kernel
theorem dJ2_indexOfSupplementary_4cfef_50 : decode cJ2_indexOfSupplementary_4cfef 50 = .ok (.iconst 1, 1) := by decide +kernel
theorem dJ2_indexOfSupplementary_4cfef_51 : decode cJ2_indexOfSupplementary_4cfef 51 = .ok (.iadd, 1) := by decide +kernel
theorem dJ2_indexOfSupplementary_4cfef_52 : decode cJ2_indexOfSupplementary_4cfef 52 = .ok (.invokestatic 71, 3) := by decide +kernel
theorem dJ2_indexOfSupplementary_4cfef_55 : decode cJ2_indexOfSupplementary_4cfef 55 = .ok (.iload 5, 2) := by decide +kernel
theorem dJ2_indexOfSupplementary_4cfef_57 : decode cJ2_indexOfSupplementary_4cfef 57 = .ok (.if_icmp .ne 6, 3) := by decide +kernel
theorem dJ2_indexOfSupplementary_4cfef_60 : decode cJ2_indexOfSupplementary_4cfef 60 = .ok (.iload 6, 2) := by decide +kernel
theorem dJ2_indexOfSupplementary_4cfef_62 : decode cJ2_indexOfSupplementary_4cfef 62 = .ok (.ireturn, 1) := by decide +kernel
theorem dJ2_indexOfSupplementary_4cfef_63 : decode cJ2_indexOfSupplementary_4cfef 63 = .ok (.iinc 6 1, 3) := by decide +kernel
theorem dJ2_indexOfSupplementary_4cfef_66 : decode cJ2_indexOfSupplementary_4cfef 66 = .ok (.goto (-38), 3) := by decide +kernel
theorem dJ2_indexOfSupplementary_4cfef_69 : decode cJ2_indexOfSupplementary_4cfef 69 = .ok (.iconst (-1), 1) := by decide +kernel
theorem dJ2_indexOfSupplementary_4cfef_70 : decode cJ2_indexOfSupplementary_4cfef 70 = .ok (.ireturn, 1) := by decide +kernel
theorem dJ2_checkBoundsBeginEnd_d044e_0 : decode cJ2_checkBoundsBeginEnd_d044e 0 = .ok (.iload_n 0, 1) := by decide +kernel
theorem dJ2_checkBoundsBeginEnd_d044e_1 : decode cJ2_checkBoundsBeginEnd_d044e 1 = .ok (.iload_n 1, 1) := by decide +kernel
theorem dJ2_checkBoundsBeginEnd_d044e_2 : decode cJ2_checkBoundsBeginEnd_d044e 2 = .ok (.aload_n 2, 1) := by decide +kernel
theorem dJ2_checkBoundsBeginEnd_d044e_3 : decode cJ2_checkBoundsBeginEnd_d044e 3 = .ok (.invokestatic 48, 3) := by decide +kernel
theorem dJ2_checkBoundsBeginEnd_d044e_6 : decode cJ2_checkBoundsBeginEnd_d044e 6 = .ok (.invokestatic 241, 3) := by decide +kernel
theorem dJ2_checkBoundsBeginEnd_d044e_9 : decode cJ2_checkBoundsBeginEnd_d044e 9 = .ok (.return_, 1) := by decide +kernel
theorem dJ3_checkFromToIndex_8c36e_0 : decode cJ3_checkFromToIndex_8c36e 0 = .ok (.iload_n 0, 1) := by decide +kernel
theorem dJ3_checkFromToIndex_8c36e_1 : decode cJ3_checkFromToIndex_8c36e 1 = .ok (.ifCond .lt 13, 3) := by decide +kernel
theorem dJ3_checkFromToIndex_8c36e_4 : decode cJ3_checkFromToIndex_8c36e 4 = .ok (.iload_n 0, 1) := by decide +kernel
theorem dJ3_checkFromToIndex_8c36e_5 : decode cJ3_checkFromToIndex_8c36e 5 = .ok (.iload_n 1, 1) := by decide +kernel
theorem dJ3_checkFromToIndex_8c36e_6 : decode cJ3_checkFromToIndex_8c36e 6 = .ok (.if_icmp .gt 8, 3) := by decide +kernel
theorem dJ3_checkFromToIndex_8c36e_9 : decode cJ3_checkFromToIndex_8c36e 9 = .ok (.iload_n 1, 1) := by decide +kernel
theorem dJ3_checkFromToIndex_8c36e_10 : decode cJ3_checkFromToIndex_8c36e 10 = .ok (.iload_n 2, 1) := by decide +kernel
theorem dJ3_checkFromToIndex_8c36e_11 : decode cJ3_checkFromToIndex_8c36e 11 = .ok (.if_icmp .le 11, 3) := by decide +kernel
theorem dJ3_checkFromToIndex_8c36e_14 : decode cJ3_checkFromToIndex_8c36e 14 = .ok (.aload_n 3, 1) := by decide +kernel
theorem dJ3_checkFromToIndex_8c36e_15 : decode cJ3_checkFromToIndex_8c36e 15 = .ok (.iload_n 0, 1) := by decide +kernel
theorem dJ3_checkFromToIndex_8c36e_16 : decode cJ3_checkFromToIndex_8c36e 16 = .ok (.iload_n 1, 1) := by decide +kernel
theorem dJ3_checkFromToIndex_8c36e_17 : decode cJ3_checkFromToIndex_8c36e 17 = .ok (.iload_n 2, 1) := by decide +kernel
theorem dJ3_checkFromToIndex_8c36e_18 : decode cJ3_checkFromToIndex_8c36e 18 = .ok (.invokestatic 99, 3) := by decide +kernel
theorem dJ3_checkFromToIndex_8c36e_21 : decode cJ3_checkFromToIndex_8c36e 21 = .ok (.athrow, 1) := by decide +kernel
theorem dJ3_checkFromToIndex_8c36e_22 : decode cJ3_checkFromToIndex_8c36e 22 = .ok (.iload_n 0, 1) := by decide +kernel
theorem dJ3_checkFromToIndex_8c36e_23 : decode cJ3_checkFromToIndex_8c36e 23 = .ok (.ireturn, 1) := by decide +kernel
theorem dJ9_max_7cf53_0 : decode cJ9_max_7cf53 0 = .ok (.iload_n 0, 1) := by decide +kernel
theorem dJ9_max_7cf53_1 : decode cJ9_max_7cf53 1 = .ok (.iload_n 1, 1) := by decide +kernel
theorem dJ9_max_7cf53_2 : decode cJ9_max_7cf53 2 = .ok (.if_icmp .lt 7, 3) := by decide +kernel
theorem dJ9_max_7cf53_5 : decode cJ9_max_7cf53 5 = .ok (.iload_n 0, 1) := by decide +kernel
theorem dJ9_max_7cf53_6 : decode cJ9_max_7cf53 6 = .ok (.goto 4, 3) := by decide +kernel
theorem dJ9_max_7cf53_9 : decode cJ9_max_7cf53 9 = .ok (.iload_n 1, 1) := by decide +kernel
theorem dJ9_max_7cf53_10 : decode cJ9_max_7cf53 10 = .ok (.ireturn, 1) := by decide +kernel
theorem dJ9_min_7cf53_0 : decode cJ9_min_7cf53 0 = .ok (.iload_n 0, 1) := by decide +kernel
theorem dJ9_min_7cf53_1 : decode cJ9_min_7cf53 1 = .ok (.iload_n 1, 1) := by decide +kernel
theorem dJ9_min_7cf53_2 : decode cJ9_min_7cf53 2 = .ok (.if_icmp .gt 7, 3) := by decide +kernel
theorem dJ9_min_7cf53_5 : decode cJ9_min_7cf53 5 = .ok (.iload_n 0, 1) := by decide +kernel
theorem dJ9_min_7cf53_6 : decode cJ9_min_7cf53 6 = .ok (.goto 4, 3) := by decide +kernel
theorem dJ9_min_7cf53_9 : decode cJ9_min_7cf53 9 = .ok (.iload_n 1, 1) := by decide +kernel
theorem dJ9_min_7cf53_10 : decode cJ9_min_7cf53 10 = .ok (.ireturn, 1) := by decide +kernel
theorem dL_floors_0 : decode cL_floors 0 = .ok (.aload_n 0, 1) := by decide +kernel
theorem dL_floors_1 : decode cL_floors 1 = .ok (.iload_n 1, 1) := by decide +kernel
theorem dL_floors_2 : decode cL_floors 2 = .ok (.iload_n 2, 1) := by decide +kernel
theorem dL_floors_3 : decode cL_floors 3 = .ok (.iload_n 3, 1) := by decide +kernel
theorem dL_floors_4 : decode cL_floors 4 = .ok (.iload 4, 2) := by decide +kernel
theorem dL_floors_6 : decode cL_floors 6 = .ok (.invokevirtual 7, 3) := by decide +kernel
theorem dL_floors_9 : decode cL_floors 9 = .ok (.ireturn, 1) := by decide +kernel
theorem dL_floors_10 : decode cL_floors 10 = .ok (.astore 5, 2) := by decide +kernel
theorem dL_floors_12 : decode cL_floors 12 = .ok (.ldc 15, 2) := by decide +kernel
theorem dL_floors_14 : decode cL_floors 14 = .ok (.ireturn, 1) := by decide +kernel
theorem dL_floors_15 : decode cL_floors 15 = .ok (.astore 5, 2) := by decide +kernel
theorem dL_floors_17 : decode cL_floors 17 = .ok (.ldc 18, 2) := by decide +kernel
theorem dL_floors_19 : decode cL_floors 19 = .ok (.ireturn, 1) := by decide +kernel
theorem dL_doScript_0 : decode cL_doScript 0 = .ok (.aload_n 0, 1) := by decide +kernel
theorem dL_doScript_1 : decode cL_doScript 1 = .ok (.iload_n 1, 1) := by decide +kernel
theorem dL_doScript_2 : decode cL_doScript 2 = .ok (.lload_n 2, 1) := by decide +kernel
theorem dL_doScript_3 : decode cL_doScript 3 = .ok (.invokevirtual 19, 3) := by decide +kernel
theorem dL_doScript_6 : decode cL_doScript 6 = .ok (.ireturn, 1) := by decide +kernel
theorem dL_doScript_7 : decode cL_doScript 7 = .ok (.astore 4, 2) := by decide +kernel
theorem dL_doScript_9 : decode cL_doScript 9 = .ok (.ldc 15, 2) := by decide +kernel
theorem dL_doScript_11 : decode cL_doScript 11 = .ok (.ireturn, 1) := by decide +kernel
theorem dL_doSimulate_0 : decode cL_doSimulate 0 = .ok (.aload_n 0, 1) := by decide +kernel
theorem dL_doSimulate_1 : decode cL_doSimulate 1 = .ok (.lload_n 1, 1) := by decide +kernel
theorem dL_doSimulate_2 : decode cL_doSimulate 2 = .ok (.iload_n 3, 1) := by decide +kernel
theorem dL_doSimulate_3 : decode cL_doSimulate 3 = .ok (.invokevirtual 23, 3) := by decide +kernel
theorem dL_doSimulate_6 : decode cL_doSimulate 6 = .ok (.ireturn, 1) := by decide +kernel
theorem dL_doSimulate_7 : decode cL_doSimulate 7 = .ok (.astore 4, 2) := by decide +kernel
theorem dL_doSimulate_9 : decode cL_doSimulate 9 = .ok (.ldc 15, 2) := by decide +kernel
theorem dL_doSimulate_11 : decode cL_doSimulate 11 = .ok (.ireturn, 1) := by decide +kernel
theorem dL_tryAppend_0 : decode cL_tryAppend 0 = .ok (.aload_n 0, 1) := by decide +kernel
theorem dL_tryAppend_1 : decode cL_tryAppend 1 = .ok (.iload_n 1, 1) := by decide +kernel
theorem dL_tryAppend_2 : decode cL_tryAppend 2 = .ok (.invokevirtual 27, 3) := by decide +kernel
theorem dL_tryAppend_5 : decode cL_tryAppend 5 = .ok (.ireturn, 1) := by decide +kernel
theorem dL_tryAppend_6 : decode cL_tryAppend 6 = .ok (.astore_n 2, 1) := by decide +kernel
theorem dL_tryAppend_7 : decode cL_tryAppend 7 = .ok (.ldc 15, 2) := by decide +kernel
theorem dL_tryAppend_9 : decode cL_tryAppend 9 = .ok (.ireturn, 1) := by decide +kernel
theorem dL_tryAppend_10 : decode cL_tryAppend 10 = .ok (.astore_n 2, 1) := by decide +kernel
theorem dL_tryAppend_11 : decode cL_tryAppend 11 = .ok (.ldc 18, 2) := by decide +kernel
theorem dL_tryAppend_13 : decode cL_tryAppend 13 = .ok (.ireturn, 1) := by decide +kernel
theorem dL_tryLoad_0 : decode cL_tryLoad 0 = .ok (.aload_n 0, 1) := by decide +kernel
theorem dL_tryLoad_1 : decode cL_tryLoad 1 = .ok (.invokevirtual 31, 3) := by decide +kernel
theorem dL_tryLoad_4 : decode cL_tryLoad 4 = .ok (.ireturn, 1) := by decide +kernel
theorem dL_tryLoad_5 : decode cL_tryLoad 5 = .ok (.astore_n 1, 1) := by decide +kernel
theorem dL_tryLoad_6 : decode cL_tryLoad 6 = .ok (.ldc 18, 2) := by decide +kernel
theorem dL_tryLoad_8 : decode cL_tryLoad 8 = .ok (.ireturn, 1) := by decide +kernel
theorem dL_tryAbout_0 : decode cL_tryAbout 0 = .ok (.aload_n 0, 1) := by decide +kernel
theorem dL_tryAbout_1 : decode cL_tryAbout 1 = .ok (.iload_n 1, 1) := by decide +kernel
theorem dL_tryAbout_2 : decode cL_tryAbout 2 = .ok (.invokevirtual 35, 3) := by decide +kernel
theorem dL_tryAbout_5 : decode cL_tryAbout 5 = .ok (.ireturn, 1) := by decide +kernel
theorem dL_tryAbout_6 : decode cL_tryAbout 6 = .ok (.astore_n 2, 1) := by decide +kernel
theorem dL_tryAbout_7 : decode cL_tryAbout 7 = .ok (.ldc 15, 2) := by decide +kernel
theorem dL_tryAbout_9 : decode cL_tryAbout 9 = .ok (.ireturn, 1) := by decide +kernel
theorem dL_tryChair_0 : decode cL_tryChair 0 = .ok (.aload_n 0, 1) := by decide +kernel
theorem dL_tryChair_1 : decode cL_tryChair 1 = .ok (.iload_n 1, 1) := by decide +kernel
theorem dL_tryChair_2 : decode cL_tryChair 2 = .ok (.iload_n 2, 1) := by decide +kernel
theorem dL_tryChair_3 : decode cL_tryChair 3 = .ok (.invokevirtual 38, 3) := by decide +kernel
theorem dL_tryChair_6 : decode cL_tryChair 6 = .ok (.ireturn, 1) := by decide +kernel
theorem dL_tryChair_7 : decode cL_tryChair 7 = .ok (.astore_n 3, 1) := by decide +kernel
theorem dL_tryChair_8 : decode cL_tryChair 8 = .ok (.ldc 44, 2) := by decide +kernel
theorem dL_tryChair_10 : decode cL_tryChair 10 = .ok (.ireturn, 1) := by decide +kernel
theorem dL_tryChair_11 : decode cL_tryChair 11 = .ok (.astore_n 3, 1) := by decide +kernel
theorem dL_tryChair_12 : decode cL_tryChair 12 = .ok (.ldc 15, 2) := by decide +kernel
theorem dL_tryChair_14 : decode cL_tryChair 14 = .ok (.ireturn, 1) := by decide +kernel
theorem dL_tryWobble_0 : decode cL_tryWobble 0 = .ok (.aload_n 0, 1) := by decide +kernel
theorem dL_tryWobble_1 : decode cL_tryWobble 1 = .ok (.iload_n 1, 1) := by decide +kernel
theorem dL_tryWobble_2 : decode cL_tryWobble 2 = .ok (.iload_n 2, 1) := by decide +kernel
theorem dL_tryWobble_3 : decode cL_tryWobble 3 = .ok (.invokevirtual 45, 3) := by decide +kernel
theorem dL_tryWobble_6 : decode cL_tryWobble 6 = .ok (.ireturn, 1) := by decide +kernel
theorem dL_tryWobble_7 : decode cL_tryWobble 7 = .ok (.astore_n 3, 1) := by decide +kernel
theorem dL_tryWobble_8 : decode cL_tryWobble 8 = .ok (.ldc 44, 2) := by decide +kernel
theorem dL_tryWobble_10 : decode cL_tryWobble 10 = .ok (.ireturn, 1) := by decide +kernel
theorem dL_tryWobble_11 : decode cL_tryWobble 11 = .ok (.astore_n 3, 1) := by decide +kernel
theorem dL_tryWobble_12 : decode cL_tryWobble 12 = .ok (.ldc 15, 2) := by decide +kernel
theorem dL_tryWobble_14 : decode cL_tryWobble 14 = .ok (.ireturn, 1) := by decide +kernel
theorem dL_tryLeg_0 : decode cL_tryLeg 0 = .ok (.aload_n 0, 1) := by decide +kernel
theorem dL_tryLeg_1 : decode cL_tryLeg 1 = .ok (.iload_n 1, 1) := by decide +kernel
theorem dL_tryLeg_2 : decode cL_tryLeg 2 = .ok (.iload_n 2, 1) := by decide +kernel
theorem dL_tryLeg_3 : decode cL_tryLeg 3 = .ok (.iload_n 3, 1) := by decide +kernel
theorem dL_tryLeg_4 : decode cL_tryLeg 4 = .ok (.invokevirtual 48, 3) := by decide +kernel
theorem dL_tryLeg_7 : decode cL_tryLeg 7 = .ok (.ireturn, 1) := by decide +kernel
theorem dL_tryLeg_8 : decode cL_tryLeg 8 = .ok (.astore 4, 2) := by decide +kernel
theorem dL_tryLeg_10 : decode cL_tryLeg 10 = .ok (.ldc 44, 2) := by decide +kernel
theorem dL_tryLeg_12 : decode cL_tryLeg 12 = .ok (.ireturn, 1) := by decide +kernel
theorem dL_tryLeg_13 : decode cL_tryLeg 13 = .ok (.astore 4, 2) := by decide +kernel
theorem dL_tryLeg_15 : decode cL_tryLeg 15 = .ok (.ldc 15, 2) := by decide +kernel
theorem dL_tryLeg_17 : decode cL_tryLeg 17 = .ok (.ireturn, 1) := by decide +kernel
theorem dL_trySpot_0 : decode cL_trySpot 0 = .ok (.aload_n 0, 1) := by decide +kernel
theorem dL_trySpot_1 : decode cL_trySpot 1 = .ok (.iload_n 1, 1) := by decide +kernel
theorem dL_trySpot_2 : decode cL_trySpot 2 = .ok (.iload_n 2, 1) := by decide +kernel
theorem dL_trySpot_3 : decode cL_trySpot 3 = .ok (.invokevirtual 52, 3) := by decide +kernel
theorem dL_trySpot_6 : decode cL_trySpot 6 = .ok (.ireturn, 1) := by decide +kernel
theorem dL_trySpot_7 : decode cL_trySpot 7 = .ok (.astore_n 3, 1) := by decide +kernel
theorem dL_trySpot_8 : decode cL_trySpot 8 = .ok (.ldc 44, 2) := by decide +kernel
theorem dL_trySpot_10 : decode cL_trySpot 10 = .ok (.ireturn, 1) := by decide +kernel
theorem dL_tryBoundOf_0 : decode cL_tryBoundOf 0 = .ok (.aload_n 0, 1) := by decide +kernel
theorem dL_tryBoundOf_1 : decode cL_tryBoundOf 1 = .ok (.iload_n 1, 1) := by decide +kernel
theorem dL_tryBoundOf_2 : decode cL_tryBoundOf 2 = .ok (.iload_n 2, 1) := by decide +kernel
theorem dL_tryBoundOf_3 : decode cL_tryBoundOf 3 = .ok (.invokevirtual 55, 3) := by decide +kernel
theorem dL_tryBoundOf_6 : decode cL_tryBoundOf 6 = .ok (.ireturn, 1) := by decide +kernel
theorem dL_tryBoundOf_7 : decode cL_tryBoundOf 7 = .ok (.astore_n 3, 1) := by decide +kernel
theorem dL_tryBoundOf_8 : decode cL_tryBoundOf 8 = .ok (.ldc 44, 2) := by decide +kernel
theorem dL_tryBoundOf_10 : decode cL_tryBoundOf 10 = .ok (.ireturn, 1) := by decide +kernel
theorem dL_trySetting_0 : decode cL_trySetting 0 = .ok (.aload_n 0, 1) := by decide +kernel
theorem dL_trySetting_1 : decode cL_trySetting 1 = .ok (.iload_n 1, 1) := by decide +kernel
theorem dL_trySetting_2 : decode cL_trySetting 2 = .ok (.invokevirtual 58, 3) := by decide +kernel
theorem dL_trySetting_5 : decode cL_trySetting 5 = .ok (.ireturn, 1) := by decide +kernel
theorem dL_trySetting_6 : decode cL_trySetting 6 = .ok (.astore_n 2, 1) := by decide +kernel
theorem dL_trySetting_7 : decode cL_trySetting 7 = .ok (.ldc 15, 2) := by decide +kernel
theorem dL_trySetting_9 : decode cL_trySetting 9 = .ok (.ireturn, 1) := by decide +kernel
theorem dL_tryComes_0 : decode cL_tryComes 0 = .ok (.aload_n 0, 1) := by decide +kernel
theorem dL_tryComes_1 : decode cL_tryComes 1 = .ok (.iload_n 1, 1) := by decide +kernel
theorem dL_tryComes_2 : decode cL_tryComes 2 = .ok (.iload_n 2, 1) := by decide +kernel
theorem dL_tryComes_3 : decode cL_tryComes 3 = .ok (.invokevirtual 61, 3) := by decide +kernel
theorem dL_tryComes_6 : decode cL_tryComes 6 = .ok (.ireturn, 1) := by decide +kernel
theorem dL_tryComes_7 : decode cL_tryComes 7 = .ok (.astore_n 3, 1) := by decide +kernel
theorem dL_tryComes_8 : decode cL_tryComes 8 = .ok (.ldc 44, 2) := by decide +kernel
theorem dL_tryComes_10 : decode cL_tryComes 10 = .ok (.ireturn, 1) := by decide +kernel
theorem dL_tryComes_11 : decode cL_tryComes 11 = .ok (.astore_n 3, 1) := by decide +kernel
theorem dL_tryComes_12 : decode cL_tryComes 12 = .ok (.ldc 15, 2) := by decide +kernel
theorem dL_tryComes_14 : decode cL_tryComes 14 = .ok (.ireturn, 1) := by decide +kernel
theorem dL_tryComes_15 : decode cL_tryComes 15 = .ok (.astore_n 3, 1) := by decide +kernel
theorem dL_tryComes_16 : decode cL_tryComes 16 = .ok (.ldc 18, 2) := by decide +kernel
theorem dL_tryComes_18 : decode cL_tryComes 18 = .ok (.ireturn, 1) := by decide +kernel
theorem dL_tryLevel_0 : decode cL_tryLevel 0 = .ok (.aload_n 0, 1) := by decide +kernel
theorem dL_tryLevel_1 : decode cL_tryLevel 1 = .ok (.iload_n 1, 1) := by decide +kernel
theorem dL_tryLevel_2 : decode cL_tryLevel 2 = .ok (.iload_n 2, 1) := by decide +kernel
theorem dL_tryLevel_3 : decode cL_tryLevel 3 = .ok (.iload_n 3, 1) := by decide +kernel
theorem dL_tryLevel_4 : decode cL_tryLevel 4 = .ok (.invokevirtual 64, 3) := by decide +kernel
theorem dL_tryLevel_7 : decode cL_tryLevel 7 = .ok (.ireturn, 1) := by decide +kernel
theorem dL_tryLevel_8 : decode cL_tryLevel 8 = .ok (.astore 4, 2) := by decide +kernel
theorem dL_tryLevel_10 : decode cL_tryLevel 10 = .ok (.ldc 44, 2) := by decide +kernel
theorem dL_tryLevel_12 : decode cL_tryLevel 12 = .ok (.ireturn, 1) := by decide +kernel
theorem dL_tryLevel_13 : decode cL_tryLevel 13 = .ok (.astore 4, 2) := by decide +kernel
theorem dL_tryLevel_15 : decode cL_tryLevel 15 = .ok (.ldc 15, 2) := by decide +kernel
theorem dL_tryLevel_17 : decode cL_tryLevel 17 = .ok (.ireturn, 1) := by decide +kernel
theorem dL_tryBring_0 : decode cL_tryBring 0 = .ok (.aload_n 0, 1) := by decide +kernel
theorem dL_tryBring_1 : decode cL_tryBring 1 = .ok (.iload_n 1, 1) := by decide +kernel
theorem dL_tryBring_2 : decode cL_tryBring 2 = .ok (.iload_n 2, 1) := by decide +kernel
theorem dL_tryBring_3 : decode cL_tryBring 3 = .ok (.iload_n 3, 1) := by decide +kernel
theorem dL_tryBring_4 : decode cL_tryBring 4 = .ok (.invokevirtual 67, 3) := by decide +kernel
theorem dL_tryBring_7 : decode cL_tryBring 7 = .ok (.ireturn, 1) := by decide +kernel
theorem dL_tryBring_8 : decode cL_tryBring 8 = .ok (.astore 4, 2) := by decide +kernel
theorem dL_tryBring_10 : decode cL_tryBring 10 = .ok (.ldc 44, 2) := by decide +kernel
theorem dL_tryBring_12 : decode cL_tryBring 12 = .ok (.ireturn, 1) := by decide +kernel
theorem dL_tryBring_13 : decode cL_tryBring 13 = .ok (.astore 4, 2) := by decide +kernel
theorem dL_tryBring_15 : decode cL_tryBring 15 = .ok (.ldc 15, 2) := by decide +kernel
theorem dL_tryBring_17 : decode cL_tryBring 17 = .ok (.ireturn, 1) := by decide +kernel
theorem dL_trySaw_0 : decode cL_trySaw 0 = .ok (.aload_n 0, 1) := by decide +kernel
theorem dL_trySaw_1 : decode cL_trySaw 1 = .ok (.iload_n 1, 1) := by decide +kernel
theorem dL_trySaw_2 : decode cL_trySaw 2 = .ok (.iload_n 2, 1) := by decide +kernel
theorem dL_trySaw_3 : decode cL_trySaw 3 = .ok (.iload_n 3, 1) := by decide +kernel
theorem dL_trySaw_4 : decode cL_trySaw 4 = .ok (.invokevirtual 70, 3) := by decide +kernel
theorem dL_trySaw_7 : decode cL_trySaw 7 = .ok (.ireturn, 1) := by decide +kernel
theorem dL_trySaw_8 : decode cL_trySaw 8 = .ok (.astore 4, 2) := by decide +kernel
theorem dL_trySaw_10 : decode cL_trySaw 10 = .ok (.ldc 44, 2) := by decide +kernel
theorem dL_trySaw_12 : decode cL_trySaw 12 = .ok (.ireturn, 1) := by decide +kernel
theorem dL_trySaw_13 : decode cL_trySaw 13 = .ok (.astore 4, 2) := by decide +kernel
theorem dL_trySaw_15 : decode cL_trySaw 15 = .ok (.ldc 15, 2) := by decide +kernel
theorem dL_trySaw_17 : decode cL_trySaw 17 = .ok (.ireturn, 1) := by decide +kernel
theorem dL_trySaw_18 : decode cL_trySaw 18 = .ok (.astore 4, 2) := by decide +kernel
theorem dL_trySaw_20 : decode cL_trySaw 20 = .ok (.ldc 18, 2) := by decide +kernel
theorem dL_trySaw_22 : decode cL_trySaw 22 = .ok (.ireturn, 1) := by decide +kernel
theorem dL_tryShim_0 : decode cL_tryShim 0 = .ok (.aload_n 0, 1) := by decide +kernel
theorem dL_tryShim_1 : decode cL_tryShim 1 = .ok (.iload_n 1, 1) := by decide +kernel
theorem dL_tryShim_2 : decode cL_tryShim 2 = .ok (.iload_n 2, 1) := by decide +kernel
theorem dL_tryShim_3 : decode cL_tryShim 3 = .ok (.iload_n 3, 1) := by decide +kernel
theorem dL_tryShim_4 : decode cL_tryShim 4 = .ok (.invokevirtual 73, 3) := by decide +kernel
theorem dL_tryShim_7 : decode cL_tryShim 7 = .ok (.ireturn, 1) := by decide +kernel
theorem dL_tryShim_8 : decode cL_tryShim 8 = .ok (.astore 4, 2) := by decide +kernel
theorem dL_tryShim_10 : decode cL_tryShim 10 = .ok (.ldc 44, 2) := by decide +kernel
theorem dL_tryShim_12 : decode cL_tryShim 12 = .ok (.ireturn, 1) := by decide +kernel
theorem dL_tryShim_13 : decode cL_tryShim 13 = .ok (.astore 4, 2) := by decide +kernel
theorem dL_tryShim_15 : decode cL_tryShim 15 = .ok (.ldc 15, 2) := by decide +kernel
theorem dL_tryShim_17 : decode cL_tryShim 17 = .ok (.ireturn, 1) := by decide +kernel
theorem dL_tryShim_18 : decode cL_tryShim 18 = .ok (.astore 4, 2) := by decide +kernel
theorem dL_tryShim_20 : decode cL_tryShim 20 = .ok (.ldc 18, 2) := by decide +kernel
theorem dL_tryShim_22 : decode cL_tryShim 22 = .ok (.ireturn, 1) := by decide +kernel
theorem dL_tryTest_0 : decode cL_tryTest 0 = .ok (.aload_n 0, 1) := by decide +kernel
theorem dL_tryTest_1 : decode cL_tryTest 1 = .ok (.iload_n 1, 1) := by decide +kernel
theorem dL_tryTest_2 : decode cL_tryTest 2 = .ok (.invokevirtual 76, 3) := by decide +kernel
theorem dL_tryTest_5 : decode cL_tryTest 5 = .ok (.ireturn, 1) := by decide +kernel
theorem dL_tryTest_6 : decode cL_tryTest 6 = .ok (.astore_n 2, 1) := by decide +kernel
theorem dL_tryTest_7 : decode cL_tryTest 7 = .ok (.ldc 44, 2) := by decide +kernel
theorem dL_tryTest_9 : decode cL_tryTest 9 = .ok (.ireturn, 1) := by decide +kernel
theorem dL_trySit_0 : decode cL_trySit 0 = .ok (.aload_n 0, 1) := by decide +kernel
theorem dL_trySit_1 : decode cL_trySit 1 = .ok (.iload_n 1, 1) := by decide +kernel
theorem dL_trySit_2 : decode cL_trySit 2 = .ok (.iload_n 2, 1) := by decide +kernel
theorem dL_trySit_3 : decode cL_trySit 3 = .ok (.invokevirtual 79, 3) := by decide +kernel
theorem dL_trySit_6 : decode cL_trySit 6 = .ok (.ireturn, 1) := by decide +kernel
theorem dL_trySit_7 : decode cL_trySit 7 = .ok (.astore_n 3, 1) := by decide +kernel
theorem dL_trySit_8 : decode cL_trySit 8 = .ok (.ldc 44, 2) := by decide +kernel
theorem dL_trySit_10 : decode cL_trySit 10 = .ok (.ireturn, 1) := by decide +kernel
theorem dL_trySit_11 : decode cL_trySit 11 = .ok (.astore_n 3, 1) := by decide +kernel
theorem dL_trySit_12 : decode cL_trySit 12 = .ok (.ldc 15, 2) := by decide +kernel
theorem dL_trySit_14 : decode cL_trySit 14 = .ok (.ireturn, 1) := by decide +kernel
theorem dL_tryBound_0 : decode cL_tryBound 0 = .ok (.aload_n 0, 1) := by decide +kernel
theorem dL_tryBound_1 : decode cL_tryBound 1 = .ok (.iload_n 1, 1) := by decide +kernel
theorem dL_tryBound_2 : decode cL_tryBound 2 = .ok (.iload_n 2, 1) := by decide +kernel
theorem dL_tryBound_3 : decode cL_tryBound 3 = .ok (.iload_n 3, 1) := by decide +kernel
theorem dL_tryBound_4 : decode cL_tryBound 4 = .ok (.invokevirtual 82, 3) := by decide +kernel
theorem dL_tryBound_7 : decode cL_tryBound 7 = .ok (.ireturn, 1) := by decide +kernel
theorem dL_tryBound_8 : decode cL_tryBound 8 = .ok (.astore 4, 2) := by decide +kernel
theorem dL_tryBound_10 : decode cL_tryBound 10 = .ok (.ldc 44, 2) := by decide +kernel
theorem dL_tryBound_12 : decode cL_tryBound 12 = .ok (.ireturn, 1) := by decide +kernel
theorem dL_tryBound_13 : decode cL_tryBound 13 = .ok (.astore 4, 2) := by decide +kernel
theorem dL_tryBound_15 : decode cL_tryBound 15 = .ok (.ldc 15, 2) := by decide +kernel
theorem dL_tryBound_17 : decode cL_tryBound 17 = .ok (.ireturn, 1) := by decide +kernel
theorem dL_tryLay_0 : decode cL_tryLay 0 = .ok (.aload_n 0, 1) := by decide +kernel
theorem dL_tryLay_1 : decode cL_tryLay 1 = .ok (.iload_n 1, 1) := by decide +kernel
theorem dL_tryLay_2 : decode cL_tryLay 2 = .ok (.iload_n 2, 1) := by decide +kernel
theorem dL_tryLay_3 : decode cL_tryLay 3 = .ok (.invokevirtual 85, 3) := by decide +kernel
theorem dL_tryLay_6 : decode cL_tryLay 6 = .ok (.ireturn, 1) := by decide +kernel
theorem dL_tryLay_7 : decode cL_tryLay 7 = .ok (.astore_n 3, 1) := by decide +kernel
theorem dL_tryLay_8 : decode cL_tryLay 8 = .ok (.ldc 15, 2) := by decide +kernel
theorem dL_tryLay_10 : decode cL_tryLay 10 = .ok (.ireturn, 1) := by decide +kernel
theorem dL_tryUndo_0 : decode cL_tryUndo 0 = .ok (.aload_n 0, 1) := by decide +kernel
theorem dL_tryUndo_1 : decode cL_tryUndo 1 = .ok (.invokevirtual 88, 3) := by decide +kernel
theorem dL_tryUndo_4 : decode cL_tryUndo 4 = .ok (.ireturn, 1) := by decide +kernel
theorem dL_tryUndo_5 : decode cL_tryUndo 5 = .ok (.astore_n 1, 1) := by decide +kernel
theorem dL_tryUndo_6 : decode cL_tryUndo 6 = .ok (.ldc 18, 2) := by decide +kernel
theorem dL_tryUndo_8 : decode cL_tryUndo 8 = .ok (.ireturn, 1) := by decide +kernel
theorem dL_tryTurn_0 : decode cL_tryTurn 0 = .ok (.aload_n 0, 1) := by decide +kernel
theorem dL_tryTurn_1 : decode cL_tryTurn 1 = .ok (.iload_n 1, 1) := by decide +kernel
theorem dL_tryTurn_2 : decode cL_tryTurn 2 = .ok (.iload_n 2, 1) := by decide +kernel
theorem dL_tryTurn_3 : decode cL_tryTurn 3 = .ok (.iload_n 3, 1) := by decide +kernel
theorem dL_tryTurn_4 : decode cL_tryTurn 4 = .ok (.invokevirtual 91, 3) := by decide +kernel
theorem dL_tryTurn_7 : decode cL_tryTurn 7 = .ok (.ireturn, 1) := by decide +kernel
theorem dL_tryTurn_8 : decode cL_tryTurn 8 = .ok (.astore 4, 2) := by decide +kernel
theorem dL_tryTurn_10 : decode cL_tryTurn 10 = .ok (.ldc 44, 2) := by decide +kernel
theorem dL_tryTurn_12 : decode cL_tryTurn 12 = .ok (.ireturn, 1) := by decide +kernel
theorem dL_tryTurn_13 : decode cL_tryTurn 13 = .ok (.astore 4, 2) := by decide +kernel
theorem dL_tryTurn_15 : decode cL_tryTurn 15 = .ok (.ldc 15, 2) := by decide +kernel
theorem dL_tryTurn_17 : decode cL_tryTurn 17 = .ok (.ireturn, 1) := by decide +kernel
theorem dL_tryBestSaw_0 : decode cL_tryBestSaw 0 = .ok (.aload_n 0, 1) := by decide +kernel
theorem dL_tryBestSaw_1 : decode cL_tryBestSaw 1 = .ok (.iload_n 1, 1) := by decide +kernel
theorem dL_tryBestSaw_2 : decode cL_tryBestSaw 2 = .ok (.invokevirtual 94, 3) := by decide +kernel
theorem dL_tryBestSaw_5 : decode cL_tryBestSaw 5 = .ok (.ireturn, 1) := by decide +kernel
theorem dL_tryBestSaw_6 : decode cL_tryBestSaw 6 = .ok (.astore_n 2, 1) := by decide +kernel
theorem dL_tryBestSaw_7 : decode cL_tryBestSaw 7 = .ok (.ldc 44, 2) := by decide +kernel
theorem dL_tryBestSaw_9 : decode cL_tryBestSaw 9 = .ok (.ireturn, 1) := by decide +kernel
theorem dL_tryFails_0 : decode cL_tryFails 0 = .ok (.aload_n 0, 1) := by decide +kernel
theorem dL_tryFails_1 : decode cL_tryFails 1 = .ok (.iload_n 1, 1) := by decide +kernel
theorem dL_tryFails_2 : decode cL_tryFails 2 = .ok (.iload_n 2, 1) := by decide +kernel
theorem dL_tryFails_3 : decode cL_tryFails 3 = .ok (.invokevirtual 97, 3) := by decide +kernel
theorem dL_tryFails_6 : decode cL_tryFails 6 = .ok (.ireturn, 1) := by decide +kernel
theorem dL_tryFails_7 : decode cL_tryFails 7 = .ok (.astore_n 3, 1) := by decide +kernel
theorem dL_tryFails_8 : decode cL_tryFails 8 = .ok (.ldc 44, 2) := by decide +kernel
theorem dL_tryFails_10 : decode cL_tryFails 10 = .ok (.ireturn, 1) := by decide +kernel
theorem dL_tryFails_11 : decode cL_tryFails 11 = .ok (.astore_n 3, 1) := by decide +kernel
theorem dL_tryFails_12 : decode cL_tryFails 12 = .ok (.ldc 15, 2) := by decide +kernel
theorem dL_tryFails_14 : decode cL_tryFails 14 = .ok (.ireturn, 1) := by decide +kernel
theorem dL_tryFloor_0 : decode cL_tryFloor 0 = .ok (.aload_n 0, 1) := by decide +kernel
theorem dL_tryFloor_1 : decode cL_tryFloor 1 = .ok (.iload_n 1, 1) := by decide +kernel
theorem dL_tryFloor_2 : decode cL_tryFloor 2 = .ok (.invokevirtual 100, 3) := by decide +kernel
theorem dL_tryFloor_5 : decode cL_tryFloor 5 = .ok (.ireturn, 1) := by decide +kernel
theorem dL_tryFloor_6 : decode cL_tryFloor 6 = .ok (.astore_n 2, 1) := by decide +kernel
theorem dL_tryFloor_7 : decode cL_tryFloor 7 = .ok (.ldc 44, 2) := by decide +kernel
theorem dL_tryFloor_9 : decode cL_tryFloor 9 = .ok (.ireturn, 1) := by decide +kernel
theorem dL_tryKeep_0 : decode cL_tryKeep 0 = .ok (.aload_n 0, 1) := by decide +kernel
theorem dL_tryKeep_1 : decode cL_tryKeep 1 = .ok (.iload_n 1, 1) := by decide +kernel
theorem dL_tryKeep_2 : decode cL_tryKeep 2 = .ok (.invokevirtual 103, 3) := by decide +kernel
theorem dL_tryKeep_5 : decode cL_tryKeep 5 = .ok (.ireturn, 1) := by decide +kernel
theorem dL_tryKeep_6 : decode cL_tryKeep 6 = .ok (.astore_n 2, 1) := by decide +kernel
theorem dL_tryKeep_7 : decode cL_tryKeep 7 = .ok (.ldc 44, 2) := by decide +kernel
theorem dL_tryKeep_9 : decode cL_tryKeep 9 = .ok (.ireturn, 1) := by decide +kernel
theorem dL_tryBack_0 : decode cL_tryBack 0 = .ok (.aload_n 0, 1) := by decide +kernel
theorem dL_tryBack_1 : decode cL_tryBack 1 = .ok (.iload_n 1, 1) := by decide +kernel
theorem dL_tryBack_2 : decode cL_tryBack 2 = .ok (.invokevirtual 106, 3) := by decide +kernel
theorem dL_tryBack_5 : decode cL_tryBack 5 = .ok (.ireturn, 1) := by decide +kernel
theorem dL_tryBack_6 : decode cL_tryBack 6 = .ok (.astore_n 2, 1) := by decide +kernel
theorem dL_tryBack_7 : decode cL_tryBack 7 = .ok (.ldc 44, 2) := by decide +kernel
theorem dL_tryBack_9 : decode cL_tryBack 9 = .ok (.ireturn, 1) := by decide +kernel
theorem dL_tryBack_10 : decode cL_tryBack 10 = .ok (.astore_n 2, 1) := by decide +kernel
theorem dL_tryBack_11 : decode cL_tryBack 11 = .ok (.ldc 18, 2) := by decide +kernel
theorem dL_tryBack_13 : decode cL_tryBack 13 = .ok (.ireturn, 1) := by decide +kernel
theorem dL_call_0 : decode cL_call 0 = .ok (.iload_n 1, 1) := by decide +kernel
theorem dL_call_1 : decode cL_call 1 = .ok (.tableswitch 282 0 23 #[111, 117, 122, 128, 135, 142, 151, 158, 165, 171, 178, 187, 196, 205, 214, 220, 227, 236, 243, 248, 257, 263, 270, 276], 111) := by decide +kernel
theorem dL_call_112 : decode cL_call 112 = .ok (.aload_n 0, 1) := by decide +kernel
theorem dL_call_113 : decode cL_call 113 = .ok (.iload_n 2, 1) := by decide +kernel
theorem dL_call_114 : decode cL_call 114 = .ok (.invokestatic 109, 3) := by decide +kernel
theorem dL_call_117 : decode cL_call 117 = .ok (.ireturn, 1) := by decide +kernel
theorem dL_call_118 : decode cL_call 118 = .ok (.aload_n 0, 1) := by decide +kernel
theorem dL_call_119 : decode cL_call 119 = .ok (.invokestatic 115, 3) := by decide +kernel
theorem dL_call_122 : decode cL_call 122 = .ok (.ireturn, 1) := by decide +kernel
theorem dL_call_123 : decode cL_call 123 = .ok (.aload_n 0, 1) := by decide +kernel
theorem dL_call_124 : decode cL_call 124 = .ok (.iload_n 2, 1) := by decide +kernel
theorem dL_call_125 : decode cL_call 125 = .ok (.invokestatic 119, 3) := by decide +kernel
theorem dL_call_128 : decode cL_call 128 = .ok (.ireturn, 1) := by decide +kernel
theorem dL_call_129 : decode cL_call 129 = .ok (.aload_n 0, 1) := by decide +kernel
theorem dL_call_130 : decode cL_call 130 = .ok (.iload_n 2, 1) := by decide +kernel
theorem dL_call_131 : decode cL_call 131 = .ok (.iload_n 3, 1) := by decide +kernel
theorem dL_call_132 : decode cL_call 132 = .ok (.invokestatic 122, 3) := by decide +kernel
theorem dL_call_135 : decode cL_call 135 = .ok (.ireturn, 1) := by decide +kernel
theorem dL_call_136 : decode cL_call 136 = .ok (.aload_n 0, 1) := by decide +kernel
theorem dL_call_137 : decode cL_call 137 = .ok (.iload_n 2, 1) := by decide +kernel
theorem dL_call_138 : decode cL_call 138 = .ok (.iload_n 3, 1) := by decide +kernel
theorem dL_call_139 : decode cL_call 139 = .ok (.invokestatic 126, 3) := by decide +kernel
theorem dL_call_142 : decode cL_call 142 = .ok (.ireturn, 1) := by decide +kernel
theorem dL_call_143 : decode cL_call 143 = .ok (.aload_n 0, 1) := by decide +kernel
theorem dL_call_144 : decode cL_call 144 = .ok (.iload_n 2, 1) := by decide +kernel
theorem dL_call_145 : decode cL_call 145 = .ok (.iload_n 3, 1) := by decide +kernel
theorem dL_call_146 : decode cL_call 146 = .ok (.iload 4, 2) := by decide +kernel
theorem dL_call_148 : decode cL_call 148 = .ok (.invokestatic 129, 3) := by decide +kernel
theorem dL_call_151 : decode cL_call 151 = .ok (.ireturn, 1) := by decide +kernel
theorem dL_call_152 : decode cL_call 152 = .ok (.aload_n 0, 1) := by decide +kernel
theorem dL_call_153 : decode cL_call 153 = .ok (.iload_n 2, 1) := by decide +kernel
theorem dL_call_154 : decode cL_call 154 = .ok (.iload_n 3, 1) := by decide +kernel
theorem dL_call_155 : decode cL_call 155 = .ok (.invokestatic 133, 3) := by decide +kernel
theorem dL_call_158 : decode cL_call 158 = .ok (.ireturn, 1) := by decide +kernel
theorem dL_call_159 : decode cL_call 159 = .ok (.aload_n 0, 1) := by decide +kernel
theorem dL_call_160 : decode cL_call 160 = .ok (.iload_n 2, 1) := by decide +kernel
theorem dL_call_161 : decode cL_call 161 = .ok (.iload_n 3, 1) := by decide +kernel
theorem dL_call_162 : decode cL_call 162 = .ok (.invokestatic 136, 3) := by decide +kernel
theorem dL_call_165 : decode cL_call 165 = .ok (.ireturn, 1) := by decide +kernel
theorem dL_call_166 : decode cL_call 166 = .ok (.aload_n 0, 1) := by decide +kernel
theorem dL_call_167 : decode cL_call 167 = .ok (.iload_n 2, 1) := by decide +kernel
theorem dL_call_168 : decode cL_call 168 = .ok (.invokestatic 139, 3) := by decide +kernel
theorem dL_call_171 : decode cL_call 171 = .ok (.ireturn, 1) := by decide +kernel
theorem dL_call_172 : decode cL_call 172 = .ok (.aload_n 0, 1) := by decide +kernel
theorem dL_call_173 : decode cL_call 173 = .ok (.iload_n 2, 1) := by decide +kernel
theorem dL_call_174 : decode cL_call 174 = .ok (.iload_n 3, 1) := by decide +kernel
theorem dL_call_175 : decode cL_call 175 = .ok (.invokestatic 142, 3) := by decide +kernel
theorem dL_call_178 : decode cL_call 178 = .ok (.ireturn, 1) := by decide +kernel
theorem dL_call_179 : decode cL_call 179 = .ok (.aload_n 0, 1) := by decide +kernel
theorem dL_call_180 : decode cL_call 180 = .ok (.iload_n 2, 1) := by decide +kernel
theorem dL_call_181 : decode cL_call 181 = .ok (.iload_n 3, 1) := by decide +kernel
theorem dL_call_182 : decode cL_call 182 = .ok (.iload 4, 2) := by decide +kernel
theorem dL_call_184 : decode cL_call 184 = .ok (.invokestatic 145, 3) := by decide +kernel
theorem dL_call_187 : decode cL_call 187 = .ok (.ireturn, 1) := by decide +kernel
theorem dL_call_188 : decode cL_call 188 = .ok (.aload_n 0, 1) := by decide +kernel
theorem dL_call_189 : decode cL_call 189 = .ok (.iload_n 2, 1) := by decide +kernel
theorem dL_call_190 : decode cL_call 190 = .ok (.iload_n 3, 1) := by decide +kernel
theorem dL_call_191 : decode cL_call 191 = .ok (.iload 4, 2) := by decide +kernel
theorem dL_call_193 : decode cL_call 193 = .ok (.invokestatic 148, 3) := by decide +kernel
theorem dL_call_196 : decode cL_call 196 = .ok (.ireturn, 1) := by decide +kernel
theorem dL_call_197 : decode cL_call 197 = .ok (.aload_n 0, 1) := by decide +kernel
theorem dL_call_198 : decode cL_call 198 = .ok (.iload_n 2, 1) := by decide +kernel
theorem dL_call_199 : decode cL_call 199 = .ok (.iload_n 3, 1) := by decide +kernel
theorem dL_call_200 : decode cL_call 200 = .ok (.iload 4, 2) := by decide +kernel
theorem dL_call_202 : decode cL_call 202 = .ok (.invokestatic 151, 3) := by decide +kernel
theorem dL_call_205 : decode cL_call 205 = .ok (.ireturn, 1) := by decide +kernel
theorem dL_call_206 : decode cL_call 206 = .ok (.aload_n 0, 1) := by decide +kernel
theorem dL_call_207 : decode cL_call 207 = .ok (.iload_n 2, 1) := by decide +kernel
theorem dL_call_208 : decode cL_call 208 = .ok (.iload_n 3, 1) := by decide +kernel
theorem dL_call_209 : decode cL_call 209 = .ok (.iload 4, 2) := by decide +kernel
theorem dL_call_211 : decode cL_call 211 = .ok (.invokestatic 154, 3) := by decide +kernel
theorem dL_call_214 : decode cL_call 214 = .ok (.ireturn, 1) := by decide +kernel
theorem dL_call_215 : decode cL_call 215 = .ok (.aload_n 0, 1) := by decide +kernel
theorem dL_call_216 : decode cL_call 216 = .ok (.iload_n 2, 1) := by decide +kernel
theorem dL_call_217 : decode cL_call 217 = .ok (.invokestatic 157, 3) := by decide +kernel
theorem dL_call_220 : decode cL_call 220 = .ok (.ireturn, 1) := by decide +kernel
theorem dL_call_221 : decode cL_call 221 = .ok (.aload_n 0, 1) := by decide +kernel
theorem dL_call_222 : decode cL_call 222 = .ok (.iload_n 2, 1) := by decide +kernel
theorem dL_call_223 : decode cL_call 223 = .ok (.iload_n 3, 1) := by decide +kernel
theorem dL_call_224 : decode cL_call 224 = .ok (.invokestatic 160, 3) := by decide +kernel
theorem dL_call_227 : decode cL_call 227 = .ok (.ireturn, 1) := by decide +kernel
theorem dL_call_228 : decode cL_call 228 = .ok (.aload_n 0, 1) := by decide +kernel
theorem dL_call_229 : decode cL_call 229 = .ok (.iload_n 2, 1) := by decide +kernel
theorem dL_call_230 : decode cL_call 230 = .ok (.iload_n 3, 1) := by decide +kernel
theorem dL_call_231 : decode cL_call 231 = .ok (.iload 4, 2) := by decide +kernel
theorem dL_call_233 : decode cL_call 233 = .ok (.invokestatic 163, 3) := by decide +kernel
theorem dL_call_236 : decode cL_call 236 = .ok (.ireturn, 1) := by decide +kernel
theorem dL_call_237 : decode cL_call 237 = .ok (.aload_n 0, 1) := by decide +kernel
theorem dL_call_238 : decode cL_call 238 = .ok (.iload_n 2, 1) := by decide +kernel
theorem dL_call_239 : decode cL_call 239 = .ok (.iload_n 3, 1) := by decide +kernel
theorem dL_call_240 : decode cL_call 240 = .ok (.invokestatic 166, 3) := by decide +kernel
theorem dL_call_243 : decode cL_call 243 = .ok (.ireturn, 1) := by decide +kernel
theorem dL_call_244 : decode cL_call 244 = .ok (.aload_n 0, 1) := by decide +kernel
theorem dL_call_245 : decode cL_call 245 = .ok (.invokestatic 169, 3) := by decide +kernel
theorem dL_call_248 : decode cL_call 248 = .ok (.ireturn, 1) := by decide +kernel
theorem dL_call_249 : decode cL_call 249 = .ok (.aload_n 0, 1) := by decide +kernel
theorem dL_call_250 : decode cL_call 250 = .ok (.iload_n 2, 1) := by decide +kernel
theorem dL_call_251 : decode cL_call 251 = .ok (.iload_n 3, 1) := by decide +kernel
theorem dL_call_252 : decode cL_call 252 = .ok (.iload 4, 2) := by decide +kernel
theorem dL_call_254 : decode cL_call 254 = .ok (.invokestatic 172, 3) := by decide +kernel
theorem dL_call_257 : decode cL_call 257 = .ok (.ireturn, 1) := by decide +kernel
theorem dL_call_258 : decode cL_call 258 = .ok (.aload_n 0, 1) := by decide +kernel
theorem dL_call_259 : decode cL_call 259 = .ok (.iload_n 2, 1) := by decide +kernel
theorem dL_call_260 : decode cL_call 260 = .ok (.invokestatic 175, 3) := by decide +kernel
theorem dL_call_263 : decode cL_call 263 = .ok (.ireturn, 1) := by decide +kernel
theorem dL_call_264 : decode cL_call 264 = .ok (.aload_n 0, 1) := by decide +kernel
theorem dL_call_265 : decode cL_call 265 = .ok (.iload_n 2, 1) := by decide +kernel
theorem dL_call_266 : decode cL_call 266 = .ok (.iload_n 3, 1) := by decide +kernel
theorem dL_call_267 : decode cL_call 267 = .ok (.invokestatic 178, 3) := by decide +kernel
theorem dL_call_270 : decode cL_call 270 = .ok (.ireturn, 1) := by decide +kernel
theorem dL_call_271 : decode cL_call 271 = .ok (.aload_n 0, 1) := by decide +kernel
theorem dL_call_272 : decode cL_call 272 = .ok (.iload_n 2, 1) := by decide +kernel
theorem dL_call_273 : decode cL_call 273 = .ok (.invokestatic 181, 3) := by decide +kernel
theorem dL_call_276 : decode cL_call 276 = .ok (.ireturn, 1) := by decide +kernel
theorem dL_call_277 : decode cL_call 277 = .ok (.aload_n 0, 1) := by decide +kernel
theorem dL_call_278 : decode cL_call 278 = .ok (.iload_n 2, 1) := by decide +kernel
theorem dL_call_279 : decode cL_call 279 = .ok (.invokestatic 184, 3) := by decide +kernel
theorem dL_call_282 : decode cL_call 282 = .ok (.ireturn, 1) := by decide +kernel
theorem dL_call_283 : decode cL_call 283 = .ok (.aload_n 0, 1) := by decide +kernel
theorem dL_call_284 : decode cL_call 284 = .ok (.iload_n 2, 1) := by decide +kernel
theorem dL_call_285 : decode cL_call 285 = .ok (.invokestatic 187, 3) := by decide +kernel
theorem dL_call_288 : decode cL_call 288 = .ok (.ireturn, 1) := by decide +kernel
theorem dL_cell_0 : decode cL_cell 0 = .ok (.iload_n 1, 1) := by decide +kernel
theorem dL_cell_1 : decode cL_cell 1 = .ok (.aload_n 0, 1) := by decide +kernel
theorem dL_cell_2 : decode cL_cell 2 = .ok (.arraylength, 1) := by decide +kernel
theorem dL_cell_3 : decode cL_cell 3 = .ok (.if_icmp .ge 9, 3) := by decide +kernel
theorem dL_cell_6 : decode cL_cell 6 = .ok (.aload_n 0, 1) := by decide +kernel
theorem dL_cell_7 : decode cL_cell 7 = .ok (.iload_n 1, 1) := by decide +kernel
theorem dL_cell_8 : decode cL_cell 8 = .ok (.iaload, 1) := by decide +kernel
theorem dL_cell_9 : decode cL_cell 9 = .ok (.goto 13, 3) := by decide +kernel
theorem dL_cell_12 : decode cL_cell 12 = .ok (.ldc 190, 2) := by decide +kernel
theorem dL_cell_14 : decode cL_cell 14 = .ok (.iload_n 1, 1) := by decide +kernel
theorem dL_cell_15 : decode cL_cell 15 = .ok (.iconst 3, 1) := by decide +kernel
theorem dL_cell_16 : decode cL_cell 16 = .ok (.iadd, 1) := by decide +kernel
theorem dL_cell_17 : decode cL_cell 17 = .ok (.imul, 1) := by decide +kernel
theorem dL_cell_18 : decode cL_cell 18 = .ok (.sipush 12073, 3) := by decide +kernel
theorem dL_cell_21 : decode cL_cell 21 = .ok (.iadd, 1) := by decide +kernel
theorem dL_cell_22 : decode cL_cell 22 = .ok (.ldc 191, 2) := by decide +kernel
theorem dL_cell_24 : decode cL_cell 24 = .ok (.iand, 1) := by decide +kernel
theorem dL_cell_25 : decode cL_cell 25 = .ok (.ireturn, 1) := by decide +kernel
theorem dL_thrown_0 : decode cL_thrown 0 = .ok (.iload_n 0, 1) := by decide +kernel
theorem dL_thrown_1 : decode cL_thrown 1 = .ok (.ldc 44, 2) := by decide +kernel
theorem dL_thrown_3 : decode cL_thrown 3 = .ok (.if_icmp .eq 15, 3) := by decide +kernel
theorem dL_thrown_6 : decode cL_thrown 6 = .ok (.iload_n 0, 1) := by decide +kernel
theorem dL_thrown_7 : decode cL_thrown 7 = .ok (.ldc 15, 2) := by decide +kernel
theorem dL_thrown_9 : decode cL_thrown 9 = .ok (.if_icmp .eq 9, 3) := by decide +kernel
theorem dL_thrown_12 : decode cL_thrown 12 = .ok (.iload_n 0, 1) := by decide +kernel
theorem dL_thrown_13 : decode cL_thrown 13 = .ok (.ldc 18, 2) := by decide +kernel
theorem dL_thrown_15 : decode cL_thrown 15 = .ok (.if_icmp .ne 7, 3) := by decide +kernel
theorem dL_thrown_18 : decode cL_thrown 18 = .ok (.iconst 1, 1) := by decide +kernel
theorem dL_thrown_19 : decode cL_thrown 19 = .ok (.goto 4, 3) := by decide +kernel
theorem dL_thrown_22 : decode cL_thrown 22 = .ok (.iconst 0, 1) := by decide +kernel
theorem dL_thrown_23 : decode cL_thrown 23 = .ok (.ireturn, 1) := by decide +kernel
theorem dL_size_0 : decode cL_size 0 = .ok (.iload_n 0, 1) := by decide +kernel
theorem dL_size_1 : decode cL_size 1 = .ok (.ifCond .ge 8, 3) := by decide +kernel
theorem dL_size_4 : decode cL_size 4 = .ok (.iload_n 0, 1) := by decide +kernel
theorem dL_size_5 : decode cL_size 5 = .ok (.ineg, 1) := by decide +kernel
theorem dL_size_6 : decode cL_size 6 = .ok (.goto 4, 3) := by decide +kernel
theorem dL_size_9 : decode cL_size 9 = .ok (.iload_n 0, 1) := by decide +kernel
theorem dL_size_10 : decode cL_size 10 = .ok (.ireturn, 1) := by decide +kernel
theorem dL_refuses_0 : decode cL_refuses 0 = .ok (.aload_n 0, 1) := by decide +kernel
theorem dL_refuses_1 : decode cL_refuses 1 = .ok (.iconst 2, 1) := by decide +kernel
theorem dL_refuses_2 : decode cL_refuses 2 = .ok (.iconst 0, 1) := by decide +kernel
theorem dL_refuses_3 : decode cL_refuses 3 = .ok (.iconst 0, 1) := by decide +kernel
theorem dL_refuses_4 : decode cL_refuses 4 = .ok (.iconst 0, 1) := by decide +kernel
theorem dL_refuses_5 : decode cL_refuses 5 = .ok (.invokestatic 192, 3) := by decide +kernel
theorem dL_refuses_8 : decode cL_refuses 8 = .ok (.istore_n 2, 1) := by decide +kernel
theorem dL_refuses_9 : decode cL_refuses 9 = .ok (.aload_n 0, 1) := by decide +kernel
theorem dL_refuses_10 : decode cL_refuses 10 = .ok (.iconst 2, 1) := by decide +kernel
theorem dL_refuses_11 : decode cL_refuses 11 = .ok (.iconst 1, 1) := by decide +kernel
theorem dL_refuses_12 : decode cL_refuses 12 = .ok (.iconst 0, 1) := by decide +kernel
theorem dL_refuses_13 : decode cL_refuses 13 = .ok (.iconst 0, 1) := by decide +kernel
theorem dL_refuses_14 : decode cL_refuses 14 = .ok (.invokestatic 192, 3) := by decide +kernel
theorem dL_refuses_17 : decode cL_refuses 17 = .ok (.istore_n 3, 1) := by decide +kernel
theorem dL_refuses_18 : decode cL_refuses 18 = .ok (.iload_n 1, 1) := by decide +kernel
theorem dL_refuses_19 : decode cL_refuses 19 = .ok (.iconst 2, 1) := by decide +kernel
theorem dL_refuses_20 : decode cL_refuses 20 = .ok (.irem, 1) := by decide +kernel
theorem dL_refuses_21 : decode cL_refuses 21 = .ok (.ifCond .ne 12, 3) := by decide +kernel
theorem dL_refuses_24 : decode cL_refuses 24 = .ok (.iconst (-1), 1) := by decide +kernel
theorem dL_refuses_25 : decode cL_refuses 25 = .ok (.iload_n 1, 1) := by decide +kernel
theorem dL_refuses_26 : decode cL_refuses 26 = .ok (.bipush 99, 2) := by decide +kernel
theorem dL_refuses_28 : decode cL_refuses 28 = .ok (.irem, 1) := by decide +kernel
theorem dL_refuses_29 : decode cL_refuses 29 = .ok (.isub, 1) := by decide +kernel
theorem dL_refuses_30 : decode cL_refuses 30 = .ok (.goto 9, 3) := by decide +kernel
theorem dL_refuses_33 : decode cL_refuses 33 = .ok (.iload_n 2, 1) := by decide +kernel
theorem dL_refuses_34 : decode cL_refuses 34 = .ok (.iload_n 1, 1) := by decide +kernel
theorem dL_refuses_35 : decode cL_refuses 35 = .ok (.bipush 99, 2) := by decide +kernel
theorem dL_refuses_37 : decode cL_refuses 37 = .ok (.irem, 1) := by decide +kernel
theorem dL_refuses_38 : decode cL_refuses 38 = .ok (.iadd, 1) := by decide +kernel
theorem dL_refuses_39 : decode cL_refuses 39 = .ok (.istore 4, 2) := by decide +kernel
theorem dL_refuses_41 : decode cL_refuses 41 = .ok (.iload_n 1, 1) := by decide +kernel
theorem dL_refuses_42 : decode cL_refuses 42 = .ok (.iconst 2, 1) := by decide +kernel
theorem dL_refuses_43 : decode cL_refuses 43 = .ok (.irem, 1) := by decide +kernel
theorem dL_refuses_44 : decode cL_refuses 44 = .ok (.ifCond .ne 12, 3) := by decide +kernel
theorem dL_refuses_47 : decode cL_refuses 47 = .ok (.iconst (-1), 1) := by decide +kernel
theorem dL_refuses_48 : decode cL_refuses 48 = .ok (.iload_n 1, 1) := by decide +kernel
theorem dL_refuses_49 : decode cL_refuses 49 = .ok (.bipush 99, 2) := by decide +kernel
theorem dL_refuses_51 : decode cL_refuses 51 = .ok (.irem, 1) := by decide +kernel
theorem dL_refuses_52 : decode cL_refuses 52 = .ok (.isub, 1) := by decide +kernel
theorem dL_refuses_53 : decode cL_refuses 53 = .ok (.goto 9, 3) := by decide +kernel
theorem dL_refuses_56 : decode cL_refuses 56 = .ok (.iload_n 3, 1) := by decide +kernel
theorem dL_refuses_57 : decode cL_refuses 57 = .ok (.iload_n 1, 1) := by decide +kernel
theorem dL_refuses_58 : decode cL_refuses 58 = .ok (.bipush 99, 2) := by decide +kernel
theorem dL_refuses_60 : decode cL_refuses 60 = .ok (.irem, 1) := by decide +kernel
theorem dL_refuses_61 : decode cL_refuses 61 = .ok (.iadd, 1) := by decide +kernel
theorem dL_refuses_62 : decode cL_refuses 62 = .ok (.istore 5, 2) := by decide +kernel
theorem dL_refuses_64 : decode cL_refuses 64 = .ok (.iload_n 1, 1) := by decide +kernel
theorem dL_refuses_65 : decode cL_refuses 65 = .ok (.iconst 2, 1) := by decide +kernel
theorem dL_refuses_66 : decode cL_refuses 66 = .ok (.irem, 1) := by decide +kernel
theorem dL_refuses_67 : decode cL_refuses 67 = .ok (.ifCond .ne 12, 3) := by decide +kernel
theorem dL_refuses_70 : decode cL_refuses 70 = .ok (.iconst (-1), 1) := by decide +kernel
theorem dL_refuses_71 : decode cL_refuses 71 = .ok (.iload_n 1, 1) := by decide +kernel
theorem dL_refuses_72 : decode cL_refuses 72 = .ok (.bipush 99, 2) := by decide +kernel
theorem dL_refuses_74 : decode cL_refuses 74 = .ok (.irem, 1) := by decide +kernel
theorem dL_refuses_75 : decode cL_refuses 75 = .ok (.isub, 1) := by decide +kernel
theorem dL_refuses_76 : decode cL_refuses 76 = .ok (.goto 9, 3) := by decide +kernel
theorem dL_refuses_79 : decode cL_refuses 79 = .ok (.iconst 4, 1) := by decide +kernel
theorem dL_refuses_80 : decode cL_refuses 80 = .ok (.iload_n 1, 1) := by decide +kernel
theorem dL_refuses_81 : decode cL_refuses 81 = .ok (.bipush 99, 2) := by decide +kernel
theorem dL_refuses_83 : decode cL_refuses 83 = .ok (.irem, 1) := by decide +kernel
theorem dL_refuses_84 : decode cL_refuses 84 = .ok (.iadd, 1) := by decide +kernel
theorem dL_refuses_85 : decode cL_refuses 85 = .ok (.istore 6, 2) := by decide +kernel
theorem dL_refuses_87 : decode cL_refuses 87 = .ok (.aload_n 0, 1) := by decide +kernel
theorem dL_refuses_88 : decode cL_refuses 88 = .ok (.iconst 0, 1) := by decide +kernel
theorem dL_refuses_89 : decode cL_refuses 89 = .ok (.iload_n 1, 1) := by decide +kernel
theorem dL_refuses_90 : decode cL_refuses 90 = .ok (.iconst 2, 1) := by decide +kernel
theorem dL_refuses_91 : decode cL_refuses 91 = .ok (.irem, 1) := by decide +kernel
theorem dL_refuses_92 : decode cL_refuses 92 = .ok (.ifCond .ne 12, 3) := by decide +kernel
theorem dL_refuses_95 : decode cL_refuses 95 = .ok (.iconst (-1), 1) := by decide +kernel
theorem dL_refuses_96 : decode cL_refuses 96 = .ok (.iload_n 1, 1) := by decide +kernel
theorem dL_refuses_97 : decode cL_refuses 97 = .ok (.bipush 9, 2) := by decide +kernel
theorem dL_refuses_99 : decode cL_refuses 99 = .ok (.irem, 1) := by decide +kernel
theorem dL_refuses_100 : decode cL_refuses 100 = .ok (.isub, 1) := by decide +kernel
theorem dL_refuses_101 : decode cL_refuses 101 = .ok (.goto 11, 3) := by decide +kernel
theorem dL_refuses_104 : decode cL_refuses 104 = .ok (.sipush 256, 3) := by decide +kernel
theorem dL_refuses_107 : decode cL_refuses 107 = .ok (.iload_n 1, 1) := by decide +kernel
theorem dL_refuses_108 : decode cL_refuses 108 = .ok (.bipush 9, 2) := by decide +kernel
theorem dL_refuses_110 : decode cL_refuses 110 = .ok (.irem, 1) := by decide +kernel
theorem dL_refuses_111 : decode cL_refuses 111 = .ok (.iadd, 1) := by decide +kernel
theorem dL_refuses_112 : decode cL_refuses 112 = .ok (.iconst 0, 1) := by decide +kernel
theorem dL_refuses_113 : decode cL_refuses 113 = .ok (.iconst 0, 1) := by decide +kernel
theorem dL_refuses_114 : decode cL_refuses 114 = .ok (.invokestatic 192, 3) := by decide +kernel
theorem dL_refuses_117 : decode cL_refuses 117 = .ok (.ldc 15, 2) := by decide +kernel
theorem dL_refuses_119 : decode cL_refuses 119 = .ok (.if_icmp .ne 614, 3) := by decide +kernel
theorem dL_refuses_122 : decode cL_refuses 122 = .ok (.aload_n 0, 1) := by decide +kernel
theorem dL_refuses_123 : decode cL_refuses 123 = .ok (.iconst 2, 1) := by decide +kernel
theorem dL_refuses_124 : decode cL_refuses 124 = .ok (.bipush 11, 2) := by decide +kernel
theorem dL_refuses_126 : decode cL_refuses 126 = .ok (.iload_n 1, 1) := by decide +kernel
theorem dL_refuses_127 : decode cL_refuses 127 = .ok (.bipush 50, 2) := by decide +kernel
theorem dL_refuses_129 : decode cL_refuses 129 = .ok (.irem, 1) := by decide +kernel
theorem dL_refuses_130 : decode cL_refuses 130 = .ok (.iadd, 1) := by decide +kernel
theorem dL_refuses_131 : decode cL_refuses 131 = .ok (.iconst 0, 1) := by decide +kernel
theorem dL_refuses_132 : decode cL_refuses 132 = .ok (.iconst 0, 1) := by decide +kernel
theorem dL_refuses_133 : decode cL_refuses 133 = .ok (.invokestatic 192, 3) := by decide +kernel
theorem dL_refuses_136 : decode cL_refuses 136 = .ok (.ldc 15, 2) := by decide +kernel
theorem dL_refuses_138 : decode cL_refuses 138 = .ok (.if_icmp .ne 595, 3) := by decide +kernel
theorem dL_refuses_141 : decode cL_refuses 141 = .ok (.aload_n 0, 1) := by decide +kernel
theorem dL_refuses_142 : decode cL_refuses 142 = .ok (.iconst 3, 1) := by decide +kernel
theorem dL_refuses_143 : decode cL_refuses 143 = .ok (.iload 4, 2) := by decide +kernel
theorem dL_refuses_145 : decode cL_refuses 145 = .ok (.bipush 99, 2) := by decide +kernel
theorem dL_refuses_147 : decode cL_refuses 147 = .ok (.iconst 0, 1) := by decide +kernel
theorem dL_refuses_148 : decode cL_refuses 148 = .ok (.invokestatic 192, 3) := by decide +kernel
theorem dL_refuses_151 : decode cL_refuses 151 = .ok (.ldc 44, 2) := by decide +kernel
theorem dL_refuses_153 : decode cL_refuses 153 = .ok (.if_icmp .ne 580, 3) := by decide +kernel
theorem dL_refuses_156 : decode cL_refuses 156 = .ok (.aload_n 0, 1) := by decide +kernel
theorem dL_refuses_157 : decode cL_refuses 157 = .ok (.iconst 3, 1) := by decide +kernel
theorem dL_refuses_158 : decode cL_refuses 158 = .ok (.iconst 0, 1) := by decide +kernel
theorem dL_refuses_159 : decode cL_refuses 159 = .ok (.bipush 9, 2) := by decide +kernel
theorem dL_refuses_161 : decode cL_refuses 161 = .ok (.iload_n 1, 1) := by decide +kernel
theorem dL_refuses_162 : decode cL_refuses 162 = .ok (.bipush 9, 2) := by decide +kernel
theorem dL_refuses_164 : decode cL_refuses 164 = .ok (.irem, 1) := by decide +kernel
theorem dL_refuses_165 : decode cL_refuses 165 = .ok (.iadd, 1) := by decide +kernel
theorem dL_refuses_166 : decode cL_refuses 166 = .ok (.iconst 0, 1) := by decide +kernel
theorem dL_refuses_167 : decode cL_refuses 167 = .ok (.invokestatic 192, 3) := by decide +kernel
theorem dL_refuses_170 : decode cL_refuses 170 = .ok (.ldc 15, 2) := by decide +kernel
theorem dL_refuses_172 : decode cL_refuses 172 = .ok (.if_icmp .ne 561, 3) := by decide +kernel
theorem dL_refuses_175 : decode cL_refuses 175 = .ok (.aload_n 0, 1) := by decide +kernel
theorem dL_refuses_176 : decode cL_refuses 176 = .ok (.iconst 4, 1) := by decide +kernel
theorem dL_refuses_177 : decode cL_refuses 177 = .ok (.iload 4, 2) := by decide +kernel
theorem dL_refuses_179 : decode cL_refuses 179 = .ok (.bipush 9, 2) := by decide +kernel
theorem dL_refuses_181 : decode cL_refuses 181 = .ok (.iconst 0, 1) := by decide +kernel
theorem dL_refuses_182 : decode cL_refuses 182 = .ok (.invokestatic 192, 3) := by decide +kernel
theorem dL_refuses_185 : decode cL_refuses 185 = .ok (.ldc 44, 2) := by decide +kernel
theorem dL_refuses_187 : decode cL_refuses 187 = .ok (.if_icmp .ne 546, 3) := by decide +kernel
theorem dL_refuses_190 : decode cL_refuses 190 = .ok (.aload_n 0, 1) := by decide +kernel
theorem dL_refuses_191 : decode cL_refuses 191 = .ok (.iconst 4, 1) := by decide +kernel
theorem dL_refuses_192 : decode cL_refuses 192 = .ok (.iconst 0, 1) := by decide +kernel
theorem dL_refuses_193 : decode cL_refuses 193 = .ok (.iconst 2, 1) := by decide +kernel
theorem dL_refuses_194 : decode cL_refuses 194 = .ok (.iload_n 1, 1) := by decide +kernel
theorem dL_refuses_195 : decode cL_refuses 195 = .ok (.bipush 9, 2) := by decide +kernel
theorem dL_refuses_197 : decode cL_refuses 197 = .ok (.irem, 1) := by decide +kernel
theorem dL_refuses_198 : decode cL_refuses 198 = .ok (.iadd, 1) := by decide +kernel
theorem dL_refuses_199 : decode cL_refuses 199 = .ok (.iconst 0, 1) := by decide +kernel
theorem dL_refuses_200 : decode cL_refuses 200 = .ok (.invokestatic 192, 3) := by decide +kernel
theorem dL_refuses_203 : decode cL_refuses 203 = .ok (.ldc 15, 2) := by decide +kernel
theorem dL_refuses_205 : decode cL_refuses 205 = .ok (.if_icmp .ne 528, 3) := by decide +kernel
theorem dL_refuses_208 : decode cL_refuses 208 = .ok (.aload_n 0, 1) := by decide +kernel
theorem dL_refuses_209 : decode cL_refuses 209 = .ok (.iconst 5, 1) := by decide +kernel
theorem dL_refuses_210 : decode cL_refuses 210 = .ok (.iload 4, 2) := by decide +kernel
theorem dL_refuses_212 : decode cL_refuses 212 = .ok (.iconst 0, 1) := by decide +kernel
theorem dL_refuses_213 : decode cL_refuses 213 = .ok (.bipush 9, 2) := by decide +kernel
theorem dL_refuses_215 : decode cL_refuses 215 = .ok (.invokestatic 192, 3) := by decide +kernel
theorem dL_refuses_218 : decode cL_refuses 218 = .ok (.ldc 44, 2) := by decide +kernel
theorem dL_refuses_220 : decode cL_refuses 220 = .ok (.if_icmp .ne 513, 3) := by decide +kernel
theorem dL_refuses_223 : decode cL_refuses 223 = .ok (.aload_n 0, 1) := by decide +kernel
theorem dL_refuses_224 : decode cL_refuses 224 = .ok (.iconst 5, 1) := by decide +kernel
theorem dL_refuses_225 : decode cL_refuses 225 = .ok (.iconst 0, 1) := by decide +kernel
theorem dL_refuses_226 : decode cL_refuses 226 = .ok (.iload 6, 2) := by decide +kernel
theorem dL_refuses_228 : decode cL_refuses 228 = .ok (.bipush 9, 2) := by decide +kernel
theorem dL_refuses_230 : decode cL_refuses 230 = .ok (.invokestatic 192, 3) := by decide +kernel
theorem dL_refuses_233 : decode cL_refuses 233 = .ok (.ldc 44, 2) := by decide +kernel
theorem dL_refuses_235 : decode cL_refuses 235 = .ok (.if_icmp .ne 498, 3) := by decide +kernel
theorem dL_refuses_238 : decode cL_refuses 238 = .ok (.aload_n 0, 1) := by decide +kernel
theorem dL_refuses_239 : decode cL_refuses 239 = .ok (.iconst 5, 1) := by decide +kernel
theorem dL_refuses_240 : decode cL_refuses 240 = .ok (.iconst 0, 1) := by decide +kernel
theorem dL_refuses_241 : decode cL_refuses 241 = .ok (.iconst 0, 1) := by decide +kernel
theorem dL_refuses_242 : decode cL_refuses 242 = .ok (.iconst 3, 1) := by decide +kernel
theorem dL_refuses_243 : decode cL_refuses 243 = .ok (.iload_n 1, 1) := by decide +kernel
theorem dL_refuses_244 : decode cL_refuses 244 = .ok (.bipush 9, 2) := by decide +kernel
theorem dL_refuses_246 : decode cL_refuses 246 = .ok (.irem, 1) := by decide +kernel
theorem dL_refuses_247 : decode cL_refuses 247 = .ok (.iadd, 1) := by decide +kernel
theorem dL_refuses_248 : decode cL_refuses 248 = .ok (.invokestatic 192, 3) := by decide +kernel
theorem dL_refuses_251 : decode cL_refuses 251 = .ok (.ldc 15, 2) := by decide +kernel
theorem dL_refuses_253 : decode cL_refuses 253 = .ok (.if_icmp .ne 480, 3) := by decide +kernel
theorem dL_refuses_256 : decode cL_refuses 256 = .ok (.aload_n 0, 1) := by decide +kernel
theorem dL_refuses_257 : decode cL_refuses 257 = .ok (.bipush 6, 2) := by decide +kernel
theorem dL_refuses_259 : decode cL_refuses 259 = .ok (.iload 5, 2) := by decide +kernel
theorem dL_refuses_261 : decode cL_refuses 261 = .ok (.iconst 0, 1) := by decide +kernel
theorem dL_refuses_262 : decode cL_refuses 262 = .ok (.iconst 0, 1) := by decide +kernel
theorem dL_refuses_263 : decode cL_refuses 263 = .ok (.invokestatic 192, 3) := by decide +kernel
theorem dL_refuses_266 : decode cL_refuses 266 = .ok (.ldc 44, 2) := by decide +kernel
theorem dL_refuses_268 : decode cL_refuses 268 = .ok (.if_icmp .ne 465, 3) := by decide +kernel
theorem dL_refuses_271 : decode cL_refuses 271 = .ok (.aload_n 0, 1) := by decide +kernel
theorem dL_refuses_272 : decode cL_refuses 272 = .ok (.bipush 6, 2) := by decide +kernel
theorem dL_refuses_274 : decode cL_refuses 274 = .ok (.iconst 0, 1) := by decide +kernel
theorem dL_refuses_275 : decode cL_refuses 275 = .ok (.iload 6, 2) := by decide +kernel
theorem dL_refuses_277 : decode cL_refuses 277 = .ok (.iconst 0, 1) := by decide +kernel
theorem dL_refuses_278 : decode cL_refuses 278 = .ok (.invokestatic 192, 3) := by decide +kernel
theorem dL_refuses_281 : decode cL_refuses 281 = .ok (.ldc 44, 2) := by decide +kernel
theorem dL_refuses_283 : decode cL_refuses 283 = .ok (.if_icmp .ne 450, 3) := by decide +kernel
theorem dL_refuses_286 : decode cL_refuses 286 = .ok (.aload_n 0, 1) := by decide +kernel
theorem dL_refuses_287 : decode cL_refuses 287 = .ok (.bipush 7, 2) := by decide +kernel
theorem dL_refuses_289 : decode cL_refuses 289 = .ok (.iload 6, 2) := by decide +kernel
theorem dL_refuses_291 : decode cL_refuses 291 = .ok (.iconst 0, 1) := by decide +kernel
theorem dL_refuses_292 : decode cL_refuses 292 = .ok (.iconst 0, 1) := by decide +kernel
theorem dL_refuses_293 : decode cL_refuses 293 = .ok (.invokestatic 192, 3) := by decide +kernel
theorem dL_refuses_296 : decode cL_refuses 296 = .ok (.ldc 44, 2) := by decide +kernel
theorem dL_refuses_298 : decode cL_refuses 298 = .ok (.if_icmp .ne 435, 3) := by decide +kernel
theorem dL_refuses_301 : decode cL_refuses 301 = .ok (.aload_n 0, 1) := by decide +kernel
theorem dL_refuses_302 : decode cL_refuses 302 = .ok (.bipush 7, 2) := by decide +kernel
theorem dL_refuses_304 : decode cL_refuses 304 = .ok (.iconst 0, 1) := by decide +kernel
theorem dL_refuses_305 : decode cL_refuses 305 = .ok (.iload 6, 2) := by decide +kernel
theorem dL_refuses_307 : decode cL_refuses 307 = .ok (.iconst 0, 1) := by decide +kernel
theorem dL_refuses_308 : decode cL_refuses 308 = .ok (.invokestatic 192, 3) := by decide +kernel
theorem dL_refuses_311 : decode cL_refuses 311 = .ok (.ldc 44, 2) := by decide +kernel
theorem dL_refuses_313 : decode cL_refuses 313 = .ok (.if_icmp .ne 420, 3) := by decide +kernel
theorem dL_refuses_316 : decode cL_refuses 316 = .ok (.aload_n 0, 1) := by decide +kernel
theorem dL_refuses_317 : decode cL_refuses 317 = .ok (.bipush 8, 2) := by decide +kernel
theorem dL_refuses_319 : decode cL_refuses 319 = .ok (.iconst 2, 1) := by decide +kernel
theorem dL_refuses_320 : decode cL_refuses 320 = .ok (.iload_n 1, 1) := by decide +kernel
theorem dL_refuses_321 : decode cL_refuses 321 = .ok (.bipush 9, 2) := by decide +kernel
theorem dL_refuses_323 : decode cL_refuses 323 = .ok (.irem, 1) := by decide +kernel
theorem dL_refuses_324 : decode cL_refuses 324 = .ok (.iadd, 1) := by decide +kernel
theorem dL_refuses_325 : decode cL_refuses 325 = .ok (.iconst 0, 1) := by decide +kernel
theorem dL_refuses_326 : decode cL_refuses 326 = .ok (.iconst 0, 1) := by decide +kernel
theorem dL_refuses_327 : decode cL_refuses 327 = .ok (.invokestatic 192, 3) := by decide +kernel
theorem dL_refuses_330 : decode cL_refuses 330 = .ok (.ldc 15, 2) := by decide +kernel
theorem dL_refuses_332 : decode cL_refuses 332 = .ok (.if_icmp .ne 401, 3) := by decide +kernel
theorem dL_refuses_335 : decode cL_refuses 335 = .ok (.aload_n 0, 1) := by decide +kernel
theorem dL_refuses_336 : decode cL_refuses 336 = .ok (.bipush 9, 2) := by decide +kernel
theorem dL_refuses_338 : decode cL_refuses 338 = .ok (.iload 6, 2) := by decide +kernel
theorem dL_refuses_340 : decode cL_refuses 340 = .ok (.iconst 0, 1) := by decide +kernel
theorem dL_refuses_341 : decode cL_refuses 341 = .ok (.iconst 0, 1) := by decide +kernel
theorem dL_refuses_342 : decode cL_refuses 342 = .ok (.invokestatic 192, 3) := by decide +kernel
theorem dL_refuses_345 : decode cL_refuses 345 = .ok (.ldc 44, 2) := by decide +kernel
theorem dL_refuses_347 : decode cL_refuses 347 = .ok (.if_icmp .ne 386, 3) := by decide +kernel
theorem dL_refuses_350 : decode cL_refuses 350 = .ok (.aload_n 0, 1) := by decide +kernel
theorem dL_refuses_351 : decode cL_refuses 351 = .ok (.bipush 9, 2) := by decide +kernel
theorem dL_refuses_353 : decode cL_refuses 353 = .ok (.iconst 0, 1) := by decide +kernel
theorem dL_refuses_354 : decode cL_refuses 354 = .ok (.iload_n 1, 1) := by decide +kernel
theorem dL_refuses_355 : decode cL_refuses 355 = .ok (.iconst 2, 1) := by decide +kernel
theorem dL_refuses_356 : decode cL_refuses 356 = .ok (.irem, 1) := by decide +kernel
theorem dL_refuses_357 : decode cL_refuses 357 = .ok (.ifCond .ne 8, 3) := by decide +kernel
theorem dL_refuses_360 : decode cL_refuses 360 = .ok (.bipush 99, 2) := by decide +kernel
theorem dL_refuses_362 : decode cL_refuses 362 = .ok (.goto 11, 3) := by decide +kernel
theorem dL_refuses_365 : decode cL_refuses 365 = .ok (.sipush 901, 3) := by decide +kernel
theorem dL_refuses_368 : decode cL_refuses 368 = .ok (.iload_n 1, 1) := by decide +kernel
theorem dL_refuses_369 : decode cL_refuses 369 = .ok (.bipush 9, 2) := by decide +kernel
theorem dL_refuses_371 : decode cL_refuses 371 = .ok (.irem, 1) := by decide +kernel
theorem dL_refuses_372 : decode cL_refuses 372 = .ok (.iadd, 1) := by decide +kernel
theorem dL_refuses_373 : decode cL_refuses 373 = .ok (.iconst 0, 1) := by decide +kernel
theorem dL_refuses_374 : decode cL_refuses 374 = .ok (.invokestatic 192, 3) := by decide +kernel
theorem dL_refuses_377 : decode cL_refuses 377 = .ok (.ldc 15, 2) := by decide +kernel
theorem dL_refuses_379 : decode cL_refuses 379 = .ok (.if_icmp .ne 354, 3) := by decide +kernel
theorem dL_refuses_382 : decode cL_refuses 382 = .ok (.aload_n 0, 1) := by decide +kernel
theorem dL_refuses_383 : decode cL_refuses 383 = .ok (.iload_n 1, 1) := by decide +kernel
theorem dL_refuses_384 : decode cL_refuses 384 = .ok (.iconst 2, 1) := by decide +kernel
theorem dL_refuses_385 : decode cL_refuses 385 = .ok (.irem, 1) := by decide +kernel
theorem dL_refuses_386 : decode cL_refuses 386 = .ok (.ifCond .ne 7, 3) := by decide +kernel
theorem dL_refuses_389 : decode cL_refuses 389 = .ok (.iconst (-1), 1) := by decide +kernel
theorem dL_refuses_390 : decode cL_refuses 390 = .ok (.goto 10, 3) := by decide +kernel
theorem dL_refuses_393 : decode cL_refuses 393 = .ok (.bipush 51, 2) := by decide +kernel
theorem dL_refuses_395 : decode cL_refuses 395 = .ok (.iload_n 1, 1) := by decide +kernel
theorem dL_refuses_396 : decode cL_refuses 396 = .ok (.bipush 9, 2) := by decide +kernel
theorem dL_refuses_398 : decode cL_refuses 398 = .ok (.irem, 1) := by decide +kernel
theorem dL_refuses_399 : decode cL_refuses 399 = .ok (.iadd, 1) := by decide +kernel
theorem dL_refuses_400 : decode cL_refuses 400 = .ok (.iconst 0, 1) := by decide +kernel
theorem dL_refuses_401 : decode cL_refuses 401 = .ok (.iconst 0, 1) := by decide +kernel
theorem dL_refuses_402 : decode cL_refuses 402 = .ok (.iconst 0, 1) := by decide +kernel
theorem dL_refuses_403 : decode cL_refuses 403 = .ok (.invokestatic 196, 3) := by decide +kernel
theorem dL_refuses_406 : decode cL_refuses 406 = .ok (.ldc 15, 2) := by decide +kernel
theorem dL_refuses_408 : decode cL_refuses 408 = .ok (.if_icmp .ne 325, 3) := by decide +kernel
theorem dL_refuses_411 : decode cL_refuses 411 = .ok (.aload_n 0, 1) := by decide +kernel
theorem dL_refuses_412 : decode cL_refuses 412 = .ok (.iconst 0, 1) := by decide +kernel
theorem dL_refuses_413 : decode cL_refuses 413 = .ok (.iconst 0, 1) := by decide +kernel
theorem dL_refuses_414 : decode cL_refuses 414 = .ok (.iconst 0, 1) := by decide +kernel
theorem dL_refuses_415 : decode cL_refuses 415 = .ok (.iload_n 1, 1) := by decide +kernel
theorem dL_refuses_416 : decode cL_refuses 416 = .ok (.iconst 2, 1) := by decide +kernel
theorem dL_refuses_417 : decode cL_refuses 417 = .ok (.irem, 1) := by decide +kernel
theorem dL_refuses_418 : decode cL_refuses 418 = .ok (.ifCond .ne 7, 3) := by decide +kernel
theorem dL_refuses_421 : decode cL_refuses 421 = .ok (.iconst (-1), 1) := by decide +kernel
theorem dL_refuses_422 : decode cL_refuses 422 = .ok (.goto 10, 3) := by decide +kernel
theorem dL_refuses_425 : decode cL_refuses 425 = .ok (.bipush 51, 2) := by decide +kernel
theorem dL_refuses_427 : decode cL_refuses 427 = .ok (.iload_n 1, 1) := by decide +kernel
theorem dL_refuses_428 : decode cL_refuses 428 = .ok (.bipush 9, 2) := by decide +kernel
theorem dL_refuses_430 : decode cL_refuses 430 = .ok (.irem, 1) := by decide +kernel
theorem dL_refuses_431 : decode cL_refuses 431 = .ok (.iadd, 1) := by decide +kernel
theorem dL_refuses_432 : decode cL_refuses 432 = .ok (.invokestatic 196, 3) := by decide +kernel
theorem dL_refuses_435 : decode cL_refuses 435 = .ok (.ldc 15, 2) := by decide +kernel
theorem dL_refuses_437 : decode cL_refuses 437 = .ok (.if_icmp .ne 296, 3) := by decide +kernel
theorem dL_refuses_440 : decode cL_refuses 440 = .ok (.aload_n 0, 1) := by decide +kernel
theorem dL_refuses_441 : decode cL_refuses 441 = .ok (.bipush 10, 2) := by decide +kernel
theorem dL_refuses_443 : decode cL_refuses 443 = .ok (.iload 5, 2) := by decide +kernel
theorem dL_refuses_445 : decode cL_refuses 445 = .ok (.iconst 0, 1) := by decide +kernel
theorem dL_refuses_446 : decode cL_refuses 446 = .ok (.iconst 0, 1) := by decide +kernel
theorem dL_refuses_447 : decode cL_refuses 447 = .ok (.invokestatic 192, 3) := by decide +kernel
theorem dL_refuses_450 : decode cL_refuses 450 = .ok (.ldc 44, 2) := by decide +kernel
theorem dL_refuses_452 : decode cL_refuses 452 = .ok (.if_icmp .ne 281, 3) := by decide +kernel
theorem dL_refuses_455 : decode cL_refuses 455 = .ok (.aload_n 0, 1) := by decide +kernel
theorem dL_refuses_456 : decode cL_refuses 456 = .ok (.bipush 10, 2) := by decide +kernel
theorem dL_refuses_458 : decode cL_refuses 458 = .ok (.iconst 0, 1) := by decide +kernel
theorem dL_refuses_459 : decode cL_refuses 459 = .ok (.iload 6, 2) := by decide +kernel
theorem dL_refuses_461 : decode cL_refuses 461 = .ok (.iconst 0, 1) := by decide +kernel
theorem dL_refuses_462 : decode cL_refuses 462 = .ok (.invokestatic 192, 3) := by decide +kernel
theorem dL_refuses_465 : decode cL_refuses 465 = .ok (.ldc 44, 2) := by decide +kernel
theorem dL_refuses_467 : decode cL_refuses 467 = .ok (.if_icmp .ne 266, 3) := by decide +kernel
theorem dL_refuses_470 : decode cL_refuses 470 = .ok (.aload_n 0, 1) := by decide +kernel
theorem dL_refuses_471 : decode cL_refuses 471 = .ok (.bipush 10, 2) := by decide +kernel
theorem dL_refuses_473 : decode cL_refuses 473 = .ok (.iconst 0, 1) := by decide +kernel
theorem dL_refuses_474 : decode cL_refuses 474 = .ok (.iconst 0, 1) := by decide +kernel
theorem dL_refuses_475 : decode cL_refuses 475 = .ok (.iload_n 1, 1) := by decide +kernel
theorem dL_refuses_476 : decode cL_refuses 476 = .ok (.iconst 2, 1) := by decide +kernel
theorem dL_refuses_477 : decode cL_refuses 477 = .ok (.irem, 1) := by decide +kernel
theorem dL_refuses_478 : decode cL_refuses 478 = .ok (.ifCond .ne 7, 3) := by decide +kernel
theorem dL_refuses_481 : decode cL_refuses 481 = .ok (.iconst (-1), 1) := by decide +kernel
theorem dL_refuses_482 : decode cL_refuses 482 = .ok (.goto 10, 3) := by decide +kernel
theorem dL_refuses_485 : decode cL_refuses 485 = .ok (.bipush 51, 2) := by decide +kernel
theorem dL_refuses_487 : decode cL_refuses 487 = .ok (.iload_n 1, 1) := by decide +kernel
theorem dL_refuses_488 : decode cL_refuses 488 = .ok (.bipush 9, 2) := by decide +kernel
theorem dL_refuses_490 : decode cL_refuses 490 = .ok (.irem, 1) := by decide +kernel
theorem dL_refuses_491 : decode cL_refuses 491 = .ok (.iadd, 1) := by decide +kernel
theorem dL_refuses_492 : decode cL_refuses 492 = .ok (.invokestatic 192, 3) := by decide +kernel
theorem dL_refuses_495 : decode cL_refuses 495 = .ok (.ldc 15, 2) := by decide +kernel
theorem dL_refuses_497 : decode cL_refuses 497 = .ok (.if_icmp .ne 236, 3) := by decide +kernel
theorem dL_refuses_500 : decode cL_refuses 500 = .ok (.aload_n 0, 1) := by decide +kernel
theorem dL_refuses_501 : decode cL_refuses 501 = .ok (.bipush 11, 2) := by decide +kernel
theorem dL_refuses_503 : decode cL_refuses 503 = .ok (.iload 4, 2) := by decide +kernel
theorem dL_refuses_505 : decode cL_refuses 505 = .ok (.iconst 0, 1) := by decide +kernel
theorem dL_refuses_506 : decode cL_refuses 506 = .ok (.bipush 9, 2) := by decide +kernel
theorem dL_refuses_508 : decode cL_refuses 508 = .ok (.invokestatic 192, 3) := by decide +kernel
theorem dL_refuses_511 : decode cL_refuses 511 = .ok (.ldc 44, 2) := by decide +kernel
theorem dL_refuses_513 : decode cL_refuses 513 = .ok (.if_icmp .ne 220, 3) := by decide +kernel
theorem dL_refuses_516 : decode cL_refuses 516 = .ok (.aload_n 0, 1) := by decide +kernel
theorem dL_refuses_517 : decode cL_refuses 517 = .ok (.bipush 11, 2) := by decide +kernel
theorem dL_refuses_519 : decode cL_refuses 519 = .ok (.iconst 0, 1) := by decide +kernel
theorem dL_refuses_520 : decode cL_refuses 520 = .ok (.iload 5, 2) := by decide +kernel
theorem dL_refuses_522 : decode cL_refuses 522 = .ok (.bipush 9, 2) := by decide +kernel
theorem dL_refuses_524 : decode cL_refuses 524 = .ok (.invokestatic 192, 3) := by decide +kernel
theorem dL_refuses_527 : decode cL_refuses 527 = .ok (.ldc 44, 2) := by decide +kernel
theorem dL_refuses_529 : decode cL_refuses 529 = .ok (.if_icmp .ne 204, 3) := by decide +kernel
theorem dL_refuses_532 : decode cL_refuses 532 = .ok (.aload_n 0, 1) := by decide +kernel
theorem dL_refuses_533 : decode cL_refuses 533 = .ok (.bipush 11, 2) := by decide +kernel
theorem dL_refuses_535 : decode cL_refuses 535 = .ok (.iconst 0, 1) := by decide +kernel
theorem dL_refuses_536 : decode cL_refuses 536 = .ok (.iconst 0, 1) := by decide +kernel
theorem dL_refuses_537 : decode cL_refuses 537 = .ok (.iload 6, 2) := by decide +kernel
theorem dL_refuses_539 : decode cL_refuses 539 = .ok (.invokestatic 192, 3) := by decide +kernel
theorem dL_refuses_542 : decode cL_refuses 542 = .ok (.ldc 15, 2) := by decide +kernel
theorem dL_refuses_544 : decode cL_refuses 544 = .ok (.if_icmp .ne 189, 3) := by decide +kernel
theorem dL_refuses_547 : decode cL_refuses 547 = .ok (.aload_n 0, 1) := by decide +kernel
theorem dL_refuses_548 : decode cL_refuses 548 = .ok (.bipush 12, 2) := by decide +kernel
theorem dL_refuses_550 : decode cL_refuses 550 = .ok (.iload 4, 2) := by decide +kernel
theorem dL_refuses_552 : decode cL_refuses 552 = .ok (.iconst 0, 1) := by decide +kernel
theorem dL_refuses_553 : decode cL_refuses 553 = .ok (.iconst 0, 1) := by decide +kernel
theorem dL_refuses_554 : decode cL_refuses 554 = .ok (.invokestatic 192, 3) := by decide +kernel
theorem dL_refuses_557 : decode cL_refuses 557 = .ok (.ldc 44, 2) := by decide +kernel
theorem dL_refuses_559 : decode cL_refuses 559 = .ok (.if_icmp .ne 174, 3) := by decide +kernel
theorem dL_refuses_562 : decode cL_refuses 562 = .ok (.aload_n 0, 1) := by decide +kernel
theorem dL_refuses_563 : decode cL_refuses 563 = .ok (.bipush 12, 2) := by decide +kernel
theorem dL_refuses_565 : decode cL_refuses 565 = .ok (.iconst 0, 1) := by decide +kernel
theorem dL_refuses_566 : decode cL_refuses 566 = .ok (.iload 6, 2) := by decide +kernel
theorem dL_refuses_568 : decode cL_refuses 568 = .ok (.iconst 0, 1) := by decide +kernel
theorem dL_refuses_569 : decode cL_refuses 569 = .ok (.invokestatic 192, 3) := by decide +kernel
theorem dL_refuses_572 : decode cL_refuses 572 = .ok (.ldc 44, 2) := by decide +kernel
theorem dL_refuses_574 : decode cL_refuses 574 = .ok (.if_icmp .ne 159, 3) := by decide +kernel
theorem dL_refuses_577 : decode cL_refuses 577 = .ok (.aload_n 0, 1) := by decide +kernel
theorem dL_refuses_578 : decode cL_refuses 578 = .ok (.bipush 12, 2) := by decide +kernel
theorem dL_refuses_580 : decode cL_refuses 580 = .ok (.iconst 0, 1) := by decide +kernel
theorem dL_refuses_581 : decode cL_refuses 581 = .ok (.iconst 0, 1) := by decide +kernel
theorem dL_refuses_582 : decode cL_refuses 582 = .ok (.iload_n 1, 1) := by decide +kernel
theorem dL_refuses_583 : decode cL_refuses 583 = .ok (.iconst 2, 1) := by decide +kernel
theorem dL_refuses_584 : decode cL_refuses 584 = .ok (.irem, 1) := by decide +kernel
theorem dL_refuses_585 : decode cL_refuses 585 = .ok (.ifCond .ne 7, 3) := by decide +kernel
theorem dL_refuses_588 : decode cL_refuses 588 = .ok (.iconst 0, 1) := by decide +kernel
theorem dL_refuses_589 : decode cL_refuses 589 = .ok (.goto 11, 3) := by decide +kernel
theorem dL_refuses_592 : decode cL_refuses 592 = .ok (.sipush 801, 3) := by decide +kernel
theorem dL_refuses_595 : decode cL_refuses 595 = .ok (.iload_n 1, 1) := by decide +kernel
theorem dL_refuses_596 : decode cL_refuses 596 = .ok (.bipush 9, 2) := by decide +kernel
theorem dL_refuses_598 : decode cL_refuses 598 = .ok (.irem, 1) := by decide +kernel
theorem dL_refuses_599 : decode cL_refuses 599 = .ok (.iadd, 1) := by decide +kernel
theorem dL_refuses_600 : decode cL_refuses 600 = .ok (.invokestatic 192, 3) := by decide +kernel
theorem dL_refuses_603 : decode cL_refuses 603 = .ok (.ldc 15, 2) := by decide +kernel
theorem dL_refuses_605 : decode cL_refuses 605 = .ok (.if_icmp .ne 128, 3) := by decide +kernel
theorem dL_refuses_608 : decode cL_refuses 608 = .ok (.aload_n 0, 1) := by decide +kernel
theorem dL_refuses_609 : decode cL_refuses 609 = .ok (.bipush 13, 2) := by decide +kernel
theorem dL_refuses_611 : decode cL_refuses 611 = .ok (.iload 4, 2) := by decide +kernel
theorem dL_refuses_613 : decode cL_refuses 613 = .ok (.iconst 0, 1) := by decide +kernel
theorem dL_refuses_614 : decode cL_refuses 614 = .ok (.iconst 0, 1) := by decide +kernel
theorem dL_refuses_615 : decode cL_refuses 615 = .ok (.invokestatic 192, 3) := by decide +kernel
theorem dL_refuses_618 : decode cL_refuses 618 = .ok (.ldc 44, 2) := by decide +kernel
theorem dL_refuses_620 : decode cL_refuses 620 = .ok (.if_icmp .ne 113, 3) := by decide +kernel
theorem dL_refuses_623 : decode cL_refuses 623 = .ok (.aload_n 0, 1) := by decide +kernel
theorem dL_refuses_624 : decode cL_refuses 624 = .ok (.bipush 13, 2) := by decide +kernel
theorem dL_refuses_626 : decode cL_refuses 626 = .ok (.iconst 0, 1) := by decide +kernel
theorem dL_refuses_627 : decode cL_refuses 627 = .ok (.iload 6, 2) := by decide +kernel
theorem dL_refuses_629 : decode cL_refuses 629 = .ok (.iconst 0, 1) := by decide +kernel
theorem dL_refuses_630 : decode cL_refuses 630 = .ok (.invokestatic 192, 3) := by decide +kernel
theorem dL_refuses_633 : decode cL_refuses 633 = .ok (.ldc 44, 2) := by decide +kernel
theorem dL_refuses_635 : decode cL_refuses 635 = .ok (.if_icmp .ne 98, 3) := by decide +kernel
theorem dL_refuses_638 : decode cL_refuses 638 = .ok (.aload_n 0, 1) := by decide +kernel
theorem dL_refuses_639 : decode cL_refuses 639 = .ok (.bipush 13, 2) := by decide +kernel
theorem dL_refuses_641 : decode cL_refuses 641 = .ok (.iconst 0, 1) := by decide +kernel
theorem dL_refuses_642 : decode cL_refuses 642 = .ok (.iconst 0, 1) := by decide +kernel
theorem dL_refuses_643 : decode cL_refuses 643 = .ok (.iload_n 1, 1) := by decide +kernel
theorem dL_refuses_644 : decode cL_refuses 644 = .ok (.iconst 2, 1) := by decide +kernel
theorem dL_refuses_645 : decode cL_refuses 645 = .ok (.irem, 1) := by decide +kernel
theorem dL_refuses_646 : decode cL_refuses 646 = .ok (.ifCond .ne 7, 3) := by decide +kernel
theorem dL_refuses_649 : decode cL_refuses 649 = .ok (.iconst 0, 1) := by decide +kernel
theorem dL_refuses_650 : decode cL_refuses 650 = .ok (.goto 10, 3) := by decide +kernel
theorem dL_refuses_653 : decode cL_refuses 653 = .ok (.bipush 100, 2) := by decide +kernel
theorem dL_refuses_655 : decode cL_refuses 655 = .ok (.iload_n 1, 1) := by decide +kernel
theorem dL_refuses_656 : decode cL_refuses 656 = .ok (.bipush 9, 2) := by decide +kernel
theorem dL_refuses_658 : decode cL_refuses 658 = .ok (.irem, 1) := by decide +kernel
theorem dL_refuses_659 : decode cL_refuses 659 = .ok (.iadd, 1) := by decide +kernel
theorem dL_refuses_660 : decode cL_refuses 660 = .ok (.invokestatic 192, 3) := by decide +kernel
theorem dL_refuses_663 : decode cL_refuses 663 = .ok (.ldc 15, 2) := by decide +kernel
theorem dL_refuses_665 : decode cL_refuses 665 = .ok (.if_icmp .ne 68, 3) := by decide +kernel
theorem dL_refuses_668 : decode cL_refuses 668 = .ok (.aload_n 0, 1) := by decide +kernel
theorem dL_refuses_669 : decode cL_refuses 669 = .ok (.bipush 14, 2) := by decide +kernel
theorem dL_refuses_671 : decode cL_refuses 671 = .ok (.iload 4, 2) := by decide +kernel
theorem dL_refuses_673 : decode cL_refuses 673 = .ok (.iconst 0, 1) := by decide +kernel
theorem dL_refuses_674 : decode cL_refuses 674 = .ok (.iconst 0, 1) := by decide +kernel
theorem dL_refuses_675 : decode cL_refuses 675 = .ok (.invokestatic 192, 3) := by decide +kernel
theorem dL_refuses_678 : decode cL_refuses 678 = .ok (.ldc 44, 2) := by decide +kernel
theorem dL_refuses_680 : decode cL_refuses 680 = .ok (.if_icmp .ne 53, 3) := by decide +kernel
theorem dL_refuses_683 : decode cL_refuses 683 = .ok (.aload_n 0, 1) := by decide +kernel
theorem dL_refuses_684 : decode cL_refuses 684 = .ok (.bipush 15, 2) := by decide +kernel
theorem dL_refuses_686 : decode cL_refuses 686 = .ok (.iload 4, 2) := by decide +kernel
theorem dL_refuses_688 : decode cL_refuses 688 = .ok (.iconst 0, 1) := by decide +kernel
theorem dL_refuses_689 : decode cL_refuses 689 = .ok (.iconst 0, 1) := by decide +kernel
theorem dL_refuses_690 : decode cL_refuses 690 = .ok (.invokestatic 192, 3) := by decide +kernel
theorem dL_refuses_693 : decode cL_refuses 693 = .ok (.ldc 44, 2) := by decide +kernel
theorem dL_refuses_695 : decode cL_refuses 695 = .ok (.if_icmp .ne 38, 3) := by decide +kernel
theorem dL_refuses_698 : decode cL_refuses 698 = .ok (.aload_n 0, 1) := by decide +kernel
theorem dL_refuses_699 : decode cL_refuses 699 = .ok (.bipush 15, 2) := by decide +kernel
theorem dL_refuses_701 : decode cL_refuses 701 = .ok (.iconst 0, 1) := by decide +kernel
theorem dL_refuses_702 : decode cL_refuses 702 = .ok (.iload_n 1, 1) := by decide +kernel
theorem dL_refuses_703 : decode cL_refuses 703 = .ok (.iconst 2, 1) := by decide +kernel
theorem dL_refuses_704 : decode cL_refuses 704 = .ok (.irem, 1) := by decide +kernel
theorem dL_refuses_705 : decode cL_refuses 705 = .ok (.ifCond .ne 7, 3) := by decide +kernel
theorem dL_refuses_708 : decode cL_refuses 708 = .ok (.iconst 0, 1) := by decide +kernel
theorem dL_refuses_709 : decode cL_refuses 709 = .ok (.goto 11, 3) := by decide +kernel
theorem dL_refuses_712 : decode cL_refuses 712 = .ok (.sipush 201, 3) := by decide +kernel
theorem dL_refuses_715 : decode cL_refuses 715 = .ok (.iload_n 1, 1) := by decide +kernel
theorem dL_refuses_716 : decode cL_refuses 716 = .ok (.bipush 9, 2) := by decide +kernel
theorem dL_refuses_718 : decode cL_refuses 718 = .ok (.irem, 1) := by decide +kernel
theorem dL_refuses_719 : decode cL_refuses 719 = .ok (.iadd, 1) := by decide +kernel
theorem dL_refuses_720 : decode cL_refuses 720 = .ok (.iconst 0, 1) := by decide +kernel
theorem dL_refuses_721 : decode cL_refuses 721 = .ok (.invokestatic 192, 3) := by decide +kernel
theorem dL_refuses_724 : decode cL_refuses 724 = .ok (.ldc 15, 2) := by decide +kernel
theorem dL_refuses_726 : decode cL_refuses 726 = .ok (.if_icmp .ne 7, 3) := by decide +kernel
theorem dL_refuses_729 : decode cL_refuses 729 = .ok (.iconst 1, 1) := by decide +kernel
theorem dL_refuses_730 : decode cL_refuses 730 = .ok (.goto 4, 3) := by decide +kernel
theorem dL_refuses_733 : decode cL_refuses 733 = .ok (.iconst 0, 1) := by decide +kernel
theorem dL_refuses_734 : decode cL_refuses 734 = .ok (.istore 7, 2) := by decide +kernel
theorem dL_refuses_736 : decode cL_refuses 736 = .ok (.iload 7, 2) := by decide +kernel
theorem dL_refuses_738 : decode cL_refuses 738 = .ok (.ifCond .eq 423, 3) := by decide +kernel
theorem dL_refuses_741 : decode cL_refuses 741 = .ok (.aload_n 0, 1) := by decide +kernel
theorem dL_refuses_742 : decode cL_refuses 742 = .ok (.bipush 16, 2) := by decide +kernel
theorem dL_refuses_744 : decode cL_refuses 744 = .ok (.iload 6, 2) := by decide +kernel
theorem dL_refuses_746 : decode cL_refuses 746 = .ok (.iconst 0, 1) := by decide +kernel
theorem dL_refuses_747 : decode cL_refuses 747 = .ok (.iconst 0, 1) := by decide +kernel
theorem dL_refuses_748 : decode cL_refuses 748 = .ok (.invokestatic 192, 3) := by decide +kernel
theorem dL_refuses_751 : decode cL_refuses 751 = .ok (.ldc 44, 2) := by decide +kernel
theorem dL_refuses_753 : decode cL_refuses 753 = .ok (.if_icmp .ne 408, 3) := by decide +kernel
theorem dL_refuses_756 : decode cL_refuses 756 = .ok (.aload_n 0, 1) := by decide +kernel
theorem dL_refuses_757 : decode cL_refuses 757 = .ok (.bipush 16, 2) := by decide +kernel
theorem dL_refuses_759 : decode cL_refuses 759 = .ok (.iconst 0, 1) := by decide +kernel
theorem dL_refuses_760 : decode cL_refuses 760 = .ok (.iload 6, 2) := by decide +kernel
theorem dL_refuses_762 : decode cL_refuses 762 = .ok (.iconst 0, 1) := by decide +kernel
theorem dL_refuses_763 : decode cL_refuses 763 = .ok (.invokestatic 192, 3) := by decide +kernel
theorem dL_refuses_766 : decode cL_refuses 766 = .ok (.ldc 44, 2) := by decide +kernel
theorem dL_refuses_768 : decode cL_refuses 768 = .ok (.if_icmp .ne 393, 3) := by decide +kernel
theorem dL_refuses_771 : decode cL_refuses 771 = .ok (.aload_n 0, 1) := by decide +kernel
theorem dL_refuses_772 : decode cL_refuses 772 = .ok (.bipush 16, 2) := by decide +kernel
theorem dL_refuses_774 : decode cL_refuses 774 = .ok (.iconst 0, 1) := by decide +kernel
theorem dL_refuses_775 : decode cL_refuses 775 = .ok (.iload_n 1, 1) := by decide +kernel
theorem dL_refuses_776 : decode cL_refuses 776 = .ok (.iconst 2, 1) := by decide +kernel
theorem dL_refuses_777 : decode cL_refuses 777 = .ok (.irem, 1) := by decide +kernel
theorem dL_refuses_778 : decode cL_refuses 778 = .ok (.iload_n 1, 1) := by decide +kernel
theorem dL_refuses_779 : decode cL_refuses 779 = .ok (.iconst 4, 1) := by decide +kernel
theorem dL_refuses_780 : decode cL_refuses 780 = .ok (.irem, 1) := by decide +kernel
theorem dL_refuses_781 : decode cL_refuses 781 = .ok (.iconst 2, 1) := by decide +kernel
theorem dL_refuses_782 : decode cL_refuses 782 = .ok (.if_icmp .ge 8, 3) := by decide +kernel
theorem dL_refuses_785 : decode cL_refuses 785 = .ok (.bipush 99, 2) := by decide +kernel
theorem dL_refuses_787 : decode cL_refuses 787 = .ok (.goto 11, 3) := by decide +kernel
theorem dL_refuses_790 : decode cL_refuses 790 = .ok (.sipush 901, 3) := by decide +kernel
theorem dL_refuses_793 : decode cL_refuses 793 = .ok (.iload_n 1, 1) := by decide +kernel
theorem dL_refuses_794 : decode cL_refuses 794 = .ok (.bipush 9, 2) := by decide +kernel
theorem dL_refuses_796 : decode cL_refuses 796 = .ok (.irem, 1) := by decide +kernel
theorem dL_refuses_797 : decode cL_refuses 797 = .ok (.iadd, 1) := by decide +kernel
theorem dL_refuses_798 : decode cL_refuses 798 = .ok (.invokestatic 192, 3) := by decide +kernel
theorem dL_refuses_801 : decode cL_refuses 801 = .ok (.ldc 15, 2) := by decide +kernel
theorem dL_refuses_803 : decode cL_refuses 803 = .ok (.if_icmp .ne 358, 3) := by decide +kernel
theorem dL_refuses_806 : decode cL_refuses 806 = .ok (.aload_n 0, 1) := by decide +kernel
theorem dL_refuses_807 : decode cL_refuses 807 = .ok (.bipush 16, 2) := by decide +kernel
theorem dL_refuses_809 : decode cL_refuses 809 = .ok (.iconst 0, 1) := by decide +kernel
theorem dL_refuses_810 : decode cL_refuses 810 = .ok (.iconst 2, 1) := by decide +kernel
theorem dL_refuses_811 : decode cL_refuses 811 = .ok (.iload_n 1, 1) := by decide +kernel
theorem dL_refuses_812 : decode cL_refuses 812 = .ok (.iconst 2, 1) := by decide +kernel
theorem dL_refuses_813 : decode cL_refuses 813 = .ok (.irem, 1) := by decide +kernel
theorem dL_refuses_814 : decode cL_refuses 814 = .ok (.ifCond .ne 7, 3) := by decide +kernel
theorem dL_refuses_817 : decode cL_refuses 817 = .ok (.iconst (-1), 1) := by decide +kernel
theorem dL_refuses_818 : decode cL_refuses 818 = .ok (.goto 10, 3) := by decide +kernel
theorem dL_refuses_821 : decode cL_refuses 821 = .ok (.bipush 101, 2) := by decide +kernel
theorem dL_refuses_823 : decode cL_refuses 823 = .ok (.iload_n 1, 1) := by decide +kernel
theorem dL_refuses_824 : decode cL_refuses 824 = .ok (.bipush 9, 2) := by decide +kernel
theorem dL_refuses_826 : decode cL_refuses 826 = .ok (.irem, 1) := by decide +kernel
theorem dL_refuses_827 : decode cL_refuses 827 = .ok (.iadd, 1) := by decide +kernel
theorem dL_refuses_828 : decode cL_refuses 828 = .ok (.invokestatic 192, 3) := by decide +kernel
theorem dL_refuses_831 : decode cL_refuses 831 = .ok (.ldc 15, 2) := by decide +kernel
theorem dL_refuses_833 : decode cL_refuses 833 = .ok (.if_icmp .ne 328, 3) := by decide +kernel
theorem dL_refuses_836 : decode cL_refuses 836 = .ok (.aload_n 0, 1) := by decide +kernel
theorem dL_refuses_837 : decode cL_refuses 837 = .ok (.bipush 16, 2) := by decide +kernel
theorem dL_refuses_839 : decode cL_refuses 839 = .ok (.iconst 0, 1) := by decide +kernel
theorem dL_refuses_840 : decode cL_refuses 840 = .ok (.iconst 3, 1) := by decide +kernel
theorem dL_refuses_841 : decode cL_refuses 841 = .ok (.iload_n 1, 1) := by decide +kernel
theorem dL_refuses_842 : decode cL_refuses 842 = .ok (.iconst 2, 1) := by decide +kernel
theorem dL_refuses_843 : decode cL_refuses 843 = .ok (.irem, 1) := by decide +kernel
theorem dL_refuses_844 : decode cL_refuses 844 = .ok (.ifCond .ne 7, 3) := by decide +kernel
theorem dL_refuses_847 : decode cL_refuses 847 = .ok (.iconst (-1), 1) := by decide +kernel
theorem dL_refuses_848 : decode cL_refuses 848 = .ok (.goto 11, 3) := by decide +kernel
theorem dL_refuses_851 : decode cL_refuses 851 = .ok (.sipush 201, 3) := by decide +kernel
theorem dL_refuses_854 : decode cL_refuses 854 = .ok (.iload_n 1, 1) := by decide +kernel
theorem dL_refuses_855 : decode cL_refuses 855 = .ok (.bipush 9, 2) := by decide +kernel
theorem dL_refuses_857 : decode cL_refuses 857 = .ok (.irem, 1) := by decide +kernel
theorem dL_refuses_858 : decode cL_refuses 858 = .ok (.iadd, 1) := by decide +kernel
theorem dL_refuses_859 : decode cL_refuses 859 = .ok (.invokestatic 192, 3) := by decide +kernel
theorem dL_refuses_862 : decode cL_refuses 862 = .ok (.ldc 15, 2) := by decide +kernel
theorem dL_refuses_864 : decode cL_refuses 864 = .ok (.if_icmp .ne 297, 3) := by decide +kernel
theorem dL_refuses_867 : decode cL_refuses 867 = .ok (.aload_n 0, 1) := by decide +kernel
theorem dL_refuses_868 : decode cL_refuses 868 = .ok (.bipush 17, 2) := by decide +kernel
theorem dL_refuses_870 : decode cL_refuses 870 = .ok (.iconst 0, 1) := by decide +kernel
theorem dL_refuses_871 : decode cL_refuses 871 = .ok (.iload_n 1, 1) := by decide +kernel
theorem dL_refuses_872 : decode cL_refuses 872 = .ok (.iconst 2, 1) := by decide +kernel
theorem dL_refuses_873 : decode cL_refuses 873 = .ok (.irem, 1) := by decide +kernel
theorem dL_refuses_874 : decode cL_refuses 874 = .ok (.ifCond .ne 7, 3) := by decide +kernel
theorem dL_refuses_877 : decode cL_refuses 877 = .ok (.iconst (-1), 1) := by decide +kernel
theorem dL_refuses_878 : decode cL_refuses 878 = .ok (.goto 10, 3) := by decide +kernel
theorem dL_refuses_881 : decode cL_refuses 881 = .ok (.bipush 51, 2) := by decide +kernel
theorem dL_refuses_883 : decode cL_refuses 883 = .ok (.iload_n 1, 1) := by decide +kernel
theorem dL_refuses_884 : decode cL_refuses 884 = .ok (.bipush 9, 2) := by decide +kernel
theorem dL_refuses_886 : decode cL_refuses 886 = .ok (.irem, 1) := by decide +kernel
theorem dL_refuses_887 : decode cL_refuses 887 = .ok (.iadd, 1) := by decide +kernel
theorem dL_refuses_888 : decode cL_refuses 888 = .ok (.iconst 0, 1) := by decide +kernel
theorem dL_refuses_889 : decode cL_refuses 889 = .ok (.invokestatic 192, 3) := by decide +kernel
theorem dL_refuses_892 : decode cL_refuses 892 = .ok (.ldc 15, 2) := by decide +kernel
theorem dL_refuses_894 : decode cL_refuses 894 = .ok (.if_icmp .ne 267, 3) := by decide +kernel
theorem dL_refuses_897 : decode cL_refuses 897 = .ok (.aload_n 0, 1) := by decide +kernel
theorem dL_refuses_898 : decode cL_refuses 898 = .ok (.bipush 17, 2) := by decide +kernel
theorem dL_refuses_900 : decode cL_refuses 900 = .ok (.iconst 1, 1) := by decide +kernel
theorem dL_refuses_901 : decode cL_refuses 901 = .ok (.iload_n 1, 1) := by decide +kernel
theorem dL_refuses_902 : decode cL_refuses 902 = .ok (.iconst 2, 1) := by decide +kernel
theorem dL_refuses_903 : decode cL_refuses 903 = .ok (.irem, 1) := by decide +kernel
theorem dL_refuses_904 : decode cL_refuses 904 = .ok (.ifCond .ne 7, 3) := by decide +kernel
theorem dL_refuses_907 : decode cL_refuses 907 = .ok (.iconst 0, 1) := by decide +kernel
theorem dL_refuses_908 : decode cL_refuses 908 = .ok (.goto 11, 3) := by decide +kernel
theorem dL_refuses_911 : decode cL_refuses 911 = .ok (.sipush 201, 3) := by decide +kernel
theorem dL_refuses_914 : decode cL_refuses 914 = .ok (.iload_n 1, 1) := by decide +kernel
theorem dL_refuses_915 : decode cL_refuses 915 = .ok (.bipush 9, 2) := by decide +kernel
theorem dL_refuses_917 : decode cL_refuses 917 = .ok (.irem, 1) := by decide +kernel
theorem dL_refuses_918 : decode cL_refuses 918 = .ok (.iadd, 1) := by decide +kernel
theorem dL_refuses_919 : decode cL_refuses 919 = .ok (.iconst 0, 1) := by decide +kernel
theorem dL_refuses_920 : decode cL_refuses 920 = .ok (.invokestatic 192, 3) := by decide +kernel
theorem dL_refuses_923 : decode cL_refuses 923 = .ok (.ldc 15, 2) := by decide +kernel
theorem dL_refuses_925 : decode cL_refuses 925 = .ok (.if_icmp .ne 236, 3) := by decide +kernel
theorem dL_refuses_928 : decode cL_refuses 928 = .ok (.aload_n 0, 1) := by decide +kernel
theorem dL_refuses_929 : decode cL_refuses 929 = .ok (.bipush 17, 2) := by decide +kernel
theorem dL_refuses_931 : decode cL_refuses 931 = .ok (.iconst 2, 1) := by decide +kernel
theorem dL_refuses_932 : decode cL_refuses 932 = .ok (.iload_n 1, 1) := by decide +kernel
theorem dL_refuses_933 : decode cL_refuses 933 = .ok (.bipush 9, 2) := by decide +kernel
theorem dL_refuses_935 : decode cL_refuses 935 = .ok (.irem, 1) := by decide +kernel
theorem dL_refuses_936 : decode cL_refuses 936 = .ok (.iadd, 1) := by decide +kernel
theorem dL_refuses_937 : decode cL_refuses 937 = .ok (.iconst 5, 1) := by decide +kernel
theorem dL_refuses_938 : decode cL_refuses 938 = .ok (.iconst 0, 1) := by decide +kernel
theorem dL_refuses_939 : decode cL_refuses 939 = .ok (.invokestatic 192, 3) := by decide +kernel
theorem dL_refuses_942 : decode cL_refuses 942 = .ok (.ldc 15, 2) := by decide +kernel
theorem dL_refuses_944 : decode cL_refuses 944 = .ok (.if_icmp .ne 217, 3) := by decide +kernel
theorem dL_refuses_947 : decode cL_refuses 947 = .ok (.aload_n 0, 1) := by decide +kernel
theorem dL_refuses_948 : decode cL_refuses 948 = .ok (.bipush 19, 2) := by decide +kernel
theorem dL_refuses_950 : decode cL_refuses 950 = .ok (.iload 4, 2) := by decide +kernel
theorem dL_refuses_952 : decode cL_refuses 952 = .ok (.iconst 0, 1) := by decide +kernel
theorem dL_refuses_953 : decode cL_refuses 953 = .ok (.bipush 9, 2) := by decide +kernel
theorem dL_refuses_955 : decode cL_refuses 955 = .ok (.invokestatic 192, 3) := by decide +kernel
theorem dL_refuses_958 : decode cL_refuses 958 = .ok (.ldc 44, 2) := by decide +kernel
theorem dL_refuses_960 : decode cL_refuses 960 = .ok (.if_icmp .ne 201, 3) := by decide +kernel
theorem dL_refuses_963 : decode cL_refuses 963 = .ok (.aload_n 0, 1) := by decide +kernel
theorem dL_refuses_964 : decode cL_refuses 964 = .ok (.bipush 19, 2) := by decide +kernel
theorem dL_refuses_966 : decode cL_refuses 966 = .ok (.iconst 0, 1) := by decide +kernel
theorem dL_refuses_967 : decode cL_refuses 967 = .ok (.iload 5, 2) := by decide +kernel
theorem dL_refuses_969 : decode cL_refuses 969 = .ok (.bipush 9, 2) := by decide +kernel
theorem dL_refuses_971 : decode cL_refuses 971 = .ok (.invokestatic 192, 3) := by decide +kernel
theorem dL_refuses_974 : decode cL_refuses 974 = .ok (.ldc 44, 2) := by decide +kernel
theorem dL_refuses_976 : decode cL_refuses 976 = .ok (.if_icmp .ne 185, 3) := by decide +kernel
theorem dL_refuses_979 : decode cL_refuses 979 = .ok (.aload_n 0, 1) := by decide +kernel
theorem dL_refuses_980 : decode cL_refuses 980 = .ok (.bipush 19, 2) := by decide +kernel
theorem dL_refuses_982 : decode cL_refuses 982 = .ok (.iconst 0, 1) := by decide +kernel
theorem dL_refuses_983 : decode cL_refuses 983 = .ok (.iconst 0, 1) := by decide +kernel
theorem dL_refuses_984 : decode cL_refuses 984 = .ok (.iconst 2, 1) := by decide +kernel
theorem dL_refuses_985 : decode cL_refuses 985 = .ok (.iload_n 1, 1) := by decide +kernel
theorem dL_refuses_986 : decode cL_refuses 986 = .ok (.bipush 9, 2) := by decide +kernel
theorem dL_refuses_988 : decode cL_refuses 988 = .ok (.irem, 1) := by decide +kernel
theorem dL_refuses_989 : decode cL_refuses 989 = .ok (.iadd, 1) := by decide +kernel
theorem dL_refuses_990 : decode cL_refuses 990 = .ok (.invokestatic 192, 3) := by decide +kernel
theorem dL_refuses_993 : decode cL_refuses 993 = .ok (.ldc 15, 2) := by decide +kernel
theorem dL_refuses_995 : decode cL_refuses 995 = .ok (.if_icmp .ne 166, 3) := by decide +kernel
theorem dL_refuses_998 : decode cL_refuses 998 = .ok (.aload_n 0, 1) := by decide +kernel
theorem dL_refuses_999 : decode cL_refuses 999 = .ok (.bipush 20, 2) := by decide +kernel
theorem dL_refuses_1001 : decode cL_refuses 1001 = .ok (.iload 4, 2) := by decide +kernel
theorem dL_refuses_1003 : decode cL_refuses 1003 = .ok (.iconst 0, 1) := by decide +kernel
theorem dL_refuses_1004 : decode cL_refuses 1004 = .ok (.iconst 0, 1) := by decide +kernel
theorem dL_refuses_1005 : decode cL_refuses 1005 = .ok (.invokestatic 192, 3) := by decide +kernel
theorem dL_refuses_1008 : decode cL_refuses 1008 = .ok (.ldc 44, 2) := by decide +kernel
theorem dL_refuses_1010 : decode cL_refuses 1010 = .ok (.if_icmp .ne 151, 3) := by decide +kernel
theorem dL_refuses_1013 : decode cL_refuses 1013 = .ok (.aload_n 0, 1) := by decide +kernel
theorem dL_refuses_1014 : decode cL_refuses 1014 = .ok (.bipush 21, 2) := by decide +kernel
theorem dL_refuses_1016 : decode cL_refuses 1016 = .ok (.iload 4, 2) := by decide +kernel
theorem dL_refuses_1018 : decode cL_refuses 1018 = .ok (.iconst 0, 1) := by decide +kernel
theorem dL_refuses_1019 : decode cL_refuses 1019 = .ok (.iconst 0, 1) := by decide +kernel
theorem dL_refuses_1020 : decode cL_refuses 1020 = .ok (.invokestatic 192, 3) := by decide +kernel
theorem dL_refuses_1023 : decode cL_refuses 1023 = .ok (.ldc 44, 2) := by decide +kernel
theorem dL_refuses_1025 : decode cL_refuses 1025 = .ok (.if_icmp .ne 136, 3) := by decide +kernel
theorem dL_refuses_1028 : decode cL_refuses 1028 = .ok (.aload_n 0, 1) := by decide +kernel
theorem dL_refuses_1029 : decode cL_refuses 1029 = .ok (.bipush 21, 2) := by decide +kernel
theorem dL_refuses_1031 : decode cL_refuses 1031 = .ok (.iconst 0, 1) := by decide +kernel
theorem dL_refuses_1032 : decode cL_refuses 1032 = .ok (.iload_n 1, 1) := by decide +kernel
theorem dL_refuses_1033 : decode cL_refuses 1033 = .ok (.iconst 2, 1) := by decide +kernel
theorem dL_refuses_1034 : decode cL_refuses 1034 = .ok (.irem, 1) := by decide +kernel
theorem dL_refuses_1035 : decode cL_refuses 1035 = .ok (.ifCond .ne 7, 3) := by decide +kernel
theorem dL_refuses_1038 : decode cL_refuses 1038 = .ok (.iconst 0, 1) := by decide +kernel
theorem dL_refuses_1039 : decode cL_refuses 1039 = .ok (.goto 11, 3) := by decide +kernel
theorem dL_refuses_1042 : decode cL_refuses 1042 = .ok (.sipush 201, 3) := by decide +kernel
theorem dL_refuses_1045 : decode cL_refuses 1045 = .ok (.iload_n 1, 1) := by decide +kernel
theorem dL_refuses_1046 : decode cL_refuses 1046 = .ok (.bipush 9, 2) := by decide +kernel
theorem dL_refuses_1048 : decode cL_refuses 1048 = .ok (.irem, 1) := by decide +kernel
theorem dL_refuses_1049 : decode cL_refuses 1049 = .ok (.iadd, 1) := by decide +kernel
theorem dL_refuses_1050 : decode cL_refuses 1050 = .ok (.iconst 0, 1) := by decide +kernel
theorem dL_refuses_1051 : decode cL_refuses 1051 = .ok (.invokestatic 192, 3) := by decide +kernel
theorem dL_refuses_1054 : decode cL_refuses 1054 = .ok (.ldc 15, 2) := by decide +kernel
theorem dL_refuses_1056 : decode cL_refuses 1056 = .ok (.if_icmp .ne 105, 3) := by decide +kernel
theorem dL_refuses_1059 : decode cL_refuses 1059 = .ok (.aload_n 0, 1) := by decide +kernel
theorem dL_refuses_1060 : decode cL_refuses 1060 = .ok (.bipush 22, 2) := by decide +kernel
theorem dL_refuses_1062 : decode cL_refuses 1062 = .ok (.iload 4, 2) := by decide +kernel
theorem dL_refuses_1064 : decode cL_refuses 1064 = .ok (.iconst 0, 1) := by decide +kernel
theorem dL_refuses_1065 : decode cL_refuses 1065 = .ok (.iconst 0, 1) := by decide +kernel
theorem dL_refuses_1066 : decode cL_refuses 1066 = .ok (.invokestatic 192, 3) := by decide +kernel
theorem dL_refuses_1069 : decode cL_refuses 1069 = .ok (.ldc 44, 2) := by decide +kernel
theorem dL_refuses_1071 : decode cL_refuses 1071 = .ok (.if_icmp .ne 90, 3) := by decide +kernel
theorem dL_refuses_1074 : decode cL_refuses 1074 = .ok (.aload_n 0, 1) := by decide +kernel
theorem dL_refuses_1075 : decode cL_refuses 1075 = .ok (.bipush 23, 2) := by decide +kernel
theorem dL_refuses_1077 : decode cL_refuses 1077 = .ok (.iconst 2, 1) := by decide +kernel
theorem dL_refuses_1078 : decode cL_refuses 1078 = .ok (.iload_n 1, 1) := by decide +kernel
theorem dL_refuses_1079 : decode cL_refuses 1079 = .ok (.bipush 50, 2) := by decide +kernel
theorem dL_refuses_1081 : decode cL_refuses 1081 = .ok (.irem, 1) := by decide +kernel
theorem dL_refuses_1082 : decode cL_refuses 1082 = .ok (.iadd, 1) := by decide +kernel
theorem dL_refuses_1083 : decode cL_refuses 1083 = .ok (.iconst 0, 1) := by decide +kernel
theorem dL_refuses_1084 : decode cL_refuses 1084 = .ok (.iconst 0, 1) := by decide +kernel
theorem dL_refuses_1085 : decode cL_refuses 1085 = .ok (.invokestatic 192, 3) := by decide +kernel
theorem dL_refuses_1088 : decode cL_refuses 1088 = .ok (.ldc 44, 2) := by decide +kernel
theorem dL_refuses_1090 : decode cL_refuses 1090 = .ok (.if_icmp .ne 71, 3) := by decide +kernel
theorem dL_refuses_1093 : decode cL_refuses 1093 = .ok (.aload_n 0, 1) := by decide +kernel
theorem dL_refuses_1094 : decode cL_refuses 1094 = .ok (.bipush 24, 2) := by decide +kernel
theorem dL_refuses_1096 : decode cL_refuses 1096 = .ok (.iconst (-1), 1) := by decide +kernel
theorem dL_refuses_1097 : decode cL_refuses 1097 = .ok (.iload_n 1, 1) := by decide +kernel
theorem dL_refuses_1098 : decode cL_refuses 1098 = .ok (.bipush 9, 2) := by decide +kernel
theorem dL_refuses_1100 : decode cL_refuses 1100 = .ok (.irem, 1) := by decide +kernel
theorem dL_refuses_1101 : decode cL_refuses 1101 = .ok (.isub, 1) := by decide +kernel
theorem dL_refuses_1102 : decode cL_refuses 1102 = .ok (.iconst 0, 1) := by decide +kernel
theorem dL_refuses_1103 : decode cL_refuses 1103 = .ok (.iconst 0, 1) := by decide +kernel
theorem dL_refuses_1104 : decode cL_refuses 1104 = .ok (.invokestatic 192, 3) := by decide +kernel
theorem dL_refuses_1107 : decode cL_refuses 1107 = .ok (.ldc 44, 2) := by decide +kernel
theorem dL_refuses_1109 : decode cL_refuses 1109 = .ok (.if_icmp .ne 52, 3) := by decide +kernel
theorem dL_refuses_1112 : decode cL_refuses 1112 = .ok (.aload_n 0, 1) := by decide +kernel
theorem dL_refuses_1113 : decode cL_refuses 1113 = .ok (.iconst 0, 1) := by decide +kernel
theorem dL_refuses_1114 : decode cL_refuses 1114 = .ok (.lconst 0, 1) := by decide +kernel
theorem dL_refuses_1115 : decode cL_refuses 1115 = .ok (.invokestatic 199, 3) := by decide +kernel
theorem dL_refuses_1118 : decode cL_refuses 1118 = .ok (.ldc 15, 2) := by decide +kernel
theorem dL_refuses_1120 : decode cL_refuses 1120 = .ok (.if_icmp .ne 41, 3) := by decide +kernel
theorem dL_refuses_1123 : decode cL_refuses 1123 = .ok (.aload_n 0, 1) := by decide +kernel
theorem dL_refuses_1124 : decode cL_refuses 1124 = .ok (.iconst 1, 1) := by decide +kernel
theorem dL_refuses_1125 : decode cL_refuses 1125 = .ok (.ldc2_w 203, 3) := by decide +kernel
theorem dL_refuses_1128 : decode cL_refuses 1128 = .ok (.iload_n 1, 1) := by decide +kernel
theorem dL_refuses_1129 : decode cL_refuses 1129 = .ok (.i2l, 1) := by decide +kernel
theorem dL_refuses_1130 : decode cL_refuses 1130 = .ok (.ladd, 1) := by decide +kernel
theorem dL_refuses_1131 : decode cL_refuses 1131 = .ok (.invokestatic 199, 3) := by decide +kernel
theorem dL_refuses_1134 : decode cL_refuses 1134 = .ok (.ldc 15, 2) := by decide +kernel
