theorem dX5_init_0 : decode cX5_init 0 = .ok (.aload_n 0, 1) := by decide +kernel
theorem dX5_init_1 : decode cX5_init 1 = .ok (.invokespecial 1, 3) := by decide +kernel
theorem dX5_init_4 : decode cX5_init 4 = .ok (.aload_n 0, 1) := by decide +kernel
theorem dX5_init_5 : decode cX5_init 5 = .ok (.bipush 120, 2) := by decide +kernel
theorem dX5_init_7 : decode cX5_init 7 = .ok (.newarray .int, 2) := by decide +kernel
theorem dX5_init_9 : decode cX5_init 9 = .ok (.putfield 7, 3) := by decide +kernel
theorem dX5_init_12 : decode cX5_init 12 = .ok (.aload_n 0, 1) := by decide +kernel
theorem dX5_init_13 : decode cX5_init 13 = .ok (.sipush 134, 3) := by decide +kernel
theorem dX5_init_16 : decode cX5_init 16 = .ok (.newarray .int, 2) := by decide +kernel
theorem dX5_init_18 : decode cX5_init 18 = .ok (.putfield 13, 3) := by decide +kernel
theorem dX5_init_21 : decode cX5_init 21 = .ok (.aload_n 0, 1) := by decide +kernel
theorem dX5_init_22 : decode cX5_init 22 = .ok (.sipush 134, 3) := by decide +kernel
theorem dX5_init_25 : decode cX5_init 25 = .ok (.newarray .int, 2) := by decide +kernel
theorem dX5_init_27 : decode cX5_init 27 = .ok (.putfield 16, 3) := by decide +kernel
theorem dX5_init_30 : decode cX5_init 30 = .ok (.aload_n 0, 1) := by decide +kernel
theorem dX5_init_31 : decode cX5_init 31 = .ok (.sipush 1876, 3) := by decide +kernel
theorem dX5_init_34 : decode cX5_init 34 = .ok (.newarray .int, 2) := by decide +kernel
theorem dX5_init_36 : decode cX5_init 36 = .ok (.putfield 19, 3) := by decide +kernel
theorem dX5_init_39 : decode cX5_init 39 = .ok (.aload_n 0, 1) := by decide +kernel
theorem dX5_init_40 : decode cX5_init 40 = .ok (.sipush 268, 3) := by decide +kernel
theorem dX5_init_43 : decode cX5_init 43 = .ok (.newarray .int, 2) := by decide +kernel
theorem dX5_init_45 : decode cX5_init 45 = .ok (.putfield 22, 3) := by decide +kernel
theorem dX5_init_48 : decode cX5_init 48 = .ok (.aload_n 0, 1) := by decide +kernel
theorem dX5_init_49 : decode cX5_init 49 = .ok (.iconst 2, 1) := by decide +kernel
theorem dX5_init_50 : decode cX5_init 50 = .ok (.newarray .boolean, 2) := by decide +kernel
theorem dX5_init_52 : decode cX5_init 52 = .ok (.putfield 25, 3) := by decide +kernel
theorem dX5_init_55 : decode cX5_init 55 = .ok (.aload_n 0, 1) := by decide +kernel
theorem dX5_init_56 : decode cX5_init 56 = .ok (.getfield 13, 3) := by decide +kernel
theorem dX5_init_59 : decode cX5_init 59 = .ok (.invokestatic 29, 3) := by decide +kernel
theorem dX5_init_62 : decode cX5_init 62 = .ok (.return_, 1) := by decide +kernel
theorem dX5_thrown_0 : decode cX5_thrown 0 = .ok (.aload_n 0, 1) := by decide +kernel
theorem dX5_thrown_1 : decode cX5_thrown 1 = .ok (.getfield 33, 3) := by decide +kernel
theorem dX5_thrown_4 : decode cX5_thrown 4 = .ok (.ireturn, 1) := by decide +kernel
theorem dX5_refused_0 : decode cX5_refused 0 = .ok (.aload_n 0, 1) := by decide +kernel
theorem dX5_refused_1 : decode cX5_refused 1 = .ok (.iload_n 1, 1) := by decide +kernel
theorem dX5_refused_2 : decode cX5_refused 2 = .ok (.putfield 33, 3) := by decide +kernel
theorem dX5_refused_5 : decode cX5_refused 5 = .ok (.iload_n 1, 1) := by decide +kernel
theorem dX5_refused_6 : decode cX5_refused 6 = .ok (.ifCond .le 7, 3) := by decide +kernel
theorem dX5_refused_9 : decode cX5_refused 9 = .ok (.iconst 1, 1) := by decide +kernel
theorem dX5_refused_10 : decode cX5_refused 10 = .ok (.goto 4, 3) := by decide +kernel
theorem dX5_refused_13 : decode cX5_refused 13 = .ok (.iconst 0, 1) := by decide +kernel
theorem dX5_refused_14 : decode cX5_refused 14 = .ok (.ireturn, 1) := by decide +kernel
theorem dX5_in_0 : decode cX5_in 0 = .ok (.lload_n 0, 1) := by decide +kernel
theorem dX5_in_1 : decode cX5_in 1 = .ok (.lload_n 2, 1) := by decide +kernel
theorem dX5_in_2 : decode cX5_in 2 = .ok (.lcmp, 1) := by decide +kernel
theorem dX5_in_3 : decode cX5_in 3 = .ok (.ifCond .lt 14, 3) := by decide +kernel
theorem dX5_in_6 : decode cX5_in 6 = .ok (.lload_n 0, 1) := by decide +kernel
theorem dX5_in_7 : decode cX5_in 7 = .ok (.lload 4, 2) := by decide +kernel
theorem dX5_in_9 : decode cX5_in 9 = .ok (.lcmp, 1) := by decide +kernel
theorem dX5_in_10 : decode cX5_in 10 = .ok (.ifCond .gt 7, 3) := by decide +kernel
theorem dX5_in_13 : decode cX5_in 13 = .ok (.iconst 1, 1) := by decide +kernel
theorem dX5_in_14 : decode cX5_in 14 = .ok (.goto 4, 3) := by decide +kernel
theorem dX5_in_17 : decode cX5_in 17 = .ok (.iconst 0, 1) := by decide +kernel
theorem dX5_in_18 : decode cX5_in 18 = .ok (.ireturn, 1) := by decide +kernel
theorem dX5_copyState_0 : decode cX5_copyState 0 = .ok (.iconst 0, 1) := by decide +kernel
theorem dX5_copyState_1 : decode cX5_copyState 1 = .ok (.istore 4, 2) := by decide +kernel
theorem dX5_copyState_3 : decode cX5_copyState 3 = .ok (.iload 4, 2) := by decide +kernel
theorem dX5_copyState_5 : decode cX5_copyState 5 = .ok (.sipush 134, 3) := by decide +kernel
theorem dX5_copyState_8 : decode cX5_copyState 8 = .ok (.if_icmp .ge 21, 3) := by decide +kernel
theorem dX5_copyState_11 : decode cX5_copyState 11 = .ok (.aload_n 2, 1) := by decide +kernel
theorem dX5_copyState_12 : decode cX5_copyState 12 = .ok (.iload_n 3, 1) := by decide +kernel
theorem dX5_copyState_13 : decode cX5_copyState 13 = .ok (.iload 4, 2) := by decide +kernel
theorem dX5_copyState_15 : decode cX5_copyState 15 = .ok (.iadd, 1) := by decide +kernel
theorem dX5_copyState_16 : decode cX5_copyState 16 = .ok (.aload_n 0, 1) := by decide +kernel
theorem dX5_copyState_17 : decode cX5_copyState 17 = .ok (.iload_n 1, 1) := by decide +kernel
theorem dX5_copyState_18 : decode cX5_copyState 18 = .ok (.iload 4, 2) := by decide +kernel
theorem dX5_copyState_20 : decode cX5_copyState 20 = .ok (.iadd, 1) := by decide +kernel
theorem dX5_copyState_21 : decode cX5_copyState 21 = .ok (.iaload, 1) := by decide +kernel
theorem dX5_copyState_22 : decode cX5_copyState 22 = .ok (.iastore, 1) := by decide +kernel
theorem dX5_copyState_23 : decode cX5_copyState 23 = .ok (.iinc 4 1, 3) := by decide +kernel
theorem dX5_copyState_26 : decode cX5_copyState 26 = .ok (.goto (-23), 3) := by decide +kernel
theorem dX5_copyState_29 : decode cX5_copyState 29 = .ok (.return_, 1) := by decide +kernel
theorem dX5_clear_0 : decode cX5_clear 0 = .ok (.iconst 0, 1) := by decide +kernel
theorem dX5_clear_1 : decode cX5_clear 1 = .ok (.istore_n 1, 1) := by decide +kernel
theorem dX5_clear_2 : decode cX5_clear 2 = .ok (.iload_n 1, 1) := by decide +kernel
theorem dX5_clear_3 : decode cX5_clear 3 = .ok (.sipush 134, 3) := by decide +kernel
theorem dX5_clear_6 : decode cX5_clear 6 = .ok (.if_icmp .ge 13, 3) := by decide +kernel
theorem dX5_clear_9 : decode cX5_clear 9 = .ok (.aload_n 0, 1) := by decide +kernel
theorem dX5_clear_10 : decode cX5_clear 10 = .ok (.iload_n 1, 1) := by decide +kernel
theorem dX5_clear_11 : decode cX5_clear 11 = .ok (.iconst 0, 1) := by decide +kernel
theorem dX5_clear_12 : decode cX5_clear 12 = .ok (.iastore, 1) := by decide +kernel
theorem dX5_clear_13 : decode cX5_clear 13 = .ok (.iinc 1 1, 3) := by decide +kernel
theorem dX5_clear_16 : decode cX5_clear 16 = .ok (.goto (-14), 3) := by decide +kernel
theorem dX5_clear_19 : decode cX5_clear 19 = .ok (.aload_n 0, 1) := by decide +kernel
theorem dX5_clear_20 : decode cX5_clear 20 = .ok (.iconst 1, 1) := by decide +kernel
theorem dX5_clear_21 : decode cX5_clear 21 = .ok (.iconst 1, 1) := by decide +kernel
theorem dX5_clear_22 : decode cX5_clear 22 = .ok (.iastore, 1) := by decide +kernel
theorem dX5_clear_23 : decode cX5_clear 23 = .ok (.aload_n 0, 1) := by decide +kernel
theorem dX5_clear_24 : decode cX5_clear 24 = .ok (.bipush 10, 2) := by decide +kernel
theorem dX5_clear_26 : decode cX5_clear 26 = .ok (.iconst 5, 1) := by decide +kernel
theorem dX5_clear_27 : decode cX5_clear 27 = .ok (.iastore, 1) := by decide +kernel
theorem dX5_clear_28 : decode cX5_clear 28 = .ok (.aload_n 0, 1) := by decide +kernel
theorem dX5_clear_29 : decode cX5_clear 29 = .ok (.bipush 11, 2) := by decide +kernel
theorem dX5_clear_31 : decode cX5_clear 31 = .ok (.bipush 60, 2) := by decide +kernel
theorem dX5_clear_33 : decode cX5_clear 33 = .ok (.iastore, 1) := by decide +kernel
theorem dX5_clear_34 : decode cX5_clear 34 = .ok (.iconst 0, 1) := by decide +kernel
theorem dX5_clear_35 : decode cX5_clear 35 = .ok (.istore_n 1, 1) := by decide +kernel
theorem dX5_clear_36 : decode cX5_clear 36 = .ok (.iload_n 1, 1) := by decide +kernel
theorem dX5_clear_37 : decode cX5_clear 37 = .ok (.iconst 4, 1) := by decide +kernel
theorem dX5_clear_38 : decode cX5_clear 38 = .ok (.if_icmp .ge 56, 3) := by decide +kernel
theorem dX5_clear_41 : decode cX5_clear 41 = .ok (.aload_n 0, 1) := by decide +kernel
theorem dX5_clear_42 : decode cX5_clear 42 = .ok (.bipush 28, 2) := by decide +kernel
theorem dX5_clear_44 : decode cX5_clear 44 = .ok (.iconst 4, 1) := by decide +kernel
theorem dX5_clear_45 : decode cX5_clear 45 = .ok (.iload_n 1, 1) := by decide +kernel
theorem dX5_clear_46 : decode cX5_clear 46 = .ok (.imul, 1) := by decide +kernel
theorem dX5_clear_47 : decode cX5_clear 47 = .ok (.iadd, 1) := by decide +kernel
theorem dX5_clear_48 : decode cX5_clear 48 = .ok (.sipush 400, 3) := by decide +kernel
theorem dX5_clear_51 : decode cX5_clear 51 = .ok (.iastore, 1) := by decide +kernel
theorem dX5_clear_52 : decode cX5_clear 52 = .ok (.aload_n 0, 1) := by decide +kernel
theorem dX5_clear_53 : decode cX5_clear 53 = .ok (.bipush 28, 2) := by decide +kernel
theorem dX5_clear_55 : decode cX5_clear 55 = .ok (.iconst 4, 1) := by decide +kernel
theorem dX5_clear_56 : decode cX5_clear 56 = .ok (.iload_n 1, 1) := by decide +kernel
theorem dX5_clear_57 : decode cX5_clear 57 = .ok (.imul, 1) := by decide +kernel
theorem dX5_clear_58 : decode cX5_clear 58 = .ok (.iadd, 1) := by decide +kernel
theorem dX5_clear_59 : decode cX5_clear 59 = .ok (.iconst 1, 1) := by decide +kernel
theorem dX5_clear_60 : decode cX5_clear 60 = .ok (.iadd, 1) := by decide +kernel
theorem dX5_clear_61 : decode cX5_clear 61 = .ok (.sipush 500, 3) := by decide +kernel
theorem dX5_clear_64 : decode cX5_clear 64 = .ok (.iastore, 1) := by decide +kernel
theorem dX5_clear_65 : decode cX5_clear 65 = .ok (.aload_n 0, 1) := by decide +kernel
theorem dX5_clear_66 : decode cX5_clear 66 = .ok (.bipush 28, 2) := by decide +kernel
theorem dX5_clear_68 : decode cX5_clear 68 = .ok (.iconst 4, 1) := by decide +kernel
theorem dX5_clear_69 : decode cX5_clear 69 = .ok (.iload_n 1, 1) := by decide +kernel
theorem dX5_clear_70 : decode cX5_clear 70 = .ok (.imul, 1) := by decide +kernel
theorem dX5_clear_71 : decode cX5_clear 71 = .ok (.iadd, 1) := by decide +kernel
theorem dX5_clear_72 : decode cX5_clear 72 = .ok (.iconst 2, 1) := by decide +kernel
theorem dX5_clear_73 : decode cX5_clear 73 = .ok (.iadd, 1) := by decide +kernel
theorem dX5_clear_74 : decode cX5_clear 74 = .ok (.iconst 4, 1) := by decide +kernel
theorem dX5_clear_75 : decode cX5_clear 75 = .ok (.iastore, 1) := by decide +kernel
theorem dX5_clear_76 : decode cX5_clear 76 = .ok (.aload_n 0, 1) := by decide +kernel
theorem dX5_clear_77 : decode cX5_clear 77 = .ok (.bipush 28, 2) := by decide +kernel
theorem dX5_clear_79 : decode cX5_clear 79 = .ok (.iconst 4, 1) := by decide +kernel
theorem dX5_clear_80 : decode cX5_clear 80 = .ok (.iload_n 1, 1) := by decide +kernel
theorem dX5_clear_81 : decode cX5_clear 81 = .ok (.imul, 1) := by decide +kernel
theorem dX5_clear_82 : decode cX5_clear 82 = .ok (.iadd, 1) := by decide +kernel
theorem dX5_clear_83 : decode cX5_clear 83 = .ok (.iconst 3, 1) := by decide +kernel
theorem dX5_clear_84 : decode cX5_clear 84 = .ok (.iadd, 1) := by decide +kernel
theorem dX5_clear_85 : decode cX5_clear 85 = .ok (.bipush 12, 2) := by decide +kernel
theorem dX5_clear_87 : decode cX5_clear 87 = .ok (.iastore, 1) := by decide +kernel
theorem dX5_clear_88 : decode cX5_clear 88 = .ok (.iinc 1 1, 3) := by decide +kernel
theorem dX5_clear_91 : decode cX5_clear 91 = .ok (.goto (-55), 3) := by decide +kernel
theorem dX5_clear_94 : decode cX5_clear 94 = .ok (.return_, 1) := by decide +kernel
theorem dX5_of_0 : decode cX5_of 0 = .ok (.aload_n 0, 1) := by decide +kernel
theorem dX5_of_1 : decode cX5_of 1 = .ok (.bipush 44, 2) := by decide +kernel
theorem dX5_of_3 : decode cX5_of 3 = .ok (.bipush 9, 2) := by decide +kernel
theorem dX5_of_5 : decode cX5_of 5 = .ok (.iload_n 1, 1) := by decide +kernel
theorem dX5_of_6 : decode cX5_of 6 = .ok (.imul, 1) := by decide +kernel
theorem dX5_of_7 : decode cX5_of 7 = .ok (.iadd, 1) := by decide +kernel
theorem dX5_of_8 : decode cX5_of 8 = .ok (.iload_n 2, 1) := by decide +kernel
theorem dX5_of_9 : decode cX5_of 9 = .ok (.iadd, 1) := by decide +kernel
theorem dX5_of_10 : decode cX5_of 10 = .ok (.iaload, 1) := by decide +kernel
theorem dX5_of_11 : decode cX5_of 11 = .ok (.ireturn, 1) := by decide +kernel
theorem dX5_lay_0 : decode cX5_lay 0 = .ok (.aload_n 0, 1) := by decide +kernel
theorem dX5_lay_1 : decode cX5_lay 1 = .ok (.bipush 44, 2) := by decide +kernel
theorem dX5_lay_3 : decode cX5_lay 3 = .ok (.bipush 9, 2) := by decide +kernel
theorem dX5_lay_5 : decode cX5_lay 5 = .ok (.iload_n 1, 1) := by decide +kernel
theorem dX5_lay_6 : decode cX5_lay 6 = .ok (.imul, 1) := by decide +kernel
theorem dX5_lay_7 : decode cX5_lay 7 = .ok (.iadd, 1) := by decide +kernel
theorem dX5_lay_8 : decode cX5_lay 8 = .ok (.iload_n 2, 1) := by decide +kernel
theorem dX5_lay_9 : decode cX5_lay 9 = .ok (.iadd, 1) := by decide +kernel
theorem dX5_lay_10 : decode cX5_lay 10 = .ok (.iload_n 3, 1) := by decide +kernel
theorem dX5_lay_11 : decode cX5_lay 11 = .ok (.iastore, 1) := by decide +kernel
theorem dX5_lay_12 : decode cX5_lay 12 = .ok (.return_, 1) := by decide +kernel
theorem dX5_isChair_0 : decode cX5_isChair 0 = .ok (.iload_n 1, 1) := by decide +kernel
theorem dX5_isChair_1 : decode cX5_isChair 1 = .ok (.i2l, 1) := by decide +kernel
theorem dX5_isChair_2 : decode cX5_isChair 2 = .ok (.lconst 0, 1) := by decide +kernel
theorem dX5_isChair_3 : decode cX5_isChair 3 = .ok (.aload_n 0, 1) := by decide +kernel
theorem dX5_isChair_4 : decode cX5_isChair 4 = .ok (.iconst 0, 1) := by decide +kernel
theorem dX5_isChair_5 : decode cX5_isChair 5 = .ok (.iaload, 1) := by decide +kernel
theorem dX5_isChair_6 : decode cX5_isChair 6 = .ok (.iconst 1, 1) := by decide +kernel
theorem dX5_isChair_7 : decode cX5_isChair 7 = .ok (.isub, 1) := by decide +kernel
theorem dX5_isChair_8 : decode cX5_isChair 8 = .ok (.i2l, 1) := by decide +kernel
theorem dX5_isChair_9 : decode cX5_isChair 9 = .ok (.invokestatic 37, 3) := by decide +kernel
theorem dX5_isChair_12 : decode cX5_isChair 12 = .ok (.ireturn, 1) := by decide +kernel
theorem dX5_isFloor_0 : decode cX5_isFloor 0 = .ok (.iload_n 1, 1) := by decide +kernel
theorem dX5_isFloor_1 : decode cX5_isFloor 1 = .ok (.i2l, 1) := by decide +kernel
theorem dX5_isFloor_2 : decode cX5_isFloor 2 = .ok (.lconst 0, 1) := by decide +kernel
theorem dX5_isFloor_3 : decode cX5_isFloor 3 = .ok (.aload_n 0, 1) := by decide +kernel
theorem dX5_isFloor_4 : decode cX5_isFloor 4 = .ok (.iconst 1, 1) := by decide +kernel
theorem dX5_isFloor_5 : decode cX5_isFloor 5 = .ok (.iaload, 1) := by decide +kernel
theorem dX5_isFloor_6 : decode cX5_isFloor 6 = .ok (.iconst 1, 1) := by decide +kernel
theorem dX5_isFloor_7 : decode cX5_isFloor 7 = .ok (.isub, 1) := by decide +kernel
theorem dX5_isFloor_8 : decode cX5_isFloor 8 = .ok (.i2l, 1) := by decide +kernel
theorem dX5_isFloor_9 : decode cX5_isFloor 9 = .ok (.invokestatic 37, 3) := by decide +kernel
theorem dX5_isFloor_12 : decode cX5_isFloor 12 = .ok (.ireturn, 1) := by decide +kernel
theorem dX5_isFour_0 : decode cX5_isFour 0 = .ok (.iload_n 0, 1) := by decide +kernel
theorem dX5_isFour_1 : decode cX5_isFour 1 = .ok (.i2l, 1) := by decide +kernel
theorem dX5_isFour_2 : decode cX5_isFour 2 = .ok (.lconst 0, 1) := by decide +kernel
theorem dX5_isFour_3 : decode cX5_isFour 3 = .ok (.ldc2_w 41, 3) := by decide +kernel
theorem dX5_isFour_6 : decode cX5_isFour 6 = .ok (.invokestatic 37, 3) := by decide +kernel
theorem dX5_isFour_9 : decode cX5_isFour 9 = .ok (.ireturn, 1) := by decide +kernel
theorem dX5_isBound_0 : decode cX5_isBound 0 = .ok (.iload_n 0, 1) := by decide +kernel
theorem dX5_isBound_1 : decode cX5_isBound 1 = .ok (.iconst 2, 1) := by decide +kernel
theorem dX5_isBound_2 : decode cX5_isBound 2 = .ok (.if_icmp .ge 17, 3) := by decide +kernel
theorem dX5_isBound_5 : decode cX5_isBound 5 = .ok (.iload_n 1, 1) := by decide +kernel
theorem dX5_isBound_6 : decode cX5_isBound 6 = .ok (.i2l, 1) := by decide +kernel
theorem dX5_isBound_7 : decode cX5_isBound 7 = .ok (.ldc2_w 43, 3) := by decide +kernel
theorem dX5_isBound_10 : decode cX5_isBound 10 = .ok (.ldc2_w 45, 3) := by decide +kernel
theorem dX5_isBound_13 : decode cX5_isBound 13 = .ok (.invokestatic 37, 3) := by decide +kernel
theorem dX5_isBound_16 : decode cX5_isBound 16 = .ok (.goto 29, 3) := by decide +kernel
theorem dX5_isBound_19 : decode cX5_isBound 19 = .ok (.iload_n 0, 1) := by decide +kernel
theorem dX5_isBound_20 : decode cX5_isBound 20 = .ok (.iconst 2, 1) := by decide +kernel
theorem dX5_isBound_21 : decode cX5_isBound 21 = .ok (.if_icmp .ne 15, 3) := by decide +kernel
theorem dX5_isBound_24 : decode cX5_isBound 24 = .ok (.iload_n 1, 1) := by decide +kernel
theorem dX5_isBound_25 : decode cX5_isBound 25 = .ok (.i2l, 1) := by decide +kernel
theorem dX5_isBound_26 : decode cX5_isBound 26 = .ok (.lconst 0, 1) := by decide +kernel
theorem dX5_isBound_27 : decode cX5_isBound 27 = .ok (.ldc2_w 43, 3) := by decide +kernel
theorem dX5_isBound_30 : decode cX5_isBound 30 = .ok (.invokestatic 37, 3) := by decide +kernel
theorem dX5_isBound_33 : decode cX5_isBound 33 = .ok (.goto 12, 3) := by decide +kernel
theorem dX5_isBound_36 : decode cX5_isBound 36 = .ok (.iload_n 1, 1) := by decide +kernel
theorem dX5_isBound_37 : decode cX5_isBound 37 = .ok (.i2l, 1) := by decide +kernel
theorem dX5_isBound_38 : decode cX5_isBound 38 = .ok (.lconst 0, 1) := by decide +kernel
theorem dX5_isBound_39 : decode cX5_isBound 39 = .ok (.ldc2_w 47, 3) := by decide +kernel
theorem dX5_isBound_42 : decode cX5_isBound 42 = .ok (.invokestatic 37, 3) := by decide +kernel
theorem dX5_isBound_45 : decode cX5_isBound 45 = .ok (.ireturn, 1) := by decide +kernel
theorem dX5_isSetting_0 : decode cX5_isSetting 0 = .ok (.iload_n 0, 1) := by decide +kernel
theorem dX5_isSetting_1 : decode cX5_isSetting 1 = .ok (.ifCond .ne 15, 3) := by decide +kernel
theorem dX5_isSetting_4 : decode cX5_isSetting 4 = .ok (.iload_n 1, 1) := by decide +kernel
theorem dX5_isSetting_5 : decode cX5_isSetting 5 = .ok (.i2l, 1) := by decide +kernel
theorem dX5_isSetting_6 : decode cX5_isSetting 6 = .ok (.lconst 0, 1) := by decide +kernel
theorem dX5_isSetting_7 : decode cX5_isSetting 7 = .ok (.ldc2_w 49, 3) := by decide +kernel
theorem dX5_isSetting_10 : decode cX5_isSetting 10 = .ok (.invokestatic 37, 3) := by decide +kernel
theorem dX5_isSetting_13 : decode cX5_isSetting 13 = .ok (.ifCond .ne 20, 3) := by decide +kernel
theorem dX5_isSetting_16 : decode cX5_isSetting 16 = .ok (.iload_n 0, 1) := by decide +kernel
theorem dX5_isSetting_17 : decode cX5_isSetting 17 = .ok (.iconst 1, 1) := by decide +kernel
theorem dX5_isSetting_18 : decode cX5_isSetting 18 = .ok (.if_icmp .ne 19, 3) := by decide +kernel
theorem dX5_isSetting_21 : decode cX5_isSetting 21 = .ok (.iload_n 1, 1) := by decide +kernel
theorem dX5_isSetting_22 : decode cX5_isSetting 22 = .ok (.i2l, 1) := by decide +kernel
theorem dX5_isSetting_23 : decode cX5_isSetting 23 = .ok (.lconst 1, 1) := by decide +kernel
theorem dX5_isSetting_24 : decode cX5_isSetting 24 = .ok (.ldc2_w 47, 3) := by decide +kernel
theorem dX5_isSetting_27 : decode cX5_isSetting 27 = .ok (.invokestatic 37, 3) := by decide +kernel
theorem dX5_isSetting_30 : decode cX5_isSetting 30 = .ok (.ifCond .eq 7, 3) := by decide +kernel
theorem dX5_isSetting_33 : decode cX5_isSetting 33 = .ok (.iconst 1, 1) := by decide +kernel
theorem dX5_isSetting_34 : decode cX5_isSetting 34 = .ok (.goto 4, 3) := by decide +kernel
theorem dX5_isSetting_37 : decode cX5_isSetting 37 = .ok (.iconst 0, 1) := by decide +kernel
theorem dX5_isSetting_38 : decode cX5_isSetting 38 = .ok (.ireturn, 1) := by decide +kernel
theorem dX5_without_0 : decode cX5_without 0 = .ok (.iload_n 0, 1) := by decide +kernel
theorem dX5_without_1 : decode cX5_without 1 = .ok (.ifCond .ge 8, 3) := by decide +kernel
theorem dX5_without_4 : decode cX5_without 4 = .ok (.iload_n 0, 1) := by decide +kernel
theorem dX5_without_5 : decode cX5_without 5 = .ok (.ineg, 1) := by decide +kernel
theorem dX5_without_6 : decode cX5_without 6 = .ok (.goto 4, 3) := by decide +kernel
theorem dX5_without_9 : decode cX5_without 9 = .ok (.iload_n 0, 1) := by decide +kernel
theorem dX5_without_10 : decode cX5_without 10 = .ok (.ireturn, 1) := by decide +kernel
theorem dX5_spotOf_0 : decode cX5_spotOf 0 = .ok (.iload_n 2, 1) := by decide +kernel
theorem dX5_spotOf_1 : decode cX5_spotOf 1 = .ok (.aload_n 0, 1) := by decide +kernel
theorem dX5_spotOf_2 : decode cX5_spotOf 2 = .ok (.iload_n 1, 1) := by decide +kernel
theorem dX5_spotOf_3 : decode cX5_spotOf 3 = .ok (.iconst 2, 1) := by decide +kernel
theorem dX5_spotOf_4 : decode cX5_spotOf 4 = .ok (.invokestatic 51, 3) := by decide +kernel
theorem dX5_spotOf_7 : decode cX5_spotOf 7 = .ok (.iadd, 1) := by decide +kernel
theorem dX5_spotOf_8 : decode cX5_spotOf 8 = .ok (.iconst 4, 1) := by decide +kernel
theorem dX5_spotOf_9 : decode cX5_spotOf 9 = .ok (.irem, 1) := by decide +kernel
theorem dX5_spotOf_10 : decode cX5_spotOf 10 = .ok (.ireturn, 1) := by decide +kernel
theorem dX5_reach_0 : decode cX5_reach 0 = .ok (.aload_n 0, 1) := by decide +kernel
theorem dX5_reach_1 : decode cX5_reach 1 = .ok (.iload_n 1, 1) := by decide +kernel
theorem dX5_reach_2 : decode cX5_reach 2 = .ok (.iconst 5, 1) := by decide +kernel
theorem dX5_reach_3 : decode cX5_reach 3 = .ok (.iload_n 2, 1) := by decide +kernel
theorem dX5_reach_4 : decode cX5_reach 4 = .ok (.iadd, 1) := by decide +kernel
theorem dX5_reach_5 : decode cX5_reach 5 = .ok (.invokestatic 51, 3) := by decide +kernel
theorem dX5_reach_8 : decode cX5_reach 8 = .ok (.aload_n 0, 1) := by decide +kernel
theorem dX5_reach_9 : decode cX5_reach 9 = .ok (.bipush 12, 2) := by decide +kernel
theorem dX5_reach_11 : decode cX5_reach 11 = .ok (.iconst 4, 1) := by decide +kernel
theorem dX5_reach_12 : decode cX5_reach 12 = .ok (.aload_n 0, 1) := by decide +kernel
theorem dX5_reach_13 : decode cX5_reach 13 = .ok (.iload_n 1, 1) := by decide +kernel
theorem dX5_reach_14 : decode cX5_reach 14 = .ok (.iconst 1, 1) := by decide +kernel
theorem dX5_reach_15 : decode cX5_reach 15 = .ok (.invokestatic 51, 3) := by decide +kernel
theorem dX5_reach_18 : decode cX5_reach 18 = .ok (.imul, 1) := by decide +kernel
theorem dX5_reach_19 : decode cX5_reach 19 = .ok (.iadd, 1) := by decide +kernel
theorem dX5_reach_20 : decode cX5_reach 20 = .ok (.aload_n 0, 1) := by decide +kernel
theorem dX5_reach_21 : decode cX5_reach 21 = .ok (.iload_n 1, 1) := by decide +kernel
theorem dX5_reach_22 : decode cX5_reach 22 = .ok (.iload_n 2, 1) := by decide +kernel
theorem dX5_reach_23 : decode cX5_reach 23 = .ok (.invokestatic 55, 3) := by decide +kernel
theorem dX5_reach_26 : decode cX5_reach 26 = .ok (.iadd, 1) := by decide +kernel
theorem dX5_reach_27 : decode cX5_reach 27 = .ok (.iaload, 1) := by decide +kernel
theorem dX5_reach_28 : decode cX5_reach 28 = .ok (.isub, 1) := by decide +kernel
theorem dX5_reach_29 : decode cX5_reach 29 = .ok (.ireturn, 1) := by decide +kernel
theorem dX5_tilt_0 : decode cX5_tilt 0 = .ok (.aload_n 0, 1) := by decide +kernel
theorem dX5_tilt_1 : decode cX5_tilt 1 = .ok (.iload_n 1, 1) := by decide +kernel
theorem dX5_tilt_2 : decode cX5_tilt 2 = .ok (.iconst 0, 1) := by decide +kernel
theorem dX5_tilt_3 : decode cX5_tilt 3 = .ok (.invokestatic 58, 3) := by decide +kernel
theorem dX5_tilt_6 : decode cX5_tilt 6 = .ok (.aload_n 0, 1) := by decide +kernel
theorem dX5_tilt_7 : decode cX5_tilt 7 = .ok (.iload_n 1, 1) := by decide +kernel
theorem dX5_tilt_8 : decode cX5_tilt 8 = .ok (.iconst 2, 1) := by decide +kernel
theorem dX5_tilt_9 : decode cX5_tilt 9 = .ok (.invokestatic 58, 3) := by decide +kernel
theorem dX5_tilt_12 : decode cX5_tilt 12 = .ok (.iadd, 1) := by decide +kernel
theorem dX5_tilt_13 : decode cX5_tilt 13 = .ok (.aload_n 0, 1) := by decide +kernel
theorem dX5_tilt_14 : decode cX5_tilt 14 = .ok (.iload_n 1, 1) := by decide +kernel
theorem dX5_tilt_15 : decode cX5_tilt 15 = .ok (.iconst 1, 1) := by decide +kernel
theorem dX5_tilt_16 : decode cX5_tilt 16 = .ok (.invokestatic 58, 3) := by decide +kernel
theorem dX5_tilt_19 : decode cX5_tilt 19 = .ok (.isub, 1) := by decide +kernel
theorem dX5_tilt_20 : decode cX5_tilt 20 = .ok (.aload_n 0, 1) := by decide +kernel
theorem dX5_tilt_21 : decode cX5_tilt 21 = .ok (.iload_n 1, 1) := by decide +kernel
theorem dX5_tilt_22 : decode cX5_tilt 22 = .ok (.iconst 3, 1) := by decide +kernel
theorem dX5_tilt_23 : decode cX5_tilt 23 = .ok (.invokestatic 58, 3) := by decide +kernel
theorem dX5_tilt_26 : decode cX5_tilt 26 = .ok (.isub, 1) := by decide +kernel
theorem dX5_tilt_27 : decode cX5_tilt 27 = .ok (.ireturn, 1) := by decide +kernel
theorem dX5_wobbleOf_0 : decode cX5_wobbleOf 0 = .ok (.aload_n 0, 1) := by decide +kernel
theorem dX5_wobbleOf_1 : decode cX5_wobbleOf 1 = .ok (.iload_n 1, 1) := by decide +kernel
theorem dX5_wobbleOf_2 : decode cX5_wobbleOf 2 = .ok (.invokestatic 61, 3) := by decide +kernel
theorem dX5_wobbleOf_5 : decode cX5_wobbleOf 5 = .ok (.invokestatic 65, 3) := by decide +kernel
theorem dX5_wobbleOf_8 : decode cX5_wobbleOf 8 = .ok (.ireturn, 1) := by decide +kernel
theorem dX5_leanOf_0 : decode cX5_leanOf 0 = .ok (.aload_n 0, 1) := by decide +kernel
theorem dX5_leanOf_1 : decode cX5_leanOf 1 = .ok (.iload_n 1, 1) := by decide +kernel
theorem dX5_leanOf_2 : decode cX5_leanOf 2 = .ok (.iconst 0, 1) := by decide +kernel
theorem dX5_leanOf_3 : decode cX5_leanOf 3 = .ok (.invokestatic 58, 3) := by decide +kernel
theorem dX5_leanOf_6 : decode cX5_leanOf 6 = .ok (.istore_n 2, 1) := by decide +kernel
theorem dX5_leanOf_7 : decode cX5_leanOf 7 = .ok (.iload_n 2, 1) := by decide +kernel
theorem dX5_leanOf_8 : decode cX5_leanOf 8 = .ok (.istore_n 3, 1) := by decide +kernel
theorem dX5_leanOf_9 : decode cX5_leanOf 9 = .ok (.iconst 1, 1) := by decide +kernel
theorem dX5_leanOf_10 : decode cX5_leanOf 10 = .ok (.istore 4, 2) := by decide +kernel
theorem dX5_leanOf_12 : decode cX5_leanOf 12 = .ok (.iload 4, 2) := by decide +kernel
theorem dX5_leanOf_14 : decode cX5_leanOf 14 = .ok (.iconst 4, 1) := by decide +kernel
theorem dX5_leanOf_15 : decode cX5_leanOf 15 = .ok (.if_icmp .ge 44, 3) := by decide +kernel
theorem dX5_leanOf_18 : decode cX5_leanOf 18 = .ok (.aload_n 0, 1) := by decide +kernel
theorem dX5_leanOf_19 : decode cX5_leanOf 19 = .ok (.iload_n 1, 1) := by decide +kernel
theorem dX5_leanOf_20 : decode cX5_leanOf 20 = .ok (.iload 4, 2) := by decide +kernel
theorem dX5_leanOf_22 : decode cX5_leanOf 22 = .ok (.invokestatic 58, 3) := by decide +kernel
theorem dX5_leanOf_25 : decode cX5_leanOf 25 = .ok (.istore 5, 2) := by decide +kernel
theorem dX5_leanOf_27 : decode cX5_leanOf 27 = .ok (.iload 5, 2) := by decide +kernel
theorem dX5_leanOf_29 : decode cX5_leanOf 29 = .ok (.iload_n 2, 1) := by decide +kernel
theorem dX5_leanOf_30 : decode cX5_leanOf 30 = .ok (.if_icmp .ge 8, 3) := by decide +kernel
theorem dX5_leanOf_33 : decode cX5_leanOf 33 = .ok (.iload 5, 2) := by decide +kernel
theorem dX5_leanOf_35 : decode cX5_leanOf 35 = .ok (.goto 4, 3) := by decide +kernel
theorem dX5_leanOf_38 : decode cX5_leanOf 38 = .ok (.iload_n 2, 1) := by decide +kernel
theorem dX5_leanOf_39 : decode cX5_leanOf 39 = .ok (.istore_n 2, 1) := by decide +kernel
theorem dX5_leanOf_40 : decode cX5_leanOf 40 = .ok (.iload 5, 2) := by decide +kernel
theorem dX5_leanOf_42 : decode cX5_leanOf 42 = .ok (.iload_n 3, 1) := by decide +kernel
theorem dX5_leanOf_43 : decode cX5_leanOf 43 = .ok (.if_icmp .le 8, 3) := by decide +kernel
theorem dX5_leanOf_46 : decode cX5_leanOf 46 = .ok (.iload 5, 2) := by decide +kernel
theorem dX5_leanOf_48 : decode cX5_leanOf 48 = .ok (.goto 4, 3) := by decide +kernel
theorem dX5_leanOf_51 : decode cX5_leanOf 51 = .ok (.iload_n 3, 1) := by decide +kernel
theorem dX5_leanOf_52 : decode cX5_leanOf 52 = .ok (.istore_n 3, 1) := by decide +kernel
theorem dX5_leanOf_53 : decode cX5_leanOf 53 = .ok (.iinc 4 1, 3) := by decide +kernel
theorem dX5_leanOf_56 : decode cX5_leanOf 56 = .ok (.goto (-44), 3) := by decide +kernel
theorem dX5_leanOf_59 : decode cX5_leanOf 59 = .ok (.iload_n 3, 1) := by decide +kernel
theorem dX5_leanOf_60 : decode cX5_leanOf 60 = .ok (.iload_n 2, 1) := by decide +kernel
theorem dX5_leanOf_61 : decode cX5_leanOf 61 = .ok (.isub, 1) := by decide +kernel
theorem dX5_leanOf_62 : decode cX5_leanOf 62 = .ok (.ireturn, 1) := by decide +kernel
theorem dX5_seatOf_0 : decode cX5_seatOf 0 = .ok (.iconst 0, 1) := by decide +kernel
theorem dX5_seatOf_1 : decode cX5_seatOf 1 = .ok (.istore_n 2, 1) := by decide +kernel
theorem dX5_seatOf_2 : decode cX5_seatOf 2 = .ok (.iconst 0, 1) := by decide +kernel
theorem dX5_seatOf_3 : decode cX5_seatOf 3 = .ok (.istore_n 3, 1) := by decide +kernel
theorem dX5_seatOf_4 : decode cX5_seatOf 4 = .ok (.iload_n 3, 1) := by decide +kernel
theorem dX5_seatOf_5 : decode cX5_seatOf 5 = .ok (.iconst 4, 1) := by decide +kernel
theorem dX5_seatOf_6 : decode cX5_seatOf 6 = .ok (.if_icmp .ge 20, 3) := by decide +kernel
theorem dX5_seatOf_9 : decode cX5_seatOf 9 = .ok (.iload_n 2, 1) := by decide +kernel
theorem dX5_seatOf_10 : decode cX5_seatOf 10 = .ok (.aload_n 0, 1) := by decide +kernel
theorem dX5_seatOf_11 : decode cX5_seatOf 11 = .ok (.iload_n 1, 1) := by decide +kernel
theorem dX5_seatOf_12 : decode cX5_seatOf 12 = .ok (.iconst 5, 1) := by decide +kernel
theorem dX5_seatOf_13 : decode cX5_seatOf 13 = .ok (.iload_n 3, 1) := by decide +kernel
theorem dX5_seatOf_14 : decode cX5_seatOf 14 = .ok (.iadd, 1) := by decide +kernel
theorem dX5_seatOf_15 : decode cX5_seatOf 15 = .ok (.invokestatic 51, 3) := by decide +kernel
theorem dX5_seatOf_18 : decode cX5_seatOf 18 = .ok (.iadd, 1) := by decide +kernel
theorem dX5_seatOf_19 : decode cX5_seatOf 19 = .ok (.istore_n 2, 1) := by decide +kernel
theorem dX5_seatOf_20 : decode cX5_seatOf 20 = .ok (.iinc 3 1, 3) := by decide +kernel
theorem dX5_seatOf_23 : decode cX5_seatOf 23 = .ok (.goto (-19), 3) := by decide +kernel
theorem dX5_seatOf_26 : decode cX5_seatOf 26 = .ok (.iload_n 2, 1) := by decide +kernel
theorem dX5_seatOf_27 : decode cX5_seatOf 27 = .ok (.iconst 4, 1) := by decide +kernel
theorem dX5_seatOf_28 : decode cX5_seatOf 28 = .ok (.idiv, 1) := by decide +kernel
theorem dX5_seatOf_29 : decode cX5_seatOf 29 = .ok (.ireturn, 1) := by decide +kernel
theorem dX5_idleOf_0 : decode cX5_idleOf 0 = .ok (.aload_n 0, 1) := by decide +kernel
theorem dX5_idleOf_1 : decode cX5_idleOf 1 = .ok (.iload_n 1, 1) := by decide +kernel
theorem dX5_idleOf_2 : decode cX5_idleOf 2 = .ok (.invokestatic 61, 3) := by decide +kernel
theorem dX5_idleOf_5 : decode cX5_idleOf 5 = .ok (.istore_n 2, 1) := by decide +kernel
theorem dX5_idleOf_6 : decode cX5_idleOf 6 = .ok (.iload_n 2, 1) := by decide +kernel
theorem dX5_idleOf_7 : decode cX5_idleOf 7 = .ok (.ifCond .ne 5, 3) := by decide +kernel
theorem dX5_idleOf_10 : decode cX5_idleOf 10 = .ok (.iconst (-1), 1) := by decide +kernel
theorem dX5_idleOf_11 : decode cX5_idleOf 11 = .ok (.ireturn, 1) := by decide +kernel
theorem dX5_idleOf_12 : decode cX5_idleOf 12 = .ok (.iload_n 2, 1) := by decide +kernel
theorem dX5_idleOf_13 : decode cX5_idleOf 13 = .ok (.ifCond .ge 7, 3) := by decide +kernel
theorem dX5_idleOf_16 : decode cX5_idleOf 16 = .ok (.iconst 0, 1) := by decide +kernel
theorem dX5_idleOf_17 : decode cX5_idleOf 17 = .ok (.goto 4, 3) := by decide +kernel
theorem dX5_idleOf_20 : decode cX5_idleOf 20 = .ok (.iconst 1, 1) := by decide +kernel
theorem dX5_idleOf_21 : decode cX5_idleOf 21 = .ok (.istore_n 3, 1) := by decide +kernel
theorem dX5_idleOf_22 : decode cX5_idleOf 22 = .ok (.aload_n 0, 1) := by decide +kernel
theorem dX5_idleOf_23 : decode cX5_idleOf 23 = .ok (.iload_n 1, 1) := by decide +kernel
theorem dX5_idleOf_24 : decode cX5_idleOf 24 = .ok (.iload_n 3, 1) := by decide +kernel
theorem dX5_idleOf_25 : decode cX5_idleOf 25 = .ok (.iconst 2, 1) := by decide +kernel
theorem dX5_idleOf_26 : decode cX5_idleOf 26 = .ok (.iadd, 1) := by decide +kernel
theorem dX5_idleOf_27 : decode cX5_idleOf 27 = .ok (.invokestatic 58, 3) := by decide +kernel
theorem dX5_idleOf_30 : decode cX5_idleOf 30 = .ok (.aload_n 0, 1) := by decide +kernel
theorem dX5_idleOf_31 : decode cX5_idleOf 31 = .ok (.iload_n 1, 1) := by decide +kernel
theorem dX5_idleOf_32 : decode cX5_idleOf 32 = .ok (.iload_n 3, 1) := by decide +kernel
theorem dX5_idleOf_33 : decode cX5_idleOf 33 = .ok (.invokestatic 58, 3) := by decide +kernel
theorem dX5_idleOf_36 : decode cX5_idleOf 36 = .ok (.if_icmp .ge 9, 3) := by decide +kernel
theorem dX5_idleOf_39 : decode cX5_idleOf 39 = .ok (.iload_n 3, 1) := by decide +kernel
theorem dX5_idleOf_40 : decode cX5_idleOf 40 = .ok (.iconst 2, 1) := by decide +kernel
theorem dX5_idleOf_41 : decode cX5_idleOf 41 = .ok (.iadd, 1) := by decide +kernel
theorem dX5_idleOf_42 : decode cX5_idleOf 42 = .ok (.goto 4, 3) := by decide +kernel
theorem dX5_idleOf_45 : decode cX5_idleOf 45 = .ok (.iload_n 3, 1) := by decide +kernel
theorem dX5_idleOf_46 : decode cX5_idleOf 46 = .ok (.ireturn, 1) := by decide +kernel
theorem dX5_reason_0 : decode cX5_reason 0 = .ok (.bipush 28, 2) := by decide +kernel
theorem dX5_reason_2 : decode cX5_reason 2 = .ok (.iconst 4, 1) := by decide +kernel
theorem dX5_reason_3 : decode cX5_reason 3 = .ok (.aload_n 0, 1) := by decide +kernel
theorem dX5_reason_4 : decode cX5_reason 4 = .ok (.iload_n 1, 1) := by decide +kernel
theorem dX5_reason_5 : decode cX5_reason 5 = .ok (.iconst 0, 1) := by decide +kernel
theorem dX5_reason_6 : decode cX5_reason 6 = .ok (.invokestatic 51, 3) := by decide +kernel
theorem dX5_reason_9 : decode cX5_reason 9 = .ok (.imul, 1) := by decide +kernel
theorem dX5_reason_10 : decode cX5_reason 10 = .ok (.iadd, 1) := by decide +kernel
theorem dX5_reason_11 : decode cX5_reason 11 = .ok (.istore_n 2, 1) := by decide +kernel
theorem dX5_reason_12 : decode cX5_reason 12 = .ok (.aload_n 0, 1) := by decide +kernel
theorem dX5_reason_13 : decode cX5_reason 13 = .ok (.iload_n 1, 1) := by decide +kernel
theorem dX5_reason_14 : decode cX5_reason 14 = .ok (.invokestatic 69, 3) := by decide +kernel
theorem dX5_reason_17 : decode cX5_reason 17 = .ok (.aload_n 0, 1) := by decide +kernel
theorem dX5_reason_18 : decode cX5_reason 18 = .ok (.iload_n 2, 1) := by decide +kernel
theorem dX5_reason_19 : decode cX5_reason 19 = .ok (.iconst 2, 1) := by decide +kernel
theorem dX5_reason_20 : decode cX5_reason 20 = .ok (.iadd, 1) := by decide +kernel
theorem dX5_reason_21 : decode cX5_reason 21 = .ok (.iaload, 1) := by decide +kernel
theorem dX5_reason_22 : decode cX5_reason 22 = .ok (.if_icmp .le 7, 3) := by decide +kernel
theorem dX5_reason_25 : decode cX5_reason 25 = .ok (.iconst 1, 1) := by decide +kernel
theorem dX5_reason_26 : decode cX5_reason 26 = .ok (.goto 53, 3) := by decide +kernel
theorem dX5_reason_29 : decode cX5_reason 29 = .ok (.aload_n 0, 1) := by decide +kernel
theorem dX5_reason_30 : decode cX5_reason 30 = .ok (.iload_n 1, 1) := by decide +kernel
theorem dX5_reason_31 : decode cX5_reason 31 = .ok (.invokestatic 72, 3) := by decide +kernel
theorem dX5_reason_34 : decode cX5_reason 34 = .ok (.aload_n 0, 1) := by decide +kernel
theorem dX5_reason_35 : decode cX5_reason 35 = .ok (.iload_n 2, 1) := by decide +kernel
theorem dX5_reason_36 : decode cX5_reason 36 = .ok (.iconst 3, 1) := by decide +kernel
theorem dX5_reason_37 : decode cX5_reason 37 = .ok (.iadd, 1) := by decide +kernel
theorem dX5_reason_38 : decode cX5_reason 38 = .ok (.iaload, 1) := by decide +kernel
theorem dX5_reason_39 : decode cX5_reason 39 = .ok (.if_icmp .le 7, 3) := by decide +kernel
theorem dX5_reason_42 : decode cX5_reason 42 = .ok (.iconst 2, 1) := by decide +kernel
theorem dX5_reason_43 : decode cX5_reason 43 = .ok (.goto 36, 3) := by decide +kernel
theorem dX5_reason_46 : decode cX5_reason 46 = .ok (.aload_n 0, 1) := by decide +kernel
theorem dX5_reason_47 : decode cX5_reason 47 = .ok (.iload_n 1, 1) := by decide +kernel
theorem dX5_reason_48 : decode cX5_reason 48 = .ok (.invokestatic 75, 3) := by decide +kernel
theorem dX5_reason_51 : decode cX5_reason 51 = .ok (.aload_n 0, 1) := by decide +kernel
theorem dX5_reason_52 : decode cX5_reason 52 = .ok (.iload_n 2, 1) := by decide +kernel
theorem dX5_reason_53 : decode cX5_reason 53 = .ok (.iaload, 1) := by decide +kernel
theorem dX5_reason_54 : decode cX5_reason 54 = .ok (.if_icmp .ge 7, 3) := by decide +kernel
theorem dX5_reason_57 : decode cX5_reason 57 = .ok (.iconst 3, 1) := by decide +kernel
theorem dX5_reason_58 : decode cX5_reason 58 = .ok (.goto 21, 3) := by decide +kernel
theorem dX5_reason_61 : decode cX5_reason 61 = .ok (.aload_n 0, 1) := by decide +kernel
theorem dX5_reason_62 : decode cX5_reason 62 = .ok (.iload_n 1, 1) := by decide +kernel
theorem dX5_reason_63 : decode cX5_reason 63 = .ok (.invokestatic 75, 3) := by decide +kernel
theorem dX5_reason_66 : decode cX5_reason 66 = .ok (.aload_n 0, 1) := by decide +kernel
theorem dX5_reason_67 : decode cX5_reason 67 = .ok (.iload_n 2, 1) := by decide +kernel
theorem dX5_reason_68 : decode cX5_reason 68 = .ok (.iconst 1, 1) := by decide +kernel
theorem dX5_reason_69 : decode cX5_reason 69 = .ok (.iadd, 1) := by decide +kernel
theorem dX5_reason_70 : decode cX5_reason 70 = .ok (.iaload, 1) := by decide +kernel
theorem dX5_reason_71 : decode cX5_reason 71 = .ok (.if_icmp .le 7, 3) := by decide +kernel
theorem dX5_reason_74 : decode cX5_reason 74 = .ok (.iconst 4, 1) := by decide +kernel
theorem dX5_reason_75 : decode cX5_reason 75 = .ok (.goto 4, 3) := by decide +kernel
theorem dX5_reason_78 : decode cX5_reason 78 = .ok (.iconst 0, 1) := by decide +kernel
theorem dX5_reason_79 : decode cX5_reason 79 = .ok (.ireturn, 1) := by decide +kernel
theorem dX5_stamped_0 : decode cX5_stamped 0 = .ok (.iconst 0, 1) := by decide +kernel
theorem dX5_stamped_1 : decode cX5_stamped 1 = .ok (.istore_n 1, 1) := by decide +kernel
theorem dX5_stamped_2 : decode cX5_stamped 2 = .ok (.iconst 0, 1) := by decide +kernel
theorem dX5_stamped_3 : decode cX5_stamped 3 = .ok (.istore_n 2, 1) := by decide +kernel
theorem dX5_stamped_4 : decode cX5_stamped 4 = .ok (.iload_n 2, 1) := by decide +kernel
theorem dX5_stamped_5 : decode cX5_stamped 5 = .ok (.aload_n 0, 1) := by decide +kernel
theorem dX5_stamped_6 : decode cX5_stamped 6 = .ok (.iconst 0, 1) := by decide +kernel
theorem dX5_stamped_7 : decode cX5_stamped 7 = .ok (.iaload, 1) := by decide +kernel
theorem dX5_stamped_8 : decode cX5_stamped 8 = .ok (.if_icmp .ge 18, 3) := by decide +kernel
theorem dX5_stamped_11 : decode cX5_stamped 11 = .ok (.iload_n 1, 1) := by decide +kernel
theorem dX5_stamped_12 : decode cX5_stamped 12 = .ok (.aload_n 0, 1) := by decide +kernel
theorem dX5_stamped_13 : decode cX5_stamped 13 = .ok (.iload_n 2, 1) := by decide +kernel
theorem dX5_stamped_14 : decode cX5_stamped 14 = .ok (.iconst 3, 1) := by decide +kernel
theorem dX5_stamped_15 : decode cX5_stamped 15 = .ok (.invokestatic 51, 3) := by decide +kernel
theorem dX5_stamped_18 : decode cX5_stamped 18 = .ok (.iadd, 1) := by decide +kernel
theorem dX5_stamped_19 : decode cX5_stamped 19 = .ok (.istore_n 1, 1) := by decide +kernel
theorem dX5_stamped_20 : decode cX5_stamped 20 = .ok (.iinc 2 1, 3) := by decide +kernel
theorem dX5_stamped_23 : decode cX5_stamped 23 = .ok (.goto (-19), 3) := by decide +kernel
theorem dX5_stamped_26 : decode cX5_stamped 26 = .ok (.iload_n 1, 1) := by decide +kernel
theorem dX5_stamped_27 : decode cX5_stamped 27 = .ok (.ireturn, 1) := by decide +kernel
theorem dX5_voids_0 : decode cX5_voids 0 = .ok (.aload_n 0, 1) := by decide +kernel
theorem dX5_voids_1 : decode cX5_voids 1 = .ok (.iconst 4, 1) := by decide +kernel
theorem dX5_voids_2 : decode cX5_voids 2 = .ok (.dup2, 1) := by decide +kernel
theorem dX5_voids_3 : decode cX5_voids 3 = .ok (.iaload, 1) := by decide +kernel
theorem dX5_voids_4 : decode cX5_voids 4 = .ok (.aload_n 0, 1) := by decide +kernel
theorem dX5_voids_5 : decode cX5_voids 5 = .ok (.iload_n 1, 1) := by decide +kernel
theorem dX5_voids_6 : decode cX5_voids 6 = .ok (.iconst 3, 1) := by decide +kernel
theorem dX5_voids_7 : decode cX5_voids 7 = .ok (.invokestatic 51, 3) := by decide +kernel
theorem dX5_voids_10 : decode cX5_voids 10 = .ok (.iadd, 1) := by decide +kernel
theorem dX5_voids_11 : decode cX5_voids 11 = .ok (.iastore, 1) := by decide +kernel
theorem dX5_voids_12 : decode cX5_voids 12 = .ok (.aload_n 0, 1) := by decide +kernel
theorem dX5_voids_13 : decode cX5_voids 13 = .ok (.iload_n 1, 1) := by decide +kernel
theorem dX5_voids_14 : decode cX5_voids 14 = .ok (.iconst 3, 1) := by decide +kernel
theorem dX5_voids_15 : decode cX5_voids 15 = .ok (.iconst 0, 1) := by decide +kernel
theorem dX5_voids_16 : decode cX5_voids 16 = .ok (.invokestatic 78, 3) := by decide +kernel
theorem dX5_voids_19 : decode cX5_voids 19 = .ok (.return_, 1) := by decide +kernel
theorem dX5_chairOn_0 : decode cX5_chairOn 0 = .ok (.aload_n 0, 1) := by decide +kernel
theorem dX5_chairOn_1 : decode cX5_chairOn 1 = .ok (.iconst 0, 1) := by decide +kernel
theorem dX5_chairOn_2 : decode cX5_chairOn 2 = .ok (.iaload, 1) := by decide +kernel
theorem dX5_chairOn_3 : decode cX5_chairOn 3 = .ok (.istore_n 3, 1) := by decide +kernel
theorem dX5_chairOn_4 : decode cX5_chairOn 4 = .ok (.iconst 0, 1) := by decide +kernel
theorem dX5_chairOn_5 : decode cX5_chairOn 5 = .ok (.istore 4, 2) := by decide +kernel
theorem dX5_chairOn_7 : decode cX5_chairOn 7 = .ok (.iload 4, 2) := by decide +kernel
theorem dX5_chairOn_9 : decode cX5_chairOn 9 = .ok (.bipush 9, 2) := by decide +kernel
theorem dX5_chairOn_11 : decode cX5_chairOn 11 = .ok (.if_icmp .ge 27, 3) := by decide +kernel
theorem dX5_chairOn_14 : decode cX5_chairOn 14 = .ok (.aload_n 0, 1) := by decide +kernel
theorem dX5_chairOn_15 : decode cX5_chairOn 15 = .ok (.iload_n 3, 1) := by decide +kernel
theorem dX5_chairOn_16 : decode cX5_chairOn 16 = .ok (.iload 4, 2) := by decide +kernel
theorem dX5_chairOn_18 : decode cX5_chairOn 18 = .ok (.iload 4, 2) := by decide +kernel
theorem dX5_chairOn_20 : decode cX5_chairOn 20 = .ok (.iconst 5, 1) := by decide +kernel
theorem dX5_chairOn_21 : decode cX5_chairOn 21 = .ok (.if_icmp .ge 7, 3) := by decide +kernel
theorem dX5_chairOn_24 : decode cX5_chairOn 24 = .ok (.iconst 0, 1) := by decide +kernel
theorem dX5_chairOn_25 : decode cX5_chairOn 25 = .ok (.goto 4, 3) := by decide +kernel
theorem dX5_chairOn_28 : decode cX5_chairOn 28 = .ok (.iload_n 2, 1) := by decide +kernel
theorem dX5_chairOn_29 : decode cX5_chairOn 29 = .ok (.invokestatic 78, 3) := by decide +kernel
theorem dX5_chairOn_32 : decode cX5_chairOn 32 = .ok (.iinc 4 1, 3) := by decide +kernel
theorem dX5_chairOn_35 : decode cX5_chairOn 35 = .ok (.goto (-28), 3) := by decide +kernel
theorem dX5_chairOn_38 : decode cX5_chairOn 38 = .ok (.aload_n 0, 1) := by decide +kernel
theorem dX5_chairOn_39 : decode cX5_chairOn 39 = .ok (.iload_n 3, 1) := by decide +kernel
theorem dX5_chairOn_40 : decode cX5_chairOn 40 = .ok (.iconst 0, 1) := by decide +kernel
theorem dX5_chairOn_41 : decode cX5_chairOn 41 = .ok (.iload_n 1, 1) := by decide +kernel
theorem dX5_chairOn_42 : decode cX5_chairOn 42 = .ok (.invokestatic 78, 3) := by decide +kernel
theorem dX5_chairOn_45 : decode cX5_chairOn 45 = .ok (.aload_n 0, 1) := by decide +kernel
theorem dX5_chairOn_46 : decode cX5_chairOn 46 = .ok (.iconst 0, 1) := by decide +kernel
theorem dX5_chairOn_47 : decode cX5_chairOn 47 = .ok (.dup2, 1) := by decide +kernel
theorem dX5_chairOn_48 : decode cX5_chairOn 48 = .ok (.iaload, 1) := by decide +kernel
theorem dX5_chairOn_49 : decode cX5_chairOn 49 = .ok (.iconst 1, 1) := by decide +kernel
theorem dX5_chairOn_50 : decode cX5_chairOn 50 = .ok (.iadd, 1) := by decide +kernel
theorem dX5_chairOn_51 : decode cX5_chairOn 51 = .ok (.iastore, 1) := by decide +kernel
theorem dX5_chairOn_52 : decode cX5_chairOn 52 = .ok (.iload_n 3, 1) := by decide +kernel
theorem dX5_chairOn_53 : decode cX5_chairOn 53 = .ok (.ireturn, 1) := by decide +kernel
theorem dX5_floorOn_0 : decode cX5_floorOn 0 = .ok (.bipush 12, 2) := by decide +kernel
theorem dX5_floorOn_2 : decode cX5_floorOn 2 = .ok (.iconst 4, 1) := by decide +kernel
theorem dX5_floorOn_3 : decode cX5_floorOn 3 = .ok (.aload_n 0, 1) := by decide +kernel
theorem dX5_floorOn_4 : decode cX5_floorOn 4 = .ok (.iconst 1, 1) := by decide +kernel
theorem dX5_floorOn_5 : decode cX5_floorOn 5 = .ok (.iaload, 1) := by decide +kernel
theorem dX5_floorOn_6 : decode cX5_floorOn 6 = .ok (.imul, 1) := by decide +kernel
theorem dX5_floorOn_7 : decode cX5_floorOn 7 = .ok (.iadd, 1) := by decide +kernel
theorem dX5_floorOn_8 : decode cX5_floorOn 8 = .ok (.istore 5, 2) := by decide +kernel
theorem dX5_floorOn_10 : decode cX5_floorOn 10 = .ok (.aload_n 0, 1) := by decide +kernel
theorem dX5_floorOn_11 : decode cX5_floorOn 11 = .ok (.iload 5, 2) := by decide +kernel
theorem dX5_floorOn_13 : decode cX5_floorOn 13 = .ok (.iload_n 1, 1) := by decide +kernel
theorem dX5_floorOn_14 : decode cX5_floorOn 14 = .ok (.iastore, 1) := by decide +kernel
theorem dX5_floorOn_15 : decode cX5_floorOn 15 = .ok (.aload_n 0, 1) := by decide +kernel
theorem dX5_floorOn_16 : decode cX5_floorOn 16 = .ok (.iload 5, 2) := by decide +kernel
theorem dX5_floorOn_18 : decode cX5_floorOn 18 = .ok (.iconst 1, 1) := by decide +kernel
theorem dX5_floorOn_19 : decode cX5_floorOn 19 = .ok (.iadd, 1) := by decide +kernel
theorem dX5_floorOn_20 : decode cX5_floorOn 20 = .ok (.iload_n 2, 1) := by decide +kernel
theorem dX5_floorOn_21 : decode cX5_floorOn 21 = .ok (.iastore, 1) := by decide +kernel
theorem dX5_floorOn_22 : decode cX5_floorOn 22 = .ok (.aload_n 0, 1) := by decide +kernel
theorem dX5_floorOn_23 : decode cX5_floorOn 23 = .ok (.iload 5, 2) := by decide +kernel
theorem dX5_floorOn_25 : decode cX5_floorOn 25 = .ok (.iconst 2, 1) := by decide +kernel
theorem dX5_floorOn_26 : decode cX5_floorOn 26 = .ok (.iadd, 1) := by decide +kernel
theorem dX5_floorOn_27 : decode cX5_floorOn 27 = .ok (.iload_n 3, 1) := by decide +kernel
theorem dX5_floorOn_28 : decode cX5_floorOn 28 = .ok (.iastore, 1) := by decide +kernel
theorem dX5_floorOn_29 : decode cX5_floorOn 29 = .ok (.aload_n 0, 1) := by decide +kernel
theorem dX5_floorOn_30 : decode cX5_floorOn 30 = .ok (.iload 5, 2) := by decide +kernel
theorem dX5_floorOn_32 : decode cX5_floorOn 32 = .ok (.iconst 3, 1) := by decide +kernel
theorem dX5_floorOn_33 : decode cX5_floorOn 33 = .ok (.iadd, 1) := by decide +kernel
theorem dX5_floorOn_34 : decode cX5_floorOn 34 = .ok (.iload 4, 2) := by decide +kernel
theorem dX5_floorOn_36 : decode cX5_floorOn 36 = .ok (.iastore, 1) := by decide +kernel
theorem dX5_floorOn_37 : decode cX5_floorOn 37 = .ok (.aload_n 0, 1) := by decide +kernel
theorem dX5_floorOn_38 : decode cX5_floorOn 38 = .ok (.iconst 1, 1) := by decide +kernel
theorem dX5_floorOn_39 : decode cX5_floorOn 39 = .ok (.dup2, 1) := by decide +kernel
theorem dX5_floorOn_40 : decode cX5_floorOn 40 = .ok (.iaload, 1) := by decide +kernel
theorem dX5_floorOn_41 : decode cX5_floorOn 41 = .ok (.iconst 1, 1) := by decide +kernel
theorem dX5_floorOn_42 : decode cX5_floorOn 42 = .ok (.iadd, 1) := by decide +kernel
theorem dX5_floorOn_43 : decode cX5_floorOn 43 = .ok (.iastore, 1) := by decide +kernel
theorem dX5_floorOn_44 : decode cX5_floorOn 44 = .ok (.aload_n 0, 1) := by decide +kernel
theorem dX5_floorOn_45 : decode cX5_floorOn 45 = .ok (.iconst 1, 1) := by decide +kernel
theorem dX5_floorOn_46 : decode cX5_floorOn 46 = .ok (.iaload, 1) := by decide +kernel
theorem dX5_floorOn_47 : decode cX5_floorOn 47 = .ok (.iconst 1, 1) := by decide +kernel
theorem dX5_floorOn_48 : decode cX5_floorOn 48 = .ok (.isub, 1) := by decide +kernel
theorem dX5_floorOn_49 : decode cX5_floorOn 49 = .ok (.ireturn, 1) := by decide +kernel
theorem dX5_levelOn_0 : decode cX5_levelOn 0 = .ok (.aload_n 0, 1) := by decide +kernel
theorem dX5_levelOn_1 : decode cX5_levelOn 1 = .ok (.bipush 12, 2) := by decide +kernel
theorem dX5_levelOn_3 : decode cX5_levelOn 3 = .ok (.iconst 4, 1) := by decide +kernel
theorem dX5_levelOn_4 : decode cX5_levelOn 4 = .ok (.iload_n 1, 1) := by decide +kernel
theorem dX5_levelOn_5 : decode cX5_levelOn 5 = .ok (.imul, 1) := by decide +kernel
theorem dX5_levelOn_6 : decode cX5_levelOn 6 = .ok (.iadd, 1) := by decide +kernel
theorem dX5_levelOn_7 : decode cX5_levelOn 7 = .ok (.iload_n 2, 1) := by decide +kernel
theorem dX5_levelOn_8 : decode cX5_levelOn 8 = .ok (.iadd, 1) := by decide +kernel
theorem dX5_levelOn_9 : decode cX5_levelOn 9 = .ok (.iaload, 1) := by decide +kernel
theorem dX5_levelOn_10 : decode cX5_levelOn 10 = .ok (.istore 4, 2) := by decide +kernel
theorem dX5_levelOn_12 : decode cX5_levelOn 12 = .ok (.aload_n 0, 1) := by decide +kernel
theorem dX5_levelOn_13 : decode cX5_levelOn 13 = .ok (.bipush 12, 2) := by decide +kernel
theorem dX5_levelOn_15 : decode cX5_levelOn 15 = .ok (.iconst 4, 1) := by decide +kernel
theorem dX5_levelOn_16 : decode cX5_levelOn 16 = .ok (.iload_n 1, 1) := by decide +kernel
theorem dX5_levelOn_17 : decode cX5_levelOn 17 = .ok (.imul, 1) := by decide +kernel
theorem dX5_levelOn_18 : decode cX5_levelOn 18 = .ok (.iadd, 1) := by decide +kernel
theorem dX5_levelOn_19 : decode cX5_levelOn 19 = .ok (.iload_n 2, 1) := by decide +kernel
theorem dX5_levelOn_20 : decode cX5_levelOn 20 = .ok (.iadd, 1) := by decide +kernel
theorem dX5_levelOn_21 : decode cX5_levelOn 21 = .ok (.iload_n 3, 1) := by decide +kernel
theorem dX5_levelOn_22 : decode cX5_levelOn 22 = .ok (.iastore, 1) := by decide +kernel
theorem dX5_levelOn_23 : decode cX5_levelOn 23 = .ok (.iconst 0, 1) := by decide +kernel
theorem dX5_levelOn_24 : decode cX5_levelOn 24 = .ok (.istore 5, 2) := by decide +kernel
theorem dX5_levelOn_26 : decode cX5_levelOn 26 = .ok (.iload 5, 2) := by decide +kernel
theorem dX5_levelOn_28 : decode cX5_levelOn 28 = .ok (.aload_n 0, 1) := by decide +kernel
theorem dX5_levelOn_29 : decode cX5_levelOn 29 = .ok (.iconst 0, 1) := by decide +kernel
theorem dX5_levelOn_30 : decode cX5_levelOn 30 = .ok (.iaload, 1) := by decide +kernel
theorem dX5_levelOn_31 : decode cX5_levelOn 31 = .ok (.if_icmp .ge 32, 3) := by decide +kernel
theorem dX5_levelOn_34 : decode cX5_levelOn 34 = .ok (.iload_n 3, 1) := by decide +kernel
theorem dX5_levelOn_35 : decode cX5_levelOn 35 = .ok (.iload 4, 2) := by decide +kernel
theorem dX5_levelOn_37 : decode cX5_levelOn 37 = .ok (.if_icmp .eq 26, 3) := by decide +kernel
theorem dX5_levelOn_40 : decode cX5_levelOn 40 = .ok (.aload_n 0, 1) := by decide +kernel
theorem dX5_levelOn_41 : decode cX5_levelOn 41 = .ok (.iload 5, 2) := by decide +kernel
theorem dX5_levelOn_43 : decode cX5_levelOn 43 = .ok (.iconst 1, 1) := by decide +kernel
theorem dX5_levelOn_44 : decode cX5_levelOn 44 = .ok (.invokestatic 51, 3) := by decide +kernel
theorem dX5_levelOn_47 : decode cX5_levelOn 47 = .ok (.iload_n 1, 1) := by decide +kernel
theorem dX5_levelOn_48 : decode cX5_levelOn 48 = .ok (.if_icmp .ne 9, 3) := by decide +kernel
theorem dX5_levelOn_51 : decode cX5_levelOn 51 = .ok (.aload_n 0, 1) := by decide +kernel
theorem dX5_levelOn_52 : decode cX5_levelOn 52 = .ok (.iload 5, 2) := by decide +kernel
theorem dX5_levelOn_54 : decode cX5_levelOn 54 = .ok (.invokestatic 82, 3) := by decide +kernel
theorem dX5_levelOn_57 : decode cX5_levelOn 57 = .ok (.iinc 5 1, 3) := by decide +kernel
theorem dX5_levelOn_60 : decode cX5_levelOn 60 = .ok (.goto (-34), 3) := by decide +kernel
theorem dX5_levelOn_63 : decode cX5_levelOn 63 = .ok (.iload 4, 2) := by decide +kernel
theorem dX5_levelOn_65 : decode cX5_levelOn 65 = .ok (.ireturn, 1) := by decide +kernel
theorem dX5_bringOn_0 : decode cX5_bringOn 0 = .ok (.aload_n 0, 1) := by decide +kernel
theorem dX5_bringOn_1 : decode cX5_bringOn 1 = .ok (.iload_n 1, 1) := by decide +kernel
theorem dX5_bringOn_2 : decode cX5_bringOn 2 = .ok (.iconst 1, 1) := by decide +kernel
theorem dX5_bringOn_3 : decode cX5_bringOn 3 = .ok (.invokestatic 51, 3) := by decide +kernel
theorem dX5_bringOn_6 : decode cX5_bringOn 6 = .ok (.iload_n 2, 1) := by decide +kernel
theorem dX5_bringOn_7 : decode cX5_bringOn 7 = .ok (.if_icmp .ne 13, 3) := by decide +kernel
theorem dX5_bringOn_10 : decode cX5_bringOn 10 = .ok (.aload_n 0, 1) := by decide +kernel
theorem dX5_bringOn_11 : decode cX5_bringOn 11 = .ok (.iload_n 1, 1) := by decide +kernel
theorem dX5_bringOn_12 : decode cX5_bringOn 12 = .ok (.iconst 2, 1) := by decide +kernel
theorem dX5_bringOn_13 : decode cX5_bringOn 13 = .ok (.invokestatic 51, 3) := by decide +kernel
theorem dX5_bringOn_16 : decode cX5_bringOn 16 = .ok (.iload_n 3, 1) := by decide +kernel
theorem dX5_bringOn_17 : decode cX5_bringOn 17 = .ok (.if_icmp .eq 8, 3) := by decide +kernel
theorem dX5_bringOn_20 : decode cX5_bringOn 20 = .ok (.aload_n 0, 1) := by decide +kernel
theorem dX5_bringOn_21 : decode cX5_bringOn 21 = .ok (.iload_n 1, 1) := by decide +kernel
theorem dX5_bringOn_22 : decode cX5_bringOn 22 = .ok (.invokestatic 82, 3) := by decide +kernel
theorem dX5_bringOn_25 : decode cX5_bringOn 25 = .ok (.aload_n 0, 1) := by decide +kernel
theorem dX5_bringOn_26 : decode cX5_bringOn 26 = .ok (.iload_n 1, 1) := by decide +kernel
theorem dX5_bringOn_27 : decode cX5_bringOn 27 = .ok (.iconst 1, 1) := by decide +kernel
theorem dX5_bringOn_28 : decode cX5_bringOn 28 = .ok (.iload_n 2, 1) := by decide +kernel
theorem dX5_bringOn_29 : decode cX5_bringOn 29 = .ok (.invokestatic 78, 3) := by decide +kernel
theorem dX5_bringOn_32 : decode cX5_bringOn 32 = .ok (.aload_n 0, 1) := by decide +kernel
theorem dX5_bringOn_33 : decode cX5_bringOn 33 = .ok (.iload_n 1, 1) := by decide +kernel
theorem dX5_bringOn_34 : decode cX5_bringOn 34 = .ok (.iconst 2, 1) := by decide +kernel
theorem dX5_bringOn_35 : decode cX5_bringOn 35 = .ok (.iload_n 3, 1) := by decide +kernel
theorem dX5_bringOn_36 : decode cX5_bringOn 36 = .ok (.invokestatic 78, 3) := by decide +kernel
theorem dX5_bringOn_39 : decode cX5_bringOn 39 = .ok (.aload_n 0, 1) := by decide +kernel
theorem dX5_bringOn_40 : decode cX5_bringOn 40 = .ok (.iload_n 1, 1) := by decide +kernel
theorem dX5_bringOn_41 : decode cX5_bringOn 41 = .ok (.invokestatic 69, 3) := by decide +kernel
theorem dX5_bringOn_44 : decode cX5_bringOn 44 = .ok (.ireturn, 1) := by decide +kernel
theorem dX5_leg_0 : decode cX5_leg 0 = .ok (.aload_n 0, 1) := by decide +kernel
theorem dX5_leg_1 : decode cX5_leg 1 = .ok (.iload_n 1, 1) := by decide +kernel
theorem dX5_leg_2 : decode cX5_leg 2 = .ok (.iconst 5, 1) := by decide +kernel
theorem dX5_leg_3 : decode cX5_leg 3 = .ok (.iload_n 2, 1) := by decide +kernel
theorem dX5_leg_4 : decode cX5_leg 4 = .ok (.iadd, 1) := by decide +kernel
theorem dX5_leg_5 : decode cX5_leg 5 = .ok (.aload_n 0, 1) := by decide +kernel
theorem dX5_leg_6 : decode cX5_leg 6 = .ok (.iload_n 1, 1) := by decide +kernel
theorem dX5_leg_7 : decode cX5_leg 7 = .ok (.iconst 5, 1) := by decide +kernel
theorem dX5_leg_8 : decode cX5_leg 8 = .ok (.iload_n 2, 1) := by decide +kernel
theorem dX5_leg_9 : decode cX5_leg 9 = .ok (.iadd, 1) := by decide +kernel
theorem dX5_leg_10 : decode cX5_leg 10 = .ok (.invokestatic 51, 3) := by decide +kernel
theorem dX5_leg_13 : decode cX5_leg 13 = .ok (.iload_n 3, 1) := by decide +kernel
theorem dX5_leg_14 : decode cX5_leg 14 = .ok (.iadd, 1) := by decide +kernel
theorem dX5_leg_15 : decode cX5_leg 15 = .ok (.invokestatic 78, 3) := by decide +kernel
theorem dX5_leg_18 : decode cX5_leg 18 = .ok (.iload_n 3, 1) := by decide +kernel
theorem dX5_leg_19 : decode cX5_leg 19 = .ok (.ifCond .eq 8, 3) := by decide +kernel
theorem dX5_leg_22 : decode cX5_leg 22 = .ok (.aload_n 0, 1) := by decide +kernel
theorem dX5_leg_23 : decode cX5_leg 23 = .ok (.iload_n 1, 1) := by decide +kernel
theorem dX5_leg_24 : decode cX5_leg 24 = .ok (.invokestatic 82, 3) := by decide +kernel
theorem dX5_leg_27 : decode cX5_leg 27 = .ok (.aload_n 0, 1) := by decide +kernel
theorem dX5_leg_28 : decode cX5_leg 28 = .ok (.iload_n 1, 1) := by decide +kernel
theorem dX5_leg_29 : decode cX5_leg 29 = .ok (.iconst 5, 1) := by decide +kernel
theorem dX5_leg_30 : decode cX5_leg 30 = .ok (.iload_n 2, 1) := by decide +kernel
theorem dX5_leg_31 : decode cX5_leg 31 = .ok (.iadd, 1) := by decide +kernel
theorem dX5_leg_32 : decode cX5_leg 32 = .ok (.invokestatic 51, 3) := by decide +kernel
theorem dX5_leg_35 : decode cX5_leg 35 = .ok (.ireturn, 1) := by decide +kernel
theorem dX5_sawOn_0 : decode cX5_sawOn 0 = .ok (.aload_n 0, 1) := by decide +kernel
theorem dX5_sawOn_1 : decode cX5_sawOn 1 = .ok (.bipush 7, 2) := by decide +kernel
theorem dX5_sawOn_3 : decode cX5_sawOn 3 = .ok (.dup2, 1) := by decide +kernel
theorem dX5_sawOn_4 : decode cX5_sawOn 4 = .ok (.iaload, 1) := by decide +kernel
theorem dX5_sawOn_5 : decode cX5_sawOn 5 = .ok (.iload_n 3, 1) := by decide +kernel
theorem dX5_sawOn_6 : decode cX5_sawOn 6 = .ok (.iadd, 1) := by decide +kernel
theorem dX5_sawOn_7 : decode cX5_sawOn 7 = .ok (.iastore, 1) := by decide +kernel
theorem dX5_sawOn_8 : decode cX5_sawOn 8 = .ok (.aload_n 0, 1) := by decide +kernel
theorem dX5_sawOn_9 : decode cX5_sawOn 9 = .ok (.iload_n 1, 1) := by decide +kernel
theorem dX5_sawOn_10 : decode cX5_sawOn 10 = .ok (.iload_n 2, 1) := by decide +kernel
theorem dX5_sawOn_11 : decode cX5_sawOn 11 = .ok (.iload_n 3, 1) := by decide +kernel
theorem dX5_sawOn_12 : decode cX5_sawOn 12 = .ok (.ineg, 1) := by decide +kernel
theorem dX5_sawOn_13 : decode cX5_sawOn 13 = .ok (.invokestatic 86, 3) := by decide +kernel
theorem dX5_sawOn_16 : decode cX5_sawOn 16 = .ok (.ireturn, 1) := by decide +kernel
theorem dX5_shimOn_0 : decode cX5_shimOn 0 = .ok (.aload_n 0, 1) := by decide +kernel
theorem dX5_shimOn_1 : decode cX5_shimOn 1 = .ok (.bipush 8, 2) := by decide +kernel
theorem dX5_shimOn_3 : decode cX5_shimOn 3 = .ok (.dup2, 1) := by decide +kernel
theorem dX5_shimOn_4 : decode cX5_shimOn 4 = .ok (.iaload, 1) := by decide +kernel
theorem dX5_shimOn_5 : decode cX5_shimOn 5 = .ok (.iload_n 3, 1) := by decide +kernel
theorem dX5_shimOn_6 : decode cX5_shimOn 6 = .ok (.iadd, 1) := by decide +kernel
theorem dX5_shimOn_7 : decode cX5_shimOn 7 = .ok (.iastore, 1) := by decide +kernel
theorem dX5_shimOn_8 : decode cX5_shimOn 8 = .ok (.aload_n 0, 1) := by decide +kernel
theorem dX5_shimOn_9 : decode cX5_shimOn 9 = .ok (.iload_n 1, 1) := by decide +kernel
theorem dX5_shimOn_10 : decode cX5_shimOn 10 = .ok (.iload_n 2, 1) := by decide +kernel
theorem dX5_shimOn_11 : decode cX5_shimOn 11 = .ok (.iload_n 3, 1) := by decide +kernel
theorem dX5_shimOn_12 : decode cX5_shimOn 12 = .ok (.invokestatic 86, 3) := by decide +kernel
theorem dX5_shimOn_15 : decode cX5_shimOn 15 = .ok (.ireturn, 1) := by decide +kernel
theorem dX5_testOn_0 : decode cX5_testOn 0 = .ok (.aload_n 0, 1) := by decide +kernel
theorem dX5_testOn_1 : decode cX5_testOn 1 = .ok (.iload_n 1, 1) := by decide +kernel
theorem dX5_testOn_2 : decode cX5_testOn 2 = .ok (.invokestatic 90, 3) := by decide +kernel
theorem dX5_testOn_5 : decode cX5_testOn 5 = .ok (.istore_n 2, 1) := by decide +kernel
theorem dX5_testOn_6 : decode cX5_testOn 6 = .ok (.aload_n 0, 1) := by decide +kernel
theorem dX5_testOn_7 : decode cX5_testOn 7 = .ok (.iconst 2, 1) := by decide +kernel
theorem dX5_testOn_8 : decode cX5_testOn 8 = .ok (.dup2, 1) := by decide +kernel
theorem dX5_testOn_9 : decode cX5_testOn 9 = .ok (.iaload, 1) := by decide +kernel
theorem dX5_testOn_10 : decode cX5_testOn 10 = .ok (.iconst 1, 1) := by decide +kernel
theorem dX5_testOn_11 : decode cX5_testOn 11 = .ok (.iadd, 1) := by decide +kernel
theorem dX5_testOn_12 : decode cX5_testOn 12 = .ok (.iastore, 1) := by decide +kernel
theorem dX5_testOn_13 : decode cX5_testOn 13 = .ok (.aload_n 0, 1) := by decide +kernel
theorem dX5_testOn_14 : decode cX5_testOn 14 = .ok (.iconst 5, 1) := by decide +kernel
theorem dX5_testOn_15 : decode cX5_testOn 15 = .ok (.dup2, 1) := by decide +kernel
theorem dX5_testOn_16 : decode cX5_testOn 16 = .ok (.iaload, 1) := by decide +kernel
theorem dX5_testOn_17 : decode cX5_testOn 17 = .ok (.aload_n 0, 1) := by decide +kernel
theorem dX5_testOn_18 : decode cX5_testOn 18 = .ok (.bipush 10, 2) := by decide +kernel
theorem dX5_testOn_20 : decode cX5_testOn 20 = .ok (.iaload, 1) := by decide +kernel
theorem dX5_testOn_21 : decode cX5_testOn 21 = .ok (.iadd, 1) := by decide +kernel
theorem dX5_testOn_22 : decode cX5_testOn 22 = .ok (.iastore, 1) := by decide +kernel
theorem dX5_testOn_23 : decode cX5_testOn 23 = .ok (.iload_n 2, 1) := by decide +kernel
theorem dX5_testOn_24 : decode cX5_testOn 24 = .ok (.ifCond .ne 26, 3) := by decide +kernel
theorem dX5_testOn_27 : decode cX5_testOn 27 = .ok (.aload_n 0, 1) := by decide +kernel
theorem dX5_testOn_28 : decode cX5_testOn 28 = .ok (.iload_n 1, 1) := by decide +kernel
theorem dX5_testOn_29 : decode cX5_testOn 29 = .ok (.iconst 3, 1) := by decide +kernel
theorem dX5_testOn_30 : decode cX5_testOn 30 = .ok (.invokestatic 51, 3) := by decide +kernel
theorem dX5_testOn_33 : decode cX5_testOn 33 = .ok (.ifCond .ne 17, 3) := by decide +kernel
theorem dX5_testOn_36 : decode cX5_testOn 36 = .ok (.aload_n 0, 1) := by decide +kernel
theorem dX5_testOn_37 : decode cX5_testOn 37 = .ok (.iload_n 1, 1) := by decide +kernel
theorem dX5_testOn_38 : decode cX5_testOn 38 = .ok (.iconst 3, 1) := by decide +kernel
theorem dX5_testOn_39 : decode cX5_testOn 39 = .ok (.iconst 1, 1) := by decide +kernel
theorem dX5_testOn_40 : decode cX5_testOn 40 = .ok (.invokestatic 78, 3) := by decide +kernel
theorem dX5_testOn_43 : decode cX5_testOn 43 = .ok (.aload_n 0, 1) := by decide +kernel
theorem dX5_testOn_44 : decode cX5_testOn 44 = .ok (.iconst 3, 1) := by decide +kernel
theorem dX5_testOn_45 : decode cX5_testOn 45 = .ok (.dup2, 1) := by decide +kernel
theorem dX5_testOn_46 : decode cX5_testOn 46 = .ok (.iaload, 1) := by decide +kernel
theorem dX5_testOn_47 : decode cX5_testOn 47 = .ok (.iconst 1, 1) := by decide +kernel
theorem dX5_testOn_48 : decode cX5_testOn 48 = .ok (.iadd, 1) := by decide +kernel
theorem dX5_testOn_49 : decode cX5_testOn 49 = .ok (.iastore, 1) := by decide +kernel
theorem dX5_testOn_50 : decode cX5_testOn 50 = .ok (.iload_n 2, 1) := by decide +kernel
theorem dX5_testOn_51 : decode cX5_testOn 51 = .ok (.ireturn, 1) := by decide +kernel
theorem dX5_sitOn_0 : decode cX5_sitOn 0 = .ok (.aload_n 0, 1) := by decide +kernel
theorem dX5_sitOn_1 : decode cX5_sitOn 1 = .ok (.iload_n 1, 1) := by decide +kernel
theorem dX5_sitOn_2 : decode cX5_sitOn 2 = .ok (.invokestatic 93, 3) := by decide +kernel
theorem dX5_sitOn_5 : decode cX5_sitOn 5 = .ok (.istore_n 3, 1) := by decide +kernel
theorem dX5_sitOn_6 : decode cX5_sitOn 6 = .ok (.iload_n 2, 1) := by decide +kernel
theorem dX5_sitOn_7 : decode cX5_sitOn 7 = .ok (.aload_n 0, 1) := by decide +kernel
theorem dX5_sitOn_8 : decode cX5_sitOn 8 = .ok (.bipush 11, 2) := by decide +kernel
theorem dX5_sitOn_10 : decode cX5_sitOn 10 = .ok (.iaload, 1) := by decide +kernel
theorem dX5_sitOn_11 : decode cX5_sitOn 11 = .ok (.idiv, 1) := by decide +kernel
theorem dX5_sitOn_12 : decode cX5_sitOn 12 = .ok (.istore 4, 2) := by decide +kernel
theorem dX5_sitOn_14 : decode cX5_sitOn 14 = .ok (.iconst 0, 1) := by decide +kernel
theorem dX5_sitOn_15 : decode cX5_sitOn 15 = .ok (.istore 5, 2) := by decide +kernel
theorem dX5_sitOn_17 : decode cX5_sitOn 17 = .ok (.iconst 0, 1) := by decide +kernel
theorem dX5_sitOn_18 : decode cX5_sitOn 18 = .ok (.istore 6, 2) := by decide +kernel
theorem dX5_sitOn_20 : decode cX5_sitOn 20 = .ok (.iload 6, 2) := by decide +kernel
theorem dX5_sitOn_22 : decode cX5_sitOn 22 = .ok (.iconst 4, 1) := by decide +kernel
theorem dX5_sitOn_23 : decode cX5_sitOn 23 = .ok (.if_icmp .ge 67, 3) := by decide +kernel
theorem dX5_sitOn_26 : decode cX5_sitOn 26 = .ok (.aload_n 0, 1) := by decide +kernel
theorem dX5_sitOn_27 : decode cX5_sitOn 27 = .ok (.iload_n 1, 1) := by decide +kernel
theorem dX5_sitOn_28 : decode cX5_sitOn 28 = .ok (.iconst 5, 1) := by decide +kernel
theorem dX5_sitOn_29 : decode cX5_sitOn 29 = .ok (.iload 6, 2) := by decide +kernel
theorem dX5_sitOn_31 : decode cX5_sitOn 31 = .ok (.iadd, 1) := by decide +kernel
theorem dX5_sitOn_32 : decode cX5_sitOn 32 = .ok (.invokestatic 51, 3) := by decide +kernel
theorem dX5_sitOn_35 : decode cX5_sitOn 35 = .ok (.bipush 100, 2) := by decide +kernel
theorem dX5_sitOn_37 : decode cX5_sitOn 37 = .ok (.isub, 1) := by decide +kernel
theorem dX5_sitOn_38 : decode cX5_sitOn 38 = .ok (.istore 7, 2) := by decide +kernel
theorem dX5_sitOn_40 : decode cX5_sitOn 40 = .ok (.iload 6, 2) := by decide +kernel
theorem dX5_sitOn_42 : decode cX5_sitOn 42 = .ok (.iload_n 3, 1) := by decide +kernel
theorem dX5_sitOn_43 : decode cX5_sitOn 43 = .ok (.if_icmp .ne 7, 3) := by decide +kernel
theorem dX5_sitOn_46 : decode cX5_sitOn 46 = .ok (.iconst 0, 1) := by decide +kernel
theorem dX5_sitOn_47 : decode cX5_sitOn 47 = .ok (.goto 17, 3) := by decide +kernel
theorem dX5_sitOn_50 : decode cX5_sitOn 50 = .ok (.iload 4, 2) := by decide +kernel
theorem dX5_sitOn_52 : decode cX5_sitOn 52 = .ok (.iload 7, 2) := by decide +kernel
theorem dX5_sitOn_54 : decode cX5_sitOn 54 = .ok (.if_icmp .ge 8, 3) := by decide +kernel
theorem dX5_sitOn_57 : decode cX5_sitOn 57 = .ok (.iload 4, 2) := by decide +kernel
theorem dX5_sitOn_59 : decode cX5_sitOn 59 = .ok (.goto 5, 3) := by decide +kernel
theorem dX5_sitOn_62 : decode cX5_sitOn 62 = .ok (.iload 7, 2) := by decide +kernel
theorem dX5_sitOn_64 : decode cX5_sitOn 64 = .ok (.istore 8, 2) := by decide +kernel
theorem dX5_sitOn_66 : decode cX5_sitOn 66 = .ok (.aload_n 0, 1) := by decide +kernel
theorem dX5_sitOn_67 : decode cX5_sitOn 67 = .ok (.iload_n 1, 1) := by decide +kernel
theorem dX5_sitOn_68 : decode cX5_sitOn 68 = .ok (.iload 6, 2) := by decide +kernel
theorem dX5_sitOn_70 : decode cX5_sitOn 70 = .ok (.iload 8, 2) := by decide +kernel
theorem dX5_sitOn_72 : decode cX5_sitOn 72 = .ok (.ineg, 1) := by decide +kernel
theorem dX5_sitOn_73 : decode cX5_sitOn 73 = .ok (.invokestatic 86, 3) := by decide +kernel
theorem dX5_sitOn_76 : decode cX5_sitOn 76 = .ok (.pop, 1) := by decide +kernel
theorem dX5_sitOn_77 : decode cX5_sitOn 77 = .ok (.iload 5, 2) := by decide +kernel
theorem dX5_sitOn_79 : decode cX5_sitOn 79 = .ok (.iload 8, 2) := by decide +kernel
theorem dX5_sitOn_81 : decode cX5_sitOn 81 = .ok (.iadd, 1) := by decide +kernel
theorem dX5_sitOn_82 : decode cX5_sitOn 82 = .ok (.istore 5, 2) := by decide +kernel
theorem dX5_sitOn_84 : decode cX5_sitOn 84 = .ok (.iinc 6 1, 3) := by decide +kernel
theorem dX5_sitOn_87 : decode cX5_sitOn 87 = .ok (.goto (-67), 3) := by decide +kernel
theorem dX5_sitOn_90 : decode cX5_sitOn 90 = .ok (.aload_n 0, 1) := by decide +kernel
theorem dX5_sitOn_91 : decode cX5_sitOn 91 = .ok (.bipush 6, 2) := by decide +kernel
theorem dX5_sitOn_93 : decode cX5_sitOn 93 = .ok (.dup2, 1) := by decide +kernel
theorem dX5_sitOn_94 : decode cX5_sitOn 94 = .ok (.iaload, 1) := by decide +kernel
theorem dX5_sitOn_95 : decode cX5_sitOn 95 = .ok (.iconst 1, 1) := by decide +kernel
theorem dX5_sitOn_96 : decode cX5_sitOn 96 = .ok (.iadd, 1) := by decide +kernel
theorem dX5_sitOn_97 : decode cX5_sitOn 97 = .ok (.iastore, 1) := by decide +kernel
theorem dX5_sitOn_98 : decode cX5_sitOn 98 = .ok (.aload_n 0, 1) := by decide +kernel
theorem dX5_sitOn_99 : decode cX5_sitOn 99 = .ok (.bipush 9, 2) := by decide +kernel
theorem dX5_sitOn_101 : decode cX5_sitOn 101 = .ok (.dup2, 1) := by decide +kernel
theorem dX5_sitOn_102 : decode cX5_sitOn 102 = .ok (.iaload, 1) := by decide +kernel
theorem dX5_sitOn_103 : decode cX5_sitOn 103 = .ok (.iload 5, 2) := by decide +kernel
theorem dX5_sitOn_105 : decode cX5_sitOn 105 = .ok (.iadd, 1) := by decide +kernel
theorem dX5_sitOn_106 : decode cX5_sitOn 106 = .ok (.iastore, 1) := by decide +kernel
theorem dX5_sitOn_107 : decode cX5_sitOn 107 = .ok (.aload_n 0, 1) := by decide +kernel
theorem dX5_sitOn_108 : decode cX5_sitOn 108 = .ok (.iload_n 1, 1) := by decide +kernel
theorem dX5_sitOn_109 : decode cX5_sitOn 109 = .ok (.iconst 4, 1) := by decide +kernel
theorem dX5_sitOn_110 : decode cX5_sitOn 110 = .ok (.aload_n 0, 1) := by decide +kernel
theorem dX5_sitOn_111 : decode cX5_sitOn 111 = .ok (.iload_n 1, 1) := by decide +kernel
theorem dX5_sitOn_112 : decode cX5_sitOn 112 = .ok (.iconst 4, 1) := by decide +kernel
theorem dX5_sitOn_113 : decode cX5_sitOn 113 = .ok (.invokestatic 51, 3) := by decide +kernel
theorem dX5_sitOn_116 : decode cX5_sitOn 116 = .ok (.iconst 1, 1) := by decide +kernel
theorem dX5_sitOn_117 : decode cX5_sitOn 117 = .ok (.iadd, 1) := by decide +kernel
theorem dX5_sitOn_118 : decode cX5_sitOn 118 = .ok (.invokestatic 78, 3) := by decide +kernel
theorem dX5_sitOn_121 : decode cX5_sitOn 121 = .ok (.iload 5, 2) := by decide +kernel
theorem dX5_sitOn_123 : decode cX5_sitOn 123 = .ok (.ireturn, 1) := by decide +kernel
theorem dX5_boundOn_0 : decode cX5_boundOn 0 = .ok (.aload_n 0, 1) := by decide +kernel
theorem dX5_boundOn_1 : decode cX5_boundOn 1 = .ok (.iconst 4, 1) := by decide +kernel
theorem dX5_boundOn_2 : decode cX5_boundOn 2 = .ok (.iaload, 1) := by decide +kernel
theorem dX5_boundOn_3 : decode cX5_boundOn 3 = .ok (.istore 4, 2) := by decide +kernel
theorem dX5_boundOn_5 : decode cX5_boundOn 5 = .ok (.aload_n 0, 1) := by decide +kernel
theorem dX5_boundOn_6 : decode cX5_boundOn 6 = .ok (.bipush 28, 2) := by decide +kernel
theorem dX5_boundOn_8 : decode cX5_boundOn 8 = .ok (.iconst 4, 1) := by decide +kernel
theorem dX5_boundOn_9 : decode cX5_boundOn 9 = .ok (.iload_n 1, 1) := by decide +kernel
theorem dX5_boundOn_10 : decode cX5_boundOn 10 = .ok (.imul, 1) := by decide +kernel
theorem dX5_boundOn_11 : decode cX5_boundOn 11 = .ok (.iadd, 1) := by decide +kernel
theorem dX5_boundOn_12 : decode cX5_boundOn 12 = .ok (.iload_n 2, 1) := by decide +kernel
theorem dX5_boundOn_13 : decode cX5_boundOn 13 = .ok (.iadd, 1) := by decide +kernel
theorem dX5_boundOn_14 : decode cX5_boundOn 14 = .ok (.iload_n 3, 1) := by decide +kernel
theorem dX5_boundOn_15 : decode cX5_boundOn 15 = .ok (.iastore, 1) := by decide +kernel
theorem dX5_boundOn_16 : decode cX5_boundOn 16 = .ok (.iconst 0, 1) := by decide +kernel
theorem dX5_boundOn_17 : decode cX5_boundOn 17 = .ok (.istore 5, 2) := by decide +kernel
theorem dX5_boundOn_19 : decode cX5_boundOn 19 = .ok (.iload 5, 2) := by decide +kernel
theorem dX5_boundOn_21 : decode cX5_boundOn 21 = .ok (.aload_n 0, 1) := by decide +kernel
theorem dX5_boundOn_22 : decode cX5_boundOn 22 = .ok (.iconst 0, 1) := by decide +kernel
theorem dX5_boundOn_23 : decode cX5_boundOn 23 = .ok (.iaload, 1) := by decide +kernel
theorem dX5_boundOn_24 : decode cX5_boundOn 24 = .ok (.if_icmp .ge 35, 3) := by decide +kernel
theorem dX5_boundOn_27 : decode cX5_boundOn 27 = .ok (.aload_n 0, 1) := by decide +kernel
theorem dX5_boundOn_28 : decode cX5_boundOn 28 = .ok (.iload 5, 2) := by decide +kernel
theorem dX5_boundOn_30 : decode cX5_boundOn 30 = .ok (.iconst 0, 1) := by decide +kernel
theorem dX5_boundOn_31 : decode cX5_boundOn 31 = .ok (.invokestatic 51, 3) := by decide +kernel
theorem dX5_boundOn_34 : decode cX5_boundOn 34 = .ok (.iload_n 1, 1) := by decide +kernel
theorem dX5_boundOn_35 : decode cX5_boundOn 35 = .ok (.if_icmp .ne 18, 3) := by decide +kernel
theorem dX5_boundOn_38 : decode cX5_boundOn 38 = .ok (.aload_n 0, 1) := by decide +kernel
theorem dX5_boundOn_39 : decode cX5_boundOn 39 = .ok (.iload 5, 2) := by decide +kernel
theorem dX5_boundOn_41 : decode cX5_boundOn 41 = .ok (.invokestatic 90, 3) := by decide +kernel
theorem dX5_boundOn_44 : decode cX5_boundOn 44 = .ok (.ifCond .le 9, 3) := by decide +kernel
theorem dX5_boundOn_47 : decode cX5_boundOn 47 = .ok (.aload_n 0, 1) := by decide +kernel
theorem dX5_boundOn_48 : decode cX5_boundOn 48 = .ok (.iload 5, 2) := by decide +kernel
theorem dX5_boundOn_50 : decode cX5_boundOn 50 = .ok (.invokestatic 82, 3) := by decide +kernel
theorem dX5_boundOn_53 : decode cX5_boundOn 53 = .ok (.iinc 5 1, 3) := by decide +kernel
theorem dX5_boundOn_56 : decode cX5_boundOn 56 = .ok (.goto (-37), 3) := by decide +kernel
theorem dX5_boundOn_59 : decode cX5_boundOn 59 = .ok (.aload_n 0, 1) := by decide +kernel
theorem dX5_boundOn_60 : decode cX5_boundOn 60 = .ok (.iconst 4, 1) := by decide +kernel
theorem dX5_boundOn_61 : decode cX5_boundOn 61 = .ok (.iaload, 1) := by decide +kernel
theorem dX5_boundOn_62 : decode cX5_boundOn 62 = .ok (.iload 4, 2) := by decide +kernel
theorem dX5_boundOn_64 : decode cX5_boundOn 64 = .ok (.isub, 1) := by decide +kernel
theorem dX5_boundOn_65 : decode cX5_boundOn 65 = .ok (.ireturn, 1) := by decide +kernel
theorem dX5_change_0 : decode cX5_change 0 = .ok (.aload_n 0, 1) := by decide +kernel
theorem dX5_change_1 : decode cX5_change 1 = .ok (.bipush 10, 2) := by decide +kernel
theorem dX5_change_3 : decode cX5_change 3 = .ok (.iload_n 1, 1) := by decide +kernel
theorem dX5_change_4 : decode cX5_change 4 = .ok (.iadd, 1) := by decide +kernel
theorem dX5_change_5 : decode cX5_change 5 = .ok (.iaload, 1) := by decide +kernel
theorem dX5_change_6 : decode cX5_change 6 = .ok (.istore_n 3, 1) := by decide +kernel
theorem dX5_change_7 : decode cX5_change 7 = .ok (.aload_n 0, 1) := by decide +kernel
theorem dX5_change_8 : decode cX5_change 8 = .ok (.bipush 10, 2) := by decide +kernel
theorem dX5_change_10 : decode cX5_change 10 = .ok (.iload_n 1, 1) := by decide +kernel
theorem dX5_change_11 : decode cX5_change 11 = .ok (.iadd, 1) := by decide +kernel
theorem dX5_change_12 : decode cX5_change 12 = .ok (.iload_n 2, 1) := by decide +kernel
theorem dX5_change_13 : decode cX5_change 13 = .ok (.iastore, 1) := by decide +kernel
theorem dX5_change_14 : decode cX5_change 14 = .ok (.iload_n 3, 1) := by decide +kernel
theorem dX5_change_15 : decode cX5_change 15 = .ok (.ireturn, 1) := by decide +kernel
theorem dX5_canSaw_0 : decode cX5_canSaw 0 = .ok (.aload_n 0, 1) := by decide +kernel
theorem dX5_canSaw_1 : decode cX5_canSaw 1 = .ok (.iload_n 1, 1) := by decide +kernel
theorem dX5_canSaw_2 : decode cX5_canSaw 2 = .ok (.invokestatic 96, 3) := by decide +kernel
theorem dX5_canSaw_5 : decode cX5_canSaw 5 = .ok (.ifCond .eq 22, 3) := by decide +kernel
theorem dX5_canSaw_8 : decode cX5_canSaw 8 = .ok (.aload_n 0, 1) := by decide +kernel
theorem dX5_canSaw_9 : decode cX5_canSaw 9 = .ok (.iload_n 1, 1) := by decide +kernel
theorem dX5_canSaw_10 : decode cX5_canSaw 10 = .ok (.iconst 5, 1) := by decide +kernel
theorem dX5_canSaw_11 : decode cX5_canSaw 11 = .ok (.iload_n 2, 1) := by decide +kernel
theorem dX5_canSaw_12 : decode cX5_canSaw 12 = .ok (.iadd, 1) := by decide +kernel
theorem dX5_canSaw_13 : decode cX5_canSaw 13 = .ok (.invokestatic 51, 3) := by decide +kernel
theorem dX5_canSaw_16 : decode cX5_canSaw 16 = .ok (.iload_n 3, 1) := by decide +kernel
theorem dX5_canSaw_17 : decode cX5_canSaw 17 = .ok (.isub, 1) := by decide +kernel
theorem dX5_canSaw_18 : decode cX5_canSaw 18 = .ok (.bipush 100, 2) := by decide +kernel
theorem dX5_canSaw_20 : decode cX5_canSaw 20 = .ok (.if_icmp .lt 7, 3) := by decide +kernel
theorem dX5_canSaw_23 : decode cX5_canSaw 23 = .ok (.iconst 1, 1) := by decide +kernel
theorem dX5_canSaw_24 : decode cX5_canSaw 24 = .ok (.goto 4, 3) := by decide +kernel
theorem dX5_canSaw_27 : decode cX5_canSaw 27 = .ok (.iconst 0, 1) := by decide +kernel
theorem dX5_canSaw_28 : decode cX5_canSaw 28 = .ok (.ireturn, 1) := by decide +kernel
theorem dX5_canShim_0 : decode cX5_canShim 0 = .ok (.aload_n 0, 1) := by decide +kernel
theorem dX5_canShim_1 : decode cX5_canShim 1 = .ok (.iload_n 1, 1) := by decide +kernel
theorem dX5_canShim_2 : decode cX5_canShim 2 = .ok (.invokestatic 96, 3) := by decide +kernel
theorem dX5_canShim_5 : decode cX5_canShim 5 = .ok (.ifCond .eq 23, 3) := by decide +kernel
theorem dX5_canShim_8 : decode cX5_canShim 8 = .ok (.aload_n 0, 1) := by decide +kernel
theorem dX5_canShim_9 : decode cX5_canShim 9 = .ok (.iload_n 1, 1) := by decide +kernel
theorem dX5_canShim_10 : decode cX5_canShim 10 = .ok (.iconst 5, 1) := by decide +kernel
theorem dX5_canShim_11 : decode cX5_canShim 11 = .ok (.iload_n 2, 1) := by decide +kernel
theorem dX5_canShim_12 : decode cX5_canShim 12 = .ok (.iadd, 1) := by decide +kernel
theorem dX5_canShim_13 : decode cX5_canShim 13 = .ok (.invokestatic 51, 3) := by decide +kernel
theorem dX5_canShim_16 : decode cX5_canShim 16 = .ok (.iload_n 3, 1) := by decide +kernel
theorem dX5_canShim_17 : decode cX5_canShim 17 = .ok (.iadd, 1) := by decide +kernel
theorem dX5_canShim_18 : decode cX5_canShim 18 = .ok (.sipush 900, 3) := by decide +kernel
theorem dX5_canShim_21 : decode cX5_canShim 21 = .ok (.if_icmp .gt 7, 3) := by decide +kernel
theorem dX5_canShim_24 : decode cX5_canShim 24 = .ok (.iconst 1, 1) := by decide +kernel
theorem dX5_canShim_25 : decode cX5_canShim 25 = .ok (.goto 4, 3) := by decide +kernel
theorem dX5_canShim_28 : decode cX5_canShim 28 = .ok (.iconst 0, 1) := by decide +kernel
theorem dX5_canShim_29 : decode cX5_canShim 29 = .ok (.ireturn, 1) := by decide +kernel
theorem dX5_append_0 : decode cX5_append 0 = .ok (.aload_n 0, 1) := by decide +kernel
theorem dX5_append_1 : decode cX5_append 1 = .ok (.iload_n 1, 1) := by decide +kernel
theorem dX5_append_2 : decode cX5_append 2 = .ok (.i2l, 1) := by decide +kernel
theorem dX5_append_3 : decode cX5_append 3 = .ok (.lconst 0, 1) := by decide +kernel
theorem dX5_append_4 : decode cX5_append 4 = .ok (.ldc2_w 100, 3) := by decide +kernel
theorem dX5_append_7 : decode cX5_append 7 = .ok (.invokestatic 37, 3) := by decide +kernel
theorem dX5_append_10 : decode cX5_append 10 = .ok (.ifCond .ne 7, 3) := by decide +kernel
theorem dX5_append_13 : decode cX5_append 13 = .ok (.iconst 1, 1) := by decide +kernel
theorem dX5_append_14 : decode cX5_append 14 = .ok (.goto 17, 3) := by decide +kernel
theorem dX5_append_17 : decode cX5_append 17 = .ok (.aload_n 0, 1) := by decide +kernel
theorem dX5_append_18 : decode cX5_append 18 = .ok (.getfield 102, 3) := by decide +kernel
theorem dX5_append_21 : decode cX5_append 21 = .ok (.bipush 120, 2) := by decide +kernel
theorem dX5_append_23 : decode cX5_append 23 = .ok (.if_icmp .ne 7, 3) := by decide +kernel
theorem dX5_append_26 : decode cX5_append 26 = .ok (.iconst 2, 1) := by decide +kernel
theorem dX5_append_27 : decode cX5_append 27 = .ok (.goto 4, 3) := by decide +kernel
theorem dX5_append_30 : decode cX5_append 30 = .ok (.iconst 0, 1) := by decide +kernel
theorem dX5_append_31 : decode cX5_append 31 = .ok (.invokevirtual 105, 3) := by decide +kernel
theorem dX5_append_34 : decode cX5_append 34 = .ok (.ifCond .eq 5, 3) := by decide +kernel
theorem dX5_append_37 : decode cX5_append 37 = .ok (.iconst 0, 1) := by decide +kernel
theorem dX5_append_38 : decode cX5_append 38 = .ok (.ireturn, 1) := by decide +kernel
theorem dX5_append_39 : decode cX5_append 39 = .ok (.aload_n 0, 1) := by decide +kernel
theorem dX5_append_40 : decode cX5_append 40 = .ok (.getfield 7, 3) := by decide +kernel
theorem dX5_append_43 : decode cX5_append 43 = .ok (.aload_n 0, 1) := by decide +kernel
theorem dX5_append_44 : decode cX5_append 44 = .ok (.getfield 102, 3) := by decide +kernel
theorem dX5_append_47 : decode cX5_append 47 = .ok (.iload_n 1, 1) := by decide +kernel
theorem dX5_append_48 : decode cX5_append 48 = .ok (.iastore, 1) := by decide +kernel
theorem dX5_append_49 : decode cX5_append 49 = .ok (.aload_n 0, 1) := by decide +kernel
theorem dX5_append_50 : decode cX5_append 50 = .ok (.dup, 1) := by decide +kernel
theorem dX5_append_51 : decode cX5_append 51 = .ok (.getfield 102, 3) := by decide +kernel
theorem dX5_append_54 : decode cX5_append 54 = .ok (.iconst 1, 1) := by decide +kernel
theorem dX5_append_55 : decode cX5_append 55 = .ok (.iadd, 1) := by decide +kernel
theorem dX5_append_56 : decode cX5_append 56 = .ok (.putfield 102, 3) := by decide +kernel
theorem dX5_append_59 : decode cX5_append 59 = .ok (.aload_n 0, 1) := by decide +kernel
theorem dX5_append_60 : decode cX5_append 60 = .ok (.getfield 102, 3) := by decide +kernel
theorem dX5_append_63 : decode cX5_append 63 = .ok (.ireturn, 1) := by decide +kernel
theorem dX5_clearText_0 : decode cX5_clearText 0 = .ok (.aload_n 0, 1) := by decide +kernel
theorem dX5_clearText_1 : decode cX5_clearText 1 = .ok (.iconst 0, 1) := by decide +kernel
theorem dX5_clearText_2 : decode cX5_clearText 2 = .ok (.putfield 33, 3) := by decide +kernel
theorem dX5_clearText_5 : decode cX5_clearText 5 = .ok (.aload_n 0, 1) := by decide +kernel
theorem dX5_clearText_6 : decode cX5_clearText 6 = .ok (.getfield 102, 3) := by decide +kernel
theorem dX5_clearText_9 : decode cX5_clearText 9 = .ok (.istore_n 1, 1) := by decide +kernel
theorem dX5_clearText_10 : decode cX5_clearText 10 = .ok (.aload_n 0, 1) := by decide +kernel
theorem dX5_clearText_11 : decode cX5_clearText 11 = .ok (.iconst 0, 1) := by decide +kernel
theorem dX5_clearText_12 : decode cX5_clearText 12 = .ok (.putfield 102, 3) := by decide +kernel
theorem dX5_clearText_15 : decode cX5_clearText 15 = .ok (.iload_n 1, 1) := by decide +kernel
theorem dX5_clearText_16 : decode cX5_clearText 16 = .ok (.ireturn, 1) := by decide +kernel
theorem dX5_figures_0 : decode cX5_figures 0 = .ok (.iconst 0, 1) := by decide +kernel
theorem dX5_figures_1 : decode cX5_figures 1 = .ok (.istore 5, 2) := by decide +kernel
theorem dX5_figures_3 : decode cX5_figures 3 = .ok (.iload_n 2, 1) := by decide +kernel
theorem dX5_figures_4 : decode cX5_figures 4 = .ok (.istore 6, 2) := by decide +kernel
theorem dX5_figures_6 : decode cX5_figures 6 = .ok (.iload 6, 2) := by decide +kernel
theorem dX5_figures_8 : decode cX5_figures 8 = .ok (.ifCond .le 104, 3) := by decide +kernel
theorem dX5_figures_11 : decode cX5_figures 11 = .ok (.iload_n 1, 1) := by decide +kernel
theorem dX5_figures_12 : decode cX5_figures 12 = .ok (.iconst (-1), 1) := by decide +kernel
theorem dX5_figures_13 : decode cX5_figures 13 = .ok (.if_icmp .eq 99, 3) := by decide +kernel
theorem dX5_figures_16 : decode cX5_figures 16 = .ok (.aload_n 0, 1) := by decide +kernel
theorem dX5_figures_17 : decode cX5_figures 17 = .ok (.getfield 109, 3) := by decide +kernel
theorem dX5_figures_20 : decode cX5_figures 20 = .ok (.aload_n 0, 1) := by decide +kernel
theorem dX5_figures_21 : decode cX5_figures 21 = .ok (.getfield 102, 3) := by decide +kernel
theorem dX5_figures_24 : decode cX5_figures 24 = .ok (.if_icmp .ge 18, 3) := by decide +kernel
theorem dX5_figures_27 : decode cX5_figures 27 = .ok (.aload_n 0, 1) := by decide +kernel
theorem dX5_figures_28 : decode cX5_figures 28 = .ok (.getfield 7, 3) := by decide +kernel
theorem dX5_figures_31 : decode cX5_figures 31 = .ok (.aload_n 0, 1) := by decide +kernel
theorem dX5_figures_32 : decode cX5_figures 32 = .ok (.getfield 109, 3) := by decide +kernel
theorem dX5_figures_35 : decode cX5_figures 35 = .ok (.iaload, 1) := by decide +kernel
theorem dX5_figures_36 : decode cX5_figures 36 = .ok (.bipush 48, 2) := by decide +kernel
theorem dX5_figures_38 : decode cX5_figures 38 = .ok (.isub, 1) := by decide +kernel
theorem dX5_figures_39 : decode cX5_figures 39 = .ok (.goto 4, 3) := by decide +kernel
theorem dX5_figures_42 : decode cX5_figures 42 = .ok (.iconst (-1), 1) := by decide +kernel
theorem dX5_figures_43 : decode cX5_figures 43 = .ok (.istore 7, 2) := by decide +kernel
theorem dX5_figures_45 : decode cX5_figures 45 = .ok (.iload 5, 2) := by decide +kernel
theorem dX5_figures_47 : decode cX5_figures 47 = .ok (.iload 7, 2) := by decide +kernel
theorem dX5_figures_49 : decode cX5_figures 49 = .ok (.iload 6, 2) := by decide +kernel
theorem dX5_figures_51 : decode cX5_figures 51 = .ok (.imul, 1) := by decide +kernel
theorem dX5_figures_52 : decode cX5_figures 52 = .ok (.iadd, 1) := by decide +kernel
theorem dX5_figures_53 : decode cX5_figures 53 = .ok (.istore 8, 2) := by decide +kernel
theorem dX5_figures_55 : decode cX5_figures 55 = .ok (.iload 7, 2) := by decide +kernel
theorem dX5_figures_57 : decode cX5_figures 57 = .ok (.i2l, 1) := by decide +kernel
theorem dX5_figures_58 : decode cX5_figures 58 = .ok (.lconst 0, 1) := by decide +kernel
theorem dX5_figures_59 : decode cX5_figures 59 = .ok (.ldc2_w 112, 3) := by decide +kernel
theorem dX5_figures_62 : decode cX5_figures 62 = .ok (.invokestatic 37, 3) := by decide +kernel
theorem dX5_figures_65 : decode cX5_figures 65 = .ok (.ifCond .eq 21, 3) := by decide +kernel
theorem dX5_figures_68 : decode cX5_figures 68 = .ok (.iload 8, 2) := by decide +kernel
theorem dX5_figures_70 : decode cX5_figures 70 = .ok (.iload 4, 2) := by decide +kernel
theorem dX5_figures_72 : decode cX5_figures 72 = .ok (.if_icmp .gt 14, 3) := by decide +kernel
theorem dX5_figures_75 : decode cX5_figures 75 = .ok (.iload 8, 2) := by decide +kernel
theorem dX5_figures_77 : decode cX5_figures 77 = .ok (.iload 6, 2) := by decide +kernel
theorem dX5_figures_79 : decode cX5_figures 79 = .ok (.iadd, 1) := by decide +kernel
theorem dX5_figures_80 : decode cX5_figures 80 = .ok (.iconst 1, 1) := by decide +kernel
theorem dX5_figures_81 : decode cX5_figures 81 = .ok (.isub, 1) := by decide +kernel
theorem dX5_figures_82 : decode cX5_figures 82 = .ok (.iload_n 3, 1) := by decide +kernel
theorem dX5_figures_83 : decode cX5_figures 83 = .ok (.if_icmp .ge 5, 3) := by decide +kernel
theorem dX5_figures_86 : decode cX5_figures 86 = .ok (.iconst (-1), 1) := by decide +kernel
theorem dX5_figures_87 : decode cX5_figures 87 = .ok (.ireturn, 1) := by decide +kernel
theorem dX5_figures_88 : decode cX5_figures 88 = .ok (.iload 8, 2) := by decide +kernel
theorem dX5_figures_90 : decode cX5_figures 90 = .ok (.istore 5, 2) := by decide +kernel
theorem dX5_figures_92 : decode cX5_figures 92 = .ok (.aload_n 0, 1) := by decide +kernel
theorem dX5_figures_93 : decode cX5_figures 93 = .ok (.dup, 1) := by decide +kernel
theorem dX5_figures_94 : decode cX5_figures 94 = .ok (.getfield 109, 3) := by decide +kernel
theorem dX5_figures_97 : decode cX5_figures 97 = .ok (.iconst 1, 1) := by decide +kernel
theorem dX5_figures_98 : decode cX5_figures 98 = .ok (.iadd, 1) := by decide +kernel
theorem dX5_figures_99 : decode cX5_figures 99 = .ok (.putfield 109, 3) := by decide +kernel
theorem dX5_figures_102 : decode cX5_figures 102 = .ok (.iload 6, 2) := by decide +kernel
theorem dX5_figures_104 : decode cX5_figures 104 = .ok (.bipush 10, 2) := by decide +kernel
theorem dX5_figures_106 : decode cX5_figures 106 = .ok (.idiv, 1) := by decide +kernel
theorem dX5_figures_107 : decode cX5_figures 107 = .ok (.istore 6, 2) := by decide +kernel
theorem dX5_figures_109 : decode cX5_figures 109 = .ok (.goto (-103), 3) := by decide +kernel
theorem dX5_figures_112 : decode cX5_figures 112 = .ok (.iload_n 1, 1) := by decide +kernel
theorem dX5_figures_113 : decode cX5_figures 113 = .ok (.iconst (-1), 1) := by decide +kernel
theorem dX5_figures_114 : decode cX5_figures 114 = .ok (.if_icmp .ne 7, 3) := by decide +kernel
theorem dX5_figures_117 : decode cX5_figures 117 = .ok (.iconst (-1), 1) := by decide +kernel
theorem dX5_figures_118 : decode cX5_figures 118 = .ok (.goto 5, 3) := by decide +kernel
theorem dX5_figures_121 : decode cX5_figures 121 = .ok (.iload 5, 2) := by decide +kernel
theorem dX5_figures_123 : decode cX5_figures 123 = .ok (.ireturn, 1) := by decide +kernel
theorem dX5_chairSign_0 : decode cX5_chairSign 0 = .ok (.aload_n 0, 1) := by decide +kernel
theorem dX5_chairSign_1 : decode cX5_chairSign 1 = .ok (.iconst 0, 1) := by decide +kernel
theorem dX5_chairSign_2 : decode cX5_chairSign 2 = .ok (.iconst 1, 1) := by decide +kernel
theorem dX5_chairSign_3 : decode cX5_chairSign 3 = .ok (.iconst 0, 1) := by decide +kernel
theorem dX5_chairSign_4 : decode cX5_chairSign 4 = .ok (.bipush 9, 2) := by decide +kernel
theorem dX5_chairSign_6 : decode cX5_chairSign 6 = .ok (.invokevirtual 114, 3) := by decide +kernel
theorem dX5_chairSign_9 : decode cX5_chairSign 9 = .ok (.ireturn, 1) := by decide +kernel
theorem dX5_fourSign_0 : decode cX5_fourSign 0 = .ok (.aload_n 0, 1) := by decide +kernel
theorem dX5_fourSign_1 : decode cX5_fourSign 1 = .ok (.iload_n 1, 1) := by decide +kernel
theorem dX5_fourSign_2 : decode cX5_fourSign 2 = .ok (.iconst 1, 1) := by decide +kernel
theorem dX5_fourSign_3 : decode cX5_fourSign 3 = .ok (.iconst 0, 1) := by decide +kernel
theorem dX5_fourSign_4 : decode cX5_fourSign 4 = .ok (.iconst 3, 1) := by decide +kernel
theorem dX5_fourSign_5 : decode cX5_fourSign 5 = .ok (.invokevirtual 114, 3) := by decide +kernel
theorem dX5_fourSign_8 : decode cX5_fourSign 8 = .ok (.ireturn, 1) := by decide +kernel
theorem dX5_done_0 : decode cX5_done 0 = .ok (.aload_n 0, 1) := by decide +kernel
theorem dX5_done_1 : decode cX5_done 1 = .ok (.dup, 1) := by decide +kernel
theorem dX5_done_2 : decode cX5_done 2 = .ok (.getfield 118, 3) := by decide +kernel
theorem dX5_done_5 : decode cX5_done 5 = .ok (.iload_n 1, 1) := by decide +kernel
theorem dX5_done_6 : decode cX5_done 6 = .ok (.ifCond .eq 7, 3) := by decide +kernel
theorem dX5_done_9 : decode cX5_done 9 = .ok (.iconst 0, 1) := by decide +kernel
theorem dX5_done_10 : decode cX5_done 10 = .ok (.goto 4, 3) := by decide +kernel
theorem dX5_done_13 : decode cX5_done 13 = .ok (.iconst 1, 1) := by decide +kernel
theorem dX5_done_14 : decode cX5_done 14 = .ok (.iadd, 1) := by decide +kernel
theorem dX5_done_15 : decode cX5_done 15 = .ok (.putfield 118, 3) := by decide +kernel
theorem dX5_done_18 : decode cX5_done 18 = .ok (.iconst 1, 1) := by decide +kernel
theorem dX5_done_19 : decode cX5_done 19 = .ok (.ireturn, 1) := by decide +kernel
theorem dX5_readLeg_0 : decode cX5_readLeg 0 = .ok (.aload_n 0, 1) := by decide +kernel
theorem dX5_readLeg_1 : decode cX5_readLeg 1 = .ok (.invokevirtual 121, 3) := by decide +kernel
theorem dX5_readLeg_4 : decode cX5_readLeg 4 = .ok (.istore_n 3, 1) := by decide +kernel
theorem dX5_readLeg_5 : decode cX5_readLeg 5 = .ok (.aload_n 0, 1) := by decide +kernel
theorem dX5_readLeg_6 : decode cX5_readLeg 6 = .ok (.iload_n 3, 1) := by decide +kernel
theorem dX5_readLeg_7 : decode cX5_readLeg 7 = .ok (.invokevirtual 125, 3) := by decide +kernel
theorem dX5_readLeg_10 : decode cX5_readLeg 10 = .ok (.istore 4, 2) := by decide +kernel
theorem dX5_readLeg_12 : decode cX5_readLeg 12 = .ok (.iload_n 2, 1) := by decide +kernel
theorem dX5_readLeg_13 : decode cX5_readLeg 13 = .ok (.ifCond .eq 18, 3) := by decide +kernel
theorem dX5_readLeg_16 : decode cX5_readLeg 16 = .ok (.aload_n 0, 1) := by decide +kernel
theorem dX5_readLeg_17 : decode cX5_readLeg 17 = .ok (.iload 4, 2) := by decide +kernel
theorem dX5_readLeg_19 : decode cX5_readLeg 19 = .ok (.bipush 100, 2) := by decide +kernel
theorem dX5_readLeg_21 : decode cX5_readLeg 21 = .ok (.iconst 1, 1) := by decide +kernel
theorem dX5_readLeg_22 : decode cX5_readLeg 22 = .ok (.sipush 800, 3) := by decide +kernel
theorem dX5_readLeg_25 : decode cX5_readLeg 25 = .ok (.invokevirtual 114, 3) := by decide +kernel
theorem dX5_readLeg_28 : decode cX5_readLeg 28 = .ok (.goto 14, 3) := by decide +kernel
theorem dX5_readLeg_31 : decode cX5_readLeg 31 = .ok (.aload_n 0, 1) := by decide +kernel
theorem dX5_readLeg_32 : decode cX5_readLeg 32 = .ok (.iload 4, 2) := by decide +kernel
theorem dX5_readLeg_34 : decode cX5_readLeg 34 = .ok (.bipush 10, 2) := by decide +kernel
theorem dX5_readLeg_36 : decode cX5_readLeg 36 = .ok (.iconst 1, 1) := by decide +kernel
theorem dX5_readLeg_37 : decode cX5_readLeg 37 = .ok (.bipush 99, 2) := by decide +kernel
theorem dX5_readLeg_39 : decode cX5_readLeg 39 = .ok (.invokevirtual 114, 3) := by decide +kernel
theorem dX5_readLeg_42 : decode cX5_readLeg 42 = .ok (.istore 5, 2) := by decide +kernel
theorem dX5_readLeg_44 : decode cX5_readLeg 44 = .ok (.iload 5, 2) := by decide +kernel
theorem dX5_readLeg_46 : decode cX5_readLeg 46 = .ok (.iconst (-1), 1) := by decide +kernel
theorem dX5_readLeg_47 : decode cX5_readLeg 47 = .ok (.if_icmp .eq 83, 3) := by decide +kernel
theorem dX5_readLeg_50 : decode cX5_readLeg 50 = .ok (.aload_n 0, 1) := by decide +kernel
theorem dX5_readLeg_51 : decode cX5_readLeg 51 = .ok (.iload_n 2, 1) := by decide +kernel
theorem dX5_readLeg_52 : decode cX5_readLeg 52 = .ok (.ifCond .eq 37, 3) := by decide +kernel
theorem dX5_readLeg_55 : decode cX5_readLeg 55 = .ok (.aload_n 1, 1) := by decide +kernel
theorem dX5_readLeg_56 : decode cX5_readLeg 56 = .ok (.iload_n 3, 1) := by decide +kernel
theorem dX5_readLeg_57 : decode cX5_readLeg 57 = .ok (.iload 4, 2) := by decide +kernel
theorem dX5_readLeg_59 : decode cX5_readLeg 59 = .ok (.iload 5, 2) := by decide +kernel
theorem dX5_readLeg_61 : decode cX5_readLeg 61 = .ok (.invokestatic 128, 3) := by decide +kernel
theorem dX5_readLeg_64 : decode cX5_readLeg 64 = .ok (.ifCond .eq 21, 3) := by decide +kernel
theorem dX5_readLeg_67 : decode cX5_readLeg 67 = .ok (.aload_n 1, 1) := by decide +kernel
theorem dX5_readLeg_68 : decode cX5_readLeg 68 = .ok (.iload_n 3, 1) := by decide +kernel
theorem dX5_readLeg_69 : decode cX5_readLeg 69 = .ok (.iload 4, 2) := by decide +kernel
theorem dX5_readLeg_71 : decode cX5_readLeg 71 = .ok (.iload 5, 2) := by decide +kernel
theorem dX5_readLeg_73 : decode cX5_readLeg 73 = .ok (.invokestatic 132, 3) := by decide +kernel
theorem dX5_readLeg_76 : decode cX5_readLeg 76 = .ok (.bipush 100, 2) := by decide +kernel
theorem dX5_readLeg_78 : decode cX5_readLeg 78 = .ok (.if_icmp .lt 7, 3) := by decide +kernel
theorem dX5_readLeg_81 : decode cX5_readLeg 81 = .ok (.iconst 1, 1) := by decide +kernel
theorem dX5_readLeg_82 : decode cX5_readLeg 82 = .ok (.goto 38, 3) := by decide +kernel
theorem dX5_readLeg_85 : decode cX5_readLeg 85 = .ok (.iconst 0, 1) := by decide +kernel
theorem dX5_readLeg_86 : decode cX5_readLeg 86 = .ok (.goto 34, 3) := by decide +kernel
theorem dX5_readLeg_89 : decode cX5_readLeg 89 = .ok (.aload_n 1, 1) := by decide +kernel
theorem dX5_readLeg_90 : decode cX5_readLeg 90 = .ok (.iload_n 3, 1) := by decide +kernel
theorem dX5_readLeg_91 : decode cX5_readLeg 91 = .ok (.iload 4, 2) := by decide +kernel
theorem dX5_readLeg_93 : decode cX5_readLeg 93 = .ok (.iload 5, 2) := by decide +kernel
theorem dX5_readLeg_95 : decode cX5_readLeg 95 = .ok (.invokestatic 135, 3) := by decide +kernel
theorem dX5_readLeg_98 : decode cX5_readLeg 98 = .ok (.ifCond .eq 21, 3) := by decide +kernel
theorem dX5_readLeg_101 : decode cX5_readLeg 101 = .ok (.aload_n 1, 1) := by decide +kernel
theorem dX5_readLeg_102 : decode cX5_readLeg 102 = .ok (.iload_n 3, 1) := by decide +kernel
theorem dX5_readLeg_103 : decode cX5_readLeg 103 = .ok (.iload 4, 2) := by decide +kernel
theorem dX5_readLeg_105 : decode cX5_readLeg 105 = .ok (.iload 5, 2) := by decide +kernel
theorem dX5_readLeg_107 : decode cX5_readLeg 107 = .ok (.invokestatic 138, 3) := by decide +kernel
theorem dX5_readLeg_110 : decode cX5_readLeg 110 = .ok (.bipush 100, 2) := by decide +kernel
theorem dX5_readLeg_112 : decode cX5_readLeg 112 = .ok (.if_icmp .lt 7, 3) := by decide +kernel
theorem dX5_readLeg_115 : decode cX5_readLeg 115 = .ok (.iconst 1, 1) := by decide +kernel
theorem dX5_readLeg_116 : decode cX5_readLeg 116 = .ok (.goto 4, 3) := by decide +kernel
theorem dX5_readLeg_119 : decode cX5_readLeg 119 = .ok (.iconst 0, 1) := by decide +kernel
theorem dX5_readLeg_120 : decode cX5_readLeg 120 = .ok (.invokevirtual 141, 3) := by decide +kernel
theorem dX5_readLeg_123 : decode cX5_readLeg 123 = .ok (.ifCond .eq 7, 3) := by decide +kernel
theorem dX5_readLeg_126 : decode cX5_readLeg 126 = .ok (.iconst 1, 1) := by decide +kernel
theorem dX5_readLeg_127 : decode cX5_readLeg 127 = .ok (.goto 4, 3) := by decide +kernel
theorem dX5_readLeg_130 : decode cX5_readLeg 130 = .ok (.iconst 0, 1) := by decide +kernel
theorem dX5_readLeg_131 : decode cX5_readLeg 131 = .ok (.ireturn, 1) := by decide +kernel
theorem dX5_readFloor_0 : decode cX5_readFloor 0 = .ok (.aload_n 0, 1) := by decide +kernel
