theorem dX5_bestSaw_16 : decode cX5_bestSaw 16 = .ok (.iconst 1, 1) := by decide +kernel
theorem dX5_bestSaw_17 : decode cX5_bestSaw 17 = .ok (.invokevirtual 105, 3) := by decide +kernel
theorem dX5_bestSaw_20 : decode cX5_bestSaw 20 = .ok (.ifCond .eq 5, 3) := by decide +kernel
theorem dX5_bestSaw_23 : decode cX5_bestSaw 23 = .ok (.iconst 0, 1) := by decide +kernel
theorem dX5_bestSaw_24 : decode cX5_bestSaw 24 = .ok (.ireturn, 1) := by decide +kernel
theorem dX5_bestSaw_25 : decode cX5_bestSaw 25 = .ok (.aload_n 0, 1) := by decide +kernel
theorem dX5_bestSaw_26 : decode cX5_bestSaw 26 = .ok (.getfield 13, 3) := by decide +kernel
theorem dX5_bestSaw_29 : decode cX5_bestSaw 29 = .ok (.iload_n 1, 1) := by decide +kernel
theorem dX5_bestSaw_30 : decode cX5_bestSaw 30 = .ok (.invokestatic 69, 3) := by decide +kernel
theorem dX5_bestSaw_33 : decode cX5_bestSaw 33 = .ok (.istore_n 2, 1) := by decide +kernel
theorem dX5_bestSaw_34 : decode cX5_bestSaw 34 = .ok (.iconst (-1), 1) := by decide +kernel
theorem dX5_bestSaw_35 : decode cX5_bestSaw 35 = .ok (.istore_n 3, 1) := by decide +kernel
theorem dX5_bestSaw_36 : decode cX5_bestSaw 36 = .ok (.iconst 0, 1) := by decide +kernel
theorem dX5_bestSaw_37 : decode cX5_bestSaw 37 = .ok (.istore 4, 2) := by decide +kernel
theorem dX5_bestSaw_39 : decode cX5_bestSaw 39 = .ok (.iconst 0, 1) := by decide +kernel
theorem dX5_bestSaw_40 : decode cX5_bestSaw 40 = .ok (.istore 5, 2) := by decide +kernel
theorem dX5_bestSaw_42 : decode cX5_bestSaw 42 = .ok (.iload 5, 2) := by decide +kernel
theorem dX5_bestSaw_44 : decode cX5_bestSaw 44 = .ok (.iconst 4, 1) := by decide +kernel
theorem dX5_bestSaw_45 : decode cX5_bestSaw 45 = .ok (.if_icmp .ge 120, 3) := by decide +kernel
theorem dX5_bestSaw_48 : decode cX5_bestSaw 48 = .ok (.iload_n 2, 1) := by decide +kernel
theorem dX5_bestSaw_49 : decode cX5_bestSaw 49 = .ok (.ifCond .le 116, 3) := by decide +kernel
theorem dX5_bestSaw_52 : decode cX5_bestSaw 52 = .ok (.aload_n 0, 1) := by decide +kernel
theorem dX5_bestSaw_53 : decode cX5_bestSaw 53 = .ok (.getfield 13, 3) := by decide +kernel
theorem dX5_bestSaw_56 : decode cX5_bestSaw 56 = .ok (.iload_n 1, 1) := by decide +kernel
theorem dX5_bestSaw_57 : decode cX5_bestSaw 57 = .ok (.iload 5, 2) := by decide +kernel
theorem dX5_bestSaw_59 : decode cX5_bestSaw 59 = .ok (.iload_n 2, 1) := by decide +kernel
theorem dX5_bestSaw_60 : decode cX5_bestSaw 60 = .ok (.invokestatic 128, 3) := by decide +kernel
theorem dX5_bestSaw_63 : decode cX5_bestSaw 63 = .ok (.ifCond .eq 96, 3) := by decide +kernel
theorem dX5_bestSaw_66 : decode cX5_bestSaw 66 = .ok (.aload_n 0, 1) := by decide +kernel
theorem dX5_bestSaw_67 : decode cX5_bestSaw 67 = .ok (.getfield 13, 3) := by decide +kernel
theorem dX5_bestSaw_70 : decode cX5_bestSaw 70 = .ok (.iconst 0, 1) := by decide +kernel
theorem dX5_bestSaw_71 : decode cX5_bestSaw 71 = .ok (.aload_n 0, 1) := by decide +kernel
theorem dX5_bestSaw_72 : decode cX5_bestSaw 72 = .ok (.getfield 16, 3) := by decide +kernel
theorem dX5_bestSaw_75 : decode cX5_bestSaw 75 = .ok (.iconst 0, 1) := by decide +kernel
theorem dX5_bestSaw_76 : decode cX5_bestSaw 76 = .ok (.invokestatic 192, 3) := by decide +kernel
theorem dX5_bestSaw_79 : decode cX5_bestSaw 79 = .ok (.aload_n 0, 1) := by decide +kernel
theorem dX5_bestSaw_80 : decode cX5_bestSaw 80 = .ok (.getfield 16, 3) := by decide +kernel
theorem dX5_bestSaw_83 : decode cX5_bestSaw 83 = .ok (.iload_n 1, 1) := by decide +kernel
theorem dX5_bestSaw_84 : decode cX5_bestSaw 84 = .ok (.iload 5, 2) := by decide +kernel
theorem dX5_bestSaw_86 : decode cX5_bestSaw 86 = .ok (.iload_n 2, 1) := by decide +kernel
theorem dX5_bestSaw_87 : decode cX5_bestSaw 87 = .ok (.invokestatic 132, 3) := by decide +kernel
theorem dX5_bestSaw_90 : decode cX5_bestSaw 90 = .ok (.pop, 1) := by decide +kernel
theorem dX5_bestSaw_91 : decode cX5_bestSaw 91 = .ok (.aload_n 0, 1) := by decide +kernel
theorem dX5_bestSaw_92 : decode cX5_bestSaw 92 = .ok (.getfield 16, 3) := by decide +kernel
theorem dX5_bestSaw_95 : decode cX5_bestSaw 95 = .ok (.iload_n 1, 1) := by decide +kernel
theorem dX5_bestSaw_96 : decode cX5_bestSaw 96 = .ok (.invokestatic 69, 3) := by decide +kernel
theorem dX5_bestSaw_99 : decode cX5_bestSaw 99 = .ok (.ifCond .ne 25, 3) := by decide +kernel
theorem dX5_bestSaw_102 : decode cX5_bestSaw 102 = .ok (.iload_n 3, 1) := by decide +kernel
theorem dX5_bestSaw_103 : decode cX5_bestSaw 103 = .ok (.iconst (-1), 1) := by decide +kernel
theorem dX5_bestSaw_104 : decode cX5_bestSaw 104 = .ok (.if_icmp .eq 16, 3) := by decide +kernel
theorem dX5_bestSaw_107 : decode cX5_bestSaw 107 = .ok (.aload_n 0, 1) := by decide +kernel
theorem dX5_bestSaw_108 : decode cX5_bestSaw 108 = .ok (.getfield 16, 3) := by decide +kernel
theorem dX5_bestSaw_111 : decode cX5_bestSaw 111 = .ok (.iload_n 1, 1) := by decide +kernel
theorem dX5_bestSaw_112 : decode cX5_bestSaw 112 = .ok (.invokestatic 72, 3) := by decide +kernel
theorem dX5_bestSaw_115 : decode cX5_bestSaw 115 = .ok (.iload 4, 2) := by decide +kernel
theorem dX5_bestSaw_117 : decode cX5_bestSaw 117 = .ok (.if_icmp .ge 7, 3) := by decide +kernel
theorem dX5_bestSaw_120 : decode cX5_bestSaw 120 = .ok (.iconst 1, 1) := by decide +kernel
theorem dX5_bestSaw_121 : decode cX5_bestSaw 121 = .ok (.goto 4, 3) := by decide +kernel
theorem dX5_bestSaw_124 : decode cX5_bestSaw 124 = .ok (.iconst 0, 1) := by decide +kernel
theorem dX5_bestSaw_125 : decode cX5_bestSaw 125 = .ok (.istore 6, 2) := by decide +kernel
theorem dX5_bestSaw_127 : decode cX5_bestSaw 127 = .ok (.iload 6, 2) := by decide +kernel
theorem dX5_bestSaw_129 : decode cX5_bestSaw 129 = .ok (.ifCond .eq 8, 3) := by decide +kernel
theorem dX5_bestSaw_132 : decode cX5_bestSaw 132 = .ok (.iload 5, 2) := by decide +kernel
theorem dX5_bestSaw_134 : decode cX5_bestSaw 134 = .ok (.goto 4, 3) := by decide +kernel
theorem dX5_bestSaw_137 : decode cX5_bestSaw 137 = .ok (.iload_n 3, 1) := by decide +kernel
theorem dX5_bestSaw_138 : decode cX5_bestSaw 138 = .ok (.istore_n 3, 1) := by decide +kernel
theorem dX5_bestSaw_139 : decode cX5_bestSaw 139 = .ok (.iload 6, 2) := by decide +kernel
theorem dX5_bestSaw_141 : decode cX5_bestSaw 141 = .ok (.ifCond .eq 14, 3) := by decide +kernel
theorem dX5_bestSaw_144 : decode cX5_bestSaw 144 = .ok (.aload_n 0, 1) := by decide +kernel
theorem dX5_bestSaw_145 : decode cX5_bestSaw 145 = .ok (.getfield 16, 3) := by decide +kernel
theorem dX5_bestSaw_148 : decode cX5_bestSaw 148 = .ok (.iload_n 1, 1) := by decide +kernel
theorem dX5_bestSaw_149 : decode cX5_bestSaw 149 = .ok (.invokestatic 72, 3) := by decide +kernel
theorem dX5_bestSaw_152 : decode cX5_bestSaw 152 = .ok (.goto 5, 3) := by decide +kernel
theorem dX5_bestSaw_155 : decode cX5_bestSaw 155 = .ok (.iload 4, 2) := by decide +kernel
theorem dX5_bestSaw_157 : decode cX5_bestSaw 157 = .ok (.istore 4, 2) := by decide +kernel
theorem dX5_bestSaw_159 : decode cX5_bestSaw 159 = .ok (.iinc 5 1, 3) := by decide +kernel
theorem dX5_bestSaw_162 : decode cX5_bestSaw 162 = .ok (.goto (-120), 3) := by decide +kernel
theorem dX5_bestSaw_165 : decode cX5_bestSaw 165 = .ok (.iload_n 3, 1) := by decide +kernel
theorem dX5_bestSaw_166 : decode cX5_bestSaw 166 = .ok (.ireturn, 1) := by decide +kernel
theorem dX5_failsIn_0 : decode cX5_failsIn 0 = .ok (.aload_n 0, 1) := by decide +kernel
theorem dX5_failsIn_1 : decode cX5_failsIn 1 = .ok (.aload_n 0, 1) := by decide +kernel
theorem dX5_failsIn_2 : decode cX5_failsIn 2 = .ok (.getfield 13, 3) := by decide +kernel
theorem dX5_failsIn_5 : decode cX5_failsIn 5 = .ok (.iload_n 1, 1) := by decide +kernel
theorem dX5_failsIn_6 : decode cX5_failsIn 6 = .ok (.invokestatic 96, 3) := by decide +kernel
theorem dX5_failsIn_9 : decode cX5_failsIn 9 = .ok (.ifCond .ne 7, 3) := by decide +kernel
theorem dX5_failsIn_12 : decode cX5_failsIn 12 = .ok (.iconst 1, 1) := by decide +kernel
theorem dX5_failsIn_13 : decode cX5_failsIn 13 = .ok (.goto 20, 3) := by decide +kernel
theorem dX5_failsIn_16 : decode cX5_failsIn 16 = .ok (.iload_n 2, 1) := by decide +kernel
theorem dX5_failsIn_17 : decode cX5_failsIn 17 = .ok (.i2l, 1) := by decide +kernel
theorem dX5_failsIn_18 : decode cX5_failsIn 18 = .ok (.lconst 1, 1) := by decide +kernel
theorem dX5_failsIn_19 : decode cX5_failsIn 19 = .ok (.ldc2_w 47, 3) := by decide +kernel
theorem dX5_failsIn_22 : decode cX5_failsIn 22 = .ok (.invokestatic 37, 3) := by decide +kernel
theorem dX5_failsIn_25 : decode cX5_failsIn 25 = .ok (.ifCond .eq 7, 3) := by decide +kernel
theorem dX5_failsIn_28 : decode cX5_failsIn 28 = .ok (.iconst 0, 1) := by decide +kernel
theorem dX5_failsIn_29 : decode cX5_failsIn 29 = .ok (.goto 4, 3) := by decide +kernel
theorem dX5_failsIn_32 : decode cX5_failsIn 32 = .ok (.iconst 2, 1) := by decide +kernel
theorem dX5_failsIn_33 : decode cX5_failsIn 33 = .ok (.invokevirtual 105, 3) := by decide +kernel
theorem dX5_failsIn_36 : decode cX5_failsIn 36 = .ok (.ifCond .eq 5, 3) := by decide +kernel
theorem dX5_failsIn_39 : decode cX5_failsIn 39 = .ok (.iconst 0, 1) := by decide +kernel
theorem dX5_failsIn_40 : decode cX5_failsIn 40 = .ok (.ireturn, 1) := by decide +kernel
theorem dX5_failsIn_41 : decode cX5_failsIn 41 = .ok (.aload_n 0, 1) := by decide +kernel
theorem dX5_failsIn_42 : decode cX5_failsIn 42 = .ok (.getfield 13, 3) := by decide +kernel
theorem dX5_failsIn_45 : decode cX5_failsIn 45 = .ok (.iconst 0, 1) := by decide +kernel
theorem dX5_failsIn_46 : decode cX5_failsIn 46 = .ok (.aload_n 0, 1) := by decide +kernel
theorem dX5_failsIn_47 : decode cX5_failsIn 47 = .ok (.getfield 16, 3) := by decide +kernel
theorem dX5_failsIn_50 : decode cX5_failsIn 50 = .ok (.iconst 0, 1) := by decide +kernel
theorem dX5_failsIn_51 : decode cX5_failsIn 51 = .ok (.invokestatic 192, 3) := by decide +kernel
theorem dX5_failsIn_54 : decode cX5_failsIn 54 = .ok (.iconst 0, 1) := by decide +kernel
theorem dX5_failsIn_55 : decode cX5_failsIn 55 = .ok (.istore_n 3, 1) := by decide +kernel
theorem dX5_failsIn_56 : decode cX5_failsIn 56 = .ok (.iload_n 3, 1) := by decide +kernel
theorem dX5_failsIn_57 : decode cX5_failsIn 57 = .ok (.bipush 100, 2) := by decide +kernel
theorem dX5_failsIn_59 : decode cX5_failsIn 59 = .ok (.if_icmp .gt 32, 3) := by decide +kernel
theorem dX5_failsIn_62 : decode cX5_failsIn 62 = .ok (.aload_n 0, 1) := by decide +kernel
theorem dX5_failsIn_63 : decode cX5_failsIn 63 = .ok (.getfield 16, 3) := by decide +kernel
theorem dX5_failsIn_66 : decode cX5_failsIn 66 = .ok (.iload_n 1, 1) := by decide +kernel
theorem dX5_failsIn_67 : decode cX5_failsIn 67 = .ok (.invokestatic 90, 3) := by decide +kernel
theorem dX5_failsIn_70 : decode cX5_failsIn 70 = .ok (.ifCond .le 5, 3) := by decide +kernel
theorem dX5_failsIn_73 : decode cX5_failsIn 73 = .ok (.iload_n 3, 1) := by decide +kernel
theorem dX5_failsIn_74 : decode cX5_failsIn 74 = .ok (.ireturn, 1) := by decide +kernel
theorem dX5_failsIn_75 : decode cX5_failsIn 75 = .ok (.aload_n 0, 1) := by decide +kernel
theorem dX5_failsIn_76 : decode cX5_failsIn 76 = .ok (.getfield 16, 3) := by decide +kernel
theorem dX5_failsIn_79 : decode cX5_failsIn 79 = .ok (.iload_n 1, 1) := by decide +kernel
theorem dX5_failsIn_80 : decode cX5_failsIn 80 = .ok (.iload_n 2, 1) := by decide +kernel
theorem dX5_failsIn_81 : decode cX5_failsIn 81 = .ok (.invokestatic 179, 3) := by decide +kernel
theorem dX5_failsIn_84 : decode cX5_failsIn 84 = .ok (.pop, 1) := by decide +kernel
theorem dX5_failsIn_85 : decode cX5_failsIn 85 = .ok (.iinc 3 1, 3) := by decide +kernel
theorem dX5_failsIn_88 : decode cX5_failsIn 88 = .ok (.goto (-32), 3) := by decide +kernel
theorem dX5_failsIn_91 : decode cX5_failsIn 91 = .ok (.iconst (-1), 1) := by decide +kernel
theorem dX5_failsIn_92 : decode cX5_failsIn 92 = .ok (.ireturn, 1) := by decide +kernel
theorem dX5_bestFloor_0 : decode cX5_bestFloor 0 = .ok (.aload_n 0, 1) := by decide +kernel
theorem dX5_bestFloor_1 : decode cX5_bestFloor 1 = .ok (.aload_n 0, 1) := by decide +kernel
theorem dX5_bestFloor_2 : decode cX5_bestFloor 2 = .ok (.getfield 13, 3) := by decide +kernel
theorem dX5_bestFloor_5 : decode cX5_bestFloor 5 = .ok (.iload_n 1, 1) := by decide +kernel
theorem dX5_bestFloor_6 : decode cX5_bestFloor 6 = .ok (.invokestatic 96, 3) := by decide +kernel
theorem dX5_bestFloor_9 : decode cX5_bestFloor 9 = .ok (.ifCond .eq 7, 3) := by decide +kernel
theorem dX5_bestFloor_12 : decode cX5_bestFloor 12 = .ok (.iconst 0, 1) := by decide +kernel
theorem dX5_bestFloor_13 : decode cX5_bestFloor 13 = .ok (.goto 4, 3) := by decide +kernel
theorem dX5_bestFloor_16 : decode cX5_bestFloor 16 = .ok (.iconst 1, 1) := by decide +kernel
theorem dX5_bestFloor_17 : decode cX5_bestFloor 17 = .ok (.invokevirtual 105, 3) := by decide +kernel
theorem dX5_bestFloor_20 : decode cX5_bestFloor 20 = .ok (.ifCond .eq 5, 3) := by decide +kernel
theorem dX5_bestFloor_23 : decode cX5_bestFloor 23 = .ok (.iconst 0, 1) := by decide +kernel
theorem dX5_bestFloor_24 : decode cX5_bestFloor 24 = .ok (.ireturn, 1) := by decide +kernel
theorem dX5_bestFloor_25 : decode cX5_bestFloor 25 = .ok (.iconst 0, 1) := by decide +kernel
theorem dX5_bestFloor_26 : decode cX5_bestFloor 26 = .ok (.istore_n 2, 1) := by decide +kernel
theorem dX5_bestFloor_27 : decode cX5_bestFloor 27 = .ok (.iconst 1, 1) := by decide +kernel
theorem dX5_bestFloor_28 : decode cX5_bestFloor 28 = .ok (.istore_n 3, 1) := by decide +kernel
theorem dX5_bestFloor_29 : decode cX5_bestFloor 29 = .ok (.iload_n 3, 1) := by decide +kernel
theorem dX5_bestFloor_30 : decode cX5_bestFloor 30 = .ok (.aload_n 0, 1) := by decide +kernel
theorem dX5_bestFloor_31 : decode cX5_bestFloor 31 = .ok (.getfield 13, 3) := by decide +kernel
theorem dX5_bestFloor_34 : decode cX5_bestFloor 34 = .ok (.iconst 1, 1) := by decide +kernel
theorem dX5_bestFloor_35 : decode cX5_bestFloor 35 = .ok (.iaload, 1) := by decide +kernel
theorem dX5_bestFloor_36 : decode cX5_bestFloor 36 = .ok (.if_icmp .ge 39, 3) := by decide +kernel
theorem dX5_bestFloor_39 : decode cX5_bestFloor 39 = .ok (.aload_n 0, 1) := by decide +kernel
theorem dX5_bestFloor_40 : decode cX5_bestFloor 40 = .ok (.iload_n 1, 1) := by decide +kernel
theorem dX5_bestFloor_41 : decode cX5_bestFloor 41 = .ok (.iload_n 3, 1) := by decide +kernel
theorem dX5_bestFloor_42 : decode cX5_bestFloor 42 = .ok (.invokevirtual 229, 3) := by decide +kernel
theorem dX5_bestFloor_45 : decode cX5_bestFloor 45 = .ok (.ldc2_w 227, 3) := by decide +kernel
theorem dX5_bestFloor_48 : decode cX5_bestFloor 48 = .ok (.ldiv, 1) := by decide +kernel
theorem dX5_bestFloor_49 : decode cX5_bestFloor 49 = .ok (.aload_n 0, 1) := by decide +kernel
theorem dX5_bestFloor_50 : decode cX5_bestFloor 50 = .ok (.iload_n 1, 1) := by decide +kernel
theorem dX5_bestFloor_51 : decode cX5_bestFloor 51 = .ok (.iload_n 2, 1) := by decide +kernel
theorem dX5_bestFloor_52 : decode cX5_bestFloor 52 = .ok (.invokevirtual 229, 3) := by decide +kernel
theorem dX5_bestFloor_55 : decode cX5_bestFloor 55 = .ok (.ldc2_w 227, 3) := by decide +kernel
theorem dX5_bestFloor_58 : decode cX5_bestFloor 58 = .ok (.ldiv, 1) := by decide +kernel
theorem dX5_bestFloor_59 : decode cX5_bestFloor 59 = .ok (.lcmp, 1) := by decide +kernel
theorem dX5_bestFloor_60 : decode cX5_bestFloor 60 = .ok (.ifCond .ge 7, 3) := by decide +kernel
theorem dX5_bestFloor_63 : decode cX5_bestFloor 63 = .ok (.iload_n 3, 1) := by decide +kernel
theorem dX5_bestFloor_64 : decode cX5_bestFloor 64 = .ok (.goto 4, 3) := by decide +kernel
theorem dX5_bestFloor_67 : decode cX5_bestFloor 67 = .ok (.iload_n 2, 1) := by decide +kernel
theorem dX5_bestFloor_68 : decode cX5_bestFloor 68 = .ok (.istore_n 2, 1) := by decide +kernel
theorem dX5_bestFloor_69 : decode cX5_bestFloor 69 = .ok (.iinc 3 1, 3) := by decide +kernel
theorem dX5_bestFloor_72 : decode cX5_bestFloor 72 = .ok (.goto (-43), 3) := by decide +kernel
theorem dX5_bestFloor_75 : decode cX5_bestFloor 75 = .ok (.iload_n 2, 1) := by decide +kernel
theorem dX5_bestFloor_76 : decode cX5_bestFloor 76 = .ok (.ireturn, 1) := by decide +kernel
theorem dX5_sound_0 : decode cX5_sound 0 = .ok (.aload_n 0, 1) := by decide +kernel
theorem dX5_sound_1 : decode cX5_sound 1 = .ok (.iconst 0, 1) := by decide +kernel
theorem dX5_sound_2 : decode cX5_sound 2 = .ok (.putfield 33, 3) := by decide +kernel
theorem dX5_sound_5 : decode cX5_sound 5 = .ok (.iconst 0, 1) := by decide +kernel
theorem dX5_sound_6 : decode cX5_sound 6 = .ok (.istore_n 1, 1) := by decide +kernel
theorem dX5_sound_7 : decode cX5_sound 7 = .ok (.iconst 0, 1) := by decide +kernel
theorem dX5_sound_8 : decode cX5_sound 8 = .ok (.istore_n 2, 1) := by decide +kernel
theorem dX5_sound_9 : decode cX5_sound 9 = .ok (.iload_n 2, 1) := by decide +kernel
theorem dX5_sound_10 : decode cX5_sound 10 = .ok (.aload_n 0, 1) := by decide +kernel
theorem dX5_sound_11 : decode cX5_sound 11 = .ok (.getfield 13, 3) := by decide +kernel
theorem dX5_sound_14 : decode cX5_sound 14 = .ok (.iconst 0, 1) := by decide +kernel
theorem dX5_sound_15 : decode cX5_sound 15 = .ok (.iaload, 1) := by decide +kernel
theorem dX5_sound_16 : decode cX5_sound 16 = .ok (.if_icmp .ge 30, 3) := by decide +kernel
theorem dX5_sound_19 : decode cX5_sound 19 = .ok (.iload_n 1, 1) := by decide +kernel
theorem dX5_sound_20 : decode cX5_sound 20 = .ok (.aload_n 0, 1) := by decide +kernel
theorem dX5_sound_21 : decode cX5_sound 21 = .ok (.getfield 13, 3) := by decide +kernel
theorem dX5_sound_24 : decode cX5_sound 24 = .ok (.iload_n 2, 1) := by decide +kernel
theorem dX5_sound_25 : decode cX5_sound 25 = .ok (.invokestatic 90, 3) := by decide +kernel
theorem dX5_sound_28 : decode cX5_sound 28 = .ok (.ifCond .ne 9, 3) := by decide +kernel
theorem dX5_sound_31 : decode cX5_sound 31 = .ok (.iconst 1, 1) := by decide +kernel
theorem dX5_sound_32 : decode cX5_sound 32 = .ok (.iload_n 2, 1) := by decide +kernel
theorem dX5_sound_33 : decode cX5_sound 33 = .ok (.ishl, 1) := by decide +kernel
theorem dX5_sound_34 : decode cX5_sound 34 = .ok (.goto 4, 3) := by decide +kernel
theorem dX5_sound_37 : decode cX5_sound 37 = .ok (.iconst 0, 1) := by decide +kernel
theorem dX5_sound_38 : decode cX5_sound 38 = .ok (.ior, 1) := by decide +kernel
theorem dX5_sound_39 : decode cX5_sound 39 = .ok (.istore_n 1, 1) := by decide +kernel
theorem dX5_sound_40 : decode cX5_sound 40 = .ok (.iinc 2 1, 3) := by decide +kernel
theorem dX5_sound_43 : decode cX5_sound 43 = .ok (.goto (-34), 3) := by decide +kernel
theorem dX5_sound_46 : decode cX5_sound 46 = .ok (.iload_n 1, 1) := by decide +kernel
theorem dX5_sound_47 : decode cX5_sound 47 = .ok (.ireturn, 1) := by decide +kernel
theorem dX5_commandChair_0 : decode cX5_commandChair 0 = .ok (.iload_n 1, 1) := by decide +kernel
theorem dX5_commandChair_1 : decode cX5_commandChair 1 = .ok (.tableswitch 332 1 8 #[47, 103, 159, 212, 242, 332, 278, 301], 47) := by decide +kernel
theorem dX5_commandChair_48 : decode cX5_commandChair 48 = .ok (.iload_n 3, 1) := by decide +kernel
theorem dX5_commandChair_49 : decode cX5_commandChair 49 = .ok (.invokestatic 206, 3) := by decide +kernel
theorem dX5_commandChair_52 : decode cX5_commandChair 52 = .ok (.ifCond .eq 50, 3) := by decide +kernel
theorem dX5_commandChair_55 : decode cX5_commandChair 55 = .ok (.iload 4, 2) := by decide +kernel
theorem dX5_commandChair_57 : decode cX5_commandChair 57 = .ok (.i2l, 1) := by decide +kernel
theorem dX5_commandChair_58 : decode cX5_commandChair 58 = .ok (.lconst 1, 1) := by decide +kernel
theorem dX5_commandChair_59 : decode cX5_commandChair 59 = .ok (.ldc2_w 217, 3) := by decide +kernel
theorem dX5_commandChair_62 : decode cX5_commandChair 62 = .ok (.invokestatic 37, 3) := by decide +kernel
theorem dX5_commandChair_65 : decode cX5_commandChair 65 = .ok (.ifCond .eq 37, 3) := by decide +kernel
theorem dX5_commandChair_68 : decode cX5_commandChair 68 = .ok (.aload_n 0, 1) := by decide +kernel
theorem dX5_commandChair_69 : decode cX5_commandChair 69 = .ok (.getfield 16, 3) := by decide +kernel
theorem dX5_commandChair_72 : decode cX5_commandChair 72 = .ok (.iload_n 2, 1) := by decide +kernel
theorem dX5_commandChair_73 : decode cX5_commandChair 73 = .ok (.iload_n 3, 1) := by decide +kernel
theorem dX5_commandChair_74 : decode cX5_commandChair 74 = .ok (.iload 4, 2) := by decide +kernel
theorem dX5_commandChair_76 : decode cX5_commandChair 76 = .ok (.invokestatic 128, 3) := by decide +kernel
theorem dX5_commandChair_79 : decode cX5_commandChair 79 = .ok (.ifCond .eq 23, 3) := by decide +kernel
theorem dX5_commandChair_82 : decode cX5_commandChair 82 = .ok (.aload_n 0, 1) := by decide +kernel
theorem dX5_commandChair_83 : decode cX5_commandChair 83 = .ok (.getfield 16, 3) := by decide +kernel
theorem dX5_commandChair_86 : decode cX5_commandChair 86 = .ok (.iload_n 2, 1) := by decide +kernel
theorem dX5_commandChair_87 : decode cX5_commandChair 87 = .ok (.iload_n 3, 1) := by decide +kernel
theorem dX5_commandChair_88 : decode cX5_commandChair 88 = .ok (.iload 4, 2) := by decide +kernel
theorem dX5_commandChair_90 : decode cX5_commandChair 90 = .ok (.invokestatic 132, 3) := by decide +kernel
theorem dX5_commandChair_93 : decode cX5_commandChair 93 = .ok (.bipush 100, 2) := by decide +kernel
theorem dX5_commandChair_95 : decode cX5_commandChair 95 = .ok (.if_icmp .lt 7, 3) := by decide +kernel
theorem dX5_commandChair_98 : decode cX5_commandChair 98 = .ok (.iconst 1, 1) := by decide +kernel
theorem dX5_commandChair_99 : decode cX5_commandChair 99 = .ok (.goto 4, 3) := by decide +kernel
theorem dX5_commandChair_102 : decode cX5_commandChair 102 = .ok (.iconst 0, 1) := by decide +kernel
theorem dX5_commandChair_103 : decode cX5_commandChair 103 = .ok (.ireturn, 1) := by decide +kernel
theorem dX5_commandChair_104 : decode cX5_commandChair 104 = .ok (.iload_n 3, 1) := by decide +kernel
theorem dX5_commandChair_105 : decode cX5_commandChair 105 = .ok (.invokestatic 206, 3) := by decide +kernel
theorem dX5_commandChair_108 : decode cX5_commandChair 108 = .ok (.ifCond .eq 50, 3) := by decide +kernel
theorem dX5_commandChair_111 : decode cX5_commandChair 111 = .ok (.iload 4, 2) := by decide +kernel
theorem dX5_commandChair_113 : decode cX5_commandChair 113 = .ok (.i2l, 1) := by decide +kernel
theorem dX5_commandChair_114 : decode cX5_commandChair 114 = .ok (.lconst 1, 1) := by decide +kernel
theorem dX5_commandChair_115 : decode cX5_commandChair 115 = .ok (.ldc2_w 219, 3) := by decide +kernel
theorem dX5_commandChair_118 : decode cX5_commandChair 118 = .ok (.invokestatic 37, 3) := by decide +kernel
theorem dX5_commandChair_121 : decode cX5_commandChair 121 = .ok (.ifCond .eq 37, 3) := by decide +kernel
theorem dX5_commandChair_124 : decode cX5_commandChair 124 = .ok (.aload_n 0, 1) := by decide +kernel
theorem dX5_commandChair_125 : decode cX5_commandChair 125 = .ok (.getfield 16, 3) := by decide +kernel
theorem dX5_commandChair_128 : decode cX5_commandChair 128 = .ok (.iload_n 2, 1) := by decide +kernel
theorem dX5_commandChair_129 : decode cX5_commandChair 129 = .ok (.iload_n 3, 1) := by decide +kernel
theorem dX5_commandChair_130 : decode cX5_commandChair 130 = .ok (.iload 4, 2) := by decide +kernel
theorem dX5_commandChair_132 : decode cX5_commandChair 132 = .ok (.invokestatic 135, 3) := by decide +kernel
theorem dX5_commandChair_135 : decode cX5_commandChair 135 = .ok (.ifCond .eq 23, 3) := by decide +kernel
theorem dX5_commandChair_138 : decode cX5_commandChair 138 = .ok (.aload_n 0, 1) := by decide +kernel
theorem dX5_commandChair_139 : decode cX5_commandChair 139 = .ok (.getfield 16, 3) := by decide +kernel
theorem dX5_commandChair_142 : decode cX5_commandChair 142 = .ok (.iload_n 2, 1) := by decide +kernel
theorem dX5_commandChair_143 : decode cX5_commandChair 143 = .ok (.iload_n 3, 1) := by decide +kernel
theorem dX5_commandChair_144 : decode cX5_commandChair 144 = .ok (.iload 4, 2) := by decide +kernel
theorem dX5_commandChair_146 : decode cX5_commandChair 146 = .ok (.invokestatic 138, 3) := by decide +kernel
theorem dX5_commandChair_149 : decode cX5_commandChair 149 = .ok (.bipush 100, 2) := by decide +kernel
theorem dX5_commandChair_151 : decode cX5_commandChair 151 = .ok (.if_icmp .lt 7, 3) := by decide +kernel
theorem dX5_commandChair_154 : decode cX5_commandChair 154 = .ok (.iconst 1, 1) := by decide +kernel
theorem dX5_commandChair_155 : decode cX5_commandChair 155 = .ok (.goto 4, 3) := by decide +kernel
theorem dX5_commandChair_158 : decode cX5_commandChair 158 = .ok (.iconst 0, 1) := by decide +kernel
theorem dX5_commandChair_159 : decode cX5_commandChair 159 = .ok (.ireturn, 1) := by decide +kernel
theorem dX5_commandChair_160 : decode cX5_commandChair 160 = .ok (.iload 4, 2) := by decide +kernel
theorem dX5_commandChair_162 : decode cX5_commandChair 162 = .ok (.bipush 100, 2) := by decide +kernel
theorem dX5_commandChair_164 : decode cX5_commandChair 164 = .ok (.irem, 1) := by decide +kernel
theorem dX5_commandChair_165 : decode cX5_commandChair 165 = .ok (.ifCond .ne 46, 3) := by decide +kernel
theorem dX5_commandChair_168 : decode cX5_commandChair 168 = .ok (.aload_n 0, 1) := by decide +kernel
theorem dX5_commandChair_169 : decode cX5_commandChair 169 = .ok (.getfield 16, 3) := by decide +kernel
theorem dX5_commandChair_172 : decode cX5_commandChair 172 = .ok (.iload_n 3, 1) := by decide +kernel
theorem dX5_commandChair_173 : decode cX5_commandChair 173 = .ok (.invokestatic 149, 3) := by decide +kernel
theorem dX5_commandChair_176 : decode cX5_commandChair 176 = .ok (.ifCond .eq 35, 3) := by decide +kernel
theorem dX5_commandChair_179 : decode cX5_commandChair 179 = .ok (.iload 4, 2) := by decide +kernel
theorem dX5_commandChair_181 : decode cX5_commandChair 181 = .ok (.bipush 100, 2) := by decide +kernel
theorem dX5_commandChair_183 : decode cX5_commandChair 183 = .ok (.idiv, 1) := by decide +kernel
theorem dX5_commandChair_184 : decode cX5_commandChair 184 = .ok (.invokestatic 206, 3) := by decide +kernel
theorem dX5_commandChair_187 : decode cX5_commandChair 187 = .ok (.ifCond .eq 24, 3) := by decide +kernel
theorem dX5_commandChair_190 : decode cX5_commandChair 190 = .ok (.aload_n 0, 1) := by decide +kernel
theorem dX5_commandChair_191 : decode cX5_commandChair 191 = .ok (.getfield 16, 3) := by decide +kernel
theorem dX5_commandChair_194 : decode cX5_commandChair 194 = .ok (.iload_n 2, 1) := by decide +kernel
theorem dX5_commandChair_195 : decode cX5_commandChair 195 = .ok (.iload_n 3, 1) := by decide +kernel
theorem dX5_commandChair_196 : decode cX5_commandChair 196 = .ok (.iload 4, 2) := by decide +kernel
theorem dX5_commandChair_198 : decode cX5_commandChair 198 = .ok (.bipush 100, 2) := by decide +kernel
theorem dX5_commandChair_200 : decode cX5_commandChair 200 = .ok (.idiv, 1) := by decide +kernel
theorem dX5_commandChair_201 : decode cX5_commandChair 201 = .ok (.invokestatic 152, 3) := by decide +kernel
theorem dX5_commandChair_204 : decode cX5_commandChair 204 = .ok (.ifCond .lt 7, 3) := by decide +kernel
theorem dX5_commandChair_207 : decode cX5_commandChair 207 = .ok (.iconst 1, 1) := by decide +kernel
theorem dX5_commandChair_208 : decode cX5_commandChair 208 = .ok (.goto 4, 3) := by decide +kernel
theorem dX5_commandChair_211 : decode cX5_commandChair 211 = .ok (.iconst 0, 1) := by decide +kernel
theorem dX5_commandChair_212 : decode cX5_commandChair 212 = .ok (.ireturn, 1) := by decide +kernel
theorem dX5_commandChair_213 : decode cX5_commandChair 213 = .ok (.iload_n 3, 1) := by decide +kernel
theorem dX5_commandChair_214 : decode cX5_commandChair 214 = .ok (.ifCond .ne 27, 3) := by decide +kernel
theorem dX5_commandChair_217 : decode cX5_commandChair 217 = .ok (.iload 4, 2) := by decide +kernel
theorem dX5_commandChair_219 : decode cX5_commandChair 219 = .ok (.bipush 10, 2) := by decide +kernel
theorem dX5_commandChair_221 : decode cX5_commandChair 221 = .ok (.if_icmp .ge 20, 3) := by decide +kernel
theorem dX5_commandChair_224 : decode cX5_commandChair 224 = .ok (.aload_n 0, 1) := by decide +kernel
theorem dX5_commandChair_225 : decode cX5_commandChair 225 = .ok (.getfield 16, 3) := by decide +kernel
theorem dX5_commandChair_228 : decode cX5_commandChair 228 = .ok (.iload_n 2, 1) := by decide +kernel
theorem dX5_commandChair_229 : decode cX5_commandChair 229 = .ok (.invokestatic 176, 3) := by decide +kernel
theorem dX5_commandChair_232 : decode cX5_commandChair 232 = .ok (.iload 5, 2) := by decide +kernel
theorem dX5_commandChair_234 : decode cX5_commandChair 234 = .ok (.if_icmp .ne 7, 3) := by decide +kernel
theorem dX5_commandChair_237 : decode cX5_commandChair 237 = .ok (.iconst 1, 1) := by decide +kernel
theorem dX5_commandChair_238 : decode cX5_commandChair 238 = .ok (.goto 4, 3) := by decide +kernel
theorem dX5_commandChair_241 : decode cX5_commandChair 241 = .ok (.iconst 0, 1) := by decide +kernel
theorem dX5_commandChair_242 : decode cX5_commandChair 242 = .ok (.ireturn, 1) := by decide +kernel
theorem dX5_commandChair_243 : decode cX5_commandChair 243 = .ok (.iload_n 3, 1) := by decide +kernel
theorem dX5_commandChair_244 : decode cX5_commandChair 244 = .ok (.ifCond .ne 33, 3) := by decide +kernel
theorem dX5_commandChair_247 : decode cX5_commandChair 247 = .ok (.iload 4, 2) := by decide +kernel
theorem dX5_commandChair_249 : decode cX5_commandChair 249 = .ok (.i2l, 1) := by decide +kernel
theorem dX5_commandChair_250 : decode cX5_commandChair 250 = .ok (.lconst 1, 1) := by decide +kernel
theorem dX5_commandChair_251 : decode cX5_commandChair 251 = .ok (.ldc2_w 47, 3) := by decide +kernel
theorem dX5_commandChair_254 : decode cX5_commandChair 254 = .ok (.invokestatic 37, 3) := by decide +kernel
theorem dX5_commandChair_257 : decode cX5_commandChair 257 = .ok (.ifCond .eq 20, 3) := by decide +kernel
theorem dX5_commandChair_260 : decode cX5_commandChair 260 = .ok (.aload_n 0, 1) := by decide +kernel
theorem dX5_commandChair_261 : decode cX5_commandChair 261 = .ok (.getfield 16, 3) := by decide +kernel
theorem dX5_commandChair_264 : decode cX5_commandChair 264 = .ok (.iload_n 2, 1) := by decide +kernel
theorem dX5_commandChair_265 : decode cX5_commandChair 265 = .ok (.iload 4, 2) := by decide +kernel
theorem dX5_commandChair_267 : decode cX5_commandChair 267 = .ok (.invokestatic 179, 3) := by decide +kernel
theorem dX5_commandChair_270 : decode cX5_commandChair 270 = .ok (.ifCond .lt 7, 3) := by decide +kernel
theorem dX5_commandChair_273 : decode cX5_commandChair 273 = .ok (.iconst 1, 1) := by decide +kernel
theorem dX5_commandChair_274 : decode cX5_commandChair 274 = .ok (.goto 4, 3) := by decide +kernel
theorem dX5_commandChair_277 : decode cX5_commandChair 277 = .ok (.iconst 0, 1) := by decide +kernel
theorem dX5_commandChair_278 : decode cX5_commandChair 278 = .ok (.ireturn, 1) := by decide +kernel
theorem dX5_commandChair_279 : decode cX5_commandChair 279 = .ok (.iload_n 3, 1) := by decide +kernel
theorem dX5_commandChair_280 : decode cX5_commandChair 280 = .ok (.ifCond .ne 20, 3) := by decide +kernel
theorem dX5_commandChair_283 : decode cX5_commandChair 283 = .ok (.aload_n 0, 1) := by decide +kernel
theorem dX5_commandChair_284 : decode cX5_commandChair 284 = .ok (.getfield 16, 3) := by decide +kernel
theorem dX5_commandChair_287 : decode cX5_commandChair 287 = .ok (.iload_n 2, 1) := by decide +kernel
theorem dX5_commandChair_288 : decode cX5_commandChair 288 = .ok (.invokestatic 69, 3) := by decide +kernel
theorem dX5_commandChair_291 : decode cX5_commandChair 291 = .ok (.iload 4, 2) := by decide +kernel
theorem dX5_commandChair_293 : decode cX5_commandChair 293 = .ok (.if_icmp .gt 7, 3) := by decide +kernel
theorem dX5_commandChair_296 : decode cX5_commandChair 296 = .ok (.iconst 1, 1) := by decide +kernel
theorem dX5_commandChair_297 : decode cX5_commandChair 297 = .ok (.goto 4, 3) := by decide +kernel
theorem dX5_commandChair_300 : decode cX5_commandChair 300 = .ok (.iconst 0, 1) := by decide +kernel
theorem dX5_commandChair_301 : decode cX5_commandChair 301 = .ok (.ireturn, 1) := by decide +kernel
theorem dX5_commandChair_302 : decode cX5_commandChair 302 = .ok (.iload_n 3, 1) := by decide +kernel
theorem dX5_commandChair_303 : decode cX5_commandChair 303 = .ok (.ifCond .ne 28, 3) := by decide +kernel
theorem dX5_commandChair_306 : decode cX5_commandChair 306 = .ok (.iload 4, 2) := by decide +kernel
theorem dX5_commandChair_308 : decode cX5_commandChair 308 = .ok (.bipush 10, 2) := by decide +kernel
theorem dX5_commandChair_310 : decode cX5_commandChair 310 = .ok (.if_icmp .ge 21, 3) := by decide +kernel
theorem dX5_commandChair_313 : decode cX5_commandChair 313 = .ok (.aload_n 0, 1) := by decide +kernel
theorem dX5_commandChair_314 : decode cX5_commandChair 314 = .ok (.getfield 16, 3) := by decide +kernel
theorem dX5_commandChair_317 : decode cX5_commandChair 317 = .ok (.iload_n 2, 1) := by decide +kernel
theorem dX5_commandChair_318 : decode cX5_commandChair 318 = .ok (.iconst 3, 1) := by decide +kernel
theorem dX5_commandChair_319 : decode cX5_commandChair 319 = .ok (.invokestatic 51, 3) := by decide +kernel
theorem dX5_commandChair_322 : decode cX5_commandChair 322 = .ok (.iload 5, 2) := by decide +kernel
theorem dX5_commandChair_324 : decode cX5_commandChair 324 = .ok (.if_icmp .ne 7, 3) := by decide +kernel
theorem dX5_commandChair_327 : decode cX5_commandChair 327 = .ok (.iconst 1, 1) := by decide +kernel
theorem dX5_commandChair_328 : decode cX5_commandChair 328 = .ok (.goto 4, 3) := by decide +kernel
theorem dX5_commandChair_331 : decode cX5_commandChair 331 = .ok (.iconst 0, 1) := by decide +kernel
theorem dX5_commandChair_332 : decode cX5_commandChair 332 = .ok (.ireturn, 1) := by decide +kernel
theorem dX5_commandChair_333 : decode cX5_commandChair 333 = .ok (.iload_n 3, 1) := by decide +kernel
theorem dX5_commandChair_334 : decode cX5_commandChair 334 = .ok (.ifCond .ne 20, 3) := by decide +kernel
theorem dX5_commandChair_337 : decode cX5_commandChair 337 = .ok (.aload_n 0, 1) := by decide +kernel
theorem dX5_commandChair_338 : decode cX5_commandChair 338 = .ok (.getfield 16, 3) := by decide +kernel
theorem dX5_commandChair_341 : decode cX5_commandChair 341 = .ok (.iload_n 2, 1) := by decide +kernel
theorem dX5_commandChair_342 : decode cX5_commandChair 342 = .ok (.invokestatic 72, 3) := by decide +kernel
theorem dX5_commandChair_345 : decode cX5_commandChair 345 = .ok (.iload 4, 2) := by decide +kernel
theorem dX5_commandChair_347 : decode cX5_commandChair 347 = .ok (.if_icmp .gt 7, 3) := by decide +kernel
theorem dX5_commandChair_350 : decode cX5_commandChair 350 = .ok (.iconst 1, 1) := by decide +kernel
theorem dX5_commandChair_351 : decode cX5_commandChair 351 = .ok (.goto 4, 3) := by decide +kernel
theorem dX5_commandChair_354 : decode cX5_commandChair 354 = .ok (.iconst 0, 1) := by decide +kernel
theorem dX5_commandChair_355 : decode cX5_commandChair 355 = .ok (.ireturn, 1) := by decide +kernel
theorem dX5_command_0 : decode cX5_command 0 = .ok (.iload_n 2, 1) := by decide +kernel
theorem dX5_command_1 : decode cX5_command 1 = .ok (.sipush 10000, 3) := by decide +kernel
theorem dX5_command_4 : decode cX5_command 4 = .ok (.idiv, 1) := by decide +kernel
theorem dX5_command_5 : decode cX5_command 5 = .ok (.istore_n 3, 1) := by decide +kernel
theorem dX5_command_6 : decode cX5_command 6 = .ok (.iload_n 2, 1) := by decide +kernel
theorem dX5_command_7 : decode cX5_command 7 = .ok (.sipush 1000, 3) := by decide +kernel
theorem dX5_command_10 : decode cX5_command 10 = .ok (.idiv, 1) := by decide +kernel
theorem dX5_command_11 : decode cX5_command 11 = .ok (.bipush 10, 2) := by decide +kernel
theorem dX5_command_13 : decode cX5_command 13 = .ok (.irem, 1) := by decide +kernel
theorem dX5_command_14 : decode cX5_command 14 = .ok (.istore 4, 2) := by decide +kernel
theorem dX5_command_16 : decode cX5_command 16 = .ok (.iload_n 2, 1) := by decide +kernel
theorem dX5_command_17 : decode cX5_command 17 = .ok (.sipush 1000, 3) := by decide +kernel
theorem dX5_command_20 : decode cX5_command 20 = .ok (.irem, 1) := by decide +kernel
theorem dX5_command_21 : decode cX5_command 21 = .ok (.istore 5, 2) := by decide +kernel
theorem dX5_command_23 : decode cX5_command 23 = .ok (.iload_n 1, 1) := by decide +kernel
theorem dX5_command_24 : decode cX5_command 24 = .ok (.bipush 6, 2) := by decide +kernel
theorem dX5_command_26 : decode cX5_command 26 = .ok (.if_icmp .ne 49, 3) := by decide +kernel
theorem dX5_command_29 : decode cX5_command 29 = .ok (.iload_n 3, 1) := by decide +kernel
theorem dX5_command_30 : decode cX5_command 30 = .ok (.invokestatic 206, 3) := by decide +kernel
theorem dX5_command_33 : decode cX5_command 33 = .ok (.ifCond .eq 40, 3) := by decide +kernel
theorem dX5_command_36 : decode cX5_command 36 = .ok (.iload 4, 2) := by decide +kernel
theorem dX5_command_38 : decode cX5_command 38 = .ok (.invokestatic 206, 3) := by decide +kernel
theorem dX5_command_41 : decode cX5_command 41 = .ok (.ifCond .eq 32, 3) := by decide +kernel
theorem dX5_command_44 : decode cX5_command 44 = .ok (.iload 4, 2) := by decide +kernel
theorem dX5_command_46 : decode cX5_command 46 = .ok (.iload 5, 2) := by decide +kernel
theorem dX5_command_48 : decode cX5_command 48 = .ok (.invokestatic 155, 3) := by decide +kernel
theorem dX5_command_51 : decode cX5_command 51 = .ok (.ifCond .eq 22, 3) := by decide +kernel
theorem dX5_command_54 : decode cX5_command 54 = .ok (.aload_n 0, 1) := by decide +kernel
theorem dX5_command_55 : decode cX5_command 55 = .ok (.getfield 16, 3) := by decide +kernel
theorem dX5_command_58 : decode cX5_command 58 = .ok (.iload_n 3, 1) := by decide +kernel
theorem dX5_command_59 : decode cX5_command 59 = .ok (.iload 4, 2) := by decide +kernel
theorem dX5_command_61 : decode cX5_command 61 = .ok (.iload 5, 2) := by decide +kernel
theorem dX5_command_63 : decode cX5_command 63 = .ok (.invokestatic 159, 3) := by decide +kernel
theorem dX5_command_66 : decode cX5_command 66 = .ok (.ifCond .lt 7, 3) := by decide +kernel
theorem dX5_command_69 : decode cX5_command 69 = .ok (.iconst 1, 1) := by decide +kernel
theorem dX5_command_70 : decode cX5_command 70 = .ok (.goto 4, 3) := by decide +kernel
theorem dX5_command_73 : decode cX5_command 73 = .ok (.iconst 0, 1) := by decide +kernel
theorem dX5_command_74 : decode cX5_command 74 = .ok (.ireturn, 1) := by decide +kernel
theorem dX5_command_75 : decode cX5_command 75 = .ok (.iload_n 1, 1) := by decide +kernel
theorem dX5_command_76 : decode cX5_command 76 = .ok (.ifCond .le 35, 3) := by decide +kernel
theorem dX5_command_79 : decode cX5_command 79 = .ok (.aload_n 0, 1) := by decide +kernel
theorem dX5_command_80 : decode cX5_command 80 = .ok (.getfield 16, 3) := by decide +kernel
theorem dX5_command_83 : decode cX5_command 83 = .ok (.iload_n 3, 1) := by decide +kernel
theorem dX5_command_84 : decode cX5_command 84 = .ok (.invokestatic 96, 3) := by decide +kernel
theorem dX5_command_87 : decode cX5_command 87 = .ok (.ifCond .eq 24, 3) := by decide +kernel
theorem dX5_command_90 : decode cX5_command 90 = .ok (.aload_n 0, 1) := by decide +kernel
theorem dX5_command_91 : decode cX5_command 91 = .ok (.iload_n 1, 1) := by decide +kernel
theorem dX5_command_92 : decode cX5_command 92 = .ok (.iload_n 3, 1) := by decide +kernel
theorem dX5_command_93 : decode cX5_command 93 = .ok (.iload 4, 2) := by decide +kernel
theorem dX5_command_95 : decode cX5_command 95 = .ok (.iload 5, 2) := by decide +kernel
theorem dX5_command_97 : decode cX5_command 97 = .ok (.iload_n 2, 1) := by decide +kernel
theorem dX5_command_98 : decode cX5_command 98 = .ok (.bipush 10, 2) := by decide +kernel
theorem dX5_command_100 : decode cX5_command 100 = .ok (.irem, 1) := by decide +kernel
theorem dX5_command_101 : decode cX5_command 101 = .ok (.invokevirtual 233, 3) := by decide +kernel
theorem dX5_command_104 : decode cX5_command 104 = .ok (.ifCond .eq 7, 3) := by decide +kernel
theorem dX5_command_107 : decode cX5_command 107 = .ok (.iconst 1, 1) := by decide +kernel
theorem dX5_command_108 : decode cX5_command 108 = .ok (.goto 4, 3) := by decide +kernel
theorem dX5_command_111 : decode cX5_command 111 = .ok (.iconst 0, 1) := by decide +kernel
theorem dX5_command_112 : decode cX5_command 112 = .ok (.ireturn, 1) := by decide +kernel
theorem dX5_runScript_0 : decode cX5_runScript 0 = .ok (.lconst 1, 1) := by decide +kernel
theorem dX5_runScript_1 : decode cX5_runScript 1 = .ok (.lstore 4, 2) := by decide +kernel
theorem dX5_runScript_3 : decode cX5_runScript 3 = .ok (.iconst 0, 1) := by decide +kernel
theorem dX5_runScript_4 : decode cX5_runScript 4 = .ok (.istore 6, 2) := by decide +kernel
theorem dX5_runScript_6 : decode cX5_runScript 6 = .ok (.iload 6, 2) := by decide +kernel
theorem dX5_runScript_8 : decode cX5_runScript 8 = .ok (.iload_n 1, 1) := by decide +kernel
theorem dX5_runScript_9 : decode cX5_runScript 9 = .ok (.if_icmp .ge 23, 3) := by decide +kernel
theorem dX5_runScript_12 : decode cX5_runScript 12 = .ok (.iload 6, 2) := by decide +kernel
theorem dX5_runScript_14 : decode cX5_runScript 14 = .ok (.iconst 3, 1) := by decide +kernel
theorem dX5_runScript_15 : decode cX5_runScript 15 = .ok (.if_icmp .ge 17, 3) := by decide +kernel
theorem dX5_runScript_18 : decode cX5_runScript 18 = .ok (.lload 4, 2) := by decide +kernel
theorem dX5_runScript_20 : decode cX5_runScript 20 = .ok (.ldc2_w 227, 3) := by decide +kernel
theorem dX5_runScript_23 : decode cX5_runScript 23 = .ok (.lmul, 1) := by decide +kernel
theorem dX5_runScript_24 : decode cX5_runScript 24 = .ok (.lstore 4, 2) := by decide +kernel
theorem dX5_runScript_26 : decode cX5_runScript 26 = .ok (.iinc 6 1, 3) := by decide +kernel
theorem dX5_runScript_29 : decode cX5_runScript 29 = .ok (.goto (-23), 3) := by decide +kernel
theorem dX5_runScript_32 : decode cX5_runScript 32 = .ok (.aload_n 0, 1) := by decide +kernel
theorem dX5_runScript_33 : decode cX5_runScript 33 = .ok (.iload_n 1, 1) := by decide +kernel
theorem dX5_runScript_34 : decode cX5_runScript 34 = .ok (.i2l, 1) := by decide +kernel
theorem dX5_runScript_35 : decode cX5_runScript 35 = .ok (.lconst 1, 1) := by decide +kernel
theorem dX5_runScript_36 : decode cX5_runScript 36 = .ok (.ldc2_w 41, 3) := by decide +kernel
theorem dX5_runScript_39 : decode cX5_runScript 39 = .ok (.invokestatic 37, 3) := by decide +kernel
theorem dX5_runScript_42 : decode cX5_runScript 42 = .ok (.ifCond .eq 19, 3) := by decide +kernel
theorem dX5_runScript_45 : decode cX5_runScript 45 = .ok (.lload_n 2, 1) := by decide +kernel
theorem dX5_runScript_46 : decode cX5_runScript 46 = .ok (.lconst 0, 1) := by decide +kernel
theorem dX5_runScript_47 : decode cX5_runScript 47 = .ok (.lload 4, 2) := by decide +kernel
theorem dX5_runScript_49 : decode cX5_runScript 49 = .ok (.lconst 1, 1) := by decide +kernel
theorem dX5_runScript_50 : decode cX5_runScript 50 = .ok (.lsub, 1) := by decide +kernel
theorem dX5_runScript_51 : decode cX5_runScript 51 = .ok (.invokestatic 37, 3) := by decide +kernel
theorem dX5_runScript_54 : decode cX5_runScript 54 = .ok (.ifCond .eq 7, 3) := by decide +kernel
theorem dX5_runScript_57 : decode cX5_runScript 57 = .ok (.iconst 0, 1) := by decide +kernel
theorem dX5_runScript_58 : decode cX5_runScript 58 = .ok (.goto 4, 3) := by decide +kernel
theorem dX5_runScript_61 : decode cX5_runScript 61 = .ok (.iconst 1, 1) := by decide +kernel
theorem dX5_runScript_62 : decode cX5_runScript 62 = .ok (.invokevirtual 105, 3) := by decide +kernel
theorem dX5_runScript_65 : decode cX5_runScript 65 = .ok (.ifCond .eq 5, 3) := by decide +kernel
theorem dX5_runScript_68 : decode cX5_runScript 68 = .ok (.iconst 0, 1) := by decide +kernel
theorem dX5_runScript_69 : decode cX5_runScript 69 = .ok (.ireturn, 1) := by decide +kernel
theorem dX5_runScript_70 : decode cX5_runScript 70 = .ok (.aload_n 0, 1) := by decide +kernel
theorem dX5_runScript_71 : decode cX5_runScript 71 = .ok (.getfield 13, 3) := by decide +kernel
theorem dX5_runScript_74 : decode cX5_runScript 74 = .ok (.iconst 0, 1) := by decide +kernel
theorem dX5_runScript_75 : decode cX5_runScript 75 = .ok (.aload_n 0, 1) := by decide +kernel
theorem dX5_runScript_76 : decode cX5_runScript 76 = .ok (.getfield 16, 3) := by decide +kernel
theorem dX5_runScript_79 : decode cX5_runScript 79 = .ok (.iconst 0, 1) := by decide +kernel
theorem dX5_runScript_80 : decode cX5_runScript 80 = .ok (.invokestatic 192, 3) := by decide +kernel
theorem dX5_runScript_83 : decode cX5_runScript 83 = .ok (.iconst 0, 1) := by decide +kernel
theorem dX5_runScript_84 : decode cX5_runScript 84 = .ok (.istore 6, 2) := by decide +kernel
theorem dX5_runScript_86 : decode cX5_runScript 86 = .ok (.iload 6, 2) := by decide +kernel
theorem dX5_runScript_88 : decode cX5_runScript 88 = .ok (.iload_n 1, 1) := by decide +kernel
theorem dX5_runScript_89 : decode cX5_runScript 89 = .ok (.if_icmp .ge 48, 3) := by decide +kernel
theorem dX5_runScript_92 : decode cX5_runScript 92 = .ok (.lload 4, 2) := by decide +kernel
theorem dX5_runScript_94 : decode cX5_runScript 94 = .ok (.ldc2_w 227, 3) := by decide +kernel
theorem dX5_runScript_97 : decode cX5_runScript 97 = .ok (.ldiv, 1) := by decide +kernel
theorem dX5_runScript_98 : decode cX5_runScript 98 = .ok (.lstore 4, 2) := by decide +kernel
theorem dX5_runScript_100 : decode cX5_runScript 100 = .ok (.lload_n 2, 1) := by decide +kernel
theorem dX5_runScript_101 : decode cX5_runScript 101 = .ok (.lload 4, 2) := by decide +kernel
theorem dX5_runScript_103 : decode cX5_runScript 103 = .ok (.ldiv, 1) := by decide +kernel
theorem dX5_runScript_104 : decode cX5_runScript 104 = .ok (.ldc2_w 227, 3) := by decide +kernel
theorem dX5_runScript_107 : decode cX5_runScript 107 = .ok (.lrem, 1) := by decide +kernel
theorem dX5_runScript_108 : decode cX5_runScript 108 = .ok (.l2i, 1) := by decide +kernel
theorem dX5_runScript_109 : decode cX5_runScript 109 = .ok (.istore 7, 2) := by decide +kernel
theorem dX5_runScript_111 : decode cX5_runScript 111 = .ok (.aload_n 0, 1) := by decide +kernel
theorem dX5_runScript_112 : decode cX5_runScript 112 = .ok (.iload 7, 2) := by decide +kernel
theorem dX5_runScript_114 : decode cX5_runScript 114 = .ok (.ldc 237, 2) := by decide +kernel
theorem dX5_runScript_116 : decode cX5_runScript 116 = .ok (.idiv, 1) := by decide +kernel
theorem dX5_runScript_117 : decode cX5_runScript 117 = .ok (.iload 7, 2) := by decide +kernel
theorem dX5_runScript_119 : decode cX5_runScript 119 = .ok (.ldc 237, 2) := by decide +kernel
theorem dX5_runScript_121 : decode cX5_runScript 121 = .ok (.irem, 1) := by decide +kernel
theorem dX5_runScript_122 : decode cX5_runScript 122 = .ok (.invokevirtual 238, 3) := by decide +kernel
theorem dX5_runScript_125 : decode cX5_runScript 125 = .ok (.ifCond .ne 6, 3) := by decide +kernel
theorem dX5_runScript_128 : decode cX5_runScript 128 = .ok (.iload 6, 2) := by decide +kernel
theorem dX5_runScript_130 : decode cX5_runScript 130 = .ok (.ireturn, 1) := by decide +kernel
theorem dX5_runScript_131 : decode cX5_runScript 131 = .ok (.iinc 6 1, 3) := by decide +kernel
theorem dX5_runScript_134 : decode cX5_runScript 134 = .ok (.goto (-48), 3) := by decide +kernel
theorem dX5_runScript_137 : decode cX5_runScript 137 = .ok (.iconst (-1), 1) := by decide +kernel
theorem dX5_runScript_138 : decode cX5_runScript 138 = .ok (.ireturn, 1) := by decide +kernel
theorem dX5_turnLeg_0 : decode cX5_turnLeg 0 = .ok (.iload_n 2, 1) := by decide +kernel
theorem dX5_turnLeg_1 : decode cX5_turnLeg 1 = .ok (.bipush 10, 2) := by decide +kernel
theorem dX5_turnLeg_3 : decode cX5_turnLeg 3 = .ok (.irem, 1) := by decide +kernel
theorem dX5_turnLeg_4 : decode cX5_turnLeg 4 = .ok (.istore_n 3, 1) := by decide +kernel
theorem dX5_turnLeg_5 : decode cX5_turnLeg 5 = .ok (.iload_n 2, 1) := by decide +kernel
theorem dX5_turnLeg_6 : decode cX5_turnLeg 6 = .ok (.bipush 16, 2) := by decide +kernel
theorem dX5_turnLeg_8 : decode cX5_turnLeg 8 = .ok (.idiv, 1) := by decide +kernel
theorem dX5_turnLeg_9 : decode cX5_turnLeg 9 = .ok (.iconst 4, 1) := by decide +kernel
theorem dX5_turnLeg_10 : decode cX5_turnLeg 10 = .ok (.irem, 1) := by decide +kernel
theorem dX5_turnLeg_11 : decode cX5_turnLeg 11 = .ok (.istore 4, 2) := by decide +kernel
theorem dX5_turnLeg_13 : decode cX5_turnLeg 13 = .ok (.iconst 1, 1) := by decide +kernel
theorem dX5_turnLeg_14 : decode cX5_turnLeg 14 = .ok (.iload_n 2, 1) := by decide +kernel
theorem dX5_turnLeg_15 : decode cX5_turnLeg 15 = .ok (.bipush 64, 2) := by decide +kernel
theorem dX5_turnLeg_17 : decode cX5_turnLeg 17 = .ok (.idiv, 1) := by decide +kernel
theorem dX5_turnLeg_18 : decode cX5_turnLeg 18 = .ok (.bipush 9, 2) := by decide +kernel
theorem dX5_turnLeg_20 : decode cX5_turnLeg 20 = .ok (.irem, 1) := by decide +kernel
theorem dX5_turnLeg_21 : decode cX5_turnLeg 21 = .ok (.iadd, 1) := by decide +kernel
theorem dX5_turnLeg_22 : decode cX5_turnLeg 22 = .ok (.istore 5, 2) := by decide +kernel
theorem dX5_turnLeg_24 : decode cX5_turnLeg 24 = .ok (.iload_n 1, 1) := by decide +kernel
theorem dX5_turnLeg_25 : decode cX5_turnLeg 25 = .ok (.bipush 6, 2) := by decide +kernel
theorem dX5_turnLeg_27 : decode cX5_turnLeg 27 = .ok (.if_icmp .ge 28, 3) := by decide +kernel
theorem dX5_turnLeg_30 : decode cX5_turnLeg 30 = .ok (.aload_n 0, 1) := by decide +kernel
theorem dX5_turnLeg_31 : decode cX5_turnLeg 31 = .ok (.iload_n 3, 1) := by decide +kernel
theorem dX5_turnLeg_32 : decode cX5_turnLeg 32 = .ok (.iload 4, 2) := by decide +kernel
theorem dX5_turnLeg_34 : decode cX5_turnLeg 34 = .ok (.iload 5, 2) := by decide +kernel
theorem dX5_turnLeg_36 : decode cX5_turnLeg 36 = .ok (.invokestatic 128, 3) := by decide +kernel
theorem dX5_turnLeg_39 : decode cX5_turnLeg 39 = .ok (.ifCond .eq 38, 3) := by decide +kernel
theorem dX5_turnLeg_42 : decode cX5_turnLeg 42 = .ok (.aload_n 0, 1) := by decide +kernel
theorem dX5_turnLeg_43 : decode cX5_turnLeg 43 = .ok (.iload_n 3, 1) := by decide +kernel
theorem dX5_turnLeg_44 : decode cX5_turnLeg 44 = .ok (.iload 4, 2) := by decide +kernel
theorem dX5_turnLeg_46 : decode cX5_turnLeg 46 = .ok (.iload 5, 2) := by decide +kernel
theorem dX5_turnLeg_48 : decode cX5_turnLeg 48 = .ok (.invokestatic 132, 3) := by decide +kernel
theorem dX5_turnLeg_51 : decode cX5_turnLeg 51 = .ok (.pop, 1) := by decide +kernel
theorem dX5_turnLeg_52 : decode cX5_turnLeg 52 = .ok (.goto 25, 3) := by decide +kernel
theorem dX5_turnLeg_55 : decode cX5_turnLeg 55 = .ok (.aload_n 0, 1) := by decide +kernel
theorem dX5_turnLeg_56 : decode cX5_turnLeg 56 = .ok (.iload_n 3, 1) := by decide +kernel
theorem dX5_turnLeg_57 : decode cX5_turnLeg 57 = .ok (.iload 4, 2) := by decide +kernel
theorem dX5_turnLeg_59 : decode cX5_turnLeg 59 = .ok (.iload 5, 2) := by decide +kernel
theorem dX5_turnLeg_61 : decode cX5_turnLeg 61 = .ok (.invokestatic 135, 3) := by decide +kernel
theorem dX5_turnLeg_64 : decode cX5_turnLeg 64 = .ok (.ifCond .eq 13, 3) := by decide +kernel
theorem dX5_turnLeg_67 : decode cX5_turnLeg 67 = .ok (.aload_n 0, 1) := by decide +kernel
theorem dX5_turnLeg_68 : decode cX5_turnLeg 68 = .ok (.iload_n 3, 1) := by decide +kernel
theorem dX5_turnLeg_69 : decode cX5_turnLeg 69 = .ok (.iload 4, 2) := by decide +kernel
theorem dX5_turnLeg_71 : decode cX5_turnLeg 71 = .ok (.iload 5, 2) := by decide +kernel
theorem dX5_turnLeg_73 : decode cX5_turnLeg 73 = .ok (.invokestatic 138, 3) := by decide +kernel
theorem dX5_turnLeg_76 : decode cX5_turnLeg 76 = .ok (.pop, 1) := by decide +kernel
theorem dX5_turnLeg_77 : decode cX5_turnLeg 77 = .ok (.return_, 1) := by decide +kernel
theorem dX5_turnOf_0 : decode cX5_turnOf 0 = .ok (.iload_n 2, 1) := by decide +kernel
theorem dX5_turnOf_1 : decode cX5_turnOf 1 = .ok (.bipush 10, 2) := by decide +kernel
theorem dX5_turnOf_3 : decode cX5_turnOf 3 = .ok (.irem, 1) := by decide +kernel
theorem dX5_turnOf_4 : decode cX5_turnOf 4 = .ok (.istore_n 3, 1) := by decide +kernel
theorem dX5_turnOf_5 : decode cX5_turnOf 5 = .ok (.iload_n 1, 1) := by decide +kernel
theorem dX5_turnOf_6 : decode cX5_turnOf 6 = .ok (.iconst 2, 1) := by decide +kernel
theorem dX5_turnOf_7 : decode cX5_turnOf 7 = .ok (.if_icmp .ge 32, 3) := by decide +kernel
theorem dX5_turnOf_10 : decode cX5_turnOf 10 = .ok (.aload_n 0, 1) := by decide +kernel
theorem dX5_turnOf_11 : decode cX5_turnOf 11 = .ok (.iconst 0, 1) := by decide +kernel
theorem dX5_turnOf_12 : decode cX5_turnOf 12 = .ok (.iaload, 1) := by decide +kernel
theorem dX5_turnOf_13 : decode cX5_turnOf 13 = .ok (.bipush 10, 2) := by decide +kernel
theorem dX5_turnOf_15 : decode cX5_turnOf 15 = .ok (.if_icmp .ge 241, 3) := by decide +kernel
theorem dX5_turnOf_18 : decode cX5_turnOf 18 = .ok (.aload_n 0, 1) := by decide +kernel
theorem dX5_turnOf_19 : decode cX5_turnOf 19 = .ok (.iload_n 2, 1) := by decide +kernel
theorem dX5_turnOf_20 : decode cX5_turnOf 20 = .ok (.iconst 4, 1) := by decide +kernel
theorem dX5_turnOf_21 : decode cX5_turnOf 21 = .ok (.irem, 1) := by decide +kernel
theorem dX5_turnOf_22 : decode cX5_turnOf 22 = .ok (.sipush 400, 3) := by decide +kernel
theorem dX5_turnOf_25 : decode cX5_turnOf 25 = .ok (.iload_n 2, 1) := by decide +kernel
theorem dX5_turnOf_26 : decode cX5_turnOf 26 = .ok (.iconst 4, 1) := by decide +kernel
theorem dX5_turnOf_27 : decode cX5_turnOf 27 = .ok (.idiv, 1) := by decide +kernel
theorem dX5_turnOf_28 : decode cX5_turnOf 28 = .ok (.bipush 101, 2) := by decide +kernel
theorem dX5_turnOf_30 : decode cX5_turnOf 30 = .ok (.irem, 1) := by decide +kernel
theorem dX5_turnOf_31 : decode cX5_turnOf 31 = .ok (.iadd, 1) := by decide +kernel
theorem dX5_turnOf_32 : decode cX5_turnOf 32 = .ok (.invokestatic 162, 3) := by decide +kernel
theorem dX5_turnOf_35 : decode cX5_turnOf 35 = .ok (.pop, 1) := by decide +kernel
theorem dX5_turnOf_36 : decode cX5_turnOf 36 = .ok (.goto 220, 3) := by decide +kernel
theorem dX5_turnOf_39 : decode cX5_turnOf 39 = .ok (.iload_n 1, 1) := by decide +kernel
theorem dX5_turnOf_40 : decode cX5_turnOf 40 = .ok (.iconst 2, 1) := by decide +kernel
theorem dX5_turnOf_41 : decode cX5_turnOf 41 = .ok (.if_icmp .ne 44, 3) := by decide +kernel
theorem dX5_turnOf_44 : decode cX5_turnOf 44 = .ok (.aload_n 0, 1) := by decide +kernel
theorem dX5_turnOf_45 : decode cX5_turnOf 45 = .ok (.iconst 1, 1) := by decide +kernel
theorem dX5_turnOf_46 : decode cX5_turnOf 46 = .ok (.iaload, 1) := by decide +kernel
theorem dX5_turnOf_47 : decode cX5_turnOf 47 = .ok (.iconst 4, 1) := by decide +kernel
theorem dX5_turnOf_48 : decode cX5_turnOf 48 = .ok (.if_icmp .ge 208, 3) := by decide +kernel
theorem dX5_turnOf_51 : decode cX5_turnOf 51 = .ok (.aload_n 0, 1) := by decide +kernel
theorem dX5_turnOf_52 : decode cX5_turnOf 52 = .ok (.iload_n 2, 1) := by decide +kernel
theorem dX5_turnOf_53 : decode cX5_turnOf 53 = .ok (.bipush 9, 2) := by decide +kernel
theorem dX5_turnOf_55 : decode cX5_turnOf 55 = .ok (.irem, 1) := by decide +kernel
theorem dX5_turnOf_56 : decode cX5_turnOf 56 = .ok (.iload_n 2, 1) := by decide +kernel
theorem dX5_turnOf_57 : decode cX5_turnOf 57 = .ok (.bipush 9, 2) := by decide +kernel
theorem dX5_turnOf_59 : decode cX5_turnOf 59 = .ok (.idiv, 1) := by decide +kernel
theorem dX5_turnOf_60 : decode cX5_turnOf 60 = .ok (.bipush 9, 2) := by decide +kernel
theorem dX5_turnOf_62 : decode cX5_turnOf 62 = .ok (.irem, 1) := by decide +kernel
theorem dX5_turnOf_63 : decode cX5_turnOf 63 = .ok (.iload_n 2, 1) := by decide +kernel
theorem dX5_turnOf_64 : decode cX5_turnOf 64 = .ok (.bipush 81, 2) := by decide +kernel
theorem dX5_turnOf_66 : decode cX5_turnOf 66 = .ok (.idiv, 1) := by decide +kernel
theorem dX5_turnOf_67 : decode cX5_turnOf 67 = .ok (.bipush 9, 2) := by decide +kernel
theorem dX5_turnOf_69 : decode cX5_turnOf 69 = .ok (.irem, 1) := by decide +kernel
theorem dX5_turnOf_70 : decode cX5_turnOf 70 = .ok (.iload_n 2, 1) := by decide +kernel
theorem dX5_turnOf_71 : decode cX5_turnOf 71 = .ok (.sipush 729, 3) := by decide +kernel
theorem dX5_turnOf_74 : decode cX5_turnOf 74 = .ok (.idiv, 1) := by decide +kernel
theorem dX5_turnOf_75 : decode cX5_turnOf 75 = .ok (.bipush 9, 2) := by decide +kernel
theorem dX5_turnOf_77 : decode cX5_turnOf 77 = .ok (.irem, 1) := by decide +kernel
theorem dX5_turnOf_78 : decode cX5_turnOf 78 = .ok (.invokestatic 145, 3) := by decide +kernel
theorem dX5_turnOf_81 : decode cX5_turnOf 81 = .ok (.pop, 1) := by decide +kernel
theorem dX5_turnOf_82 : decode cX5_turnOf 82 = .ok (.goto 174, 3) := by decide +kernel
theorem dX5_turnOf_85 : decode cX5_turnOf 85 = .ok (.iload_n 1, 1) := by decide +kernel
theorem dX5_turnOf_86 : decode cX5_turnOf 86 = .ok (.iconst 3, 1) := by decide +kernel
theorem dX5_turnOf_87 : decode cX5_turnOf 87 = .ok (.if_icmp .ne 36, 3) := by decide +kernel
theorem dX5_turnOf_90 : decode cX5_turnOf 90 = .ok (.aload_n 0, 1) := by decide +kernel
theorem dX5_turnOf_91 : decode cX5_turnOf 91 = .ok (.iload_n 2, 1) := by decide +kernel
theorem dX5_turnOf_92 : decode cX5_turnOf 92 = .ok (.iconst 4, 1) := by decide +kernel
theorem dX5_turnOf_93 : decode cX5_turnOf 93 = .ok (.irem, 1) := by decide +kernel
theorem dX5_turnOf_94 : decode cX5_turnOf 94 = .ok (.invokestatic 149, 3) := by decide +kernel
theorem dX5_turnOf_97 : decode cX5_turnOf 97 = .ok (.ifCond .eq 159, 3) := by decide +kernel
theorem dX5_turnOf_100 : decode cX5_turnOf 100 = .ok (.aload_n 0, 1) := by decide +kernel
theorem dX5_turnOf_101 : decode cX5_turnOf 101 = .ok (.iload_n 2, 1) := by decide +kernel
theorem dX5_turnOf_102 : decode cX5_turnOf 102 = .ok (.iconst 4, 1) := by decide +kernel
theorem dX5_turnOf_103 : decode cX5_turnOf 103 = .ok (.irem, 1) := by decide +kernel
theorem dX5_turnOf_104 : decode cX5_turnOf 104 = .ok (.iload_n 2, 1) := by decide +kernel
theorem dX5_turnOf_105 : decode cX5_turnOf 105 = .ok (.iconst 4, 1) := by decide +kernel
theorem dX5_turnOf_106 : decode cX5_turnOf 106 = .ok (.idiv, 1) := by decide +kernel
theorem dX5_turnOf_107 : decode cX5_turnOf 107 = .ok (.iconst 4, 1) := by decide +kernel
theorem dX5_turnOf_108 : decode cX5_turnOf 108 = .ok (.irem, 1) := by decide +kernel
theorem dX5_turnOf_109 : decode cX5_turnOf 109 = .ok (.iload_n 2, 1) := by decide +kernel
theorem dX5_turnOf_110 : decode cX5_turnOf 110 = .ok (.bipush 16, 2) := by decide +kernel
theorem dX5_turnOf_112 : decode cX5_turnOf 112 = .ok (.idiv, 1) := by decide +kernel
theorem dX5_turnOf_113 : decode cX5_turnOf 113 = .ok (.bipush 12, 2) := by decide +kernel
theorem dX5_turnOf_115 : decode cX5_turnOf 115 = .ok (.irem, 1) := by decide +kernel
theorem dX5_turnOf_116 : decode cX5_turnOf 116 = .ok (.invokestatic 214, 3) := by decide +kernel
theorem dX5_turnOf_119 : decode cX5_turnOf 119 = .ok (.pop, 1) := by decide +kernel
theorem dX5_turnOf_120 : decode cX5_turnOf 120 = .ok (.goto 136, 3) := by decide +kernel
theorem dX5_turnOf_123 : decode cX5_turnOf 123 = .ok (.iload_n 1, 1) := by decide +kernel
theorem dX5_turnOf_124 : decode cX5_turnOf 124 = .ok (.bipush 7, 2) := by decide +kernel
theorem dX5_turnOf_126 : decode cX5_turnOf 126 = .ok (.if_icmp .ge 12, 3) := by decide +kernel
theorem dX5_turnOf_129 : decode cX5_turnOf 129 = .ok (.aload_n 0, 1) := by decide +kernel
theorem dX5_turnOf_130 : decode cX5_turnOf 130 = .ok (.iload_n 1, 1) := by decide +kernel
theorem dX5_turnOf_131 : decode cX5_turnOf 131 = .ok (.iload_n 2, 1) := by decide +kernel
theorem dX5_turnOf_132 : decode cX5_turnOf 132 = .ok (.invokestatic 241, 3) := by decide +kernel
theorem dX5_turnOf_135 : decode cX5_turnOf 135 = .ok (.goto 121, 3) := by decide +kernel
theorem dX5_turnOf_138 : decode cX5_turnOf 138 = .ok (.iload_n 1, 1) := by decide +kernel
theorem dX5_turnOf_139 : decode cX5_turnOf 139 = .ok (.bipush 7, 2) := by decide +kernel
theorem dX5_turnOf_141 : decode cX5_turnOf 141 = .ok (.if_icmp .ne 45, 3) := by decide +kernel
theorem dX5_turnOf_144 : decode cX5_turnOf 144 = .ok (.aload_n 0, 1) := by decide +kernel
theorem dX5_turnOf_145 : decode cX5_turnOf 145 = .ok (.iload_n 3, 1) := by decide +kernel
theorem dX5_turnOf_146 : decode cX5_turnOf 146 = .ok (.invokestatic 96, 3) := by decide +kernel
theorem dX5_turnOf_149 : decode cX5_turnOf 149 = .ok (.ifCond .eq 107, 3) := by decide +kernel
theorem dX5_turnOf_152 : decode cX5_turnOf 152 = .ok (.aload_n 0, 1) := by decide +kernel
theorem dX5_turnOf_153 : decode cX5_turnOf 153 = .ok (.iload_n 2, 1) := by decide +kernel
theorem dX5_turnOf_154 : decode cX5_turnOf 154 = .ok (.bipush 16, 2) := by decide +kernel
theorem dX5_turnOf_156 : decode cX5_turnOf 156 = .ok (.idiv, 1) := by decide +kernel
theorem dX5_turnOf_157 : decode cX5_turnOf 157 = .ok (.iconst 4, 1) := by decide +kernel
theorem dX5_turnOf_158 : decode cX5_turnOf 158 = .ok (.irem, 1) := by decide +kernel
theorem dX5_turnOf_159 : decode cX5_turnOf 159 = .ok (.invokestatic 149, 3) := by decide +kernel
theorem dX5_turnOf_162 : decode cX5_turnOf 162 = .ok (.ifCond .eq 94, 3) := by decide +kernel
theorem dX5_turnOf_165 : decode cX5_turnOf 165 = .ok (.aload_n 0, 1) := by decide +kernel
theorem dX5_turnOf_166 : decode cX5_turnOf 166 = .ok (.iload_n 3, 1) := by decide +kernel
theorem dX5_turnOf_167 : decode cX5_turnOf 167 = .ok (.iload_n 2, 1) := by decide +kernel
theorem dX5_turnOf_168 : decode cX5_turnOf 168 = .ok (.bipush 16, 2) := by decide +kernel
theorem dX5_turnOf_170 : decode cX5_turnOf 170 = .ok (.idiv, 1) := by decide +kernel
theorem dX5_turnOf_171 : decode cX5_turnOf 171 = .ok (.iconst 4, 1) := by decide +kernel
theorem dX5_turnOf_172 : decode cX5_turnOf 172 = .ok (.irem, 1) := by decide +kernel
theorem dX5_turnOf_173 : decode cX5_turnOf 173 = .ok (.iload_n 2, 1) := by decide +kernel
theorem dX5_turnOf_174 : decode cX5_turnOf 174 = .ok (.bipush 64, 2) := by decide +kernel
theorem dX5_turnOf_176 : decode cX5_turnOf 176 = .ok (.idiv, 1) := by decide +kernel
theorem dX5_turnOf_177 : decode cX5_turnOf 177 = .ok (.iconst 4, 1) := by decide +kernel
theorem dX5_turnOf_178 : decode cX5_turnOf 178 = .ok (.irem, 1) := by decide +kernel
theorem dX5_turnOf_179 : decode cX5_turnOf 179 = .ok (.invokestatic 152, 3) := by decide +kernel
theorem dX5_turnOf_182 : decode cX5_turnOf 182 = .ok (.pop, 1) := by decide +kernel
theorem dX5_turnOf_183 : decode cX5_turnOf 183 = .ok (.goto 73, 3) := by decide +kernel
theorem dX5_turnOf_186 : decode cX5_turnOf 186 = .ok (.iload_n 1, 1) := by decide +kernel
theorem dX5_turnOf_187 : decode cX5_turnOf 187 = .ok (.bipush 11, 2) := by decide +kernel
theorem dX5_turnOf_189 : decode cX5_turnOf 189 = .ok (.if_icmp .ne 28, 3) := by decide +kernel
theorem dX5_turnOf_192 : decode cX5_turnOf 192 = .ok (.aload_n 0, 1) := by decide +kernel
theorem dX5_turnOf_193 : decode cX5_turnOf 193 = .ok (.iload_n 2, 1) := by decide +kernel
theorem dX5_turnOf_194 : decode cX5_turnOf 194 = .ok (.iconst 4, 1) := by decide +kernel
theorem dX5_turnOf_195 : decode cX5_turnOf 195 = .ok (.irem, 1) := by decide +kernel
theorem dX5_turnOf_196 : decode cX5_turnOf 196 = .ok (.iconst 2, 1) := by decide +kernel
theorem dX5_turnOf_197 : decode cX5_turnOf 197 = .ok (.iload_n 2, 1) := by decide +kernel
theorem dX5_turnOf_198 : decode cX5_turnOf 198 = .ok (.iconst 4, 1) := by decide +kernel
theorem dX5_turnOf_199 : decode cX5_turnOf 199 = .ok (.idiv, 1) := by decide +kernel
theorem dX5_turnOf_200 : decode cX5_turnOf 200 = .ok (.iconst 2, 1) := by decide +kernel
theorem dX5_turnOf_201 : decode cX5_turnOf 201 = .ok (.irem, 1) := by decide +kernel
theorem dX5_turnOf_202 : decode cX5_turnOf 202 = .ok (.iadd, 1) := by decide +kernel
theorem dX5_turnOf_203 : decode cX5_turnOf 203 = .ok (.iload_n 2, 1) := by decide +kernel
theorem dX5_turnOf_204 : decode cX5_turnOf 204 = .ok (.bipush 8, 2) := by decide +kernel
theorem dX5_turnOf_206 : decode cX5_turnOf 206 = .ok (.idiv, 1) := by decide +kernel
theorem dX5_turnOf_207 : decode cX5_turnOf 207 = .ok (.bipush 30, 2) := by decide +kernel
theorem dX5_turnOf_209 : decode cX5_turnOf 209 = .ok (.irem, 1) := by decide +kernel
theorem dX5_turnOf_210 : decode cX5_turnOf 210 = .ok (.invokestatic 159, 3) := by decide +kernel
theorem dX5_turnOf_213 : decode cX5_turnOf 213 = .ok (.pop, 1) := by decide +kernel
theorem dX5_turnOf_214 : decode cX5_turnOf 214 = .ok (.goto 42, 3) := by decide +kernel
theorem dX5_turnOf_217 : decode cX5_turnOf 217 = .ok (.aload_n 0, 1) := by decide +kernel
theorem dX5_turnOf_218 : decode cX5_turnOf 218 = .ok (.iload_n 3, 1) := by decide +kernel
theorem dX5_turnOf_219 : decode cX5_turnOf 219 = .ok (.invokestatic 96, 3) := by decide +kernel
theorem dX5_turnOf_222 : decode cX5_turnOf 222 = .ok (.ifCond .eq 34, 3) := by decide +kernel
theorem dX5_turnOf_225 : decode cX5_turnOf 225 = .ok (.iload_n 1, 1) := by decide +kernel
theorem dX5_turnOf_226 : decode cX5_turnOf 226 = .ok (.bipush 11, 2) := by decide +kernel
theorem dX5_turnOf_228 : decode cX5_turnOf 228 = .ok (.if_icmp .ge 12, 3) := by decide +kernel
theorem dX5_turnOf_231 : decode cX5_turnOf 231 = .ok (.aload_n 0, 1) := by decide +kernel
theorem dX5_turnOf_232 : decode cX5_turnOf 232 = .ok (.iload_n 3, 1) := by decide +kernel
theorem dX5_turnOf_233 : decode cX5_turnOf 233 = .ok (.invokestatic 176, 3) := by decide +kernel
theorem dX5_turnOf_236 : decode cX5_turnOf 236 = .ok (.pop, 1) := by decide +kernel
theorem dX5_turnOf_237 : decode cX5_turnOf 237 = .ok (.goto 19, 3) := by decide +kernel
theorem dX5_turnOf_240 : decode cX5_turnOf 240 = .ok (.aload_n 0, 1) := by decide +kernel
theorem dX5_turnOf_241 : decode cX5_turnOf 241 = .ok (.iload_n 3, 1) := by decide +kernel
theorem dX5_turnOf_242 : decode cX5_turnOf 242 = .ok (.iconst 1, 1) := by decide +kernel
theorem dX5_turnOf_243 : decode cX5_turnOf 243 = .ok (.iload_n 2, 1) := by decide +kernel
theorem dX5_turnOf_244 : decode cX5_turnOf 244 = .ok (.bipush 16, 2) := by decide +kernel
theorem dX5_turnOf_246 : decode cX5_turnOf 246 = .ok (.idiv, 1) := by decide +kernel
theorem dX5_turnOf_247 : decode cX5_turnOf 247 = .ok (.sipush 200, 3) := by decide +kernel
theorem dX5_turnOf_250 : decode cX5_turnOf 250 = .ok (.irem, 1) := by decide +kernel
theorem dX5_turnOf_251 : decode cX5_turnOf 251 = .ok (.iadd, 1) := by decide +kernel
theorem dX5_turnOf_252 : decode cX5_turnOf 252 = .ok (.invokestatic 179, 3) := by decide +kernel
theorem dX5_turnOf_255 : decode cX5_turnOf 255 = .ok (.pop, 1) := by decide +kernel
theorem dX5_turnOf_256 : decode cX5_turnOf 256 = .ok (.return_, 1) := by decide +kernel
theorem dX5_simulate_0 : decode cX5_simulate 0 = .ok (.aload_n 0, 1) := by decide +kernel
theorem dX5_simulate_1 : decode cX5_simulate 1 = .ok (.iload_n 3, 1) := by decide +kernel
theorem dX5_simulate_2 : decode cX5_simulate 2 = .ok (.i2l, 1) := by decide +kernel
theorem dX5_simulate_3 : decode cX5_simulate 3 = .ok (.lconst 1, 1) := by decide +kernel
theorem dX5_simulate_4 : decode cX5_simulate 4 = .ok (.ldc2_w 245, 3) := by decide +kernel
theorem dX5_simulate_7 : decode cX5_simulate 7 = .ok (.invokestatic 37, 3) := by decide +kernel
theorem dX5_simulate_10 : decode cX5_simulate 10 = .ok (.ifCond .eq 7, 3) := by decide +kernel
theorem dX5_simulate_13 : decode cX5_simulate 13 = .ok (.iconst 0, 1) := by decide +kernel
theorem dX5_simulate_14 : decode cX5_simulate 14 = .ok (.goto 4, 3) := by decide +kernel
theorem dX5_simulate_17 : decode cX5_simulate 17 = .ok (.iconst 1, 1) := by decide +kernel
theorem dX5_simulate_18 : decode cX5_simulate 18 = .ok (.invokevirtual 105, 3) := by decide +kernel
theorem dX5_simulate_21 : decode cX5_simulate 21 = .ok (.ifCond .eq 5, 3) := by decide +kernel
theorem dX5_simulate_24 : decode cX5_simulate 24 = .ok (.iconst 0, 1) := by decide +kernel
theorem dX5_simulate_25 : decode cX5_simulate 25 = .ok (.ireturn, 1) := by decide +kernel
theorem dX5_simulate_26 : decode cX5_simulate 26 = .ok (.aload_n 0, 1) := by decide +kernel
theorem dX5_simulate_27 : decode cX5_simulate 27 = .ok (.getfield 13, 3) := by decide +kernel
theorem dX5_simulate_30 : decode cX5_simulate 30 = .ok (.iconst 0, 1) := by decide +kernel
theorem dX5_simulate_31 : decode cX5_simulate 31 = .ok (.aload_n 0, 1) := by decide +kernel
theorem dX5_simulate_32 : decode cX5_simulate 32 = .ok (.getfield 16, 3) := by decide +kernel
theorem dX5_simulate_35 : decode cX5_simulate 35 = .ok (.iconst 0, 1) := by decide +kernel
theorem dX5_simulate_36 : decode cX5_simulate 36 = .ok (.invokestatic 192, 3) := by decide +kernel
theorem dX5_simulate_39 : decode cX5_simulate 39 = .ok (.lload_n 1, 1) := by decide +kernel
theorem dX5_simulate_40 : decode cX5_simulate 40 = .ok (.lstore 4, 2) := by decide +kernel
theorem dX5_simulate_42 : decode cX5_simulate 42 = .ok (.iconst 0, 1) := by decide +kernel
theorem dX5_simulate_43 : decode cX5_simulate 43 = .ok (.istore 6, 2) := by decide +kernel
theorem dX5_simulate_45 : decode cX5_simulate 45 = .ok (.iload 6, 2) := by decide +kernel
theorem dX5_simulate_47 : decode cX5_simulate 47 = .ok (.iload_n 3, 1) := by decide +kernel
theorem dX5_simulate_48 : decode cX5_simulate 48 = .ok (.if_icmp .ge 46, 3) := by decide +kernel
theorem dX5_simulate_51 : decode cX5_simulate 51 = .ok (.lload 4, 2) := by decide +kernel
theorem dX5_simulate_53 : decode cX5_simulate 53 = .ok (.ldc2_w 247, 3) := by decide +kernel
theorem dX5_simulate_56 : decode cX5_simulate 56 = .ok (.lmul, 1) := by decide +kernel
theorem dX5_simulate_57 : decode cX5_simulate 57 = .ok (.ldc2_w 249, 3) := by decide +kernel
theorem dX5_simulate_60 : decode cX5_simulate 60 = .ok (.ladd, 1) := by decide +kernel
theorem dX5_simulate_61 : decode cX5_simulate 61 = .ok (.lstore 4, 2) := by decide +kernel
theorem dX5_simulate_63 : decode cX5_simulate 63 = .ok (.lload 4, 2) := by decide +kernel
theorem dX5_simulate_65 : decode cX5_simulate 65 = .ok (.bipush 33, 2) := by decide +kernel
theorem dX5_simulate_67 : decode cX5_simulate 67 = .ok (.lushr, 1) := by decide +kernel
theorem dX5_simulate_68 : decode cX5_simulate 68 = .ok (.l2i, 1) := by decide +kernel
theorem dX5_simulate_69 : decode cX5_simulate 69 = .ok (.istore 7, 2) := by decide +kernel
theorem dX5_simulate_71 : decode cX5_simulate 71 = .ok (.aload_n 0, 1) := by decide +kernel
theorem dX5_simulate_72 : decode cX5_simulate 72 = .ok (.getfield 16, 3) := by decide +kernel
theorem dX5_simulate_75 : decode cX5_simulate 75 = .ok (.iload 7, 2) := by decide +kernel
theorem dX5_simulate_77 : decode cX5_simulate 77 = .ok (.bipush 16, 2) := by decide +kernel
theorem dX5_simulate_79 : decode cX5_simulate 79 = .ok (.irem, 1) := by decide +kernel
theorem dX5_simulate_80 : decode cX5_simulate 80 = .ok (.iload 7, 2) := by decide +kernel
theorem dX5_simulate_82 : decode cX5_simulate 82 = .ok (.bipush 16, 2) := by decide +kernel
theorem dX5_simulate_84 : decode cX5_simulate 84 = .ok (.idiv, 1) := by decide +kernel
theorem dX5_simulate_85 : decode cX5_simulate 85 = .ok (.invokestatic 251, 3) := by decide +kernel
theorem dX5_simulate_88 : decode cX5_simulate 88 = .ok (.iinc 6 1, 3) := by decide +kernel
theorem dX5_simulate_91 : decode cX5_simulate 91 = .ok (.goto (-46), 3) := by decide +kernel
theorem dX5_simulate_94 : decode cX5_simulate 94 = .ok (.sipush 10000, 3) := by decide +kernel
theorem dX5_simulate_97 : decode cX5_simulate 97 = .ok (.aload_n 0, 1) := by decide +kernel
theorem dX5_simulate_98 : decode cX5_simulate 98 = .ok (.getfield 16, 3) := by decide +kernel
theorem dX5_simulate_101 : decode cX5_simulate 101 = .ok (.iconst 3, 1) := by decide +kernel
theorem dX5_simulate_102 : decode cX5_simulate 102 = .ok (.iaload, 1) := by decide +kernel
theorem dX5_simulate_103 : decode cX5_simulate 103 = .ok (.aload_n 0, 1) := by decide +kernel
theorem dX5_simulate_104 : decode cX5_simulate 104 = .ok (.getfield 13, 3) := by decide +kernel
theorem dX5_simulate_107 : decode cX5_simulate 107 = .ok (.iconst 3, 1) := by decide +kernel
theorem dX5_simulate_108 : decode cX5_simulate 108 = .ok (.iaload, 1) := by decide +kernel
theorem dX5_simulate_109 : decode cX5_simulate 109 = .ok (.isub, 1) := by decide +kernel
theorem dX5_simulate_110 : decode cX5_simulate 110 = .ok (.imul, 1) := by decide +kernel
theorem dX5_simulate_111 : decode cX5_simulate 111 = .ok (.bipush 100, 2) := by decide +kernel
theorem dX5_simulate_113 : decode cX5_simulate 113 = .ok (.aload_n 0, 1) := by decide +kernel
theorem dX5_simulate_114 : decode cX5_simulate 114 = .ok (.getfield 16, 3) := by decide +kernel
theorem dX5_simulate_117 : decode cX5_simulate 117 = .ok (.invokestatic 201, 3) := by decide +kernel
theorem dX5_simulate_120 : decode cX5_simulate 120 = .ok (.imul, 1) := by decide +kernel
theorem dX5_simulate_121 : decode cX5_simulate 121 = .ok (.iadd, 1) := by decide +kernel
theorem dX5_simulate_122 : decode cX5_simulate 122 = .ok (.aload_n 0, 1) := by decide +kernel
theorem dX5_simulate_123 : decode cX5_simulate 123 = .ok (.getfield 16, 3) := by decide +kernel
theorem dX5_simulate_126 : decode cX5_simulate 126 = .ok (.iconst 4, 1) := by decide +kernel
theorem dX5_simulate_127 : decode cX5_simulate 127 = .ok (.iaload, 1) := by decide +kernel
theorem dX5_simulate_128 : decode cX5_simulate 128 = .ok (.iadd, 1) := by decide +kernel
theorem dX5_simulate_129 : decode cX5_simulate 129 = .ok (.aload_n 0, 1) := by decide +kernel
theorem dX5_simulate_130 : decode cX5_simulate 130 = .ok (.getfield 13, 3) := by decide +kernel
theorem dX5_simulate_133 : decode cX5_simulate 133 = .ok (.iconst 4, 1) := by decide +kernel
theorem dX5_simulate_134 : decode cX5_simulate 134 = .ok (.iaload, 1) := by decide +kernel
theorem dX5_simulate_135 : decode cX5_simulate 135 = .ok (.isub, 1) := by decide +kernel
theorem dX5_simulate_136 : decode cX5_simulate 136 = .ok (.ireturn, 1) := by decide +kernel
theorem dX5_save_0 : decode cX5_save 0 = .ok (.aload_n 0, 1) := by decide +kernel
theorem dX5_save_1 : decode cX5_save 1 = .ok (.iload_n 1, 1) := by decide +kernel
theorem dX5_save_2 : decode cX5_save 2 = .ok (.i2l, 1) := by decide +kernel
theorem dX5_save_3 : decode cX5_save 3 = .ok (.lconst 0, 1) := by decide +kernel
theorem dX5_save_4 : decode cX5_save 4 = .ok (.lconst 1, 1) := by decide +kernel
theorem dX5_save_5 : decode cX5_save 5 = .ok (.invokestatic 37, 3) := by decide +kernel
theorem dX5_save_8 : decode cX5_save 8 = .ok (.ifCond .eq 7, 3) := by decide +kernel
theorem dX5_save_11 : decode cX5_save 11 = .ok (.iconst 0, 1) := by decide +kernel
theorem dX5_save_12 : decode cX5_save 12 = .ok (.goto 4, 3) := by decide +kernel
theorem dX5_save_15 : decode cX5_save 15 = .ok (.iconst 1, 1) := by decide +kernel
theorem dX5_save_16 : decode cX5_save 16 = .ok (.invokevirtual 105, 3) := by decide +kernel
theorem dX5_save_19 : decode cX5_save 19 = .ok (.ifCond .eq 5, 3) := by decide +kernel
theorem dX5_save_22 : decode cX5_save 22 = .ok (.iconst 0, 1) := by decide +kernel
theorem dX5_save_23 : decode cX5_save 23 = .ok (.ireturn, 1) := by decide +kernel
theorem dX5_save_24 : decode cX5_save 24 = .ok (.aload_n 0, 1) := by decide +kernel
theorem dX5_save_25 : decode cX5_save 25 = .ok (.getfield 13, 3) := by decide +kernel
theorem dX5_save_28 : decode cX5_save 28 = .ok (.iconst 0, 1) := by decide +kernel
theorem dX5_save_29 : decode cX5_save 29 = .ok (.aload_n 0, 1) := by decide +kernel
theorem dX5_save_30 : decode cX5_save 30 = .ok (.getfield 22, 3) := by decide +kernel
theorem dX5_save_33 : decode cX5_save 33 = .ok (.sipush 134, 3) := by decide +kernel
theorem dX5_save_36 : decode cX5_save 36 = .ok (.iload_n 1, 1) := by decide +kernel
theorem dX5_save_37 : decode cX5_save 37 = .ok (.imul, 1) := by decide +kernel
theorem dX5_save_38 : decode cX5_save 38 = .ok (.invokestatic 192, 3) := by decide +kernel
theorem dX5_save_41 : decode cX5_save 41 = .ok (.aload_n 0, 1) := by decide +kernel
theorem dX5_save_42 : decode cX5_save 42 = .ok (.getfield 25, 3) := by decide +kernel
theorem dX5_save_45 : decode cX5_save 45 = .ok (.iload_n 1, 1) := by decide +kernel
theorem dX5_save_46 : decode cX5_save 46 = .ok (.iconst 1, 1) := by decide +kernel
theorem dX5_save_47 : decode cX5_save 47 = .ok (.bastore, 1) := by decide +kernel
theorem dX5_save_48 : decode cX5_save 48 = .ok (.aload_n 0, 1) := by decide +kernel
theorem dX5_save_49 : decode cX5_save 49 = .ok (.getfield 13, 3) := by decide +kernel
theorem dX5_save_52 : decode cX5_save 52 = .ok (.invokestatic 201, 3) := by decide +kernel
theorem dX5_save_55 : decode cX5_save 55 = .ok (.ireturn, 1) := by decide +kernel
theorem dX5_restore_0 : decode cX5_restore 0 = .ok (.aload_n 0, 1) := by decide +kernel
theorem dX5_restore_1 : decode cX5_restore 1 = .ok (.iload_n 1, 1) := by decide +kernel
theorem dX5_restore_2 : decode cX5_restore 2 = .ok (.i2l, 1) := by decide +kernel
theorem dX5_restore_3 : decode cX5_restore 3 = .ok (.lconst 0, 1) := by decide +kernel
theorem dX5_restore_4 : decode cX5_restore 4 = .ok (.lconst 1, 1) := by decide +kernel
theorem dX5_restore_5 : decode cX5_restore 5 = .ok (.invokestatic 37, 3) := by decide +kernel
theorem dX5_restore_8 : decode cX5_restore 8 = .ok (.ifCond .ne 7, 3) := by decide +kernel
theorem dX5_restore_11 : decode cX5_restore 11 = .ok (.iconst 1, 1) := by decide +kernel
theorem dX5_restore_12 : decode cX5_restore 12 = .ok (.goto 17, 3) := by decide +kernel
theorem dX5_restore_15 : decode cX5_restore 15 = .ok (.aload_n 0, 1) := by decide +kernel
theorem dX5_restore_16 : decode cX5_restore 16 = .ok (.getfield 25, 3) := by decide +kernel
theorem dX5_restore_19 : decode cX5_restore 19 = .ok (.iload_n 1, 1) := by decide +kernel
theorem dX5_restore_20 : decode cX5_restore 20 = .ok (.baload, 1) := by decide +kernel
theorem dX5_restore_21 : decode cX5_restore 21 = .ok (.ifCond .ne 7, 3) := by decide +kernel
theorem dX5_restore_24 : decode cX5_restore 24 = .ok (.iconst 2, 1) := by decide +kernel
theorem dX5_restore_25 : decode cX5_restore 25 = .ok (.goto 4, 3) := by decide +kernel
theorem dX5_restore_28 : decode cX5_restore 28 = .ok (.iconst 0, 1) := by decide +kernel
theorem dX5_restore_29 : decode cX5_restore 29 = .ok (.invokevirtual 105, 3) := by decide +kernel
theorem dX5_restore_32 : decode cX5_restore 32 = .ok (.ifCond .eq 5, 3) := by decide +kernel
theorem dX5_restore_35 : decode cX5_restore 35 = .ok (.iconst 0, 1) := by decide +kernel
theorem dX5_restore_36 : decode cX5_restore 36 = .ok (.ireturn, 1) := by decide +kernel
theorem dX5_restore_37 : decode cX5_restore 37 = .ok (.aload_n 0, 1) := by decide +kernel
theorem dX5_restore_38 : decode cX5_restore 38 = .ok (.getfield 22, 3) := by decide +kernel
theorem dX5_restore_41 : decode cX5_restore 41 = .ok (.sipush 134, 3) := by decide +kernel
theorem dX5_restore_44 : decode cX5_restore 44 = .ok (.iload_n 1, 1) := by decide +kernel
theorem dX5_restore_45 : decode cX5_restore 45 = .ok (.imul, 1) := by decide +kernel
theorem dX5_restore_46 : decode cX5_restore 46 = .ok (.aload_n 0, 1) := by decide +kernel
theorem dX5_restore_47 : decode cX5_restore 47 = .ok (.getfield 13, 3) := by decide +kernel
theorem dX5_restore_50 : decode cX5_restore 50 = .ok (.iconst 0, 1) := by decide +kernel
theorem dX5_restore_51 : decode cX5_restore 51 = .ok (.invokestatic 192, 3) := by decide +kernel
theorem dX5_restore_54 : decode cX5_restore 54 = .ok (.aload_n 0, 1) := by decide +kernel
theorem dX5_restore_55 : decode cX5_restore 55 = .ok (.iconst 0, 1) := by decide +kernel
theorem dX5_restore_56 : decode cX5_restore 56 = .ok (.putfield 196, 3) := by decide +kernel
theorem dX5_restore_59 : decode cX5_restore 59 = .ok (.aload_n 0, 1) := by decide +kernel
theorem dX5_restore_60 : decode cX5_restore 60 = .ok (.getfield 13, 3) := by decide +kernel
theorem dX5_restore_63 : decode cX5_restore 63 = .ok (.invokestatic 201, 3) := by decide +kernel
theorem dX5_restore_66 : decode cX5_restore 66 = .ok (.ireturn, 1) := by decide +kernel
