theorem dX5_readFloor_1 : decode cX5_readFloor 1 = .ok (.iconst 0, 1) := by decide +kernel
theorem dX5_readFloor_2 : decode cX5_readFloor 2 = .ok (.bipush 10, 2) := by decide +kernel
theorem dX5_readFloor_4 : decode cX5_readFloor 4 = .ok (.iconst 0, 1) := by decide +kernel
theorem dX5_readFloor_5 : decode cX5_readFloor 5 = .ok (.bipush 50, 2) := by decide +kernel
theorem dX5_readFloor_7 : decode cX5_readFloor 7 = .ok (.invokevirtual 114, 3) := by decide +kernel
theorem dX5_readFloor_10 : decode cX5_readFloor 10 = .ok (.istore_n 2, 1) := by decide +kernel
theorem dX5_readFloor_11 : decode cX5_readFloor 11 = .ok (.aload_n 0, 1) := by decide +kernel
theorem dX5_readFloor_12 : decode cX5_readFloor 12 = .ok (.iload_n 2, 1) := by decide +kernel
theorem dX5_readFloor_13 : decode cX5_readFloor 13 = .ok (.bipush 10, 2) := by decide +kernel
theorem dX5_readFloor_15 : decode cX5_readFloor 15 = .ok (.iconst 0, 1) := by decide +kernel
theorem dX5_readFloor_16 : decode cX5_readFloor 16 = .ok (.bipush 50, 2) := by decide +kernel
theorem dX5_readFloor_18 : decode cX5_readFloor 18 = .ok (.invokevirtual 114, 3) := by decide +kernel
theorem dX5_readFloor_21 : decode cX5_readFloor 21 = .ok (.istore_n 3, 1) := by decide +kernel
theorem dX5_readFloor_22 : decode cX5_readFloor 22 = .ok (.aload_n 0, 1) := by decide +kernel
theorem dX5_readFloor_23 : decode cX5_readFloor 23 = .ok (.iload_n 3, 1) := by decide +kernel
theorem dX5_readFloor_24 : decode cX5_readFloor 24 = .ok (.bipush 10, 2) := by decide +kernel
theorem dX5_readFloor_26 : decode cX5_readFloor 26 = .ok (.iconst 0, 1) := by decide +kernel
theorem dX5_readFloor_27 : decode cX5_readFloor 27 = .ok (.bipush 50, 2) := by decide +kernel
theorem dX5_readFloor_29 : decode cX5_readFloor 29 = .ok (.invokevirtual 114, 3) := by decide +kernel
theorem dX5_readFloor_32 : decode cX5_readFloor 32 = .ok (.istore 4, 2) := by decide +kernel
theorem dX5_readFloor_34 : decode cX5_readFloor 34 = .ok (.aload_n 0, 1) := by decide +kernel
theorem dX5_readFloor_35 : decode cX5_readFloor 35 = .ok (.iload 4, 2) := by decide +kernel
theorem dX5_readFloor_37 : decode cX5_readFloor 37 = .ok (.bipush 10, 2) := by decide +kernel
theorem dX5_readFloor_39 : decode cX5_readFloor 39 = .ok (.iconst 0, 1) := by decide +kernel
theorem dX5_readFloor_40 : decode cX5_readFloor 40 = .ok (.bipush 50, 2) := by decide +kernel
theorem dX5_readFloor_42 : decode cX5_readFloor 42 = .ok (.invokevirtual 114, 3) := by decide +kernel
theorem dX5_readFloor_45 : decode cX5_readFloor 45 = .ok (.istore 5, 2) := by decide +kernel
theorem dX5_readFloor_47 : decode cX5_readFloor 47 = .ok (.iload 5, 2) := by decide +kernel
theorem dX5_readFloor_49 : decode cX5_readFloor 49 = .ok (.iconst (-1), 1) := by decide +kernel
theorem dX5_readFloor_50 : decode cX5_readFloor 50 = .ok (.if_icmp .eq 39, 3) := by decide +kernel
theorem dX5_readFloor_53 : decode cX5_readFloor 53 = .ok (.aload_n 0, 1) := by decide +kernel
theorem dX5_readFloor_54 : decode cX5_readFloor 54 = .ok (.aload_n 1, 1) := by decide +kernel
theorem dX5_readFloor_55 : decode cX5_readFloor 55 = .ok (.iconst 1, 1) := by decide +kernel
theorem dX5_readFloor_56 : decode cX5_readFloor 56 = .ok (.iaload, 1) := by decide +kernel
theorem dX5_readFloor_57 : decode cX5_readFloor 57 = .ok (.iconst 4, 1) := by decide +kernel
theorem dX5_readFloor_58 : decode cX5_readFloor 58 = .ok (.if_icmp .ge 20, 3) := by decide +kernel
theorem dX5_readFloor_61 : decode cX5_readFloor 61 = .ok (.aload_n 1, 1) := by decide +kernel
theorem dX5_readFloor_62 : decode cX5_readFloor 62 = .ok (.iload_n 2, 1) := by decide +kernel
theorem dX5_readFloor_63 : decode cX5_readFloor 63 = .ok (.iload_n 3, 1) := by decide +kernel
theorem dX5_readFloor_64 : decode cX5_readFloor 64 = .ok (.iload 4, 2) := by decide +kernel
theorem dX5_readFloor_66 : decode cX5_readFloor 66 = .ok (.iload 5, 2) := by decide +kernel
theorem dX5_readFloor_68 : decode cX5_readFloor 68 = .ok (.invokestatic 145, 3) := by decide +kernel
theorem dX5_readFloor_71 : decode cX5_readFloor 71 = .ok (.ifCond .le 7, 3) := by decide +kernel
theorem dX5_readFloor_74 : decode cX5_readFloor 74 = .ok (.iconst 1, 1) := by decide +kernel
theorem dX5_readFloor_75 : decode cX5_readFloor 75 = .ok (.goto 4, 3) := by decide +kernel
theorem dX5_readFloor_78 : decode cX5_readFloor 78 = .ok (.iconst 0, 1) := by decide +kernel
theorem dX5_readFloor_79 : decode cX5_readFloor 79 = .ok (.invokevirtual 141, 3) := by decide +kernel
theorem dX5_readFloor_82 : decode cX5_readFloor 82 = .ok (.ifCond .eq 7, 3) := by decide +kernel
theorem dX5_readFloor_85 : decode cX5_readFloor 85 = .ok (.iconst 1, 1) := by decide +kernel
theorem dX5_readFloor_86 : decode cX5_readFloor 86 = .ok (.goto 4, 3) := by decide +kernel
theorem dX5_readFloor_89 : decode cX5_readFloor 89 = .ok (.iconst 0, 1) := by decide +kernel
theorem dX5_readFloor_90 : decode cX5_readFloor 90 = .ok (.ireturn, 1) := by decide +kernel
theorem dX5_readBring_0 : decode cX5_readBring 0 = .ok (.aload_n 0, 1) := by decide +kernel
theorem dX5_readBring_1 : decode cX5_readBring 1 = .ok (.invokevirtual 121, 3) := by decide +kernel
theorem dX5_readBring_4 : decode cX5_readBring 4 = .ok (.istore_n 2, 1) := by decide +kernel
theorem dX5_readBring_5 : decode cX5_readBring 5 = .ok (.aload_n 0, 1) := by decide +kernel
theorem dX5_readBring_6 : decode cX5_readBring 6 = .ok (.iload_n 2, 1) := by decide +kernel
theorem dX5_readBring_7 : decode cX5_readBring 7 = .ok (.invokevirtual 125, 3) := by decide +kernel
theorem dX5_readBring_10 : decode cX5_readBring 10 = .ok (.istore_n 3, 1) := by decide +kernel
theorem dX5_readBring_11 : decode cX5_readBring 11 = .ok (.aload_n 0, 1) := by decide +kernel
theorem dX5_readBring_12 : decode cX5_readBring 12 = .ok (.iload_n 3, 1) := by decide +kernel
theorem dX5_readBring_13 : decode cX5_readBring 13 = .ok (.invokevirtual 125, 3) := by decide +kernel
theorem dX5_readBring_16 : decode cX5_readBring 16 = .ok (.istore 4, 2) := by decide +kernel
theorem dX5_readBring_18 : decode cX5_readBring 18 = .ok (.iload 4, 2) := by decide +kernel
theorem dX5_readBring_20 : decode cX5_readBring 20 = .ok (.iconst (-1), 1) := by decide +kernel
theorem dX5_readBring_21 : decode cX5_readBring 21 = .ok (.if_icmp .eq 46, 3) := by decide +kernel
theorem dX5_readBring_24 : decode cX5_readBring 24 = .ok (.aload_n 0, 1) := by decide +kernel
theorem dX5_readBring_25 : decode cX5_readBring 25 = .ok (.aload_n 1, 1) := by decide +kernel
theorem dX5_readBring_26 : decode cX5_readBring 26 = .ok (.iload_n 2, 1) := by decide +kernel
theorem dX5_readBring_27 : decode cX5_readBring 27 = .ok (.invokestatic 96, 3) := by decide +kernel
theorem dX5_readBring_30 : decode cX5_readBring 30 = .ok (.ifCond .eq 26, 3) := by decide +kernel
theorem dX5_readBring_33 : decode cX5_readBring 33 = .ok (.aload_n 1, 1) := by decide +kernel
theorem dX5_readBring_34 : decode cX5_readBring 34 = .ok (.iload_n 3, 1) := by decide +kernel
theorem dX5_readBring_35 : decode cX5_readBring 35 = .ok (.invokestatic 149, 3) := by decide +kernel
theorem dX5_readBring_38 : decode cX5_readBring 38 = .ok (.ifCond .eq 18, 3) := by decide +kernel
theorem dX5_readBring_41 : decode cX5_readBring 41 = .ok (.aload_n 1, 1) := by decide +kernel
theorem dX5_readBring_42 : decode cX5_readBring 42 = .ok (.iload_n 2, 1) := by decide +kernel
theorem dX5_readBring_43 : decode cX5_readBring 43 = .ok (.iload_n 3, 1) := by decide +kernel
theorem dX5_readBring_44 : decode cX5_readBring 44 = .ok (.iload 4, 2) := by decide +kernel
theorem dX5_readBring_46 : decode cX5_readBring 46 = .ok (.invokestatic 152, 3) := by decide +kernel
theorem dX5_readBring_49 : decode cX5_readBring 49 = .ok (.ifCond .lt 7, 3) := by decide +kernel
theorem dX5_readBring_52 : decode cX5_readBring 52 = .ok (.iconst 1, 1) := by decide +kernel
theorem dX5_readBring_53 : decode cX5_readBring 53 = .ok (.goto 4, 3) := by decide +kernel
theorem dX5_readBring_56 : decode cX5_readBring 56 = .ok (.iconst 0, 1) := by decide +kernel
theorem dX5_readBring_57 : decode cX5_readBring 57 = .ok (.invokevirtual 141, 3) := by decide +kernel
theorem dX5_readBring_60 : decode cX5_readBring 60 = .ok (.ifCond .eq 7, 3) := by decide +kernel
theorem dX5_readBring_63 : decode cX5_readBring 63 = .ok (.iconst 1, 1) := by decide +kernel
theorem dX5_readBring_64 : decode cX5_readBring 64 = .ok (.goto 4, 3) := by decide +kernel
theorem dX5_readBring_67 : decode cX5_readBring 67 = .ok (.iconst 0, 1) := by decide +kernel
theorem dX5_readBring_68 : decode cX5_readBring 68 = .ok (.ireturn, 1) := by decide +kernel
theorem dX5_readBound_0 : decode cX5_readBound 0 = .ok (.aload_n 0, 1) := by decide +kernel
theorem dX5_readBound_1 : decode cX5_readBound 1 = .ok (.iconst 0, 1) := by decide +kernel
theorem dX5_readBound_2 : decode cX5_readBound 2 = .ok (.invokevirtual 125, 3) := by decide +kernel
theorem dX5_readBound_5 : decode cX5_readBound 5 = .ok (.istore_n 2, 1) := by decide +kernel
theorem dX5_readBound_6 : decode cX5_readBound 6 = .ok (.aload_n 0, 1) := by decide +kernel
theorem dX5_readBound_7 : decode cX5_readBound 7 = .ok (.iload_n 2, 1) := by decide +kernel
theorem dX5_readBound_8 : decode cX5_readBound 8 = .ok (.invokevirtual 125, 3) := by decide +kernel
theorem dX5_readBound_11 : decode cX5_readBound 11 = .ok (.istore_n 3, 1) := by decide +kernel
theorem dX5_readBound_12 : decode cX5_readBound 12 = .ok (.aload_n 0, 1) := by decide +kernel
theorem dX5_readBound_13 : decode cX5_readBound 13 = .ok (.iload_n 3, 1) := by decide +kernel
theorem dX5_readBound_14 : decode cX5_readBound 14 = .ok (.bipush 100, 2) := by decide +kernel
theorem dX5_readBound_16 : decode cX5_readBound 16 = .ok (.iconst 0, 1) := by decide +kernel
theorem dX5_readBound_17 : decode cX5_readBound 17 = .ok (.sipush 900, 3) := by decide +kernel
theorem dX5_readBound_20 : decode cX5_readBound 20 = .ok (.invokevirtual 114, 3) := by decide +kernel
theorem dX5_readBound_23 : decode cX5_readBound 23 = .ok (.istore 4, 2) := by decide +kernel
theorem dX5_readBound_25 : decode cX5_readBound 25 = .ok (.iload 4, 2) := by decide +kernel
theorem dX5_readBound_27 : decode cX5_readBound 27 = .ok (.iconst (-1), 1) := by decide +kernel
theorem dX5_readBound_28 : decode cX5_readBound 28 = .ok (.if_icmp .eq 39, 3) := by decide +kernel
theorem dX5_readBound_31 : decode cX5_readBound 31 = .ok (.aload_n 0, 1) := by decide +kernel
theorem dX5_readBound_32 : decode cX5_readBound 32 = .ok (.iload_n 3, 1) := by decide +kernel
theorem dX5_readBound_33 : decode cX5_readBound 33 = .ok (.iload 4, 2) := by decide +kernel
theorem dX5_readBound_35 : decode cX5_readBound 35 = .ok (.invokestatic 155, 3) := by decide +kernel
theorem dX5_readBound_38 : decode cX5_readBound 38 = .ok (.ifCond .eq 18, 3) := by decide +kernel
theorem dX5_readBound_41 : decode cX5_readBound 41 = .ok (.aload_n 1, 1) := by decide +kernel
theorem dX5_readBound_42 : decode cX5_readBound 42 = .ok (.iload_n 2, 1) := by decide +kernel
theorem dX5_readBound_43 : decode cX5_readBound 43 = .ok (.iload_n 3, 1) := by decide +kernel
theorem dX5_readBound_44 : decode cX5_readBound 44 = .ok (.iload 4, 2) := by decide +kernel
theorem dX5_readBound_46 : decode cX5_readBound 46 = .ok (.invokestatic 159, 3) := by decide +kernel
theorem dX5_readBound_49 : decode cX5_readBound 49 = .ok (.ifCond .lt 7, 3) := by decide +kernel
theorem dX5_readBound_52 : decode cX5_readBound 52 = .ok (.iconst 1, 1) := by decide +kernel
theorem dX5_readBound_53 : decode cX5_readBound 53 = .ok (.goto 4, 3) := by decide +kernel
theorem dX5_readBound_56 : decode cX5_readBound 56 = .ok (.iconst 0, 1) := by decide +kernel
theorem dX5_readBound_57 : decode cX5_readBound 57 = .ok (.invokevirtual 141, 3) := by decide +kernel
theorem dX5_readBound_60 : decode cX5_readBound 60 = .ok (.ifCond .eq 7, 3) := by decide +kernel
theorem dX5_readBound_63 : decode cX5_readBound 63 = .ok (.iconst 1, 1) := by decide +kernel
theorem dX5_readBound_64 : decode cX5_readBound 64 = .ok (.goto 4, 3) := by decide +kernel
theorem dX5_readBound_67 : decode cX5_readBound 67 = .ok (.iconst 0, 1) := by decide +kernel
theorem dX5_readBound_68 : decode cX5_readBound 68 = .ok (.ireturn, 1) := by decide +kernel
theorem dX5_readCommand_0 : decode cX5_readCommand 0 = .ok (.aload_n 0, 1) := by decide +kernel
theorem dX5_readCommand_1 : decode cX5_readCommand 1 = .ok (.getfield 7, 3) := by decide +kernel
theorem dX5_readCommand_4 : decode cX5_readCommand 4 = .ok (.aload_n 0, 1) := by decide +kernel
theorem dX5_readCommand_5 : decode cX5_readCommand 5 = .ok (.getfield 109, 3) := by decide +kernel
theorem dX5_readCommand_8 : decode cX5_readCommand 8 = .ok (.iaload, 1) := by decide +kernel
theorem dX5_readCommand_9 : decode cX5_readCommand 9 = .ok (.istore_n 2, 1) := by decide +kernel
theorem dX5_readCommand_10 : decode cX5_readCommand 10 = .ok (.aload_n 0, 1) := by decide +kernel
theorem dX5_readCommand_11 : decode cX5_readCommand 11 = .ok (.dup, 1) := by decide +kernel
theorem dX5_readCommand_12 : decode cX5_readCommand 12 = .ok (.getfield 109, 3) := by decide +kernel
theorem dX5_readCommand_15 : decode cX5_readCommand 15 = .ok (.iconst 1, 1) := by decide +kernel
theorem dX5_readCommand_16 : decode cX5_readCommand 16 = .ok (.iadd, 1) := by decide +kernel
theorem dX5_readCommand_17 : decode cX5_readCommand 17 = .ok (.putfield 109, 3) := by decide +kernel
theorem dX5_readCommand_20 : decode cX5_readCommand 20 = .ok (.iload_n 2, 1) := by decide +kernel
theorem dX5_readCommand_21 : decode cX5_readCommand 21 = .ok (.tableswitch 304 98 119 #[188, 103, 304, 304, 182, 298, 165, 304, 304, 304, 304, 304, 304, 304, 304, 304, 304, 165, 194, 304, 304, 238], 103) := by decide +kernel
theorem dX5_readCommand_124 : decode cX5_readCommand 124 = .ok (.aload_n 0, 1) := by decide +kernel
theorem dX5_readCommand_125 : decode cX5_readCommand 125 = .ok (.iconst 0, 1) := by decide +kernel
theorem dX5_readCommand_126 : decode cX5_readCommand 126 = .ok (.invokevirtual 125, 3) := by decide +kernel
theorem dX5_readCommand_129 : decode cX5_readCommand 129 = .ok (.istore_n 3, 1) := by decide +kernel
theorem dX5_readCommand_130 : decode cX5_readCommand 130 = .ok (.aload_n 0, 1) := by decide +kernel
theorem dX5_readCommand_131 : decode cX5_readCommand 131 = .ok (.iload_n 3, 1) := by decide +kernel
theorem dX5_readCommand_132 : decode cX5_readCommand 132 = .ok (.bipush 100, 2) := by decide +kernel
theorem dX5_readCommand_134 : decode cX5_readCommand 134 = .ok (.bipush 100, 2) := by decide +kernel
theorem dX5_readCommand_136 : decode cX5_readCommand 136 = .ok (.sipush 900, 3) := by decide +kernel
theorem dX5_readCommand_139 : decode cX5_readCommand 139 = .ok (.invokevirtual 114, 3) := by decide +kernel
theorem dX5_readCommand_142 : decode cX5_readCommand 142 = .ok (.istore 4, 2) := by decide +kernel
theorem dX5_readCommand_144 : decode cX5_readCommand 144 = .ok (.iload 4, 2) := by decide +kernel
theorem dX5_readCommand_146 : decode cX5_readCommand 146 = .ok (.iconst (-1), 1) := by decide +kernel
theorem dX5_readCommand_147 : decode cX5_readCommand 147 = .ok (.if_icmp .eq 37, 3) := by decide +kernel
theorem dX5_readCommand_150 : decode cX5_readCommand 150 = .ok (.aload_n 0, 1) := by decide +kernel
theorem dX5_readCommand_151 : decode cX5_readCommand 151 = .ok (.aload_n 1, 1) := by decide +kernel
theorem dX5_readCommand_152 : decode cX5_readCommand 152 = .ok (.iconst 0, 1) := by decide +kernel
theorem dX5_readCommand_153 : decode cX5_readCommand 153 = .ok (.iaload, 1) := by decide +kernel
theorem dX5_readCommand_154 : decode cX5_readCommand 154 = .ok (.bipush 10, 2) := by decide +kernel
theorem dX5_readCommand_156 : decode cX5_readCommand 156 = .ok (.if_icmp .ge 17, 3) := by decide +kernel
theorem dX5_readCommand_159 : decode cX5_readCommand 159 = .ok (.aload_n 1, 1) := by decide +kernel
theorem dX5_readCommand_160 : decode cX5_readCommand 160 = .ok (.iload_n 3, 1) := by decide +kernel
theorem dX5_readCommand_161 : decode cX5_readCommand 161 = .ok (.iload 4, 2) := by decide +kernel
theorem dX5_readCommand_163 : decode cX5_readCommand 163 = .ok (.invokestatic 162, 3) := by decide +kernel
theorem dX5_readCommand_166 : decode cX5_readCommand 166 = .ok (.ifCond .lt 7, 3) := by decide +kernel
theorem dX5_readCommand_169 : decode cX5_readCommand 169 = .ok (.iconst 1, 1) := by decide +kernel
theorem dX5_readCommand_170 : decode cX5_readCommand 170 = .ok (.goto 4, 3) := by decide +kernel
theorem dX5_readCommand_173 : decode cX5_readCommand 173 = .ok (.iconst 0, 1) := by decide +kernel
theorem dX5_readCommand_174 : decode cX5_readCommand 174 = .ok (.invokevirtual 141, 3) := by decide +kernel
theorem dX5_readCommand_177 : decode cX5_readCommand 177 = .ok (.ifCond .eq 7, 3) := by decide +kernel
theorem dX5_readCommand_180 : decode cX5_readCommand 180 = .ok (.iconst 1, 1) := by decide +kernel
theorem dX5_readCommand_181 : decode cX5_readCommand 181 = .ok (.goto 4, 3) := by decide +kernel
theorem dX5_readCommand_184 : decode cX5_readCommand 184 = .ok (.iconst 0, 1) := by decide +kernel
theorem dX5_readCommand_185 : decode cX5_readCommand 185 = .ok (.ireturn, 1) := by decide +kernel
theorem dX5_readCommand_186 : decode cX5_readCommand 186 = .ok (.aload_n 0, 1) := by decide +kernel
theorem dX5_readCommand_187 : decode cX5_readCommand 187 = .ok (.aload_n 1, 1) := by decide +kernel
theorem dX5_readCommand_188 : decode cX5_readCommand 188 = .ok (.iload_n 2, 1) := by decide +kernel
theorem dX5_readCommand_189 : decode cX5_readCommand 189 = .ok (.bipush 115, 2) := by decide +kernel
theorem dX5_readCommand_191 : decode cX5_readCommand 191 = .ok (.if_icmp .ne 7, 3) := by decide +kernel
theorem dX5_readCommand_194 : decode cX5_readCommand 194 = .ok (.iconst 1, 1) := by decide +kernel
theorem dX5_readCommand_195 : decode cX5_readCommand 195 = .ok (.goto 4, 3) := by decide +kernel
theorem dX5_readCommand_198 : decode cX5_readCommand 198 = .ok (.iconst 0, 1) := by decide +kernel
theorem dX5_readCommand_199 : decode cX5_readCommand 199 = .ok (.invokevirtual 165, 3) := by decide +kernel
theorem dX5_readCommand_202 : decode cX5_readCommand 202 = .ok (.ireturn, 1) := by decide +kernel
theorem dX5_readCommand_203 : decode cX5_readCommand 203 = .ok (.aload_n 0, 1) := by decide +kernel
theorem dX5_readCommand_204 : decode cX5_readCommand 204 = .ok (.aload_n 1, 1) := by decide +kernel
theorem dX5_readCommand_205 : decode cX5_readCommand 205 = .ok (.invokevirtual 169, 3) := by decide +kernel
theorem dX5_readCommand_208 : decode cX5_readCommand 208 = .ok (.ireturn, 1) := by decide +kernel
theorem dX5_readCommand_209 : decode cX5_readCommand 209 = .ok (.aload_n 0, 1) := by decide +kernel
theorem dX5_readCommand_210 : decode cX5_readCommand 210 = .ok (.aload_n 1, 1) := by decide +kernel
theorem dX5_readCommand_211 : decode cX5_readCommand 211 = .ok (.invokevirtual 173, 3) := by decide +kernel
theorem dX5_readCommand_214 : decode cX5_readCommand 214 = .ok (.ireturn, 1) := by decide +kernel
theorem dX5_readCommand_215 : decode cX5_readCommand 215 = .ok (.aload_n 0, 1) := by decide +kernel
theorem dX5_readCommand_216 : decode cX5_readCommand 216 = .ok (.invokevirtual 121, 3) := by decide +kernel
theorem dX5_readCommand_219 : decode cX5_readCommand 219 = .ok (.istore_n 3, 1) := by decide +kernel
theorem dX5_readCommand_220 : decode cX5_readCommand 220 = .ok (.iload_n 3, 1) := by decide +kernel
theorem dX5_readCommand_221 : decode cX5_readCommand 221 = .ok (.iconst (-1), 1) := by decide +kernel
theorem dX5_readCommand_222 : decode cX5_readCommand 222 = .ok (.if_icmp .eq 35, 3) := by decide +kernel
theorem dX5_readCommand_225 : decode cX5_readCommand 225 = .ok (.aload_n 0, 1) := by decide +kernel
theorem dX5_readCommand_226 : decode cX5_readCommand 226 = .ok (.aload_n 1, 1) := by decide +kernel
theorem dX5_readCommand_227 : decode cX5_readCommand 227 = .ok (.iload_n 3, 1) := by decide +kernel
theorem dX5_readCommand_228 : decode cX5_readCommand 228 = .ok (.invokestatic 96, 3) := by decide +kernel
theorem dX5_readCommand_231 : decode cX5_readCommand 231 = .ok (.ifCond .eq 15, 3) := by decide +kernel
theorem dX5_readCommand_234 : decode cX5_readCommand 234 = .ok (.aload_n 1, 1) := by decide +kernel
theorem dX5_readCommand_235 : decode cX5_readCommand 235 = .ok (.iload_n 3, 1) := by decide +kernel
theorem dX5_readCommand_236 : decode cX5_readCommand 236 = .ok (.invokestatic 176, 3) := by decide +kernel
theorem dX5_readCommand_239 : decode cX5_readCommand 239 = .ok (.ifCond .lt 7, 3) := by decide +kernel
theorem dX5_readCommand_242 : decode cX5_readCommand 242 = .ok (.iconst 1, 1) := by decide +kernel
theorem dX5_readCommand_243 : decode cX5_readCommand 243 = .ok (.goto 4, 3) := by decide +kernel
theorem dX5_readCommand_246 : decode cX5_readCommand 246 = .ok (.iconst 0, 1) := by decide +kernel
theorem dX5_readCommand_247 : decode cX5_readCommand 247 = .ok (.invokevirtual 141, 3) := by decide +kernel
theorem dX5_readCommand_250 : decode cX5_readCommand 250 = .ok (.ifCond .eq 7, 3) := by decide +kernel
theorem dX5_readCommand_253 : decode cX5_readCommand 253 = .ok (.iconst 1, 1) := by decide +kernel
theorem dX5_readCommand_254 : decode cX5_readCommand 254 = .ok (.goto 4, 3) := by decide +kernel
theorem dX5_readCommand_257 : decode cX5_readCommand 257 = .ok (.iconst 0, 1) := by decide +kernel
theorem dX5_readCommand_258 : decode cX5_readCommand 258 = .ok (.ireturn, 1) := by decide +kernel
theorem dX5_readCommand_259 : decode cX5_readCommand 259 = .ok (.aload_n 0, 1) := by decide +kernel
theorem dX5_readCommand_260 : decode cX5_readCommand 260 = .ok (.invokevirtual 121, 3) := by decide +kernel
theorem dX5_readCommand_263 : decode cX5_readCommand 263 = .ok (.istore_n 3, 1) := by decide +kernel
theorem dX5_readCommand_264 : decode cX5_readCommand 264 = .ok (.aload_n 0, 1) := by decide +kernel
theorem dX5_readCommand_265 : decode cX5_readCommand 265 = .ok (.iload_n 3, 1) := by decide +kernel
theorem dX5_readCommand_266 : decode cX5_readCommand 266 = .ok (.bipush 100, 2) := by decide +kernel
theorem dX5_readCommand_268 : decode cX5_readCommand 268 = .ok (.iconst 1, 1) := by decide +kernel
theorem dX5_readCommand_269 : decode cX5_readCommand 269 = .ok (.sipush 200, 3) := by decide +kernel
theorem dX5_readCommand_272 : decode cX5_readCommand 272 = .ok (.invokevirtual 114, 3) := by decide +kernel
theorem dX5_readCommand_275 : decode cX5_readCommand 275 = .ok (.istore 4, 2) := by decide +kernel
theorem dX5_readCommand_277 : decode cX5_readCommand 277 = .ok (.iload 4, 2) := by decide +kernel
theorem dX5_readCommand_279 : decode cX5_readCommand 279 = .ok (.iconst (-1), 1) := by decide +kernel
theorem dX5_readCommand_280 : decode cX5_readCommand 280 = .ok (.if_icmp .eq 37, 3) := by decide +kernel
theorem dX5_readCommand_283 : decode cX5_readCommand 283 = .ok (.aload_n 0, 1) := by decide +kernel
theorem dX5_readCommand_284 : decode cX5_readCommand 284 = .ok (.aload_n 1, 1) := by decide +kernel
theorem dX5_readCommand_285 : decode cX5_readCommand 285 = .ok (.iload_n 3, 1) := by decide +kernel
theorem dX5_readCommand_286 : decode cX5_readCommand 286 = .ok (.invokestatic 96, 3) := by decide +kernel
theorem dX5_readCommand_289 : decode cX5_readCommand 289 = .ok (.ifCond .eq 17, 3) := by decide +kernel
theorem dX5_readCommand_292 : decode cX5_readCommand 292 = .ok (.aload_n 1, 1) := by decide +kernel
theorem dX5_readCommand_293 : decode cX5_readCommand 293 = .ok (.iload_n 3, 1) := by decide +kernel
theorem dX5_readCommand_294 : decode cX5_readCommand 294 = .ok (.iload 4, 2) := by decide +kernel
theorem dX5_readCommand_296 : decode cX5_readCommand 296 = .ok (.invokestatic 179, 3) := by decide +kernel
theorem dX5_readCommand_299 : decode cX5_readCommand 299 = .ok (.ifCond .lt 7, 3) := by decide +kernel
theorem dX5_readCommand_302 : decode cX5_readCommand 302 = .ok (.iconst 1, 1) := by decide +kernel
theorem dX5_readCommand_303 : decode cX5_readCommand 303 = .ok (.goto 4, 3) := by decide +kernel
theorem dX5_readCommand_306 : decode cX5_readCommand 306 = .ok (.iconst 0, 1) := by decide +kernel
theorem dX5_readCommand_307 : decode cX5_readCommand 307 = .ok (.invokevirtual 141, 3) := by decide +kernel
theorem dX5_readCommand_310 : decode cX5_readCommand 310 = .ok (.ifCond .eq 7, 3) := by decide +kernel
theorem dX5_readCommand_313 : decode cX5_readCommand 313 = .ok (.iconst 1, 1) := by decide +kernel
theorem dX5_readCommand_314 : decode cX5_readCommand 314 = .ok (.goto 4, 3) := by decide +kernel
theorem dX5_readCommand_317 : decode cX5_readCommand 317 = .ok (.iconst 0, 1) := by decide +kernel
theorem dX5_readCommand_318 : decode cX5_readCommand 318 = .ok (.ireturn, 1) := by decide +kernel
theorem dX5_readCommand_319 : decode cX5_readCommand 319 = .ok (.aload_n 0, 1) := by decide +kernel
theorem dX5_readCommand_320 : decode cX5_readCommand 320 = .ok (.aload_n 1, 1) := by decide +kernel
theorem dX5_readCommand_321 : decode cX5_readCommand 321 = .ok (.invokevirtual 182, 3) := by decide +kernel
theorem dX5_readCommand_324 : decode cX5_readCommand 324 = .ok (.ireturn, 1) := by decide +kernel
theorem dX5_readCommand_325 : decode cX5_readCommand 325 = .ok (.aload_n 0, 1) := by decide +kernel
theorem dX5_readCommand_326 : decode cX5_readCommand 326 = .ok (.dup, 1) := by decide +kernel
theorem dX5_readCommand_327 : decode cX5_readCommand 327 = .ok (.getfield 109, 3) := by decide +kernel
theorem dX5_readCommand_330 : decode cX5_readCommand 330 = .ok (.iconst 1, 1) := by decide +kernel
theorem dX5_readCommand_331 : decode cX5_readCommand 331 = .ok (.isub, 1) := by decide +kernel
theorem dX5_readCommand_332 : decode cX5_readCommand 332 = .ok (.putfield 109, 3) := by decide +kernel
theorem dX5_readCommand_335 : decode cX5_readCommand 335 = .ok (.iconst 0, 1) := by decide +kernel
theorem dX5_readCommand_336 : decode cX5_readCommand 336 = .ok (.ireturn, 1) := by decide +kernel
theorem dX5_readText_0 : decode cX5_readText 0 = .ok (.aload_n 1, 1) := by decide +kernel
theorem dX5_readText_1 : decode cX5_readText 1 = .ok (.invokestatic 29, 3) := by decide +kernel
theorem dX5_readText_4 : decode cX5_readText 4 = .ok (.aload_n 0, 1) := by decide +kernel
theorem dX5_readText_5 : decode cX5_readText 5 = .ok (.iconst 0, 1) := by decide +kernel
theorem dX5_readText_6 : decode cX5_readText 6 = .ok (.putfield 118, 3) := by decide +kernel
theorem dX5_readText_9 : decode cX5_readText 9 = .ok (.aload_n 0, 1) := by decide +kernel
theorem dX5_readText_10 : decode cX5_readText 10 = .ok (.iconst 0, 1) := by decide +kernel
theorem dX5_readText_11 : decode cX5_readText 11 = .ok (.putfield 109, 3) := by decide +kernel
theorem dX5_readText_14 : decode cX5_readText 14 = .ok (.aload_n 0, 1) := by decide +kernel
theorem dX5_readText_15 : decode cX5_readText 15 = .ok (.getfield 102, 3) := by decide +kernel
theorem dX5_readText_18 : decode cX5_readText 18 = .ok (.ifCond .eq 14, 3) := by decide +kernel
theorem dX5_readText_21 : decode cX5_readText 21 = .ok (.aload_n 0, 1) := by decide +kernel
theorem dX5_readText_22 : decode cX5_readText 22 = .ok (.getfield 7, 3) := by decide +kernel
theorem dX5_readText_25 : decode cX5_readText 25 = .ok (.iconst 0, 1) := by decide +kernel
theorem dX5_readText_26 : decode cX5_readText 26 = .ok (.iaload, 1) := by decide +kernel
theorem dX5_readText_27 : decode cX5_readText 27 = .ok (.bipush 75, 2) := by decide +kernel
theorem dX5_readText_29 : decode cX5_readText 29 = .ok (.if_icmp .eq 5, 3) := by decide +kernel
theorem dX5_readText_32 : decode cX5_readText 32 = .ok (.iconst 0, 1) := by decide +kernel
theorem dX5_readText_33 : decode cX5_readText 33 = .ok (.ireturn, 1) := by decide +kernel
theorem dX5_readText_34 : decode cX5_readText 34 = .ok (.aload_n 0, 1) := by decide +kernel
theorem dX5_readText_35 : decode cX5_readText 35 = .ok (.iconst 1, 1) := by decide +kernel
theorem dX5_readText_36 : decode cX5_readText 36 = .ok (.putfield 109, 3) := by decide +kernel
theorem dX5_readText_39 : decode cX5_readText 39 = .ok (.aload_n 0, 1) := by decide +kernel
theorem dX5_readText_40 : decode cX5_readText 40 = .ok (.getfield 109, 3) := by decide +kernel
theorem dX5_readText_43 : decode cX5_readText 43 = .ok (.aload_n 0, 1) := by decide +kernel
theorem dX5_readText_44 : decode cX5_readText 44 = .ok (.getfield 102, 3) := by decide +kernel
theorem dX5_readText_47 : decode cX5_readText 47 = .ok (.if_icmp .ge 16, 3) := by decide +kernel
theorem dX5_readText_50 : decode cX5_readText 50 = .ok (.aload_n 0, 1) := by decide +kernel
theorem dX5_readText_51 : decode cX5_readText 51 = .ok (.aload_n 1, 1) := by decide +kernel
theorem dX5_readText_52 : decode cX5_readText 52 = .ok (.invokevirtual 185, 3) := by decide +kernel
theorem dX5_readText_55 : decode cX5_readText 55 = .ok (.ifCond .ne (-16), 3) := by decide +kernel
theorem dX5_readText_58 : decode cX5_readText 58 = .ok (.aload_n 0, 1) := by decide +kernel
theorem dX5_readText_59 : decode cX5_readText 59 = .ok (.getfield 109, 3) := by decide +kernel
theorem dX5_readText_62 : decode cX5_readText 62 = .ok (.ireturn, 1) := by decide +kernel
theorem dX5_readText_63 : decode cX5_readText 63 = .ok (.iconst (-1), 1) := by decide +kernel
theorem dX5_readText_64 : decode cX5_readText 64 = .ok (.ireturn, 1) := by decide +kernel
theorem dX5_errorPosition_0 : decode cX5_errorPosition 0 = .ok (.aload_n 0, 1) := by decide +kernel
theorem dX5_errorPosition_1 : decode cX5_errorPosition 1 = .ok (.iconst 0, 1) := by decide +kernel
theorem dX5_errorPosition_2 : decode cX5_errorPosition 2 = .ok (.putfield 33, 3) := by decide +kernel
theorem dX5_errorPosition_5 : decode cX5_errorPosition 5 = .ok (.aload_n 0, 1) := by decide +kernel
theorem dX5_errorPosition_6 : decode cX5_errorPosition 6 = .ok (.aload_n 0, 1) := by decide +kernel
theorem dX5_errorPosition_7 : decode cX5_errorPosition 7 = .ok (.getfield 16, 3) := by decide +kernel
theorem dX5_errorPosition_10 : decode cX5_errorPosition 10 = .ok (.invokevirtual 188, 3) := by decide +kernel
theorem dX5_errorPosition_13 : decode cX5_errorPosition 13 = .ok (.ireturn, 1) := by decide +kernel
theorem dX5_load_0 : decode cX5_load 0 = .ok (.aload_n 0, 1) := by decide +kernel
theorem dX5_load_1 : decode cX5_load 1 = .ok (.aload_n 0, 1) := by decide +kernel
theorem dX5_load_2 : decode cX5_load 2 = .ok (.aload_n 0, 1) := by decide +kernel
theorem dX5_load_3 : decode cX5_load 3 = .ok (.getfield 16, 3) := by decide +kernel
theorem dX5_load_6 : decode cX5_load 6 = .ok (.invokevirtual 188, 3) := by decide +kernel
theorem dX5_load_9 : decode cX5_load 9 = .ok (.iconst (-1), 1) := by decide +kernel
theorem dX5_load_10 : decode cX5_load 10 = .ok (.if_icmp .ne 7, 3) := by decide +kernel
theorem dX5_load_13 : decode cX5_load 13 = .ok (.iconst 0, 1) := by decide +kernel
theorem dX5_load_14 : decode cX5_load 14 = .ok (.goto 4, 3) := by decide +kernel
theorem dX5_load_17 : decode cX5_load 17 = .ok (.iconst 1, 1) := by decide +kernel
theorem dX5_load_18 : decode cX5_load 18 = .ok (.invokevirtual 105, 3) := by decide +kernel
theorem dX5_load_21 : decode cX5_load 21 = .ok (.ifCond .eq 5, 3) := by decide +kernel
theorem dX5_load_24 : decode cX5_load 24 = .ok (.iconst 0, 1) := by decide +kernel
theorem dX5_load_25 : decode cX5_load 25 = .ok (.ireturn, 1) := by decide +kernel
theorem dX5_load_26 : decode cX5_load 26 = .ok (.aload_n 0, 1) := by decide +kernel
theorem dX5_load_27 : decode cX5_load 27 = .ok (.getfield 16, 3) := by decide +kernel
theorem dX5_load_30 : decode cX5_load 30 = .ok (.iconst 0, 1) := by decide +kernel
theorem dX5_load_31 : decode cX5_load 31 = .ok (.aload_n 0, 1) := by decide +kernel
theorem dX5_load_32 : decode cX5_load 32 = .ok (.getfield 13, 3) := by decide +kernel
theorem dX5_load_35 : decode cX5_load 35 = .ok (.iconst 0, 1) := by decide +kernel
theorem dX5_load_36 : decode cX5_load 36 = .ok (.invokestatic 192, 3) := by decide +kernel
theorem dX5_load_39 : decode cX5_load 39 = .ok (.aload_n 0, 1) := by decide +kernel
theorem dX5_load_40 : decode cX5_load 40 = .ok (.iconst 0, 1) := by decide +kernel
theorem dX5_load_41 : decode cX5_load 41 = .ok (.putfield 196, 3) := by decide +kernel
theorem dX5_load_44 : decode cX5_load 44 = .ok (.aload_n 0, 1) := by decide +kernel
theorem dX5_load_45 : decode cX5_load 45 = .ok (.getfield 25, 3) := by decide +kernel
theorem dX5_load_48 : decode cX5_load 48 = .ok (.iconst 0, 1) := by decide +kernel
theorem dX5_load_49 : decode cX5_load 49 = .ok (.iconst 0, 1) := by decide +kernel
theorem dX5_load_50 : decode cX5_load 50 = .ok (.bastore, 1) := by decide +kernel
theorem dX5_load_51 : decode cX5_load 51 = .ok (.aload_n 0, 1) := by decide +kernel
theorem dX5_load_52 : decode cX5_load 52 = .ok (.getfield 25, 3) := by decide +kernel
theorem dX5_load_55 : decode cX5_load 55 = .ok (.iconst 1, 1) := by decide +kernel
theorem dX5_load_56 : decode cX5_load 56 = .ok (.iconst 0, 1) := by decide +kernel
theorem dX5_load_57 : decode cX5_load 57 = .ok (.bastore, 1) := by decide +kernel
theorem dX5_load_58 : decode cX5_load 58 = .ok (.aload_n 0, 1) := by decide +kernel
theorem dX5_load_59 : decode cX5_load 59 = .ok (.getfield 118, 3) := by decide +kernel
theorem dX5_load_62 : decode cX5_load 62 = .ok (.ireturn, 1) := by decide +kernel
theorem dX5_about_0 : decode cX5_about 0 = .ok (.aload_n 0, 1) := by decide +kernel
theorem dX5_about_1 : decode cX5_about 1 = .ok (.iload_n 1, 1) := by decide +kernel
theorem dX5_about_2 : decode cX5_about 2 = .ok (.i2l, 1) := by decide +kernel
theorem dX5_about_3 : decode cX5_about 3 = .ok (.lconst 0, 1) := by decide +kernel
theorem dX5_about_4 : decode cX5_about 4 = .ok (.ldc2_w 199, 3) := by decide +kernel
theorem dX5_about_7 : decode cX5_about 7 = .ok (.invokestatic 37, 3) := by decide +kernel
theorem dX5_about_10 : decode cX5_about 10 = .ok (.ifCond .eq 7, 3) := by decide +kernel
theorem dX5_about_13 : decode cX5_about 13 = .ok (.iconst 0, 1) := by decide +kernel
theorem dX5_about_14 : decode cX5_about 14 = .ok (.goto 4, 3) := by decide +kernel
theorem dX5_about_17 : decode cX5_about 17 = .ok (.iconst 1, 1) := by decide +kernel
theorem dX5_about_18 : decode cX5_about 18 = .ok (.invokevirtual 105, 3) := by decide +kernel
theorem dX5_about_21 : decode cX5_about 21 = .ok (.ifCond .eq 5, 3) := by decide +kernel
theorem dX5_about_24 : decode cX5_about 24 = .ok (.iconst 0, 1) := by decide +kernel
theorem dX5_about_25 : decode cX5_about 25 = .ok (.ireturn, 1) := by decide +kernel
theorem dX5_about_26 : decode cX5_about 26 = .ok (.iload_n 1, 1) := by decide +kernel
theorem dX5_about_27 : decode cX5_about 27 = .ok (.iconst 2, 1) := by decide +kernel
theorem dX5_about_28 : decode cX5_about 28 = .ok (.if_icmp .ge 12, 3) := by decide +kernel
theorem dX5_about_31 : decode cX5_about 31 = .ok (.aload_n 0, 1) := by decide +kernel
theorem dX5_about_32 : decode cX5_about 32 = .ok (.getfield 13, 3) := by decide +kernel
theorem dX5_about_35 : decode cX5_about 35 = .ok (.iload_n 1, 1) := by decide +kernel
theorem dX5_about_36 : decode cX5_about 36 = .ok (.iaload, 1) := by decide +kernel
theorem dX5_about_37 : decode cX5_about 37 = .ok (.goto 26, 3) := by decide +kernel
theorem dX5_about_40 : decode cX5_about 40 = .ok (.iload_n 1, 1) := by decide +kernel
theorem dX5_about_41 : decode cX5_about 41 = .ok (.iconst 2, 1) := by decide +kernel
theorem dX5_about_42 : decode cX5_about 42 = .ok (.if_icmp .ne 13, 3) := by decide +kernel
theorem dX5_about_45 : decode cX5_about 45 = .ok (.aload_n 0, 1) := by decide +kernel
theorem dX5_about_46 : decode cX5_about 46 = .ok (.getfield 13, 3) := by decide +kernel
theorem dX5_about_49 : decode cX5_about 49 = .ok (.invokestatic 201, 3) := by decide +kernel
theorem dX5_about_52 : decode cX5_about 52 = .ok (.goto 11, 3) := by decide +kernel
theorem dX5_about_55 : decode cX5_about 55 = .ok (.aload_n 0, 1) := by decide +kernel
theorem dX5_about_56 : decode cX5_about 56 = .ok (.getfield 13, 3) := by decide +kernel
theorem dX5_about_59 : decode cX5_about 59 = .ok (.iload_n 1, 1) := by decide +kernel
theorem dX5_about_60 : decode cX5_about 60 = .ok (.iconst 1, 1) := by decide +kernel
theorem dX5_about_61 : decode cX5_about 61 = .ok (.isub, 1) := by decide +kernel
theorem dX5_about_62 : decode cX5_about 62 = .ok (.iaload, 1) := by decide +kernel
theorem dX5_about_63 : decode cX5_about 63 = .ok (.ireturn, 1) := by decide +kernel
theorem dX5_chairOf_0 : decode cX5_chairOf 0 = .ok (.aload_n 0, 1) := by decide +kernel
theorem dX5_chairOf_1 : decode cX5_chairOf 1 = .ok (.aload_n 0, 1) := by decide +kernel
theorem dX5_chairOf_2 : decode cX5_chairOf 2 = .ok (.getfield 13, 3) := by decide +kernel
theorem dX5_chairOf_5 : decode cX5_chairOf 5 = .ok (.iload_n 1, 1) := by decide +kernel
theorem dX5_chairOf_6 : decode cX5_chairOf 6 = .ok (.invokestatic 96, 3) := by decide +kernel
theorem dX5_chairOf_9 : decode cX5_chairOf 9 = .ok (.ifCond .ne 7, 3) := by decide +kernel
theorem dX5_chairOf_12 : decode cX5_chairOf 12 = .ok (.iconst 1, 1) := by decide +kernel
theorem dX5_chairOf_13 : decode cX5_chairOf 13 = .ok (.goto 20, 3) := by decide +kernel
theorem dX5_chairOf_16 : decode cX5_chairOf 16 = .ok (.iload_n 2, 1) := by decide +kernel
theorem dX5_chairOf_17 : decode cX5_chairOf 17 = .ok (.i2l, 1) := by decide +kernel
theorem dX5_chairOf_18 : decode cX5_chairOf 18 = .ok (.lconst 0, 1) := by decide +kernel
theorem dX5_chairOf_19 : decode cX5_chairOf 19 = .ok (.ldc2_w 204, 3) := by decide +kernel
theorem dX5_chairOf_22 : decode cX5_chairOf 22 = .ok (.invokestatic 37, 3) := by decide +kernel
theorem dX5_chairOf_25 : decode cX5_chairOf 25 = .ok (.ifCond .eq 7, 3) := by decide +kernel
theorem dX5_chairOf_28 : decode cX5_chairOf 28 = .ok (.iconst 0, 1) := by decide +kernel
theorem dX5_chairOf_29 : decode cX5_chairOf 29 = .ok (.goto 4, 3) := by decide +kernel
theorem dX5_chairOf_32 : decode cX5_chairOf 32 = .ok (.iconst 2, 1) := by decide +kernel
theorem dX5_chairOf_33 : decode cX5_chairOf 33 = .ok (.invokevirtual 105, 3) := by decide +kernel
theorem dX5_chairOf_36 : decode cX5_chairOf 36 = .ok (.ifCond .eq 5, 3) := by decide +kernel
theorem dX5_chairOf_39 : decode cX5_chairOf 39 = .ok (.iconst 0, 1) := by decide +kernel
theorem dX5_chairOf_40 : decode cX5_chairOf 40 = .ok (.ireturn, 1) := by decide +kernel
theorem dX5_chairOf_41 : decode cX5_chairOf 41 = .ok (.iload_n 2, 1) := by decide +kernel
theorem dX5_chairOf_42 : decode cX5_chairOf 42 = .ok (.tableswitch 94 3 8 #[38, 47, 56, 65, 75, 84], 38) := by decide +kernel
theorem dX5_chairOf_80 : decode cX5_chairOf 80 = .ok (.aload_n 0, 1) := by decide +kernel
theorem dX5_chairOf_81 : decode cX5_chairOf 81 = .ok (.getfield 13, 3) := by decide +kernel
theorem dX5_chairOf_84 : decode cX5_chairOf 84 = .ok (.iload_n 1, 1) := by decide +kernel
theorem dX5_chairOf_85 : decode cX5_chairOf 85 = .ok (.invokestatic 72, 3) := by decide +kernel
theorem dX5_chairOf_88 : decode cX5_chairOf 88 = .ok (.ireturn, 1) := by decide +kernel
theorem dX5_chairOf_89 : decode cX5_chairOf 89 = .ok (.aload_n 0, 1) := by decide +kernel
theorem dX5_chairOf_90 : decode cX5_chairOf 90 = .ok (.getfield 13, 3) := by decide +kernel
theorem dX5_chairOf_93 : decode cX5_chairOf 93 = .ok (.iload_n 1, 1) := by decide +kernel
theorem dX5_chairOf_94 : decode cX5_chairOf 94 = .ok (.invokestatic 75, 3) := by decide +kernel
theorem dX5_chairOf_97 : decode cX5_chairOf 97 = .ok (.ireturn, 1) := by decide +kernel
theorem dX5_chairOf_98 : decode cX5_chairOf 98 = .ok (.aload_n 0, 1) := by decide +kernel
theorem dX5_chairOf_99 : decode cX5_chairOf 99 = .ok (.getfield 13, 3) := by decide +kernel
theorem dX5_chairOf_102 : decode cX5_chairOf 102 = .ok (.iload_n 1, 1) := by decide +kernel
theorem dX5_chairOf_103 : decode cX5_chairOf 103 = .ok (.invokestatic 93, 3) := by decide +kernel
theorem dX5_chairOf_106 : decode cX5_chairOf 106 = .ok (.ireturn, 1) := by decide +kernel
theorem dX5_chairOf_107 : decode cX5_chairOf 107 = .ok (.aload_n 0, 1) := by decide +kernel
theorem dX5_chairOf_108 : decode cX5_chairOf 108 = .ok (.getfield 13, 3) := by decide +kernel
theorem dX5_chairOf_111 : decode cX5_chairOf 111 = .ok (.iload_n 1, 1) := by decide +kernel
theorem dX5_chairOf_112 : decode cX5_chairOf 112 = .ok (.iconst 3, 1) := by decide +kernel
theorem dX5_chairOf_113 : decode cX5_chairOf 113 = .ok (.invokestatic 51, 3) := by decide +kernel
theorem dX5_chairOf_116 : decode cX5_chairOf 116 = .ok (.ireturn, 1) := by decide +kernel
theorem dX5_chairOf_117 : decode cX5_chairOf 117 = .ok (.aload_n 0, 1) := by decide +kernel
theorem dX5_chairOf_118 : decode cX5_chairOf 118 = .ok (.getfield 13, 3) := by decide +kernel
theorem dX5_chairOf_121 : decode cX5_chairOf 121 = .ok (.iload_n 1, 1) := by decide +kernel
theorem dX5_chairOf_122 : decode cX5_chairOf 122 = .ok (.invokestatic 90, 3) := by decide +kernel
theorem dX5_chairOf_125 : decode cX5_chairOf 125 = .ok (.ireturn, 1) := by decide +kernel
theorem dX5_chairOf_126 : decode cX5_chairOf 126 = .ok (.aload_n 0, 1) := by decide +kernel
theorem dX5_chairOf_127 : decode cX5_chairOf 127 = .ok (.getfield 13, 3) := by decide +kernel
theorem dX5_chairOf_130 : decode cX5_chairOf 130 = .ok (.iload_n 1, 1) := by decide +kernel
theorem dX5_chairOf_131 : decode cX5_chairOf 131 = .ok (.iconst 4, 1) := by decide +kernel
theorem dX5_chairOf_132 : decode cX5_chairOf 132 = .ok (.invokestatic 51, 3) := by decide +kernel
theorem dX5_chairOf_135 : decode cX5_chairOf 135 = .ok (.ireturn, 1) := by decide +kernel
theorem dX5_chairOf_136 : decode cX5_chairOf 136 = .ok (.aload_n 0, 1) := by decide +kernel
theorem dX5_chairOf_137 : decode cX5_chairOf 137 = .ok (.getfield 13, 3) := by decide +kernel
theorem dX5_chairOf_140 : decode cX5_chairOf 140 = .ok (.iload_n 1, 1) := by decide +kernel
theorem dX5_chairOf_141 : decode cX5_chairOf 141 = .ok (.iload_n 2, 1) := by decide +kernel
theorem dX5_chairOf_142 : decode cX5_chairOf 142 = .ok (.invokestatic 51, 3) := by decide +kernel
theorem dX5_chairOf_145 : decode cX5_chairOf 145 = .ok (.ireturn, 1) := by decide +kernel
theorem dX5_wobble_0 : decode cX5_wobble 0 = .ok (.aload_n 0, 1) := by decide +kernel
theorem dX5_wobble_1 : decode cX5_wobble 1 = .ok (.aload_n 0, 1) := by decide +kernel
theorem dX5_wobble_2 : decode cX5_wobble 2 = .ok (.getfield 13, 3) := by decide +kernel
theorem dX5_wobble_5 : decode cX5_wobble 5 = .ok (.iload_n 1, 1) := by decide +kernel
theorem dX5_wobble_6 : decode cX5_wobble 6 = .ok (.invokestatic 96, 3) := by decide +kernel
theorem dX5_wobble_9 : decode cX5_wobble 9 = .ok (.ifCond .ne 7, 3) := by decide +kernel
theorem dX5_wobble_12 : decode cX5_wobble 12 = .ok (.iconst 1, 1) := by decide +kernel
theorem dX5_wobble_13 : decode cX5_wobble 13 = .ok (.goto 18, 3) := by decide +kernel
theorem dX5_wobble_16 : decode cX5_wobble 16 = .ok (.iload_n 2, 1) := by decide +kernel
theorem dX5_wobble_17 : decode cX5_wobble 17 = .ok (.i2l, 1) := by decide +kernel
theorem dX5_wobble_18 : decode cX5_wobble 18 = .ok (.lconst 0, 1) := by decide +kernel
theorem dX5_wobble_19 : decode cX5_wobble 19 = .ok (.lconst 1, 1) := by decide +kernel
theorem dX5_wobble_20 : decode cX5_wobble 20 = .ok (.invokestatic 37, 3) := by decide +kernel
theorem dX5_wobble_23 : decode cX5_wobble 23 = .ok (.ifCond .eq 7, 3) := by decide +kernel
theorem dX5_wobble_26 : decode cX5_wobble 26 = .ok (.iconst 0, 1) := by decide +kernel
theorem dX5_wobble_27 : decode cX5_wobble 27 = .ok (.goto 4, 3) := by decide +kernel
theorem dX5_wobble_30 : decode cX5_wobble 30 = .ok (.iconst 2, 1) := by decide +kernel
theorem dX5_wobble_31 : decode cX5_wobble 31 = .ok (.invokevirtual 105, 3) := by decide +kernel
theorem dX5_wobble_34 : decode cX5_wobble 34 = .ok (.ifCond .eq 5, 3) := by decide +kernel
theorem dX5_wobble_37 : decode cX5_wobble 37 = .ok (.iconst 0, 1) := by decide +kernel
theorem dX5_wobble_38 : decode cX5_wobble 38 = .ok (.ireturn, 1) := by decide +kernel
theorem dX5_wobble_39 : decode cX5_wobble 39 = .ok (.aload_n 0, 1) := by decide +kernel
theorem dX5_wobble_40 : decode cX5_wobble 40 = .ok (.getfield 13, 3) := by decide +kernel
theorem dX5_wobble_43 : decode cX5_wobble 43 = .ok (.iload_n 1, 1) := by decide +kernel
theorem dX5_wobble_44 : decode cX5_wobble 44 = .ok (.invokestatic 69, 3) := by decide +kernel
theorem dX5_wobble_47 : decode cX5_wobble 47 = .ok (.ireturn, 1) := by decide +kernel
theorem dX5_legOf_0 : decode cX5_legOf 0 = .ok (.aload_n 0, 1) := by decide +kernel
theorem dX5_legOf_1 : decode cX5_legOf 1 = .ok (.aload_n 0, 1) := by decide +kernel
theorem dX5_legOf_2 : decode cX5_legOf 2 = .ok (.getfield 13, 3) := by decide +kernel
theorem dX5_legOf_5 : decode cX5_legOf 5 = .ok (.iload_n 1, 1) := by decide +kernel
theorem dX5_legOf_6 : decode cX5_legOf 6 = .ok (.invokestatic 96, 3) := by decide +kernel
theorem dX5_legOf_9 : decode cX5_legOf 9 = .ok (.ifCond .eq 10, 3) := by decide +kernel
theorem dX5_legOf_12 : decode cX5_legOf 12 = .ok (.iload_n 2, 1) := by decide +kernel
theorem dX5_legOf_13 : decode cX5_legOf 13 = .ok (.invokestatic 206, 3) := by decide +kernel
theorem dX5_legOf_16 : decode cX5_legOf 16 = .ok (.ifCond .ne 7, 3) := by decide +kernel
theorem dX5_legOf_19 : decode cX5_legOf 19 = .ok (.iconst 1, 1) := by decide +kernel
theorem dX5_legOf_20 : decode cX5_legOf 20 = .ok (.goto 20, 3) := by decide +kernel
theorem dX5_legOf_23 : decode cX5_legOf 23 = .ok (.iload_n 3, 1) := by decide +kernel
theorem dX5_legOf_24 : decode cX5_legOf 24 = .ok (.i2l, 1) := by decide +kernel
theorem dX5_legOf_25 : decode cX5_legOf 25 = .ok (.lconst 0, 1) := by decide +kernel
theorem dX5_legOf_26 : decode cX5_legOf 26 = .ok (.ldc2_w 209, 3) := by decide +kernel
theorem dX5_legOf_29 : decode cX5_legOf 29 = .ok (.invokestatic 37, 3) := by decide +kernel
theorem dX5_legOf_32 : decode cX5_legOf 32 = .ok (.ifCond .eq 7, 3) := by decide +kernel
theorem dX5_legOf_35 : decode cX5_legOf 35 = .ok (.iconst 0, 1) := by decide +kernel
theorem dX5_legOf_36 : decode cX5_legOf 36 = .ok (.goto 4, 3) := by decide +kernel
theorem dX5_legOf_39 : decode cX5_legOf 39 = .ok (.iconst 2, 1) := by decide +kernel
theorem dX5_legOf_40 : decode cX5_legOf 40 = .ok (.invokevirtual 105, 3) := by decide +kernel
theorem dX5_legOf_43 : decode cX5_legOf 43 = .ok (.ifCond .eq 5, 3) := by decide +kernel
theorem dX5_legOf_46 : decode cX5_legOf 46 = .ok (.iconst 0, 1) := by decide +kernel
theorem dX5_legOf_47 : decode cX5_legOf 47 = .ok (.ireturn, 1) := by decide +kernel
theorem dX5_legOf_48 : decode cX5_legOf 48 = .ok (.iload_n 3, 1) := by decide +kernel
theorem dX5_legOf_49 : decode cX5_legOf 49 = .ok (.ifCond .ne 17, 3) := by decide +kernel
theorem dX5_legOf_52 : decode cX5_legOf 52 = .ok (.aload_n 0, 1) := by decide +kernel
theorem dX5_legOf_53 : decode cX5_legOf 53 = .ok (.getfield 13, 3) := by decide +kernel
theorem dX5_legOf_56 : decode cX5_legOf 56 = .ok (.iload_n 1, 1) := by decide +kernel
theorem dX5_legOf_57 : decode cX5_legOf 57 = .ok (.iconst 5, 1) := by decide +kernel
theorem dX5_legOf_58 : decode cX5_legOf 58 = .ok (.iload_n 2, 1) := by decide +kernel
theorem dX5_legOf_59 : decode cX5_legOf 59 = .ok (.iadd, 1) := by decide +kernel
theorem dX5_legOf_60 : decode cX5_legOf 60 = .ok (.invokestatic 51, 3) := by decide +kernel
theorem dX5_legOf_63 : decode cX5_legOf 63 = .ok (.goto 29, 3) := by decide +kernel
theorem dX5_legOf_66 : decode cX5_legOf 66 = .ok (.iload_n 3, 1) := by decide +kernel
theorem dX5_legOf_67 : decode cX5_legOf 67 = .ok (.iconst 1, 1) := by decide +kernel
theorem dX5_legOf_68 : decode cX5_legOf 68 = .ok (.if_icmp .ne 15, 3) := by decide +kernel
theorem dX5_legOf_71 : decode cX5_legOf 71 = .ok (.aload_n 0, 1) := by decide +kernel
theorem dX5_legOf_72 : decode cX5_legOf 72 = .ok (.getfield 13, 3) := by decide +kernel
theorem dX5_legOf_75 : decode cX5_legOf 75 = .ok (.iload_n 1, 1) := by decide +kernel
theorem dX5_legOf_76 : decode cX5_legOf 76 = .ok (.iload_n 2, 1) := by decide +kernel
theorem dX5_legOf_77 : decode cX5_legOf 77 = .ok (.invokestatic 58, 3) := by decide +kernel
theorem dX5_legOf_80 : decode cX5_legOf 80 = .ok (.goto 12, 3) := by decide +kernel
theorem dX5_legOf_83 : decode cX5_legOf 83 = .ok (.aload_n 0, 1) := by decide +kernel
theorem dX5_legOf_84 : decode cX5_legOf 84 = .ok (.getfield 13, 3) := by decide +kernel
theorem dX5_legOf_87 : decode cX5_legOf 87 = .ok (.iload_n 1, 1) := by decide +kernel
theorem dX5_legOf_88 : decode cX5_legOf 88 = .ok (.iload_n 2, 1) := by decide +kernel
theorem dX5_legOf_89 : decode cX5_legOf 89 = .ok (.invokestatic 55, 3) := by decide +kernel
theorem dX5_legOf_92 : decode cX5_legOf 92 = .ok (.ireturn, 1) := by decide +kernel
theorem dX5_spot_0 : decode cX5_spot 0 = .ok (.aload_n 0, 1) := by decide +kernel
theorem dX5_spot_1 : decode cX5_spot 1 = .ok (.aload_n 0, 1) := by decide +kernel
theorem dX5_spot_2 : decode cX5_spot 2 = .ok (.getfield 13, 3) := by decide +kernel
theorem dX5_spot_5 : decode cX5_spot 5 = .ok (.iload_n 1, 1) := by decide +kernel
theorem dX5_spot_6 : decode cX5_spot 6 = .ok (.invokestatic 149, 3) := by decide +kernel
theorem dX5_spot_9 : decode cX5_spot 9 = .ok (.ifCond .eq 14, 3) := by decide +kernel
theorem dX5_spot_12 : decode cX5_spot 12 = .ok (.iload_n 2, 1) := by decide +kernel
theorem dX5_spot_13 : decode cX5_spot 13 = .ok (.invokestatic 206, 3) := by decide +kernel
theorem dX5_spot_16 : decode cX5_spot 16 = .ok (.ifCond .eq 7, 3) := by decide +kernel
theorem dX5_spot_19 : decode cX5_spot 19 = .ok (.iconst 0, 1) := by decide +kernel
theorem dX5_spot_20 : decode cX5_spot 20 = .ok (.goto 4, 3) := by decide +kernel
theorem dX5_spot_23 : decode cX5_spot 23 = .ok (.iconst 1, 1) := by decide +kernel
theorem dX5_spot_24 : decode cX5_spot 24 = .ok (.invokevirtual 105, 3) := by decide +kernel
theorem dX5_spot_27 : decode cX5_spot 27 = .ok (.ifCond .eq 5, 3) := by decide +kernel
theorem dX5_spot_30 : decode cX5_spot 30 = .ok (.iconst 0, 1) := by decide +kernel
theorem dX5_spot_31 : decode cX5_spot 31 = .ok (.ireturn, 1) := by decide +kernel
theorem dX5_spot_32 : decode cX5_spot 32 = .ok (.aload_n 0, 1) := by decide +kernel
theorem dX5_spot_33 : decode cX5_spot 33 = .ok (.getfield 13, 3) := by decide +kernel
theorem dX5_spot_36 : decode cX5_spot 36 = .ok (.bipush 12, 2) := by decide +kernel
theorem dX5_spot_38 : decode cX5_spot 38 = .ok (.iconst 4, 1) := by decide +kernel
theorem dX5_spot_39 : decode cX5_spot 39 = .ok (.iload_n 1, 1) := by decide +kernel
theorem dX5_spot_40 : decode cX5_spot 40 = .ok (.imul, 1) := by decide +kernel
theorem dX5_spot_41 : decode cX5_spot 41 = .ok (.iadd, 1) := by decide +kernel
theorem dX5_spot_42 : decode cX5_spot 42 = .ok (.iload_n 2, 1) := by decide +kernel
theorem dX5_spot_43 : decode cX5_spot 43 = .ok (.iadd, 1) := by decide +kernel
theorem dX5_spot_44 : decode cX5_spot 44 = .ok (.iaload, 1) := by decide +kernel
theorem dX5_spot_45 : decode cX5_spot 45 = .ok (.ireturn, 1) := by decide +kernel
theorem dX5_boundOf_0 : decode cX5_boundOf 0 = .ok (.aload_n 0, 1) := by decide +kernel
theorem dX5_boundOf_1 : decode cX5_boundOf 1 = .ok (.iload_n 1, 1) := by decide +kernel
theorem dX5_boundOf_2 : decode cX5_boundOf 2 = .ok (.invokestatic 206, 3) := by decide +kernel
theorem dX5_boundOf_5 : decode cX5_boundOf 5 = .ok (.ifCond .eq 14, 3) := by decide +kernel
theorem dX5_boundOf_8 : decode cX5_boundOf 8 = .ok (.iload_n 2, 1) := by decide +kernel
theorem dX5_boundOf_9 : decode cX5_boundOf 9 = .ok (.invokestatic 206, 3) := by decide +kernel
theorem dX5_boundOf_12 : decode cX5_boundOf 12 = .ok (.ifCond .eq 7, 3) := by decide +kernel
theorem dX5_boundOf_15 : decode cX5_boundOf 15 = .ok (.iconst 0, 1) := by decide +kernel
theorem dX5_boundOf_16 : decode cX5_boundOf 16 = .ok (.goto 4, 3) := by decide +kernel
theorem dX5_boundOf_19 : decode cX5_boundOf 19 = .ok (.iconst 1, 1) := by decide +kernel
theorem dX5_boundOf_20 : decode cX5_boundOf 20 = .ok (.invokevirtual 105, 3) := by decide +kernel
theorem dX5_boundOf_23 : decode cX5_boundOf 23 = .ok (.ifCond .eq 5, 3) := by decide +kernel
theorem dX5_boundOf_26 : decode cX5_boundOf 26 = .ok (.iconst 0, 1) := by decide +kernel
theorem dX5_boundOf_27 : decode cX5_boundOf 27 = .ok (.ireturn, 1) := by decide +kernel
theorem dX5_boundOf_28 : decode cX5_boundOf 28 = .ok (.aload_n 0, 1) := by decide +kernel
theorem dX5_boundOf_29 : decode cX5_boundOf 29 = .ok (.getfield 13, 3) := by decide +kernel
theorem dX5_boundOf_32 : decode cX5_boundOf 32 = .ok (.bipush 28, 2) := by decide +kernel
theorem dX5_boundOf_34 : decode cX5_boundOf 34 = .ok (.iconst 4, 1) := by decide +kernel
theorem dX5_boundOf_35 : decode cX5_boundOf 35 = .ok (.iload_n 1, 1) := by decide +kernel
theorem dX5_boundOf_36 : decode cX5_boundOf 36 = .ok (.imul, 1) := by decide +kernel
theorem dX5_boundOf_37 : decode cX5_boundOf 37 = .ok (.iadd, 1) := by decide +kernel
theorem dX5_boundOf_38 : decode cX5_boundOf 38 = .ok (.iload_n 2, 1) := by decide +kernel
theorem dX5_boundOf_39 : decode cX5_boundOf 39 = .ok (.iadd, 1) := by decide +kernel
theorem dX5_boundOf_40 : decode cX5_boundOf 40 = .ok (.iaload, 1) := by decide +kernel
theorem dX5_boundOf_41 : decode cX5_boundOf 41 = .ok (.ireturn, 1) := by decide +kernel
theorem dX5_setting_0 : decode cX5_setting 0 = .ok (.aload_n 0, 1) := by decide +kernel
theorem dX5_setting_1 : decode cX5_setting 1 = .ok (.iload_n 1, 1) := by decide +kernel
theorem dX5_setting_2 : decode cX5_setting 2 = .ok (.i2l, 1) := by decide +kernel
theorem dX5_setting_3 : decode cX5_setting 3 = .ok (.lconst 0, 1) := by decide +kernel
theorem dX5_setting_4 : decode cX5_setting 4 = .ok (.lconst 1, 1) := by decide +kernel
theorem dX5_setting_5 : decode cX5_setting 5 = .ok (.invokestatic 37, 3) := by decide +kernel
theorem dX5_setting_8 : decode cX5_setting 8 = .ok (.ifCond .eq 7, 3) := by decide +kernel
theorem dX5_setting_11 : decode cX5_setting 11 = .ok (.iconst 0, 1) := by decide +kernel
theorem dX5_setting_12 : decode cX5_setting 12 = .ok (.goto 4, 3) := by decide +kernel
theorem dX5_setting_15 : decode cX5_setting 15 = .ok (.iconst 1, 1) := by decide +kernel
theorem dX5_setting_16 : decode cX5_setting 16 = .ok (.invokevirtual 105, 3) := by decide +kernel
theorem dX5_setting_19 : decode cX5_setting 19 = .ok (.ifCond .eq 5, 3) := by decide +kernel
theorem dX5_setting_22 : decode cX5_setting 22 = .ok (.iconst 0, 1) := by decide +kernel
theorem dX5_setting_23 : decode cX5_setting 23 = .ok (.ireturn, 1) := by decide +kernel
theorem dX5_setting_24 : decode cX5_setting 24 = .ok (.aload_n 0, 1) := by decide +kernel
theorem dX5_setting_25 : decode cX5_setting 25 = .ok (.getfield 13, 3) := by decide +kernel
theorem dX5_setting_28 : decode cX5_setting 28 = .ok (.bipush 10, 2) := by decide +kernel
theorem dX5_setting_30 : decode cX5_setting 30 = .ok (.iload_n 1, 1) := by decide +kernel
theorem dX5_setting_31 : decode cX5_setting 31 = .ok (.iadd, 1) := by decide +kernel
theorem dX5_setting_32 : decode cX5_setting 32 = .ok (.iaload, 1) := by decide +kernel
theorem dX5_setting_33 : decode cX5_setting 33 = .ok (.ireturn, 1) := by decide +kernel
theorem dX5_remember_0 : decode cX5_remember 0 = .ok (.aload_n 0, 1) := by decide +kernel
theorem dX5_remember_1 : decode cX5_remember 1 = .ok (.getfield 196, 3) := by decide +kernel
theorem dX5_remember_4 : decode cX5_remember 4 = .ok (.bipush 14, 2) := by decide +kernel
theorem dX5_remember_6 : decode cX5_remember 6 = .ok (.if_icmp .ne 44, 3) := by decide +kernel
theorem dX5_remember_9 : decode cX5_remember 9 = .ok (.iconst 0, 1) := by decide +kernel
theorem dX5_remember_10 : decode cX5_remember 10 = .ok (.istore_n 1, 1) := by decide +kernel
theorem dX5_remember_11 : decode cX5_remember 11 = .ok (.iload_n 1, 1) := by decide +kernel
theorem dX5_remember_12 : decode cX5_remember 12 = .ok (.sipush 1742, 3) := by decide +kernel
theorem dX5_remember_15 : decode cX5_remember 15 = .ok (.if_icmp .ge 25, 3) := by decide +kernel
theorem dX5_remember_18 : decode cX5_remember 18 = .ok (.aload_n 0, 1) := by decide +kernel
theorem dX5_remember_19 : decode cX5_remember 19 = .ok (.getfield 19, 3) := by decide +kernel
theorem dX5_remember_22 : decode cX5_remember 22 = .ok (.iload_n 1, 1) := by decide +kernel
theorem dX5_remember_23 : decode cX5_remember 23 = .ok (.aload_n 0, 1) := by decide +kernel
theorem dX5_remember_24 : decode cX5_remember 24 = .ok (.getfield 19, 3) := by decide +kernel
theorem dX5_remember_27 : decode cX5_remember 27 = .ok (.iload_n 1, 1) := by decide +kernel
theorem dX5_remember_28 : decode cX5_remember 28 = .ok (.sipush 134, 3) := by decide +kernel
theorem dX5_remember_31 : decode cX5_remember 31 = .ok (.iadd, 1) := by decide +kernel
theorem dX5_remember_32 : decode cX5_remember 32 = .ok (.iaload, 1) := by decide +kernel
theorem dX5_remember_33 : decode cX5_remember 33 = .ok (.iastore, 1) := by decide +kernel
theorem dX5_remember_34 : decode cX5_remember 34 = .ok (.iinc 1 1, 3) := by decide +kernel
theorem dX5_remember_37 : decode cX5_remember 37 = .ok (.goto (-26), 3) := by decide +kernel
theorem dX5_remember_40 : decode cX5_remember 40 = .ok (.aload_n 0, 1) := by decide +kernel
theorem dX5_remember_41 : decode cX5_remember 41 = .ok (.dup, 1) := by decide +kernel
theorem dX5_remember_42 : decode cX5_remember 42 = .ok (.getfield 196, 3) := by decide +kernel
theorem dX5_remember_45 : decode cX5_remember 45 = .ok (.iconst 1, 1) := by decide +kernel
theorem dX5_remember_46 : decode cX5_remember 46 = .ok (.isub, 1) := by decide +kernel
theorem dX5_remember_47 : decode cX5_remember 47 = .ok (.putfield 196, 3) := by decide +kernel
theorem dX5_remember_50 : decode cX5_remember 50 = .ok (.aload_n 0, 1) := by decide +kernel
theorem dX5_remember_51 : decode cX5_remember 51 = .ok (.getfield 13, 3) := by decide +kernel
theorem dX5_remember_54 : decode cX5_remember 54 = .ok (.iconst 0, 1) := by decide +kernel
theorem dX5_remember_55 : decode cX5_remember 55 = .ok (.aload_n 0, 1) := by decide +kernel
theorem dX5_remember_56 : decode cX5_remember 56 = .ok (.getfield 19, 3) := by decide +kernel
theorem dX5_remember_59 : decode cX5_remember 59 = .ok (.sipush 134, 3) := by decide +kernel
theorem dX5_remember_62 : decode cX5_remember 62 = .ok (.aload_n 0, 1) := by decide +kernel
theorem dX5_remember_63 : decode cX5_remember 63 = .ok (.getfield 196, 3) := by decide +kernel
theorem dX5_remember_66 : decode cX5_remember 66 = .ok (.imul, 1) := by decide +kernel
theorem dX5_remember_67 : decode cX5_remember 67 = .ok (.invokestatic 192, 3) := by decide +kernel
theorem dX5_remember_70 : decode cX5_remember 70 = .ok (.aload_n 0, 1) := by decide +kernel
theorem dX5_remember_71 : decode cX5_remember 71 = .ok (.dup, 1) := by decide +kernel
theorem dX5_remember_72 : decode cX5_remember 72 = .ok (.getfield 196, 3) := by decide +kernel
theorem dX5_remember_75 : decode cX5_remember 75 = .ok (.iconst 1, 1) := by decide +kernel
theorem dX5_remember_76 : decode cX5_remember 76 = .ok (.iadd, 1) := by decide +kernel
theorem dX5_remember_77 : decode cX5_remember 77 = .ok (.putfield 196, 3) := by decide +kernel
theorem dX5_remember_80 : decode cX5_remember 80 = .ok (.return_, 1) := by decide +kernel
theorem dX5_chair_0 : decode cX5_chair 0 = .ok (.aload_n 0, 1) := by decide +kernel
theorem dX5_chair_1 : decode cX5_chair 1 = .ok (.iload_n 1, 1) := by decide +kernel
theorem dX5_chair_2 : decode cX5_chair 2 = .ok (.invokestatic 206, 3) := by decide +kernel
theorem dX5_chair_5 : decode cX5_chair 5 = .ok (.ifCond .ne 7, 3) := by decide +kernel
theorem dX5_chair_8 : decode cX5_chair 8 = .ok (.iconst 1, 1) := by decide +kernel
theorem dX5_chair_9 : decode cX5_chair 9 = .ok (.goto 37, 3) := by decide +kernel
theorem dX5_chair_12 : decode cX5_chair 12 = .ok (.iload_n 2, 1) := by decide +kernel
theorem dX5_chair_13 : decode cX5_chair 13 = .ok (.i2l, 1) := by decide +kernel
theorem dX5_chair_14 : decode cX5_chair 14 = .ok (.ldc2_w 43, 3) := by decide +kernel
theorem dX5_chair_17 : decode cX5_chair 17 = .ok (.ldc2_w 45, 3) := by decide +kernel
theorem dX5_chair_20 : decode cX5_chair 20 = .ok (.invokestatic 37, 3) := by decide +kernel
theorem dX5_chair_23 : decode cX5_chair 23 = .ok (.ifCond .ne 7, 3) := by decide +kernel
theorem dX5_chair_26 : decode cX5_chair 26 = .ok (.iconst 2, 1) := by decide +kernel
theorem dX5_chair_27 : decode cX5_chair 27 = .ok (.goto 19, 3) := by decide +kernel
theorem dX5_chair_30 : decode cX5_chair 30 = .ok (.aload_n 0, 1) := by decide +kernel
theorem dX5_chair_31 : decode cX5_chair 31 = .ok (.getfield 13, 3) := by decide +kernel
theorem dX5_chair_34 : decode cX5_chair 34 = .ok (.iconst 0, 1) := by decide +kernel
theorem dX5_chair_35 : decode cX5_chair 35 = .ok (.iaload, 1) := by decide +kernel
theorem dX5_chair_36 : decode cX5_chair 36 = .ok (.bipush 10, 2) := by decide +kernel
theorem dX5_chair_38 : decode cX5_chair 38 = .ok (.if_icmp .ge 7, 3) := by decide +kernel
theorem dX5_chair_41 : decode cX5_chair 41 = .ok (.iconst 0, 1) := by decide +kernel
theorem dX5_chair_42 : decode cX5_chair 42 = .ok (.goto 4, 3) := by decide +kernel
theorem dX5_chair_45 : decode cX5_chair 45 = .ok (.iconst 3, 1) := by decide +kernel
theorem dX5_chair_46 : decode cX5_chair 46 = .ok (.invokevirtual 105, 3) := by decide +kernel
theorem dX5_chair_49 : decode cX5_chair 49 = .ok (.ifCond .eq 5, 3) := by decide +kernel
theorem dX5_chair_52 : decode cX5_chair 52 = .ok (.iconst 0, 1) := by decide +kernel
theorem dX5_chair_53 : decode cX5_chair 53 = .ok (.ireturn, 1) := by decide +kernel
theorem dX5_chair_54 : decode cX5_chair 54 = .ok (.aload_n 0, 1) := by decide +kernel
theorem dX5_chair_55 : decode cX5_chair 55 = .ok (.invokevirtual 211, 3) := by decide +kernel
theorem dX5_chair_58 : decode cX5_chair 58 = .ok (.aload_n 0, 1) := by decide +kernel
theorem dX5_chair_59 : decode cX5_chair 59 = .ok (.getfield 13, 3) := by decide +kernel
theorem dX5_chair_62 : decode cX5_chair 62 = .ok (.iload_n 1, 1) := by decide +kernel
theorem dX5_chair_63 : decode cX5_chair 63 = .ok (.iload_n 2, 1) := by decide +kernel
theorem dX5_chair_64 : decode cX5_chair 64 = .ok (.invokestatic 162, 3) := by decide +kernel
theorem dX5_chair_67 : decode cX5_chair 67 = .ok (.ireturn, 1) := by decide +kernel
theorem dX5_floor_0 : decode cX5_floor 0 = .ok (.iload_n 1, 1) := by decide +kernel
theorem dX5_floor_1 : decode cX5_floor 1 = .ok (.i2l, 1) := by decide +kernel
theorem dX5_floor_2 : decode cX5_floor 2 = .ok (.lconst 0, 1) := by decide +kernel
theorem dX5_floor_3 : decode cX5_floor 3 = .ok (.ldc2_w 49, 3) := by decide +kernel
theorem dX5_floor_6 : decode cX5_floor 6 = .ok (.invokestatic 37, 3) := by decide +kernel
theorem dX5_floor_9 : decode cX5_floor 9 = .ok (.ifCond .eq 44, 3) := by decide +kernel
theorem dX5_floor_12 : decode cX5_floor 12 = .ok (.iload_n 2, 1) := by decide +kernel
theorem dX5_floor_13 : decode cX5_floor 13 = .ok (.i2l, 1) := by decide +kernel
theorem dX5_floor_14 : decode cX5_floor 14 = .ok (.lconst 0, 1) := by decide +kernel
theorem dX5_floor_15 : decode cX5_floor 15 = .ok (.ldc2_w 49, 3) := by decide +kernel
theorem dX5_floor_18 : decode cX5_floor 18 = .ok (.invokestatic 37, 3) := by decide +kernel
theorem dX5_floor_21 : decode cX5_floor 21 = .ok (.ifCond .eq 32, 3) := by decide +kernel
theorem dX5_floor_24 : decode cX5_floor 24 = .ok (.iload_n 3, 1) := by decide +kernel
theorem dX5_floor_25 : decode cX5_floor 25 = .ok (.i2l, 1) := by decide +kernel
theorem dX5_floor_26 : decode cX5_floor 26 = .ok (.lconst 0, 1) := by decide +kernel
theorem dX5_floor_27 : decode cX5_floor 27 = .ok (.ldc2_w 49, 3) := by decide +kernel
theorem dX5_floor_30 : decode cX5_floor 30 = .ok (.invokestatic 37, 3) := by decide +kernel
theorem dX5_floor_33 : decode cX5_floor 33 = .ok (.ifCond .eq 20, 3) := by decide +kernel
theorem dX5_floor_36 : decode cX5_floor 36 = .ok (.iload 4, 2) := by decide +kernel
theorem dX5_floor_38 : decode cX5_floor 38 = .ok (.i2l, 1) := by decide +kernel
theorem dX5_floor_39 : decode cX5_floor 39 = .ok (.lconst 0, 1) := by decide +kernel
theorem dX5_floor_40 : decode cX5_floor 40 = .ok (.ldc2_w 49, 3) := by decide +kernel
theorem dX5_floor_43 : decode cX5_floor 43 = .ok (.invokestatic 37, 3) := by decide +kernel
theorem dX5_floor_46 : decode cX5_floor 46 = .ok (.ifCond .eq 7, 3) := by decide +kernel
theorem dX5_floor_49 : decode cX5_floor 49 = .ok (.iconst 1, 1) := by decide +kernel
theorem dX5_floor_50 : decode cX5_floor 50 = .ok (.goto 4, 3) := by decide +kernel
theorem dX5_floor_53 : decode cX5_floor 53 = .ok (.iconst 0, 1) := by decide +kernel
theorem dX5_floor_54 : decode cX5_floor 54 = .ok (.istore 5, 2) := by decide +kernel
theorem dX5_floor_56 : decode cX5_floor 56 = .ok (.aload_n 0, 1) := by decide +kernel
theorem dX5_floor_57 : decode cX5_floor 57 = .ok (.iload 5, 2) := by decide +kernel
theorem dX5_floor_59 : decode cX5_floor 59 = .ok (.ifCond .ne 7, 3) := by decide +kernel
theorem dX5_floor_62 : decode cX5_floor 62 = .ok (.iconst 1, 1) := by decide +kernel
theorem dX5_floor_63 : decode cX5_floor 63 = .ok (.goto 18, 3) := by decide +kernel
theorem dX5_floor_66 : decode cX5_floor 66 = .ok (.aload_n 0, 1) := by decide +kernel
theorem dX5_floor_67 : decode cX5_floor 67 = .ok (.getfield 13, 3) := by decide +kernel
theorem dX5_floor_70 : decode cX5_floor 70 = .ok (.iconst 1, 1) := by decide +kernel
theorem dX5_floor_71 : decode cX5_floor 71 = .ok (.iaload, 1) := by decide +kernel
theorem dX5_floor_72 : decode cX5_floor 72 = .ok (.iconst 4, 1) := by decide +kernel
theorem dX5_floor_73 : decode cX5_floor 73 = .ok (.if_icmp .ge 7, 3) := by decide +kernel
theorem dX5_floor_76 : decode cX5_floor 76 = .ok (.iconst 0, 1) := by decide +kernel
theorem dX5_floor_77 : decode cX5_floor 77 = .ok (.goto 4, 3) := by decide +kernel
theorem dX5_floor_80 : decode cX5_floor 80 = .ok (.iconst 2, 1) := by decide +kernel
theorem dX5_floor_81 : decode cX5_floor 81 = .ok (.invokevirtual 105, 3) := by decide +kernel
theorem dX5_floor_84 : decode cX5_floor 84 = .ok (.ifCond .eq 5, 3) := by decide +kernel
theorem dX5_floor_87 : decode cX5_floor 87 = .ok (.iconst 0, 1) := by decide +kernel
theorem dX5_floor_88 : decode cX5_floor 88 = .ok (.ireturn, 1) := by decide +kernel
theorem dX5_floor_89 : decode cX5_floor 89 = .ok (.aload_n 0, 1) := by decide +kernel
theorem dX5_floor_90 : decode cX5_floor 90 = .ok (.invokevirtual 211, 3) := by decide +kernel
theorem dX5_floor_93 : decode cX5_floor 93 = .ok (.aload_n 0, 1) := by decide +kernel
theorem dX5_floor_94 : decode cX5_floor 94 = .ok (.getfield 13, 3) := by decide +kernel
theorem dX5_floor_97 : decode cX5_floor 97 = .ok (.iload_n 1, 1) := by decide +kernel
theorem dX5_floor_98 : decode cX5_floor 98 = .ok (.iload_n 2, 1) := by decide +kernel
theorem dX5_floor_99 : decode cX5_floor 99 = .ok (.iload_n 3, 1) := by decide +kernel
theorem dX5_floor_100 : decode cX5_floor 100 = .ok (.iload 4, 2) := by decide +kernel
theorem dX5_floor_102 : decode cX5_floor 102 = .ok (.invokestatic 145, 3) := by decide +kernel
theorem dX5_floor_105 : decode cX5_floor 105 = .ok (.ireturn, 1) := by decide +kernel
theorem dX5_level_0 : decode cX5_level 0 = .ok (.aload_n 0, 1) := by decide +kernel
theorem dX5_level_1 : decode cX5_level 1 = .ok (.aload_n 0, 1) := by decide +kernel
theorem dX5_level_2 : decode cX5_level 2 = .ok (.getfield 13, 3) := by decide +kernel
theorem dX5_level_5 : decode cX5_level 5 = .ok (.iload_n 1, 1) := by decide +kernel
theorem dX5_level_6 : decode cX5_level 6 = .ok (.invokestatic 149, 3) := by decide +kernel
theorem dX5_level_9 : decode cX5_level 9 = .ok (.ifCond .eq 10, 3) := by decide +kernel
theorem dX5_level_12 : decode cX5_level 12 = .ok (.iload_n 2, 1) := by decide +kernel
theorem dX5_level_13 : decode cX5_level 13 = .ok (.invokestatic 206, 3) := by decide +kernel
theorem dX5_level_16 : decode cX5_level 16 = .ok (.ifCond .ne 7, 3) := by decide +kernel
theorem dX5_level_19 : decode cX5_level 19 = .ok (.iconst 1, 1) := by decide +kernel
theorem dX5_level_20 : decode cX5_level 20 = .ok (.goto 20, 3) := by decide +kernel
theorem dX5_level_23 : decode cX5_level 23 = .ok (.iload_n 3, 1) := by decide +kernel
theorem dX5_level_24 : decode cX5_level 24 = .ok (.i2l, 1) := by decide +kernel
theorem dX5_level_25 : decode cX5_level 25 = .ok (.lconst 0, 1) := by decide +kernel
theorem dX5_level_26 : decode cX5_level 26 = .ok (.ldc2_w 49, 3) := by decide +kernel
theorem dX5_level_29 : decode cX5_level 29 = .ok (.invokestatic 37, 3) := by decide +kernel
theorem dX5_level_32 : decode cX5_level 32 = .ok (.ifCond .eq 7, 3) := by decide +kernel
theorem dX5_level_35 : decode cX5_level 35 = .ok (.iconst 0, 1) := by decide +kernel
theorem dX5_level_36 : decode cX5_level 36 = .ok (.goto 4, 3) := by decide +kernel
theorem dX5_level_39 : decode cX5_level 39 = .ok (.iconst 2, 1) := by decide +kernel
theorem dX5_level_40 : decode cX5_level 40 = .ok (.invokevirtual 105, 3) := by decide +kernel
theorem dX5_level_43 : decode cX5_level 43 = .ok (.ifCond .eq 5, 3) := by decide +kernel
theorem dX5_level_46 : decode cX5_level 46 = .ok (.iconst 0, 1) := by decide +kernel
theorem dX5_level_47 : decode cX5_level 47 = .ok (.ireturn, 1) := by decide +kernel
theorem dX5_level_48 : decode cX5_level 48 = .ok (.aload_n 0, 1) := by decide +kernel
theorem dX5_level_49 : decode cX5_level 49 = .ok (.invokevirtual 211, 3) := by decide +kernel
theorem dX5_level_52 : decode cX5_level 52 = .ok (.aload_n 0, 1) := by decide +kernel
theorem dX5_level_53 : decode cX5_level 53 = .ok (.getfield 13, 3) := by decide +kernel
theorem dX5_level_56 : decode cX5_level 56 = .ok (.iload_n 1, 1) := by decide +kernel
theorem dX5_level_57 : decode cX5_level 57 = .ok (.iload_n 2, 1) := by decide +kernel
theorem dX5_level_58 : decode cX5_level 58 = .ok (.iload_n 3, 1) := by decide +kernel
theorem dX5_level_59 : decode cX5_level 59 = .ok (.invokestatic 214, 3) := by decide +kernel
theorem dX5_level_62 : decode cX5_level 62 = .ok (.ireturn, 1) := by decide +kernel
theorem dX5_bring_0 : decode cX5_bring 0 = .ok (.aload_n 0, 1) := by decide +kernel
theorem dX5_bring_1 : decode cX5_bring 1 = .ok (.aload_n 0, 1) := by decide +kernel
theorem dX5_bring_2 : decode cX5_bring 2 = .ok (.getfield 13, 3) := by decide +kernel
theorem dX5_bring_5 : decode cX5_bring 5 = .ok (.iload_n 1, 1) := by decide +kernel
theorem dX5_bring_6 : decode cX5_bring 6 = .ok (.invokestatic 96, 3) := by decide +kernel
theorem dX5_bring_9 : decode cX5_bring 9 = .ok (.ifCond .eq 14, 3) := by decide +kernel
theorem dX5_bring_12 : decode cX5_bring 12 = .ok (.aload_n 0, 1) := by decide +kernel
theorem dX5_bring_13 : decode cX5_bring 13 = .ok (.getfield 13, 3) := by decide +kernel
theorem dX5_bring_16 : decode cX5_bring 16 = .ok (.iload_n 2, 1) := by decide +kernel
theorem dX5_bring_17 : decode cX5_bring 17 = .ok (.invokestatic 149, 3) := by decide +kernel
theorem dX5_bring_20 : decode cX5_bring 20 = .ok (.ifCond .ne 7, 3) := by decide +kernel
theorem dX5_bring_23 : decode cX5_bring 23 = .ok (.iconst 1, 1) := by decide +kernel
theorem dX5_bring_24 : decode cX5_bring 24 = .ok (.goto 15, 3) := by decide +kernel
theorem dX5_bring_27 : decode cX5_bring 27 = .ok (.iload_n 3, 1) := by decide +kernel
theorem dX5_bring_28 : decode cX5_bring 28 = .ok (.invokestatic 206, 3) := by decide +kernel
theorem dX5_bring_31 : decode cX5_bring 31 = .ok (.ifCond .eq 7, 3) := by decide +kernel
theorem dX5_bring_34 : decode cX5_bring 34 = .ok (.iconst 0, 1) := by decide +kernel
theorem dX5_bring_35 : decode cX5_bring 35 = .ok (.goto 4, 3) := by decide +kernel
theorem dX5_bring_38 : decode cX5_bring 38 = .ok (.iconst 2, 1) := by decide +kernel
theorem dX5_bring_39 : decode cX5_bring 39 = .ok (.invokevirtual 105, 3) := by decide +kernel
theorem dX5_bring_42 : decode cX5_bring 42 = .ok (.ifCond .eq 5, 3) := by decide +kernel
theorem dX5_bring_45 : decode cX5_bring 45 = .ok (.iconst 0, 1) := by decide +kernel
theorem dX5_bring_46 : decode cX5_bring 46 = .ok (.ireturn, 1) := by decide +kernel
theorem dX5_bring_47 : decode cX5_bring 47 = .ok (.aload_n 0, 1) := by decide +kernel
theorem dX5_bring_48 : decode cX5_bring 48 = .ok (.invokevirtual 211, 3) := by decide +kernel
theorem dX5_bring_51 : decode cX5_bring 51 = .ok (.aload_n 0, 1) := by decide +kernel
theorem dX5_bring_52 : decode cX5_bring 52 = .ok (.getfield 13, 3) := by decide +kernel
theorem dX5_bring_55 : decode cX5_bring 55 = .ok (.iload_n 1, 1) := by decide +kernel
theorem dX5_bring_56 : decode cX5_bring 56 = .ok (.iload_n 2, 1) := by decide +kernel
theorem dX5_bring_57 : decode cX5_bring 57 = .ok (.iload_n 3, 1) := by decide +kernel
theorem dX5_bring_58 : decode cX5_bring 58 = .ok (.invokestatic 152, 3) := by decide +kernel
theorem dX5_bring_61 : decode cX5_bring 61 = .ok (.ireturn, 1) := by decide +kernel
theorem dX5_saw_0 : decode cX5_saw 0 = .ok (.aload_n 0, 1) := by decide +kernel
theorem dX5_saw_1 : decode cX5_saw 1 = .ok (.aload_n 0, 1) := by decide +kernel
theorem dX5_saw_2 : decode cX5_saw 2 = .ok (.getfield 13, 3) := by decide +kernel
theorem dX5_saw_5 : decode cX5_saw 5 = .ok (.iload_n 1, 1) := by decide +kernel
theorem dX5_saw_6 : decode cX5_saw 6 = .ok (.invokestatic 96, 3) := by decide +kernel
theorem dX5_saw_9 : decode cX5_saw 9 = .ok (.ifCond .eq 10, 3) := by decide +kernel
theorem dX5_saw_12 : decode cX5_saw 12 = .ok (.iload_n 2, 1) := by decide +kernel
theorem dX5_saw_13 : decode cX5_saw 13 = .ok (.invokestatic 206, 3) := by decide +kernel
theorem dX5_saw_16 : decode cX5_saw 16 = .ok (.ifCond .ne 7, 3) := by decide +kernel
theorem dX5_saw_19 : decode cX5_saw 19 = .ok (.iconst 1, 1) := by decide +kernel
theorem dX5_saw_20 : decode cX5_saw 20 = .ok (.goto 37, 3) := by decide +kernel
theorem dX5_saw_23 : decode cX5_saw 23 = .ok (.iload_n 3, 1) := by decide +kernel
theorem dX5_saw_24 : decode cX5_saw 24 = .ok (.i2l, 1) := by decide +kernel
theorem dX5_saw_25 : decode cX5_saw 25 = .ok (.lconst 1, 1) := by decide +kernel
theorem dX5_saw_26 : decode cX5_saw 26 = .ok (.ldc2_w 217, 3) := by decide +kernel
theorem dX5_saw_29 : decode cX5_saw 29 = .ok (.invokestatic 37, 3) := by decide +kernel
theorem dX5_saw_32 : decode cX5_saw 32 = .ok (.ifCond .ne 7, 3) := by decide +kernel
theorem dX5_saw_35 : decode cX5_saw 35 = .ok (.iconst 2, 1) := by decide +kernel
theorem dX5_saw_36 : decode cX5_saw 36 = .ok (.goto 21, 3) := by decide +kernel
theorem dX5_saw_39 : decode cX5_saw 39 = .ok (.aload_n 0, 1) := by decide +kernel
theorem dX5_saw_40 : decode cX5_saw 40 = .ok (.getfield 13, 3) := by decide +kernel
theorem dX5_saw_43 : decode cX5_saw 43 = .ok (.iload_n 1, 1) := by decide +kernel
theorem dX5_saw_44 : decode cX5_saw 44 = .ok (.iload_n 2, 1) := by decide +kernel
theorem dX5_saw_45 : decode cX5_saw 45 = .ok (.iload_n 3, 1) := by decide +kernel
theorem dX5_saw_46 : decode cX5_saw 46 = .ok (.invokestatic 128, 3) := by decide +kernel
theorem dX5_saw_49 : decode cX5_saw 49 = .ok (.ifCond .eq 7, 3) := by decide +kernel
theorem dX5_saw_52 : decode cX5_saw 52 = .ok (.iconst 0, 1) := by decide +kernel
theorem dX5_saw_53 : decode cX5_saw 53 = .ok (.goto 4, 3) := by decide +kernel
theorem dX5_saw_56 : decode cX5_saw 56 = .ok (.iconst 3, 1) := by decide +kernel
theorem dX5_saw_57 : decode cX5_saw 57 = .ok (.invokevirtual 105, 3) := by decide +kernel
theorem dX5_saw_60 : decode cX5_saw 60 = .ok (.ifCond .eq 5, 3) := by decide +kernel
theorem dX5_saw_63 : decode cX5_saw 63 = .ok (.iconst 0, 1) := by decide +kernel
theorem dX5_saw_64 : decode cX5_saw 64 = .ok (.ireturn, 1) := by decide +kernel
theorem dX5_saw_65 : decode cX5_saw 65 = .ok (.aload_n 0, 1) := by decide +kernel
theorem dX5_saw_66 : decode cX5_saw 66 = .ok (.invokevirtual 211, 3) := by decide +kernel
theorem dX5_saw_69 : decode cX5_saw 69 = .ok (.aload_n 0, 1) := by decide +kernel
theorem dX5_saw_70 : decode cX5_saw 70 = .ok (.getfield 13, 3) := by decide +kernel
theorem dX5_saw_73 : decode cX5_saw 73 = .ok (.iload_n 1, 1) := by decide +kernel
theorem dX5_saw_74 : decode cX5_saw 74 = .ok (.iload_n 2, 1) := by decide +kernel
theorem dX5_saw_75 : decode cX5_saw 75 = .ok (.iload_n 3, 1) := by decide +kernel
theorem dX5_saw_76 : decode cX5_saw 76 = .ok (.invokestatic 132, 3) := by decide +kernel
theorem dX5_saw_79 : decode cX5_saw 79 = .ok (.ireturn, 1) := by decide +kernel
theorem dX5_shim_0 : decode cX5_shim 0 = .ok (.aload_n 0, 1) := by decide +kernel
theorem dX5_shim_1 : decode cX5_shim 1 = .ok (.aload_n 0, 1) := by decide +kernel
theorem dX5_shim_2 : decode cX5_shim 2 = .ok (.getfield 13, 3) := by decide +kernel
theorem dX5_shim_5 : decode cX5_shim 5 = .ok (.iload_n 1, 1) := by decide +kernel
theorem dX5_shim_6 : decode cX5_shim 6 = .ok (.invokestatic 96, 3) := by decide +kernel
theorem dX5_shim_9 : decode cX5_shim 9 = .ok (.ifCond .eq 10, 3) := by decide +kernel
theorem dX5_shim_12 : decode cX5_shim 12 = .ok (.iload_n 2, 1) := by decide +kernel
theorem dX5_shim_13 : decode cX5_shim 13 = .ok (.invokestatic 206, 3) := by decide +kernel
theorem dX5_shim_16 : decode cX5_shim 16 = .ok (.ifCond .ne 7, 3) := by decide +kernel
theorem dX5_shim_19 : decode cX5_shim 19 = .ok (.iconst 1, 1) := by decide +kernel
theorem dX5_shim_20 : decode cX5_shim 20 = .ok (.goto 37, 3) := by decide +kernel
theorem dX5_shim_23 : decode cX5_shim 23 = .ok (.iload_n 3, 1) := by decide +kernel
theorem dX5_shim_24 : decode cX5_shim 24 = .ok (.i2l, 1) := by decide +kernel
theorem dX5_shim_25 : decode cX5_shim 25 = .ok (.lconst 1, 1) := by decide +kernel
theorem dX5_shim_26 : decode cX5_shim 26 = .ok (.ldc2_w 219, 3) := by decide +kernel
theorem dX5_shim_29 : decode cX5_shim 29 = .ok (.invokestatic 37, 3) := by decide +kernel
theorem dX5_shim_32 : decode cX5_shim 32 = .ok (.ifCond .ne 7, 3) := by decide +kernel
theorem dX5_shim_35 : decode cX5_shim 35 = .ok (.iconst 2, 1) := by decide +kernel
theorem dX5_shim_36 : decode cX5_shim 36 = .ok (.goto 21, 3) := by decide +kernel
theorem dX5_shim_39 : decode cX5_shim 39 = .ok (.aload_n 0, 1) := by decide +kernel
theorem dX5_shim_40 : decode cX5_shim 40 = .ok (.getfield 13, 3) := by decide +kernel
theorem dX5_shim_43 : decode cX5_shim 43 = .ok (.iload_n 1, 1) := by decide +kernel
theorem dX5_shim_44 : decode cX5_shim 44 = .ok (.iload_n 2, 1) := by decide +kernel
theorem dX5_shim_45 : decode cX5_shim 45 = .ok (.iload_n 3, 1) := by decide +kernel
theorem dX5_shim_46 : decode cX5_shim 46 = .ok (.invokestatic 135, 3) := by decide +kernel
theorem dX5_shim_49 : decode cX5_shim 49 = .ok (.ifCond .eq 7, 3) := by decide +kernel
theorem dX5_shim_52 : decode cX5_shim 52 = .ok (.iconst 0, 1) := by decide +kernel
theorem dX5_shim_53 : decode cX5_shim 53 = .ok (.goto 4, 3) := by decide +kernel
theorem dX5_shim_56 : decode cX5_shim 56 = .ok (.iconst 3, 1) := by decide +kernel
theorem dX5_shim_57 : decode cX5_shim 57 = .ok (.invokevirtual 105, 3) := by decide +kernel
theorem dX5_shim_60 : decode cX5_shim 60 = .ok (.ifCond .eq 5, 3) := by decide +kernel
theorem dX5_shim_63 : decode cX5_shim 63 = .ok (.iconst 0, 1) := by decide +kernel
theorem dX5_shim_64 : decode cX5_shim 64 = .ok (.ireturn, 1) := by decide +kernel
theorem dX5_shim_65 : decode cX5_shim 65 = .ok (.aload_n 0, 1) := by decide +kernel
theorem dX5_shim_66 : decode cX5_shim 66 = .ok (.invokevirtual 211, 3) := by decide +kernel
theorem dX5_shim_69 : decode cX5_shim 69 = .ok (.aload_n 0, 1) := by decide +kernel
theorem dX5_shim_70 : decode cX5_shim 70 = .ok (.getfield 13, 3) := by decide +kernel
theorem dX5_shim_73 : decode cX5_shim 73 = .ok (.iload_n 1, 1) := by decide +kernel
theorem dX5_shim_74 : decode cX5_shim 74 = .ok (.iload_n 2, 1) := by decide +kernel
theorem dX5_shim_75 : decode cX5_shim 75 = .ok (.iload_n 3, 1) := by decide +kernel
theorem dX5_shim_76 : decode cX5_shim 76 = .ok (.invokestatic 138, 3) := by decide +kernel
theorem dX5_shim_79 : decode cX5_shim 79 = .ok (.ireturn, 1) := by decide +kernel
theorem dX5_test_0 : decode cX5_test 0 = .ok (.aload_n 0, 1) := by decide +kernel
theorem dX5_test_1 : decode cX5_test 1 = .ok (.aload_n 0, 1) := by decide +kernel
theorem dX5_test_2 : decode cX5_test 2 = .ok (.getfield 13, 3) := by decide +kernel
theorem dX5_test_5 : decode cX5_test 5 = .ok (.iload_n 1, 1) := by decide +kernel
theorem dX5_test_6 : decode cX5_test 6 = .ok (.invokestatic 96, 3) := by decide +kernel
theorem dX5_test_9 : decode cX5_test 9 = .ok (.ifCond .eq 7, 3) := by decide +kernel
theorem dX5_test_12 : decode cX5_test 12 = .ok (.iconst 0, 1) := by decide +kernel
theorem dX5_test_13 : decode cX5_test 13 = .ok (.goto 4, 3) := by decide +kernel
theorem dX5_test_16 : decode cX5_test 16 = .ok (.iconst 1, 1) := by decide +kernel
theorem dX5_test_17 : decode cX5_test 17 = .ok (.invokevirtual 105, 3) := by decide +kernel
theorem dX5_test_20 : decode cX5_test 20 = .ok (.ifCond .eq 5, 3) := by decide +kernel
theorem dX5_test_23 : decode cX5_test 23 = .ok (.iconst 0, 1) := by decide +kernel
theorem dX5_test_24 : decode cX5_test 24 = .ok (.ireturn, 1) := by decide +kernel
theorem dX5_test_25 : decode cX5_test 25 = .ok (.aload_n 0, 1) := by decide +kernel
theorem dX5_test_26 : decode cX5_test 26 = .ok (.invokevirtual 211, 3) := by decide +kernel
theorem dX5_test_29 : decode cX5_test 29 = .ok (.aload_n 0, 1) := by decide +kernel
theorem dX5_test_30 : decode cX5_test 30 = .ok (.getfield 13, 3) := by decide +kernel
theorem dX5_test_33 : decode cX5_test 33 = .ok (.iload_n 1, 1) := by decide +kernel
theorem dX5_test_34 : decode cX5_test 34 = .ok (.invokestatic 176, 3) := by decide +kernel
theorem dX5_test_37 : decode cX5_test 37 = .ok (.ireturn, 1) := by decide +kernel
theorem dX5_sit_0 : decode cX5_sit 0 = .ok (.aload_n 0, 1) := by decide +kernel
theorem dX5_sit_1 : decode cX5_sit 1 = .ok (.aload_n 0, 1) := by decide +kernel
theorem dX5_sit_2 : decode cX5_sit 2 = .ok (.getfield 13, 3) := by decide +kernel
theorem dX5_sit_5 : decode cX5_sit 5 = .ok (.iload_n 1, 1) := by decide +kernel
theorem dX5_sit_6 : decode cX5_sit 6 = .ok (.invokestatic 96, 3) := by decide +kernel
theorem dX5_sit_9 : decode cX5_sit 9 = .ok (.ifCond .ne 7, 3) := by decide +kernel
theorem dX5_sit_12 : decode cX5_sit 12 = .ok (.iconst 1, 1) := by decide +kernel
theorem dX5_sit_13 : decode cX5_sit 13 = .ok (.goto 20, 3) := by decide +kernel
theorem dX5_sit_16 : decode cX5_sit 16 = .ok (.iload_n 2, 1) := by decide +kernel
theorem dX5_sit_17 : decode cX5_sit 17 = .ok (.i2l, 1) := by decide +kernel
theorem dX5_sit_18 : decode cX5_sit 18 = .ok (.lconst 1, 1) := by decide +kernel
theorem dX5_sit_19 : decode cX5_sit 19 = .ok (.ldc2_w 47, 3) := by decide +kernel
theorem dX5_sit_22 : decode cX5_sit 22 = .ok (.invokestatic 37, 3) := by decide +kernel
theorem dX5_sit_25 : decode cX5_sit 25 = .ok (.ifCond .eq 7, 3) := by decide +kernel
theorem dX5_sit_28 : decode cX5_sit 28 = .ok (.iconst 0, 1) := by decide +kernel
theorem dX5_sit_29 : decode cX5_sit 29 = .ok (.goto 4, 3) := by decide +kernel
theorem dX5_sit_32 : decode cX5_sit 32 = .ok (.iconst 2, 1) := by decide +kernel
theorem dX5_sit_33 : decode cX5_sit 33 = .ok (.invokevirtual 105, 3) := by decide +kernel
theorem dX5_sit_36 : decode cX5_sit 36 = .ok (.ifCond .eq 5, 3) := by decide +kernel
theorem dX5_sit_39 : decode cX5_sit 39 = .ok (.iconst 0, 1) := by decide +kernel
theorem dX5_sit_40 : decode cX5_sit 40 = .ok (.ireturn, 1) := by decide +kernel
theorem dX5_sit_41 : decode cX5_sit 41 = .ok (.aload_n 0, 1) := by decide +kernel
theorem dX5_sit_42 : decode cX5_sit 42 = .ok (.invokevirtual 211, 3) := by decide +kernel
theorem dX5_sit_45 : decode cX5_sit 45 = .ok (.aload_n 0, 1) := by decide +kernel
theorem dX5_sit_46 : decode cX5_sit 46 = .ok (.getfield 13, 3) := by decide +kernel
theorem dX5_sit_49 : decode cX5_sit 49 = .ok (.iload_n 1, 1) := by decide +kernel
theorem dX5_sit_50 : decode cX5_sit 50 = .ok (.iload_n 2, 1) := by decide +kernel
theorem dX5_sit_51 : decode cX5_sit 51 = .ok (.invokestatic 179, 3) := by decide +kernel
theorem dX5_sit_54 : decode cX5_sit 54 = .ok (.ireturn, 1) := by decide +kernel
theorem dX5_bound_0 : decode cX5_bound 0 = .ok (.aload_n 0, 1) := by decide +kernel
theorem dX5_bound_1 : decode cX5_bound 1 = .ok (.iload_n 1, 1) := by decide +kernel
theorem dX5_bound_2 : decode cX5_bound 2 = .ok (.invokestatic 206, 3) := by decide +kernel
theorem dX5_bound_5 : decode cX5_bound 5 = .ok (.ifCond .eq 10, 3) := by decide +kernel
theorem dX5_bound_8 : decode cX5_bound 8 = .ok (.iload_n 2, 1) := by decide +kernel
theorem dX5_bound_9 : decode cX5_bound 9 = .ok (.invokestatic 206, 3) := by decide +kernel
theorem dX5_bound_12 : decode cX5_bound 12 = .ok (.ifCond .ne 7, 3) := by decide +kernel
theorem dX5_bound_15 : decode cX5_bound 15 = .ok (.iconst 1, 1) := by decide +kernel
theorem dX5_bound_16 : decode cX5_bound 16 = .ok (.goto 16, 3) := by decide +kernel
theorem dX5_bound_19 : decode cX5_bound 19 = .ok (.iload_n 2, 1) := by decide +kernel
theorem dX5_bound_20 : decode cX5_bound 20 = .ok (.iload_n 3, 1) := by decide +kernel
theorem dX5_bound_21 : decode cX5_bound 21 = .ok (.invokestatic 155, 3) := by decide +kernel
theorem dX5_bound_24 : decode cX5_bound 24 = .ok (.ifCond .eq 7, 3) := by decide +kernel
theorem dX5_bound_27 : decode cX5_bound 27 = .ok (.iconst 0, 1) := by decide +kernel
theorem dX5_bound_28 : decode cX5_bound 28 = .ok (.goto 4, 3) := by decide +kernel
theorem dX5_bound_31 : decode cX5_bound 31 = .ok (.iconst 2, 1) := by decide +kernel
theorem dX5_bound_32 : decode cX5_bound 32 = .ok (.invokevirtual 105, 3) := by decide +kernel
theorem dX5_bound_35 : decode cX5_bound 35 = .ok (.ifCond .eq 5, 3) := by decide +kernel
theorem dX5_bound_38 : decode cX5_bound 38 = .ok (.iconst 0, 1) := by decide +kernel
theorem dX5_bound_39 : decode cX5_bound 39 = .ok (.ireturn, 1) := by decide +kernel
theorem dX5_bound_40 : decode cX5_bound 40 = .ok (.aload_n 0, 1) := by decide +kernel
theorem dX5_bound_41 : decode cX5_bound 41 = .ok (.invokevirtual 211, 3) := by decide +kernel
theorem dX5_bound_44 : decode cX5_bound 44 = .ok (.aload_n 0, 1) := by decide +kernel
theorem dX5_bound_45 : decode cX5_bound 45 = .ok (.getfield 13, 3) := by decide +kernel
theorem dX5_bound_48 : decode cX5_bound 48 = .ok (.iload_n 1, 1) := by decide +kernel
theorem dX5_bound_49 : decode cX5_bound 49 = .ok (.iload_n 2, 1) := by decide +kernel
theorem dX5_bound_50 : decode cX5_bound 50 = .ok (.iload_n 3, 1) := by decide +kernel
theorem dX5_bound_51 : decode cX5_bound 51 = .ok (.invokestatic 159, 3) := by decide +kernel
theorem dX5_bound_54 : decode cX5_bound 54 = .ok (.ireturn, 1) := by decide +kernel
theorem dX5_set_0 : decode cX5_set 0 = .ok (.aload_n 0, 1) := by decide +kernel
theorem dX5_set_1 : decode cX5_set 1 = .ok (.iload_n 1, 1) := by decide +kernel
theorem dX5_set_2 : decode cX5_set 2 = .ok (.iload_n 2, 1) := by decide +kernel
theorem dX5_set_3 : decode cX5_set 3 = .ok (.invokestatic 221, 3) := by decide +kernel
theorem dX5_set_6 : decode cX5_set 6 = .ok (.ifCond .eq 7, 3) := by decide +kernel
theorem dX5_set_9 : decode cX5_set 9 = .ok (.iconst 0, 1) := by decide +kernel
theorem dX5_set_10 : decode cX5_set 10 = .ok (.goto 4, 3) := by decide +kernel
theorem dX5_set_13 : decode cX5_set 13 = .ok (.iconst 1, 1) := by decide +kernel
theorem dX5_set_14 : decode cX5_set 14 = .ok (.invokevirtual 105, 3) := by decide +kernel
theorem dX5_set_17 : decode cX5_set 17 = .ok (.ifCond .eq 5, 3) := by decide +kernel
theorem dX5_set_20 : decode cX5_set 20 = .ok (.iconst 0, 1) := by decide +kernel
theorem dX5_set_21 : decode cX5_set 21 = .ok (.ireturn, 1) := by decide +kernel
theorem dX5_set_22 : decode cX5_set 22 = .ok (.aload_n 0, 1) := by decide +kernel
theorem dX5_set_23 : decode cX5_set 23 = .ok (.invokevirtual 211, 3) := by decide +kernel
theorem dX5_set_26 : decode cX5_set 26 = .ok (.aload_n 0, 1) := by decide +kernel
theorem dX5_set_27 : decode cX5_set 27 = .ok (.getfield 13, 3) := by decide +kernel
theorem dX5_set_30 : decode cX5_set 30 = .ok (.iload_n 1, 1) := by decide +kernel
theorem dX5_set_31 : decode cX5_set 31 = .ok (.iload_n 2, 1) := by decide +kernel
theorem dX5_set_32 : decode cX5_set 32 = .ok (.invokestatic 224, 3) := by decide +kernel
theorem dX5_set_35 : decode cX5_set 35 = .ok (.ireturn, 1) := by decide +kernel
theorem dX5_undo_0 : decode cX5_undo 0 = .ok (.aload_n 0, 1) := by decide +kernel
theorem dX5_undo_1 : decode cX5_undo 1 = .ok (.aload_n 0, 1) := by decide +kernel
theorem dX5_undo_2 : decode cX5_undo 2 = .ok (.getfield 196, 3) := by decide +kernel
theorem dX5_undo_5 : decode cX5_undo 5 = .ok (.ifCond .ne 7, 3) := by decide +kernel
theorem dX5_undo_8 : decode cX5_undo 8 = .ok (.iconst 1, 1) := by decide +kernel
theorem dX5_undo_9 : decode cX5_undo 9 = .ok (.goto 4, 3) := by decide +kernel
theorem dX5_undo_12 : decode cX5_undo 12 = .ok (.iconst 0, 1) := by decide +kernel
theorem dX5_undo_13 : decode cX5_undo 13 = .ok (.invokevirtual 105, 3) := by decide +kernel
theorem dX5_undo_16 : decode cX5_undo 16 = .ok (.ifCond .eq 5, 3) := by decide +kernel
theorem dX5_undo_19 : decode cX5_undo 19 = .ok (.iconst 0, 1) := by decide +kernel
theorem dX5_undo_20 : decode cX5_undo 20 = .ok (.ireturn, 1) := by decide +kernel
theorem dX5_undo_21 : decode cX5_undo 21 = .ok (.aload_n 0, 1) := by decide +kernel
theorem dX5_undo_22 : decode cX5_undo 22 = .ok (.dup, 1) := by decide +kernel
theorem dX5_undo_23 : decode cX5_undo 23 = .ok (.getfield 196, 3) := by decide +kernel
theorem dX5_undo_26 : decode cX5_undo 26 = .ok (.iconst 1, 1) := by decide +kernel
theorem dX5_undo_27 : decode cX5_undo 27 = .ok (.isub, 1) := by decide +kernel
theorem dX5_undo_28 : decode cX5_undo 28 = .ok (.putfield 196, 3) := by decide +kernel
theorem dX5_undo_31 : decode cX5_undo 31 = .ok (.aload_n 0, 1) := by decide +kernel
theorem dX5_undo_32 : decode cX5_undo 32 = .ok (.getfield 19, 3) := by decide +kernel
theorem dX5_undo_35 : decode cX5_undo 35 = .ok (.sipush 134, 3) := by decide +kernel
theorem dX5_undo_38 : decode cX5_undo 38 = .ok (.aload_n 0, 1) := by decide +kernel
theorem dX5_undo_39 : decode cX5_undo 39 = .ok (.getfield 196, 3) := by decide +kernel
theorem dX5_undo_42 : decode cX5_undo 42 = .ok (.imul, 1) := by decide +kernel
theorem dX5_undo_43 : decode cX5_undo 43 = .ok (.aload_n 0, 1) := by decide +kernel
theorem dX5_undo_44 : decode cX5_undo 44 = .ok (.getfield 13, 3) := by decide +kernel
theorem dX5_undo_47 : decode cX5_undo 47 = .ok (.iconst 0, 1) := by decide +kernel
theorem dX5_undo_48 : decode cX5_undo 48 = .ok (.invokestatic 192, 3) := by decide +kernel
theorem dX5_undo_51 : decode cX5_undo 51 = .ok (.aload_n 0, 1) := by decide +kernel
theorem dX5_undo_52 : decode cX5_undo 52 = .ok (.getfield 196, 3) := by decide +kernel
theorem dX5_undo_55 : decode cX5_undo 55 = .ok (.ireturn, 1) := by decide +kernel
theorem dX5_turned_0 : decode cX5_turned 0 = .ok (.aload_n 0, 1) := by decide +kernel
theorem dX5_turned_1 : decode cX5_turned 1 = .ok (.getfield 13, 3) := by decide +kernel
theorem dX5_turned_4 : decode cX5_turned 4 = .ok (.iconst 0, 1) := by decide +kernel
theorem dX5_turned_5 : decode cX5_turned 5 = .ok (.aload_n 0, 1) := by decide +kernel
theorem dX5_turned_6 : decode cX5_turned 6 = .ok (.getfield 16, 3) := by decide +kernel
theorem dX5_turned_9 : decode cX5_turned 9 = .ok (.iconst 0, 1) := by decide +kernel
theorem dX5_turned_10 : decode cX5_turned 10 = .ok (.invokestatic 192, 3) := by decide +kernel
theorem dX5_turned_13 : decode cX5_turned 13 = .ok (.lconst 0, 1) := by decide +kernel
theorem dX5_turned_14 : decode cX5_turned 14 = .ok (.lstore_n 3, 1) := by decide +kernel
theorem dX5_turned_15 : decode cX5_turned 15 = .ok (.iconst 0, 1) := by decide +kernel
theorem dX5_turned_16 : decode cX5_turned 16 = .ok (.istore 5, 2) := by decide +kernel
theorem dX5_turned_18 : decode cX5_turned 18 = .ok (.iload 5, 2) := by decide +kernel
theorem dX5_turned_20 : decode cX5_turned 20 = .ok (.iconst 4, 1) := by decide +kernel
theorem dX5_turned_21 : decode cX5_turned 21 = .ok (.if_icmp .ge 64, 3) := by decide +kernel
theorem dX5_turned_24 : decode cX5_turned 24 = .ok (.ldc2_w 227, 3) := by decide +kernel
theorem dX5_turned_27 : decode cX5_turned 27 = .ok (.aload_n 0, 1) := by decide +kernel
theorem dX5_turned_28 : decode cX5_turned 28 = .ok (.getfield 16, 3) := by decide +kernel
theorem dX5_turned_31 : decode cX5_turned 31 = .ok (.iload_n 1, 1) := by decide +kernel
theorem dX5_turned_32 : decode cX5_turned 32 = .ok (.iload_n 2, 1) := by decide +kernel
theorem dX5_turned_33 : decode cX5_turned 33 = .ok (.iload 5, 2) := by decide +kernel
theorem dX5_turned_35 : decode cX5_turned 35 = .ok (.invokestatic 152, 3) := by decide +kernel
theorem dX5_turned_38 : decode cX5_turned 38 = .ok (.i2l, 1) := by decide +kernel
theorem dX5_turned_39 : decode cX5_turned 39 = .ok (.lmul, 1) := by decide +kernel
theorem dX5_turned_40 : decode cX5_turned 40 = .ok (.ldc2_w 199, 3) := by decide +kernel
theorem dX5_turned_43 : decode cX5_turned 43 = .ok (.aload_n 0, 1) := by decide +kernel
theorem dX5_turned_44 : decode cX5_turned 44 = .ok (.getfield 16, 3) := by decide +kernel
theorem dX5_turned_47 : decode cX5_turned 47 = .ok (.iload_n 1, 1) := by decide +kernel
theorem dX5_turned_48 : decode cX5_turned 48 = .ok (.invokestatic 72, 3) := by decide +kernel
theorem dX5_turned_51 : decode cX5_turned 51 = .ok (.i2l, 1) := by decide +kernel
theorem dX5_turned_52 : decode cX5_turned 52 = .ok (.lmul, 1) := by decide +kernel
theorem dX5_turned_53 : decode cX5_turned 53 = .ok (.ladd, 1) := by decide +kernel
theorem dX5_turned_54 : decode cX5_turned 54 = .ok (.iload 5, 2) := by decide +kernel
theorem dX5_turned_56 : decode cX5_turned 56 = .ok (.i2l, 1) := by decide +kernel
theorem dX5_turned_57 : decode cX5_turned 57 = .ok (.ladd, 1) := by decide +kernel
theorem dX5_turned_58 : decode cX5_turned 58 = .ok (.lstore 6, 2) := by decide +kernel
theorem dX5_turned_60 : decode cX5_turned 60 = .ok (.iload 5, 2) := by decide +kernel
theorem dX5_turned_62 : decode cX5_turned 62 = .ok (.ifCond .eq 10, 3) := by decide +kernel
theorem dX5_turned_65 : decode cX5_turned 65 = .ok (.lload 6, 2) := by decide +kernel
theorem dX5_turned_67 : decode cX5_turned 67 = .ok (.lload_n 3, 1) := by decide +kernel
theorem dX5_turned_68 : decode cX5_turned 68 = .ok (.lcmp, 1) := by decide +kernel
theorem dX5_turned_69 : decode cX5_turned 69 = .ok (.ifCond .ge 8, 3) := by decide +kernel
theorem dX5_turned_72 : decode cX5_turned 72 = .ok (.lload 6, 2) := by decide +kernel
theorem dX5_turned_74 : decode cX5_turned 74 = .ok (.goto 4, 3) := by decide +kernel
theorem dX5_turned_77 : decode cX5_turned 77 = .ok (.lload_n 3, 1) := by decide +kernel
theorem dX5_turned_78 : decode cX5_turned 78 = .ok (.lstore_n 3, 1) := by decide +kernel
theorem dX5_turned_79 : decode cX5_turned 79 = .ok (.iinc 5 1, 3) := by decide +kernel
theorem dX5_turned_82 : decode cX5_turned 82 = .ok (.goto (-64), 3) := by decide +kernel
theorem dX5_turned_85 : decode cX5_turned 85 = .ok (.lload_n 3, 1) := by decide +kernel
theorem dX5_turned_86 : decode cX5_turned 86 = .ok (.lreturn, 1) := by decide +kernel
theorem dX5_bestTurn_0 : decode cX5_bestTurn 0 = .ok (.aload_n 0, 1) := by decide +kernel
theorem dX5_bestTurn_1 : decode cX5_bestTurn 1 = .ok (.aload_n 0, 1) := by decide +kernel
theorem dX5_bestTurn_2 : decode cX5_bestTurn 2 = .ok (.getfield 13, 3) := by decide +kernel
theorem dX5_bestTurn_5 : decode cX5_bestTurn 5 = .ok (.iload_n 1, 1) := by decide +kernel
theorem dX5_bestTurn_6 : decode cX5_bestTurn 6 = .ok (.invokestatic 96, 3) := by decide +kernel
theorem dX5_bestTurn_9 : decode cX5_bestTurn 9 = .ok (.ifCond .eq 14, 3) := by decide +kernel
theorem dX5_bestTurn_12 : decode cX5_bestTurn 12 = .ok (.aload_n 0, 1) := by decide +kernel
theorem dX5_bestTurn_13 : decode cX5_bestTurn 13 = .ok (.getfield 13, 3) := by decide +kernel
theorem dX5_bestTurn_16 : decode cX5_bestTurn 16 = .ok (.iload_n 2, 1) := by decide +kernel
theorem dX5_bestTurn_17 : decode cX5_bestTurn 17 = .ok (.invokestatic 149, 3) := by decide +kernel
theorem dX5_bestTurn_20 : decode cX5_bestTurn 20 = .ok (.ifCond .ne 7, 3) := by decide +kernel
theorem dX5_bestTurn_23 : decode cX5_bestTurn 23 = .ok (.iconst 1, 1) := by decide +kernel
theorem dX5_bestTurn_24 : decode cX5_bestTurn 24 = .ok (.goto 18, 3) := by decide +kernel
theorem dX5_bestTurn_27 : decode cX5_bestTurn 27 = .ok (.iload_n 3, 1) := by decide +kernel
theorem dX5_bestTurn_28 : decode cX5_bestTurn 28 = .ok (.i2l, 1) := by decide +kernel
theorem dX5_bestTurn_29 : decode cX5_bestTurn 29 = .ok (.lconst 0, 1) := by decide +kernel
theorem dX5_bestTurn_30 : decode cX5_bestTurn 30 = .ok (.lconst 1, 1) := by decide +kernel
theorem dX5_bestTurn_31 : decode cX5_bestTurn 31 = .ok (.invokestatic 37, 3) := by decide +kernel
theorem dX5_bestTurn_34 : decode cX5_bestTurn 34 = .ok (.ifCond .eq 7, 3) := by decide +kernel
theorem dX5_bestTurn_37 : decode cX5_bestTurn 37 = .ok (.iconst 0, 1) := by decide +kernel
theorem dX5_bestTurn_38 : decode cX5_bestTurn 38 = .ok (.goto 4, 3) := by decide +kernel
theorem dX5_bestTurn_41 : decode cX5_bestTurn 41 = .ok (.iconst 2, 1) := by decide +kernel
theorem dX5_bestTurn_42 : decode cX5_bestTurn 42 = .ok (.invokevirtual 105, 3) := by decide +kernel
theorem dX5_bestTurn_45 : decode cX5_bestTurn 45 = .ok (.ifCond .eq 5, 3) := by decide +kernel
theorem dX5_bestTurn_48 : decode cX5_bestTurn 48 = .ok (.iconst 0, 1) := by decide +kernel
theorem dX5_bestTurn_49 : decode cX5_bestTurn 49 = .ok (.ireturn, 1) := by decide +kernel
theorem dX5_bestTurn_50 : decode cX5_bestTurn 50 = .ok (.aload_n 0, 1) := by decide +kernel
theorem dX5_bestTurn_51 : decode cX5_bestTurn 51 = .ok (.iload_n 1, 1) := by decide +kernel
theorem dX5_bestTurn_52 : decode cX5_bestTurn 52 = .ok (.iload_n 2, 1) := by decide +kernel
theorem dX5_bestTurn_53 : decode cX5_bestTurn 53 = .ok (.invokevirtual 229, 3) := by decide +kernel
theorem dX5_bestTurn_56 : decode cX5_bestTurn 56 = .ok (.lstore 4, 2) := by decide +kernel
theorem dX5_bestTurn_58 : decode cX5_bestTurn 58 = .ok (.iload_n 3, 1) := by decide +kernel
theorem dX5_bestTurn_59 : decode cX5_bestTurn 59 = .ok (.ifCond .ne 13, 3) := by decide +kernel
theorem dX5_bestTurn_62 : decode cX5_bestTurn 62 = .ok (.lload 4, 2) := by decide +kernel
theorem dX5_bestTurn_64 : decode cX5_bestTurn 64 = .ok (.ldc2_w 199, 3) := by decide +kernel
theorem dX5_bestTurn_67 : decode cX5_bestTurn 67 = .ok (.lrem, 1) := by decide +kernel
theorem dX5_bestTurn_68 : decode cX5_bestTurn 68 = .ok (.l2i, 1) := by decide +kernel
theorem dX5_bestTurn_69 : decode cX5_bestTurn 69 = .ok (.goto 10, 3) := by decide +kernel
theorem dX5_bestTurn_72 : decode cX5_bestTurn 72 = .ok (.lload 4, 2) := by decide +kernel
theorem dX5_bestTurn_74 : decode cX5_bestTurn 74 = .ok (.ldc2_w 227, 3) := by decide +kernel
theorem dX5_bestTurn_77 : decode cX5_bestTurn 77 = .ok (.ldiv, 1) := by decide +kernel
theorem dX5_bestTurn_78 : decode cX5_bestTurn 78 = .ok (.l2i, 1) := by decide +kernel
theorem dX5_bestTurn_79 : decode cX5_bestTurn 79 = .ok (.ireturn, 1) := by decide +kernel
theorem dX5_bestSaw_0 : decode cX5_bestSaw 0 = .ok (.aload_n 0, 1) := by decide +kernel
theorem dX5_bestSaw_1 : decode cX5_bestSaw 1 = .ok (.aload_n 0, 1) := by decide +kernel
theorem dX5_bestSaw_2 : decode cX5_bestSaw 2 = .ok (.getfield 13, 3) := by decide +kernel
theorem dX5_bestSaw_5 : decode cX5_bestSaw 5 = .ok (.iload_n 1, 1) := by decide +kernel
theorem dX5_bestSaw_6 : decode cX5_bestSaw 6 = .ok (.invokestatic 96, 3) := by decide +kernel
theorem dX5_bestSaw_9 : decode cX5_bestSaw 9 = .ok (.ifCond .eq 7, 3) := by decide +kernel
theorem dX5_bestSaw_12 : decode cX5_bestSaw 12 = .ok (.iconst 0, 1) := by decide +kernel
theorem dX5_bestSaw_13 : decode cX5_bestSaw 13 = .ok (.goto 4, 3) := by decide +kernel
